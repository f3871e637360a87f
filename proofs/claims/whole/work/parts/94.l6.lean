/-! laid by wip/whole/l6.py: the reference: cut -/
def CF (v v' : Nat → Nat → Int32) : Prop := (∀ c, c ≠ 391 → c ≠ 392 → c ≠ 393 → c ≠ 388 → v' c = v c) ∧ ∀ k, k ≠ 10 → v' 388 k = v 388 k
def M1 (v : Nat → Nat → Int32) (w : Nat → Nat → Int64) (b : Nat → Int32) (len j : Nat) : Prop := v 391 j = nI (kkN b len j) ∧ v 392 j = nI (tsN b len j) ∧ (kkN b len j = 2 → v 393 j = nI (tkV b len (tsN b len j))) ∧ (kkN b len j = 1 → w 394 j = lN (tkN b len (tsN b len j)))
def CI (b : Nat → Int32) (len : Nat) (v0 : Nat → Nat → Int32) (w0 : Nat → Nat → Int64) (v : Nat → Nat → Int32) (w : Nat → Nat → Int64) (n : Nat) : Prop := CF v0 v ∧ (∀ c, c ≠ 394 → w c = w0 c) ∧ v 388 10 = nI n ∧ n ≤ 401 ∧ (∀ j, j < n → M1 v w b len j)
theorem CI_s {b : Nat → Int32} {len n : Nat} {v0 v : Nat → Nat → Int32} {w0 w : Nat → Nat → Int64} {k p x : Int32} {y : Int64} (h : CI b len v0 w0 v w n) (hn : n ≤ 400) (h1 : k = nI (kkN b len n)) (h2 : p = nI (tsN b len n)) (h3 : kkN b len n = 2 → x = nI (tkV b len (tsN b len n))) (h4 : kkN b len n = 1 → y = lN (tkN b len (tsN b len n))) : CI b len v0 w0 (am_u (am_u (am_u (am_u v 391 n k) 392 n p) 393 n x) 388 10 (nI (n + 1))) (am_uL w 394 n y) (n + 1) := by
  obtain ⟨⟨a1, a2⟩, a3, a4, a5, a6⟩ := h
  refine ⟨⟨?_, ?_⟩, ?_, ?_, by omega, ?_⟩
  · intro c c1 c2 c3 c4
    rw [am_u_ne c4, am_u_ne c3, am_u_ne c2, am_u_ne c1]
    exact a1 c c1 c2 c3 c4
  · intro k' hk
    rw [am_u_at, upd_ne hk, am_u_ne (by omega), am_u_ne (by omega), am_u_ne (by omega)]
    exact a2 k' hk
  · intro c hc
    rw [uL_ne hc]
    exact a3 c hc
  · rw [am_u_at, upd_at]
  · intro j hj
    unfold M1
    rw [am_u_ne (b := 391) (by omega), am_u_ne (b := 391) (by omega), am_u_ne (b := 391) (by omega), am_u_ne (b := 392) (by omega), am_u_ne (b := 392) (by omega), am_u_ne (b := 393) (by omega), am_u_at, am_u_at, am_u_at, uL_at, am_u_ne (by omega), am_u_ne (by omega), am_u_ne (by omega)]
    by_cases hji : j = n
    · subst hji
      rw [upd_at, upd_at, upd_at, pk_uLs]
      exact ⟨h1, h2, h3, h4⟩
    · rw [upd_ne hji, upd_ne hji, upd_ne hji, pk_uLn hji]
      exact a6 j (by omega)
theorem bk_s {b : Nat → Int32} {len i : Nat} (h : i < len) (hb : blB (b i) = true) : bk b len (i + 1) = bk b len i := by
  unfold bk
  rw [rl_t h hb]
  omega
theorem bk_0 {b : Nat → Int32} {len i : Nat} (hb : blB (b i) = false) : bk b len i = i := by
  unfold bk
  rw [rl_f hb]
  rfl
theorem ky_lt : ∀ k, k < 17 → keyN k < 27 ^ 7 := by decide +kernel
theorem vl_ge {e : Nat → Nat} : ∀ n, (∀ i, i < n + 1 → 1 ≤ e i) → 27 ^ n ≤ vl e (n + 1) := by
  intro n
  induction n with
  | zero =>
    intro h
    have := h 0 (by omega)
    show 1 ≤ vl e 0 * 27 + e 0
    omega
  | succ n ih =>
    intro h
    have h1 := ih (fun i hi => h i (by omega))
    show 27 ^ (n + 1) ≤ vl e (n + 1) * 27 + e (n + 1)
    rw [Nat.pow_succ]
    omega
theorem wk_8 {b : Nat → Int32} {len i : Nat} (h : rl leB b len i = 8) : wkN (vlN b i (rl leB b len i)) = 1 := by
  have hd : ∀ j, j < 8 → 1 ≤ eN (b (i + j)) := by
    intro j hj
    obtain ⟨d, d1, d2, e⟩ := le_of (rl_in (P := leB) (b := b) (len := len) (i := i) (j := j) (by omega))
    rw [e, eN_n d2]
    exact d1
  rw [h]
  refine kl_n (fun k hk z => ?_) 17 (Nat.le_refl _)
  have h1 := ky_lt k hk
  have h2 : 27 ^ 7 ≤ vl (fun j => eN (b (i + j))) 8 := vl_ge (e := fun j => eN (b (i + j))) 7 (fun j hj => hd j (by omega))
  unfold vlN at z
  omega
theorem vN_lt {b : Nat → Int32} {len i n : Nat} (hn : n ≤ 8) (h : n ≤ rl leB b len i) : vlN b i n < 2 ^ 63 := by
  have h1 := vl_lt (e := fun j => eN (b (i + j))) n (fun j hj => by
    obtain ⟨d, d1, d2, e⟩ := le_of (rl_in (P := leB) (b := b) (len := len) (i := i) (j := j) (by omega))
    show eN (b (i + j)) ≤ 26
    rw [e, eN_n d2]
    exact d2)
  have h2 : 27 ^ n ≤ 27 ^ 8 := Nat.pow_le_pow_right (by omega) hn
  have h3 : (27 : Nat) ^ 8 < 2 ^ 63 := by decide
  unfold vlN
  omega
theorem lg_z (x y : Int64) : (lg_cmp x y = 0) ↔ x = y := lg_cmp_eq x y
set_option maxHeartbeats 4000000 in
theorem m_cutL {d : Nat} {Q : Option Value → am_H → Prop} {b : Nat → Int32} {len : Nat} {v0 : Nat → Nat → Int32} {w0 : Nat → Nat → Int64} (hy : BY b len) (hl : len ≤ 2000) (hx0 : TXm v0 b len) (hkey : ∀ k, k < 17 → w0 395 k = lN (keyN k)) (hQ : ∀ v' w', CF v0 v' → (∀ c, c ≠ 394 → w' c = w0 c) → (∀ L, LX b len L → ∀ j, j ≤ L → M1 v' w' b len j) → Q none (428, 26053, KD, RF, v', w')) : ∀ (m i n : Nat) (v : Nat → Nat → Int32) (w : Nat → Nat → Int64) (x2 x3 x4 x5 x6 x7 : Value), len - i < m → i ≤ len → bk b len i = tsN b len n → CI b len v0 w0 v w n → am_Go am_X0 (d + 2) k_Model_cut 7 ([.ref 388, .int (nI i), x2, x3, x4, x5, x6, x7], [], (428, 26053, KD, RF, v, w)) Q := by
  intro m
  induction m with
  | zero => intro i n v w x2 x3 x4 x5 x6 x7 hm; omega
  | succ m ih =>
    intro i n v w x2 x3 x4 x5 x6 x7 hm hi hbk hC
    have ht10 := hC.2.2.1
    have hn4' := hC.2.2.2.1
    have h84 : v 388 4 = nI len := by rw [hC.1.2 4 (by omega)]; exact hx0.1
    have hx : TXm v b len := ⟨h84, fun j hj => by rw [hC.1.1 390 (by omega) (by omega) (by omega) (by omega)]; exact hx0.2 j hj⟩
    by_cases h401 : n = 401
    · have hn4 : 400 < n := by omega
      refine go_at (blk := b_Model_cut_7) rfl ?_
      simp (disch := omega) only [b_Model_cut_7, be_6, be_33, be_1, be_49_4, kc_388, List.getD_cons_zero, List.getD_cons_succ, List.set_cons_zero, List.set_cons_succ, List.length_cons, List.length_nil, pk_I, pk_A, pr_A, pi_I, st_s, st_n, if_true, if_false, eq_self, d_if, d_ju, d_re, d_ca, cat0, cat1, cat2, cat3, fr_z, fr_s, cc_I, cc_A, cc_N, Nat.reduceAdd, Nat.reduceLT, Nat.reduceLeDiff, Nat.reduceEqDiff, not_true, not_false_iff, z1_0, z1_1, Bool.and_self, Bool.true_and, Bool.and_true, nI_add, pk_mul, nI_clamp, decide_true, Nat.le_refl, bI_eq, bI_z1, nI_ltI, nI_leI, pk_L, cc_L, ht10, hn4]
      refine go_at (blk := b_Model_cut_294) rfl ?_
      simp (disch := omega) only [b_Model_cut_294, be_56, List.getD_cons_zero, List.getD_cons_succ, List.set_cons_zero, List.set_cons_succ, List.length_cons, List.length_nil, pk_I, pk_A, pr_A, pi_I, st_s, st_n, if_true, if_false, eq_self, d_if, d_ju, d_re, d_ca, cat0, cat1, cat2, cat3, fr_z, fr_s, cc_I, cc_A, cc_N, Nat.reduceAdd, Nat.reduceLT, Nat.reduceLeDiff, Nat.reduceEqDiff, not_true, not_false_iff, z1_0, z1_1, Bool.and_self, Bool.true_and, Bool.and_true, nI_add, pk_mul, nI_clamp, decide_true, Nat.le_refl, bI_eq, bI_z1, nI_ltI, nI_leI, pk_L, cc_L, ht10, hn4]
      exact hQ _ _ hC.1 hC.2.1 (fun L hL j hj => hC.2.2.2.2 j (by have := hL.1; omega))
    · have hn4 : ¬ 400 < n := by omega
      refine go_at (blk := b_Model_cut_7) rfl ?_
      simp (disch := omega) only [b_Model_cut_7, be_6, be_33, be_1, be_49_4, kc_388, List.getD_cons_zero, List.getD_cons_succ, List.set_cons_zero, List.set_cons_succ, List.length_cons, List.length_nil, pk_I, pk_A, pr_A, pi_I, st_s, st_n, if_true, if_false, eq_self, d_if, d_ju, d_re, d_ca, cat0, cat1, cat2, cat3, fr_z, fr_s, cc_I, cc_A, cc_N, Nat.reduceAdd, Nat.reduceLT, Nat.reduceLeDiff, Nat.reduceEqDiff, not_true, not_false_iff, z1_0, z1_1, Bool.and_self, Bool.true_and, Bool.and_true, nI_add, pk_mul, nI_clamp, decide_true, Nat.le_refl, bI_eq, bI_z1, nI_ltI, nI_leI, pk_L, cc_L, ht10, hn4, h84]
      refine go_at (blk := b_Model_cut_17) rfl ?_
      simp (disch := omega) only [b_Model_cut_17, be_6, be_4, be_57_1, kc_388, List.getD_cons_zero, List.getD_cons_succ, List.set_cons_zero, List.set_cons_succ, List.length_cons, List.length_nil, pk_I, pk_A, pr_A, pi_I, st_s, st_n, if_true, if_false, eq_self, d_if, d_ju, d_re, d_ca, cat0, cat1, cat2, cat3, fr_z, fr_s, cc_I, cc_A, cc_N, Nat.reduceAdd, Nat.reduceLT, Nat.reduceLeDiff, Nat.reduceEqDiff, not_true, not_false_iff, z1_0, z1_1, Bool.and_self, Bool.true_and, Bool.and_true, nI_add, pk_mul, nI_clamp, decide_true, Nat.le_refl, bI_eq, bI_z1, nI_ltI, nI_leI, pk_L, cc_L, ht10, hn4, h84]
      refine m_byteAt hx hl (by omega) ?_
      refine go_at (blk := b_Model_cut_22) rfl ?_
      simp (disch := omega) only [b_Model_cut_22, be_7, be_4, be_6, be_33, be_49_2, kc_388, List.getD_cons_zero, List.getD_cons_succ, List.set_cons_zero, List.set_cons_succ, List.length_cons, List.length_nil, pk_I, pk_A, pr_A, pi_I, st_s, st_n, if_true, if_false, eq_self, d_if, d_ju, d_re, d_ca, cat0, cat1, cat2, cat3, fr_z, fr_s, cc_I, cc_A, cc_N, Nat.reduceAdd, Nat.reduceLT, Nat.reduceLeDiff, Nat.reduceEqDiff, not_true, not_false_iff, z1_0, z1_1, Bool.and_self, Bool.true_and, Bool.and_true, nI_add, pk_mul, nI_clamp, decide_true, Nat.le_refl, bI_eq, bI_z1, nI_ltI, nI_leI, pk_L, cc_L, ht10, hn4, h84]
      split
      · rename_i hi2
        have hu := uB_in hy hi2
        refine go_at (blk := b_Model_cut_43) rfl ?_
        simp (disch := omega) only [b_Model_cut_43, be_4, be_1, be_49_0, List.getD_cons_zero, List.getD_cons_succ, List.set_cons_zero, List.set_cons_succ, List.length_cons, List.length_nil, pk_I, pk_A, pr_A, pi_I, st_s, st_n, if_true, if_false, eq_self, d_if, d_ju, d_re, d_ca, cat0, cat1, cat2, cat3, fr_z, fr_s, cc_I, cc_A, cc_N, Nat.reduceAdd, Nat.reduceLT, Nat.reduceLeDiff, Nat.reduceEqDiff, not_true, not_false_iff, z1_0, z1_1, Bool.and_self, Bool.true_and, Bool.and_true, nI_add, pk_mul, nI_clamp, decide_true, Nat.le_refl, bI_eq, bI_z1, nI_ltI, nI_leI, pk_L, cc_L, ht10, hn4, h84]
        split
        · rename_i g0
          have hb1 : blB (b i) = true := by rw [← hu.2.2.1]; unfold blB; rw [decide_eq_true g0]; simp
          refine go_at (blk := b_Model_cut_67) rfl ?_
          simp (disch := omega) only [b_Model_cut_67, be_10, be_51, List.getD_cons_zero, List.getD_cons_succ, List.set_cons_zero, List.set_cons_succ, List.length_cons, List.length_nil, pk_I, pk_A, pr_A, pi_I, st_s, st_n, if_true, if_false, eq_self, d_if, d_ju, d_re, d_ca, cat0, cat1, cat2, cat3, fr_z, fr_s, cc_I, cc_A, cc_N, Nat.reduceAdd, Nat.reduceLT, Nat.reduceLeDiff, Nat.reduceEqDiff, not_true, not_false_iff, z1_0, z1_1, Bool.and_self, Bool.true_and, Bool.and_true, nI_add, pk_mul, nI_clamp, decide_true, Nat.le_refl, bI_eq, bI_z1, nI_ltI, nI_leI, pk_L, cc_L, ht10, hn4, h84]
          refine go_at (blk := b_Model_cut_291) rfl ?_
          simp (disch := omega) only [b_Model_cut_291, be_51, List.getD_cons_zero, List.getD_cons_succ, List.set_cons_zero, List.set_cons_succ, List.length_cons, List.length_nil, pk_I, pk_A, pr_A, pi_I, st_s, st_n, if_true, if_false, eq_self, d_if, d_ju, d_re, d_ca, cat0, cat1, cat2, cat3, fr_z, fr_s, cc_I, cc_A, cc_N, Nat.reduceAdd, Nat.reduceLT, Nat.reduceLeDiff, Nat.reduceEqDiff, not_true, not_false_iff, z1_0, z1_1, Bool.and_self, Bool.true_and, Bool.and_true, nI_add, pk_mul, nI_clamp, decide_true, Nat.le_refl, bI_eq, bI_z1, nI_ltI, nI_leI, pk_L, cc_L, ht10, hn4, h84]
          exact ih _ _ _ _ _ _ _ _ _ _ (by omega) (by omega) (by rw [bk_s hi2 hb1]; exact hbk) (hC)
        · rename_i g0
          refine go_at (blk := b_Model_cut_49) rfl ?_
          simp (disch := omega) only [b_Model_cut_49, be_4, be_1, be_49_0, List.getD_cons_zero, List.getD_cons_succ, List.set_cons_zero, List.set_cons_succ, List.length_cons, List.length_nil, pk_I, pk_A, pr_A, pi_I, st_s, st_n, if_true, if_false, eq_self, d_if, d_ju, d_re, d_ca, cat0, cat1, cat2, cat3, fr_z, fr_s, cc_I, cc_A, cc_N, Nat.reduceAdd, Nat.reduceLT, Nat.reduceLeDiff, Nat.reduceEqDiff, not_true, not_false_iff, z1_0, z1_1, Bool.and_self, Bool.true_and, Bool.and_true, nI_add, pk_mul, nI_clamp, decide_true, Nat.le_refl, bI_eq, bI_z1, nI_ltI, nI_leI, pk_L, cc_L, ht10, hn4, h84]
          split
          · rename_i g1
            have hb1 : blB (b i) = true := by rw [← hu.2.2.1]; unfold blB; rw [decide_eq_true g1]; simp
            refine go_at (blk := b_Model_cut_67) rfl ?_
            simp (disch := omega) only [b_Model_cut_67, be_10, be_51, List.getD_cons_zero, List.getD_cons_succ, List.set_cons_zero, List.set_cons_succ, List.length_cons, List.length_nil, pk_I, pk_A, pr_A, pi_I, st_s, st_n, if_true, if_false, eq_self, d_if, d_ju, d_re, d_ca, cat0, cat1, cat2, cat3, fr_z, fr_s, cc_I, cc_A, cc_N, Nat.reduceAdd, Nat.reduceLT, Nat.reduceLeDiff, Nat.reduceEqDiff, not_true, not_false_iff, z1_0, z1_1, Bool.and_self, Bool.true_and, Bool.and_true, nI_add, pk_mul, nI_clamp, decide_true, Nat.le_refl, bI_eq, bI_z1, nI_ltI, nI_leI, pk_L, cc_L, ht10, hn4, h84]
            refine go_at (blk := b_Model_cut_291) rfl ?_
            simp (disch := omega) only [b_Model_cut_291, be_51, List.getD_cons_zero, List.getD_cons_succ, List.set_cons_zero, List.set_cons_succ, List.length_cons, List.length_nil, pk_I, pk_A, pr_A, pi_I, st_s, st_n, if_true, if_false, eq_self, d_if, d_ju, d_re, d_ca, cat0, cat1, cat2, cat3, fr_z, fr_s, cc_I, cc_A, cc_N, Nat.reduceAdd, Nat.reduceLT, Nat.reduceLeDiff, Nat.reduceEqDiff, not_true, not_false_iff, z1_0, z1_1, Bool.and_self, Bool.true_and, Bool.and_true, nI_add, pk_mul, nI_clamp, decide_true, Nat.le_refl, bI_eq, bI_z1, nI_ltI, nI_leI, pk_L, cc_L, ht10, hn4, h84]
            exact ih _ _ _ _ _ _ _ _ _ _ (by omega) (by omega) (by rw [bk_s hi2 hb1]; exact hbk) (hC)
          · rename_i g1
            refine go_at (blk := b_Model_cut_55) rfl ?_
            simp (disch := omega) only [b_Model_cut_55, be_4, be_1, be_49_0, List.getD_cons_zero, List.getD_cons_succ, List.set_cons_zero, List.set_cons_succ, List.length_cons, List.length_nil, pk_I, pk_A, pr_A, pi_I, st_s, st_n, if_true, if_false, eq_self, d_if, d_ju, d_re, d_ca, cat0, cat1, cat2, cat3, fr_z, fr_s, cc_I, cc_A, cc_N, Nat.reduceAdd, Nat.reduceLT, Nat.reduceLeDiff, Nat.reduceEqDiff, not_true, not_false_iff, z1_0, z1_1, Bool.and_self, Bool.true_and, Bool.and_true, nI_add, pk_mul, nI_clamp, decide_true, Nat.le_refl, bI_eq, bI_z1, nI_ltI, nI_leI, pk_L, cc_L, ht10, hn4, h84]
            split
            · rename_i g2
              have hb1 : blB (b i) = true := by rw [← hu.2.2.1]; unfold blB; rw [decide_eq_true g2]; simp
              refine go_at (blk := b_Model_cut_67) rfl ?_
              simp (disch := omega) only [b_Model_cut_67, be_10, be_51, List.getD_cons_zero, List.getD_cons_succ, List.set_cons_zero, List.set_cons_succ, List.length_cons, List.length_nil, pk_I, pk_A, pr_A, pi_I, st_s, st_n, if_true, if_false, eq_self, d_if, d_ju, d_re, d_ca, cat0, cat1, cat2, cat3, fr_z, fr_s, cc_I, cc_A, cc_N, Nat.reduceAdd, Nat.reduceLT, Nat.reduceLeDiff, Nat.reduceEqDiff, not_true, not_false_iff, z1_0, z1_1, Bool.and_self, Bool.true_and, Bool.and_true, nI_add, pk_mul, nI_clamp, decide_true, Nat.le_refl, bI_eq, bI_z1, nI_ltI, nI_leI, pk_L, cc_L, ht10, hn4, h84]
              refine go_at (blk := b_Model_cut_291) rfl ?_
              simp (disch := omega) only [b_Model_cut_291, be_51, List.getD_cons_zero, List.getD_cons_succ, List.set_cons_zero, List.set_cons_succ, List.length_cons, List.length_nil, pk_I, pk_A, pr_A, pi_I, st_s, st_n, if_true, if_false, eq_self, d_if, d_ju, d_re, d_ca, cat0, cat1, cat2, cat3, fr_z, fr_s, cc_I, cc_A, cc_N, Nat.reduceAdd, Nat.reduceLT, Nat.reduceLeDiff, Nat.reduceEqDiff, not_true, not_false_iff, z1_0, z1_1, Bool.and_self, Bool.true_and, Bool.and_true, nI_add, pk_mul, nI_clamp, decide_true, Nat.le_refl, bI_eq, bI_z1, nI_ltI, nI_leI, pk_L, cc_L, ht10, hn4, h84]
              exact ih _ _ _ _ _ _ _ _ _ _ (by omega) (by omega) (by rw [bk_s hi2 hb1]; exact hbk) (hC)
            · rename_i g2
              refine go_at (blk := b_Model_cut_61) rfl ?_
              simp (disch := omega) only [b_Model_cut_61, be_4, be_1, be_49_1, List.getD_cons_zero, List.getD_cons_succ, List.set_cons_zero, List.set_cons_succ, List.length_cons, List.length_nil, pk_I, pk_A, pr_A, pi_I, st_s, st_n, if_true, if_false, eq_self, d_if, d_ju, d_re, d_ca, cat0, cat1, cat2, cat3, fr_z, fr_s, cc_I, cc_A, cc_N, Nat.reduceAdd, Nat.reduceLT, Nat.reduceLeDiff, Nat.reduceEqDiff, not_true, not_false_iff, z1_0, z1_1, Bool.and_self, Bool.true_and, Bool.and_true, nI_add, pk_mul, nI_clamp, decide_true, Nat.le_refl, bI_eq, bI_z1, nI_ltI, nI_leI, pk_L, cc_L, ht10, hn4, h84]
              split
              · rename_i g3
                have hb0 : blB (b i) = false := by rw [← hu.2.2.1]; unfold blB; rw [decide_eq_false g0, decide_eq_false g1, decide_eq_false g2, decide_eq_false g3]; rfl
                have hts : tsN b len n = i := by rw [← hbk]; exact bk_0 hb0
                refine go_at (blk := b_Model_cut_73) rfl ?_
                simp (disch := omega) only [b_Model_cut_73, be_4, be_58_1, List.getD_cons_zero, List.getD_cons_succ, List.set_cons_zero, List.set_cons_succ, List.length_cons, List.length_nil, pk_I, pk_A, pr_A, pi_I, st_s, st_n, if_true, if_false, eq_self, d_if, d_ju, d_re, d_ca, cat0, cat1, cat2, cat3, fr_z, fr_s, cc_I, cc_A, cc_N, Nat.reduceAdd, Nat.reduceLT, Nat.reduceLeDiff, Nat.reduceEqDiff, not_true, not_false_iff, z1_0, z1_1, Bool.and_self, Bool.true_and, Bool.and_true, nI_add, pk_mul, nI_clamp, decide_true, Nat.le_refl, bI_eq, bI_z1, nI_ltI, nI_leI, pk_L, cc_L, ht10, hn4, h84]
                refine m_isLetter ?_
                rw [hu.1]
                refine go_at (blk := b_Model_cut_77) rfl ?_
                simp (disch := omega) only [b_Model_cut_77, be_50_0, List.getD_cons_zero, List.getD_cons_succ, List.set_cons_zero, List.set_cons_succ, List.length_cons, List.length_nil, pk_I, pk_A, pr_A, pi_I, st_s, st_n, if_true, if_false, eq_self, d_if, d_ju, d_re, d_ca, cat0, cat1, cat2, cat3, fr_z, fr_s, cc_I, cc_A, cc_N, Nat.reduceAdd, Nat.reduceLT, Nat.reduceLeDiff, Nat.reduceEqDiff, not_true, not_false_iff, z1_0, z1_1, Bool.and_self, Bool.true_and, Bool.and_true, nI_add, pk_mul, nI_clamp, decide_true, Nat.le_refl, bI_eq, bI_z1, nI_ltI, nI_leI, pk_L, cc_L, ht10, hn4, h84]
                split
                · rename_i hL
                  have hL : leB (b i) = false := by simpa using hL
                  refine go_at (blk := b_Model_cut_196) rfl ?_
                  simp (disch := omega) only [b_Model_cut_196, be_4, be_58_1, List.getD_cons_zero, List.getD_cons_succ, List.set_cons_zero, List.set_cons_succ, List.length_cons, List.length_nil, pk_I, pk_A, pr_A, pi_I, st_s, st_n, if_true, if_false, eq_self, d_if, d_ju, d_re, d_ca, cat0, cat1, cat2, cat3, fr_z, fr_s, cc_I, cc_A, cc_N, Nat.reduceAdd, Nat.reduceLT, Nat.reduceLeDiff, Nat.reduceEqDiff, not_true, not_false_iff, z1_0, z1_1, Bool.and_self, Bool.true_and, Bool.and_true, nI_add, pk_mul, nI_clamp, decide_true, Nat.le_refl, bI_eq, bI_z1, nI_ltI, nI_leI, pk_L, cc_L, ht10, hn4, h84]
                  refine m_isDigit ?_
                  rw [hu.2.1]
                  refine go_at (blk := b_Model_cut_200) rfl ?_
                  simp (disch := omega) only [b_Model_cut_200, be_50_0, List.getD_cons_zero, List.getD_cons_succ, List.set_cons_zero, List.set_cons_succ, List.length_cons, List.length_nil, pk_I, pk_A, pr_A, pi_I, st_s, st_n, if_true, if_false, eq_self, d_if, d_ju, d_re, d_ca, cat0, cat1, cat2, cat3, fr_z, fr_s, cc_I, cc_A, cc_N, Nat.reduceAdd, Nat.reduceLT, Nat.reduceLeDiff, Nat.reduceEqDiff, not_true, not_false_iff, z1_0, z1_1, Bool.and_self, Bool.true_and, Bool.and_true, nI_add, pk_mul, nI_clamp, decide_true, Nat.le_refl, bI_eq, bI_z1, nI_ltI, nI_leI, pk_L, cc_L, ht10, hn4, h84]
                  split
                  · rename_i hD
                    have hD : diB (b i) = false := by simpa using hD
                    refine go_at (blk := b_Model_cut_275) rfl ?_
                    simp (disch := omega) only [b_Model_cut_275, be_4, be_6, be_1, be_12, be_57_1, kc_388, List.getD_cons_zero, List.getD_cons_succ, List.set_cons_zero, List.set_cons_succ, List.length_cons, List.length_nil, pk_I, pk_A, pr_A, pi_I, st_s, st_n, if_true, if_false, eq_self, d_if, d_ju, d_re, d_ca, cat0, cat1, cat2, cat3, fr_z, fr_s, cc_I, cc_A, cc_N, Nat.reduceAdd, Nat.reduceLT, Nat.reduceLeDiff, Nat.reduceEqDiff, not_true, not_false_iff, z1_0, z1_1, Bool.and_self, Bool.true_and, Bool.and_true, nI_add, pk_mul, nI_clamp, decide_true, Nat.le_refl, bI_eq, bI_z1, nI_ltI, nI_leI, pk_L, cc_L, ht10, hn4, h84]
                    refine m_byteAt (j := i + 1) hx hl (by omega) ?_
                    refine go_at (blk := b_Model_cut_286) rfl ?_
                    simp (disch := omega) only [b_Model_cut_286, be_57_3, kc_388, List.getD_cons_zero, List.getD_cons_succ, List.set_cons_zero, List.set_cons_succ, List.length_cons, List.length_nil, pk_I, pk_A, pr_A, pi_I, st_s, st_n, if_true, if_false, eq_self, d_if, d_ju, d_re, d_ca, cat0, cat1, cat2, cat3, fr_z, fr_s, cc_I, cc_A, cc_N, Nat.reduceAdd, Nat.reduceLT, Nat.reduceLeDiff, Nat.reduceEqDiff, not_true, not_false_iff, z1_0, z1_1, Bool.and_self, Bool.true_and, Bool.and_true, nI_add, pk_mul, nI_clamp, decide_true, Nat.le_refl, bI_eq, bI_z1, nI_ltI, nI_leI, pk_L, cc_L, ht10, hn4, h84]
                    refine m_sign ht10 (by omega) ?_
                    refine go_at (blk := b_Model_cut_289) rfl ?_
                    simp (disch := omega) only [b_Model_cut_289, be_12, be_7, be_0, List.getD_cons_zero, List.getD_cons_succ, List.set_cons_zero, List.set_cons_succ, List.length_cons, List.length_nil, pk_I, pk_A, pr_A, pi_I, st_s, st_n, if_true, if_false, eq_self, d_if, d_ju, d_re, d_ca, cat0, cat1, cat2, cat3, fr_z, fr_s, cc_I, cc_A, cc_N, Nat.reduceAdd, Nat.reduceLT, Nat.reduceLeDiff, Nat.reduceEqDiff, not_true, not_false_iff, z1_0, z1_1, Bool.and_self, Bool.true_and, Bool.and_true, nI_add, pk_mul, nI_clamp, decide_true, Nat.le_refl, bI_eq, bI_z1, nI_ltI, nI_leI, pk_L, cc_L, ht10, hn4, h84]
                    refine go_at (blk := b_Model_cut_291) rfl ?_
                    simp (disch := omega) only [b_Model_cut_291, be_51, List.getD_cons_zero, List.getD_cons_succ, List.set_cons_zero, List.set_cons_succ, List.length_cons, List.length_nil, pk_I, pk_A, pr_A, pi_I, st_s, st_n, if_true, if_false, eq_self, d_if, d_ju, d_re, d_ca, cat0, cat1, cat2, cat3, fr_z, fr_s, cc_I, cc_A, cc_N, Nat.reduceAdd, Nat.reduceLT, Nat.reduceLeDiff, Nat.reduceEqDiff, not_true, not_false_iff, z1_0, z1_1, Bool.and_self, Bool.true_and, Bool.and_true, nI_add, pk_mul, nI_clamp, decide_true, Nat.le_refl, bI_eq, bI_z1, nI_ltI, nI_leI, pk_L, cc_L, ht10, hn4, h84]
                    have hC2 := CI_s (y := lN 0) (x := nI 0) (p := nI i) (k := nI (sgK (uB b len i))) hC (by omega) (by unfold kkN; rw [hts, (tk_sg hi2 hL hD).1, hu.2.2.2.1]) (by rw [hts]) (fun z => absurd z (by unfold kkN; rw [hts, (tk_sg hi2 hL hD).1]; have := sg_r (x := b i); omega)) (fun z => absurd z (by unfold kkN; rw [hts, (tk_sg hi2 hL hD).1]; have := sg_r (x := b i); omega))
                    rw [show i + 1 = tkX b len i from (tk_sg hi2 hL hD).2.symm]
                    exact ih _ _ _ _ _ _ _ _ _ _ (by have := tx_gt (b := b) hi2; omega) ((tx_gt hi2).2) (by show bk b len (tkX b len i) = bk b len (tkX b len (tsN b len n)); rw [hts]) (hC2)
                  · rename_i hD
                    have hD : diB (b i) = true := by simpa using hD
                    refine go_at (blk := b_Model_cut_203) rfl ?_
                    simp (disch := omega) only [b_Model_cut_203, be_1, be_7, be_0, List.getD_cons_zero, List.getD_cons_succ, List.set_cons_zero, List.set_cons_succ, List.length_cons, List.length_nil, pk_I, pk_A, pr_A, pi_I, st_s, st_n, if_true, if_false, eq_self, d_if, d_ju, d_re, d_ca, cat0, cat1, cat2, cat3, fr_z, fr_s, cc_I, cc_A, cc_N, Nat.reduceAdd, Nat.reduceLT, Nat.reduceLeDiff, Nat.reduceEqDiff, not_true, not_false_iff, z1_0, z1_1, Bool.and_self, Bool.true_and, Bool.and_true, nI_add, pk_mul, nI_clamp, decide_true, Nat.le_refl, bI_eq, bI_z1, nI_ltI, nI_leI, pk_L, cc_L, ht10, hn4, h84]
                    refine go_loopA (α := Unit) (fun q u => ([.ref 388, .int (nI i), .int (uB b len i), .int (nI q), .int (nI (dgV b i (min q 4))), x5, x6, x7], [], (428, 26053, KD, RF, v, w))) (fun q u => True) (rl diB b len i) ?_ ?_ () trivial
                    · intro q _ hq _ qh
                      try dsimp only at *
                      have hle := rl_le (P := diB) (b := b) hi
                      obtain ⟨d', d2, e1⟩ := di_of (rl_in hq)
                      have e0 : uB b len (i + q) = b (i + q) := (uB_in hy (by omega)).2.2.2.2 (Or.inr (rl_in hq))
                      by_cases hq9 : q < 4
                      · have hq8 : ¬ 4 ≤ q := by omega
                        have e3 : dgV b i (min (q + 1) 4) = 10 * dgV b i (min q 4) + (48 + d') - 48 := by rw [show min (q + 1) 4 = q + 1 by omega, show min q 4 = q by omega]; show dgV b i q * 10 + dN (b (i + q)) = _; rw [e1, dN_n d2]; omega
                        refine go_at (blk := b_Model_cut_208) rfl ?_
                        simp (disch := omega) only [b_Model_cut_208, be_6, be_4, be_12, be_57_1, kc_388, List.getD_cons_zero, List.getD_cons_succ, List.set_cons_zero, List.set_cons_succ, List.length_cons, List.length_nil, pk_I, pk_A, pr_A, pi_I, st_s, st_n, if_true, if_false, eq_self, d_if, d_ju, d_re, d_ca, cat0, cat1, cat2, cat3, fr_z, fr_s, cc_I, cc_A, cc_N, Nat.reduceAdd, Nat.reduceLT, Nat.reduceLeDiff, Nat.reduceEqDiff, not_true, not_false_iff, z1_0, z1_1, Bool.and_self, Bool.true_and, Bool.and_true, nI_add, pk_mul, nI_clamp, decide_true, Nat.le_refl, bI_eq, bI_z1, nI_ltI, nI_leI, pk_L, cc_L, hq8, e1, pk_sub]
                        refine m_byteAt (j := i + q) hx hl (by omega) ?_
                        refine go_at (blk := b_Model_cut_215) rfl ?_
                        simp (disch := omega) only [b_Model_cut_215, be_58_1, List.getD_cons_zero, List.getD_cons_succ, List.set_cons_zero, List.set_cons_succ, List.length_cons, List.length_nil, pk_I, pk_A, pr_A, pi_I, st_s, st_n, if_true, if_false, eq_self, d_if, d_ju, d_re, d_ca, cat0, cat1, cat2, cat3, fr_z, fr_s, cc_I, cc_A, cc_N, Nat.reduceAdd, Nat.reduceLT, Nat.reduceLeDiff, Nat.reduceEqDiff, not_true, not_false_iff, z1_0, z1_1, Bool.and_self, Bool.true_and, Bool.and_true, nI_add, pk_mul, nI_clamp, decide_true, Nat.le_refl, bI_eq, bI_z1, nI_ltI, nI_leI, pk_L, cc_L, hq8, e1, pk_sub]
                        refine m_isDigit ?_
                        rw [(uB_di hy hi).1 hq]
                        refine go_at (blk := b_Model_cut_218) rfl ?_
                        simp (disch := omega) only [b_Model_cut_218, be_50_0, List.getD_cons_zero, List.getD_cons_succ, List.set_cons_zero, List.set_cons_succ, List.length_cons, List.length_nil, pk_I, pk_A, pr_A, pi_I, st_s, st_n, if_true, if_false, eq_self, d_if, d_ju, d_re, d_ca, cat0, cat1, cat2, cat3, fr_z, fr_s, cc_I, cc_A, cc_N, Nat.reduceAdd, Nat.reduceLT, Nat.reduceLeDiff, Nat.reduceEqDiff, not_true, not_false_iff, z1_0, z1_1, Bool.and_self, Bool.true_and, Bool.and_true, nI_add, pk_mul, nI_clamp, decide_true, Nat.le_refl, bI_eq, bI_z1, nI_ltI, nI_leI, pk_L, cc_L, hq8, e1, pk_sub]
                        refine go_at (blk := b_Model_cut_221) rfl ?_
                        simp (disch := omega) only [b_Model_cut_221, be_4, be_1, be_49_3, List.getD_cons_zero, List.getD_cons_succ, List.set_cons_zero, List.set_cons_succ, List.length_cons, List.length_nil, pk_I, pk_A, pr_A, pi_I, st_s, st_n, if_true, if_false, eq_self, d_if, d_ju, d_re, d_ca, cat0, cat1, cat2, cat3, fr_z, fr_s, cc_I, cc_A, cc_N, Nat.reduceAdd, Nat.reduceLT, Nat.reduceLeDiff, Nat.reduceEqDiff, not_true, not_false_iff, z1_0, z1_1, Bool.and_self, Bool.true_and, Bool.and_true, nI_add, pk_mul, nI_clamp, decide_true, Nat.le_refl, bI_eq, bI_z1, nI_ltI, nI_leI, pk_L, cc_L, hq8, e1, pk_sub]
                        refine go_at (blk := b_Model_cut_226) rfl ?_
                        simp (disch := omega) only [b_Model_cut_226, be_1, be_4, be_14, be_6, be_12, be_57_1, kc_388, List.getD_cons_zero, List.getD_cons_succ, List.set_cons_zero, List.set_cons_succ, List.length_cons, List.length_nil, pk_I, pk_A, pr_A, pi_I, st_s, st_n, if_true, if_false, eq_self, d_if, d_ju, d_re, d_ca, cat0, cat1, cat2, cat3, fr_z, fr_s, cc_I, cc_A, cc_N, Nat.reduceAdd, Nat.reduceLT, Nat.reduceLeDiff, Nat.reduceEqDiff, not_true, not_false_iff, z1_0, z1_1, Bool.and_self, Bool.true_and, Bool.and_true, nI_add, pk_mul, nI_clamp, decide_true, Nat.le_refl, bI_eq, bI_z1, nI_ltI, nI_leI, pk_L, cc_L, hq8, e1, pk_sub]
                        refine m_byteAt (j := i + q) hx hl (by omega) ?_
                        rw [e0, e1]
                        refine go_at (blk := b_Model_cut_238) rfl ?_
                        simp (disch := omega) only [b_Model_cut_238, be_12, be_1, be_13, be_7, be_0, List.getD_cons_zero, List.getD_cons_succ, List.set_cons_zero, List.set_cons_succ, List.length_cons, List.length_nil, pk_I, pk_A, pr_A, pi_I, st_s, st_n, if_true, if_false, eq_self, d_if, d_ju, d_re, d_ca, cat0, cat1, cat2, cat3, fr_z, fr_s, cc_I, cc_A, cc_N, Nat.reduceAdd, Nat.reduceLT, Nat.reduceLeDiff, Nat.reduceEqDiff, not_true, not_false_iff, z1_0, z1_1, Bool.and_self, Bool.true_and, Bool.and_true, nI_add, pk_mul, nI_clamp, decide_true, Nat.le_refl, bI_eq, bI_z1, nI_ltI, nI_leI, pk_L, cc_L, hq8, e1, pk_sub]
                        refine go_at (blk := b_Model_cut_244) rfl ?_
                        simp (disch := omega) only [b_Model_cut_244, be_10, be_51, List.getD_cons_zero, List.getD_cons_succ, List.set_cons_zero, List.set_cons_succ, List.length_cons, List.length_nil, pk_I, pk_A, pr_A, pi_I, st_s, st_n, if_true, if_false, eq_self, d_if, d_ju, d_re, d_ca, cat0, cat1, cat2, cat3, fr_z, fr_s, cc_I, cc_A, cc_N, Nat.reduceAdd, Nat.reduceLT, Nat.reduceLeDiff, Nat.reduceEqDiff, not_true, not_false_iff, z1_0, z1_1, Bool.and_self, Bool.true_and, Bool.and_true, nI_add, pk_mul, nI_clamp, decide_true, Nat.le_refl, bI_eq, bI_z1, nI_ltI, nI_leI, pk_L, cc_L, hq8, e1, pk_sub]
                        rw [e3] at qh
                        exact qh () trivial
                      · have hq8 : 4 ≤ q := by omega
                        have e3 : dgV b i (min (q + 1) 4) = dgV b i (min q 4) := by rw [show min (q + 1) 4 = 4 by omega, show min q 4 = 4 by omega]
                        refine go_at (blk := b_Model_cut_208) rfl ?_
                        simp (disch := omega) only [b_Model_cut_208, be_6, be_4, be_12, be_57_1, kc_388, List.getD_cons_zero, List.getD_cons_succ, List.set_cons_zero, List.set_cons_succ, List.length_cons, List.length_nil, pk_I, pk_A, pr_A, pi_I, st_s, st_n, if_true, if_false, eq_self, d_if, d_ju, d_re, d_ca, cat0, cat1, cat2, cat3, fr_z, fr_s, cc_I, cc_A, cc_N, Nat.reduceAdd, Nat.reduceLT, Nat.reduceLeDiff, Nat.reduceEqDiff, not_true, not_false_iff, z1_0, z1_1, Bool.and_self, Bool.true_and, Bool.and_true, nI_add, pk_mul, nI_clamp, decide_true, Nat.le_refl, bI_eq, bI_z1, nI_ltI, nI_leI, pk_L, cc_L, hq8, e1, pk_sub]
                        refine m_byteAt (j := i + q) hx hl (by omega) ?_
                        refine go_at (blk := b_Model_cut_215) rfl ?_
                        simp (disch := omega) only [b_Model_cut_215, be_58_1, List.getD_cons_zero, List.getD_cons_succ, List.set_cons_zero, List.set_cons_succ, List.length_cons, List.length_nil, pk_I, pk_A, pr_A, pi_I, st_s, st_n, if_true, if_false, eq_self, d_if, d_ju, d_re, d_ca, cat0, cat1, cat2, cat3, fr_z, fr_s, cc_I, cc_A, cc_N, Nat.reduceAdd, Nat.reduceLT, Nat.reduceLeDiff, Nat.reduceEqDiff, not_true, not_false_iff, z1_0, z1_1, Bool.and_self, Bool.true_and, Bool.and_true, nI_add, pk_mul, nI_clamp, decide_true, Nat.le_refl, bI_eq, bI_z1, nI_ltI, nI_leI, pk_L, cc_L, hq8, e1, pk_sub]
                        refine m_isDigit ?_
                        rw [(uB_di hy hi).1 hq]
                        refine go_at (blk := b_Model_cut_218) rfl ?_
                        simp (disch := omega) only [b_Model_cut_218, be_50_0, List.getD_cons_zero, List.getD_cons_succ, List.set_cons_zero, List.set_cons_succ, List.length_cons, List.length_nil, pk_I, pk_A, pr_A, pi_I, st_s, st_n, if_true, if_false, eq_self, d_if, d_ju, d_re, d_ca, cat0, cat1, cat2, cat3, fr_z, fr_s, cc_I, cc_A, cc_N, Nat.reduceAdd, Nat.reduceLT, Nat.reduceLeDiff, Nat.reduceEqDiff, not_true, not_false_iff, z1_0, z1_1, Bool.and_self, Bool.true_and, Bool.and_true, nI_add, pk_mul, nI_clamp, decide_true, Nat.le_refl, bI_eq, bI_z1, nI_ltI, nI_leI, pk_L, cc_L, hq8, e1, pk_sub]
                        refine go_at (blk := b_Model_cut_221) rfl ?_
                        simp (disch := omega) only [b_Model_cut_221, be_4, be_1, be_49_3, List.getD_cons_zero, List.getD_cons_succ, List.set_cons_zero, List.set_cons_succ, List.length_cons, List.length_nil, pk_I, pk_A, pr_A, pi_I, st_s, st_n, if_true, if_false, eq_self, d_if, d_ju, d_re, d_ca, cat0, cat1, cat2, cat3, fr_z, fr_s, cc_I, cc_A, cc_N, Nat.reduceAdd, Nat.reduceLT, Nat.reduceLeDiff, Nat.reduceEqDiff, not_true, not_false_iff, z1_0, z1_1, Bool.and_self, Bool.true_and, Bool.and_true, nI_add, pk_mul, nI_clamp, decide_true, Nat.le_refl, bI_eq, bI_z1, nI_ltI, nI_leI, pk_L, cc_L, hq8, e1, pk_sub]
                        refine go_at (blk := b_Model_cut_244) rfl ?_
                        simp (disch := omega) only [b_Model_cut_244, be_10, be_51, List.getD_cons_zero, List.getD_cons_succ, List.set_cons_zero, List.set_cons_succ, List.length_cons, List.length_nil, pk_I, pk_A, pr_A, pi_I, st_s, st_n, if_true, if_false, eq_self, d_if, d_ju, d_re, d_ca, cat0, cat1, cat2, cat3, fr_z, fr_s, cc_I, cc_A, cc_N, Nat.reduceAdd, Nat.reduceLT, Nat.reduceLeDiff, Nat.reduceEqDiff, not_true, not_false_iff, z1_0, z1_1, Bool.and_self, Bool.true_and, Bool.and_true, nI_add, pk_mul, nI_clamp, decide_true, Nat.le_refl, bI_eq, bI_z1, nI_ltI, nI_leI, pk_L, cc_L, hq8, e1, pk_sub]
                        rw [e3] at qh
                        exact qh () trivial
                    · intro _ _
                      try dsimp only at *
                      have hle := rl_le (P := diB) (b := b) hi
                      by_cases g8' : rl diB b len i ≤ 4
                      · have g8 := g8'
                        refine go_at (blk := b_Model_cut_208) rfl ?_
                        simp (disch := omega) only [b_Model_cut_208, be_6, be_4, be_12, be_57_1, kc_388, List.getD_cons_zero, List.getD_cons_succ, List.set_cons_zero, List.set_cons_succ, List.length_cons, List.length_nil, pk_I, pk_A, pr_A, pi_I, st_s, st_n, if_true, if_false, eq_self, d_if, d_ju, d_re, d_ca, cat0, cat1, cat2, cat3, fr_z, fr_s, cc_I, cc_A, cc_N, Nat.reduceAdd, Nat.reduceLT, Nat.reduceLeDiff, Nat.reduceEqDiff, not_true, not_false_iff, z1_0, z1_1, Bool.and_self, Bool.true_and, Bool.and_true, nI_add, pk_mul, nI_clamp, decide_true, Nat.le_refl, bI_eq, bI_z1, nI_ltI, nI_leI, pk_L, cc_L, g8]
                        refine m_byteAt (j := i + rl diB b len i) hx hl (by omega) ?_
                        refine go_at (blk := b_Model_cut_215) rfl ?_
                        simp (disch := omega) only [b_Model_cut_215, be_58_1, List.getD_cons_zero, List.getD_cons_succ, List.set_cons_zero, List.set_cons_succ, List.length_cons, List.length_nil, pk_I, pk_A, pr_A, pi_I, st_s, st_n, if_true, if_false, eq_self, d_if, d_ju, d_re, d_ca, cat0, cat1, cat2, cat3, fr_z, fr_s, cc_I, cc_A, cc_N, Nat.reduceAdd, Nat.reduceLT, Nat.reduceLeDiff, Nat.reduceEqDiff, not_true, not_false_iff, z1_0, z1_1, Bool.and_self, Bool.true_and, Bool.and_true, nI_add, pk_mul, nI_clamp, decide_true, Nat.le_refl, bI_eq, bI_z1, nI_ltI, nI_leI, pk_L, cc_L, g8]
                        refine m_isDigit ?_
                        rw [(uB_di hy hi).2 rfl]
                        refine go_at (blk := b_Model_cut_218) rfl ?_
                        simp (disch := omega) only [b_Model_cut_218, be_50_0, List.getD_cons_zero, List.getD_cons_succ, List.set_cons_zero, List.set_cons_succ, List.length_cons, List.length_nil, pk_I, pk_A, pr_A, pi_I, st_s, st_n, if_true, if_false, eq_self, d_if, d_ju, d_re, d_ca, cat0, cat1, cat2, cat3, fr_z, fr_s, cc_I, cc_A, cc_N, Nat.reduceAdd, Nat.reduceLT, Nat.reduceLeDiff, Nat.reduceEqDiff, not_true, not_false_iff, z1_0, z1_1, Bool.and_self, Bool.true_and, Bool.and_true, nI_add, pk_mul, nI_clamp, decide_true, Nat.le_refl, bI_eq, bI_z1, nI_ltI, nI_leI, pk_L, cc_L, g8]
                        refine go_at (blk := b_Model_cut_250) rfl ?_
                        simp (disch := omega) only [b_Model_cut_250, be_6, be_4, be_1, be_49_5, List.getD_cons_zero, List.getD_cons_succ, List.set_cons_zero, List.set_cons_succ, List.length_cons, List.length_nil, pk_I, pk_A, pr_A, pi_I, st_s, st_n, if_true, if_false, eq_self, d_if, d_ju, d_re, d_ca, cat0, cat1, cat2, cat3, fr_z, fr_s, cc_I, cc_A, cc_N, Nat.reduceAdd, Nat.reduceLT, Nat.reduceLeDiff, Nat.reduceEqDiff, not_true, not_false_iff, z1_0, z1_1, Bool.and_self, Bool.true_and, Bool.and_true, nI_add, pk_mul, nI_clamp, decide_true, Nat.le_refl, bI_eq, bI_z1, nI_ltI, nI_leI, pk_L, cc_L, g8]
                        refine go_at (blk := b_Model_cut_260) rfl ?_
                        simp (disch := omega) only [b_Model_cut_260, be_1, be_0, List.getD_cons_zero, List.getD_cons_succ, List.set_cons_zero, List.set_cons_succ, List.length_cons, List.length_nil, pk_I, pk_A, pr_A, pi_I, st_s, st_n, if_true, if_false, eq_self, d_if, d_ju, d_re, d_ca, cat0, cat1, cat2, cat3, fr_z, fr_s, cc_I, cc_A, cc_N, Nat.reduceAdd, Nat.reduceLT, Nat.reduceLeDiff, Nat.reduceEqDiff, not_true, not_false_iff, z1_0, z1_1, Bool.and_self, Bool.true_and, Bool.and_true, nI_add, pk_mul, nI_clamp, decide_true, Nat.le_refl, bI_eq, bI_z1, nI_ltI, nI_leI, pk_L, cc_L, g8]
                        refine go_at (blk := b_Model_cut_261) rfl ?_
                        simp (disch := omega) only [b_Model_cut_261, be_4, be_3, be_57_4, kc_388, List.getD_cons_zero, List.getD_cons_succ, List.set_cons_zero, List.set_cons_succ, List.length_cons, List.length_nil, pk_I, pk_A, pr_A, pi_I, st_s, st_n, if_true, if_false, eq_self, d_if, d_ju, d_re, d_ca, cat0, cat1, cat2, cat3, fr_z, fr_s, cc_I, cc_A, cc_N, Nat.reduceAdd, Nat.reduceLT, Nat.reduceLeDiff, Nat.reduceEqDiff, not_true, not_false_iff, z1_0, z1_1, Bool.and_self, Bool.true_and, Bool.and_true, nI_add, pk_mul, nI_clamp, decide_true, Nat.le_refl, bI_eq, bI_z1, nI_ltI, nI_leI, pk_L, cc_L, g8]
                        refine m_token ht10 (by omega) ?_
                        refine go_at (blk := b_Model_cut_268) rfl ?_
                        simp (disch := omega) only [b_Model_cut_268, be_4, be_12, be_7, be_51, List.getD_cons_zero, List.getD_cons_succ, List.set_cons_zero, List.set_cons_succ, List.length_cons, List.length_nil, pk_I, pk_A, pr_A, pi_I, st_s, st_n, if_true, if_false, eq_self, d_if, d_ju, d_re, d_ca, cat0, cat1, cat2, cat3, fr_z, fr_s, cc_I, cc_A, cc_N, Nat.reduceAdd, Nat.reduceLT, Nat.reduceLeDiff, Nat.reduceEqDiff, not_true, not_false_iff, z1_0, z1_1, Bool.and_self, Bool.true_and, Bool.and_true, nI_add, pk_mul, nI_clamp, decide_true, Nat.le_refl, bI_eq, bI_z1, nI_ltI, nI_leI, pk_L, cc_L, g8]
                        refine go_at (blk := b_Model_cut_291) rfl ?_
                        simp (disch := omega) only [b_Model_cut_291, be_51, List.getD_cons_zero, List.getD_cons_succ, List.set_cons_zero, List.set_cons_succ, List.length_cons, List.length_nil, pk_I, pk_A, pr_A, pi_I, st_s, st_n, if_true, if_false, eq_self, d_if, d_ju, d_re, d_ca, cat0, cat1, cat2, cat3, fr_z, fr_s, cc_I, cc_A, cc_N, Nat.reduceAdd, Nat.reduceLT, Nat.reduceLeDiff, Nat.reduceEqDiff, not_true, not_false_iff, z1_0, z1_1, Bool.and_self, Bool.true_and, Bool.and_true, nI_add, pk_mul, nI_clamp, decide_true, Nat.le_refl, bI_eq, bI_z1, nI_ltI, nI_leI, pk_L, cc_L, g8]
                        have hC2 := CI_s (y := lN 0) (x := nI (dgV b i (min (rl diB b len i) 4))) (p := nI i) (k := nI 2) hC (by omega) (by unfold kkN; rw [hts, (tk_di hi2 hL hD).1, if_neg (by omega)]) (by rw [hts]) (fun z => by unfold tkV; rw [hts, show min (rl diB b len i) 4 = rl diB b len i by omega]) (fun z => absurd z (by unfold kkN; rw [hts, (tk_di hi2 hL hD).1, if_neg (by omega)]; omega))
                        rw [show i + rl diB b len i = tkX b len i from (tk_di hi2 hL hD).2.symm]
                        exact ih _ _ _ _ _ _ _ _ _ _ (by have := tx_gt (b := b) hi2; omega) ((tx_gt hi2).2) (by show bk b len (tkX b len i) = bk b len (tkX b len (tsN b len n)); rw [hts]) (hC2)
                      · have g8 := g8'
                        refine go_at (blk := b_Model_cut_208) rfl ?_
                        simp (disch := omega) only [b_Model_cut_208, be_6, be_4, be_12, be_57_1, kc_388, List.getD_cons_zero, List.getD_cons_succ, List.set_cons_zero, List.set_cons_succ, List.length_cons, List.length_nil, pk_I, pk_A, pr_A, pi_I, st_s, st_n, if_true, if_false, eq_self, d_if, d_ju, d_re, d_ca, cat0, cat1, cat2, cat3, fr_z, fr_s, cc_I, cc_A, cc_N, Nat.reduceAdd, Nat.reduceLT, Nat.reduceLeDiff, Nat.reduceEqDiff, not_true, not_false_iff, z1_0, z1_1, Bool.and_self, Bool.true_and, Bool.and_true, nI_add, pk_mul, nI_clamp, decide_true, Nat.le_refl, bI_eq, bI_z1, nI_ltI, nI_leI, pk_L, cc_L, g8]
                        refine m_byteAt (j := i + rl diB b len i) hx hl (by omega) ?_
                        refine go_at (blk := b_Model_cut_215) rfl ?_
                        simp (disch := omega) only [b_Model_cut_215, be_58_1, List.getD_cons_zero, List.getD_cons_succ, List.set_cons_zero, List.set_cons_succ, List.length_cons, List.length_nil, pk_I, pk_A, pr_A, pi_I, st_s, st_n, if_true, if_false, eq_self, d_if, d_ju, d_re, d_ca, cat0, cat1, cat2, cat3, fr_z, fr_s, cc_I, cc_A, cc_N, Nat.reduceAdd, Nat.reduceLT, Nat.reduceLeDiff, Nat.reduceEqDiff, not_true, not_false_iff, z1_0, z1_1, Bool.and_self, Bool.true_and, Bool.and_true, nI_add, pk_mul, nI_clamp, decide_true, Nat.le_refl, bI_eq, bI_z1, nI_ltI, nI_leI, pk_L, cc_L, g8]
                        refine m_isDigit ?_
                        rw [(uB_di hy hi).2 rfl]
                        refine go_at (blk := b_Model_cut_218) rfl ?_
                        simp (disch := omega) only [b_Model_cut_218, be_50_0, List.getD_cons_zero, List.getD_cons_succ, List.set_cons_zero, List.set_cons_succ, List.length_cons, List.length_nil, pk_I, pk_A, pr_A, pi_I, st_s, st_n, if_true, if_false, eq_self, d_if, d_ju, d_re, d_ca, cat0, cat1, cat2, cat3, fr_z, fr_s, cc_I, cc_A, cc_N, Nat.reduceAdd, Nat.reduceLT, Nat.reduceLeDiff, Nat.reduceEqDiff, not_true, not_false_iff, z1_0, z1_1, Bool.and_self, Bool.true_and, Bool.and_true, nI_add, pk_mul, nI_clamp, decide_true, Nat.le_refl, bI_eq, bI_z1, nI_ltI, nI_leI, pk_L, cc_L, g8]
                        refine go_at (blk := b_Model_cut_250) rfl ?_
                        simp (disch := omega) only [b_Model_cut_250, be_6, be_4, be_1, be_49_5, List.getD_cons_zero, List.getD_cons_succ, List.set_cons_zero, List.set_cons_succ, List.length_cons, List.length_nil, pk_I, pk_A, pr_A, pi_I, st_s, st_n, if_true, if_false, eq_self, d_if, d_ju, d_re, d_ca, cat0, cat1, cat2, cat3, fr_z, fr_s, cc_I, cc_A, cc_N, Nat.reduceAdd, Nat.reduceLT, Nat.reduceLeDiff, Nat.reduceEqDiff, not_true, not_false_iff, z1_0, z1_1, Bool.and_self, Bool.true_and, Bool.and_true, nI_add, pk_mul, nI_clamp, decide_true, Nat.le_refl, bI_eq, bI_z1, nI_ltI, nI_leI, pk_L, cc_L, g8]
                        refine go_at (blk := b_Model_cut_256) rfl ?_
                        simp (disch := omega) only [b_Model_cut_256, be_1, be_51, List.getD_cons_zero, List.getD_cons_succ, List.set_cons_zero, List.set_cons_succ, List.length_cons, List.length_nil, pk_I, pk_A, pr_A, pi_I, st_s, st_n, if_true, if_false, eq_self, d_if, d_ju, d_re, d_ca, cat0, cat1, cat2, cat3, fr_z, fr_s, cc_I, cc_A, cc_N, Nat.reduceAdd, Nat.reduceLT, Nat.reduceLeDiff, Nat.reduceEqDiff, not_true, not_false_iff, z1_0, z1_1, Bool.and_self, Bool.true_and, Bool.and_true, nI_add, pk_mul, nI_clamp, decide_true, Nat.le_refl, bI_eq, bI_z1, nI_ltI, nI_leI, pk_L, cc_L, g8]
                        refine go_at (blk := b_Model_cut_261) rfl ?_
                        simp (disch := omega) only [b_Model_cut_261, be_4, be_3, be_57_4, kc_388, List.getD_cons_zero, List.getD_cons_succ, List.set_cons_zero, List.set_cons_succ, List.length_cons, List.length_nil, pk_I, pk_A, pr_A, pi_I, st_s, st_n, if_true, if_false, eq_self, d_if, d_ju, d_re, d_ca, cat0, cat1, cat2, cat3, fr_z, fr_s, cc_I, cc_A, cc_N, Nat.reduceAdd, Nat.reduceLT, Nat.reduceLeDiff, Nat.reduceEqDiff, not_true, not_false_iff, z1_0, z1_1, Bool.and_self, Bool.true_and, Bool.and_true, nI_add, pk_mul, nI_clamp, decide_true, Nat.le_refl, bI_eq, bI_z1, nI_ltI, nI_leI, pk_L, cc_L, g8]
                        refine m_token ht10 (by omega) ?_
                        refine go_at (blk := b_Model_cut_268) rfl ?_
                        simp (disch := omega) only [b_Model_cut_268, be_4, be_12, be_7, be_51, List.getD_cons_zero, List.getD_cons_succ, List.set_cons_zero, List.set_cons_succ, List.length_cons, List.length_nil, pk_I, pk_A, pr_A, pi_I, st_s, st_n, if_true, if_false, eq_self, d_if, d_ju, d_re, d_ca, cat0, cat1, cat2, cat3, fr_z, fr_s, cc_I, cc_A, cc_N, Nat.reduceAdd, Nat.reduceLT, Nat.reduceLeDiff, Nat.reduceEqDiff, not_true, not_false_iff, z1_0, z1_1, Bool.and_self, Bool.true_and, Bool.and_true, nI_add, pk_mul, nI_clamp, decide_true, Nat.le_refl, bI_eq, bI_z1, nI_ltI, nI_leI, pk_L, cc_L, g8]
                        refine go_at (blk := b_Model_cut_291) rfl ?_
                        simp (disch := omega) only [b_Model_cut_291, be_51, List.getD_cons_zero, List.getD_cons_succ, List.set_cons_zero, List.set_cons_succ, List.length_cons, List.length_nil, pk_I, pk_A, pr_A, pi_I, st_s, st_n, if_true, if_false, eq_self, d_if, d_ju, d_re, d_ca, cat0, cat1, cat2, cat3, fr_z, fr_s, cc_I, cc_A, cc_N, Nat.reduceAdd, Nat.reduceLT, Nat.reduceLeDiff, Nat.reduceEqDiff, not_true, not_false_iff, z1_0, z1_1, Bool.and_self, Bool.true_and, Bool.and_true, nI_add, pk_mul, nI_clamp, decide_true, Nat.le_refl, bI_eq, bI_z1, nI_ltI, nI_leI, pk_L, cc_L, g8]
                        have hC2 := CI_s (y := lN 0) (x := nI (dgV b i (min (rl diB b len i) 4))) (p := nI i) (k := nI 3) hC (by omega) (by unfold kkN; rw [hts, (tk_di hi2 hL hD).1, if_pos (by omega)]) (by rw [hts]) (fun z => absurd z (by unfold kkN; rw [hts, (tk_di hi2 hL hD).1, if_pos (by omega)]; omega)) (fun z => absurd z (by unfold kkN; rw [hts, (tk_di hi2 hL hD).1, if_pos (by omega)]; omega))
                        rw [show i + rl diB b len i = tkX b len i from (tk_di hi2 hL hD).2.symm]
                        exact ih _ _ _ _ _ _ _ _ _ _ (by have := tx_gt (b := b) hi2; omega) ((tx_gt hi2).2) (by show bk b len (tkX b len i) = bk b len (tkX b len (tsN b len n)); rw [hts]) (hC2)
                · rename_i hL
                  have hL : leB (b i) = true := by simpa using hL
                  refine go_at (blk := b_Model_cut_80) rfl ?_
                  simp (disch := omega) only [b_Model_cut_80, be_1, be_7, be_3, be_8, be_0, List.getD_cons_zero, List.getD_cons_succ, List.set_cons_zero, List.set_cons_succ, List.length_cons, List.length_nil, pk_I, pk_A, pr_A, pi_I, st_s, st_n, if_true, if_false, eq_self, d_if, d_ju, d_re, d_ca, cat0, cat1, cat2, cat3, fr_z, fr_s, cc_I, cc_A, cc_N, Nat.reduceAdd, Nat.reduceLT, Nat.reduceLeDiff, Nat.reduceEqDiff, not_true, not_false_iff, z1_0, z1_1, Bool.and_self, Bool.true_and, Bool.and_true, nI_add, pk_mul, nI_clamp, decide_true, Nat.le_refl, bI_eq, bI_z1, nI_ltI, nI_leI, pk_L, cc_L, ht10, hn4, h84]
                  refine go_loopA (α := Unit) (fun q u => ([.ref 388, .int (nI i), .int (uB b len i), .int (nI q), .long (lN (vlN b i (min q 8))), .null, x6, x7], [], (428, 26053, KD, RF, v, w))) (fun q u => True) (rl leB b len i) ?_ ?_ () trivial
                  · intro q _ hq _ qh
                    try dsimp only at *
                    have hle := rl_le (P := leB) (b := b) hi
                    obtain ⟨d', d1, d2, e1⟩ := le_of (rl_in hq)
                    have e0 : uB b len (i + q) = b (i + q) := (uB_in hy (by omega)).2.2.2.2 (Or.inl (rl_in hq))
                    by_cases hq9 : q < 8
                    · have hq8 : ¬ 8 ≤ q := by omega
                      have e3 : vlN b i (min (q + 1) 8) = vlN b i (min q 8) * 27 + d' := by rw [show min (q + 1) 8 = q + 1 by omega, show min q 8 = q by omega, vl_s, e1, eN_n d2]
                      refine go_at (blk := b_Model_cut_85) rfl ?_
                      simp (disch := omega) only [b_Model_cut_85, be_6, be_4, be_12, be_57_1, kc_388, List.getD_cons_zero, List.getD_cons_succ, List.set_cons_zero, List.set_cons_succ, List.length_cons, List.length_nil, pk_I, pk_A, pr_A, pi_I, st_s, st_n, if_true, if_false, eq_self, d_if, d_ju, d_re, d_ca, cat0, cat1, cat2, cat3, fr_z, fr_s, cc_I, cc_A, cc_N, Nat.reduceAdd, Nat.reduceLT, Nat.reduceLeDiff, Nat.reduceEqDiff, not_true, not_false_iff, z1_0, z1_1, Bool.and_self, Bool.true_and, Bool.and_true, nI_add, pk_mul, nI_clamp, decide_true, Nat.le_refl, bI_eq, bI_z1, nI_ltI, nI_leI, pk_L, cc_L, hq8, e1]
                      refine m_byteAt (j := i + q) hx hl (by omega) ?_
                      refine go_at (blk := b_Model_cut_92) rfl ?_
                      simp (disch := omega) only [b_Model_cut_92, be_58_1, List.getD_cons_zero, List.getD_cons_succ, List.set_cons_zero, List.set_cons_succ, List.length_cons, List.length_nil, pk_I, pk_A, pr_A, pi_I, st_s, st_n, if_true, if_false, eq_self, d_if, d_ju, d_re, d_ca, cat0, cat1, cat2, cat3, fr_z, fr_s, cc_I, cc_A, cc_N, Nat.reduceAdd, Nat.reduceLT, Nat.reduceLeDiff, Nat.reduceEqDiff, not_true, not_false_iff, z1_0, z1_1, Bool.and_self, Bool.true_and, Bool.and_true, nI_add, pk_mul, nI_clamp, decide_true, Nat.le_refl, bI_eq, bI_z1, nI_ltI, nI_leI, pk_L, cc_L, hq8, e1]
                      refine m_isLetter ?_
                      rw [(uB_le hy hi).1 hq]
                      refine go_at (blk := b_Model_cut_95) rfl ?_
                      simp (disch := omega) only [b_Model_cut_95, be_50_0, List.getD_cons_zero, List.getD_cons_succ, List.set_cons_zero, List.set_cons_succ, List.length_cons, List.length_nil, pk_I, pk_A, pr_A, pi_I, st_s, st_n, if_true, if_false, eq_self, d_if, d_ju, d_re, d_ca, cat0, cat1, cat2, cat3, fr_z, fr_s, cc_I, cc_A, cc_N, Nat.reduceAdd, Nat.reduceLT, Nat.reduceLeDiff, Nat.reduceEqDiff, not_true, not_false_iff, z1_0, z1_1, Bool.and_self, Bool.true_and, Bool.and_true, nI_add, pk_mul, nI_clamp, decide_true, Nat.le_refl, bI_eq, bI_z1, nI_ltI, nI_leI, pk_L, cc_L, hq8, e1]
                      refine go_at (blk := b_Model_cut_98) rfl ?_
                      simp (disch := omega) only [b_Model_cut_98, be_4, be_1, be_49_3, List.getD_cons_zero, List.getD_cons_succ, List.set_cons_zero, List.set_cons_succ, List.length_cons, List.length_nil, pk_I, pk_A, pr_A, pi_I, st_s, st_n, if_true, if_false, eq_self, d_if, d_ju, d_re, d_ca, cat0, cat1, cat2, cat3, fr_z, fr_s, cc_I, cc_A, cc_N, Nat.reduceAdd, Nat.reduceLT, Nat.reduceLeDiff, Nat.reduceEqDiff, not_true, not_false_iff, z1_0, z1_1, Bool.and_self, Bool.true_and, Bool.and_true, nI_add, pk_mul, nI_clamp, decide_true, Nat.le_refl, bI_eq, bI_z1, nI_ltI, nI_leI, pk_L, cc_L, hq8, e1]
                      refine go_at (blk := b_Model_cut_104) rfl ?_
                      simp (disch := omega) only [b_Model_cut_104, be_5, be_6, be_4, be_12, be_57_1, kc_388, List.getD_cons_zero, List.getD_cons_succ, List.set_cons_zero, List.set_cons_succ, List.length_cons, List.length_nil, pk_I, pk_A, pr_A, pi_I, st_s, st_n, if_true, if_false, eq_self, d_if, d_ju, d_re, d_ca, cat0, cat1, cat2, cat3, fr_z, fr_s, cc_I, cc_A, cc_N, Nat.reduceAdd, Nat.reduceLT, Nat.reduceLeDiff, Nat.reduceEqDiff, not_true, not_false_iff, z1_0, z1_1, Bool.and_self, Bool.true_and, Bool.and_true, nI_add, pk_mul, nI_clamp, decide_true, Nat.le_refl, bI_eq, bI_z1, nI_ltI, nI_leI, pk_L, cc_L, hq8, e1]
                      refine m_byteAt (j := i + q) hx hl (by omega) ?_
                      rw [e0, e1]
                      refine go_at (blk := b_Model_cut_113) rfl ?_
                      simp (disch := omega) only [b_Model_cut_113, be_58_2, List.getD_cons_zero, List.getD_cons_succ, List.set_cons_zero, List.set_cons_succ, List.length_cons, List.length_nil, pk_I, pk_A, pr_A, pi_I, st_s, st_n, if_true, if_false, eq_self, d_if, d_ju, d_re, d_ca, cat0, cat1, cat2, cat3, fr_z, fr_s, cc_I, cc_A, cc_N, Nat.reduceAdd, Nat.reduceLT, Nat.reduceLeDiff, Nat.reduceEqDiff, not_true, not_false_iff, z1_0, z1_1, Bool.and_self, Bool.true_and, Bool.and_true, nI_add, pk_mul, nI_clamp, decide_true, Nat.le_refl, bI_eq, bI_z1, nI_ltI, nI_leI, pk_L, cc_L, hq8, e1]
                      refine m_appends d1 d2 ?_
                      refine go_at (blk := b_Model_cut_116) rfl ?_
                      simp (disch := omega) only [b_Model_cut_116, be_8, be_0, List.getD_cons_zero, List.getD_cons_succ, List.set_cons_zero, List.set_cons_succ, List.length_cons, List.length_nil, pk_I, pk_A, pr_A, pi_I, st_s, st_n, if_true, if_false, eq_self, d_if, d_ju, d_re, d_ca, cat0, cat1, cat2, cat3, fr_z, fr_s, cc_I, cc_A, cc_N, Nat.reduceAdd, Nat.reduceLT, Nat.reduceLeDiff, Nat.reduceEqDiff, not_true, not_false_iff, z1_0, z1_1, Bool.and_self, Bool.true_and, Bool.and_true, nI_add, pk_mul, nI_clamp, decide_true, Nat.le_refl, bI_eq, bI_z1, nI_ltI, nI_leI, pk_L, cc_L, hq8, e1]
                      refine go_at (blk := b_Model_cut_118) rfl ?_
                      simp (disch := omega) only [b_Model_cut_118, be_10, be_51, List.getD_cons_zero, List.getD_cons_succ, List.set_cons_zero, List.set_cons_succ, List.length_cons, List.length_nil, pk_I, pk_A, pr_A, pi_I, st_s, st_n, if_true, if_false, eq_self, d_if, d_ju, d_re, d_ca, cat0, cat1, cat2, cat3, fr_z, fr_s, cc_I, cc_A, cc_N, Nat.reduceAdd, Nat.reduceLT, Nat.reduceLeDiff, Nat.reduceEqDiff, not_true, not_false_iff, z1_0, z1_1, Bool.and_self, Bool.true_and, Bool.and_true, nI_add, pk_mul, nI_clamp, decide_true, Nat.le_refl, bI_eq, bI_z1, nI_ltI, nI_leI, pk_L, cc_L, hq8, e1]
                      rw [e3] at qh
                      exact qh () trivial
                    · have hq8 : 8 ≤ q := by omega
                      have e3 : vlN b i (min (q + 1) 8) = vlN b i (min q 8) := by rw [show min (q + 1) 8 = 8 by omega, show min q 8 = 8 by omega]
                      refine go_at (blk := b_Model_cut_85) rfl ?_
                      simp (disch := omega) only [b_Model_cut_85, be_6, be_4, be_12, be_57_1, kc_388, List.getD_cons_zero, List.getD_cons_succ, List.set_cons_zero, List.set_cons_succ, List.length_cons, List.length_nil, pk_I, pk_A, pr_A, pi_I, st_s, st_n, if_true, if_false, eq_self, d_if, d_ju, d_re, d_ca, cat0, cat1, cat2, cat3, fr_z, fr_s, cc_I, cc_A, cc_N, Nat.reduceAdd, Nat.reduceLT, Nat.reduceLeDiff, Nat.reduceEqDiff, not_true, not_false_iff, z1_0, z1_1, Bool.and_self, Bool.true_and, Bool.and_true, nI_add, pk_mul, nI_clamp, decide_true, Nat.le_refl, bI_eq, bI_z1, nI_ltI, nI_leI, pk_L, cc_L, hq8, e1]
                      refine m_byteAt (j := i + q) hx hl (by omega) ?_
                      refine go_at (blk := b_Model_cut_92) rfl ?_
                      simp (disch := omega) only [b_Model_cut_92, be_58_1, List.getD_cons_zero, List.getD_cons_succ, List.set_cons_zero, List.set_cons_succ, List.length_cons, List.length_nil, pk_I, pk_A, pr_A, pi_I, st_s, st_n, if_true, if_false, eq_self, d_if, d_ju, d_re, d_ca, cat0, cat1, cat2, cat3, fr_z, fr_s, cc_I, cc_A, cc_N, Nat.reduceAdd, Nat.reduceLT, Nat.reduceLeDiff, Nat.reduceEqDiff, not_true, not_false_iff, z1_0, z1_1, Bool.and_self, Bool.true_and, Bool.and_true, nI_add, pk_mul, nI_clamp, decide_true, Nat.le_refl, bI_eq, bI_z1, nI_ltI, nI_leI, pk_L, cc_L, hq8, e1]
                      refine m_isLetter ?_
                      rw [(uB_le hy hi).1 hq]
                      refine go_at (blk := b_Model_cut_95) rfl ?_
                      simp (disch := omega) only [b_Model_cut_95, be_50_0, List.getD_cons_zero, List.getD_cons_succ, List.set_cons_zero, List.set_cons_succ, List.length_cons, List.length_nil, pk_I, pk_A, pr_A, pi_I, st_s, st_n, if_true, if_false, eq_self, d_if, d_ju, d_re, d_ca, cat0, cat1, cat2, cat3, fr_z, fr_s, cc_I, cc_A, cc_N, Nat.reduceAdd, Nat.reduceLT, Nat.reduceLeDiff, Nat.reduceEqDiff, not_true, not_false_iff, z1_0, z1_1, Bool.and_self, Bool.true_and, Bool.and_true, nI_add, pk_mul, nI_clamp, decide_true, Nat.le_refl, bI_eq, bI_z1, nI_ltI, nI_leI, pk_L, cc_L, hq8, e1]
                      refine go_at (blk := b_Model_cut_98) rfl ?_
                      simp (disch := omega) only [b_Model_cut_98, be_4, be_1, be_49_3, List.getD_cons_zero, List.getD_cons_succ, List.set_cons_zero, List.set_cons_succ, List.length_cons, List.length_nil, pk_I, pk_A, pr_A, pi_I, st_s, st_n, if_true, if_false, eq_self, d_if, d_ju, d_re, d_ca, cat0, cat1, cat2, cat3, fr_z, fr_s, cc_I, cc_A, cc_N, Nat.reduceAdd, Nat.reduceLT, Nat.reduceLeDiff, Nat.reduceEqDiff, not_true, not_false_iff, z1_0, z1_1, Bool.and_self, Bool.true_and, Bool.and_true, nI_add, pk_mul, nI_clamp, decide_true, Nat.le_refl, bI_eq, bI_z1, nI_ltI, nI_leI, pk_L, cc_L, hq8, e1]
                      refine go_at (blk := b_Model_cut_118) rfl ?_
                      simp (disch := omega) only [b_Model_cut_118, be_10, be_51, List.getD_cons_zero, List.getD_cons_succ, List.set_cons_zero, List.set_cons_succ, List.length_cons, List.length_nil, pk_I, pk_A, pr_A, pi_I, st_s, st_n, if_true, if_false, eq_self, d_if, d_ju, d_re, d_ca, cat0, cat1, cat2, cat3, fr_z, fr_s, cc_I, cc_A, cc_N, Nat.reduceAdd, Nat.reduceLT, Nat.reduceLeDiff, Nat.reduceEqDiff, not_true, not_false_iff, z1_0, z1_1, Bool.and_self, Bool.true_and, Bool.and_true, nI_add, pk_mul, nI_clamp, decide_true, Nat.le_refl, bI_eq, bI_z1, nI_ltI, nI_leI, pk_L, cc_L, hq8, e1]
                      rw [e3] at qh
                      exact qh () trivial
                  · intro _ _
                    try dsimp only at *
                    have hle := rl_le (P := leB) (b := b) hi
                    by_cases g7' : rl leB b len i ≤ 7
                    · have g8 : rl leB b len i ≤ 8 := by omega
                      have g7 : ¬ 7 < rl leB b len i := by omega
                      rw [show min (rl leB b len i) 8 = rl leB b len i by omega]
                      refine go_at (blk := b_Model_cut_85) rfl ?_
                      simp (disch := omega) only [b_Model_cut_85, be_6, be_4, be_12, be_57_1, kc_388, List.getD_cons_zero, List.getD_cons_succ, List.set_cons_zero, List.set_cons_succ, List.length_cons, List.length_nil, pk_I, pk_A, pr_A, pi_I, st_s, st_n, if_true, if_false, eq_self, d_if, d_ju, d_re, d_ca, cat0, cat1, cat2, cat3, fr_z, fr_s, cc_I, cc_A, cc_N, Nat.reduceAdd, Nat.reduceLT, Nat.reduceLeDiff, Nat.reduceEqDiff, not_true, not_false_iff, z1_0, z1_1, Bool.and_self, Bool.true_and, Bool.and_true, nI_add, pk_mul, nI_clamp, decide_true, Nat.le_refl, bI_eq, bI_z1, nI_ltI, nI_leI, pk_L, cc_L, g8, g7]
                      refine m_byteAt (j := i + rl leB b len i) hx hl (by omega) ?_
                      refine go_at (blk := b_Model_cut_92) rfl ?_
                      simp (disch := omega) only [b_Model_cut_92, be_58_1, List.getD_cons_zero, List.getD_cons_succ, List.set_cons_zero, List.set_cons_succ, List.length_cons, List.length_nil, pk_I, pk_A, pr_A, pi_I, st_s, st_n, if_true, if_false, eq_self, d_if, d_ju, d_re, d_ca, cat0, cat1, cat2, cat3, fr_z, fr_s, cc_I, cc_A, cc_N, Nat.reduceAdd, Nat.reduceLT, Nat.reduceLeDiff, Nat.reduceEqDiff, not_true, not_false_iff, z1_0, z1_1, Bool.and_self, Bool.true_and, Bool.and_true, nI_add, pk_mul, nI_clamp, decide_true, Nat.le_refl, bI_eq, bI_z1, nI_ltI, nI_leI, pk_L, cc_L, g8, g7]
                      refine m_isLetter ?_
                      rw [(uB_le hy hi).2 rfl]
                      refine go_at (blk := b_Model_cut_95) rfl ?_
                      simp (disch := omega) only [b_Model_cut_95, be_50_0, List.getD_cons_zero, List.getD_cons_succ, List.set_cons_zero, List.set_cons_succ, List.length_cons, List.length_nil, pk_I, pk_A, pr_A, pi_I, st_s, st_n, if_true, if_false, eq_self, d_if, d_ju, d_re, d_ca, cat0, cat1, cat2, cat3, fr_z, fr_s, cc_I, cc_A, cc_N, Nat.reduceAdd, Nat.reduceLT, Nat.reduceLeDiff, Nat.reduceEqDiff, not_true, not_false_iff, z1_0, z1_1, Bool.and_self, Bool.true_and, Bool.and_true, nI_add, pk_mul, nI_clamp, decide_true, Nat.le_refl, bI_eq, bI_z1, nI_ltI, nI_leI, pk_L, cc_L, g8, g7]
                      refine go_at (blk := b_Model_cut_124) rfl ?_
                      simp (disch := omega) only [b_Model_cut_124, be_4, be_1, be_49_5, List.getD_cons_zero, List.getD_cons_succ, List.set_cons_zero, List.set_cons_succ, List.length_cons, List.length_nil, pk_I, pk_A, pr_A, pi_I, st_s, st_n, if_true, if_false, eq_self, d_if, d_ju, d_re, d_ca, cat0, cat1, cat2, cat3, fr_z, fr_s, cc_I, cc_A, cc_N, Nat.reduceAdd, Nat.reduceLT, Nat.reduceLeDiff, Nat.reduceEqDiff, not_true, not_false_iff, z1_0, z1_1, Bool.and_self, Bool.true_and, Bool.and_true, nI_add, pk_mul, nI_clamp, decide_true, Nat.le_refl, bI_eq, bI_z1, nI_ltI, nI_leI, pk_L, cc_L, g8, g7]
                      refine go_at (blk := b_Model_cut_134) rfl ?_
                      simp (disch := omega) only [b_Model_cut_134, be_1, be_0, List.getD_cons_zero, List.getD_cons_succ, List.set_cons_zero, List.set_cons_succ, List.length_cons, List.length_nil, pk_I, pk_A, pr_A, pi_I, st_s, st_n, if_true, if_false, eq_self, d_if, d_ju, d_re, d_ca, cat0, cat1, cat2, cat3, fr_z, fr_s, cc_I, cc_A, cc_N, Nat.reduceAdd, Nat.reduceLT, Nat.reduceLeDiff, Nat.reduceEqDiff, not_true, not_false_iff, z1_0, z1_1, Bool.and_self, Bool.true_and, Bool.and_true, nI_add, pk_mul, nI_clamp, decide_true, Nat.le_refl, bI_eq, bI_z1, nI_ltI, nI_leI, pk_L, cc_L, g8, g7]
                      refine go_at (blk := b_Model_cut_135) rfl ?_
                      simp (disch := omega) only [b_Model_cut_135, be_7, be_4, be_1, be_49_4, List.getD_cons_zero, List.getD_cons_succ, List.set_cons_zero, List.set_cons_succ, List.length_cons, List.length_nil, pk_I, pk_A, pr_A, pi_I, st_s, st_n, if_true, if_false, eq_self, d_if, d_ju, d_re, d_ca, cat0, cat1, cat2, cat3, fr_z, fr_s, cc_I, cc_A, cc_N, Nat.reduceAdd, Nat.reduceLT, Nat.reduceLeDiff, Nat.reduceEqDiff, not_true, not_false_iff, z1_0, z1_1, Bool.and_self, Bool.true_and, Bool.and_true, nI_add, pk_mul, nI_clamp, decide_true, Nat.le_refl, bI_eq, bI_z1, nI_ltI, nI_leI, pk_L, cc_L, g8, g7]
                      refine go_at (blk := b_Model_cut_143) rfl ?_
                      simp (disch := omega) only [b_Model_cut_143, be_1, be_7, be_0, List.getD_cons_zero, List.getD_cons_succ, List.set_cons_zero, List.set_cons_succ, List.length_cons, List.length_nil, pk_I, pk_A, pr_A, pi_I, st_s, st_n, if_true, if_false, eq_self, d_if, d_ju, d_re, d_ca, cat0, cat1, cat2, cat3, fr_z, fr_s, cc_I, cc_A, cc_N, Nat.reduceAdd, Nat.reduceLT, Nat.reduceLeDiff, Nat.reduceEqDiff, not_true, not_false_iff, z1_0, z1_1, Bool.and_self, Bool.true_and, Bool.and_true, nI_add, pk_mul, nI_clamp, decide_true, Nat.le_refl, bI_eq, bI_z1, nI_ltI, nI_leI, pk_L, cc_L, g8, g7]
                      refine go_loopA (α := Unit) (fun q u => ([.ref 388, .int (nI i), .int (uB b len i), .int (nI (rl leB b len i)), .long (lN (vlN b i (rl leB b len i))), .null, .int (nI (klp (vlN b i (rl leB b len i)) q)), .int (nI q)], [], (428, 26053, KD, RF, v, w))) (fun q u => True) (17) ?_ ?_ () trivial
                      · intro q _ hq _ qh
                        try dsimp only at *
                        have hnq : ¬ 17 ≤ q := by omega
                        have hkq : w 395 q = lN (keyN q) := by rw [hC.2.1 395 (by omega)]; exact hkey q hq
                        have hle9 : (lN (keyN q) = lN (vlN b i (rl leB b len i))) ↔ keyN q = vlN b i (rl leB b len i) := pk_lEQ (by have := ky_lt q hq; omega) (vN_lt (by omega) (Nat.le_refl _))
                        refine go_at (blk := b_Model_cut_146) rfl ?_
                        simp (disch := omega) only [b_Model_cut_146, be_4, be_1, be_49_3, List.getD_cons_zero, List.getD_cons_succ, List.set_cons_zero, List.set_cons_succ, List.length_cons, List.length_nil, pk_I, pk_A, pr_A, pi_I, st_s, st_n, if_true, if_false, eq_self, d_if, d_ju, d_re, d_ca, cat0, cat1, cat2, cat3, fr_z, fr_s, cc_I, cc_A, cc_N, Nat.reduceAdd, Nat.reduceLT, Nat.reduceLeDiff, Nat.reduceEqDiff, not_true, not_false_iff, z1_0, z1_1, Bool.and_self, Bool.true_and, Bool.and_true, nI_add, pk_mul, nI_clamp, decide_true, Nat.le_refl, bI_eq, bI_z1, nI_ltI, nI_leI, pk_L, cc_L, hkq, lg_cmp_eq, hle9, hnq]
                        refine go_at (blk := b_Model_cut_153) rfl ?_
                        simp (disch := omega) only [b_Model_cut_153, be_6, be_34, be_4, be_41, be_5, be_25, be_50_1, kc_388, rf_388_9, ka_395, List.getD_cons_zero, List.getD_cons_succ, List.set_cons_zero, List.set_cons_succ, List.length_cons, List.length_nil, pk_I, pk_A, pr_A, pi_I, st_s, st_n, if_true, if_false, eq_self, d_if, d_ju, d_re, d_ca, cat0, cat1, cat2, cat3, fr_z, fr_s, cc_I, cc_A, cc_N, Nat.reduceAdd, Nat.reduceLT, Nat.reduceLeDiff, Nat.reduceEqDiff, not_true, not_false_iff, z1_0, z1_1, Bool.and_self, Bool.true_and, Bool.and_true, nI_add, pk_mul, nI_clamp, decide_true, Nat.le_refl, bI_eq, bI_z1, nI_ltI, nI_leI, pk_L, cc_L, hkq, lg_cmp_eq, hle9, hnq]
                        split
                        · rename_i hk
                          refine go_at (blk := b_Model_cut_173) rfl ?_
                          simp (disch := omega) only [b_Model_cut_173, be_10, be_51, List.getD_cons_zero, List.getD_cons_succ, List.set_cons_zero, List.set_cons_succ, List.length_cons, List.length_nil, pk_I, pk_A, pr_A, pi_I, st_s, st_n, if_true, if_false, eq_self, d_if, d_ju, d_re, d_ca, cat0, cat1, cat2, cat3, fr_z, fr_s, cc_I, cc_A, cc_N, Nat.reduceAdd, Nat.reduceLT, Nat.reduceLeDiff, Nat.reduceEqDiff, not_true, not_false_iff, z1_0, z1_1, Bool.and_self, Bool.true_and, Bool.and_true, nI_add, pk_mul, nI_clamp, decide_true, Nat.le_refl, bI_eq, bI_z1, nI_ltI, nI_leI, pk_L, cc_L, hkq, lg_cmp_eq, hle9, hnq]
                          have e : klp (vlN b i (rl leB b len i)) (q + 1) = klp (vlN b i (rl leB b len i)) q := if_neg hk
                          simp only [e] at qh
                          exact qh () trivial
                        · rename_i hk
                          have hk := Decidable.not_not.mp hk
                          have e : klp (vlN b i (rl leB b len i)) (q + 1) = 20 + q := if_pos hk
                          simp only [e] at qh
                          refine go_at (blk := b_Model_cut_166) rfl ?_
                          simp (disch := omega) only [b_Model_cut_166, be_1, be_4, be_12, be_7, be_0, List.getD_cons_zero, List.getD_cons_succ, List.set_cons_zero, List.set_cons_succ, List.length_cons, List.length_nil, pk_I, pk_A, pr_A, pi_I, st_s, st_n, if_true, if_false, eq_self, d_if, d_ju, d_re, d_ca, cat0, cat1, cat2, cat3, fr_z, fr_s, cc_I, cc_A, cc_N, Nat.reduceAdd, Nat.reduceLT, Nat.reduceLeDiff, Nat.reduceEqDiff, not_true, not_false_iff, z1_0, z1_1, Bool.and_self, Bool.true_and, Bool.and_true, nI_add, pk_mul, nI_clamp, decide_true, Nat.le_refl, bI_eq, bI_z1, nI_ltI, nI_leI, pk_L, cc_L, hkq, lg_cmp_eq, hle9, hnq]
                          refine go_at (blk := b_Model_cut_173) rfl ?_
                          simp (disch := omega) only [b_Model_cut_173, be_10, be_51, List.getD_cons_zero, List.getD_cons_succ, List.set_cons_zero, List.set_cons_succ, List.length_cons, List.length_nil, pk_I, pk_A, pr_A, pi_I, st_s, st_n, if_true, if_false, eq_self, d_if, d_ju, d_re, d_ca, cat0, cat1, cat2, cat3, fr_z, fr_s, cc_I, cc_A, cc_N, Nat.reduceAdd, Nat.reduceLT, Nat.reduceLeDiff, Nat.reduceEqDiff, not_true, not_false_iff, z1_0, z1_1, Bool.and_self, Bool.true_and, Bool.and_true, nI_add, pk_mul, nI_clamp, decide_true, Nat.le_refl, bI_eq, bI_z1, nI_ltI, nI_leI, pk_L, cc_L, hkq, lg_cmp_eq, hle9, hnq]
                          exact qh () trivial
                      · intro _ _
                        try dsimp only at *
                        refine go_at (blk := b_Model_cut_146) rfl ?_
                        simp (disch := omega) only [b_Model_cut_146, be_4, be_1, be_49_3, List.getD_cons_zero, List.getD_cons_succ, List.set_cons_zero, List.set_cons_succ, List.length_cons, List.length_nil, pk_I, pk_A, pr_A, pi_I, st_s, st_n, if_true, if_false, eq_self, d_if, d_ju, d_re, d_ca, cat0, cat1, cat2, cat3, fr_z, fr_s, cc_I, cc_A, cc_N, Nat.reduceAdd, Nat.reduceLT, Nat.reduceLeDiff, Nat.reduceEqDiff, not_true, not_false_iff, z1_0, z1_1, Bool.and_self, Bool.true_and, Bool.and_true, nI_add, pk_mul, nI_clamp, decide_true, Nat.le_refl, bI_eq, bI_z1, nI_ltI, nI_leI, pk_L, cc_L]
                        refine go_at (blk := b_Model_cut_179) rfl ?_
                        simp (disch := omega) only [b_Model_cut_179, be_6, be_4, be_1, be_5, be_57_4, kc_388, List.getD_cons_zero, List.getD_cons_succ, List.set_cons_zero, List.set_cons_succ, List.length_cons, List.length_nil, pk_I, pk_A, pr_A, pi_I, st_s, st_n, if_true, if_false, eq_self, d_if, d_ju, d_re, d_ca, cat0, cat1, cat2, cat3, fr_z, fr_s, cc_I, cc_A, cc_N, Nat.reduceAdd, Nat.reduceLT, Nat.reduceLeDiff, Nat.reduceEqDiff, not_true, not_false_iff, z1_0, z1_1, Bool.and_self, Bool.true_and, Bool.and_true, nI_add, pk_mul, nI_clamp, decide_true, Nat.le_refl, bI_eq, bI_z1, nI_ltI, nI_leI, pk_L, cc_L]
                        refine m_token ht10 (by omega) ?_
                        refine go_at (blk := b_Model_cut_189) rfl ?_
                        simp (disch := omega) only [b_Model_cut_189, be_4, be_12, be_7, be_51, List.getD_cons_zero, List.getD_cons_succ, List.set_cons_zero, List.set_cons_succ, List.length_cons, List.length_nil, pk_I, pk_A, pr_A, pi_I, st_s, st_n, if_true, if_false, eq_self, d_if, d_ju, d_re, d_ca, cat0, cat1, cat2, cat3, fr_z, fr_s, cc_I, cc_A, cc_N, Nat.reduceAdd, Nat.reduceLT, Nat.reduceLeDiff, Nat.reduceEqDiff, not_true, not_false_iff, z1_0, z1_1, Bool.and_self, Bool.true_and, Bool.and_true, nI_add, pk_mul, nI_clamp, decide_true, Nat.le_refl, bI_eq, bI_z1, nI_ltI, nI_leI, pk_L, cc_L]
                        refine go_at (blk := b_Model_cut_291) rfl ?_
                        simp (disch := omega) only [b_Model_cut_291, be_51, List.getD_cons_zero, List.getD_cons_succ, List.set_cons_zero, List.set_cons_succ, List.length_cons, List.length_nil, pk_I, pk_A, pr_A, pi_I, st_s, st_n, if_true, if_false, eq_self, d_if, d_ju, d_re, d_ca, cat0, cat1, cat2, cat3, fr_z, fr_s, cc_I, cc_A, cc_N, Nat.reduceAdd, Nat.reduceLT, Nat.reduceLeDiff, Nat.reduceEqDiff, not_true, not_false_iff, z1_0, z1_1, Bool.and_self, Bool.true_and, Bool.and_true, nI_add, pk_mul, nI_clamp, decide_true, Nat.le_refl, bI_eq, bI_z1, nI_ltI, nI_leI, pk_L, cc_L]
                        have hC2 := CI_s (y := lN (vlN b i (rl leB b len i))) (x := nI 0) (p := nI i) (k := nI (wkN (vlN b i (rl leB b len i)))) hC (by omega) (by unfold kkN; rw [hts, (tk_le hi2 hL).1, if_neg (by omega)]) (by rw [hts]) (fun z => absurd z (by unfold kkN; rw [hts, (tk_le hi2 hL).1, if_neg (by omega)]; have := kl_r (N := vlN b i (rl leB b len i)) 17; unfold wkN; omega)) (fun z => by unfold tkN; rw [hts])
                        rw [show i + rl leB b len i = tkX b len i from (tk_le hi2 hL).2.symm]
                        exact ih _ _ _ _ _ _ _ _ _ _ (by have := tx_gt (b := b) hi2; omega) ((tx_gt hi2).2) (by show bk b len (tkX b len i) = bk b len (tkX b len (tsN b len n)); rw [hts]) (hC2)
                    · have g7 : 7 < rl leB b len i := by omega
                      by_cases g9 : rl leB b len i = 8
                      · have g8 : rl leB b len i ≤ 8 := by omega
                        rw [show min (rl leB b len i) 8 = rl leB b len i by omega]
                        refine go_at (blk := b_Model_cut_85) rfl ?_
                        simp (disch := omega) only [b_Model_cut_85, be_6, be_4, be_12, be_57_1, kc_388, List.getD_cons_zero, List.getD_cons_succ, List.set_cons_zero, List.set_cons_succ, List.length_cons, List.length_nil, pk_I, pk_A, pr_A, pi_I, st_s, st_n, if_true, if_false, eq_self, d_if, d_ju, d_re, d_ca, cat0, cat1, cat2, cat3, fr_z, fr_s, cc_I, cc_A, cc_N, Nat.reduceAdd, Nat.reduceLT, Nat.reduceLeDiff, Nat.reduceEqDiff, not_true, not_false_iff, z1_0, z1_1, Bool.and_self, Bool.true_and, Bool.and_true, nI_add, pk_mul, nI_clamp, decide_true, Nat.le_refl, bI_eq, bI_z1, nI_ltI, nI_leI, pk_L, cc_L, g8, g7]
                        refine m_byteAt (j := i + rl leB b len i) hx hl (by omega) ?_
                        refine go_at (blk := b_Model_cut_92) rfl ?_
                        simp (disch := omega) only [b_Model_cut_92, be_58_1, List.getD_cons_zero, List.getD_cons_succ, List.set_cons_zero, List.set_cons_succ, List.length_cons, List.length_nil, pk_I, pk_A, pr_A, pi_I, st_s, st_n, if_true, if_false, eq_self, d_if, d_ju, d_re, d_ca, cat0, cat1, cat2, cat3, fr_z, fr_s, cc_I, cc_A, cc_N, Nat.reduceAdd, Nat.reduceLT, Nat.reduceLeDiff, Nat.reduceEqDiff, not_true, not_false_iff, z1_0, z1_1, Bool.and_self, Bool.true_and, Bool.and_true, nI_add, pk_mul, nI_clamp, decide_true, Nat.le_refl, bI_eq, bI_z1, nI_ltI, nI_leI, pk_L, cc_L, g8, g7]
                        refine m_isLetter ?_
                        rw [(uB_le hy hi).2 rfl]
                        refine go_at (blk := b_Model_cut_95) rfl ?_
                        simp (disch := omega) only [b_Model_cut_95, be_50_0, List.getD_cons_zero, List.getD_cons_succ, List.set_cons_zero, List.set_cons_succ, List.length_cons, List.length_nil, pk_I, pk_A, pr_A, pi_I, st_s, st_n, if_true, if_false, eq_self, d_if, d_ju, d_re, d_ca, cat0, cat1, cat2, cat3, fr_z, fr_s, cc_I, cc_A, cc_N, Nat.reduceAdd, Nat.reduceLT, Nat.reduceLeDiff, Nat.reduceEqDiff, not_true, not_false_iff, z1_0, z1_1, Bool.and_self, Bool.true_and, Bool.and_true, nI_add, pk_mul, nI_clamp, decide_true, Nat.le_refl, bI_eq, bI_z1, nI_ltI, nI_leI, pk_L, cc_L, g8, g7]
                        refine go_at (blk := b_Model_cut_124) rfl ?_
                        simp (disch := omega) only [b_Model_cut_124, be_4, be_1, be_49_5, List.getD_cons_zero, List.getD_cons_succ, List.set_cons_zero, List.set_cons_succ, List.length_cons, List.length_nil, pk_I, pk_A, pr_A, pi_I, st_s, st_n, if_true, if_false, eq_self, d_if, d_ju, d_re, d_ca, cat0, cat1, cat2, cat3, fr_z, fr_s, cc_I, cc_A, cc_N, Nat.reduceAdd, Nat.reduceLT, Nat.reduceLeDiff, Nat.reduceEqDiff, not_true, not_false_iff, z1_0, z1_1, Bool.and_self, Bool.true_and, Bool.and_true, nI_add, pk_mul, nI_clamp, decide_true, Nat.le_refl, bI_eq, bI_z1, nI_ltI, nI_leI, pk_L, cc_L, g8, g7]
                        refine go_at (blk := b_Model_cut_134) rfl ?_
                        simp (disch := omega) only [b_Model_cut_134, be_1, be_0, List.getD_cons_zero, List.getD_cons_succ, List.set_cons_zero, List.set_cons_succ, List.length_cons, List.length_nil, pk_I, pk_A, pr_A, pi_I, st_s, st_n, if_true, if_false, eq_self, d_if, d_ju, d_re, d_ca, cat0, cat1, cat2, cat3, fr_z, fr_s, cc_I, cc_A, cc_N, Nat.reduceAdd, Nat.reduceLT, Nat.reduceLeDiff, Nat.reduceEqDiff, not_true, not_false_iff, z1_0, z1_1, Bool.and_self, Bool.true_and, Bool.and_true, nI_add, pk_mul, nI_clamp, decide_true, Nat.le_refl, bI_eq, bI_z1, nI_ltI, nI_leI, pk_L, cc_L, g8, g7]
                        refine go_at (blk := b_Model_cut_135) rfl ?_
                        simp (disch := omega) only [b_Model_cut_135, be_7, be_4, be_1, be_49_4, List.getD_cons_zero, List.getD_cons_succ, List.set_cons_zero, List.set_cons_succ, List.length_cons, List.length_nil, pk_I, pk_A, pr_A, pi_I, st_s, st_n, if_true, if_false, eq_self, d_if, d_ju, d_re, d_ca, cat0, cat1, cat2, cat3, fr_z, fr_s, cc_I, cc_A, cc_N, Nat.reduceAdd, Nat.reduceLT, Nat.reduceLeDiff, Nat.reduceEqDiff, not_true, not_false_iff, z1_0, z1_1, Bool.and_self, Bool.true_and, Bool.and_true, nI_add, pk_mul, nI_clamp, decide_true, Nat.le_refl, bI_eq, bI_z1, nI_ltI, nI_leI, pk_L, cc_L, g8, g7]
                        refine go_at (blk := b_Model_cut_179) rfl ?_
                        simp (disch := omega) only [b_Model_cut_179, be_6, be_4, be_1, be_5, be_57_4, kc_388, List.getD_cons_zero, List.getD_cons_succ, List.set_cons_zero, List.set_cons_succ, List.length_cons, List.length_nil, pk_I, pk_A, pr_A, pi_I, st_s, st_n, if_true, if_false, eq_self, d_if, d_ju, d_re, d_ca, cat0, cat1, cat2, cat3, fr_z, fr_s, cc_I, cc_A, cc_N, Nat.reduceAdd, Nat.reduceLT, Nat.reduceLeDiff, Nat.reduceEqDiff, not_true, not_false_iff, z1_0, z1_1, Bool.and_self, Bool.true_and, Bool.and_true, nI_add, pk_mul, nI_clamp, decide_true, Nat.le_refl, bI_eq, bI_z1, nI_ltI, nI_leI, pk_L, cc_L, g8, g7]
                        refine m_token ht10 (by omega) ?_
                        refine go_at (blk := b_Model_cut_189) rfl ?_
                        simp (disch := omega) only [b_Model_cut_189, be_4, be_12, be_7, be_51, List.getD_cons_zero, List.getD_cons_succ, List.set_cons_zero, List.set_cons_succ, List.length_cons, List.length_nil, pk_I, pk_A, pr_A, pi_I, st_s, st_n, if_true, if_false, eq_self, d_if, d_ju, d_re, d_ca, cat0, cat1, cat2, cat3, fr_z, fr_s, cc_I, cc_A, cc_N, Nat.reduceAdd, Nat.reduceLT, Nat.reduceLeDiff, Nat.reduceEqDiff, not_true, not_false_iff, z1_0, z1_1, Bool.and_self, Bool.true_and, Bool.and_true, nI_add, pk_mul, nI_clamp, decide_true, Nat.le_refl, bI_eq, bI_z1, nI_ltI, nI_leI, pk_L, cc_L, g8, g7]
                        refine go_at (blk := b_Model_cut_291) rfl ?_
                        simp (disch := omega) only [b_Model_cut_291, be_51, List.getD_cons_zero, List.getD_cons_succ, List.set_cons_zero, List.set_cons_succ, List.length_cons, List.length_nil, pk_I, pk_A, pr_A, pi_I, st_s, st_n, if_true, if_false, eq_self, d_if, d_ju, d_re, d_ca, cat0, cat1, cat2, cat3, fr_z, fr_s, cc_I, cc_A, cc_N, Nat.reduceAdd, Nat.reduceLT, Nat.reduceLeDiff, Nat.reduceEqDiff, not_true, not_false_iff, z1_0, z1_1, Bool.and_self, Bool.true_and, Bool.and_true, nI_add, pk_mul, nI_clamp, decide_true, Nat.le_refl, bI_eq, bI_z1, nI_ltI, nI_leI, pk_L, cc_L, g8, g7]
                        have hC2 := CI_s (y := lN (vlN b i (rl leB b len i))) (x := nI 0) (p := nI i) (k := nI 1) hC (by omega) (by unfold kkN; rw [hts, (tk_le hi2 hL).1, if_neg (by omega), wk_8 g9]) (by rw [hts]) (fun z => absurd z (by unfold kkN; rw [hts, (tk_le hi2 hL).1, if_neg (by omega), wk_8 g9]; omega)) (fun z => by unfold tkN; rw [hts])
                        rw [show i + rl leB b len i = tkX b len i from (tk_le hi2 hL).2.symm]
                        exact ih _ _ _ _ _ _ _ _ _ _ (by have := tx_gt (b := b) hi2; omega) ((tx_gt hi2).2) (by show bk b len (tkX b len i) = bk b len (tkX b len (tsN b len n)); rw [hts]) (hC2)
                      · have g8 : ¬ rl leB b len i ≤ 8 := by omega
                        rw [show min (rl leB b len i) 8 = 8 by omega]
                        refine go_at (blk := b_Model_cut_85) rfl ?_
                        simp (disch := omega) only [b_Model_cut_85, be_6, be_4, be_12, be_57_1, kc_388, List.getD_cons_zero, List.getD_cons_succ, List.set_cons_zero, List.set_cons_succ, List.length_cons, List.length_nil, pk_I, pk_A, pr_A, pi_I, st_s, st_n, if_true, if_false, eq_self, d_if, d_ju, d_re, d_ca, cat0, cat1, cat2, cat3, fr_z, fr_s, cc_I, cc_A, cc_N, Nat.reduceAdd, Nat.reduceLT, Nat.reduceLeDiff, Nat.reduceEqDiff, not_true, not_false_iff, z1_0, z1_1, Bool.and_self, Bool.true_and, Bool.and_true, nI_add, pk_mul, nI_clamp, decide_true, Nat.le_refl, bI_eq, bI_z1, nI_ltI, nI_leI, pk_L, cc_L, g8, g7]
                        refine m_byteAt (j := i + rl leB b len i) hx hl (by omega) ?_
                        refine go_at (blk := b_Model_cut_92) rfl ?_
                        simp (disch := omega) only [b_Model_cut_92, be_58_1, List.getD_cons_zero, List.getD_cons_succ, List.set_cons_zero, List.set_cons_succ, List.length_cons, List.length_nil, pk_I, pk_A, pr_A, pi_I, st_s, st_n, if_true, if_false, eq_self, d_if, d_ju, d_re, d_ca, cat0, cat1, cat2, cat3, fr_z, fr_s, cc_I, cc_A, cc_N, Nat.reduceAdd, Nat.reduceLT, Nat.reduceLeDiff, Nat.reduceEqDiff, not_true, not_false_iff, z1_0, z1_1, Bool.and_self, Bool.true_and, Bool.and_true, nI_add, pk_mul, nI_clamp, decide_true, Nat.le_refl, bI_eq, bI_z1, nI_ltI, nI_leI, pk_L, cc_L, g8, g7]
                        refine m_isLetter ?_
                        rw [(uB_le hy hi).2 rfl]
                        refine go_at (blk := b_Model_cut_95) rfl ?_
                        simp (disch := omega) only [b_Model_cut_95, be_50_0, List.getD_cons_zero, List.getD_cons_succ, List.set_cons_zero, List.set_cons_succ, List.length_cons, List.length_nil, pk_I, pk_A, pr_A, pi_I, st_s, st_n, if_true, if_false, eq_self, d_if, d_ju, d_re, d_ca, cat0, cat1, cat2, cat3, fr_z, fr_s, cc_I, cc_A, cc_N, Nat.reduceAdd, Nat.reduceLT, Nat.reduceLeDiff, Nat.reduceEqDiff, not_true, not_false_iff, z1_0, z1_1, Bool.and_self, Bool.true_and, Bool.and_true, nI_add, pk_mul, nI_clamp, decide_true, Nat.le_refl, bI_eq, bI_z1, nI_ltI, nI_leI, pk_L, cc_L, g8, g7]
                        refine go_at (blk := b_Model_cut_124) rfl ?_
                        simp (disch := omega) only [b_Model_cut_124, be_4, be_1, be_49_5, List.getD_cons_zero, List.getD_cons_succ, List.set_cons_zero, List.set_cons_succ, List.length_cons, List.length_nil, pk_I, pk_A, pr_A, pi_I, st_s, st_n, if_true, if_false, eq_self, d_if, d_ju, d_re, d_ca, cat0, cat1, cat2, cat3, fr_z, fr_s, cc_I, cc_A, cc_N, Nat.reduceAdd, Nat.reduceLT, Nat.reduceLeDiff, Nat.reduceEqDiff, not_true, not_false_iff, z1_0, z1_1, Bool.and_self, Bool.true_and, Bool.and_true, nI_add, pk_mul, nI_clamp, decide_true, Nat.le_refl, bI_eq, bI_z1, nI_ltI, nI_leI, pk_L, cc_L, g8, g7]
                        refine go_at (blk := b_Model_cut_130) rfl ?_
                        simp (disch := omega) only [b_Model_cut_130, be_1, be_51, List.getD_cons_zero, List.getD_cons_succ, List.set_cons_zero, List.set_cons_succ, List.length_cons, List.length_nil, pk_I, pk_A, pr_A, pi_I, st_s, st_n, if_true, if_false, eq_self, d_if, d_ju, d_re, d_ca, cat0, cat1, cat2, cat3, fr_z, fr_s, cc_I, cc_A, cc_N, Nat.reduceAdd, Nat.reduceLT, Nat.reduceLeDiff, Nat.reduceEqDiff, not_true, not_false_iff, z1_0, z1_1, Bool.and_self, Bool.true_and, Bool.and_true, nI_add, pk_mul, nI_clamp, decide_true, Nat.le_refl, bI_eq, bI_z1, nI_ltI, nI_leI, pk_L, cc_L, g8, g7]
                        refine go_at (blk := b_Model_cut_135) rfl ?_
                        simp (disch := omega) only [b_Model_cut_135, be_7, be_4, be_1, be_49_4, List.getD_cons_zero, List.getD_cons_succ, List.set_cons_zero, List.set_cons_succ, List.length_cons, List.length_nil, pk_I, pk_A, pr_A, pi_I, st_s, st_n, if_true, if_false, eq_self, d_if, d_ju, d_re, d_ca, cat0, cat1, cat2, cat3, fr_z, fr_s, cc_I, cc_A, cc_N, Nat.reduceAdd, Nat.reduceLT, Nat.reduceLeDiff, Nat.reduceEqDiff, not_true, not_false_iff, z1_0, z1_1, Bool.and_self, Bool.true_and, Bool.and_true, nI_add, pk_mul, nI_clamp, decide_true, Nat.le_refl, bI_eq, bI_z1, nI_ltI, nI_leI, pk_L, cc_L, g8, g7]
                        refine go_at (blk := b_Model_cut_179) rfl ?_
                        simp (disch := omega) only [b_Model_cut_179, be_6, be_4, be_1, be_5, be_57_4, kc_388, List.getD_cons_zero, List.getD_cons_succ, List.set_cons_zero, List.set_cons_succ, List.length_cons, List.length_nil, pk_I, pk_A, pr_A, pi_I, st_s, st_n, if_true, if_false, eq_self, d_if, d_ju, d_re, d_ca, cat0, cat1, cat2, cat3, fr_z, fr_s, cc_I, cc_A, cc_N, Nat.reduceAdd, Nat.reduceLT, Nat.reduceLeDiff, Nat.reduceEqDiff, not_true, not_false_iff, z1_0, z1_1, Bool.and_self, Bool.true_and, Bool.and_true, nI_add, pk_mul, nI_clamp, decide_true, Nat.le_refl, bI_eq, bI_z1, nI_ltI, nI_leI, pk_L, cc_L, g8, g7]
                        refine m_token ht10 (by omega) ?_
                        refine go_at (blk := b_Model_cut_189) rfl ?_
                        simp (disch := omega) only [b_Model_cut_189, be_4, be_12, be_7, be_51, List.getD_cons_zero, List.getD_cons_succ, List.set_cons_zero, List.set_cons_succ, List.length_cons, List.length_nil, pk_I, pk_A, pr_A, pi_I, st_s, st_n, if_true, if_false, eq_self, d_if, d_ju, d_re, d_ca, cat0, cat1, cat2, cat3, fr_z, fr_s, cc_I, cc_A, cc_N, Nat.reduceAdd, Nat.reduceLT, Nat.reduceLeDiff, Nat.reduceEqDiff, not_true, not_false_iff, z1_0, z1_1, Bool.and_self, Bool.true_and, Bool.and_true, nI_add, pk_mul, nI_clamp, decide_true, Nat.le_refl, bI_eq, bI_z1, nI_ltI, nI_leI, pk_L, cc_L, g8, g7]
                        refine go_at (blk := b_Model_cut_291) rfl ?_
                        simp (disch := omega) only [b_Model_cut_291, be_51, List.getD_cons_zero, List.getD_cons_succ, List.set_cons_zero, List.set_cons_succ, List.length_cons, List.length_nil, pk_I, pk_A, pr_A, pi_I, st_s, st_n, if_true, if_false, eq_self, d_if, d_ju, d_re, d_ca, cat0, cat1, cat2, cat3, fr_z, fr_s, cc_I, cc_A, cc_N, Nat.reduceAdd, Nat.reduceLT, Nat.reduceLeDiff, Nat.reduceEqDiff, not_true, not_false_iff, z1_0, z1_1, Bool.and_self, Bool.true_and, Bool.and_true, nI_add, pk_mul, nI_clamp, decide_true, Nat.le_refl, bI_eq, bI_z1, nI_ltI, nI_leI, pk_L, cc_L, g8, g7]
                        have hC2 := CI_s (y := lN (vlN b i 8)) (x := nI 0) (p := nI i) (k := nI 3) hC (by omega) (by unfold kkN; rw [hts, (tk_le hi2 hL).1, if_pos (by omega)]) (by rw [hts]) (fun z => absurd z (by unfold kkN; rw [hts, (tk_le hi2 hL).1, if_pos (by omega)]; omega)) (fun z => absurd z (by unfold kkN; rw [hts, (tk_le hi2 hL).1, if_pos (by omega)]; omega))
                        rw [show i + rl leB b len i = tkX b len i from (tk_le hi2 hL).2.symm]
                        exact ih _ _ _ _ _ _ _ _ _ _ (by have := tx_gt (b := b) hi2; omega) ((tx_gt hi2).2) (by show bk b len (tkX b len i) = bk b len (tkX b len (tsN b len n)); rw [hts]) (hC2)
              · rename_i g3
                have hb1 : blB (b i) = true := by rw [← hu.2.2.1]; unfold blB; rw [decide_eq_true (Decidable.not_not.mp g3)]; simp
                refine go_at (blk := b_Model_cut_67) rfl ?_
                simp (disch := omega) only [b_Model_cut_67, be_10, be_51, List.getD_cons_zero, List.getD_cons_succ, List.set_cons_zero, List.set_cons_succ, List.length_cons, List.length_nil, pk_I, pk_A, pr_A, pi_I, st_s, st_n, if_true, if_false, eq_self, d_if, d_ju, d_re, d_ca, cat0, cat1, cat2, cat3, fr_z, fr_s, cc_I, cc_A, cc_N, Nat.reduceAdd, Nat.reduceLT, Nat.reduceLeDiff, Nat.reduceEqDiff, not_true, not_false_iff, z1_0, z1_1, Bool.and_self, Bool.true_and, Bool.and_true, nI_add, pk_mul, nI_clamp, decide_true, Nat.le_refl, bI_eq, bI_z1, nI_ltI, nI_leI, pk_L, cc_L, ht10, hn4, h84]
                refine go_at (blk := b_Model_cut_291) rfl ?_
                simp (disch := omega) only [b_Model_cut_291, be_51, List.getD_cons_zero, List.getD_cons_succ, List.set_cons_zero, List.set_cons_succ, List.length_cons, List.length_nil, pk_I, pk_A, pr_A, pi_I, st_s, st_n, if_true, if_false, eq_self, d_if, d_ju, d_re, d_ca, cat0, cat1, cat2, cat3, fr_z, fr_s, cc_I, cc_A, cc_N, Nat.reduceAdd, Nat.reduceLT, Nat.reduceLeDiff, Nat.reduceEqDiff, not_true, not_false_iff, z1_0, z1_1, Bool.and_self, Bool.true_and, Bool.and_true, nI_add, pk_mul, nI_clamp, decide_true, Nat.le_refl, bI_eq, bI_z1, nI_ltI, nI_leI, pk_L, cc_L, ht10, hn4, h84]
                exact ih _ _ _ _ _ _ _ _ _ _ (by omega) (by omega) (by rw [bk_s hi2 hb1]; exact hbk) (hC)
      · rename_i hi2
        refine go_at (blk := b_Model_cut_31) rfl ?_
        simp (disch := omega) only [b_Model_cut_31, be_6, be_1, be_33, be_3, be_57_4, kc_388, List.getD_cons_zero, List.getD_cons_succ, List.set_cons_zero, List.set_cons_succ, List.length_cons, List.length_nil, pk_I, pk_A, pr_A, pi_I, st_s, st_n, if_true, if_false, eq_self, d_if, d_ju, d_re, d_ca, cat0, cat1, cat2, cat3, fr_z, fr_s, cc_I, cc_A, cc_N, Nat.reduceAdd, Nat.reduceLT, Nat.reduceLeDiff, Nat.reduceEqDiff, not_true, not_false_iff, z1_0, z1_1, Bool.and_self, Bool.true_and, Bool.and_true, nI_add, pk_mul, nI_clamp, decide_true, Nat.le_refl, bI_eq, bI_z1, nI_ltI, nI_leI, pk_L, cc_L, ht10, hn4, h84]
        refine m_token ht10 (by omega) ?_
        refine go_at (blk := b_Model_cut_42) rfl ?_
        simp (disch := omega) only [b_Model_cut_42, be_56, List.getD_cons_zero, List.getD_cons_succ, List.set_cons_zero, List.set_cons_succ, List.length_cons, List.length_nil, pk_I, pk_A, pr_A, pi_I, st_s, st_n, if_true, if_false, eq_self, d_if, d_ju, d_re, d_ca, cat0, cat1, cat2, cat3, fr_z, fr_s, cc_I, cc_A, cc_N, Nat.reduceAdd, Nat.reduceLT, Nat.reduceLeDiff, Nat.reduceEqDiff, not_true, not_false_iff, z1_0, z1_1, Bool.and_self, Bool.true_and, Bool.and_true, nI_add, pk_mul, nI_clamp, decide_true, Nat.le_refl, bI_eq, bI_z1, nI_ltI, nI_leI, pk_L, cc_L, ht10, hn4, h84]
        have hil : i = len := by omega
        have hts : tsN b len n = len := by rw [← hbk, hil]; unfold bk; rw [rl_e (Nat.le_refl _)]; rfl
        have hk0 : kkN b len n = 0 := tk_e (by omega)
        have hC2 := CI_s (y := lN 0) (x := nI 0) (p := nI len) (k := nI 0) hC (by omega) (by rw [hk0]) (by rw [hts]) (fun z => by rw [hk0] at z; omega) (fun z => by rw [hk0] at z; omega)
        exact hQ _ _ hC2.1 hC2.2.1 (fun L hL j hj => hC2.2.2.2.2 j (by
          have : L ≤ n := Nat.le_of_not_lt (fun z => (hL.2.1 n z).1 hk0)
          omega))
set_option maxHeartbeats 1000000 in
theorem m_cut {d : Nat} {v : Nat → Nat → Int32} {w : Nat → Nat → Int64} {Q : Option Value → am_H → Prop} {b : Nat → Int32} {len : Nat} (hy : BY b len) (hl : len ≤ 2000) (hx : TXm v b len) (hkey : ∀ k, k < 17 → w 395 k = lN (keyN k)) (hQ : ∀ v' w', CF v v' → (∀ c, c ≠ 394 → w' c = w c) → (∀ L, LX b len L → ∀ j, j ≤ L → M1 v' w' b len j) → Q none (428, 26053, KD, RF, v', w')) : am_Ca (d + 3) M_Model_cut [.ref 388] (428, 26053, KD, RF, v, w) Q := by
  have hx1 : TXm (am_u v 388 10 (nI 0)) b len := ⟨by rw [am_u_at, upd_ne (by omega)]; exact hx.1, fun j hj => by rw [am_u_ne (by omega)]; exact hx.2 j hj⟩
  have hQ1 : ∀ v' w', CF (am_u v 388 10 (nI 0)) v' → (∀ c, c ≠ 394 → w' c = w c) → (∀ L, LX b len L → ∀ j, j ≤ L → M1 v' w' b len j) → Q none (428, 26053, KD, RF, v', w') := fun v' w' h1 h2 h3 => hQ v' w' ⟨fun c c1 c2 c3 c4 => by rw [h1.1 c c1 c2 c3 c4, am_u_ne c4], fun k hk => by rw [h1.2 k hk, am_u_at, upd_ne hk]⟩ h2 h3
  refine ca_in (k := k_Model_cut) (nL := 8) rfl (Nat.le_of_ble_eq_true rfl) ?_
  show am_Go am_X0 _ k_Model_cut 0 ([.ref 388, .null, .null, .null, .null, .null, .null, .null], [], _) _
  refine go_at (blk := b_Model_cut_0) rfl ?_
  simp (disch := omega) only [b_Model_cut_0, be_6, be_1, be_35, be_7, be_0, kc_388, List.getD_cons_zero, List.getD_cons_succ, List.set_cons_zero, List.set_cons_succ, List.length_cons, List.length_nil, pk_I, pk_A, pr_A, pi_I, st_s, st_n, if_true, if_false, eq_self, d_if, d_ju, d_re, d_ca, cat0, cat1, cat2, cat3, fr_z, fr_s, cc_I, cc_A, cc_N, Nat.reduceAdd, Nat.reduceLT, Nat.reduceLeDiff, Nat.reduceEqDiff, not_true, not_false_iff, z1_0, z1_1, Bool.and_self, Bool.true_and, Bool.and_true, nI_add, pk_mul, nI_clamp, decide_true, Nat.le_refl, bI_eq, bI_z1]
  exact m_cutL hy hl hx1 hkey hQ1 (len + 1) 0 0 _ w _ _ _ _ _ _ (by omega) (Nat.zero_le _) rfl ⟨⟨fun _ _ _ _ _ => rfl, fun _ _ => rfl⟩, fun _ _ => rfl, by rw [am_u_at, upd_at], by omega, fun j hj => absurd hj (Nat.not_lt_zero _)⟩
