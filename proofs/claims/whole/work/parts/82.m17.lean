/-! laid by wip/whole/m17.py: the reference: keeps -/
/-- what is kept of what was -/
def HX (v : Nat → Nat → Int32) (sz : Nat) (h : Nat → Nat → Int32) : Prop := v 388 51 = nI sz ∧ sz ≤ 50 ∧ ∀ j, j < sz → ∀ k, k < 50 → v 420 (50 * (sz - 1 - j) + k) = h j k
def MK (v v' : Nat → Nat → Int32) : Prop := (∀ c, c ≠ 416 → c ≠ 417 → c ≠ 418 → c ≠ 419 → c ≠ 420 → c ≠ 388 → v' c = v c) ∧ ∀ k, k ≠ 46 → k ≠ 49 → k ≠ 50 → k ≠ 51 → v' 388 k = v 388 k
theorem MK_t {v v' v'' : Nat → Nat → Int32} (h : MK v v') (h' : MK v' v'') : MK v v'' := ⟨fun c a1 a2 a3 a4 a5 a6 => (h'.1 c a1 a2 a3 a4 a5 a6).trans (h.1 c a1 a2 a3 a4 a5 a6), fun k a1 a2 a3 a4 => (h'.2 k a1 a2 a3 a4).trans (h.2 k a1 a2 a3 a4)⟩
theorem MK_f {v v' : Nat → Nat → Int32} (h : MF v v') : MK v v' := ⟨fun c a1 a2 _ a4 _ a6 => h.1 c a1 a2 a4 a6, fun k a1 a2 a3 _ => h.2.1 k a1 a2 a3⟩
theorem HX_f {v v' : Nat → Nat → Int32} {sz : Nat} {h : Nat → Nat → Int32} (hh : HX v sz h) (e : MF v v') : HX v' sz h := by
  unfold HX at *
  rw [e.1 420 (by omega) (by omega) (by omega) (by omega), e.2.1 51 (by omega) (by omega) (by omega)]
  exact hh
def plR (a b : Nat → Int32) (o i j : Nat) : Int32 := if o ≤ j ∧ j < o + i then a (j - o) else b j
theorem pl_0 {a b : Nat → Int32} {o : Nat} : plR a b o 0 = b := by
  funext j
  exact if_neg (by omega)
theorem pl_s {a b : Nat → Int32} {o i : Nat} : upd (plR a b o i) (o + i) (a i) = plR a b o (i + 1) := by
  funext j
  unfold upd plR
  by_cases h : j = o + i
  · rw [if_pos h, if_pos (by omega), h, show o + i - o = i by omega]
  · rw [if_neg h]
    by_cases h2 : o ≤ j ∧ j < o + i
    · rw [if_pos h2, if_pos (by omega)]
    · rw [if_neg h2, if_neg (by omega)]
def shR (b : Nat → Int32) (i j : Nat) : Int32 := if j < i then b (j + 50) else b j
theorem sh_0 {b : Nat → Int32} : shR b 0 = b := by
  funext j
  exact if_neg (by omega)
theorem sh_r {b : Nat → Int32} {i : Nat} : shR b i (i + 50) = b (i + 50) := if_neg (by omega)
theorem sh_s {b : Nat → Int32} {i : Nat} : upd (shR b i) i (b (i + 50)) = shR b (i + 1) := by
  funext j
  unfold upd shR
  by_cases h : j = i
  · rw [if_pos h, if_pos (by omega), h]
  · rw [if_neg h]
    by_cases h2 : j < i
    · rw [if_pos h2, if_pos (by omega)]
    · rw [if_neg h2, if_neg (by omega)]
set_option maxHeartbeats 1000000 in
theorem r_keepB {d : Nat} {v : Nat → Nat → Int32} {w : Nat → Nat → Int64} {Q : Option Value → am_H → Prop} {f g : Nat → Int32} {y : Value} {u : Nat} {h : Nat → Nat → Int32} (hy : am_cc y = true) (hu : u ≤ 49) (h418 : v 418 = f) (h419 : v 419 = g) (hz : ∀ j, 50 ≤ j → g j = f j) (h51 : v 388 51 = nI u) (hh : ∀ j, j < u → ∀ k, k < 50 → v 420 (50 * (u - 1 - j) + k) = h j k) (hQ : ∀ v', MK v v' → v' 418 = g → v' 419 = g → HX v' (u + 1) (coH f h) → Q none (428, 26053, KD, RF, v', w)) : am_Go am_X0 d k_Model_keeps 49 ([.ref 388, y], [], (428, 26053, KD, RF, v, w)) Q := by
  refine go_at (blk := b_Model_keeps_49) rfl ?_
  simp (disch := omega) only [b_Model_keeps_49, be_1, be_7, be_0, List.getD_cons_zero, List.getD_cons_succ, List.set_cons_zero, List.set_cons_succ, List.length_cons, List.length_nil, pk_I, pk_A, pr_A, pi_I, st_s, st_n, if_true, if_false, eq_self, d_if, d_ju, d_re, d_ca, cat0, cat1, cat2, cat3, fr_z, fr_s, cc_I, cc_A, cc_N, Nat.reduceAdd, Nat.reduceLT, Nat.reduceLeDiff, Nat.reduceEqDiff, not_true, not_false_iff, z1_0, z1_1, Bool.and_self, Bool.true_and, Bool.and_true, nI_add, pk_mul, nI_clamp, decide_true, Nat.le_refl, bI_eq, bI_z1, hy]
  have e0 : sA v 420 (plR f (v 420) (50 * u) 0) = v := by rw [pl_0, sA_self]
  have hh1 : am_Go am_X0 d k_Model_keeps 51 ([.ref 388, .int (nI 0)], [], (428, 26053, KD, RF, sA v 420 (plR f (v 420) (50 * u) 0), w)) Q := by
    refine go_loopA (α := Unit) (fun i u2 => ([.ref 388, .int (nI i)], [], (428, 26053, KD, RF, sA v 420 (plR f (v 420) (50 * u) i), w))) (fun i u2 => True) (50) ?_ ?_ () trivial
    · intro i _ hi _ ih
      try dsimp only at *
      have hni : ¬ 50 ≤ i := by omega
      refine go_at (blk := b_Model_keeps_51) rfl ?_
      simp (disch := omega) only [b_Model_keeps_51, be_4, be_1, be_49_3, List.getD_cons_zero, List.getD_cons_succ, List.set_cons_zero, List.set_cons_succ, List.length_cons, List.length_nil, pk_I, pk_A, pr_A, pi_I, st_s, st_n, if_true, if_false, eq_self, d_if, d_ju, d_re, d_ca, cat0, cat1, cat2, cat3, fr_z, fr_s, cc_I, cc_A, cc_N, Nat.reduceAdd, Nat.reduceLT, Nat.reduceLeDiff, Nat.reduceEqDiff, not_true, not_false_iff, z1_0, z1_1, Bool.and_self, Bool.true_and, Bool.and_true, nI_add, pk_mul, nI_clamp, decide_true, Nat.le_refl, bI_eq, bI_z1, nI_ltI, nI_leI, sA_ne, sA_at, sA_u, pl_s, h418, h51, hni]
      refine go_at (blk := b_Model_keeps_57) rfl ?_
      simp (disch := omega) only [b_Model_keeps_57, be_6, be_34, be_1, be_33, be_14, be_4, be_12, be_38, be_43, be_10, be_51, kc_388, rf_388_52, rf_388_47, ka_418, ka_420, List.getD_cons_zero, List.getD_cons_succ, List.set_cons_zero, List.set_cons_succ, List.length_cons, List.length_nil, pk_I, pk_A, pr_A, pi_I, st_s, st_n, if_true, if_false, eq_self, d_if, d_ju, d_re, d_ca, cat0, cat1, cat2, cat3, fr_z, fr_s, cc_I, cc_A, cc_N, Nat.reduceAdd, Nat.reduceLT, Nat.reduceLeDiff, Nat.reduceEqDiff, not_true, not_false_iff, z1_0, z1_1, Bool.and_self, Bool.true_and, Bool.and_true, nI_add, pk_mul, nI_clamp, decide_true, Nat.le_refl, bI_eq, bI_z1, nI_ltI, nI_leI, sA_ne, sA_at, sA_u, pl_s, h418, h51, hni]
      exact ih () trivial
    · intro _ _
      try dsimp only at *
      refine go_at (blk := b_Model_keeps_51) rfl ?_
      simp (disch := omega) only [b_Model_keeps_51, be_4, be_1, be_49_3, List.getD_cons_zero, List.getD_cons_succ, List.set_cons_zero, List.set_cons_succ, List.length_cons, List.length_nil, pk_I, pk_A, pr_A, pi_I, st_s, st_n, if_true, if_false, eq_self, d_if, d_ju, d_re, d_ca, cat0, cat1, cat2, cat3, fr_z, fr_s, cc_I, cc_A, cc_N, Nat.reduceAdd, Nat.reduceLT, Nat.reduceLeDiff, Nat.reduceEqDiff, not_true, not_false_iff, z1_0, z1_1, Bool.and_self, Bool.true_and, Bool.and_true, nI_add, pk_mul, nI_clamp, decide_true, Nat.le_refl, bI_eq, bI_z1, nI_ltI, nI_leI, sA_ne, sA_at, h51]
      refine go_at (blk := b_Model_keeps_83) rfl ?_
      simp (disch := omega) only [b_Model_keeps_83, be_6, be_30I, be_30A, be_33, be_1, be_12, be_35, be_7, be_0, kc_388, List.getD_cons_zero, List.getD_cons_succ, List.set_cons_zero, List.set_cons_succ, List.length_cons, List.length_nil, pk_I, pk_A, pr_A, pi_I, st_s, st_n, if_true, if_false, eq_self, d_if, d_ju, d_re, d_ca, cat0, cat1, cat2, cat3, fr_z, fr_s, cc_I, cc_A, cc_N, Nat.reduceAdd, Nat.reduceLT, Nat.reduceLeDiff, Nat.reduceEqDiff, not_true, not_false_iff, z1_0, z1_1, Bool.and_self, Bool.true_and, Bool.and_true, nI_add, pk_mul, nI_clamp, decide_true, Nat.le_refl, bI_eq, bI_z1, nI_ltI, nI_leI, sA_ne, sA_at, h51]
      obtain ⟨v2, hv2⟩ : ∃ v2, v2 = am_u (sA v 420 (plR f (v 420) (50 * u) 50)) 388 51 (nI (u + 1)) := ⟨_, rfl⟩
      rw [← hv2]
      have g419 : v2 419 = g := by rw [hv2, am_u_ne (by omega), sA_ne (by omega)]; exact h419
      have g418 : v2 418 = f := by rw [hv2, am_u_ne (by omega), sA_ne (by omega)]; exact h418
      have e0 : sA v2 418 (cpR g f 0) = v2 := by rw [cp_0, ← g418, sA_self]
      have hh2 : am_Go am_X0 d k_Model_keeps 95 ([.ref 388, .int (nI 0)], [], (428, 26053, KD, RF, sA v2 418 (cpR g f 0), w)) Q := by
        refine go_loopA (α := Unit) (fun i u => ([.ref 388, .int (nI i)], [], (428, 26053, KD, RF, sA v2 418 (cpR g f i), w))) (fun i u => True) (50) ?_ ?_ () trivial
        · intro i _ hi _ ih
          try dsimp only at *
          have hni : ¬ 50 ≤ i := by omega
          refine go_at (blk := b_Model_keeps_95) rfl ?_
          simp (disch := omega) only [b_Model_keeps_95, be_4, be_1, be_49_3, List.getD_cons_zero, List.getD_cons_succ, List.set_cons_zero, List.set_cons_succ, List.length_cons, List.length_nil, pk_I, pk_A, pr_A, pi_I, st_s, st_n, if_true, if_false, eq_self, d_if, d_ju, d_re, d_ca, cat0, cat1, cat2, cat3, fr_z, fr_s, cc_I, cc_A, cc_N, Nat.reduceAdd, Nat.reduceLT, Nat.reduceLeDiff, Nat.reduceEqDiff, not_true, not_false_iff, z1_0, z1_1, Bool.and_self, Bool.true_and, Bool.and_true, nI_add, pk_mul, nI_clamp, decide_true, Nat.le_refl, bI_eq, bI_z1, nI_ltI, nI_leI, sA_ne, sA_at, sA_u, cp_s, g419, hni]
          refine go_at (blk := b_Model_keeps_101) rfl ?_
          simp (disch := omega) only [b_Model_keeps_101, be_6, be_34, be_4, be_38, be_43, be_10, be_51, kc_388, rf_388_47, rf_388_48, ka_419, ka_418, List.getD_cons_zero, List.getD_cons_succ, List.set_cons_zero, List.set_cons_succ, List.length_cons, List.length_nil, pk_I, pk_A, pr_A, pi_I, st_s, st_n, if_true, if_false, eq_self, d_if, d_ju, d_re, d_ca, cat0, cat1, cat2, cat3, fr_z, fr_s, cc_I, cc_A, cc_N, Nat.reduceAdd, Nat.reduceLT, Nat.reduceLeDiff, Nat.reduceEqDiff, not_true, not_false_iff, z1_0, z1_1, Bool.and_self, Bool.true_and, Bool.and_true, nI_add, pk_mul, nI_clamp, decide_true, Nat.le_refl, bI_eq, bI_z1, nI_ltI, nI_leI, sA_ne, sA_at, sA_u, cp_s, g419, hni]
          exact ih () trivial
        · intro _ _
          try dsimp only at *
          rw [cp_e (fun j hj => (hz j hj).symm)]
          have e1 : MK v (sA v2 418 g) := ⟨fun c _ _ c3 _ c5 c6 => by rw [sA_ne c3, hv2, am_u_ne c6, sA_ne c5], fun k _ _ _ k4 => by rw [sA_ne (by omega), hv2, am_u_at, upd_ne k4, sA_ne (by omega)]⟩
          have e2 : sA v2 418 g 418 = g := sA_at
          have e3 : sA v2 418 g 419 = g := by rw [sA_ne (by omega)]; exact g419
          have e4 : HX (sA v2 418 g) (u + 1) (coH f h) := by
            refine ⟨by rw [sA_ne (by omega), hv2, am_u_at, upd_at], by omega, fun j hj k hk => ?_⟩
            rw [sA_ne (by omega), hv2, am_u_ne (by omega), sA_at]
            cases j with
            | zero =>
              unfold plR
              rw [if_pos (by omega), show 50 * (u + 1 - 1 - 0) + k - 50 * u = k by omega]
              rfl
            | succ j =>
              unfold plR
              rw [if_neg (by omega), show 50 * (u + 1 - 1 - (j + 1)) + k = 50 * (u - 1 - j) + k by omega]
              exact hh j (by omega) k hk
          refine go_at (blk := b_Model_keeps_95) rfl ?_
          simp (disch := omega) only [b_Model_keeps_95, be_4, be_1, be_49_3, List.getD_cons_zero, List.getD_cons_succ, List.set_cons_zero, List.set_cons_succ, List.length_cons, List.length_nil, pk_I, pk_A, pr_A, pi_I, st_s, st_n, if_true, if_false, eq_self, d_if, d_ju, d_re, d_ca, cat0, cat1, cat2, cat3, fr_z, fr_s, cc_I, cc_A, cc_N, Nat.reduceAdd, Nat.reduceLT, Nat.reduceLeDiff, Nat.reduceEqDiff, not_true, not_false_iff, z1_0, z1_1, Bool.and_self, Bool.true_and, Bool.and_true, nI_add, pk_mul, nI_clamp, decide_true, Nat.le_refl, bI_eq, bI_z1, nI_ltI, nI_leI]
          refine go_at (blk := b_Model_keeps_119) rfl ?_
          simp (disch := omega) only [b_Model_keeps_119, be_56, List.getD_cons_zero, List.getD_cons_succ, List.set_cons_zero, List.set_cons_succ, List.length_cons, List.length_nil, pk_I, pk_A, pr_A, pi_I, st_s, st_n, if_true, if_false, eq_self, d_if, d_ju, d_re, d_ca, cat0, cat1, cat2, cat3, fr_z, fr_s, cc_I, cc_A, cc_N, Nat.reduceAdd, Nat.reduceLT, Nat.reduceLeDiff, Nat.reduceEqDiff, not_true, not_false_iff, z1_0, z1_1, Bool.and_self, Bool.true_and, Bool.and_true, nI_add, pk_mul, nI_clamp, decide_true, Nat.le_refl, bI_eq, bI_z1, nI_ltI, nI_leI]
          exact hQ _ e1 e2 e3 e4
      rw [e0] at hh2
      exact hh2
  rw [e0] at hh1
  exact hh1
set_option maxHeartbeats 1000000 in
theorem r_keeps {d : Nat} {v : Nat → Nat → Int32} {w : Nat → Nat → Int64} {Q : Option Value → am_H → Prop} {f g : Nat → Int32} {sz : Nat} {h : Nat → Nat → Int32} (h418 : v 418 = f) (h419 : v 419 = g) (hz : ∀ j, 50 ≤ j → g j = f j) (hH : HX v sz h) (hQ : ∀ v', MK v v' → v' 418 = g → v' 419 = g → HX v' (if sz < 50 then sz + 1 else 50) (coH f h) → Q none (428, 26053, KD, RF, v', w)) : am_Ca (d + 1) M_Model_keeps [.ref 388] (428, 26053, KD, RF, v, w) Q := by
  have h51 := hH.1
  refine ca_in (k := k_Model_keeps) (nL := 2) rfl (Nat.le_of_ble_eq_true rfl) ?_
  show am_Go am_X0 _ k_Model_keeps 0 ([.ref 388, .null], [], _) _
  refine go_at (blk := b_Model_keeps_0) rfl ?_
  simp (disch := omega) only [b_Model_keeps_0, be_6, be_33, be_1, be_49_1, kc_388, List.getD_cons_zero, List.getD_cons_succ, List.set_cons_zero, List.set_cons_succ, List.length_cons, List.length_nil, pk_I, pk_A, pr_A, pi_I, st_s, st_n, if_true, if_false, eq_self, d_if, d_ju, d_re, d_ca, cat0, cat1, cat2, cat3, fr_z, fr_s, cc_I, cc_A, cc_N, Nat.reduceAdd, Nat.reduceLT, Nat.reduceLeDiff, Nat.reduceEqDiff, not_true, not_false_iff, z1_0, z1_1, Bool.and_self, Bool.true_and, Bool.and_true, nI_add, pk_mul, nI_clamp, decide_true, Nat.le_refl, bI_eq, bI_z1, h51]
  split
  · rename_i hs
    have hs5 : sz ≠ 50 := fun z => hs (by rw [z])
    rw [if_pos (by have := hH.2.1; omega)] at hQ
    exact r_keepB rfl (by have := hH.2.1; omega) h418 h419 hz h51 hH.2.2 hQ
  · rename_i hs
    have hs5 : sz = 50 := (nI_eq (by have := hH.2.1; omega) (by omega)).mp (Decidable.not_not.mp hs)
    subst hs5
    rw [if_neg (by omega)] at hQ
    refine go_at (blk := b_Model_keeps_9) rfl ?_
    simp (disch := omega) only [b_Model_keeps_9, be_1, be_7, be_0, List.getD_cons_zero, List.getD_cons_succ, List.set_cons_zero, List.set_cons_succ, List.length_cons, List.length_nil, pk_I, pk_A, pr_A, pi_I, st_s, st_n, if_true, if_false, eq_self, d_if, d_ju, d_re, d_ca, cat0, cat1, cat2, cat3, fr_z, fr_s, cc_I, cc_A, cc_N, Nat.reduceAdd, Nat.reduceLT, Nat.reduceLeDiff, Nat.reduceEqDiff, not_true, not_false_iff, z1_0, z1_1, Bool.and_self, Bool.true_and, Bool.and_true, nI_add, pk_mul, nI_clamp, decide_true, Nat.le_refl, bI_eq, bI_z1, h51]
    have e0 : sA v 420 (shR (v 420) 0) = v := by rw [sh_0, sA_self]
    have hh1 : am_Go am_X0 d k_Model_keeps 11 ([.ref 388, .int (nI 0)], [], (428, 26053, KD, RF, sA v 420 (shR (v 420) 0), w)) Q := by
      refine go_loopA (α := Unit) (fun i u2 => ([.ref 388, .int (nI i)], [], (428, 26053, KD, RF, sA v 420 (shR (v 420) i), w))) (fun i u2 => True) (2450) ?_ ?_ () trivial
      · intro i _ hi _ ih
        try dsimp only at *
        have hni : ¬ 2450 ≤ i := by omega
        refine go_at (blk := b_Model_keeps_11) rfl ?_
        simp (disch := omega) only [b_Model_keeps_11, be_4, be_1, be_49_3, List.getD_cons_zero, List.getD_cons_succ, List.set_cons_zero, List.set_cons_succ, List.length_cons, List.length_nil, pk_I, pk_A, pr_A, pi_I, st_s, st_n, if_true, if_false, eq_self, d_if, d_ju, d_re, d_ca, cat0, cat1, cat2, cat3, fr_z, fr_s, cc_I, cc_A, cc_N, Nat.reduceAdd, Nat.reduceLT, Nat.reduceLeDiff, Nat.reduceEqDiff, not_true, not_false_iff, z1_0, z1_1, Bool.and_self, Bool.true_and, Bool.and_true, nI_add, pk_mul, nI_clamp, decide_true, Nat.le_refl, bI_eq, bI_z1, nI_ltI, nI_leI, sA_ne, sA_at, sA_u, sh_r, sh_s, hni]
        refine go_at (blk := b_Model_keeps_18) rfl ?_
        simp (disch := omega) only [b_Model_keeps_18, be_6, be_34, be_4, be_1, be_12, be_38, be_43, be_10, be_51, kc_388, rf_388_52, ka_420, List.getD_cons_zero, List.getD_cons_succ, List.set_cons_zero, List.set_cons_succ, List.length_cons, List.length_nil, pk_I, pk_A, pr_A, pi_I, st_s, st_n, if_true, if_false, eq_self, d_if, d_ju, d_re, d_ca, cat0, cat1, cat2, cat3, fr_z, fr_s, cc_I, cc_A, cc_N, Nat.reduceAdd, Nat.reduceLT, Nat.reduceLeDiff, Nat.reduceEqDiff, not_true, not_false_iff, z1_0, z1_1, Bool.and_self, Bool.true_and, Bool.and_true, nI_add, pk_mul, nI_clamp, decide_true, Nat.le_refl, bI_eq, bI_z1, nI_ltI, nI_leI, sA_ne, sA_at, sA_u, sh_r, sh_s, hni]
        exact ih () trivial
      · intro _ _
        try dsimp only at *
        refine go_at (blk := b_Model_keeps_11) rfl ?_
        simp (disch := omega) only [b_Model_keeps_11, be_4, be_1, be_49_3, List.getD_cons_zero, List.getD_cons_succ, List.set_cons_zero, List.set_cons_succ, List.length_cons, List.length_nil, pk_I, pk_A, pr_A, pi_I, st_s, st_n, if_true, if_false, eq_self, d_if, d_ju, d_re, d_ca, cat0, cat1, cat2, cat3, fr_z, fr_s, cc_I, cc_A, cc_N, Nat.reduceAdd, Nat.reduceLT, Nat.reduceLeDiff, Nat.reduceEqDiff, not_true, not_false_iff, z1_0, z1_1, Bool.and_self, Bool.true_and, Bool.and_true, nI_add, pk_mul, nI_clamp, decide_true, Nat.le_refl, bI_eq, bI_z1, nI_ltI, nI_leI, sA_ne, sA_at, h51]
        refine go_at (blk := b_Model_keeps_39) rfl ?_
        simp (disch := omega) only [b_Model_keeps_39, be_6, be_30I, be_30A, be_33, be_1, be_13, be_35, be_0, kc_388, List.getD_cons_zero, List.getD_cons_succ, List.set_cons_zero, List.set_cons_succ, List.length_cons, List.length_nil, pk_I, pk_A, pr_A, pi_I, st_s, st_n, if_true, if_false, eq_self, d_if, d_ju, d_re, d_ca, cat0, cat1, cat2, cat3, fr_z, fr_s, cc_I, cc_A, cc_N, Nat.reduceAdd, Nat.reduceLT, Nat.reduceLeDiff, Nat.reduceEqDiff, not_true, not_false_iff, z1_0, z1_1, Bool.and_self, Bool.true_and, Bool.and_true, nI_add, pk_mul, nI_clamp, decide_true, Nat.le_refl, bI_eq, bI_z1, nI_ltI, nI_leI, sA_ne, sA_at, h51]
        have n49 : nI 50 - nI 1 = nI 49 := by decide
        rw [n49]
        refine r_keepB (f := f) (g := g) (u := 49) (h := h) rfl (by omega) (by rw [am_u_ne (by omega), sA_ne (by omega)]; exact h418) (by rw [am_u_ne (by omega), sA_ne (by omega)]; exact h419) hz (by rw [am_u_at, upd_at]) ?_ ?_
        · intro j hj k hk
          rw [am_u_ne (by omega), sA_at]
          unfold shR
          rw [if_pos (by omega), show 50 * (49 - 1 - j) + k + 50 = 50 * (50 - 1 - j) + k by omega]
          exact hH.2.2 j (by omega) k hk
        · intro v' m1 m2 m3 m4
          refine hQ v' (MK_t ⟨fun c _ _ _ _ c5 c6 => by rw [am_u_ne c6, sA_ne c5], fun k _ _ _ k4 => by rw [am_u_at, upd_ne k4, sA_ne (by omega)]⟩ m1) m2 m3 m4
    rw [e0] at hh1
    exact hh1
