/-! laid by wip/whole/m16.py: the reference: begins, keeps -/
def zR (_ : Nat) : Int32 := 0
theorem z0_s {b : Nat → Int32} {i : Nat} : upd (cpR zR b i) i (nI 0) = cpR zR b (i + 1) := cp_s (a := zR)
/-- the first i pilgrims of a row at its beginning -/
def bgR (T : TXT) (i j : Nat) : Int32 := if j < 40 ∧ j % 8 < i then bgT T j else 0
theorem bgR_0 {T : TXT} : bgR T 0 = zR := by
  funext j
  exact if_neg (by omega)
theorem bg_n {T : TXT} {i : Nat} (hi : i < 8) (h : tN T ≤ i) : upd (bgR T i) (32 + i) (nI 0) = bgR T (i + 1) := by
  funext j
  have e : ∀ q, q % 8 = i → q < 40 → bgT T q = 0 := by
    intro q h1 h2
    unfold bgT
    split
    · exact if_neg (by omega)
    · split
      · exact if_neg (by omega)
      · split
        · rfl
        · exact if_neg (by omega)
  unfold upd bgR
  by_cases h1 : j = 32 + i
  · rw [if_pos h1, if_pos (by omega), e j (by omega) (by omega)]
    rfl
  · rw [if_neg h1]
    by_cases h2 : j < 40 ∧ j % 8 < i
    · rw [if_pos h2, if_pos (by omega)]
    · rw [if_neg h2]
      by_cases h3 : j < 40 ∧ j % 8 < i + 1
      · rw [if_pos h3, e j (by omega) h3.1]
      · rw [if_neg h3]
theorem bg_p {T : TXT} {i : Nat} {a b c : Int32} (hi : i < 8) (ha : a = bgT T i) (hb : b = bgT T (8 + i)) (hc : c = bgT T (32 + i)) : upd (upd (upd (upd (bgR T i) (32 + i) (nI 0)) i a) (8 + i) b) (32 + i) c = bgR T (i + 1) := by
  funext j
  have e : ∀ q, 16 ≤ q → q < 32 → bgT T q = 0 := by
    intro q h1 h2
    unfold bgT
    rw [if_neg (by omega), if_neg (by omega), if_pos h2]
  unfold upd bgR
  by_cases h1 : j = 32 + i
  · rw [if_pos h1, if_pos (by omega), hc, h1]
  · rw [if_neg h1]
    by_cases h2 : j = 8 + i
    · rw [if_pos h2, if_pos (by omega), hb, h2]
    · rw [if_neg h2]
      by_cases h3 : j = i
      · rw [if_pos h3, if_pos (by omega), ha, h3]
      · rw [if_neg h3, if_neg h1]
        by_cases h4 : j < 40 ∧ j % 8 < i
        · rw [if_pos h4, if_pos (by omega)]
        · rw [if_neg h4]
          by_cases h5 : j < 40 ∧ j % 8 < i + 1
          · rw [if_pos h5, e j (by omega) (by omega)]
          · rw [if_neg h5]
theorem bgR_8 {T : TXT} : upd (bgR T 8) 40 (tO T) = bgT T := by
  funext j
  unfold upd bgR
  by_cases h1 : j = 40
  · rw [if_pos h1, h1]
    rfl
  · rw [if_neg h1]
    by_cases h2 : j < 40
    · rw [if_pos (by omega)]
    · rw [if_neg (by omega)]
      unfold bgT
      rw [if_neg (by omega), if_neg (by omega), if_neg (by omega), if_neg h2, if_neg h1]
theorem bgT_0 {T : TXT} {i : Nat} (h8 : i < 8) (hi : i < tN T) : bgT T i = if tP T i < tT T then tP T i else tT T := by
  unfold bgT
  rw [if_pos h8, if_pos hi]
theorem bgT_1 {T : TXT} {i : Nat} (h8 : i < 8) (hi : i < tN T) : bgT T (8 + i) = if tP T i < tT T then tL T i else 0 := by
  unfold bgT
  rw [if_neg (by omega), if_pos (by omega), show 8 + i - 8 = i by omega, if_pos hi]
theorem bgT_4 {T : TXT} {i : Nat} (h8 : i < 8) (hi : i < tN T) : bgT T (32 + i) = if tP T i < tT T then -1 else 0 := by
  unfold bgT
  rw [if_neg (by omega), if_neg (by omega), if_neg (by omega), if_pos (by omega), show 32 + i - 32 = i by omega, if_pos hi]
set_option maxHeartbeats 1000000 in
theorem r_begins {d : Nat} {v : Nat → Nat → Int32} {w : Nat → Nat → Int64} {Q : Option Value → am_H → Prop} {T : TXT} {lv : Nat} (hX : MX v T lv) (hG : GT T) (hz : ∀ j, 50 ≤ j → v 419 j = zR j) (hQ : ∀ v', MF v v' → MR v' (bgT T) (-1) 0 → Q none (428, 26053, KD, RF, v', w)) : am_Ca (d + 2) M_Model_begins [.ref 388] (428, 26053, KD, RF, v, w) Q := by
  obtain ⟨h18, hlv, k398, _⟩ := hX.1
  have h8 := hG.1
  have k397 := hX.2.1
  have k405 := hX.2.2.1
  refine ca_in (k := k_Model_begins) (nL := 4) rfl (Nat.le_of_ble_eq_true rfl) ?_
  show am_Go am_X0 _ k_Model_begins 0 ([.ref 388, .null, .null, .null], [], _) _
  refine go_at (blk := b_Model_begins_0) rfl ?_
  simp (disch := omega) only [b_Model_begins_0, be_1, be_7, be_0, List.getD_cons_zero, List.getD_cons_succ, List.set_cons_zero, List.set_cons_succ, List.length_cons, List.length_nil, pk_I, pk_A, pr_A, pi_I, st_s, st_n, if_true, if_false, eq_self, d_if, d_ju, d_re, d_ca, cat0, cat1, cat2, cat3, fr_z, fr_s, cc_I, cc_A, cc_N, Nat.reduceAdd, Nat.reduceLT, Nat.reduceLeDiff, Nat.reduceEqDiff, not_true, not_false_iff, z1_0, z1_1, Bool.and_self, Bool.true_and, Bool.and_true, nI_add, pk_mul, nI_clamp, decide_true, Nat.le_refl, bI_eq, bI_z1]
  have e0 : sA v 419 (cpR zR (v 419) 0) = v := by rw [cp_0, sA_self]
  have hh : am_Go am_X0 (d + 1) k_Model_begins 2 ([.ref 388, .int (nI 0), .null, .null], [], (428, 26053, KD, RF, sA v 419 (cpR zR (v 419) 0), w)) Q := by
    refine go_loopA (α := Unit) (fun i u => ([.ref 388, .int (nI i), .null, .null], [], (428, 26053, KD, RF, sA v 419 (cpR zR (v 419) i), w))) (fun i u => True) (50) ?_ ?_ () trivial
    · intro i _ hi _ ih
      try dsimp only at *
      have hni : ¬ 50 ≤ i := by omega
      refine go_at (blk := b_Model_begins_2) rfl ?_
      simp (disch := omega) only [b_Model_begins_2, be_4, be_1, be_49_3, List.getD_cons_zero, List.getD_cons_succ, List.set_cons_zero, List.set_cons_succ, List.length_cons, List.length_nil, pk_I, pk_A, pr_A, pi_I, st_s, st_n, if_true, if_false, eq_self, d_if, d_ju, d_re, d_ca, cat0, cat1, cat2, cat3, fr_z, fr_s, cc_I, cc_A, cc_N, Nat.reduceAdd, Nat.reduceLT, Nat.reduceLeDiff, Nat.reduceEqDiff, not_true, not_false_iff, z1_0, z1_1, Bool.and_self, Bool.true_and, Bool.and_true, nI_add, pk_mul, nI_clamp, decide_true, Nat.le_refl, bI_eq, bI_z1, nI_ltI, nI_leI, sA_ne, sA_at, sA_u, z0_s, hni]
      refine go_at (blk := b_Model_begins_8) rfl ?_
      simp (disch := omega) only [b_Model_begins_8, be_6, be_34, be_4, be_1, be_43, be_10, be_51, kc_388, rf_388_48, ka_419, List.getD_cons_zero, List.getD_cons_succ, List.set_cons_zero, List.set_cons_succ, List.length_cons, List.length_nil, pk_I, pk_A, pr_A, pi_I, st_s, st_n, if_true, if_false, eq_self, d_if, d_ju, d_re, d_ca, cat0, cat1, cat2, cat3, fr_z, fr_s, cc_I, cc_A, cc_N, Nat.reduceAdd, Nat.reduceLT, Nat.reduceLeDiff, Nat.reduceEqDiff, not_true, not_false_iff, z1_0, z1_1, Bool.and_self, Bool.true_and, Bool.and_true, nI_add, pk_mul, nI_clamp, decide_true, Nat.le_refl, bI_eq, bI_z1, nI_ltI, nI_leI, sA_ne, sA_at, sA_u, z0_s, hni]
      exact ih () trivial
    · intro _ _
      try dsimp only at *
      refine go_at (blk := b_Model_begins_2) rfl ?_
      simp (disch := omega) only [b_Model_begins_2, be_4, be_1, be_49_3, List.getD_cons_zero, List.getD_cons_succ, List.set_cons_zero, List.set_cons_succ, List.length_cons, List.length_nil, pk_I, pk_A, pr_A, pi_I, st_s, st_n, if_true, if_false, eq_self, d_if, d_ju, d_re, d_ca, cat0, cat1, cat2, cat3, fr_z, fr_s, cc_I, cc_A, cc_N, Nat.reduceAdd, Nat.reduceLT, Nat.reduceLeDiff, Nat.reduceEqDiff, not_true, not_false_iff, z1_0, z1_1, Bool.and_self, Bool.true_and, Bool.and_true, nI_add, pk_mul, nI_clamp, decide_true, Nat.le_refl, bI_eq, bI_z1, nI_ltI, nI_leI]
      refine go_at (blk := b_Model_begins_21) rfl ?_
      simp (disch := omega) only [b_Model_begins_21, be_1, be_7, be_0, List.getD_cons_zero, List.getD_cons_succ, List.set_cons_zero, List.set_cons_succ, List.length_cons, List.length_nil, pk_I, pk_A, pr_A, pi_I, st_s, st_n, if_true, if_false, eq_self, d_if, d_ju, d_re, d_ca, cat0, cat1, cat2, cat3, fr_z, fr_s, cc_I, cc_A, cc_N, Nat.reduceAdd, Nat.reduceLT, Nat.reduceLeDiff, Nat.reduceEqDiff, not_true, not_false_iff, z1_0, z1_1, Bool.and_self, Bool.true_and, Bool.and_true, nI_add, pk_mul, nI_clamp, decide_true, Nat.le_refl, bI_eq, bI_z1, nI_ltI, nI_leI]
      rw [cp_e hz, ← bgR_0 (T := T)]
      refine go_loopA (α := Value × Value) (fun i x => ([.ref 388, .int (nI i), x.1, x.2], [], (428, 26053, KD, RF, sA v 419 (bgR T i), w))) (fun i x => am_cc x.1 = true ∧ am_cc x.2 = true) (8) ?_ ?_ (.null, .null) ⟨rfl, rfl⟩
      · intro i x hi ⟨x1, x2⟩ ih
        try dsimp only at *
        have hni : ¬ 8 ≤ i := by omega
        have eP : v 399 (8 * lv + i) = tP T i := (hX.2.2.2.1 i (by omega)).symm
        have eL : v 404 (8 * lv + i) = tL T i := (hX.2.2.2.2.2.2.2.2.1 i (by omega)).symm
        refine go_at (blk := b_Model_begins_23) rfl ?_
        simp (disch := omega) only [b_Model_begins_23, be_4, be_1, be_49_3, List.getD_cons_zero, List.getD_cons_succ, List.set_cons_zero, List.set_cons_succ, List.length_cons, List.length_nil, pk_I, pk_A, pr_A, pi_I, st_s, st_n, if_true, if_false, eq_self, d_if, d_ju, d_re, d_ca, cat0, cat1, cat2, cat3, fr_z, fr_s, cc_I, cc_A, cc_N, Nat.reduceAdd, Nat.reduceLT, Nat.reduceLeDiff, Nat.reduceEqDiff, not_true, not_false_iff, z1_0, z1_1, Bool.and_self, Bool.true_and, Bool.and_true, nI_add, pk_mul, nI_clamp, decide_true, Nat.le_refl, bI_eq, bI_z1, nI_ltI, nI_leI, h18, k398, k397, k405, eP, eL, sA_ne, sA_at, sA_u, z_10, nI_z, x1, x2, hni]
        refine go_at (blk := b_Model_begins_29) rfl ?_
        simp (disch := omega) only [b_Model_begins_29, be_1, be_6, be_33, be_14, be_4, be_12, be_7, be_34, be_43, be_38, be_49_2, kc_388, rf_388_48, ka_419, rf_388_23, ka_398, List.getD_cons_zero, List.getD_cons_succ, List.set_cons_zero, List.set_cons_succ, List.length_cons, List.length_nil, pk_I, pk_A, pr_A, pi_I, st_s, st_n, if_true, if_false, eq_self, d_if, d_ju, d_re, d_ca, cat0, cat1, cat2, cat3, fr_z, fr_s, cc_I, cc_A, cc_N, Nat.reduceAdd, Nat.reduceLT, Nat.reduceLeDiff, Nat.reduceEqDiff, not_true, not_false_iff, z1_0, z1_1, Bool.and_self, Bool.true_and, Bool.and_true, nI_add, pk_mul, nI_clamp, decide_true, Nat.le_refl, bI_eq, bI_z1, nI_ltI, nI_leI, h18, k398, k397, k405, eP, eL, sA_ne, sA_at, sA_u, z_10, nI_z, x1, x2, hni]
        split
        · rename_i hn
          refine go_at (blk := b_Model_begins_65) rfl ?_
          simp (disch := omega) only [b_Model_begins_65, be_6, be_34, be_4, be_38, be_33, be_49_2, kc_388, rf_388_24, ka_399, rf_388_22, ka_397, List.getD_cons_zero, List.getD_cons_succ, List.set_cons_zero, List.set_cons_succ, List.length_cons, List.length_nil, pk_I, pk_A, pr_A, pi_I, st_s, st_n, if_true, if_false, eq_self, d_if, d_ju, d_re, d_ca, cat0, cat1, cat2, cat3, fr_z, fr_s, cc_I, cc_A, cc_N, Nat.reduceAdd, Nat.reduceLT, Nat.reduceLeDiff, Nat.reduceEqDiff, not_true, not_false_iff, z1_0, z1_1, Bool.and_self, Bool.true_and, Bool.and_true, nI_add, pk_mul, nI_clamp, decide_true, Nat.le_refl, bI_eq, bI_z1, nI_ltI, nI_leI, h18, k398, k397, k405, eP, eL, sA_ne, sA_at, sA_u, z_10, nI_z, x1, x2, hni]
          split
          · rename_i hc
            refine go_at (blk := b_Model_begins_87) rfl ?_
            simp (disch := omega) only [b_Model_begins_87, be_1, be_0, List.getD_cons_zero, List.getD_cons_succ, List.set_cons_zero, List.set_cons_succ, List.length_cons, List.length_nil, pk_I, pk_A, pr_A, pi_I, st_s, st_n, if_true, if_false, eq_self, d_if, d_ju, d_re, d_ca, cat0, cat1, cat2, cat3, fr_z, fr_s, cc_I, cc_A, cc_N, Nat.reduceAdd, Nat.reduceLT, Nat.reduceLeDiff, Nat.reduceEqDiff, not_true, not_false_iff, z1_0, z1_1, Bool.and_self, Bool.true_and, Bool.and_true, nI_add, pk_mul, nI_clamp, decide_true, Nat.le_refl, bI_eq, bI_z1, nI_ltI, nI_leI, h18, k398, k397, k405, eP, eL, sA_ne, sA_at, sA_u, z_10, nI_z, x1, x2, hni]
            refine go_at (blk := b_Model_begins_88) rfl ?_
            simp (disch := omega) only [b_Model_begins_88, be_7, be_6, be_34, be_4, be_50_0, kc_388, rf_388_48, List.getD_cons_zero, List.getD_cons_succ, List.set_cons_zero, List.set_cons_succ, List.length_cons, List.length_nil, pk_I, pk_A, pr_A, pi_I, st_s, st_n, if_true, if_false, eq_self, d_if, d_ju, d_re, d_ca, cat0, cat1, cat2, cat3, fr_z, fr_s, cc_I, cc_A, cc_N, Nat.reduceAdd, Nat.reduceLT, Nat.reduceLeDiff, Nat.reduceEqDiff, not_true, not_false_iff, z1_0, z1_1, Bool.and_self, Bool.true_and, Bool.and_true, nI_add, pk_mul, nI_clamp, decide_true, Nat.le_refl, bI_eq, bI_z1, nI_ltI, nI_leI, h18, k398, k397, k405, eP, eL, sA_ne, sA_at, sA_u, z_10, nI_z, x1, x2, hni]
            refine go_at (blk := b_Model_begins_110) rfl ?_
            simp (disch := omega) only [b_Model_begins_110, be_6, be_34, be_4, be_38, be_0, kc_388, rf_388_24, ka_399, List.getD_cons_zero, List.getD_cons_succ, List.set_cons_zero, List.set_cons_succ, List.length_cons, List.length_nil, pk_I, pk_A, pr_A, pi_I, st_s, st_n, if_true, if_false, eq_self, d_if, d_ju, d_re, d_ca, cat0, cat1, cat2, cat3, fr_z, fr_s, cc_I, cc_A, cc_N, Nat.reduceAdd, Nat.reduceLT, Nat.reduceLeDiff, Nat.reduceEqDiff, not_true, not_false_iff, z1_0, z1_1, Bool.and_self, Bool.true_and, Bool.and_true, nI_add, pk_mul, nI_clamp, decide_true, Nat.le_refl, bI_eq, bI_z1, nI_ltI, nI_leI, h18, k398, k397, k405, eP, eL, sA_ne, sA_at, sA_u, z_10, nI_z, x1, x2, hni]
            refine go_at (blk := b_Model_begins_116) rfl ?_
            simp (disch := omega) only [b_Model_begins_116, be_43, be_6, be_34, be_1, be_4, be_12, be_50_1, ka_419, kc_388, rf_388_48, List.getD_cons_zero, List.getD_cons_succ, List.set_cons_zero, List.set_cons_succ, List.length_cons, List.length_nil, pk_I, pk_A, pr_A, pi_I, st_s, st_n, if_true, if_false, eq_self, d_if, d_ju, d_re, d_ca, cat0, cat1, cat2, cat3, fr_z, fr_s, cc_I, cc_A, cc_N, Nat.reduceAdd, Nat.reduceLT, Nat.reduceLeDiff, Nat.reduceEqDiff, not_true, not_false_iff, z1_0, z1_1, Bool.and_self, Bool.true_and, Bool.and_true, nI_add, pk_mul, nI_clamp, decide_true, Nat.le_refl, bI_eq, bI_z1, nI_ltI, nI_leI, h18, k398, k397, k405, eP, eL, sA_ne, sA_at, sA_u, z_10, nI_z, x1, x2, hni]
            refine go_at (blk := b_Model_begins_129) rfl ?_
            simp (disch := omega) only [b_Model_begins_129, be_6, be_34, be_4, be_40, be_50_0, kc_388, rf_388_29, ka_404, List.getD_cons_zero, List.getD_cons_succ, List.set_cons_zero, List.set_cons_succ, List.length_cons, List.length_nil, pk_I, pk_A, pr_A, pi_I, st_s, st_n, if_true, if_false, eq_self, d_if, d_ju, d_re, d_ca, cat0, cat1, cat2, cat3, fr_z, fr_s, cc_I, cc_A, cc_N, Nat.reduceAdd, Nat.reduceLT, Nat.reduceLeDiff, Nat.reduceEqDiff, not_true, not_false_iff, z1_0, z1_1, Bool.and_self, Bool.true_and, Bool.and_true, nI_add, pk_mul, nI_clamp, decide_true, Nat.le_refl, bI_eq, bI_z1, nI_ltI, nI_leI, h18, k398, k397, k405, eP, eL, sA_ne, sA_at, sA_u, z_10, nI_z, x1, x2, hni]
            split
            · rename_i hk
              have hk0 : tL T i = 0 := hk
              refine go_at (blk := b_Model_begins_142) rfl ?_
              simp (disch := omega) only [b_Model_begins_142, be_1, be_0, List.getD_cons_zero, List.getD_cons_succ, List.set_cons_zero, List.set_cons_succ, List.length_cons, List.length_nil, pk_I, pk_A, pr_A, pi_I, st_s, st_n, if_true, if_false, eq_self, d_if, d_ju, d_re, d_ca, cat0, cat1, cat2, cat3, fr_z, fr_s, cc_I, cc_A, cc_N, Nat.reduceAdd, Nat.reduceLT, Nat.reduceLeDiff, Nat.reduceEqDiff, not_true, not_false_iff, z1_0, z1_1, Bool.and_self, Bool.true_and, Bool.and_true, nI_add, pk_mul, nI_clamp, decide_true, Nat.le_refl, bI_eq, bI_z1, nI_ltI, nI_leI, h18, k398, k397, k405, eP, eL, sA_ne, sA_at, sA_u, z_10, nI_z, x1, x2, hni]
              refine go_at (blk := b_Model_begins_143) rfl ?_
              simp (disch := omega) only [b_Model_begins_143, be_43, be_6, be_34, be_1, be_4, be_12, be_50_0, ka_419, kc_388, rf_388_48, List.getD_cons_zero, List.getD_cons_succ, List.set_cons_zero, List.set_cons_succ, List.length_cons, List.length_nil, pk_I, pk_A, pr_A, pi_I, st_s, st_n, if_true, if_false, eq_self, d_if, d_ju, d_re, d_ca, cat0, cat1, cat2, cat3, fr_z, fr_s, cc_I, cc_A, cc_N, Nat.reduceAdd, Nat.reduceLT, Nat.reduceLeDiff, Nat.reduceEqDiff, not_true, not_false_iff, z1_0, z1_1, Bool.and_self, Bool.true_and, Bool.and_true, nI_add, pk_mul, nI_clamp, decide_true, Nat.le_refl, bI_eq, bI_z1, nI_ltI, nI_leI, h18, k398, k397, k405, eP, eL, sA_ne, sA_at, sA_u, z_10, nI_z, x1, x2, hni]
              refine go_at (blk := b_Model_begins_160) rfl ?_
              simp (disch := omega) only [b_Model_begins_160, be_2, be_0, List.getD_cons_zero, List.getD_cons_succ, List.set_cons_zero, List.set_cons_succ, List.length_cons, List.length_nil, pk_I, pk_A, pr_A, pi_I, st_s, st_n, if_true, if_false, eq_self, d_if, d_ju, d_re, d_ca, cat0, cat1, cat2, cat3, fr_z, fr_s, cc_I, cc_A, cc_N, Nat.reduceAdd, Nat.reduceLT, Nat.reduceLeDiff, Nat.reduceEqDiff, not_true, not_false_iff, z1_0, z1_1, Bool.and_self, Bool.true_and, Bool.and_true, nI_add, pk_mul, nI_clamp, decide_true, Nat.le_refl, bI_eq, bI_z1, nI_ltI, nI_leI, h18, k398, k397, k405, eP, eL, sA_ne, sA_at, sA_u, z_10, nI_z, x1, x2, hni]
              refine go_at (blk := b_Model_begins_161) rfl ?_
              simp (disch := omega) only [b_Model_begins_161, be_43, be_0, ka_419, List.getD_cons_zero, List.getD_cons_succ, List.set_cons_zero, List.set_cons_succ, List.length_cons, List.length_nil, pk_I, pk_A, pr_A, pi_I, st_s, st_n, if_true, if_false, eq_self, d_if, d_ju, d_re, d_ca, cat0, cat1, cat2, cat3, fr_z, fr_s, cc_I, cc_A, cc_N, Nat.reduceAdd, Nat.reduceLT, Nat.reduceLeDiff, Nat.reduceEqDiff, not_true, not_false_iff, z1_0, z1_1, Bool.and_self, Bool.true_and, Bool.and_true, nI_add, pk_mul, nI_clamp, decide_true, Nat.le_refl, bI_eq, bI_z1, nI_ltI, nI_leI, h18, k398, k397, k405, eP, eL, sA_ne, sA_at, sA_u, z_10, nI_z, x1, x2, hni]
              refine go_at (blk := b_Model_begins_162) rfl ?_
              simp (disch := omega) only [b_Model_begins_162, be_10, be_51, List.getD_cons_zero, List.getD_cons_succ, List.set_cons_zero, List.set_cons_succ, List.length_cons, List.length_nil, pk_I, pk_A, pr_A, pi_I, st_s, st_n, if_true, if_false, eq_self, d_if, d_ju, d_re, d_ca, cat0, cat1, cat2, cat3, fr_z, fr_s, cc_I, cc_A, cc_N, Nat.reduceAdd, Nat.reduceLT, Nat.reduceLeDiff, Nat.reduceEqDiff, not_true, not_false_iff, z1_0, z1_1, Bool.and_self, Bool.true_and, Bool.and_true, nI_add, pk_mul, nI_clamp, decide_true, Nat.le_refl, bI_eq, bI_z1, nI_ltI, nI_leI, h18, k398, k397, k405, eP, eL, sA_ne, sA_at, sA_u, z_10, nI_z, x1, x2, hni]
              have e := bg_p (T := T) (i := i) (a := tP T i) (b := nI 0) (c := -1) (by omega) (by rw [bgT_0 (by omega) hn, if_pos hc]) (by rw [bgT_1 (by omega) hn, if_pos hc, hk0]; rfl) (by rw [bgT_4 (by omega) hn, if_pos hc])
              rw [← e] at ih
              exact ih (.int _, .int _) ⟨rfl, rfl⟩
            · rename_i hk
              have hk1 := (hG.2.2.2.1 i hn).2.2.2.2.2.resolve_left hk
              refine go_at (blk := b_Model_begins_138) rfl ?_
              simp (disch := omega) only [b_Model_begins_138, be_1, be_51, List.getD_cons_zero, List.getD_cons_succ, List.set_cons_zero, List.set_cons_succ, List.length_cons, List.length_nil, pk_I, pk_A, pr_A, pi_I, st_s, st_n, if_true, if_false, eq_self, d_if, d_ju, d_re, d_ca, cat0, cat1, cat2, cat3, fr_z, fr_s, cc_I, cc_A, cc_N, Nat.reduceAdd, Nat.reduceLT, Nat.reduceLeDiff, Nat.reduceEqDiff, not_true, not_false_iff, z1_0, z1_1, Bool.and_self, Bool.true_and, Bool.and_true, nI_add, pk_mul, nI_clamp, decide_true, Nat.le_refl, bI_eq, bI_z1, nI_ltI, nI_leI, h18, k398, k397, k405, eP, eL, sA_ne, sA_at, sA_u, z_10, nI_z, x1, x2, hni]
              refine go_at (blk := b_Model_begins_143) rfl ?_
              simp (disch := omega) only [b_Model_begins_143, be_43, be_6, be_34, be_1, be_4, be_12, be_50_0, ka_419, kc_388, rf_388_48, List.getD_cons_zero, List.getD_cons_succ, List.set_cons_zero, List.set_cons_succ, List.length_cons, List.length_nil, pk_I, pk_A, pr_A, pi_I, st_s, st_n, if_true, if_false, eq_self, d_if, d_ju, d_re, d_ca, cat0, cat1, cat2, cat3, fr_z, fr_s, cc_I, cc_A, cc_N, Nat.reduceAdd, Nat.reduceLT, Nat.reduceLeDiff, Nat.reduceEqDiff, not_true, not_false_iff, z1_0, z1_1, Bool.and_self, Bool.true_and, Bool.and_true, nI_add, pk_mul, nI_clamp, decide_true, Nat.le_refl, bI_eq, bI_z1, nI_ltI, nI_leI, h18, k398, k397, k405, eP, eL, sA_ne, sA_at, sA_u, z_10, nI_z, x1, x2, hni]
              refine go_at (blk := b_Model_begins_160) rfl ?_
              simp (disch := omega) only [b_Model_begins_160, be_2, be_0, List.getD_cons_zero, List.getD_cons_succ, List.set_cons_zero, List.set_cons_succ, List.length_cons, List.length_nil, pk_I, pk_A, pr_A, pi_I, st_s, st_n, if_true, if_false, eq_self, d_if, d_ju, d_re, d_ca, cat0, cat1, cat2, cat3, fr_z, fr_s, cc_I, cc_A, cc_N, Nat.reduceAdd, Nat.reduceLT, Nat.reduceLeDiff, Nat.reduceEqDiff, not_true, not_false_iff, z1_0, z1_1, Bool.and_self, Bool.true_and, Bool.and_true, nI_add, pk_mul, nI_clamp, decide_true, Nat.le_refl, bI_eq, bI_z1, nI_ltI, nI_leI, h18, k398, k397, k405, eP, eL, sA_ne, sA_at, sA_u, z_10, nI_z, x1, x2, hni]
              refine go_at (blk := b_Model_begins_161) rfl ?_
              simp (disch := omega) only [b_Model_begins_161, be_43, be_0, ka_419, List.getD_cons_zero, List.getD_cons_succ, List.set_cons_zero, List.set_cons_succ, List.length_cons, List.length_nil, pk_I, pk_A, pr_A, pi_I, st_s, st_n, if_true, if_false, eq_self, d_if, d_ju, d_re, d_ca, cat0, cat1, cat2, cat3, fr_z, fr_s, cc_I, cc_A, cc_N, Nat.reduceAdd, Nat.reduceLT, Nat.reduceLeDiff, Nat.reduceEqDiff, not_true, not_false_iff, z1_0, z1_1, Bool.and_self, Bool.true_and, Bool.and_true, nI_add, pk_mul, nI_clamp, decide_true, Nat.le_refl, bI_eq, bI_z1, nI_ltI, nI_leI, h18, k398, k397, k405, eP, eL, sA_ne, sA_at, sA_u, z_10, nI_z, x1, x2, hni]
              refine go_at (blk := b_Model_begins_162) rfl ?_
              simp (disch := omega) only [b_Model_begins_162, be_10, be_51, List.getD_cons_zero, List.getD_cons_succ, List.set_cons_zero, List.set_cons_succ, List.length_cons, List.length_nil, pk_I, pk_A, pr_A, pi_I, st_s, st_n, if_true, if_false, eq_self, d_if, d_ju, d_re, d_ca, cat0, cat1, cat2, cat3, fr_z, fr_s, cc_I, cc_A, cc_N, Nat.reduceAdd, Nat.reduceLT, Nat.reduceLeDiff, Nat.reduceEqDiff, not_true, not_false_iff, z1_0, z1_1, Bool.and_self, Bool.true_and, Bool.and_true, nI_add, pk_mul, nI_clamp, decide_true, Nat.le_refl, bI_eq, bI_z1, nI_ltI, nI_leI, h18, k398, k397, k405, eP, eL, sA_ne, sA_at, sA_u, z_10, nI_z, x1, x2, hni]
              have e := bg_p (T := T) (i := i) (a := tP T i) (b := nI 1) (c := -1) (by omega) (by rw [bgT_0 (by omega) hn, if_pos hc]) (by rw [bgT_1 (by omega) hn, if_pos hc, hk1]; rfl) (by rw [bgT_4 (by omega) hn, if_pos hc])
              rw [← e] at ih
              exact ih (.int _, .int _) ⟨rfl, rfl⟩
          · rename_i hc
            refine go_at (blk := b_Model_begins_83) rfl ?_
            simp (disch := omega) only [b_Model_begins_83, be_1, be_51, List.getD_cons_zero, List.getD_cons_succ, List.set_cons_zero, List.set_cons_succ, List.length_cons, List.length_nil, pk_I, pk_A, pr_A, pi_I, st_s, st_n, if_true, if_false, eq_self, d_if, d_ju, d_re, d_ca, cat0, cat1, cat2, cat3, fr_z, fr_s, cc_I, cc_A, cc_N, Nat.reduceAdd, Nat.reduceLT, Nat.reduceLeDiff, Nat.reduceEqDiff, not_true, not_false_iff, z1_0, z1_1, Bool.and_self, Bool.true_and, Bool.and_true, nI_add, pk_mul, nI_clamp, decide_true, Nat.le_refl, bI_eq, bI_z1, nI_ltI, nI_leI, h18, k398, k397, k405, eP, eL, sA_ne, sA_at, sA_u, z_10, nI_z, x1, x2, hni]
            refine go_at (blk := b_Model_begins_88) rfl ?_
            simp (disch := omega) only [b_Model_begins_88, be_7, be_6, be_34, be_4, be_50_0, kc_388, rf_388_48, List.getD_cons_zero, List.getD_cons_succ, List.set_cons_zero, List.set_cons_succ, List.length_cons, List.length_nil, pk_I, pk_A, pr_A, pi_I, st_s, st_n, if_true, if_false, eq_self, d_if, d_ju, d_re, d_ca, cat0, cat1, cat2, cat3, fr_z, fr_s, cc_I, cc_A, cc_N, Nat.reduceAdd, Nat.reduceLT, Nat.reduceLeDiff, Nat.reduceEqDiff, not_true, not_false_iff, z1_0, z1_1, Bool.and_self, Bool.true_and, Bool.and_true, nI_add, pk_mul, nI_clamp, decide_true, Nat.le_refl, bI_eq, bI_z1, nI_ltI, nI_leI, h18, k398, k397, k405, eP, eL, sA_ne, sA_at, sA_u, z_10, nI_z, x1, x2, hni]
            refine go_at (blk := b_Model_begins_98) rfl ?_
            simp (disch := omega) only [b_Model_begins_98, be_6, be_34, be_33, be_38, be_51, kc_388, rf_388_22, ka_397, List.getD_cons_zero, List.getD_cons_succ, List.set_cons_zero, List.set_cons_succ, List.length_cons, List.length_nil, pk_I, pk_A, pr_A, pi_I, st_s, st_n, if_true, if_false, eq_self, d_if, d_ju, d_re, d_ca, cat0, cat1, cat2, cat3, fr_z, fr_s, cc_I, cc_A, cc_N, Nat.reduceAdd, Nat.reduceLT, Nat.reduceLeDiff, Nat.reduceEqDiff, not_true, not_false_iff, z1_0, z1_1, Bool.and_self, Bool.true_and, Bool.and_true, nI_add, pk_mul, nI_clamp, decide_true, Nat.le_refl, bI_eq, bI_z1, nI_ltI, nI_leI, h18, k398, k397, k405, eP, eL, sA_ne, sA_at, sA_u, z_10, nI_z, x1, x2, hni]
            refine go_at (blk := b_Model_begins_116) rfl ?_
            simp (disch := omega) only [b_Model_begins_116, be_43, be_6, be_34, be_1, be_4, be_12, be_50_1, ka_419, kc_388, rf_388_48, List.getD_cons_zero, List.getD_cons_succ, List.set_cons_zero, List.set_cons_succ, List.length_cons, List.length_nil, pk_I, pk_A, pr_A, pi_I, st_s, st_n, if_true, if_false, eq_self, d_if, d_ju, d_re, d_ca, cat0, cat1, cat2, cat3, fr_z, fr_s, cc_I, cc_A, cc_N, Nat.reduceAdd, Nat.reduceLT, Nat.reduceLeDiff, Nat.reduceEqDiff, not_true, not_false_iff, z1_0, z1_1, Bool.and_self, Bool.true_and, Bool.and_true, nI_add, pk_mul, nI_clamp, decide_true, Nat.le_refl, bI_eq, bI_z1, nI_ltI, nI_leI, h18, k398, k397, k405, eP, eL, sA_ne, sA_at, sA_u, z_10, nI_z, x1, x2, hni]
            refine go_at (blk := b_Model_begins_142) rfl ?_
            simp (disch := omega) only [b_Model_begins_142, be_1, be_0, List.getD_cons_zero, List.getD_cons_succ, List.set_cons_zero, List.set_cons_succ, List.length_cons, List.length_nil, pk_I, pk_A, pr_A, pi_I, st_s, st_n, if_true, if_false, eq_self, d_if, d_ju, d_re, d_ca, cat0, cat1, cat2, cat3, fr_z, fr_s, cc_I, cc_A, cc_N, Nat.reduceAdd, Nat.reduceLT, Nat.reduceLeDiff, Nat.reduceEqDiff, not_true, not_false_iff, z1_0, z1_1, Bool.and_self, Bool.true_and, Bool.and_true, nI_add, pk_mul, nI_clamp, decide_true, Nat.le_refl, bI_eq, bI_z1, nI_ltI, nI_leI, h18, k398, k397, k405, eP, eL, sA_ne, sA_at, sA_u, z_10, nI_z, x1, x2, hni]
            refine go_at (blk := b_Model_begins_143) rfl ?_
            simp (disch := omega) only [b_Model_begins_143, be_43, be_6, be_34, be_1, be_4, be_12, be_50_0, ka_419, kc_388, rf_388_48, List.getD_cons_zero, List.getD_cons_succ, List.set_cons_zero, List.set_cons_succ, List.length_cons, List.length_nil, pk_I, pk_A, pr_A, pi_I, st_s, st_n, if_true, if_false, eq_self, d_if, d_ju, d_re, d_ca, cat0, cat1, cat2, cat3, fr_z, fr_s, cc_I, cc_A, cc_N, Nat.reduceAdd, Nat.reduceLT, Nat.reduceLeDiff, Nat.reduceEqDiff, not_true, not_false_iff, z1_0, z1_1, Bool.and_self, Bool.true_and, Bool.and_true, nI_add, pk_mul, nI_clamp, decide_true, Nat.le_refl, bI_eq, bI_z1, nI_ltI, nI_leI, h18, k398, k397, k405, eP, eL, sA_ne, sA_at, sA_u, z_10, nI_z, x1, x2, hni]
            refine go_at (blk := b_Model_begins_156) rfl ?_
            simp (disch := omega) only [b_Model_begins_156, be_1, be_51, List.getD_cons_zero, List.getD_cons_succ, List.set_cons_zero, List.set_cons_succ, List.length_cons, List.length_nil, pk_I, pk_A, pr_A, pi_I, st_s, st_n, if_true, if_false, eq_self, d_if, d_ju, d_re, d_ca, cat0, cat1, cat2, cat3, fr_z, fr_s, cc_I, cc_A, cc_N, Nat.reduceAdd, Nat.reduceLT, Nat.reduceLeDiff, Nat.reduceEqDiff, not_true, not_false_iff, z1_0, z1_1, Bool.and_self, Bool.true_and, Bool.and_true, nI_add, pk_mul, nI_clamp, decide_true, Nat.le_refl, bI_eq, bI_z1, nI_ltI, nI_leI, h18, k398, k397, k405, eP, eL, sA_ne, sA_at, sA_u, z_10, nI_z, x1, x2, hni]
            refine go_at (blk := b_Model_begins_161) rfl ?_
            simp (disch := omega) only [b_Model_begins_161, be_43, be_0, ka_419, List.getD_cons_zero, List.getD_cons_succ, List.set_cons_zero, List.set_cons_succ, List.length_cons, List.length_nil, pk_I, pk_A, pr_A, pi_I, st_s, st_n, if_true, if_false, eq_self, d_if, d_ju, d_re, d_ca, cat0, cat1, cat2, cat3, fr_z, fr_s, cc_I, cc_A, cc_N, Nat.reduceAdd, Nat.reduceLT, Nat.reduceLeDiff, Nat.reduceEqDiff, not_true, not_false_iff, z1_0, z1_1, Bool.and_self, Bool.true_and, Bool.and_true, nI_add, pk_mul, nI_clamp, decide_true, Nat.le_refl, bI_eq, bI_z1, nI_ltI, nI_leI, h18, k398, k397, k405, eP, eL, sA_ne, sA_at, sA_u, z_10, nI_z, x1, x2, hni]
            refine go_at (blk := b_Model_begins_162) rfl ?_
            simp (disch := omega) only [b_Model_begins_162, be_10, be_51, List.getD_cons_zero, List.getD_cons_succ, List.set_cons_zero, List.set_cons_succ, List.length_cons, List.length_nil, pk_I, pk_A, pr_A, pi_I, st_s, st_n, if_true, if_false, eq_self, d_if, d_ju, d_re, d_ca, cat0, cat1, cat2, cat3, fr_z, fr_s, cc_I, cc_A, cc_N, Nat.reduceAdd, Nat.reduceLT, Nat.reduceLeDiff, Nat.reduceEqDiff, not_true, not_false_iff, z1_0, z1_1, Bool.and_self, Bool.true_and, Bool.and_true, nI_add, pk_mul, nI_clamp, decide_true, Nat.le_refl, bI_eq, bI_z1, nI_ltI, nI_leI, h18, k398, k397, k405, eP, eL, sA_ne, sA_at, sA_u, z_10, nI_z, x1, x2, hni]
            have e := bg_p (T := T) (i := i) (a := tT T) (b := nI 0) (c := nI 0) (by omega) (by rw [bgT_0 (by omega) hn, if_neg hc]) (by rw [bgT_1 (by omega) hn, if_neg hc]; rfl) (by rw [bgT_4 (by omega) hn, if_neg hc]; rfl)
            rw [← e] at ih
            exact ih (.int _, .int _) ⟨rfl, rfl⟩
        · rename_i hn
          refine go_at (blk := b_Model_begins_62) rfl ?_
          simp (disch := omega) only [b_Model_begins_62, be_51, List.getD_cons_zero, List.getD_cons_succ, List.set_cons_zero, List.set_cons_succ, List.length_cons, List.length_nil, pk_I, pk_A, pr_A, pi_I, st_s, st_n, if_true, if_false, eq_self, d_if, d_ju, d_re, d_ca, cat0, cat1, cat2, cat3, fr_z, fr_s, cc_I, cc_A, cc_N, Nat.reduceAdd, Nat.reduceLT, Nat.reduceLeDiff, Nat.reduceEqDiff, not_true, not_false_iff, z1_0, z1_1, Bool.and_self, Bool.true_and, Bool.and_true, nI_add, pk_mul, nI_clamp, decide_true, Nat.le_refl, bI_eq, bI_z1, nI_ltI, nI_leI, h18, k398, k397, k405, eP, eL, sA_ne, sA_at, sA_u, z_10, nI_z, x1, x2, hni]
          refine go_at (blk := b_Model_begins_162) rfl ?_
          simp (disch := omega) only [b_Model_begins_162, be_10, be_51, List.getD_cons_zero, List.getD_cons_succ, List.set_cons_zero, List.set_cons_succ, List.length_cons, List.length_nil, pk_I, pk_A, pr_A, pi_I, st_s, st_n, if_true, if_false, eq_self, d_if, d_ju, d_re, d_ca, cat0, cat1, cat2, cat3, fr_z, fr_s, cc_I, cc_A, cc_N, Nat.reduceAdd, Nat.reduceLT, Nat.reduceLeDiff, Nat.reduceEqDiff, not_true, not_false_iff, z1_0, z1_1, Bool.and_self, Bool.true_and, Bool.and_true, nI_add, pk_mul, nI_clamp, decide_true, Nat.le_refl, bI_eq, bI_z1, nI_ltI, nI_leI, h18, k398, k397, k405, eP, eL, sA_ne, sA_at, sA_u, z_10, nI_z, x1, x2, hni]
          have e := bg_n (T := T) (i := i) (by omega) (by omega)
          rw [← e] at ih
          exact ih (.int _, x.2) ⟨rfl, x2⟩
      · intro x ⟨x1, x2⟩
        try dsimp only at *
        refine go_at (blk := b_Model_begins_23) rfl ?_
        simp (disch := omega) only [b_Model_begins_23, be_4, be_1, be_49_3, List.getD_cons_zero, List.getD_cons_succ, List.set_cons_zero, List.set_cons_succ, List.length_cons, List.length_nil, pk_I, pk_A, pr_A, pi_I, st_s, st_n, if_true, if_false, eq_self, d_if, d_ju, d_re, d_ca, cat0, cat1, cat2, cat3, fr_z, fr_s, cc_I, cc_A, cc_N, Nat.reduceAdd, Nat.reduceLT, Nat.reduceLeDiff, Nat.reduceEqDiff, not_true, not_false_iff, z1_0, z1_1, Bool.and_self, Bool.true_and, Bool.and_true, nI_add, pk_mul, nI_clamp, decide_true, Nat.le_refl, bI_eq, bI_z1, nI_ltI, nI_leI, h18, k398, k397, k405, sA_ne, sA_at, sA_u, bgR_8]
        refine go_at (blk := b_Model_begins_168) rfl ?_
        simp (disch := omega) only [b_Model_begins_168, be_6, be_34, be_1, be_33, be_38, be_43, be_57_0, kc_388, rf_388_48, rf_388_30, ka_405, ka_419, List.getD_cons_zero, List.getD_cons_succ, List.set_cons_zero, List.set_cons_succ, List.length_cons, List.length_nil, pk_I, pk_A, pr_A, pi_I, st_s, st_n, if_true, if_false, eq_self, d_if, d_ju, d_re, d_ca, cat0, cat1, cat2, cat3, fr_z, fr_s, cc_I, cc_A, cc_N, Nat.reduceAdd, Nat.reduceLT, Nat.reduceLeDiff, Nat.reduceEqDiff, not_true, not_false_iff, z1_0, z1_1, Bool.and_self, Bool.true_and, Bool.and_true, nI_add, pk_mul, nI_clamp, decide_true, Nat.le_refl, bI_eq, bI_z1, nI_ltI, nI_leI, h18, k398, k397, k405, sA_ne, sA_at, sA_u, bgR_8]
        refine r_plainly ?_
        refine go_at (blk := b_Model_begins_188) rfl ?_
        simp (disch := omega) only [b_Model_begins_188, be_56, List.getD_cons_zero, List.getD_cons_succ, List.set_cons_zero, List.set_cons_succ, List.length_cons, List.length_nil, pk_I, pk_A, pr_A, pi_I, st_s, st_n, if_true, if_false, eq_self, d_if, d_ju, d_re, d_ca, cat0, cat1, cat2, cat3, fr_z, fr_s, cc_I, cc_A, cc_N, Nat.reduceAdd, Nat.reduceLT, Nat.reduceLeDiff, Nat.reduceEqDiff, not_true, not_false_iff, z1_0, z1_1, Bool.and_self, Bool.true_and, Bool.and_true, nI_add, pk_mul, nI_clamp, decide_true, Nat.le_refl, bI_eq, bI_z1, nI_ltI, nI_leI, h18, k398, k397, k405, sA_ne, sA_at, sA_u, bgR_8]
        refine hQ _ ⟨?_, ?_, ?_⟩ ⟨?_, ?_, ?_⟩
        · intro c c1 c2 c3 c4
          rw [am_u_ne c4, am_u_ne c4, sA_ne c3]
        · intro k a1 a2 a3
          rw [am_u_at, upd_ne a3, am_u_at, upd_ne a2, sA_ne (by omega)]
        · intro j hj
          rw [am_u_ne (by omega), am_u_ne (by omega), sA_at, hz j hj]
          unfold bgT
          rw [if_neg (by omega), if_neg (by omega), if_neg (by omega), if_neg (by omega), if_neg (by omega)]
          rfl
        · rw [am_u_ne (by omega), am_u_ne (by omega), sA_at]
        · rw [am_u_at, upd_ne (by omega), am_u_at, upd_at]
        · rw [am_u_at, upd_at]
          rfl
  rw [e0] at hh
  exact hh
