/-! laid by wip/whole/m11.py: the reference: what is now; sets of kneelers -/
set_option maxHeartbeats 1000000 in
theorem r_rank {d : Nat} {v : Nat → Nat → Int32} {w : Nat → Nat → Int64} {Q : Option Value → am_H → Prop} {T : TXT} {lv : Nat} {f : Nat → Int32} {B : Int} (hM : MI B v T lv f) {y : Int32} (hQ : Q (some (.int (rkA T f y))) (428, 26053, KD, RF, v, w)) : am_Ca (d + 3) M_Model_rank [.ref 388, .int y] (428, 26053, KD, RF, v, w) Q := by
  have h8 := hM.2.2.2.2.1.1
  obtain ⟨k18, hlv, k398, _⟩ := hM.1.1
  have k418 : v 418 = f := hM.2.1
  refine ca_in (k := k_Model_rank) (nL := 4) rfl (Nat.le_of_ble_eq_true rfl) ?_
  show am_Go am_X0 _ k_Model_rank 0 ([.ref 388, .int y, .null, .null], [], _) _
  refine go_at (blk := b_Model_rank_0) rfl ?_
  simp (disch := omega) only [b_Model_rank_0, be_6, be_4, be_57_1, kc_388, List.getD_cons_zero, List.getD_cons_succ, List.set_cons_zero, List.set_cons_succ, List.length_cons, List.length_nil, pk_I, pk_A, pr_A, pi_I, st_s, st_n, if_true, if_false, eq_self, d_if, d_ju, d_re, d_ca, cat0, cat1, cat2, cat3, fr_z, fr_s, cc_I, cc_A, cc_N, Nat.reduceAdd, Nat.reduceLT, Nat.reduceLeDiff, Nat.reduceEqDiff, not_true, not_false_iff, z1_0, z1_1, Bool.and_self, Bool.true_and, Bool.and_true, nI_add, pk_mul, nI_clamp, decide_true, Nat.le_refl, bI_eq, bI_z1]
  refine r_isPil hM.1 ?_
  refine go_at (blk := b_Model_rank_5) rfl ?_
  simp (disch := omega) only [b_Model_rank_5, be_50_1, List.getD_cons_zero, List.getD_cons_succ, List.set_cons_zero, List.set_cons_succ, List.length_cons, List.length_nil, pk_I, pk_A, pr_A, pi_I, st_s, st_n, if_true, if_false, eq_self, d_if, d_ju, d_re, d_ca, cat0, cat1, cat2, cat3, fr_z, fr_s, cc_I, cc_A, cc_N, Nat.reduceAdd, Nat.reduceLT, Nat.reduceLeDiff, Nat.reduceEqDiff, not_true, not_false_iff, z1_0, z1_1, Bool.and_self, Bool.true_and, Bool.and_true, nI_add, pk_mul, nI_clamp, decide_true, Nat.le_refl, bI_eq, bI_z1]
  split
  · rename_i h0
    have h0 : pilB (tN T) y = true := by simpa using h0
    unfold rkA at hQ
    rw [if_pos h0] at hQ
    obtain ⟨p, hp, rfl, ep⟩ := pil_of h8 h0
    rw [ep] at hQ
    refine go_at (blk := b_Model_rank_10) rfl ?_
    simp (disch := omega) only [b_Model_rank_10, be_1, be_7, be_0, List.getD_cons_zero, List.getD_cons_succ, List.set_cons_zero, List.set_cons_succ, List.length_cons, List.length_nil, pk_I, pk_A, pr_A, pi_I, st_s, st_n, if_true, if_false, eq_self, d_if, d_ju, d_re, d_ca, cat0, cat1, cat2, cat3, fr_z, fr_s, cc_I, cc_A, cc_N, Nat.reduceAdd, Nat.reduceLT, Nat.reduceLeDiff, Nat.reduceEqDiff, not_true, not_false_iff, z1_0, z1_1, Bool.and_self, Bool.true_and, Bool.and_true, nI_add, pk_mul, nI_clamp, decide_true, Nat.le_refl, bI_eq, bI_z1]
    refine go_loopA (α := Unit) (fun i x => ([.ref 388, .int (nI p), .int (nI (cnt (fun o => decide (f p < f o) || (decide (f o = f p) && decide (o < p))) i)), .int (nI i)], [], (428, 26053, KD, RF, v, w))) (fun i x => True) (tN T) ?_ ?_ () trivial
    · intro i _ hi _ ih
      try dsimp only at *
      have hni : ¬ tN T ≤ i := by omega
      refine go_at (blk := b_Model_rank_14) rfl ?_
      simp (disch := omega) only [b_Model_rank_14, be_4, be_6, be_34, be_33, be_38, be_49_3, kc_388, rf_388_23, ka_398, List.getD_cons_zero, List.getD_cons_succ, List.set_cons_zero, List.set_cons_succ, List.length_cons, List.length_nil, pk_I, pk_A, pr_A, pi_I, st_s, st_n, if_true, if_false, eq_self, d_if, d_ju, d_re, d_ca, cat0, cat1, cat2, cat3, fr_z, fr_s, cc_I, cc_A, cc_N, Nat.reduceAdd, Nat.reduceLT, Nat.reduceLeDiff, Nat.reduceEqDiff, not_true, not_false_iff, z1_0, z1_1, Bool.and_self, Bool.true_and, Bool.and_true, nI_add, pk_mul, nI_clamp, decide_true, Nat.le_refl, bI_eq, bI_z1, nI_ltI, nI_leI, k18, k398, k418, hni]
      refine go_at (blk := b_Model_rank_27) rfl ?_
      simp (disch := omega) only [b_Model_rank_27, be_6, be_34, be_4, be_38, be_49_4, kc_388, rf_388_47, ka_418, List.getD_cons_zero, List.getD_cons_succ, List.set_cons_zero, List.set_cons_succ, List.length_cons, List.length_nil, pk_I, pk_A, pr_A, pi_I, st_s, st_n, if_true, if_false, eq_self, d_if, d_ju, d_re, d_ca, cat0, cat1, cat2, cat3, fr_z, fr_s, cc_I, cc_A, cc_N, Nat.reduceAdd, Nat.reduceLT, Nat.reduceLeDiff, Nat.reduceEqDiff, not_true, not_false_iff, z1_0, z1_1, Bool.and_self, Bool.true_and, Bool.and_true, nI_add, pk_mul, nI_clamp, decide_true, Nat.le_refl, bI_eq, bI_z1, nI_ltI, nI_leI, k18, k398, k418, hni]
      split
      · rename_i h2
        refine go_at (blk := b_Model_rank_62) rfl ?_
        simp (disch := omega) only [b_Model_rank_62, be_10, be_0, List.getD_cons_zero, List.getD_cons_succ, List.set_cons_zero, List.set_cons_succ, List.length_cons, List.length_nil, pk_I, pk_A, pr_A, pi_I, st_s, st_n, if_true, if_false, eq_self, d_if, d_ju, d_re, d_ca, cat0, cat1, cat2, cat3, fr_z, fr_s, cc_I, cc_A, cc_N, Nat.reduceAdd, Nat.reduceLT, Nat.reduceLeDiff, Nat.reduceEqDiff, not_true, not_false_iff, z1_0, z1_1, Bool.and_self, Bool.true_and, Bool.and_true, nI_add, pk_mul, nI_clamp, decide_true, Nat.le_refl, bI_eq, bI_z1, nI_ltI, nI_leI, k18, k398, k418, hni]
        refine go_at (blk := b_Model_rank_65) rfl ?_
        simp (disch := omega) only [b_Model_rank_65, be_10, be_51, List.getD_cons_zero, List.getD_cons_succ, List.set_cons_zero, List.set_cons_succ, List.length_cons, List.length_nil, pk_I, pk_A, pr_A, pi_I, st_s, st_n, if_true, if_false, eq_self, d_if, d_ju, d_re, d_ca, cat0, cat1, cat2, cat3, fr_z, fr_s, cc_I, cc_A, cc_N, Nat.reduceAdd, Nat.reduceLT, Nat.reduceLeDiff, Nat.reduceEqDiff, not_true, not_false_iff, z1_0, z1_1, Bool.and_self, Bool.true_and, Bool.and_true, nI_add, pk_mul, nI_clamp, decide_true, Nat.le_refl, bI_eq, bI_z1, nI_ltI, nI_leI, k18, k398, k418, hni]
        simp only [cnt_t (g := (fun o => decide (f p < f o) || (decide (f o = f p) && decide (o < p)))) (show (decide (f p < f i) || (decide (f i = f p) && decide (i < p))) = true by rw [decide_eq_true h2]; rfl)] at ih
        exact ih () trivial
      · rename_i h2
        refine go_at (blk := b_Model_rank_42) rfl ?_
        simp (disch := omega) only [b_Model_rank_42, be_6, be_34, be_4, be_38, be_49_1, kc_388, rf_388_47, ka_418, List.getD_cons_zero, List.getD_cons_succ, List.set_cons_zero, List.set_cons_succ, List.length_cons, List.length_nil, pk_I, pk_A, pr_A, pi_I, st_s, st_n, if_true, if_false, eq_self, d_if, d_ju, d_re, d_ca, cat0, cat1, cat2, cat3, fr_z, fr_s, cc_I, cc_A, cc_N, Nat.reduceAdd, Nat.reduceLT, Nat.reduceLeDiff, Nat.reduceEqDiff, not_true, not_false_iff, z1_0, z1_1, Bool.and_self, Bool.true_and, Bool.and_true, nI_add, pk_mul, nI_clamp, decide_true, Nat.le_refl, bI_eq, bI_z1, nI_ltI, nI_leI, k18, k398, k418, hni]
        split
        · rename_i h1
          refine go_at (blk := b_Model_rank_65) rfl ?_
          simp (disch := omega) only [b_Model_rank_65, be_10, be_51, List.getD_cons_zero, List.getD_cons_succ, List.set_cons_zero, List.set_cons_succ, List.length_cons, List.length_nil, pk_I, pk_A, pr_A, pi_I, st_s, st_n, if_true, if_false, eq_self, d_if, d_ju, d_re, d_ca, cat0, cat1, cat2, cat3, fr_z, fr_s, cc_I, cc_A, cc_N, Nat.reduceAdd, Nat.reduceLT, Nat.reduceLeDiff, Nat.reduceEqDiff, not_true, not_false_iff, z1_0, z1_1, Bool.and_self, Bool.true_and, Bool.and_true, nI_add, pk_mul, nI_clamp, decide_true, Nat.le_refl, bI_eq, bI_z1, nI_ltI, nI_leI, k18, k398, k418, hni]
          simp only [cnt_f (g := (fun o => decide (f p < f o) || (decide (f o = f p) && decide (o < p)))) (show (decide (f p < f i) || (decide (f i = f p) && decide (i < p))) = false by rw [decide_eq_false h2, decide_eq_false h1]; rfl)] at ih
          exact ih () trivial
        · rename_i h1
          have h1 := Decidable.not_not.mp h1
          refine go_at (blk := b_Model_rank_57) rfl ?_
          simp (disch := omega) only [b_Model_rank_57, be_4, be_49_3, List.getD_cons_zero, List.getD_cons_succ, List.set_cons_zero, List.set_cons_succ, List.length_cons, List.length_nil, pk_I, pk_A, pr_A, pi_I, st_s, st_n, if_true, if_false, eq_self, d_if, d_ju, d_re, d_ca, cat0, cat1, cat2, cat3, fr_z, fr_s, cc_I, cc_A, cc_N, Nat.reduceAdd, Nat.reduceLT, Nat.reduceLeDiff, Nat.reduceEqDiff, not_true, not_false_iff, z1_0, z1_1, Bool.and_self, Bool.true_and, Bool.and_true, nI_add, pk_mul, nI_clamp, decide_true, Nat.le_refl, bI_eq, bI_z1, nI_ltI, nI_leI, k18, k398, k418, hni]
          split
          · rename_i h3
            refine go_at (blk := b_Model_rank_65) rfl ?_
            simp (disch := omega) only [b_Model_rank_65, be_10, be_51, List.getD_cons_zero, List.getD_cons_succ, List.set_cons_zero, List.set_cons_succ, List.length_cons, List.length_nil, pk_I, pk_A, pr_A, pi_I, st_s, st_n, if_true, if_false, eq_self, d_if, d_ju, d_re, d_ca, cat0, cat1, cat2, cat3, fr_z, fr_s, cc_I, cc_A, cc_N, Nat.reduceAdd, Nat.reduceLT, Nat.reduceLeDiff, Nat.reduceEqDiff, not_true, not_false_iff, z1_0, z1_1, Bool.and_self, Bool.true_and, Bool.and_true, nI_add, pk_mul, nI_clamp, decide_true, Nat.le_refl, bI_eq, bI_z1, nI_ltI, nI_leI, k18, k398, k418, hni]
            simp only [cnt_f (g := (fun o => decide (f p < f o) || (decide (f o = f p) && decide (o < p)))) (show (decide (f p < f i) || (decide (f i = f p) && decide (i < p))) = false by rw [decide_eq_false h2, decide_eq_false (p := i < p) (by omega)]; simp)] at ih
            exact ih () trivial
          · rename_i h3
            refine go_at (blk := b_Model_rank_62) rfl ?_
            simp (disch := omega) only [b_Model_rank_62, be_10, be_0, List.getD_cons_zero, List.getD_cons_succ, List.set_cons_zero, List.set_cons_succ, List.length_cons, List.length_nil, pk_I, pk_A, pr_A, pi_I, st_s, st_n, if_true, if_false, eq_self, d_if, d_ju, d_re, d_ca, cat0, cat1, cat2, cat3, fr_z, fr_s, cc_I, cc_A, cc_N, Nat.reduceAdd, Nat.reduceLT, Nat.reduceLeDiff, Nat.reduceEqDiff, not_true, not_false_iff, z1_0, z1_1, Bool.and_self, Bool.true_and, Bool.and_true, nI_add, pk_mul, nI_clamp, decide_true, Nat.le_refl, bI_eq, bI_z1, nI_ltI, nI_leI, k18, k398, k418, hni]
            refine go_at (blk := b_Model_rank_65) rfl ?_
            simp (disch := omega) only [b_Model_rank_65, be_10, be_51, List.getD_cons_zero, List.getD_cons_succ, List.set_cons_zero, List.set_cons_succ, List.length_cons, List.length_nil, pk_I, pk_A, pr_A, pi_I, st_s, st_n, if_true, if_false, eq_self, d_if, d_ju, d_re, d_ca, cat0, cat1, cat2, cat3, fr_z, fr_s, cc_I, cc_A, cc_N, Nat.reduceAdd, Nat.reduceLT, Nat.reduceLeDiff, Nat.reduceEqDiff, not_true, not_false_iff, z1_0, z1_1, Bool.and_self, Bool.true_and, Bool.and_true, nI_add, pk_mul, nI_clamp, decide_true, Nat.le_refl, bI_eq, bI_z1, nI_ltI, nI_leI, k18, k398, k418, hni]
            simp only [cnt_t (g := (fun o => decide (f p < f o) || (decide (f o = f p) && decide (o < p)))) (show (decide (f p < f i) || (decide (f i = f p) && decide (i < p))) = true by rw [decide_eq_true h1, decide_eq_true (p := i < p) (by omega)]; simp)] at ih
            exact ih () trivial
    · intro _ _
      try dsimp only at *
      refine go_at (blk := b_Model_rank_14) rfl ?_
      simp (disch := omega) only [b_Model_rank_14, be_4, be_6, be_34, be_33, be_38, be_49_3, kc_388, rf_388_23, ka_398, List.getD_cons_zero, List.getD_cons_succ, List.set_cons_zero, List.set_cons_succ, List.length_cons, List.length_nil, pk_I, pk_A, pr_A, pi_I, st_s, st_n, if_true, if_false, eq_self, d_if, d_ju, d_re, d_ca, cat0, cat1, cat2, cat3, fr_z, fr_s, cc_I, cc_A, cc_N, Nat.reduceAdd, Nat.reduceLT, Nat.reduceLeDiff, Nat.reduceEqDiff, not_true, not_false_iff, z1_0, z1_1, Bool.and_self, Bool.true_and, Bool.and_true, nI_add, pk_mul, nI_clamp, decide_true, Nat.le_refl, bI_eq, bI_z1, nI_ltI, nI_leI, k18, k398, k418]
      refine go_at (blk := b_Model_rank_71) rfl ?_
      simp (disch := omega) only [b_Model_rank_71, be_4, be_54, List.getD_cons_zero, List.getD_cons_succ, List.set_cons_zero, List.set_cons_succ, List.length_cons, List.length_nil, pk_I, pk_A, pr_A, pi_I, st_s, st_n, if_true, if_false, eq_self, d_if, d_ju, d_re, d_ca, cat0, cat1, cat2, cat3, fr_z, fr_s, cc_I, cc_A, cc_N, Nat.reduceAdd, Nat.reduceLT, Nat.reduceLeDiff, Nat.reduceEqDiff, not_true, not_false_iff, z1_0, z1_1, Bool.and_self, Bool.true_and, Bool.and_true, nI_add, pk_mul, nI_clamp, decide_true, Nat.le_refl, bI_eq, bI_z1, nI_ltI, nI_leI, k18, k398, k418]
      exact hQ
  · rename_i h0
    have h0 : pilB (tN T) y = false := by simpa using h0
    refine go_at (blk := b_Model_rank_8) rfl ?_
    simp (disch := omega) only [b_Model_rank_8, be_2, be_54, List.getD_cons_zero, List.getD_cons_succ, List.set_cons_zero, List.set_cons_succ, List.length_cons, List.length_nil, pk_I, pk_A, pr_A, pi_I, st_s, st_n, if_true, if_false, eq_self, d_if, d_ju, d_re, d_ca, cat0, cat1, cat2, cat3, fr_z, fr_s, cc_I, cc_A, cc_N, Nat.reduceAdd, Nat.reduceLT, Nat.reduceLeDiff, Nat.reduceEqDiff, not_true, not_false_iff, z1_0, z1_1, Bool.and_self, Bool.true_and, Bool.and_true, nI_add, pk_mul, nI_clamp, decide_true, Nat.le_refl, bI_eq, bI_z1]
    unfold rkA at hQ
    rw [if_neg (by rw [h0]; simp)] at hQ
    exact hQ
set_option maxHeartbeats 1000000 in
theorem r_there {d : Nat} {v : Nat → Nat → Int32} {w : Nat → Nat → Int64} {Q : Option Value → am_H → Prop} {T : TXT} {lv : Nat} {f : Nat → Int32} {B : Int} (hM : MI B v T lv f) {x : Int32} (hQ : Q (some (.int (thA T f x))) (428, 26053, KD, RF, v, w)) : am_Ca (d + 2) M_Model_there [.ref 388, .int x] (428, 26053, KD, RF, v, w) Q := by
  have h8 := hM.2.2.2.2.1.1
  obtain ⟨k18, hlv, k398, _⟩ := hM.1.1
  have k418 : v 418 = f := hM.2.1
  refine ca_in (k := k_Model_there) (nL := 4) rfl (Nat.le_of_ble_eq_true rfl) ?_
  show am_Go am_X0 _ k_Model_there 0 ([.ref 388, .int x, .null, .null], [], _) _
  refine go_at (blk := b_Model_there_0) rfl ?_
  simp (disch := omega) only [b_Model_there_0, be_4, be_1, be_58_3, List.getD_cons_zero, List.getD_cons_succ, List.set_cons_zero, List.set_cons_succ, List.length_cons, List.length_nil, pk_I, pk_A, pr_A, pi_I, st_s, st_n, if_true, if_false, eq_self, d_if, d_ju, d_re, d_ca, cat0, cat1, cat2, cat3, fr_z, fr_s, cc_I, cc_A, cc_N, Nat.reduceAdd, Nat.reduceLT, Nat.reduceLeDiff, Nat.reduceEqDiff, not_true, not_false_iff, z1_0, z1_1, Bool.and_self, Bool.true_and, Bool.and_true, nI_add, pk_mul, nI_clamp, decide_true, Nat.le_refl, bI_eq, bI_z1]
  refine m_in ?_
  rw [show inB x (nI 0) (nI 99) = (!decide (x < 0) && !decide (nI 99 < x)) from rfl]
  refine go_at (blk := b_Model_there_7) rfl ?_
  simp (disch := omega) only [b_Model_there_7, be_50_1, List.getD_cons_zero, List.getD_cons_succ, List.set_cons_zero, List.set_cons_succ, List.length_cons, List.length_nil, pk_I, pk_A, pr_A, pi_I, st_s, st_n, if_true, if_false, eq_self, d_if, d_ju, d_re, d_ca, cat0, cat1, cat2, cat3, fr_z, fr_s, cc_I, cc_A, cc_N, Nat.reduceAdd, Nat.reduceLT, Nat.reduceLeDiff, Nat.reduceEqDiff, not_true, not_false_iff, z1_0, z1_1, Bool.and_self, Bool.true_and, Bool.and_true, nI_add, pk_mul, nI_clamp, decide_true, Nat.le_refl, bI_eq, bI_z1]
  split
  · rename_i h0
    have h0 : (!decide (x < 0) && !decide (nI 99 < x)) = true := by simpa using h0
    unfold thA at hQ
    rw [if_pos h0] at hQ
    
    refine go_at (blk := b_Model_there_12) rfl ?_
    simp (disch := omega) only [b_Model_there_12, be_1, be_7, be_0, List.getD_cons_zero, List.getD_cons_succ, List.set_cons_zero, List.set_cons_succ, List.length_cons, List.length_nil, pk_I, pk_A, pr_A, pi_I, st_s, st_n, if_true, if_false, eq_self, d_if, d_ju, d_re, d_ca, cat0, cat1, cat2, cat3, fr_z, fr_s, cc_I, cc_A, cc_N, Nat.reduceAdd, Nat.reduceLT, Nat.reduceLeDiff, Nat.reduceEqDiff, not_true, not_false_iff, z1_0, z1_1, Bool.and_self, Bool.true_and, Bool.and_true, nI_add, pk_mul, nI_clamp, decide_true, Nat.le_refl, bI_eq, bI_z1]
    refine go_loopA (α := Unit) (fun i z => ([.ref 388, .int x, .int (nI (cnt (fun p => decide (f p = x)) i)), .int (nI i)], [], (428, 26053, KD, RF, v, w))) (fun i z => True) (tN T) ?_ ?_ () trivial
    · intro i _ hi _ ih
      try dsimp only at *
      have hni : ¬ tN T ≤ i := by omega
      refine go_at (blk := b_Model_there_16) rfl ?_
      simp (disch := omega) only [b_Model_there_16, be_4, be_6, be_34, be_33, be_38, be_49_3, kc_388, rf_388_23, ka_398, List.getD_cons_zero, List.getD_cons_succ, List.set_cons_zero, List.set_cons_succ, List.length_cons, List.length_nil, pk_I, pk_A, pr_A, pi_I, st_s, st_n, if_true, if_false, eq_self, d_if, d_ju, d_re, d_ca, cat0, cat1, cat2, cat3, fr_z, fr_s, cc_I, cc_A, cc_N, Nat.reduceAdd, Nat.reduceLT, Nat.reduceLeDiff, Nat.reduceEqDiff, not_true, not_false_iff, z1_0, z1_1, Bool.and_self, Bool.true_and, Bool.and_true, nI_add, pk_mul, nI_clamp, decide_true, Nat.le_refl, bI_eq, bI_z1, nI_ltI, nI_leI, k18, k398, k418, hni]
      refine go_at (blk := b_Model_there_29) rfl ?_
      simp (disch := omega) only [b_Model_there_29, be_6, be_34, be_4, be_38, be_49_1, kc_388, rf_388_47, ka_418, List.getD_cons_zero, List.getD_cons_succ, List.set_cons_zero, List.set_cons_succ, List.length_cons, List.length_nil, pk_I, pk_A, pr_A, pi_I, st_s, st_n, if_true, if_false, eq_self, d_if, d_ju, d_re, d_ca, cat0, cat1, cat2, cat3, fr_z, fr_s, cc_I, cc_A, cc_N, Nat.reduceAdd, Nat.reduceLT, Nat.reduceLeDiff, Nat.reduceEqDiff, not_true, not_false_iff, z1_0, z1_1, Bool.and_self, Bool.true_and, Bool.and_true, nI_add, pk_mul, nI_clamp, decide_true, Nat.le_refl, bI_eq, bI_z1, nI_ltI, nI_leI, k18, k398, k418, hni]
      split
      · rename_i hb
        refine go_at (blk := b_Model_there_42) rfl ?_
        simp (disch := omega) only [b_Model_there_42, be_10, be_51, List.getD_cons_zero, List.getD_cons_succ, List.set_cons_zero, List.set_cons_succ, List.length_cons, List.length_nil, pk_I, pk_A, pr_A, pi_I, st_s, st_n, if_true, if_false, eq_self, d_if, d_ju, d_re, d_ca, cat0, cat1, cat2, cat3, fr_z, fr_s, cc_I, cc_A, cc_N, Nat.reduceAdd, Nat.reduceLT, Nat.reduceLeDiff, Nat.reduceEqDiff, not_true, not_false_iff, z1_0, z1_1, Bool.and_self, Bool.true_and, Bool.and_true, nI_add, pk_mul, nI_clamp, decide_true, Nat.le_refl, bI_eq, bI_z1, nI_ltI, nI_leI, k18, k398, k418, hni]
        simp only [cnt_f (g := (fun p => decide (f p = x))) (decide_eq_false hb)] at ih
        exact ih () trivial
      · rename_i hb
        have hb := Decidable.not_not.mp hb
        refine go_at (blk := b_Model_there_39) rfl ?_
        simp (disch := omega) only [b_Model_there_39, be_10, be_0, List.getD_cons_zero, List.getD_cons_succ, List.set_cons_zero, List.set_cons_succ, List.length_cons, List.length_nil, pk_I, pk_A, pr_A, pi_I, st_s, st_n, if_true, if_false, eq_self, d_if, d_ju, d_re, d_ca, cat0, cat1, cat2, cat3, fr_z, fr_s, cc_I, cc_A, cc_N, Nat.reduceAdd, Nat.reduceLT, Nat.reduceLeDiff, Nat.reduceEqDiff, not_true, not_false_iff, z1_0, z1_1, Bool.and_self, Bool.true_and, Bool.and_true, nI_add, pk_mul, nI_clamp, decide_true, Nat.le_refl, bI_eq, bI_z1, nI_ltI, nI_leI, k18, k398, k418, hni]
        refine go_at (blk := b_Model_there_42) rfl ?_
        simp (disch := omega) only [b_Model_there_42, be_10, be_51, List.getD_cons_zero, List.getD_cons_succ, List.set_cons_zero, List.set_cons_succ, List.length_cons, List.length_nil, pk_I, pk_A, pr_A, pi_I, st_s, st_n, if_true, if_false, eq_self, d_if, d_ju, d_re, d_ca, cat0, cat1, cat2, cat3, fr_z, fr_s, cc_I, cc_A, cc_N, Nat.reduceAdd, Nat.reduceLT, Nat.reduceLeDiff, Nat.reduceEqDiff, not_true, not_false_iff, z1_0, z1_1, Bool.and_self, Bool.true_and, Bool.and_true, nI_add, pk_mul, nI_clamp, decide_true, Nat.le_refl, bI_eq, bI_z1, nI_ltI, nI_leI, k18, k398, k418, hni]
        simp only [cnt_t (g := (fun p => decide (f p = x))) (decide_eq_true hb)] at ih
        exact ih () trivial
    · intro _ _
      try dsimp only at *
      refine go_at (blk := b_Model_there_16) rfl ?_
      simp (disch := omega) only [b_Model_there_16, be_4, be_6, be_34, be_33, be_38, be_49_3, kc_388, rf_388_23, ka_398, List.getD_cons_zero, List.getD_cons_succ, List.set_cons_zero, List.set_cons_succ, List.length_cons, List.length_nil, pk_I, pk_A, pr_A, pi_I, st_s, st_n, if_true, if_false, eq_self, d_if, d_ju, d_re, d_ca, cat0, cat1, cat2, cat3, fr_z, fr_s, cc_I, cc_A, cc_N, Nat.reduceAdd, Nat.reduceLT, Nat.reduceLeDiff, Nat.reduceEqDiff, not_true, not_false_iff, z1_0, z1_1, Bool.and_self, Bool.true_and, Bool.and_true, nI_add, pk_mul, nI_clamp, decide_true, Nat.le_refl, bI_eq, bI_z1, nI_ltI, nI_leI, k18, k398, k418]
      refine go_at (blk := b_Model_there_48) rfl ?_
      simp (disch := omega) only [b_Model_there_48, be_4, be_54, List.getD_cons_zero, List.getD_cons_succ, List.set_cons_zero, List.set_cons_succ, List.length_cons, List.length_nil, pk_I, pk_A, pr_A, pi_I, st_s, st_n, if_true, if_false, eq_self, d_if, d_ju, d_re, d_ca, cat0, cat1, cat2, cat3, fr_z, fr_s, cc_I, cc_A, cc_N, Nat.reduceAdd, Nat.reduceLT, Nat.reduceLeDiff, Nat.reduceEqDiff, not_true, not_false_iff, z1_0, z1_1, Bool.and_self, Bool.true_and, Bool.and_true, nI_add, pk_mul, nI_clamp, decide_true, Nat.le_refl, bI_eq, bI_z1, nI_ltI, nI_leI, k18, k398, k418]
      exact hQ
  · rename_i h0
    have h0 : (!decide (x < 0) && !decide (nI 99 < x)) = false := by simpa using h0
    refine go_at (blk := b_Model_there_10) rfl ?_
    simp (disch := omega) only [b_Model_there_10, be_2, be_54, List.getD_cons_zero, List.getD_cons_succ, List.set_cons_zero, List.set_cons_succ, List.length_cons, List.length_nil, pk_I, pk_A, pr_A, pi_I, st_s, st_n, if_true, if_false, eq_self, d_if, d_ju, d_re, d_ca, cat0, cat1, cat2, cat3, fr_z, fr_s, cc_I, cc_A, cc_N, Nat.reduceAdd, Nat.reduceLT, Nat.reduceLeDiff, Nat.reduceEqDiff, not_true, not_false_iff, z1_0, z1_1, Bool.and_self, Bool.true_and, Bool.and_true, nI_add, pk_mul, nI_clamp, decide_true, Nat.le_refl, bI_eq, bI_z1]
    unfold thA at hQ
    rw [if_neg (by rw [h0]; simp)] at hQ
    exact hQ
set_option maxHeartbeats 1000000 in
theorem r_most {d : Nat} {v : Nat → Nat → Int32} {w : Nat → Nat → Int64} {Q : Option Value → am_H → Prop} {T : TXT} {lv : Nat} {f : Nat → Int32} {B : Int} (hM : MI B v T lv f) {z : Int32} (hQ : Q (some (.int (moA T f z))) (428, 26053, KD, RF, v, w)) : am_Ca (d + 2) M_Model_most [.ref 388, .int z] (428, 26053, KD, RF, v, w) Q := by
  have h8 := hM.2.2.2.2.1.1
  obtain ⟨k18, hlv, k398, _⟩ := hM.1.1
  have k418 : v 418 = f := hM.2.1
  refine ca_in (k := k_Model_most) (nL := 4) rfl (Nat.le_of_ble_eq_true rfl) ?_
  show am_Go am_X0 _ k_Model_most 0 ([.ref 388, .int z, .null, .null], [], _) _
  refine go_at (blk := b_Model_most_0) rfl ?_
  simp (disch := omega) only [b_Model_most_0, be_4, be_1, be_58_3, List.getD_cons_zero, List.getD_cons_succ, List.set_cons_zero, List.set_cons_succ, List.length_cons, List.length_nil, pk_I, pk_A, pr_A, pi_I, st_s, st_n, if_true, if_false, eq_self, d_if, d_ju, d_re, d_ca, cat0, cat1, cat2, cat3, fr_z, fr_s, cc_I, cc_A, cc_N, Nat.reduceAdd, Nat.reduceLT, Nat.reduceLeDiff, Nat.reduceEqDiff, not_true, not_false_iff, z1_0, z1_1, Bool.and_self, Bool.true_and, Bool.and_true, nI_add, pk_mul, nI_clamp, decide_true, Nat.le_refl, bI_eq, bI_z1, nI_ltI, nI_leI, k18, k398, k418, nI_e0]
  refine m_in ?_
  rw [in_two]
  refine go_at (blk := b_Model_most_6) rfl ?_
  simp (disch := omega) only [b_Model_most_6, be_50_1, List.getD_cons_zero, List.getD_cons_succ, List.set_cons_zero, List.set_cons_succ, List.length_cons, List.length_nil, pk_I, pk_A, pr_A, pi_I, st_s, st_n, if_true, if_false, eq_self, d_if, d_ju, d_re, d_ca, cat0, cat1, cat2, cat3, fr_z, fr_s, cc_I, cc_A, cc_N, Nat.reduceAdd, Nat.reduceLT, Nat.reduceLeDiff, Nat.reduceEqDiff, not_true, not_false_iff, z1_0, z1_1, Bool.and_self, Bool.true_and, Bool.and_true, nI_add, pk_mul, nI_clamp, decide_true, Nat.le_refl, bI_eq, bI_z1, nI_ltI, nI_leI, k18, k398, k418, nI_e0]
  split
  · rename_i h0
    have h0 : twoB z = true := by simpa using h0
    unfold moA at hQ
    rw [if_pos h0] at hQ
    
    refine go_at (blk := b_Model_most_11) rfl ?_
    simp (disch := omega) only [b_Model_most_11, be_6, be_34, be_33, be_38, be_50_1, kc_388, rf_388_23, ka_398, List.getD_cons_zero, List.getD_cons_succ, List.set_cons_zero, List.set_cons_succ, List.length_cons, List.length_nil, pk_I, pk_A, pr_A, pi_I, st_s, st_n, if_true, if_false, eq_self, d_if, d_ju, d_re, d_ca, cat0, cat1, cat2, cat3, fr_z, fr_s, cc_I, cc_A, cc_N, Nat.reduceAdd, Nat.reduceLT, Nat.reduceLeDiff, Nat.reduceEqDiff, not_true, not_false_iff, z1_0, z1_1, Bool.and_self, Bool.true_and, Bool.and_true, nI_add, pk_mul, nI_clamp, decide_true, Nat.le_refl, bI_eq, bI_z1, nI_ltI, nI_leI, k18, k398, k418, nI_e0]
    split
    · rename_i hn
      rw [if_neg hn] at hQ
      refine go_at (blk := b_Model_most_26) rfl ?_
      simp (disch := omega) only [b_Model_most_26, be_1, be_7, be_0, List.getD_cons_zero, List.getD_cons_succ, List.set_cons_zero, List.set_cons_succ, List.length_cons, List.length_nil, pk_I, pk_A, pr_A, pi_I, st_s, st_n, if_true, if_false, eq_self, d_if, d_ju, d_re, d_ca, cat0, cat1, cat2, cat3, fr_z, fr_s, cc_I, cc_A, cc_N, Nat.reduceAdd, Nat.reduceLT, Nat.reduceLeDiff, Nat.reduceEqDiff, not_true, not_false_iff, z1_0, z1_1, Bool.and_self, Bool.true_and, Bool.and_true, nI_add, pk_mul, nI_clamp, decide_true, Nat.le_refl, bI_eq, bI_z1, nI_ltI, nI_leI, k18, k398, k418, nI_e0]
      refine go_loopA (α := Unit) (fun i u => ([.ref 388, .int z, .int (nI (mwN f i)), .int (nI (i + 1))], [], (428, 26053, KD, RF, v, w))) (fun i u => True) (tN T - 1) ?_ ?_ () trivial
      · intro i _ hi _ ih
        try dsimp only at *
        have hwl := mw_le (f := f) i
        have hni2 : ¬ tN T ≤ i + 1 := by omega
        refine go_at (blk := b_Model_most_30) rfl ?_
        simp (disch := omega) only [b_Model_most_30, be_4, be_6, be_34, be_33, be_38, be_49_3, kc_388, rf_388_23, ka_398, List.getD_cons_zero, List.getD_cons_succ, List.set_cons_zero, List.set_cons_succ, List.length_cons, List.length_nil, pk_I, pk_A, pr_A, pi_I, st_s, st_n, if_true, if_false, eq_self, d_if, d_ju, d_re, d_ca, cat0, cat1, cat2, cat3, fr_z, fr_s, cc_I, cc_A, cc_N, Nat.reduceAdd, Nat.reduceLT, Nat.reduceLeDiff, Nat.reduceEqDiff, not_true, not_false_iff, z1_0, z1_1, Bool.and_self, Bool.true_and, Bool.and_true, nI_add, pk_mul, nI_clamp, decide_true, Nat.le_refl, bI_eq, bI_z1, nI_ltI, nI_leI, k18, k398, k418, hni2]
        refine go_at (blk := b_Model_most_43) rfl ?_
        simp (disch := omega) only [b_Model_most_43, be_6, be_34, be_1, be_4, be_12, be_38, be_49_5, kc_388, rf_388_47, ka_418, List.getD_cons_zero, List.getD_cons_succ, List.set_cons_zero, List.set_cons_succ, List.length_cons, List.length_nil, pk_I, pk_A, pr_A, pi_I, st_s, st_n, if_true, if_false, eq_self, d_if, d_ju, d_re, d_ca, cat0, cat1, cat2, cat3, fr_z, fr_s, cc_I, cc_A, cc_N, Nat.reduceAdd, Nat.reduceLT, Nat.reduceLeDiff, Nat.reduceEqDiff, not_true, not_false_iff, z1_0, z1_1, Bool.and_self, Bool.true_and, Bool.and_true, nI_add, pk_mul, nI_clamp, decide_true, Nat.le_refl, bI_eq, bI_z1, nI_ltI, nI_leI, k18, k398, k418, hni2]
        split
        · rename_i hc
          refine go_at (blk := b_Model_most_66) rfl ?_
          simp (disch := omega) only [b_Model_most_66, be_10, be_51, List.getD_cons_zero, List.getD_cons_succ, List.set_cons_zero, List.set_cons_succ, List.length_cons, List.length_nil, pk_I, pk_A, pr_A, pi_I, st_s, st_n, if_true, if_false, eq_self, d_if, d_ju, d_re, d_ca, cat0, cat1, cat2, cat3, fr_z, fr_s, cc_I, cc_A, cc_N, Nat.reduceAdd, Nat.reduceLT, Nat.reduceLeDiff, Nat.reduceEqDiff, not_true, not_false_iff, z1_0, z1_1, Bool.and_self, Bool.true_and, Bool.and_true, nI_add, pk_mul, nI_clamp, decide_true, Nat.le_refl, bI_eq, bI_z1, nI_ltI, nI_leI, k18, k398, k418, hni2]
          simp only [mw_f (Int32.not_lt.mpr hc)] at ih
          exact ih () trivial
        · rename_i hc
          have hc := Int32.not_le.mp hc
          refine go_at (blk := b_Model_most_64) rfl ?_
          simp (disch := omega) only [b_Model_most_64, be_4, be_7, be_0, List.getD_cons_zero, List.getD_cons_succ, List.set_cons_zero, List.set_cons_succ, List.length_cons, List.length_nil, pk_I, pk_A, pr_A, pi_I, st_s, st_n, if_true, if_false, eq_self, d_if, d_ju, d_re, d_ca, cat0, cat1, cat2, cat3, fr_z, fr_s, cc_I, cc_A, cc_N, Nat.reduceAdd, Nat.reduceLT, Nat.reduceLeDiff, Nat.reduceEqDiff, not_true, not_false_iff, z1_0, z1_1, Bool.and_self, Bool.true_and, Bool.and_true, nI_add, pk_mul, nI_clamp, decide_true, Nat.le_refl, bI_eq, bI_z1, nI_ltI, nI_leI, k18, k398, k418, hni2]
          refine go_at (blk := b_Model_most_66) rfl ?_
          simp (disch := omega) only [b_Model_most_66, be_10, be_51, List.getD_cons_zero, List.getD_cons_succ, List.set_cons_zero, List.set_cons_succ, List.length_cons, List.length_nil, pk_I, pk_A, pr_A, pi_I, st_s, st_n, if_true, if_false, eq_self, d_if, d_ju, d_re, d_ca, cat0, cat1, cat2, cat3, fr_z, fr_s, cc_I, cc_A, cc_N, Nat.reduceAdd, Nat.reduceLT, Nat.reduceLeDiff, Nat.reduceEqDiff, not_true, not_false_iff, z1_0, z1_1, Bool.and_self, Bool.true_and, Bool.and_true, nI_add, pk_mul, nI_clamp, decide_true, Nat.le_refl, bI_eq, bI_z1, nI_ltI, nI_leI, k18, k398, k418, hni2]
          simp only [mw_t hc] at ih
          exact ih () trivial
      · intro _ _
        try dsimp only at *
        have hwl := mw_le (f := f) (tN T - 1)
        have hge : tN T ≤ tN T - 1 + 1 := by omega
        refine go_at (blk := b_Model_most_30) rfl ?_
        simp (disch := omega) only [b_Model_most_30, be_4, be_6, be_34, be_33, be_38, be_49_3, kc_388, rf_388_23, ka_398, List.getD_cons_zero, List.getD_cons_succ, List.set_cons_zero, List.set_cons_succ, List.length_cons, List.length_nil, pk_I, pk_A, pr_A, pi_I, st_s, st_n, if_true, if_false, eq_self, d_if, d_ju, d_re, d_ca, cat0, cat1, cat2, cat3, fr_z, fr_s, cc_I, cc_A, cc_N, Nat.reduceAdd, Nat.reduceLT, Nat.reduceLeDiff, Nat.reduceEqDiff, not_true, not_false_iff, z1_0, z1_1, Bool.and_self, Bool.true_and, Bool.and_true, nI_add, pk_mul, nI_clamp, decide_true, Nat.le_refl, bI_eq, bI_z1, nI_ltI, nI_leI, k18, k398, k418, hge]
        refine go_at (blk := b_Model_most_72) rfl ?_
        simp (disch := omega) only [b_Model_most_72, be_4, be_50_1, List.getD_cons_zero, List.getD_cons_succ, List.set_cons_zero, List.set_cons_succ, List.length_cons, List.length_nil, pk_I, pk_A, pr_A, pi_I, st_s, st_n, if_true, if_false, eq_self, d_if, d_ju, d_re, d_ca, cat0, cat1, cat2, cat3, fr_z, fr_s, cc_I, cc_A, cc_N, Nat.reduceAdd, Nat.reduceLT, Nat.reduceLeDiff, Nat.reduceEqDiff, not_true, not_false_iff, z1_0, z1_1, Bool.and_self, Bool.true_and, Bool.and_true, nI_add, pk_mul, nI_clamp, decide_true, Nat.le_refl, bI_eq, bI_z1, nI_ltI, nI_leI, k18, k398, k418, hge]
        split
        · rename_i hw
          rw [if_neg hw] at hQ
          refine go_at (blk := b_Model_most_80) rfl ?_
          simp (disch := omega) only [b_Model_most_80, be_6, be_34, be_1, be_4, be_12, be_38, be_0, kc_388, rf_388_47, ka_418, List.getD_cons_zero, List.getD_cons_succ, List.set_cons_zero, List.set_cons_succ, List.length_cons, List.length_nil, pk_I, pk_A, pr_A, pi_I, st_s, st_n, if_true, if_false, eq_self, d_if, d_ju, d_re, d_ca, cat0, cat1, cat2, cat3, fr_z, fr_s, cc_I, cc_A, cc_N, Nat.reduceAdd, Nat.reduceLT, Nat.reduceLeDiff, Nat.reduceEqDiff, not_true, not_false_iff, z1_0, z1_1, Bool.and_self, Bool.true_and, Bool.and_true, nI_add, pk_mul, nI_clamp, decide_true, Nat.le_refl, bI_eq, bI_z1, nI_ltI, nI_leI, k18, k398, k418, hge]
          refine go_at (blk := b_Model_most_89) rfl ?_
          simp (disch := omega) only [b_Model_most_89, be_54, List.getD_cons_zero, List.getD_cons_succ, List.set_cons_zero, List.set_cons_succ, List.length_cons, List.length_nil, pk_I, pk_A, pr_A, pi_I, st_s, st_n, if_true, if_false, eq_self, d_if, d_ju, d_re, d_ca, cat0, cat1, cat2, cat3, fr_z, fr_s, cc_I, cc_A, cc_N, Nat.reduceAdd, Nat.reduceLT, Nat.reduceLeDiff, Nat.reduceEqDiff, not_true, not_false_iff, z1_0, z1_1, Bool.and_self, Bool.true_and, Bool.and_true, nI_add, pk_mul, nI_clamp, decide_true, Nat.le_refl, bI_eq, bI_z1, nI_ltI, nI_leI, k18, k398, k418, hge]
          exact hQ
        · rename_i hw
          rw [if_pos (Decidable.not_not.mp hw)] at hQ
          refine go_at (blk := b_Model_most_76) rfl ?_
          simp (disch := omega) only [b_Model_most_76, be_4, be_51, List.getD_cons_zero, List.getD_cons_succ, List.set_cons_zero, List.set_cons_succ, List.length_cons, List.length_nil, pk_I, pk_A, pr_A, pi_I, st_s, st_n, if_true, if_false, eq_self, d_if, d_ju, d_re, d_ca, cat0, cat1, cat2, cat3, fr_z, fr_s, cc_I, cc_A, cc_N, Nat.reduceAdd, Nat.reduceLT, Nat.reduceLeDiff, Nat.reduceEqDiff, not_true, not_false_iff, z1_0, z1_1, Bool.and_self, Bool.true_and, Bool.and_true, nI_add, pk_mul, nI_clamp, decide_true, Nat.le_refl, bI_eq, bI_z1, nI_ltI, nI_leI, k18, k398, k418, hge]
          refine go_at (blk := b_Model_most_89) rfl ?_
          simp (disch := omega) only [b_Model_most_89, be_54, List.getD_cons_zero, List.getD_cons_succ, List.set_cons_zero, List.set_cons_succ, List.length_cons, List.length_nil, pk_I, pk_A, pr_A, pi_I, st_s, st_n, if_true, if_false, eq_self, d_if, d_ju, d_re, d_ca, cat0, cat1, cat2, cat3, fr_z, fr_s, cc_I, cc_A, cc_N, Nat.reduceAdd, Nat.reduceLT, Nat.reduceLeDiff, Nat.reduceEqDiff, not_true, not_false_iff, z1_0, z1_1, Bool.and_self, Bool.true_and, Bool.and_true, nI_add, pk_mul, nI_clamp, decide_true, Nat.le_refl, bI_eq, bI_z1, nI_ltI, nI_leI, k18, k398, k418, hge]
          exact hQ
    · rename_i hn
      rw [if_pos (Decidable.not_not.mp hn)] at hQ
      refine go_at (blk := b_Model_most_23) rfl ?_
      simp (disch := omega) only [b_Model_most_23, be_2, be_54, List.getD_cons_zero, List.getD_cons_succ, List.set_cons_zero, List.set_cons_succ, List.length_cons, List.length_nil, pk_I, pk_A, pr_A, pi_I, st_s, st_n, if_true, if_false, eq_self, d_if, d_ju, d_re, d_ca, cat0, cat1, cat2, cat3, fr_z, fr_s, cc_I, cc_A, cc_N, Nat.reduceAdd, Nat.reduceLT, Nat.reduceLeDiff, Nat.reduceEqDiff, not_true, not_false_iff, z1_0, z1_1, Bool.and_self, Bool.true_and, Bool.and_true, nI_add, pk_mul, nI_clamp, decide_true, Nat.le_refl, bI_eq, bI_z1, nI_ltI, nI_leI, k18, k398, k418, nI_e0]
      exact hQ
  · rename_i h0
    have h0 : twoB z = false := by simpa using h0
    refine go_at (blk := b_Model_most_9) rfl ?_
    simp (disch := omega) only [b_Model_most_9, be_2, be_54, List.getD_cons_zero, List.getD_cons_succ, List.set_cons_zero, List.set_cons_succ, List.length_cons, List.length_nil, pk_I, pk_A, pr_A, pi_I, st_s, st_n, if_true, if_false, eq_self, d_if, d_ju, d_re, d_ca, cat0, cat1, cat2, cat3, fr_z, fr_s, cc_I, cc_A, cc_N, Nat.reduceAdd, Nat.reduceLT, Nat.reduceLeDiff, Nat.reduceEqDiff, not_true, not_false_iff, z1_0, z1_1, Bool.and_self, Bool.true_and, Bool.and_true, nI_add, pk_mul, nI_clamp, decide_true, Nat.le_refl, bI_eq, bI_z1, nI_ltI, nI_leI, k18, k398, k418, nI_e0]
    unfold moA at hQ
    rw [if_neg (by rw [h0]; simp)] at hQ
    exact hQ
theorem li_ok {g : Nat → Int32} {l : Int32} {n : Nat} (hl : l = -2 ∨ 0 ≤ l.toInt) (hg : ∀ p, p < n → 0 ≤ (g p).toInt) : ∀ j, j ≤ n → liS g l j = -2 ∨ 0 ≤ (liS g l j).toInt := by
  intro j
  induction j with
  | zero => intro _; exact hl
  | succ j ih =>
    intro hj
    show (if (onB g (-1) j && (decide (liS g l j = -2) || decide (g j < liS g l j))) = true then g j else liS g l j) = -2 ∨ 0 ≤ (if (onB g (-1) j && (decide (liS g l j = -2) || decide (g j < liS g l j))) = true then g j else liS g l j).toInt
    split
    · exact Or.inr (hg j (by omega))
    · exact ih (by omega)
theorem n2_of {l : Int32} (h : l = -2 ∨ 0 ≤ l.toInt) (h2 : l < 0) : l = -2 := by
  rcases h with h | h
  · exact h
  · rw [Int32.lt_iff_toInt_lt, show (0 : Int32).toInt = 0 from rfl] at h2
    omega
theorem n2_no {l : Int32} (h2 : ¬ l < 0) : ¬ l = -2 := by
  intro z
  rw [z] at h2
  exact h2 (by decide)
set_option maxHeartbeats 1000000 in
theorem r_lowest {d : Nat} {v : Nat → Nat → Int32} {w : Nat → Nat → Int64} {Q : Option Value → am_H → Prop} {T : TXT} {lv : Nat} {f : Nat → Int32} {B : Int} (hM : MI B v T lv f) {x : Int32} (hQ : ∀ v', MF v v' → Q (some (.int (loA T f x))) (428, 26053, KD, RF, v', w)) : am_Ca (d + 6) M_Model_lowest [.ref 388, .int x] (428, 26053, KD, RF, v, w) Q := by
  have h8 := hM.2.2.2.2.1.1
  refine ca_in (k := k_Model_lowest) (nL := 5) rfl (Nat.le_of_ble_eq_true rfl) ?_
  show am_Go am_X0 _ k_Model_lowest 0 ([.ref 388, .int x, .null, .null, .null], [], _) _
  refine go_at (blk := b_Model_lowest_0) rfl ?_
  simp (disch := omega) only [b_Model_lowest_0, be_4, be_1, be_58_3, List.getD_cons_zero, List.getD_cons_succ, List.set_cons_zero, List.set_cons_succ, List.length_cons, List.length_nil, pk_I, pk_A, pr_A, pi_I, st_s, st_n, if_true, if_false, eq_self, d_if, d_ju, d_re, d_ca, cat0, cat1, cat2, cat3, fr_z, fr_s, cc_I, cc_A, cc_N, Nat.reduceAdd, Nat.reduceLT, Nat.reduceLeDiff, Nat.reduceEqDiff, not_true, not_false_iff, z1_0, z1_1, Bool.and_self, Bool.true_and, Bool.and_true, nI_add, pk_mul, nI_clamp, decide_true, Nat.le_refl, bI_eq, bI_z1]
  refine m_in ?_
  rw [show inB x (nI 0) (nI 300) = (!decide (x < 0) && !decide (nI 300 < x)) from rfl]
  refine go_at (blk := b_Model_lowest_8) rfl ?_
  simp (disch := omega) only [b_Model_lowest_8, be_50_1, List.getD_cons_zero, List.getD_cons_succ, List.set_cons_zero, List.set_cons_succ, List.length_cons, List.length_nil, pk_I, pk_A, pr_A, pi_I, st_s, st_n, if_true, if_false, eq_self, d_if, d_ju, d_re, d_ca, cat0, cat1, cat2, cat3, fr_z, fr_s, cc_I, cc_A, cc_N, Nat.reduceAdd, Nat.reduceLT, Nat.reduceLeDiff, Nat.reduceEqDiff, not_true, not_false_iff, z1_0, z1_1, Bool.and_self, Bool.true_and, Bool.and_true, nI_add, pk_mul, nI_clamp, decide_true, Nat.le_refl, bI_eq, bI_z1]
  split
  · rename_i h0
    have h0 : (!decide (x < 0) && !decide (nI 300 < x)) = true := by simpa using h0
    unfold loA at hQ
    rw [if_pos h0] at hQ
    obtain ⟨n, hn, rfl, en⟩ := in_of (m := 300) (by omega) h0
    rw [en] at hQ
    refine go_at (blk := b_Model_lowest_13) rfl ?_
    simp (disch := omega) only [b_Model_lowest_13, be_6, be_57_0, kc_388, List.getD_cons_zero, List.getD_cons_succ, List.set_cons_zero, List.set_cons_succ, List.length_cons, List.length_nil, pk_I, pk_A, pr_A, pi_I, st_s, st_n, if_true, if_false, eq_self, d_if, d_ju, d_re, d_ca, cat0, cat1, cat2, cat3, fr_z, fr_s, cc_I, cc_A, cc_N, Nat.reduceAdd, Nat.reduceLT, Nat.reduceLeDiff, Nat.reduceEqDiff, not_true, not_false_iff, z1_0, z1_1, Bool.and_self, Bool.true_and, Bool.and_true, nI_add, pk_mul, nI_clamp, decide_true, Nat.le_refl, bI_eq, bI_z1]
    refine rm_copies hM ?_
    intro v1 q1 r1
    refine go_at (blk := b_Model_lowest_17) rfl ?_
    simp (disch := omega) only [b_Model_lowest_17, be_2, be_7, be_1, be_0, List.getD_cons_zero, List.getD_cons_succ, List.set_cons_zero, List.set_cons_succ, List.length_cons, List.length_nil, pk_I, pk_A, pr_A, pi_I, st_s, st_n, if_true, if_false, eq_self, d_if, d_ju, d_re, d_ca, cat0, cat1, cat2, cat3, fr_z, fr_s, cc_I, cc_A, cc_N, Nat.reduceAdd, Nat.reduceLT, Nat.reduceLeDiff, Nat.reduceEqDiff, not_true, not_false_iff, z1_0, z1_1, Bool.and_self, Bool.true_and, Bool.and_true, nI_add, pk_mul, nI_clamp, decide_true, Nat.le_refl, bI_eq, bI_z1]
    refine go_loopA (α := (Nat → Nat → Int32) × Value) (fun i x => ([.ref 388, .int (nI n), .int (loS T f i), .int (nI i), x.2], [], (428, 26053, KD, RF, x.1, w))) (fun i x => MF v x.1 ∧ (i ≤ n → MR x.1 (itT T (-1) 0 i f) (-1) 0) ∧ am_cc x.2 = true ∧ (loS T f i = -2 ∨ 0 ≤ (loS T f i).toInt)) (n + 1) ?_ ?_ (v1, .null) ⟨q1, fun _ => r1, rfl, Or.inl rfl⟩
    · intro i x hi ⟨x1, x2, x3, x4⟩ ih
      try dsimp only at *
      have hMx : MI B x.1 T lv f := MI_f hM x1
      obtain ⟨k18, hlv, k398, _⟩ := (MI_f hM x1).1.1
      have k418 : x.1 418 = f := (MI_f hM x1).2.1
      have hni : ¬ n < i := by omega
      have r0 := x2 (by omega)
      have e1 : x.1 419 = (itT T (-1) 0 i f) := r0.1
      have hgp : ∀ p, p < tN T → 0 ≤ ((itT T (-1) 0 i f) p).toInt := fun p hp => ((GR_it hM.2.2.2.2.1 hM.2.2.2.1 i (by have := hM.2.2.2.2.2.2; omega)).1 p hp).2.2.2.2.1
      refine go_at (blk := b_Model_lowest_22) rfl ?_
      simp (disch := omega) only [b_Model_lowest_22, be_4, be_49_4, List.getD_cons_zero, List.getD_cons_succ, List.set_cons_zero, List.set_cons_succ, List.length_cons, List.length_nil, pk_I, pk_A, pr_A, pi_I, st_s, st_n, if_true, if_false, eq_self, d_if, d_ju, d_re, d_ca, cat0, cat1, cat2, cat3, fr_z, fr_s, cc_I, cc_A, cc_N, Nat.reduceAdd, Nat.reduceLT, Nat.reduceLeDiff, Nat.reduceEqDiff, not_true, not_false_iff, z1_0, z1_1, Bool.and_self, Bool.true_and, Bool.and_true, nI_add, pk_mul, nI_clamp, decide_true, Nat.le_refl, bI_eq, bI_z1, nI_ltI, nI_leI, x3, hni]
      refine go_at (blk := b_Model_lowest_27) rfl ?_
      simp (disch := omega) only [b_Model_lowest_27, be_1, be_7, be_0, List.getD_cons_zero, List.getD_cons_succ, List.set_cons_zero, List.set_cons_succ, List.length_cons, List.length_nil, pk_I, pk_A, pr_A, pi_I, st_s, st_n, if_true, if_false, eq_self, d_if, d_ju, d_re, d_ca, cat0, cat1, cat2, cat3, fr_z, fr_s, cc_I, cc_A, cc_N, Nat.reduceAdd, Nat.reduceLT, Nat.reduceLeDiff, Nat.reduceEqDiff, not_true, not_false_iff, z1_0, z1_1, Bool.and_self, Bool.true_and, Bool.and_true, nI_add, pk_mul, nI_clamp, decide_true, Nat.le_refl, bI_eq, bI_z1, nI_ltI, nI_leI, x3, hni]
      refine go_loopA (α := Unit) (fun j u => ([.ref 388, .int (nI n), .int (liS (itT T (-1) 0 i f) (loS T f i) j), .int (nI i), .int (nI j)], [], (428, 26053, KD, RF, x.1, w))) (fun j u => True) (tN T) ?_ ?_ () trivial
      · intro j _ hj _ jh
        try dsimp only at *
        have hnj : ¬ tN T ≤ j := by omega
        refine go_at (blk := b_Model_lowest_30) rfl ?_
        simp (disch := omega) only [b_Model_lowest_30, be_4, be_6, be_34, be_33, be_38, be_49_3, kc_388, rf_388_23, ka_398, List.getD_cons_zero, List.getD_cons_succ, List.set_cons_zero, List.set_cons_succ, List.length_cons, List.length_nil, pk_I, pk_A, pr_A, pi_I, st_s, st_n, if_true, if_false, eq_self, d_if, d_ju, d_re, d_ca, cat0, cat1, cat2, cat3, fr_z, fr_s, cc_I, cc_A, cc_N, Nat.reduceAdd, Nat.reduceLT, Nat.reduceLeDiff, Nat.reduceEqDiff, not_true, not_false_iff, z1_0, z1_1, Bool.and_self, Bool.true_and, Bool.and_true, nI_add, pk_mul, nI_clamp, decide_true, Nat.le_refl, bI_eq, bI_z1, nI_ltI, nI_leI, k18, k398, k418, e1, hnj]
        refine go_at (blk := b_Model_lowest_44) rfl ?_
        simp (disch := omega) only [b_Model_lowest_44, be_6, be_4, be_57_1, kc_388, List.getD_cons_zero, List.getD_cons_succ, List.set_cons_zero, List.set_cons_succ, List.length_cons, List.length_nil, pk_I, pk_A, pr_A, pi_I, st_s, st_n, if_true, if_false, eq_self, d_if, d_ju, d_re, d_ca, cat0, cat1, cat2, cat3, fr_z, fr_s, cc_I, cc_A, cc_N, Nat.reduceAdd, Nat.reduceLT, Nat.reduceLeDiff, Nat.reduceEqDiff, not_true, not_false_iff, z1_0, z1_1, Bool.and_self, Bool.true_and, Bool.and_true, nI_add, pk_mul, nI_clamp, decide_true, Nat.le_refl, bI_eq, bI_z1, nI_ltI, nI_leI, k18, k398, k418, e1, hnj]
        refine r_isOn (by omega) r0 ?_
        refine go_at (blk := b_Model_lowest_50) rfl ?_
        simp (disch := omega) only [b_Model_lowest_50, be_50_0, List.getD_cons_zero, List.getD_cons_succ, List.set_cons_zero, List.set_cons_succ, List.length_cons, List.length_nil, pk_I, pk_A, pr_A, pi_I, st_s, st_n, if_true, if_false, eq_self, d_if, d_ju, d_re, d_ca, cat0, cat1, cat2, cat3, fr_z, fr_s, cc_I, cc_A, cc_N, Nat.reduceAdd, Nat.reduceLT, Nat.reduceLeDiff, Nat.reduceEqDiff, not_true, not_false_iff, z1_0, z1_1, Bool.and_self, Bool.true_and, Bool.and_true, nI_add, pk_mul, nI_clamp, decide_true, Nat.le_refl, bI_eq, bI_z1, nI_ltI, nI_leI, k18, k398, k418, e1, hnj]
        split
        · rename_i ha
          have ha : onB (itT T (-1) 0 i f) (-1) j = false := by simpa using ha
          refine go_at (blk := b_Model_lowest_76) rfl ?_
          simp (disch := omega) only [b_Model_lowest_76, be_10, be_51, List.getD_cons_zero, List.getD_cons_succ, List.set_cons_zero, List.set_cons_succ, List.length_cons, List.length_nil, pk_I, pk_A, pr_A, pi_I, st_s, st_n, if_true, if_false, eq_self, d_if, d_ju, d_re, d_ca, cat0, cat1, cat2, cat3, fr_z, fr_s, cc_I, cc_A, cc_N, Nat.reduceAdd, Nat.reduceLT, Nat.reduceLeDiff, Nat.reduceEqDiff, not_true, not_false_iff, z1_0, z1_1, Bool.and_self, Bool.true_and, Bool.and_true, nI_add, pk_mul, nI_clamp, decide_true, Nat.le_refl, bI_eq, bI_z1, nI_ltI, nI_leI, k18, k398, k418, e1, hnj]
          simp only [li_f (show (onB (itT T (-1) 0 i f) (-1) j && (decide ((liS (itT T (-1) 0 i f) (loS T f i) j) = -2) || decide ((itT T (-1) 0 i f) j < (liS (itT T (-1) 0 i f) (loS T f i) j)))) = false by rw [ha]; rfl)] at jh
          exact jh () trivial
        · rename_i ha
          have ha : onB (itT T (-1) 0 i f) (-1) j = true := by simpa using ha
          refine go_at (blk := b_Model_lowest_53) rfl ?_
          simp (disch := omega) only [b_Model_lowest_53, be_4, be_50_2, List.getD_cons_zero, List.getD_cons_succ, List.set_cons_zero, List.set_cons_succ, List.length_cons, List.length_nil, pk_I, pk_A, pr_A, pi_I, st_s, st_n, if_true, if_false, eq_self, d_if, d_ju, d_re, d_ca, cat0, cat1, cat2, cat3, fr_z, fr_s, cc_I, cc_A, cc_N, Nat.reduceAdd, Nat.reduceLT, Nat.reduceLeDiff, Nat.reduceEqDiff, not_true, not_false_iff, z1_0, z1_1, Bool.and_self, Bool.true_and, Bool.and_true, nI_add, pk_mul, nI_clamp, decide_true, Nat.le_refl, bI_eq, bI_z1, nI_ltI, nI_leI, k18, k398, k418, e1, hnj]
          split
          · rename_i hb
            have hx := li_t (show (onB (itT T (-1) 0 i f) (-1) j && (decide ((liS (itT T (-1) 0 i f) (loS T f i) j) = -2) || decide ((itT T (-1) 0 i f) j < (liS (itT T (-1) 0 i f) (loS T f i) j)))) = true by rw [ha, decide_eq_true (n2_of (li_ok x4 hgp j (by omega)) hb)]; rfl)
            simp only [hx] at jh
            refine go_at (blk := b_Model_lowest_68) rfl ?_
            simp (disch := omega) only [b_Model_lowest_68, be_6, be_34, be_4, be_38, be_7, be_0, kc_388, rf_388_48, ka_419, List.getD_cons_zero, List.getD_cons_succ, List.set_cons_zero, List.set_cons_succ, List.length_cons, List.length_nil, pk_I, pk_A, pr_A, pi_I, st_s, st_n, if_true, if_false, eq_self, d_if, d_ju, d_re, d_ca, cat0, cat1, cat2, cat3, fr_z, fr_s, cc_I, cc_A, cc_N, Nat.reduceAdd, Nat.reduceLT, Nat.reduceLeDiff, Nat.reduceEqDiff, not_true, not_false_iff, z1_0, z1_1, Bool.and_self, Bool.true_and, Bool.and_true, nI_add, pk_mul, nI_clamp, decide_true, Nat.le_refl, bI_eq, bI_z1, nI_ltI, nI_leI, k18, k398, k418, e1, hnj]
            refine go_at (blk := b_Model_lowest_76) rfl ?_
            simp (disch := omega) only [b_Model_lowest_76, be_10, be_51, List.getD_cons_zero, List.getD_cons_succ, List.set_cons_zero, List.set_cons_succ, List.length_cons, List.length_nil, pk_I, pk_A, pr_A, pi_I, st_s, st_n, if_true, if_false, eq_self, d_if, d_ju, d_re, d_ca, cat0, cat1, cat2, cat3, fr_z, fr_s, cc_I, cc_A, cc_N, Nat.reduceAdd, Nat.reduceLT, Nat.reduceLeDiff, Nat.reduceEqDiff, not_true, not_false_iff, z1_0, z1_1, Bool.and_self, Bool.true_and, Bool.and_true, nI_add, pk_mul, nI_clamp, decide_true, Nat.le_refl, bI_eq, bI_z1, nI_ltI, nI_leI, k18, k398, k418, e1, hnj]
            exact jh () trivial
          · rename_i hb
            refine go_at (blk := b_Model_lowest_57) rfl ?_
            simp (disch := omega) only [b_Model_lowest_57, be_6, be_34, be_4, be_38, be_49_3, kc_388, rf_388_48, ka_419, List.getD_cons_zero, List.getD_cons_succ, List.set_cons_zero, List.set_cons_succ, List.length_cons, List.length_nil, pk_I, pk_A, pr_A, pi_I, st_s, st_n, if_true, if_false, eq_self, d_if, d_ju, d_re, d_ca, cat0, cat1, cat2, cat3, fr_z, fr_s, cc_I, cc_A, cc_N, Nat.reduceAdd, Nat.reduceLT, Nat.reduceLeDiff, Nat.reduceEqDiff, not_true, not_false_iff, z1_0, z1_1, Bool.and_self, Bool.true_and, Bool.and_true, nI_add, pk_mul, nI_clamp, decide_true, Nat.le_refl, bI_eq, bI_z1, nI_ltI, nI_leI, k18, k398, k418, e1, hnj]
            split
            · rename_i hc
              refine go_at (blk := b_Model_lowest_76) rfl ?_
              simp (disch := omega) only [b_Model_lowest_76, be_10, be_51, List.getD_cons_zero, List.getD_cons_succ, List.set_cons_zero, List.set_cons_succ, List.length_cons, List.length_nil, pk_I, pk_A, pr_A, pi_I, st_s, st_n, if_true, if_false, eq_self, d_if, d_ju, d_re, d_ca, cat0, cat1, cat2, cat3, fr_z, fr_s, cc_I, cc_A, cc_N, Nat.reduceAdd, Nat.reduceLT, Nat.reduceLeDiff, Nat.reduceEqDiff, not_true, not_false_iff, z1_0, z1_1, Bool.and_self, Bool.true_and, Bool.and_true, nI_add, pk_mul, nI_clamp, decide_true, Nat.le_refl, bI_eq, bI_z1, nI_ltI, nI_leI, k18, k398, k418, e1, hnj]
              simp only [li_f (show (onB (itT T (-1) 0 i f) (-1) j && (decide ((liS (itT T (-1) 0 i f) (loS T f i) j) = -2) || decide ((itT T (-1) 0 i f) j < (liS (itT T (-1) 0 i f) (loS T f i) j)))) = false by rw [ha, decide_eq_false (n2_no hb), decide_eq_false (Int32.not_lt.mpr hc)]; rfl)] at jh
              exact jh () trivial
            · rename_i hc
              have hx := li_t (show (onB (itT T (-1) 0 i f) (-1) j && (decide ((liS (itT T (-1) 0 i f) (loS T f i) j) = -2) || decide ((itT T (-1) 0 i f) j < (liS (itT T (-1) 0 i f) (loS T f i) j)))) = true by rw [ha, decide_eq_true (Int32.not_le.mp hc)]; simp)
              simp only [hx] at jh
              refine go_at (blk := b_Model_lowest_68) rfl ?_
              simp (disch := omega) only [b_Model_lowest_68, be_6, be_34, be_4, be_38, be_7, be_0, kc_388, rf_388_48, ka_419, List.getD_cons_zero, List.getD_cons_succ, List.set_cons_zero, List.set_cons_succ, List.length_cons, List.length_nil, pk_I, pk_A, pr_A, pi_I, st_s, st_n, if_true, if_false, eq_self, d_if, d_ju, d_re, d_ca, cat0, cat1, cat2, cat3, fr_z, fr_s, cc_I, cc_A, cc_N, Nat.reduceAdd, Nat.reduceLT, Nat.reduceLeDiff, Nat.reduceEqDiff, not_true, not_false_iff, z1_0, z1_1, Bool.and_self, Bool.true_and, Bool.and_true, nI_add, pk_mul, nI_clamp, decide_true, Nat.le_refl, bI_eq, bI_z1, nI_ltI, nI_leI, k18, k398, k418, e1, hnj]
              refine go_at (blk := b_Model_lowest_76) rfl ?_
              simp (disch := omega) only [b_Model_lowest_76, be_10, be_51, List.getD_cons_zero, List.getD_cons_succ, List.set_cons_zero, List.set_cons_succ, List.length_cons, List.length_nil, pk_I, pk_A, pr_A, pi_I, st_s, st_n, if_true, if_false, eq_self, d_if, d_ju, d_re, d_ca, cat0, cat1, cat2, cat3, fr_z, fr_s, cc_I, cc_A, cc_N, Nat.reduceAdd, Nat.reduceLT, Nat.reduceLeDiff, Nat.reduceEqDiff, not_true, not_false_iff, z1_0, z1_1, Bool.and_self, Bool.true_and, Bool.and_true, nI_add, pk_mul, nI_clamp, decide_true, Nat.le_refl, bI_eq, bI_z1, nI_ltI, nI_leI, k18, k398, k418, e1, hnj]
              exact jh () trivial
      · intro _ _
        try dsimp only at *
        refine go_at (blk := b_Model_lowest_30) rfl ?_
        simp (disch := omega) only [b_Model_lowest_30, be_4, be_6, be_34, be_33, be_38, be_49_3, kc_388, rf_388_23, ka_398, List.getD_cons_zero, List.getD_cons_succ, List.set_cons_zero, List.set_cons_succ, List.length_cons, List.length_nil, pk_I, pk_A, pr_A, pi_I, st_s, st_n, if_true, if_false, eq_self, d_if, d_ju, d_re, d_ca, cat0, cat1, cat2, cat3, fr_z, fr_s, cc_I, cc_A, cc_N, Nat.reduceAdd, Nat.reduceLT, Nat.reduceLeDiff, Nat.reduceEqDiff, not_true, not_false_iff, z1_0, z1_1, Bool.and_self, Bool.true_and, Bool.and_true, nI_add, pk_mul, nI_clamp, decide_true, Nat.le_refl, bI_eq, bI_z1, nI_ltI, nI_leI, k18, k398, k418, e1]
        refine go_at (blk := b_Model_lowest_82) rfl ?_
        simp (disch := omega) only [b_Model_lowest_82, be_4, be_49_3, List.getD_cons_zero, List.getD_cons_succ, List.set_cons_zero, List.set_cons_succ, List.length_cons, List.length_nil, pk_I, pk_A, pr_A, pi_I, st_s, st_n, if_true, if_false, eq_self, d_if, d_ju, d_re, d_ca, cat0, cat1, cat2, cat3, fr_z, fr_s, cc_I, cc_A, cc_N, Nat.reduceAdd, Nat.reduceLT, Nat.reduceLeDiff, Nat.reduceEqDiff, not_true, not_false_iff, z1_0, z1_1, Bool.and_self, Bool.true_and, Bool.and_true, nI_add, pk_mul, nI_clamp, decide_true, Nat.le_refl, bI_eq, bI_z1, nI_ltI, nI_leI, k18, k398, k418, e1]
        split
        · rename_i he
          refine go_at (blk := b_Model_lowest_91) rfl ?_
          simp (disch := omega) only [b_Model_lowest_91, be_10, be_51, List.getD_cons_zero, List.getD_cons_succ, List.set_cons_zero, List.set_cons_succ, List.length_cons, List.length_nil, pk_I, pk_A, pr_A, pi_I, st_s, st_n, if_true, if_false, eq_self, d_if, d_ju, d_re, d_ca, cat0, cat1, cat2, cat3, fr_z, fr_s, cc_I, cc_A, cc_N, Nat.reduceAdd, Nat.reduceLT, Nat.reduceLeDiff, Nat.reduceEqDiff, not_true, not_false_iff, z1_0, z1_1, Bool.and_self, Bool.true_and, Bool.and_true, nI_add, pk_mul, nI_clamp, decide_true, Nat.le_refl, bI_eq, bI_z1, nI_ltI, nI_leI, k18, k398, k418, e1]
          exact ih (x.1, .int _) ⟨x1, fun h => absurd h (by omega), rfl, li_ok x4 hgp (tN T) (Nat.le_refl _)⟩
        · rename_i he
          refine go_at (blk := b_Model_lowest_87) rfl ?_
          simp (disch := omega) only [b_Model_lowest_87, be_6, be_57_0, kc_388, List.getD_cons_zero, List.getD_cons_succ, List.set_cons_zero, List.set_cons_succ, List.length_cons, List.length_nil, pk_I, pk_A, pr_A, pi_I, st_s, st_n, if_true, if_false, eq_self, d_if, d_ju, d_re, d_ca, cat0, cat1, cat2, cat3, fr_z, fr_s, cc_I, cc_A, cc_N, Nat.reduceAdd, Nat.reduceLT, Nat.reduceLeDiff, Nat.reduceEqDiff, not_true, not_false_iff, z1_0, z1_1, Bool.and_self, Bool.true_and, Bool.and_true, nI_add, pk_mul, nI_clamp, decide_true, Nat.le_refl, bI_eq, bI_z1, nI_ltI, nI_leI, k18, k398, k418, e1]
          refine r_min hMx.1 r0 ?_
          intro v2 q2 r2
          refine go_at (blk := b_Model_lowest_91) rfl ?_
          simp (disch := omega) only [b_Model_lowest_91, be_10, be_51, List.getD_cons_zero, List.getD_cons_succ, List.set_cons_zero, List.set_cons_succ, List.length_cons, List.length_nil, pk_I, pk_A, pr_A, pi_I, st_s, st_n, if_true, if_false, eq_self, d_if, d_ju, d_re, d_ca, cat0, cat1, cat2, cat3, fr_z, fr_s, cc_I, cc_A, cc_N, Nat.reduceAdd, Nat.reduceLT, Nat.reduceLeDiff, Nat.reduceEqDiff, not_true, not_false_iff, z1_0, z1_1, Bool.and_self, Bool.true_and, Bool.and_true, nI_add, pk_mul, nI_clamp, decide_true, Nat.le_refl, bI_eq, bI_z1, nI_ltI, nI_leI, k18, k398, k418, e1]
          exact ih (v2, .int _) ⟨MF_t x1 q2, fun _ => r2, rfl, li_ok x4 hgp (tN T) (Nat.le_refl _)⟩
    · intro x ⟨x1, x2, x3, x4⟩
      try dsimp only at *
      refine go_at (blk := b_Model_lowest_22) rfl ?_
      simp (disch := omega) only [b_Model_lowest_22, be_4, be_49_4, List.getD_cons_zero, List.getD_cons_succ, List.set_cons_zero, List.set_cons_succ, List.length_cons, List.length_nil, pk_I, pk_A, pr_A, pi_I, st_s, st_n, if_true, if_false, eq_self, d_if, d_ju, d_re, d_ca, cat0, cat1, cat2, cat3, fr_z, fr_s, cc_I, cc_A, cc_N, Nat.reduceAdd, Nat.reduceLT, Nat.reduceLeDiff, Nat.reduceEqDiff, not_true, not_false_iff, z1_0, z1_1, Bool.and_self, Bool.true_and, Bool.and_true, nI_add, pk_mul, nI_clamp, decide_true, Nat.le_refl, bI_eq, bI_z1, nI_ltI, nI_leI, Nat.lt_add_one]
      refine go_at (blk := b_Model_lowest_97) rfl ?_
      simp (disch := omega) only [b_Model_lowest_97, be_4, be_54, List.getD_cons_zero, List.getD_cons_succ, List.set_cons_zero, List.set_cons_succ, List.length_cons, List.length_nil, pk_I, pk_A, pr_A, pi_I, st_s, st_n, if_true, if_false, eq_self, d_if, d_ju, d_re, d_ca, cat0, cat1, cat2, cat3, fr_z, fr_s, cc_I, cc_A, cc_N, Nat.reduceAdd, Nat.reduceLT, Nat.reduceLeDiff, Nat.reduceEqDiff, not_true, not_false_iff, z1_0, z1_1, Bool.and_self, Bool.true_and, Bool.and_true, nI_add, pk_mul, nI_clamp, decide_true, Nat.le_refl, bI_eq, bI_z1, nI_ltI, nI_leI, Nat.lt_add_one]
      exact hQ _ x1
  · rename_i h0
    have h0 : (!decide (x < 0) && !decide (nI 300 < x)) = false := by simpa using h0
    refine go_at (blk := b_Model_lowest_11) rfl ?_
    simp (disch := omega) only [b_Model_lowest_11, be_2, be_54, List.getD_cons_zero, List.getD_cons_succ, List.set_cons_zero, List.set_cons_succ, List.length_cons, List.length_nil, pk_I, pk_A, pr_A, pi_I, st_s, st_n, if_true, if_false, eq_self, d_if, d_ju, d_re, d_ca, cat0, cat1, cat2, cat3, fr_z, fr_s, cc_I, cc_A, cc_N, Nat.reduceAdd, Nat.reduceLT, Nat.reduceLeDiff, Nat.reduceEqDiff, not_true, not_false_iff, z1_0, z1_1, Bool.and_self, Bool.true_and, Bool.and_true, nI_add, pk_mul, nI_clamp, decide_true, Nat.le_refl, bI_eq, bI_z1]
    unfold loA at hQ
    rw [if_neg (by rw [h0]; simp)] at hQ
    exact hQ v MF_r
