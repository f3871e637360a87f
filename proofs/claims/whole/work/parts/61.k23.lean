/-! laid by wip/whole/k23.py: the class: rank; what is told, forgotten, looked up -/
def rkA (T : TXT) (f : Nat → Int32) (y : Int32) : Int32 := if pilB (tN T) y = true then nI (cnt (fun o => decide (f (cN y) < f o) || (decide (f o = f (cN y)) && decide (o < (cN y)))) (tN T)) else -1
set_option maxHeartbeats 1000000 in
theorem p_rank {d : Nat} {v : Nat → Nat → Int32} {w : Nat → Nat → Int64} {Q : Option Value → am_H → Prop} {T : TXT} {f : Nat → Int32} {B : Int} (hK : KI B v T f) {y : Int32} (hQ : Q (some (.int (rkA T f y))) (428, 26053, KD, RF, v, w)) : am_Ca (d + 2) M_KneeStair_rank [.ref 0, .int y] (428, 26053, KD, RF, v, w) Q := by
  have h8 := hK.1.1
  have k1 := hK.1.2.1
  refine ca_in (k := k_KneeStair_rank) (nL := 5) rfl (Nat.le_of_ble_eq_true rfl) ?_
  show am_Go am_X0 _ k_KneeStair_rank 0 ([.ref 0, .int y, .null, .null, .null], [], _) _
  refine go_at (blk := b_KneeStair_rank_0) rfl ?_
  simp (disch := omega) only [b_KneeStair_rank_0, be_6, be_4, be_57_1, kc_0, List.getD_cons_zero, List.getD_cons_succ, List.set_cons_zero, List.set_cons_succ, List.length_cons, List.length_nil, pk_I, pk_A, pr_A, pi_I, st_s, st_n, if_true, if_false, eq_self, d_if, d_ju, d_re, d_ca, cat0, cat1, cat2, cat3, fr_z, fr_s, cc_I, cc_A, cc_N, Nat.reduceAdd, Nat.reduceLT, Nat.reduceLeDiff, Nat.reduceEqDiff, not_true, not_false_iff, z1_0, z1_1, Bool.and_self, Bool.true_and, Bool.and_true, nI_add, pk_mul, nI_clamp, decide_true, Nat.le_refl, bI_eq, bI_z1]
  refine k_isPil hK ?_
  refine go_at (blk := b_KneeStair_rank_5) rfl ?_
  simp (disch := omega) only [b_KneeStair_rank_5, be_50_1, List.getD_cons_zero, List.getD_cons_succ, List.set_cons_zero, List.set_cons_succ, List.length_cons, List.length_nil, pk_I, pk_A, pr_A, pi_I, st_s, st_n, if_true, if_false, eq_self, d_if, d_ju, d_re, d_ca, cat0, cat1, cat2, cat3, fr_z, fr_s, cc_I, cc_A, cc_N, Nat.reduceAdd, Nat.reduceLT, Nat.reduceLeDiff, Nat.reduceEqDiff, not_true, not_false_iff, z1_0, z1_1, Bool.and_self, Bool.true_and, Bool.and_true, nI_add, pk_mul, nI_clamp, decide_true, Nat.le_refl, bI_eq, bI_z1]
  split
  · rename_i hb
    have hb : pilB (tN T) y = true := by simpa using hb
    unfold rkA at hQ
    rw [if_pos hb] at hQ
    obtain ⟨p, hp, rfl, e⟩ := pil_of h8 hb
    rw [e] at hQ
    have ep : v 43 p = f p := RX_st hK.2.1 hp (nI_m (by omega))
    refine go_at (blk := b_KneeStair_rank_10) rfl ?_
    simp (disch := omega) only [b_KneeStair_rank_10, be_1, be_7, be_0, List.getD_cons_zero, List.getD_cons_succ, List.set_cons_zero, List.set_cons_succ, List.length_cons, List.length_nil, pk_I, pk_A, pr_A, pi_I, st_s, st_n, if_true, if_false, eq_self, d_if, d_ju, d_re, d_ca, cat0, cat1, cat2, cat3, fr_z, fr_s, cc_I, cc_A, cc_N, Nat.reduceAdd, Nat.reduceLT, Nat.reduceLeDiff, Nat.reduceEqDiff, not_true, not_false_iff, z1_0, z1_1, Bool.and_self, Bool.true_and, Bool.and_true, nI_add, pk_mul, nI_clamp, decide_true, Nat.le_refl, bI_eq, bI_z1]
    refine go_loopA (α := Value) (fun i x => ([.ref 0, .int (nI p), .int (nI (cnt (fun o => decide (f p < f o) || (decide (f o = f p) && decide (o < p))) i)), .int (nI i), x], [], (428, 26053, KD, RF, v, w))) (fun i x => am_cc x = true) (tN T) ?_ ?_ .null rfl
    · intro i x hi x1 ih
      try dsimp only at *
      have hni : ¬ tN T ≤ i := by omega
      have ei : v 43 i = f i := RX_st hK.2.1 hi (nI_m (by omega))
      refine go_at (blk := b_KneeStair_rank_14) rfl ?_
      simp (disch := omega) only [b_KneeStair_rank_14, be_4, be_6, be_34, be_33, be_49_3, kc_0, rf_0_4, kc_25, List.getD_cons_zero, List.getD_cons_succ, List.set_cons_zero, List.set_cons_succ, List.length_cons, List.length_nil, pk_I, pk_A, pr_A, pi_I, st_s, st_n, if_true, if_false, eq_self, d_if, d_ju, d_re, d_ca, cat0, cat1, cat2, cat3, fr_z, fr_s, cc_I, cc_A, cc_N, Nat.reduceAdd, Nat.reduceLT, Nat.reduceLeDiff, Nat.reduceEqDiff, not_true, not_false_iff, z1_0, z1_1, Bool.and_self, Bool.true_and, Bool.and_true, nI_add, pk_mul, nI_clamp, decide_true, Nat.le_refl, bI_eq, bI_z1, nI_ltI, nI_leI, k1, hni, x1, ei, ep, z_10, nI_z]
      refine go_at (blk := b_KneeStair_rank_25) rfl ?_
      simp (disch := omega) only [b_KneeStair_rank_25, be_6, be_34, be_4, be_38, be_49_1, kc_0, rf_0_5, kc_42, rf_42_1, ka_43, List.getD_cons_zero, List.getD_cons_succ, List.set_cons_zero, List.set_cons_succ, List.length_cons, List.length_nil, pk_I, pk_A, pr_A, pi_I, st_s, st_n, if_true, if_false, eq_self, d_if, d_ju, d_re, d_ca, cat0, cat1, cat2, cat3, fr_z, fr_s, cc_I, cc_A, cc_N, Nat.reduceAdd, Nat.reduceLT, Nat.reduceLeDiff, Nat.reduceEqDiff, not_true, not_false_iff, z1_0, z1_1, Bool.and_self, Bool.true_and, Bool.and_true, nI_add, pk_mul, nI_clamp, decide_true, Nat.le_refl, bI_eq, bI_z1, nI_ltI, nI_leI, k1, hni, x1, ei, ep, z_10, nI_z]
      split
      · rename_i h1
        refine go_at (blk := b_KneeStair_rank_50) rfl ?_
        simp (disch := omega) only [b_KneeStair_rank_50, be_1, be_0, List.getD_cons_zero, List.getD_cons_succ, List.set_cons_zero, List.set_cons_succ, List.length_cons, List.length_nil, pk_I, pk_A, pr_A, pi_I, st_s, st_n, if_true, if_false, eq_self, d_if, d_ju, d_re, d_ca, cat0, cat1, cat2, cat3, fr_z, fr_s, cc_I, cc_A, cc_N, Nat.reduceAdd, Nat.reduceLT, Nat.reduceLeDiff, Nat.reduceEqDiff, not_true, not_false_iff, z1_0, z1_1, Bool.and_self, Bool.true_and, Bool.and_true, nI_add, pk_mul, nI_clamp, decide_true, Nat.le_refl, bI_eq, bI_z1, nI_ltI, nI_leI, k1, hni, x1, ei, ep, z_10, nI_z]
        refine go_at (blk := b_KneeStair_rank_51) rfl ?_
        simp (disch := omega) only [b_KneeStair_rank_51, be_7, be_6, be_34, be_4, be_38, be_49_4, kc_0, rf_0_5, kc_42, rf_42_1, ka_43, List.getD_cons_zero, List.getD_cons_succ, List.set_cons_zero, List.set_cons_succ, List.length_cons, List.length_nil, pk_I, pk_A, pr_A, pi_I, st_s, st_n, if_true, if_false, eq_self, d_if, d_ju, d_re, d_ca, cat0, cat1, cat2, cat3, fr_z, fr_s, cc_I, cc_A, cc_N, Nat.reduceAdd, Nat.reduceLT, Nat.reduceLeDiff, Nat.reduceEqDiff, not_true, not_false_iff, z1_0, z1_1, Bool.and_self, Bool.true_and, Bool.and_true, nI_add, pk_mul, nI_clamp, decide_true, Nat.le_refl, bI_eq, bI_z1, nI_ltI, nI_leI, k1, hni, x1, ei, ep, z_10, nI_z]
        split
        · rename_i h2
          refine go_at (blk := b_KneeStair_rank_84) rfl ?_
          simp (disch := omega) only [b_KneeStair_rank_84, be_10, be_0, List.getD_cons_zero, List.getD_cons_succ, List.set_cons_zero, List.set_cons_succ, List.length_cons, List.length_nil, pk_I, pk_A, pr_A, pi_I, st_s, st_n, if_true, if_false, eq_self, d_if, d_ju, d_re, d_ca, cat0, cat1, cat2, cat3, fr_z, fr_s, cc_I, cc_A, cc_N, Nat.reduceAdd, Nat.reduceLT, Nat.reduceLeDiff, Nat.reduceEqDiff, not_true, not_false_iff, z1_0, z1_1, Bool.and_self, Bool.true_and, Bool.and_true, nI_add, pk_mul, nI_clamp, decide_true, Nat.le_refl, bI_eq, bI_z1, nI_ltI, nI_leI, k1, hni, x1, ei, ep, z_10, nI_z]
          refine go_at (blk := b_KneeStair_rank_87) rfl ?_
          simp (disch := omega) only [b_KneeStair_rank_87, be_10, be_51, List.getD_cons_zero, List.getD_cons_succ, List.set_cons_zero, List.set_cons_succ, List.length_cons, List.length_nil, pk_I, pk_A, pr_A, pi_I, st_s, st_n, if_true, if_false, eq_self, d_if, d_ju, d_re, d_ca, cat0, cat1, cat2, cat3, fr_z, fr_s, cc_I, cc_A, cc_N, Nat.reduceAdd, Nat.reduceLT, Nat.reduceLeDiff, Nat.reduceEqDiff, not_true, not_false_iff, z1_0, z1_1, Bool.and_self, Bool.true_and, Bool.and_true, nI_add, pk_mul, nI_clamp, decide_true, Nat.le_refl, bI_eq, bI_z1, nI_ltI, nI_leI, k1, hni, x1, ei, ep, z_10, nI_z]
          simp only [cnt_t (g := (fun o => decide (f p < f o) || (decide (f o = f p) && decide (o < p)))) (show (decide (f p < f i) || (decide (f i = f p) && decide (i < p))) = true by rw [decide_eq_true h2]; rfl)] at ih
          exact ih (.int _) rfl
        · rename_i h2
          refine go_at (blk := b_KneeStair_rank_74) rfl ?_
          simp (disch := omega) only [b_KneeStair_rank_74, be_4, be_50_0, List.getD_cons_zero, List.getD_cons_succ, List.set_cons_zero, List.set_cons_succ, List.length_cons, List.length_nil, pk_I, pk_A, pr_A, pi_I, st_s, st_n, if_true, if_false, eq_self, d_if, d_ju, d_re, d_ca, cat0, cat1, cat2, cat3, fr_z, fr_s, cc_I, cc_A, cc_N, Nat.reduceAdd, Nat.reduceLT, Nat.reduceLeDiff, Nat.reduceEqDiff, not_true, not_false_iff, z1_0, z1_1, Bool.and_self, Bool.true_and, Bool.and_true, nI_add, pk_mul, nI_clamp, decide_true, Nat.le_refl, bI_eq, bI_z1, nI_ltI, nI_leI, k1, hni, x1, ei, ep, z_10, nI_z]
          refine go_at (blk := b_KneeStair_rank_87) rfl ?_
          simp (disch := omega) only [b_KneeStair_rank_87, be_10, be_51, List.getD_cons_zero, List.getD_cons_succ, List.set_cons_zero, List.set_cons_succ, List.length_cons, List.length_nil, pk_I, pk_A, pr_A, pi_I, st_s, st_n, if_true, if_false, eq_self, d_if, d_ju, d_re, d_ca, cat0, cat1, cat2, cat3, fr_z, fr_s, cc_I, cc_A, cc_N, Nat.reduceAdd, Nat.reduceLT, Nat.reduceLeDiff, Nat.reduceEqDiff, not_true, not_false_iff, z1_0, z1_1, Bool.and_self, Bool.true_and, Bool.and_true, nI_add, pk_mul, nI_clamp, decide_true, Nat.le_refl, bI_eq, bI_z1, nI_ltI, nI_leI, k1, hni, x1, ei, ep, z_10, nI_z]
          simp only [cnt_f (g := (fun o => decide (f p < f o) || (decide (f o = f p) && decide (o < p)))) (show (decide (f p < f i) || (decide (f i = f p) && decide (i < p))) = false by rw [decide_eq_false h2, decide_eq_false h1]; rfl)] at ih
          exact ih (.int _) rfl
      · rename_i h1
        have h1 := Decidable.not_not.mp h1
        refine go_at (blk := b_KneeStair_rank_46) rfl ?_
        simp (disch := omega) only [b_KneeStair_rank_46, be_1, be_51, List.getD_cons_zero, List.getD_cons_succ, List.set_cons_zero, List.set_cons_succ, List.length_cons, List.length_nil, pk_I, pk_A, pr_A, pi_I, st_s, st_n, if_true, if_false, eq_self, d_if, d_ju, d_re, d_ca, cat0, cat1, cat2, cat3, fr_z, fr_s, cc_I, cc_A, cc_N, Nat.reduceAdd, Nat.reduceLT, Nat.reduceLeDiff, Nat.reduceEqDiff, not_true, not_false_iff, z1_0, z1_1, Bool.and_self, Bool.true_and, Bool.and_true, nI_add, pk_mul, nI_clamp, decide_true, Nat.le_refl, bI_eq, bI_z1, nI_ltI, nI_leI, k1, hni, x1, ei, ep, z_10, nI_z]
        refine go_at (blk := b_KneeStair_rank_51) rfl ?_
        simp (disch := omega) only [b_KneeStair_rank_51, be_7, be_6, be_34, be_4, be_38, be_49_4, kc_0, rf_0_5, kc_42, rf_42_1, ka_43, List.getD_cons_zero, List.getD_cons_succ, List.set_cons_zero, List.set_cons_succ, List.length_cons, List.length_nil, pk_I, pk_A, pr_A, pi_I, st_s, st_n, if_true, if_false, eq_self, d_if, d_ju, d_re, d_ca, cat0, cat1, cat2, cat3, fr_z, fr_s, cc_I, cc_A, cc_N, Nat.reduceAdd, Nat.reduceLT, Nat.reduceLeDiff, Nat.reduceEqDiff, not_true, not_false_iff, z1_0, z1_1, Bool.and_self, Bool.true_and, Bool.and_true, nI_add, pk_mul, nI_clamp, decide_true, Nat.le_refl, bI_eq, bI_z1, nI_ltI, nI_leI, k1, hni, x1, ei, ep, z_10, nI_z]
        split
        · rename_i h2
          refine go_at (blk := b_KneeStair_rank_84) rfl ?_
          simp (disch := omega) only [b_KneeStair_rank_84, be_10, be_0, List.getD_cons_zero, List.getD_cons_succ, List.set_cons_zero, List.set_cons_succ, List.length_cons, List.length_nil, pk_I, pk_A, pr_A, pi_I, st_s, st_n, if_true, if_false, eq_self, d_if, d_ju, d_re, d_ca, cat0, cat1, cat2, cat3, fr_z, fr_s, cc_I, cc_A, cc_N, Nat.reduceAdd, Nat.reduceLT, Nat.reduceLeDiff, Nat.reduceEqDiff, not_true, not_false_iff, z1_0, z1_1, Bool.and_self, Bool.true_and, Bool.and_true, nI_add, pk_mul, nI_clamp, decide_true, Nat.le_refl, bI_eq, bI_z1, nI_ltI, nI_leI, k1, hni, x1, ei, ep, z_10, nI_z]
          refine go_at (blk := b_KneeStair_rank_87) rfl ?_
          simp (disch := omega) only [b_KneeStair_rank_87, be_10, be_51, List.getD_cons_zero, List.getD_cons_succ, List.set_cons_zero, List.set_cons_succ, List.length_cons, List.length_nil, pk_I, pk_A, pr_A, pi_I, st_s, st_n, if_true, if_false, eq_self, d_if, d_ju, d_re, d_ca, cat0, cat1, cat2, cat3, fr_z, fr_s, cc_I, cc_A, cc_N, Nat.reduceAdd, Nat.reduceLT, Nat.reduceLeDiff, Nat.reduceEqDiff, not_true, not_false_iff, z1_0, z1_1, Bool.and_self, Bool.true_and, Bool.and_true, nI_add, pk_mul, nI_clamp, decide_true, Nat.le_refl, bI_eq, bI_z1, nI_ltI, nI_leI, k1, hni, x1, ei, ep, z_10, nI_z]
          simp only [cnt_t (g := (fun o => decide (f p < f o) || (decide (f o = f p) && decide (o < p)))) (show (decide (f p < f i) || (decide (f i = f p) && decide (i < p))) = true by rw [decide_eq_true h2]; rfl)] at ih
          exact ih (.int _) rfl
        · rename_i h2
          refine go_at (blk := b_KneeStair_rank_74) rfl ?_
          simp (disch := omega) only [b_KneeStair_rank_74, be_4, be_50_0, List.getD_cons_zero, List.getD_cons_succ, List.set_cons_zero, List.set_cons_succ, List.length_cons, List.length_nil, pk_I, pk_A, pr_A, pi_I, st_s, st_n, if_true, if_false, eq_self, d_if, d_ju, d_re, d_ca, cat0, cat1, cat2, cat3, fr_z, fr_s, cc_I, cc_A, cc_N, Nat.reduceAdd, Nat.reduceLT, Nat.reduceLeDiff, Nat.reduceEqDiff, not_true, not_false_iff, z1_0, z1_1, Bool.and_self, Bool.true_and, Bool.and_true, nI_add, pk_mul, nI_clamp, decide_true, Nat.le_refl, bI_eq, bI_z1, nI_ltI, nI_leI, k1, hni, x1, ei, ep, z_10, nI_z]
          refine go_at (blk := b_KneeStair_rank_79) rfl ?_
          simp (disch := omega) only [b_KneeStair_rank_79, be_4, be_49_3, List.getD_cons_zero, List.getD_cons_succ, List.set_cons_zero, List.set_cons_succ, List.length_cons, List.length_nil, pk_I, pk_A, pr_A, pi_I, st_s, st_n, if_true, if_false, eq_self, d_if, d_ju, d_re, d_ca, cat0, cat1, cat2, cat3, fr_z, fr_s, cc_I, cc_A, cc_N, Nat.reduceAdd, Nat.reduceLT, Nat.reduceLeDiff, Nat.reduceEqDiff, not_true, not_false_iff, z1_0, z1_1, Bool.and_self, Bool.true_and, Bool.and_true, nI_add, pk_mul, nI_clamp, decide_true, Nat.le_refl, bI_eq, bI_z1, nI_ltI, nI_leI, k1, hni, x1, ei, ep, z_10, nI_z]
          split
          · rename_i h3
            refine go_at (blk := b_KneeStair_rank_87) rfl ?_
            simp (disch := omega) only [b_KneeStair_rank_87, be_10, be_51, List.getD_cons_zero, List.getD_cons_succ, List.set_cons_zero, List.set_cons_succ, List.length_cons, List.length_nil, pk_I, pk_A, pr_A, pi_I, st_s, st_n, if_true, if_false, eq_self, d_if, d_ju, d_re, d_ca, cat0, cat1, cat2, cat3, fr_z, fr_s, cc_I, cc_A, cc_N, Nat.reduceAdd, Nat.reduceLT, Nat.reduceLeDiff, Nat.reduceEqDiff, not_true, not_false_iff, z1_0, z1_1, Bool.and_self, Bool.true_and, Bool.and_true, nI_add, pk_mul, nI_clamp, decide_true, Nat.le_refl, bI_eq, bI_z1, nI_ltI, nI_leI, k1, hni, x1, ei, ep, z_10, nI_z]
            simp only [cnt_f (g := (fun o => decide (f p < f o) || (decide (f o = f p) && decide (o < p)))) (show (decide (f p < f i) || (decide (f i = f p) && decide (i < p))) = false by rw [decide_eq_false h2, decide_eq_false (p := i < p) (by omega)]; simp)] at ih
            exact ih (.int _) rfl
          · rename_i h3
            refine go_at (blk := b_KneeStair_rank_84) rfl ?_
            simp (disch := omega) only [b_KneeStair_rank_84, be_10, be_0, List.getD_cons_zero, List.getD_cons_succ, List.set_cons_zero, List.set_cons_succ, List.length_cons, List.length_nil, pk_I, pk_A, pr_A, pi_I, st_s, st_n, if_true, if_false, eq_self, d_if, d_ju, d_re, d_ca, cat0, cat1, cat2, cat3, fr_z, fr_s, cc_I, cc_A, cc_N, Nat.reduceAdd, Nat.reduceLT, Nat.reduceLeDiff, Nat.reduceEqDiff, not_true, not_false_iff, z1_0, z1_1, Bool.and_self, Bool.true_and, Bool.and_true, nI_add, pk_mul, nI_clamp, decide_true, Nat.le_refl, bI_eq, bI_z1, nI_ltI, nI_leI, k1, hni, x1, ei, ep, z_10, nI_z]
            refine go_at (blk := b_KneeStair_rank_87) rfl ?_
            simp (disch := omega) only [b_KneeStair_rank_87, be_10, be_51, List.getD_cons_zero, List.getD_cons_succ, List.set_cons_zero, List.set_cons_succ, List.length_cons, List.length_nil, pk_I, pk_A, pr_A, pi_I, st_s, st_n, if_true, if_false, eq_self, d_if, d_ju, d_re, d_ca, cat0, cat1, cat2, cat3, fr_z, fr_s, cc_I, cc_A, cc_N, Nat.reduceAdd, Nat.reduceLT, Nat.reduceLeDiff, Nat.reduceEqDiff, not_true, not_false_iff, z1_0, z1_1, Bool.and_self, Bool.true_and, Bool.and_true, nI_add, pk_mul, nI_clamp, decide_true, Nat.le_refl, bI_eq, bI_z1, nI_ltI, nI_leI, k1, hni, x1, ei, ep, z_10, nI_z]
            simp only [cnt_t (g := (fun o => decide (f p < f o) || (decide (f o = f p) && decide (o < p)))) (show (decide (f p < f i) || (decide (f i = f p) && decide (i < p))) = true by rw [decide_eq_true h1, decide_eq_true (p := i < p) (by omega)]; simp)] at ih
            exact ih (.int _) rfl
    · intro x x1
      try dsimp only at *
      refine go_at (blk := b_KneeStair_rank_14) rfl ?_
      simp (disch := omega) only [b_KneeStair_rank_14, be_4, be_6, be_34, be_33, be_49_3, kc_0, rf_0_4, kc_25, List.getD_cons_zero, List.getD_cons_succ, List.set_cons_zero, List.set_cons_succ, List.length_cons, List.length_nil, pk_I, pk_A, pr_A, pi_I, st_s, st_n, if_true, if_false, eq_self, d_if, d_ju, d_re, d_ca, cat0, cat1, cat2, cat3, fr_z, fr_s, cc_I, cc_A, cc_N, Nat.reduceAdd, Nat.reduceLT, Nat.reduceLeDiff, Nat.reduceEqDiff, not_true, not_false_iff, z1_0, z1_1, Bool.and_self, Bool.true_and, Bool.and_true, nI_add, pk_mul, nI_clamp, decide_true, Nat.le_refl, bI_eq, bI_z1, nI_ltI, nI_leI, k1]
      refine go_at (blk := b_KneeStair_rank_93) rfl ?_
      simp (disch := omega) only [b_KneeStair_rank_93, be_4, be_54, List.getD_cons_zero, List.getD_cons_succ, List.set_cons_zero, List.set_cons_succ, List.length_cons, List.length_nil, pk_I, pk_A, pr_A, pi_I, st_s, st_n, if_true, if_false, eq_self, d_if, d_ju, d_re, d_ca, cat0, cat1, cat2, cat3, fr_z, fr_s, cc_I, cc_A, cc_N, Nat.reduceAdd, Nat.reduceLT, Nat.reduceLeDiff, Nat.reduceEqDiff, not_true, not_false_iff, z1_0, z1_1, Bool.and_self, Bool.true_and, Bool.and_true, nI_add, pk_mul, nI_clamp, decide_true, Nat.le_refl, bI_eq, bI_z1, nI_ltI, nI_leI, k1]
      exact hQ
  · rename_i hb
    refine go_at (blk := b_KneeStair_rank_8) rfl ?_
    simp (disch := omega) only [b_KneeStair_rank_8, be_2, be_54, List.getD_cons_zero, List.getD_cons_succ, List.set_cons_zero, List.set_cons_succ, List.length_cons, List.length_nil, pk_I, pk_A, pr_A, pi_I, st_s, st_n, if_true, if_false, eq_self, d_if, d_ju, d_re, d_ca, cat0, cat1, cat2, cat3, fr_z, fr_s, cc_I, cc_A, cc_N, Nat.reduceAdd, Nat.reduceLT, Nat.reduceLeDiff, Nat.reduceEqDiff, not_true, not_false_iff, z1_0, z1_1, Bool.and_self, Bool.true_and, Bool.and_true, nI_add, pk_mul, nI_clamp, decide_true, Nat.le_refl, bI_eq, bI_z1]
    unfold rkA at hQ
    rw [if_neg (by have hb := hb; rw [show pilB (tN T) y = false by simpa using hb]; decide)] at hQ
    exact hQ
def scA (T : TXT) (m : Nat) (tp tm : Nat → Nat) (ts : Nat → Int32) (x z : Int32) : Int32 := if (!decide (x < 0) && !decide (nI m < x) && !decide (z < -1)) = true then wrO T tp tm ts (cN x) z (tN T) 0 0 else -1
def ofA (T : TXT) (m : Nat) (tp tm : Nat → Nat) (ts : Nat → Int32) (x : Int32) : Int32 := if (!decide (x < 0) && !decide (nI m < x)) = true then enN (foS T tp tm ts (cN x) (lmN tm (cN x))) else -1
set_option maxHeartbeats 1000000 in
theorem p_secret {d : Nat} {v : Nat → Nat → Int32} {w : Nat → Nat → Int64} {Q : Option Value → am_H → Prop} {T : TXT} {f : Nat → Int32} {B : Int} (hK : KI B v T f) {m : Nat} {tp tm : Nat → Nat} {ts : Nat → Int32} (hW : WX v (tN T) m tp tm ts) {x z : Int32} (hQ : ∀ v', QF v v' → Q (some (.int (scA T m tp tm ts x z))) (428, 26053, KD, RF, v', w)) : am_Ca (d + 7) M_KneeStair_secret [.ref 0, .int x, .int z] (428, 26053, KD, RF, v, w) Q := by
  have h8 := hK.1.1
  have k1 := hK.1.2.1
  have hm20 := hW.2.1
  have w1 := hW.1
  refine ca_in (k := k_KneeStair_secret) (nL := 3) rfl (Nat.le_of_ble_eq_true rfl) ?_
  show am_Go am_X0 _ k_KneeStair_secret 0 ([.ref 0, .int x, .int z], [], _) _
  refine go_at (blk := b_KneeStair_secret_0) rfl ?_
  simp (disch := omega) only [b_KneeStair_secret_0, be_4, be_50_2, List.getD_cons_zero, List.getD_cons_succ, List.set_cons_zero, List.set_cons_succ, List.length_cons, List.length_nil, pk_I, pk_A, pr_A, pi_I, st_s, st_n, if_true, if_false, eq_self, d_if, d_ju, d_re, d_ca, cat0, cat1, cat2, cat3, fr_z, fr_s, cc_I, cc_A, cc_N, Nat.reduceAdd, Nat.reduceLT, Nat.reduceLeDiff, Nat.reduceEqDiff, not_true, not_false_iff, z1_0, z1_1, Bool.and_self, Bool.true_and, Bool.and_true, nI_add, pk_mul, nI_clamp, decide_true, Nat.le_refl, bI_eq, bI_z1, w1]
  split
  · rename_i h0
    refine go_at (blk := b_KneeStair_secret_20) rfl ?_
    simp (disch := omega) only [b_KneeStair_secret_20, be_2, be_51, List.getD_cons_zero, List.getD_cons_succ, List.set_cons_zero, List.set_cons_succ, List.length_cons, List.length_nil, pk_I, pk_A, pr_A, pi_I, st_s, st_n, if_true, if_false, eq_self, d_if, d_ju, d_re, d_ca, cat0, cat1, cat2, cat3, fr_z, fr_s, cc_I, cc_A, cc_N, Nat.reduceAdd, Nat.reduceLT, Nat.reduceLeDiff, Nat.reduceEqDiff, not_true, not_false_iff, z1_0, z1_1, Bool.and_self, Bool.true_and, Bool.and_true, nI_add, pk_mul, nI_clamp, decide_true, Nat.le_refl, bI_eq, bI_z1, w1]
    refine go_at (blk := b_KneeStair_secret_33) rfl ?_
    simp (disch := omega) only [b_KneeStair_secret_33, be_54, List.getD_cons_zero, List.getD_cons_succ, List.set_cons_zero, List.set_cons_succ, List.length_cons, List.length_nil, pk_I, pk_A, pr_A, pi_I, st_s, st_n, if_true, if_false, eq_self, d_if, d_ju, d_re, d_ca, cat0, cat1, cat2, cat3, fr_z, fr_s, cc_I, cc_A, cc_N, Nat.reduceAdd, Nat.reduceLT, Nat.reduceLeDiff, Nat.reduceEqDiff, not_true, not_false_iff, z1_0, z1_1, Bool.and_self, Bool.true_and, Bool.and_true, nI_add, pk_mul, nI_clamp, decide_true, Nat.le_refl, bI_eq, bI_z1, w1]
    unfold scA at hQ
    rw [if_neg (by rw [decide_eq_true h0]; simp)] at hQ
    exact hQ v QF_r
  · rename_i h0
    refine go_at (blk := b_KneeStair_secret_4) rfl ?_
    simp (disch := omega) only [b_KneeStair_secret_4, be_4, be_6, be_34, be_33, be_49_4, kc_0, rf_0_8, kc_358, List.getD_cons_zero, List.getD_cons_succ, List.set_cons_zero, List.set_cons_succ, List.length_cons, List.length_nil, pk_I, pk_A, pr_A, pi_I, st_s, st_n, if_true, if_false, eq_self, d_if, d_ju, d_re, d_ca, cat0, cat1, cat2, cat3, fr_z, fr_s, cc_I, cc_A, cc_N, Nat.reduceAdd, Nat.reduceLT, Nat.reduceLeDiff, Nat.reduceEqDiff, not_true, not_false_iff, z1_0, z1_1, Bool.and_self, Bool.true_and, Bool.and_true, nI_add, pk_mul, nI_clamp, decide_true, Nat.le_refl, bI_eq, bI_z1, w1]
    split
    · rename_i h1
      refine go_at (blk := b_KneeStair_secret_20) rfl ?_
      simp (disch := omega) only [b_KneeStair_secret_20, be_2, be_51, List.getD_cons_zero, List.getD_cons_succ, List.set_cons_zero, List.set_cons_succ, List.length_cons, List.length_nil, pk_I, pk_A, pr_A, pi_I, st_s, st_n, if_true, if_false, eq_self, d_if, d_ju, d_re, d_ca, cat0, cat1, cat2, cat3, fr_z, fr_s, cc_I, cc_A, cc_N, Nat.reduceAdd, Nat.reduceLT, Nat.reduceLeDiff, Nat.reduceEqDiff, not_true, not_false_iff, z1_0, z1_1, Bool.and_self, Bool.true_and, Bool.and_true, nI_add, pk_mul, nI_clamp, decide_true, Nat.le_refl, bI_eq, bI_z1, w1]
      refine go_at (blk := b_KneeStair_secret_33) rfl ?_
      simp (disch := omega) only [b_KneeStair_secret_33, be_54, List.getD_cons_zero, List.getD_cons_succ, List.set_cons_zero, List.set_cons_succ, List.length_cons, List.length_nil, pk_I, pk_A, pr_A, pi_I, st_s, st_n, if_true, if_false, eq_self, d_if, d_ju, d_re, d_ca, cat0, cat1, cat2, cat3, fr_z, fr_s, cc_I, cc_A, cc_N, Nat.reduceAdd, Nat.reduceLT, Nat.reduceLeDiff, Nat.reduceEqDiff, not_true, not_false_iff, z1_0, z1_1, Bool.and_self, Bool.true_and, Bool.and_true, nI_add, pk_mul, nI_clamp, decide_true, Nat.le_refl, bI_eq, bI_z1, w1]
      unfold scA at hQ
      rw [if_neg (by rw [decide_eq_true h1]; simp)] at hQ
      exact hQ v QF_r
    · rename_i h1
      refine go_at (blk := b_KneeStair_secret_15) rfl ?_
      simp (disch := omega) only [b_KneeStair_secret_15, be_4, be_2, be_49_3, List.getD_cons_zero, List.getD_cons_succ, List.set_cons_zero, List.set_cons_succ, List.length_cons, List.length_nil, pk_I, pk_A, pr_A, pi_I, st_s, st_n, if_true, if_false, eq_self, d_if, d_ju, d_re, d_ca, cat0, cat1, cat2, cat3, fr_z, fr_s, cc_I, cc_A, cc_N, Nat.reduceAdd, Nat.reduceLT, Nat.reduceLeDiff, Nat.reduceEqDiff, not_true, not_false_iff, z1_0, z1_1, Bool.and_self, Bool.true_and, Bool.and_true, nI_add, pk_mul, nI_clamp, decide_true, Nat.le_refl, bI_eq, bI_z1, w1]
      split
      · rename_i h2
        unfold scA at hQ
        rw [if_pos (by rw [decide_eq_false h0, decide_eq_false h1, decide_eq_false (p := z < -1) (Int32.not_lt.mpr h2)]; rfl)] at hQ
        obtain ⟨k, hk, rfl, e⟩ := lim_of (m := m) (by omega) h0 (Int32.not_lt.mp h1)
        rw [e] at hQ
        refine go_at (blk := b_KneeStair_secret_24) rfl ?_
        simp (disch := omega) only [b_KneeStair_secret_24, be_6, be_34, be_4, be_57_2, kc_0, rf_0_8, kc_358, List.getD_cons_zero, List.getD_cons_succ, List.set_cons_zero, List.set_cons_succ, List.length_cons, List.length_nil, pk_I, pk_A, pr_A, pi_I, st_s, st_n, if_true, if_false, eq_self, d_if, d_ju, d_re, d_ca, cat0, cat1, cat2, cat3, fr_z, fr_s, cc_I, cc_A, cc_N, Nat.reduceAdd, Nat.reduceLT, Nat.reduceLeDiff, Nat.reduceEqDiff, not_true, not_false_iff, z1_0, z1_1, Bool.and_self, Bool.true_and, Bool.and_true, nI_add, pk_mul, nI_clamp, decide_true, Nat.le_refl, bI_eq, bI_z1, w1]
        refine k_ways hK hW hk ?_
        intro v2 q2
        refine go_at (blk := b_KneeStair_secret_33) rfl ?_
        simp (disch := omega) only [b_KneeStair_secret_33, be_54, List.getD_cons_zero, List.getD_cons_succ, List.set_cons_zero, List.set_cons_succ, List.length_cons, List.length_nil, pk_I, pk_A, pr_A, pi_I, st_s, st_n, if_true, if_false, eq_self, d_if, d_ju, d_re, d_ca, cat0, cat1, cat2, cat3, fr_z, fr_s, cc_I, cc_A, cc_N, Nat.reduceAdd, Nat.reduceLT, Nat.reduceLeDiff, Nat.reduceEqDiff, not_true, not_false_iff, z1_0, z1_1, Bool.and_self, Bool.true_and, Bool.and_true, nI_add, pk_mul, nI_clamp, decide_true, Nat.le_refl, bI_eq, bI_z1, w1]
        exact hQ v2 q2
      · rename_i h2
        refine go_at (blk := b_KneeStair_secret_20) rfl ?_
        simp (disch := omega) only [b_KneeStair_secret_20, be_2, be_51, List.getD_cons_zero, List.getD_cons_succ, List.set_cons_zero, List.set_cons_succ, List.length_cons, List.length_nil, pk_I, pk_A, pr_A, pi_I, st_s, st_n, if_true, if_false, eq_self, d_if, d_ju, d_re, d_ca, cat0, cat1, cat2, cat3, fr_z, fr_s, cc_I, cc_A, cc_N, Nat.reduceAdd, Nat.reduceLT, Nat.reduceLeDiff, Nat.reduceEqDiff, not_true, not_false_iff, z1_0, z1_1, Bool.and_self, Bool.true_and, Bool.and_true, nI_add, pk_mul, nI_clamp, decide_true, Nat.le_refl, bI_eq, bI_z1, w1]
        refine go_at (blk := b_KneeStair_secret_33) rfl ?_
        simp (disch := omega) only [b_KneeStair_secret_33, be_54, List.getD_cons_zero, List.getD_cons_succ, List.set_cons_zero, List.set_cons_succ, List.length_cons, List.length_nil, pk_I, pk_A, pr_A, pi_I, st_s, st_n, if_true, if_false, eq_self, d_if, d_ju, d_re, d_ca, cat0, cat1, cat2, cat3, fr_z, fr_s, cc_I, cc_A, cc_N, Nat.reduceAdd, Nat.reduceLT, Nat.reduceLeDiff, Nat.reduceEqDiff, not_true, not_false_iff, z1_0, z1_1, Bool.and_self, Bool.true_and, Bool.and_true, nI_add, pk_mul, nI_clamp, decide_true, Nat.le_refl, bI_eq, bI_z1, w1]
        unfold scA at hQ
        rw [if_neg (by rw [decide_eq_true (p := z < -1) (Int32.not_le.mp h2)]; simp)] at hQ
        exact hQ v QF_r
set_option maxHeartbeats 1000000 in
theorem p_off {d : Nat} {v : Nat → Nat → Int32} {w : Nat → Nat → Int64} {Q : Option Value → am_H → Prop} {T : TXT} {f : Nat → Int32} {B : Int} (hK : KI B v T f) {m : Nat} {tp tm : Nat → Nat} {ts : Nat → Int32} (hW : WX v (tN T) m tp tm ts) {x : Int32} (hQ : ∀ v', QF v v' → Q (some (.int (ofA T m tp tm ts x))) (428, 26053, KD, RF, v', w)) : am_Ca (d + 7) M_KneeStair_off [.ref 0, .int x] (428, 26053, KD, RF, v, w) Q := by
  have h8 := hK.1.1
  have k1 := hK.1.2.1
  have hm20 := hW.2.1
  have w1 := hW.1
  refine ca_in (k := k_KneeStair_off) (nL := 2) rfl (Nat.le_of_ble_eq_true rfl) ?_
  show am_Go am_X0 _ k_KneeStair_off 0 ([.ref 0, .int x], [], _) _
  refine go_at (blk := b_KneeStair_off_0) rfl ?_
  simp (disch := omega) only [b_KneeStair_off_0, be_4, be_50_2, List.getD_cons_zero, List.getD_cons_succ, List.set_cons_zero, List.set_cons_succ, List.length_cons, List.length_nil, pk_I, pk_A, pr_A, pi_I, st_s, st_n, if_true, if_false, eq_self, d_if, d_ju, d_re, d_ca, cat0, cat1, cat2, cat3, fr_z, fr_s, cc_I, cc_A, cc_N, Nat.reduceAdd, Nat.reduceLT, Nat.reduceLeDiff, Nat.reduceEqDiff, not_true, not_false_iff, z1_0, z1_1, Bool.and_self, Bool.true_and, Bool.and_true, nI_add, pk_mul, nI_clamp, decide_true, Nat.le_refl, bI_eq, bI_z1, w1]
  split
  · rename_i h0
    refine go_at (blk := b_KneeStair_off_15) rfl ?_
    simp (disch := omega) only [b_KneeStair_off_15, be_2, be_51, List.getD_cons_zero, List.getD_cons_succ, List.set_cons_zero, List.set_cons_succ, List.length_cons, List.length_nil, pk_I, pk_A, pr_A, pi_I, st_s, st_n, if_true, if_false, eq_self, d_if, d_ju, d_re, d_ca, cat0, cat1, cat2, cat3, fr_z, fr_s, cc_I, cc_A, cc_N, Nat.reduceAdd, Nat.reduceLT, Nat.reduceLeDiff, Nat.reduceEqDiff, not_true, not_false_iff, z1_0, z1_1, Bool.and_self, Bool.true_and, Bool.and_true, nI_add, pk_mul, nI_clamp, decide_true, Nat.le_refl, bI_eq, bI_z1, w1]
    refine go_at (blk := b_KneeStair_off_27) rfl ?_
    simp (disch := omega) only [b_KneeStair_off_27, be_54, List.getD_cons_zero, List.getD_cons_succ, List.set_cons_zero, List.set_cons_succ, List.length_cons, List.length_nil, pk_I, pk_A, pr_A, pi_I, st_s, st_n, if_true, if_false, eq_self, d_if, d_ju, d_re, d_ca, cat0, cat1, cat2, cat3, fr_z, fr_s, cc_I, cc_A, cc_N, Nat.reduceAdd, Nat.reduceLT, Nat.reduceLeDiff, Nat.reduceEqDiff, not_true, not_false_iff, z1_0, z1_1, Bool.and_self, Bool.true_and, Bool.and_true, nI_add, pk_mul, nI_clamp, decide_true, Nat.le_refl, bI_eq, bI_z1, w1]
    unfold ofA at hQ
    rw [if_neg (by rw [decide_eq_true h0]; simp)] at hQ
    exact hQ v QF_r
  · rename_i h0
    refine go_at (blk := b_KneeStair_off_4) rfl ?_
    simp (disch := omega) only [b_KneeStair_off_4, be_4, be_6, be_34, be_33, be_49_5, kc_0, rf_0_8, kc_358, List.getD_cons_zero, List.getD_cons_succ, List.set_cons_zero, List.set_cons_succ, List.length_cons, List.length_nil, pk_I, pk_A, pr_A, pi_I, st_s, st_n, if_true, if_false, eq_self, d_if, d_ju, d_re, d_ca, cat0, cat1, cat2, cat3, fr_z, fr_s, cc_I, cc_A, cc_N, Nat.reduceAdd, Nat.reduceLT, Nat.reduceLeDiff, Nat.reduceEqDiff, not_true, not_false_iff, z1_0, z1_1, Bool.and_self, Bool.true_and, Bool.and_true, nI_add, pk_mul, nI_clamp, decide_true, Nat.le_refl, bI_eq, bI_z1, w1]
    split
    · rename_i h1
      unfold ofA at hQ
      rw [if_pos (by rw [decide_eq_false h0, decide_eq_false (p := nI m < x) (Int32.not_lt.mpr h1)]; rfl)] at hQ
      obtain ⟨k, hk, rfl, e⟩ := lim_of (m := m) (by omega) h0 h1
      rw [e] at hQ
      refine go_at (blk := b_KneeStair_off_19) rfl ?_
      simp (disch := omega) only [b_KneeStair_off_19, be_6, be_34, be_4, be_57_1, kc_0, rf_0_8, kc_358, List.getD_cons_zero, List.getD_cons_succ, List.set_cons_zero, List.set_cons_succ, List.length_cons, List.length_nil, pk_I, pk_A, pr_A, pi_I, st_s, st_n, if_true, if_false, eq_self, d_if, d_ju, d_re, d_ca, cat0, cat1, cat2, cat3, fr_z, fr_s, cc_I, cc_A, cc_N, Nat.reduceAdd, Nat.reduceLT, Nat.reduceLeDiff, Nat.reduceEqDiff, not_true, not_false_iff, z1_0, z1_1, Bool.and_self, Bool.true_and, Bool.and_true, nI_add, pk_mul, nI_clamp, decide_true, Nat.le_refl, bI_eq, bI_z1, w1]
      refine k_off hK hW hk ?_
      intro v2 q2
      refine go_at (blk := b_KneeStair_off_27) rfl ?_
      simp (disch := omega) only [b_KneeStair_off_27, be_54, List.getD_cons_zero, List.getD_cons_succ, List.set_cons_zero, List.set_cons_succ, List.length_cons, List.length_nil, pk_I, pk_A, pr_A, pi_I, st_s, st_n, if_true, if_false, eq_self, d_if, d_ju, d_re, d_ca, cat0, cat1, cat2, cat3, fr_z, fr_s, cc_I, cc_A, cc_N, Nat.reduceAdd, Nat.reduceLT, Nat.reduceLeDiff, Nat.reduceEqDiff, not_true, not_false_iff, z1_0, z1_1, Bool.and_self, Bool.true_and, Bool.and_true, nI_add, pk_mul, nI_clamp, decide_true, Nat.le_refl, bI_eq, bI_z1, w1]
      exact hQ v2 q2
    · rename_i h1
      refine go_at (blk := b_KneeStair_off_15) rfl ?_
      simp (disch := omega) only [b_KneeStair_off_15, be_2, be_51, List.getD_cons_zero, List.getD_cons_succ, List.set_cons_zero, List.set_cons_succ, List.length_cons, List.length_nil, pk_I, pk_A, pr_A, pi_I, st_s, st_n, if_true, if_false, eq_self, d_if, d_ju, d_re, d_ca, cat0, cat1, cat2, cat3, fr_z, fr_s, cc_I, cc_A, cc_N, Nat.reduceAdd, Nat.reduceLT, Nat.reduceLeDiff, Nat.reduceEqDiff, not_true, not_false_iff, z1_0, z1_1, Bool.and_self, Bool.true_and, Bool.and_true, nI_add, pk_mul, nI_clamp, decide_true, Nat.le_refl, bI_eq, bI_z1, w1]
      refine go_at (blk := b_KneeStair_off_27) rfl ?_
      simp (disch := omega) only [b_KneeStair_off_27, be_54, List.getD_cons_zero, List.getD_cons_succ, List.set_cons_zero, List.set_cons_succ, List.length_cons, List.length_nil, pk_I, pk_A, pr_A, pi_I, st_s, st_n, if_true, if_false, eq_self, d_if, d_ju, d_re, d_ca, cat0, cat1, cat2, cat3, fr_z, fr_s, cc_I, cc_A, cc_N, Nat.reduceAdd, Nat.reduceLT, Nat.reduceLeDiff, Nat.reduceEqDiff, not_true, not_false_iff, z1_0, z1_1, Bool.and_self, Bool.true_and, Bool.and_true, nI_add, pk_mul, nI_clamp, decide_true, Nat.le_refl, bI_eq, bI_z1, w1]
      unfold ofA at hQ
      rw [if_neg (by rw [decide_eq_true (p := nI m < x) (Int32.not_le.mp h1)]; simp)] at hQ
      exact hQ v QF_r
