/-! laid by wip/whole/m20.py: the reference: secret, pilgrim, count, tell, hold, restore, feed -/
set_option maxHeartbeats 1000000 in
theorem r_secret {d : Nat} {v : Nat → Nat → Int32} {w : Nat → Nat → Int64} {Q : Option Value → am_H → Prop} {T : TXT} {lv : Nat} {f : Nat → Int32} {B : Int} (hM : MI B v T lv f) {m : Nat} {tp tm : Nat → Nat} {ts : Nat → Int32} (hW : WM v (tN T) m tp tm ts) (hZ : Z50 f) {x z : Int32} (hQ : ∀ v', MF v v' → Q (some (.int (scA T m tp tm ts x z))) (428, 26053, KD, RF, v', w)) : am_Ca (d + 7) M_Model_secret [.ref 388, .int x, .int z] (428, 26053, KD, RF, v, w) Q := by
  have h8 := hM.2.2.2.2.1.1
  have hm20 := hW.2.1
  have w1 := hW.1
  refine ca_in (k := k_Model_secret) (nL := 7) rfl (Nat.le_of_ble_eq_true rfl) ?_
  show am_Go am_X0 _ k_Model_secret 0 ([.ref 388, .int x, .int z, .null, .null, .null, .null], [], _) _
  refine go_at (blk := b_Model_secret_0) rfl ?_
  simp (disch := omega) only [b_Model_secret_0, be_4, be_1, be_6, be_33, be_58_3, kc_388, List.getD_cons_zero, List.getD_cons_succ, List.set_cons_zero, List.set_cons_succ, List.length_cons, List.length_nil, pk_I, pk_A, pr_A, pi_I, st_s, st_n, if_true, if_false, eq_self, d_if, d_ju, d_re, d_ca, cat0, cat1, cat2, cat3, fr_z, fr_s, cc_I, cc_A, cc_N, Nat.reduceAdd, Nat.reduceLT, Nat.reduceLeDiff, Nat.reduceEqDiff, not_true, not_false_iff, z1_0, z1_1, Bool.and_self, Bool.true_and, Bool.and_true, nI_add, pk_mul, nI_clamp, decide_true, Nat.le_refl, bI_eq, bI_z1, w1]
  refine m_in ?_
  rw [show inB x (nI 0) (nI m) = (!decide (x < 0) && !decide (nI m < x)) from rfl]
  refine go_at (blk := b_Model_secret_9) rfl ?_
  simp (disch := omega) only [b_Model_secret_9, be_50_0, List.getD_cons_zero, List.getD_cons_succ, List.set_cons_zero, List.set_cons_succ, List.length_cons, List.length_nil, pk_I, pk_A, pr_A, pi_I, st_s, st_n, if_true, if_false, eq_self, d_if, d_ju, d_re, d_ca, cat0, cat1, cat2, cat3, fr_z, fr_s, cc_I, cc_A, cc_N, Nat.reduceAdd, Nat.reduceLT, Nat.reduceLeDiff, Nat.reduceEqDiff, not_true, not_false_iff, z1_0, z1_1, Bool.and_self, Bool.true_and, Bool.and_true, nI_add, pk_mul, nI_clamp, decide_true, Nat.le_refl, bI_eq, bI_z1, w1]
  split
  · rename_i h0
    have h0 : (!decide (x < 0) && !decide (nI m < x)) = false := by simpa using h0
    refine go_at (blk := b_Model_secret_17) rfl ?_
    simp (disch := omega) only [b_Model_secret_17, be_2, be_54, List.getD_cons_zero, List.getD_cons_succ, List.set_cons_zero, List.set_cons_succ, List.length_cons, List.length_nil, pk_I, pk_A, pr_A, pi_I, st_s, st_n, if_true, if_false, eq_self, d_if, d_ju, d_re, d_ca, cat0, cat1, cat2, cat3, fr_z, fr_s, cc_I, cc_A, cc_N, Nat.reduceAdd, Nat.reduceLT, Nat.reduceLeDiff, Nat.reduceEqDiff, not_true, not_false_iff, z1_0, z1_1, Bool.and_self, Bool.true_and, Bool.and_true, nI_add, pk_mul, nI_clamp, decide_true, Nat.le_refl, bI_eq, bI_z1, w1]
    unfold scA at hQ
    rw [if_neg (by rw [h0]; simp)] at hQ
    exact hQ v MF_r
  · rename_i h0
    have h0 : (!decide (x < 0) && !decide (nI m < x)) = true := by simpa using h0
    refine go_at (blk := b_Model_secret_12) rfl ?_
    simp (disch := omega) only [b_Model_secret_12, be_4, be_2, be_49_3, List.getD_cons_zero, List.getD_cons_succ, List.set_cons_zero, List.set_cons_succ, List.length_cons, List.length_nil, pk_I, pk_A, pr_A, pi_I, st_s, st_n, if_true, if_false, eq_self, d_if, d_ju, d_re, d_ca, cat0, cat1, cat2, cat3, fr_z, fr_s, cc_I, cc_A, cc_N, Nat.reduceAdd, Nat.reduceLT, Nat.reduceLeDiff, Nat.reduceEqDiff, not_true, not_false_iff, z1_0, z1_1, Bool.and_self, Bool.true_and, Bool.and_true, nI_add, pk_mul, nI_clamp, decide_true, Nat.le_refl, bI_eq, bI_z1, w1]
    split
    · rename_i h2
      unfold scA at hQ
      rw [if_pos (by rw [h0, decide_eq_false (p := z < -1) (Int32.not_lt.mpr h2)]; rfl)] at hQ
      obtain ⟨k, hk, rfl, e⟩ := in_of (m := m) (by omega) h0
      rw [e] at hQ
      have hML : lmN tm k ≤ 100 := lm_le k (fun j hj => (hW.2.2 j (by omega)).2.2.2.1)
      refine go_at (blk := b_Model_secret_19) rfl ?_
      simp (disch := omega) only [b_Model_secret_19, be_6, be_4, be_57_1, kc_388, List.getD_cons_zero, List.getD_cons_succ, List.set_cons_zero, List.set_cons_succ, List.length_cons, List.length_nil, pk_I, pk_A, pr_A, pi_I, st_s, st_n, if_true, if_false, eq_self, d_if, d_ju, d_re, d_ca, cat0, cat1, cat2, cat3, fr_z, fr_s, cc_I, cc_A, cc_N, Nat.reduceAdd, Nat.reduceLT, Nat.reduceLeDiff, Nat.reduceEqDiff, not_true, not_false_iff, z1_0, z1_1, Bool.and_self, Bool.true_and, Bool.and_true, nI_add, pk_mul, nI_clamp, decide_true, Nat.le_refl, bI_eq, bI_z1, w1]
      refine r_last hM hW hk ?_
      obtain ⟨M, hMe⟩ : ∃ M, M = nI (lmN tm k) + (-1) := ⟨_, rfl⟩
      rw [← hMe]
      refine go_at (blk := b_Model_secret_24) rfl ?_
      simp (disch := omega) only [b_Model_secret_24, be_7, be_1, be_0, List.getD_cons_zero, List.getD_cons_succ, List.set_cons_zero, List.set_cons_succ, List.length_cons, List.length_nil, pk_I, pk_A, pr_A, pi_I, st_s, st_n, if_true, if_false, eq_self, d_if, d_ju, d_re, d_ca, cat0, cat1, cat2, cat3, fr_z, fr_s, cc_I, cc_A, cc_N, Nat.reduceAdd, Nat.reduceLT, Nat.reduceLeDiff, Nat.reduceEqDiff, not_true, not_false_iff, z1_0, z1_1, Bool.and_self, Bool.true_and, Bool.and_true, nI_add, pk_mul, nI_clamp, decide_true, Nat.le_refl, bI_eq, bI_z1, w1]
      refine go_loopA (α := (Nat → Nat → Int32) × Nat × Value) (fun i x => ([.ref 388, .int (nI k), .int z, .int M, .int (nI x.2.1), .int (nI i), x.2.2], [], (428, 26053, KD, RF, x.1, w))) (fun i x => MF v x.1 ∧ wrO T tp tm ts k z (tN T) 0 0 = wrO T tp tm ts k z (tN T - i) i x.2.1 ∧ am_cc x.2.2 = true) (tN T) ?_ ?_ (v, 0, .null) ⟨MF_r, rfl, rfl⟩
      · intro i x hi ⟨x1, x2, x3⟩ ih
        try dsimp only at *
        have hni : ¬ tN T ≤ i := by omega
        have hMx : MI B x.1 T lv f := MI_f hM x1
        obtain ⟨k18, hlv, k398, _⟩ := (MI_f hM x1).1.1
        have k418 : x.1 418 = f := (MI_f hM x1).2.1
        refine go_at (blk := b_Model_secret_31) rfl ?_
        simp (disch := omega) only [b_Model_secret_31, be_4, be_6, be_34, be_33, be_38, be_49_3, kc_388, rf_388_23, ka_398, List.getD_cons_zero, List.getD_cons_succ, List.set_cons_zero, List.set_cons_succ, List.length_cons, List.length_nil, pk_I, pk_A, pr_A, pi_I, st_s, st_n, if_true, if_false, eq_self, d_if, d_ju, d_re, d_ca, cat0, cat1, cat2, cat3, fr_z, fr_s, cc_I, cc_A, cc_N, Nat.reduceAdd, Nat.reduceLT, Nat.reduceLeDiff, Nat.reduceEqDiff, not_true, not_false_iff, z1_0, z1_1, Bool.and_self, Bool.true_and, Bool.and_true, nI_add, pk_mul, nI_clamp, decide_true, Nat.le_refl, bI_eq, bI_z1, nI_ltI, nI_leI, k18, k398, x3, hni]
        refine go_at (blk := b_Model_secret_45) rfl ?_
        simp (disch := omega) only [b_Model_secret_45, be_6, be_57_0, kc_388, List.getD_cons_zero, List.getD_cons_succ, List.set_cons_zero, List.set_cons_succ, List.length_cons, List.length_nil, pk_I, pk_A, pr_A, pi_I, st_s, st_n, if_true, if_false, eq_self, d_if, d_ju, d_re, d_ca, cat0, cat1, cat2, cat3, fr_z, fr_s, cc_I, cc_A, cc_N, Nat.reduceAdd, Nat.reduceLT, Nat.reduceLeDiff, Nat.reduceEqDiff, not_true, not_false_iff, z1_0, z1_1, Bool.and_self, Bool.true_and, Bool.and_true, nI_add, pk_mul, nI_clamp, decide_true, Nat.le_refl, bI_eq, bI_z1, nI_ltI, nI_leI, k18, k398, x3, hni]
        refine r_begins hMx.1 hM.2.2.2.2.1 (fun j hj => (hMx.2.2.1 j hj).trans (hZ j hj)) ?_
        intro v2 q2 r2
        have f2 := MF_t x1 q2
        have e2 : v2 419 = bgT T := r2.1
        refine go_at (blk := b_Model_secret_49) rfl ?_
        simp (disch := omega) only [b_Model_secret_49, be_6, be_34, be_1, be_4, be_12, be_38, be_50_1, kc_388, rf_388_48, ka_419, List.getD_cons_zero, List.getD_cons_succ, List.set_cons_zero, List.set_cons_succ, List.length_cons, List.length_nil, pk_I, pk_A, pr_A, pi_I, st_s, st_n, if_true, if_false, eq_self, d_if, d_ju, d_re, d_ca, cat0, cat1, cat2, cat3, fr_z, fr_s, cc_I, cc_A, cc_N, Nat.reduceAdd, Nat.reduceLT, Nat.reduceLeDiff, Nat.reduceEqDiff, not_true, not_false_iff, z1_0, z1_1, Bool.and_self, Bool.true_and, Bool.and_true, nI_add, pk_mul, nI_clamp, decide_true, Nat.le_refl, bI_eq, bI_z1, nI_ltI, nI_leI, k18, k398, x3, hni, e2]
        split
        · rename_i hb
          refine go_at (blk := b_Model_secret_65) rfl ?_
          simp (disch := omega) only [b_Model_secret_65, be_1, be_7, be_0, List.getD_cons_zero, List.getD_cons_succ, List.set_cons_zero, List.set_cons_succ, List.length_cons, List.length_nil, pk_I, pk_A, pr_A, pi_I, st_s, st_n, if_true, if_false, eq_self, d_if, d_ju, d_re, d_ca, cat0, cat1, cat2, cat3, fr_z, fr_s, cc_I, cc_A, cc_N, Nat.reduceAdd, Nat.reduceLT, Nat.reduceLeDiff, Nat.reduceEqDiff, not_true, not_false_iff, z1_0, z1_1, Bool.and_self, Bool.true_and, Bool.and_true, nI_add, pk_mul, nI_clamp, decide_true, Nat.le_refl, bI_eq, bI_z1, nI_ltI, nI_leI, k18, k398, x3, hni, e2]
          refine go_loopA (α := (Nat → Nat → Int32) × Nat) (fun j y => ([.ref 388, .int (nI k), .int z, .int M, .int (nI y.2), .int (nI i), .int (nI j)], [], (428, 26053, KD, RF, y.1, w))) (fun j y => MF v y.1 ∧ wrI T tp tm ts k z i (lmN tm k) 0 x.2.1 = wrI T tp tm ts k z i (lmN tm k - j) j y.2) (lmN tm k) ?_ ?_ (v2, x.2.1) ⟨f2, rfl⟩
          · intro j y hj ⟨y1, y2⟩ jh
            try dsimp only at *
            have hnj : (M < nI j) ↔ False := by rw [hMe, lm_lt hML (by omega)]; exact ⟨fun z => absurd z (by omega), False.elim⟩
            refine go_at (blk := b_Model_secret_68) rfl ?_
            simp (disch := omega) only [b_Model_secret_68, be_4, be_49_4, List.getD_cons_zero, List.getD_cons_succ, List.set_cons_zero, List.set_cons_succ, List.length_cons, List.length_nil, pk_I, pk_A, pr_A, pi_I, st_s, st_n, if_true, if_false, eq_self, d_if, d_ju, d_re, d_ca, cat0, cat1, cat2, cat3, fr_z, fr_s, cc_I, cc_A, cc_N, Nat.reduceAdd, Nat.reduceLT, Nat.reduceLeDiff, Nat.reduceEqDiff, not_true, not_false_iff, z1_0, z1_1, Bool.and_self, Bool.true_and, Bool.and_true, nI_add, pk_mul, nI_clamp, decide_true, Nat.le_refl, bI_eq, bI_z1, nI_ltI, nI_leI, hnj]
            refine go_at (blk := b_Model_secret_74) rfl ?_
            simp (disch := omega) only [b_Model_secret_74, be_6, be_4, be_57_3, kc_388, List.getD_cons_zero, List.getD_cons_succ, List.set_cons_zero, List.set_cons_succ, List.length_cons, List.length_nil, pk_I, pk_A, pr_A, pi_I, st_s, st_n, if_true, if_false, eq_self, d_if, d_ju, d_re, d_ca, cat0, cat1, cat2, cat3, fr_z, fr_s, cc_I, cc_A, cc_N, Nat.reduceAdd, Nat.reduceLT, Nat.reduceLeDiff, Nat.reduceEqDiff, not_true, not_false_iff, z1_0, z1_1, Bool.and_self, Bool.true_and, Bool.and_true, nI_add, pk_mul, nI_clamp, decide_true, Nat.le_refl, bI_eq, bI_z1, nI_ltI, nI_leI, hnj]
            refine r_wrongB (MI_f hM y1) (WM_f hW y1) hk hi (w2 := j) (by omega) hZ ?_
            intro v3 q3
            have f3 := MF_t y1 q3
            have hwn := wr_20 (fp_20 (T := T) (tp := tp) (tm := tm) (ts := ts) (k := k) (p := i) (w := j) (by omega) (lmN tm k))
            rw [← as_fp] at hwn
            refine go_at (blk := b_Model_secret_83) rfl ?_
            simp (disch := omega) only [b_Model_secret_83, be_1, be_49_3, List.getD_cons_zero, List.getD_cons_succ, List.set_cons_zero, List.set_cons_succ, List.length_cons, List.length_nil, pk_I, pk_A, pr_A, pi_I, st_s, st_n, if_true, if_false, eq_self, d_if, d_ju, d_re, d_ca, cat0, cat1, cat2, cat3, fr_z, fr_s, cc_I, cc_A, cc_N, Nat.reduceAdd, Nat.reduceLT, Nat.reduceLeDiff, Nat.reduceEqDiff, not_true, not_false_iff, z1_0, z1_1, Bool.and_self, Bool.true_and, Bool.and_true, nI_add, pk_mul, nI_clamp, decide_true, Nat.le_refl, bI_eq, bI_z1, nI_ltI, nI_leI, hnj, hwn]
            split
            · rename_i ha
              refine go_at (blk := b_Model_secret_91) rfl ?_
              simp (disch := omega) only [b_Model_secret_91, be_4, be_49_1, List.getD_cons_zero, List.getD_cons_succ, List.set_cons_zero, List.set_cons_succ, List.length_cons, List.length_nil, pk_I, pk_A, pr_A, pi_I, st_s, st_n, if_true, if_false, eq_self, d_if, d_ju, d_re, d_ca, cat0, cat1, cat2, cat3, fr_z, fr_s, cc_I, cc_A, cc_N, Nat.reduceAdd, Nat.reduceLT, Nat.reduceLeDiff, Nat.reduceEqDiff, not_true, not_false_iff, z1_0, z1_1, Bool.and_self, Bool.true_and, Bool.and_true, nI_add, pk_mul, nI_clamp, decide_true, Nat.le_refl, bI_eq, bI_z1, nI_ltI, nI_leI, hnj, hwn]
              split
              · rename_i hc
                refine go_at (blk := b_Model_secret_106) rfl ?_
                simp (disch := omega) only [b_Model_secret_106, be_10, be_0, List.getD_cons_zero, List.getD_cons_succ, List.set_cons_zero, List.set_cons_succ, List.length_cons, List.length_nil, pk_I, pk_A, pr_A, pi_I, st_s, st_n, if_true, if_false, eq_self, d_if, d_ju, d_re, d_ca, cat0, cat1, cat2, cat3, fr_z, fr_s, cc_I, cc_A, cc_N, Nat.reduceAdd, Nat.reduceLT, Nat.reduceLeDiff, Nat.reduceEqDiff, not_true, not_false_iff, z1_0, z1_1, Bool.and_self, Bool.true_and, Bool.and_true, nI_add, pk_mul, nI_clamp, decide_true, Nat.le_refl, bI_eq, bI_z1, nI_ltI, nI_leI, hnj, hwn]
                refine go_at (blk := b_Model_secret_109) rfl ?_
                simp (disch := omega) only [b_Model_secret_109, be_10, be_51, List.getD_cons_zero, List.getD_cons_succ, List.set_cons_zero, List.set_cons_succ, List.length_cons, List.length_nil, pk_I, pk_A, pr_A, pi_I, st_s, st_n, if_true, if_false, eq_self, d_if, d_ju, d_re, d_ca, cat0, cat1, cat2, cat3, fr_z, fr_s, cc_I, cc_A, cc_N, Nat.reduceAdd, Nat.reduceLT, Nat.reduceLeDiff, Nat.reduceEqDiff, not_true, not_false_iff, z1_0, z1_1, Bool.and_self, Bool.true_and, Bool.and_true, nI_add, pk_mul, nI_clamp, decide_true, Nat.le_refl, bI_eq, bI_z1, nI_ltI, nI_leI, hnj, hwn]
                exact jh (v3, y.2 + 1) ⟨f3, by rw [y2, wi_1 hj ha hc]⟩
              · rename_i hc
                rw [x2, wo_1 hi hb (show wrI T tp tm ts k z i (lmN tm k) 0 x.2.1 = .inl (nI (100 * i + j)) by rw [y2, wi_2 hj ha (Decidable.not_not.mp hc)])] at hQ
                refine go_at (blk := b_Model_secret_97) rfl ?_
                simp (disch := omega) only [b_Model_secret_97, be_1, be_4, be_14, be_12, be_54, List.getD_cons_zero, List.getD_cons_succ, List.set_cons_zero, List.set_cons_succ, List.length_cons, List.length_nil, pk_I, pk_A, pr_A, pi_I, st_s, st_n, if_true, if_false, eq_self, d_if, d_ju, d_re, d_ca, cat0, cat1, cat2, cat3, fr_z, fr_s, cc_I, cc_A, cc_N, Nat.reduceAdd, Nat.reduceLT, Nat.reduceLeDiff, Nat.reduceEqDiff, not_true, not_false_iff, z1_0, z1_1, Bool.and_self, Bool.true_and, Bool.and_true, nI_add, pk_mul, nI_clamp, decide_true, Nat.le_refl, bI_eq, bI_z1, nI_ltI, nI_leI, hnj, hwn]
                exact hQ v3 f3
            · rename_i ha
              refine go_at (blk := b_Model_secret_88) rfl ?_
              simp (disch := omega) only [b_Model_secret_88, be_51, List.getD_cons_zero, List.getD_cons_succ, List.set_cons_zero, List.set_cons_succ, List.length_cons, List.length_nil, pk_I, pk_A, pr_A, pi_I, st_s, st_n, if_true, if_false, eq_self, d_if, d_ju, d_re, d_ca, cat0, cat1, cat2, cat3, fr_z, fr_s, cc_I, cc_A, cc_N, Nat.reduceAdd, Nat.reduceLT, Nat.reduceLeDiff, Nat.reduceEqDiff, not_true, not_false_iff, z1_0, z1_1, Bool.and_self, Bool.true_and, Bool.and_true, nI_add, pk_mul, nI_clamp, decide_true, Nat.le_refl, bI_eq, bI_z1, nI_ltI, nI_leI, hnj, hwn]
              refine go_at (blk := b_Model_secret_109) rfl ?_
              simp (disch := omega) only [b_Model_secret_109, be_10, be_51, List.getD_cons_zero, List.getD_cons_succ, List.set_cons_zero, List.set_cons_succ, List.length_cons, List.length_nil, pk_I, pk_A, pr_A, pi_I, st_s, st_n, if_true, if_false, eq_self, d_if, d_ju, d_re, d_ca, cat0, cat1, cat2, cat3, fr_z, fr_s, cc_I, cc_A, cc_N, Nat.reduceAdd, Nat.reduceLT, Nat.reduceLeDiff, Nat.reduceEqDiff, not_true, not_false_iff, z1_0, z1_1, Bool.and_self, Bool.true_and, Bool.and_true, nI_add, pk_mul, nI_clamp, decide_true, Nat.le_refl, bI_eq, bI_z1, nI_ltI, nI_leI, hnj, hwn]
              exact jh (v3, y.2) ⟨f3, by rw [y2, wi_0 hj (by simpa using ha)]⟩
          · intro y ⟨y1, y2⟩
            try dsimp only at *
            have hne : (M < nI (lmN tm k)) ↔ True := by rw [hMe, lm_lt hML (by omega)]; exact ⟨fun _ => trivial, fun _ => Nat.le_refl _⟩
            refine go_at (blk := b_Model_secret_68) rfl ?_
            simp (disch := omega) only [b_Model_secret_68, be_4, be_49_4, List.getD_cons_zero, List.getD_cons_succ, List.set_cons_zero, List.set_cons_succ, List.length_cons, List.length_nil, pk_I, pk_A, pr_A, pi_I, st_s, st_n, if_true, if_false, eq_self, d_if, d_ju, d_re, d_ca, cat0, cat1, cat2, cat3, fr_z, fr_s, cc_I, cc_A, cc_N, Nat.reduceAdd, Nat.reduceLT, Nat.reduceLeDiff, Nat.reduceEqDiff, not_true, not_false_iff, z1_0, z1_1, Bool.and_self, Bool.true_and, Bool.and_true, nI_add, pk_mul, nI_clamp, decide_true, Nat.le_refl, bI_eq, bI_z1, nI_ltI, nI_leI, hne]
            refine go_at (blk := b_Model_secret_115) rfl ?_
            simp (disch := omega) only [b_Model_secret_115, be_10, be_51, List.getD_cons_zero, List.getD_cons_succ, List.set_cons_zero, List.set_cons_succ, List.length_cons, List.length_nil, pk_I, pk_A, pr_A, pi_I, st_s, st_n, if_true, if_false, eq_self, d_if, d_ju, d_re, d_ca, cat0, cat1, cat2, cat3, fr_z, fr_s, cc_I, cc_A, cc_N, Nat.reduceAdd, Nat.reduceLT, Nat.reduceLeDiff, Nat.reduceEqDiff, not_true, not_false_iff, z1_0, z1_1, Bool.and_self, Bool.true_and, Bool.and_true, nI_add, pk_mul, nI_clamp, decide_true, Nat.le_refl, bI_eq, bI_z1, nI_ltI, nI_leI, hne]
            exact ih (y.1, y.2, .int _) ⟨y1, by rw [x2, wo_2 hi hb (show wrI T tp tm ts k z i (lmN tm k) 0 x.2.1 = .inr y.2 by rw [y2, wi_e])], rfl⟩
        · rename_i hb
          refine go_at (blk := b_Model_secret_62) rfl ?_
          simp (disch := omega) only [b_Model_secret_62, be_51, List.getD_cons_zero, List.getD_cons_succ, List.set_cons_zero, List.set_cons_succ, List.length_cons, List.length_nil, pk_I, pk_A, pr_A, pi_I, st_s, st_n, if_true, if_false, eq_self, d_if, d_ju, d_re, d_ca, cat0, cat1, cat2, cat3, fr_z, fr_s, cc_I, cc_A, cc_N, Nat.reduceAdd, Nat.reduceLT, Nat.reduceLeDiff, Nat.reduceEqDiff, not_true, not_false_iff, z1_0, z1_1, Bool.and_self, Bool.true_and, Bool.and_true, nI_add, pk_mul, nI_clamp, decide_true, Nat.le_refl, bI_eq, bI_z1, nI_ltI, nI_leI, k18, k398, x3, hni, e2]
          refine go_at (blk := b_Model_secret_115) rfl ?_
          simp (disch := omega) only [b_Model_secret_115, be_10, be_51, List.getD_cons_zero, List.getD_cons_succ, List.set_cons_zero, List.set_cons_succ, List.length_cons, List.length_nil, pk_I, pk_A, pr_A, pi_I, st_s, st_n, if_true, if_false, eq_self, d_if, d_ju, d_re, d_ca, cat0, cat1, cat2, cat3, fr_z, fr_s, cc_I, cc_A, cc_N, Nat.reduceAdd, Nat.reduceLT, Nat.reduceLeDiff, Nat.reduceEqDiff, not_true, not_false_iff, z1_0, z1_1, Bool.and_self, Bool.true_and, Bool.and_true, nI_add, pk_mul, nI_clamp, decide_true, Nat.le_refl, bI_eq, bI_z1, nI_ltI, nI_leI, k18, k398, x3, hni, e2]
          exact ih (v2, x.2.1, x.2.2) ⟨f2, by rw [x2, wo_0 hi (Decidable.not_not.mp hb)], x3⟩
      · intro x ⟨x1, x2, x3⟩
        try dsimp only at *
        have hMx : MI B x.1 T lv f := MI_f hM x1
        obtain ⟨k18, hlv, k398, _⟩ := (MI_f hM x1).1.1
        have k418 : x.1 418 = f := (MI_f hM x1).2.1
        refine go_at (blk := b_Model_secret_31) rfl ?_
        simp (disch := omega) only [b_Model_secret_31, be_4, be_6, be_34, be_33, be_38, be_49_3, kc_388, rf_388_23, ka_398, List.getD_cons_zero, List.getD_cons_succ, List.set_cons_zero, List.set_cons_succ, List.length_cons, List.length_nil, pk_I, pk_A, pr_A, pi_I, st_s, st_n, if_true, if_false, eq_self, d_if, d_ju, d_re, d_ca, cat0, cat1, cat2, cat3, fr_z, fr_s, cc_I, cc_A, cc_N, Nat.reduceAdd, Nat.reduceLT, Nat.reduceLeDiff, Nat.reduceEqDiff, not_true, not_false_iff, z1_0, z1_1, Bool.and_self, Bool.true_and, Bool.and_true, nI_add, pk_mul, nI_clamp, decide_true, Nat.le_refl, bI_eq, bI_z1, nI_ltI, nI_leI, k18, k398]
        refine go_at (blk := b_Model_secret_121) rfl ?_
        simp (disch := omega) only [b_Model_secret_121, be_4, be_2, be_49_1, List.getD_cons_zero, List.getD_cons_succ, List.set_cons_zero, List.set_cons_succ, List.length_cons, List.length_nil, pk_I, pk_A, pr_A, pi_I, st_s, st_n, if_true, if_false, eq_self, d_if, d_ju, d_re, d_ca, cat0, cat1, cat2, cat3, fr_z, fr_s, cc_I, cc_A, cc_N, Nat.reduceAdd, Nat.reduceLT, Nat.reduceLeDiff, Nat.reduceEqDiff, not_true, not_false_iff, z1_0, z1_1, Bool.and_self, Bool.true_and, Bool.and_true, nI_add, pk_mul, nI_clamp, decide_true, Nat.le_refl, bI_eq, bI_z1, nI_ltI, nI_leI, k18, k398]
        split
        · rename_i hc
          refine go_at (blk := b_Model_secret_131) rfl ?_
          simp (disch := omega) only [b_Model_secret_131, be_2, be_0, List.getD_cons_zero, List.getD_cons_succ, List.set_cons_zero, List.set_cons_succ, List.length_cons, List.length_nil, pk_I, pk_A, pr_A, pi_I, st_s, st_n, if_true, if_false, eq_self, d_if, d_ju, d_re, d_ca, cat0, cat1, cat2, cat3, fr_z, fr_s, cc_I, cc_A, cc_N, Nat.reduceAdd, Nat.reduceLT, Nat.reduceLeDiff, Nat.reduceEqDiff, not_true, not_false_iff, z1_0, z1_1, Bool.and_self, Bool.true_and, Bool.and_true, nI_add, pk_mul, nI_clamp, decide_true, Nat.le_refl, bI_eq, bI_z1, nI_ltI, nI_leI, k18, k398]
          refine go_at (blk := b_Model_secret_132) rfl ?_
          simp (disch := omega) only [b_Model_secret_132, be_54, List.getD_cons_zero, List.getD_cons_succ, List.set_cons_zero, List.set_cons_succ, List.length_cons, List.length_nil, pk_I, pk_A, pr_A, pi_I, st_s, st_n, if_true, if_false, eq_self, d_if, d_ju, d_re, d_ca, cat0, cat1, cat2, cat3, fr_z, fr_s, cc_I, cc_A, cc_N, Nat.reduceAdd, Nat.reduceLT, Nat.reduceLeDiff, Nat.reduceEqDiff, not_true, not_false_iff, z1_0, z1_1, Bool.and_self, Bool.true_and, Bool.and_true, nI_add, pk_mul, nI_clamp, decide_true, Nat.le_refl, bI_eq, bI_z1, nI_ltI, nI_leI, k18, k398]
          rw [x2, Nat.sub_self, show wrO T tp tm ts k z 0 (tN T) x.2.1 = -1 from if_neg hc] at hQ
          exact hQ x.1 x1
        · rename_i hc
          refine go_at (blk := b_Model_secret_126) rfl ?_
          simp (disch := omega) only [b_Model_secret_126, be_4, be_51, List.getD_cons_zero, List.getD_cons_succ, List.set_cons_zero, List.set_cons_succ, List.length_cons, List.length_nil, pk_I, pk_A, pr_A, pi_I, st_s, st_n, if_true, if_false, eq_self, d_if, d_ju, d_re, d_ca, cat0, cat1, cat2, cat3, fr_z, fr_s, cc_I, cc_A, cc_N, Nat.reduceAdd, Nat.reduceLT, Nat.reduceLeDiff, Nat.reduceEqDiff, not_true, not_false_iff, z1_0, z1_1, Bool.and_self, Bool.true_and, Bool.and_true, nI_add, pk_mul, nI_clamp, decide_true, Nat.le_refl, bI_eq, bI_z1, nI_ltI, nI_leI, k18, k398]
          refine go_at (blk := b_Model_secret_132) rfl ?_
          simp (disch := omega) only [b_Model_secret_132, be_54, List.getD_cons_zero, List.getD_cons_succ, List.set_cons_zero, List.set_cons_succ, List.length_cons, List.length_nil, pk_I, pk_A, pr_A, pi_I, st_s, st_n, if_true, if_false, eq_self, d_if, d_ju, d_re, d_ca, cat0, cat1, cat2, cat3, fr_z, fr_s, cc_I, cc_A, cc_N, Nat.reduceAdd, Nat.reduceLT, Nat.reduceLeDiff, Nat.reduceEqDiff, not_true, not_false_iff, z1_0, z1_1, Bool.and_self, Bool.true_and, Bool.and_true, nI_add, pk_mul, nI_clamp, decide_true, Nat.le_refl, bI_eq, bI_z1, nI_ltI, nI_leI, k18, k398]
          rw [x2, Nat.sub_self, show wrO T tp tm ts k z 0 (tN T) x.2.1 = nI x.2.1 from if_pos (Decidable.not_not.mp hc)] at hQ
          exact hQ x.1 x1
    · rename_i h2
      refine go_at (blk := b_Model_secret_17) rfl ?_
      simp (disch := omega) only [b_Model_secret_17, be_2, be_54, List.getD_cons_zero, List.getD_cons_succ, List.set_cons_zero, List.set_cons_succ, List.length_cons, List.length_nil, pk_I, pk_A, pr_A, pi_I, st_s, st_n, if_true, if_false, eq_self, d_if, d_ju, d_re, d_ca, cat0, cat1, cat2, cat3, fr_z, fr_s, cc_I, cc_A, cc_N, Nat.reduceAdd, Nat.reduceLT, Nat.reduceLeDiff, Nat.reduceEqDiff, not_true, not_false_iff, z1_0, z1_1, Bool.and_self, Bool.true_and, Bool.and_true, nI_add, pk_mul, nI_clamp, decide_true, Nat.le_refl, bI_eq, bI_z1, w1]
      unfold scA at hQ
      rw [if_neg (by rw [decide_eq_true (p := z < -1) (Int32.not_le.mp h2)]; simp)] at hQ
      exact hQ v MF_r
theorem swq_0 : am_swt 0 165 [64, 71, 81, 91, 101, 129, 135, 150] (nI 0) = 64 := by decide
theorem swq_1 : am_swt 0 165 [64, 71, 81, 91, 101, 129, 135, 150] (nI 1) = 71 := by decide
theorem swq_2 : am_swt 0 165 [64, 71, 81, 91, 101, 129, 135, 150] (nI 2) = 81 := by decide
theorem swq_3 : am_swt 0 165 [64, 71, 81, 91, 101, 129, 135, 150] (nI 3) = 91 := by decide
theorem swq_4 : am_swt 0 165 [64, 71, 81, 91, 101, 129, 135, 150] (nI 4) = 101 := by decide
theorem swq_5 : am_swt 0 165 [64, 71, 81, 91, 101, 129, 135, 150] (nI 5) = 129 := by decide
theorem swq_6 : am_swt 0 165 [64, 71, 81, 91, 101, 129, 135, 150] (nI 6) = 135 := by decide
theorem swq_7 : am_swt 0 165 [64, 71, 81, 91, 101, 129, 135, 150] (nI 7) = 150 := by decide
theorem swq_d {z : Int32} (h : ¬ (0 ≤ z.toInt ∧ z.toInt < 8)) : am_swt 0 165 [64, 71, 81, 91, 101, 129, 135, 150] z = 165 := by
  unfold am_swt
  rw [if_pos ?_]
  simp
  omega
set_option maxHeartbeats 1000000 in
theorem r_pilgrim {d : Nat} {v : Nat → Nat → Int32} {w : Nat → Nat → Int64} {Q : Option Value → am_H → Prop} {T : TXT} {lv : Nat} {f : Nat → Int32} {B : Int} (hM : MI B v T lv f) {y z : Int32} (hQ : ∀ v', MF v v' → Q (some (.int (plA T f y z))) (428, 26053, KD, RF, v', w)) : am_Ca (d + 5) M_Model_pilgrim [.ref 388, .int y, .int z] (428, 26053, KD, RF, v, w) Q := by
  have h8 := hM.2.2.2.2.1.1
  refine ca_in (k := k_Model_pilgrim) (nL := 3) rfl (Nat.le_of_ble_eq_true rfl) ?_
  show am_Go am_X0 _ k_Model_pilgrim 0 ([.ref 388, .int y, .int z], [], _) _
  refine go_at (blk := b_Model_pilgrim_0) rfl ?_
  simp (disch := omega) only [b_Model_pilgrim_0, be_6, be_4, be_57_1, kc_388, List.getD_cons_zero, List.getD_cons_succ, List.set_cons_zero, List.set_cons_succ, List.length_cons, List.length_nil, pk_I, pk_A, pr_A, pi_I, st_s, st_n, if_true, if_false, eq_self, d_if, d_ju, d_re, d_ca, cat0, cat1, cat2, cat3, fr_z, fr_s, cc_I, cc_A, cc_N, Nat.reduceAdd, Nat.reduceLT, Nat.reduceLeDiff, Nat.reduceEqDiff, not_true, not_false_iff, z1_0, z1_1, Bool.and_self, Bool.true_and, Bool.and_true, nI_add, pk_mul, nI_clamp, decide_true, Nat.le_refl, bI_eq, bI_z1]
  refine r_isPil hM.1 ?_
  refine go_at (blk := b_Model_pilgrim_5) rfl ?_
  simp (disch := omega) only [b_Model_pilgrim_5, be_50_1, List.getD_cons_zero, List.getD_cons_succ, List.set_cons_zero, List.set_cons_succ, List.length_cons, List.length_nil, pk_I, pk_A, pr_A, pi_I, st_s, st_n, if_true, if_false, eq_self, d_if, d_ju, d_re, d_ca, cat0, cat1, cat2, cat3, fr_z, fr_s, cc_I, cc_A, cc_N, Nat.reduceAdd, Nat.reduceLT, Nat.reduceLeDiff, Nat.reduceEqDiff, not_true, not_false_iff, z1_0, z1_1, Bool.and_self, Bool.true_and, Bool.and_true, nI_add, pk_mul, nI_clamp, decide_true, Nat.le_refl, bI_eq, bI_z1]
  split
  · rename_i h0
    have h0 : pilB (tN T) y = true := by simpa using h0
    unfold plA at hQ
    rw [if_pos h0] at hQ
    obtain ⟨p, hp, rfl, ep⟩ := pil_of h8 h0
    rw [ep] at hQ
    refine go_at (blk := b_Model_pilgrim_12) rfl ?_
    simp (disch := omega) only [b_Model_pilgrim_12, be_6, be_57_0, kc_388, List.getD_cons_zero, List.getD_cons_succ, List.set_cons_zero, List.set_cons_succ, List.length_cons, List.length_nil, pk_I, pk_A, pr_A, pi_I, st_s, st_n, if_true, if_false, eq_self, d_if, d_ju, d_re, d_ca, cat0, cat1, cat2, cat3, fr_z, fr_s, cc_I, cc_A, cc_N, Nat.reduceAdd, Nat.reduceLT, Nat.reduceLeDiff, Nat.reduceEqDiff, not_true, not_false_iff, z1_0, z1_1, Bool.and_self, Bool.true_and, Bool.and_true, nI_add, pk_mul, nI_clamp, decide_true, Nat.le_refl, bI_eq, bI_z1]
    refine rm_copies hM ?_
    intro v1 q1 r1
    have e1 : v1 419 = f := r1.1
    obtain ⟨k18, hlv, k398, _⟩ := (MI_f hM q1).1.1
    have t2 : v1 400 (8 * lv + p) = tK T p := ((MI_f hM q1).1.2.2.2.2.1 p (by omega)).symm
    have t5 : v1 403 (8 * lv + p) = tW T p := ((MI_f hM q1).1.2.2.2.2.2.2.2.1 p (by omega)).symm
    by_cases hz : 0 ≤ z.toInt ∧ z.toInt < 8
    · obtain ⟨k, hk, rfl⟩ := sw_of (m := 8) (by omega) hz
      rcases (show k = 0 ∨ k = 1 ∨ k = 2 ∨ k = 3 ∨ k = 4 ∨ k = 5 ∨ k = 6 ∨ k = 7 by omega) with rfl | rfl | rfl | rfl | rfl | rfl | rfl | rfl
      · show am_Go am_X0 _ k_Model_pilgrim 16 _ _
        refine go_at (blk := b_Model_pilgrim_16) rfl ?_
        simp (disch := omega) only [b_Model_pilgrim_16, be_4, be_52, List.getD_cons_zero, List.getD_cons_succ, List.set_cons_zero, List.set_cons_succ, List.length_cons, List.length_nil, pk_I, pk_A, pr_A, pi_I, st_s, st_n, if_true, if_false, eq_self, d_if, d_ju, d_re, d_ca, cat0, cat1, cat2, cat3, fr_z, fr_s, cc_I, cc_A, cc_N, Nat.reduceAdd, Nat.reduceLT, Nat.reduceLeDiff, Nat.reduceEqDiff, not_true, not_false_iff, z1_0, z1_1, Bool.and_self, Bool.true_and, Bool.and_true, nI_add, pk_mul, nI_clamp, decide_true, Nat.le_refl, bI_eq, bI_z1, e1, k18, swq_0]
        refine go_at (blk := b_Model_pilgrim_64) rfl ?_
        simp (disch := omega) only [b_Model_pilgrim_64, be_6, be_34, be_4, be_38, be_54, kc_388, rf_388_48, ka_419, List.getD_cons_zero, List.getD_cons_succ, List.set_cons_zero, List.set_cons_succ, List.length_cons, List.length_nil, pk_I, pk_A, pr_A, pi_I, st_s, st_n, if_true, if_false, eq_self, d_if, d_ju, d_re, d_ca, cat0, cat1, cat2, cat3, fr_z, fr_s, cc_I, cc_A, cc_N, Nat.reduceAdd, Nat.reduceLT, Nat.reduceLeDiff, Nat.reduceEqDiff, not_true, not_false_iff, z1_0, z1_1, Bool.and_self, Bool.true_and, Bool.and_true, nI_add, pk_mul, nI_clamp, decide_true, Nat.le_refl, bI_eq, bI_z1, e1, k18, swq_0]
        exact hQ v1 q1
      · show am_Go am_X0 _ k_Model_pilgrim 16 _ _
        refine go_at (blk := b_Model_pilgrim_16) rfl ?_
        simp (disch := omega) only [b_Model_pilgrim_16, be_4, be_52, List.getD_cons_zero, List.getD_cons_succ, List.set_cons_zero, List.set_cons_succ, List.length_cons, List.length_nil, pk_I, pk_A, pr_A, pi_I, st_s, st_n, if_true, if_false, eq_self, d_if, d_ju, d_re, d_ca, cat0, cat1, cat2, cat3, fr_z, fr_s, cc_I, cc_A, cc_N, Nat.reduceAdd, Nat.reduceLT, Nat.reduceLeDiff, Nat.reduceEqDiff, not_true, not_false_iff, z1_0, z1_1, Bool.and_self, Bool.true_and, Bool.and_true, nI_add, pk_mul, nI_clamp, decide_true, Nat.le_refl, bI_eq, bI_z1, e1, k18, swq_1]
        refine go_at (blk := b_Model_pilgrim_71) rfl ?_
        simp (disch := omega) only [b_Model_pilgrim_71, be_6, be_34, be_1, be_4, be_12, be_38, be_54, kc_388, rf_388_48, ka_419, List.getD_cons_zero, List.getD_cons_succ, List.set_cons_zero, List.set_cons_succ, List.length_cons, List.length_nil, pk_I, pk_A, pr_A, pi_I, st_s, st_n, if_true, if_false, eq_self, d_if, d_ju, d_re, d_ca, cat0, cat1, cat2, cat3, fr_z, fr_s, cc_I, cc_A, cc_N, Nat.reduceAdd, Nat.reduceLT, Nat.reduceLeDiff, Nat.reduceEqDiff, not_true, not_false_iff, z1_0, z1_1, Bool.and_self, Bool.true_and, Bool.and_true, nI_add, pk_mul, nI_clamp, decide_true, Nat.le_refl, bI_eq, bI_z1, e1, k18, swq_1]
        exact hQ v1 q1
      · show am_Go am_X0 _ k_Model_pilgrim 16 _ _
        refine go_at (blk := b_Model_pilgrim_16) rfl ?_
        simp (disch := omega) only [b_Model_pilgrim_16, be_4, be_52, List.getD_cons_zero, List.getD_cons_succ, List.set_cons_zero, List.set_cons_succ, List.length_cons, List.length_nil, pk_I, pk_A, pr_A, pi_I, st_s, st_n, if_true, if_false, eq_self, d_if, d_ju, d_re, d_ca, cat0, cat1, cat2, cat3, fr_z, fr_s, cc_I, cc_A, cc_N, Nat.reduceAdd, Nat.reduceLT, Nat.reduceLeDiff, Nat.reduceEqDiff, not_true, not_false_iff, z1_0, z1_1, Bool.and_self, Bool.true_and, Bool.and_true, nI_add, pk_mul, nI_clamp, decide_true, Nat.le_refl, bI_eq, bI_z1, e1, k18, swq_2]
        refine go_at (blk := b_Model_pilgrim_81) rfl ?_
        simp (disch := omega) only [b_Model_pilgrim_81, be_6, be_34, be_1, be_4, be_12, be_38, be_54, kc_388, rf_388_48, ka_419, List.getD_cons_zero, List.getD_cons_succ, List.set_cons_zero, List.set_cons_succ, List.length_cons, List.length_nil, pk_I, pk_A, pr_A, pi_I, st_s, st_n, if_true, if_false, eq_self, d_if, d_ju, d_re, d_ca, cat0, cat1, cat2, cat3, fr_z, fr_s, cc_I, cc_A, cc_N, Nat.reduceAdd, Nat.reduceLT, Nat.reduceLeDiff, Nat.reduceEqDiff, not_true, not_false_iff, z1_0, z1_1, Bool.and_self, Bool.true_and, Bool.and_true, nI_add, pk_mul, nI_clamp, decide_true, Nat.le_refl, bI_eq, bI_z1, e1, k18, swq_2]
        exact hQ v1 q1
      · show am_Go am_X0 _ k_Model_pilgrim 16 _ _
        refine go_at (blk := b_Model_pilgrim_16) rfl ?_
        simp (disch := omega) only [b_Model_pilgrim_16, be_4, be_52, List.getD_cons_zero, List.getD_cons_succ, List.set_cons_zero, List.set_cons_succ, List.length_cons, List.length_nil, pk_I, pk_A, pr_A, pi_I, st_s, st_n, if_true, if_false, eq_self, d_if, d_ju, d_re, d_ca, cat0, cat1, cat2, cat3, fr_z, fr_s, cc_I, cc_A, cc_N, Nat.reduceAdd, Nat.reduceLT, Nat.reduceLeDiff, Nat.reduceEqDiff, not_true, not_false_iff, z1_0, z1_1, Bool.and_self, Bool.true_and, Bool.and_true, nI_add, pk_mul, nI_clamp, decide_true, Nat.le_refl, bI_eq, bI_z1, e1, k18, swq_3]
        refine go_at (blk := b_Model_pilgrim_91) rfl ?_
        simp (disch := omega) only [b_Model_pilgrim_91, be_6, be_34, be_1, be_4, be_12, be_38, be_54, kc_388, rf_388_48, ka_419, List.getD_cons_zero, List.getD_cons_succ, List.set_cons_zero, List.set_cons_succ, List.length_cons, List.length_nil, pk_I, pk_A, pr_A, pi_I, st_s, st_n, if_true, if_false, eq_self, d_if, d_ju, d_re, d_ca, cat0, cat1, cat2, cat3, fr_z, fr_s, cc_I, cc_A, cc_N, Nat.reduceAdd, Nat.reduceLT, Nat.reduceLeDiff, Nat.reduceEqDiff, not_true, not_false_iff, z1_0, z1_1, Bool.and_self, Bool.true_and, Bool.and_true, nI_add, pk_mul, nI_clamp, decide_true, Nat.le_refl, bI_eq, bI_z1, e1, k18, swq_3]
        exact hQ v1 q1
      · show am_Go am_X0 _ k_Model_pilgrim 16 _ _
        refine go_at (blk := b_Model_pilgrim_16) rfl ?_
        simp (disch := omega) only [b_Model_pilgrim_16, be_4, be_52, List.getD_cons_zero, List.getD_cons_succ, List.set_cons_zero, List.set_cons_succ, List.length_cons, List.length_nil, pk_I, pk_A, pr_A, pi_I, st_s, st_n, if_true, if_false, eq_self, d_if, d_ju, d_re, d_ca, cat0, cat1, cat2, cat3, fr_z, fr_s, cc_I, cc_A, cc_N, Nat.reduceAdd, Nat.reduceLT, Nat.reduceLeDiff, Nat.reduceEqDiff, not_true, not_false_iff, z1_0, z1_1, Bool.and_self, Bool.true_and, Bool.and_true, nI_add, pk_mul, nI_clamp, decide_true, Nat.le_refl, bI_eq, bI_z1, e1, k18, swq_4]
        refine go_at (blk := b_Model_pilgrim_101) rfl ?_
        simp (disch := omega) only [b_Model_pilgrim_101, be_6, be_34, be_1, be_4, be_12, be_38, be_2, be_49_1, kc_388, rf_388_48, ka_419, List.getD_cons_zero, List.getD_cons_succ, List.set_cons_zero, List.set_cons_succ, List.length_cons, List.length_nil, pk_I, pk_A, pr_A, pi_I, st_s, st_n, if_true, if_false, eq_self, d_if, d_ju, d_re, d_ca, cat0, cat1, cat2, cat3, fr_z, fr_s, cc_I, cc_A, cc_N, Nat.reduceAdd, Nat.reduceLT, Nat.reduceLeDiff, Nat.reduceEqDiff, not_true, not_false_iff, z1_0, z1_1, Bool.and_self, Bool.true_and, Bool.and_true, nI_add, pk_mul, nI_clamp, decide_true, Nat.le_refl, bI_eq, bI_z1, e1, k18, swq_4]
        split
        · rename_i hc
          refine go_at (blk := b_Model_pilgrim_119) rfl ?_
          simp (disch := omega) only [b_Model_pilgrim_119, be_6, be_34, be_1, be_4, be_12, be_38, be_0, kc_388, rf_388_48, ka_419, List.getD_cons_zero, List.getD_cons_succ, List.set_cons_zero, List.set_cons_succ, List.length_cons, List.length_nil, pk_I, pk_A, pr_A, pi_I, st_s, st_n, if_true, if_false, eq_self, d_if, d_ju, d_re, d_ca, cat0, cat1, cat2, cat3, fr_z, fr_s, cc_I, cc_A, cc_N, Nat.reduceAdd, Nat.reduceLT, Nat.reduceLeDiff, Nat.reduceEqDiff, not_true, not_false_iff, z1_0, z1_1, Bool.and_self, Bool.true_and, Bool.and_true, nI_add, pk_mul, nI_clamp, decide_true, Nat.le_refl, bI_eq, bI_z1, e1, k18, swq_4]
          refine go_at (blk := b_Model_pilgrim_128) rfl ?_
          simp (disch := omega) only [b_Model_pilgrim_128, be_54, List.getD_cons_zero, List.getD_cons_succ, List.set_cons_zero, List.set_cons_succ, List.length_cons, List.length_nil, pk_I, pk_A, pr_A, pi_I, st_s, st_n, if_true, if_false, eq_self, d_if, d_ju, d_re, d_ca, cat0, cat1, cat2, cat3, fr_z, fr_s, cc_I, cc_A, cc_N, Nat.reduceAdd, Nat.reduceLT, Nat.reduceLeDiff, Nat.reduceEqDiff, not_true, not_false_iff, z1_0, z1_1, Bool.and_self, Bool.true_and, Bool.and_true, nI_add, pk_mul, nI_clamp, decide_true, Nat.le_refl, bI_eq, bI_z1, e1, k18, swq_4]
          have hr : plS T f p (nI 4) = f (32 + p) := if_neg hc
          rw [hr] at hQ
          exact hQ v1 q1
        · rename_i hc
          refine go_at (blk := b_Model_pilgrim_114) rfl ?_
          simp (disch := omega) only [b_Model_pilgrim_114, be_2, be_51, List.getD_cons_zero, List.getD_cons_succ, List.set_cons_zero, List.set_cons_succ, List.length_cons, List.length_nil, pk_I, pk_A, pr_A, pi_I, st_s, st_n, if_true, if_false, eq_self, d_if, d_ju, d_re, d_ca, cat0, cat1, cat2, cat3, fr_z, fr_s, cc_I, cc_A, cc_N, Nat.reduceAdd, Nat.reduceLT, Nat.reduceLeDiff, Nat.reduceEqDiff, not_true, not_false_iff, z1_0, z1_1, Bool.and_self, Bool.true_and, Bool.and_true, nI_add, pk_mul, nI_clamp, decide_true, Nat.le_refl, bI_eq, bI_z1, e1, k18, swq_4]
          refine go_at (blk := b_Model_pilgrim_128) rfl ?_
          simp (disch := omega) only [b_Model_pilgrim_128, be_54, List.getD_cons_zero, List.getD_cons_succ, List.set_cons_zero, List.set_cons_succ, List.length_cons, List.length_nil, pk_I, pk_A, pr_A, pi_I, st_s, st_n, if_true, if_false, eq_self, d_if, d_ju, d_re, d_ca, cat0, cat1, cat2, cat3, fr_z, fr_s, cc_I, cc_A, cc_N, Nat.reduceAdd, Nat.reduceLT, Nat.reduceLeDiff, Nat.reduceEqDiff, not_true, not_false_iff, z1_0, z1_1, Bool.and_self, Bool.true_and, Bool.and_true, nI_add, pk_mul, nI_clamp, decide_true, Nat.le_refl, bI_eq, bI_z1, e1, k18, swq_4]
          have hr : plS T f p (nI 4) = -2 := if_pos (Decidable.not_not.mp hc)
          rw [hr] at hQ
          exact hQ v1 q1
      · show am_Go am_X0 _ k_Model_pilgrim 16 _ _
        refine go_at (blk := b_Model_pilgrim_16) rfl ?_
        simp (disch := omega) only [b_Model_pilgrim_16, be_4, be_52, List.getD_cons_zero, List.getD_cons_succ, List.set_cons_zero, List.set_cons_succ, List.length_cons, List.length_nil, pk_I, pk_A, pr_A, pi_I, st_s, st_n, if_true, if_false, eq_self, d_if, d_ju, d_re, d_ca, cat0, cat1, cat2, cat3, fr_z, fr_s, cc_I, cc_A, cc_N, Nat.reduceAdd, Nat.reduceLT, Nat.reduceLeDiff, Nat.reduceEqDiff, not_true, not_false_iff, z1_0, z1_1, Bool.and_self, Bool.true_and, Bool.and_true, nI_add, pk_mul, nI_clamp, decide_true, Nat.le_refl, bI_eq, bI_z1, e1, k18, swq_5]
        refine go_at (blk := b_Model_pilgrim_129) rfl ?_
        simp (disch := omega) only [b_Model_pilgrim_129, be_6, be_4, be_57_1, kc_388, List.getD_cons_zero, List.getD_cons_succ, List.set_cons_zero, List.set_cons_succ, List.length_cons, List.length_nil, pk_I, pk_A, pr_A, pi_I, st_s, st_n, if_true, if_false, eq_self, d_if, d_ju, d_re, d_ca, cat0, cat1, cat2, cat3, fr_z, fr_s, cc_I, cc_A, cc_N, Nat.reduceAdd, Nat.reduceLT, Nat.reduceLeDiff, Nat.reduceEqDiff, not_true, not_false_iff, z1_0, z1_1, Bool.and_self, Bool.true_and, Bool.and_true, nI_add, pk_mul, nI_clamp, decide_true, Nat.le_refl, bI_eq, bI_z1, e1, k18, swq_5]
        refine r_has (by omega) (MI_f hM q1).1 r1 ?_
        intro v2 q2 r2
        refine go_at (blk := b_Model_pilgrim_134) rfl ?_
        simp (disch := omega) only [b_Model_pilgrim_134, be_54, List.getD_cons_zero, List.getD_cons_succ, List.set_cons_zero, List.set_cons_succ, List.length_cons, List.length_nil, pk_I, pk_A, pr_A, pi_I, st_s, st_n, if_true, if_false, eq_self, d_if, d_ju, d_re, d_ca, cat0, cat1, cat2, cat3, fr_z, fr_s, cc_I, cc_A, cc_N, Nat.reduceAdd, Nat.reduceLT, Nat.reduceLeDiff, Nat.reduceEqDiff, not_true, not_false_iff, z1_0, z1_1, Bool.and_self, Bool.true_and, Bool.and_true, nI_add, pk_mul, nI_clamp, decide_true, Nat.le_refl, bI_eq, bI_z1, e1, k18, swq_5]
        exact hQ v2 (MF_t q1 q2)
      · show am_Go am_X0 _ k_Model_pilgrim 16 _ _
        refine go_at (blk := b_Model_pilgrim_16) rfl ?_
        simp (disch := omega) only [b_Model_pilgrim_16, be_4, be_52, List.getD_cons_zero, List.getD_cons_succ, List.set_cons_zero, List.set_cons_succ, List.length_cons, List.length_nil, pk_I, pk_A, pr_A, pi_I, st_s, st_n, if_true, if_false, eq_self, d_if, d_ju, d_re, d_ca, cat0, cat1, cat2, cat3, fr_z, fr_s, cc_I, cc_A, cc_N, Nat.reduceAdd, Nat.reduceLT, Nat.reduceLeDiff, Nat.reduceEqDiff, not_true, not_false_iff, z1_0, z1_1, Bool.and_self, Bool.true_and, Bool.and_true, nI_add, pk_mul, nI_clamp, decide_true, Nat.le_refl, bI_eq, bI_z1, e1, k18, swq_6, t2]
        refine go_at (blk := b_Model_pilgrim_135) rfl ?_
        simp (disch := omega) only [b_Model_pilgrim_135, be_6, be_34, be_1, be_33, be_14, be_4, be_12, be_38, be_54, kc_388, rf_388_25, ka_400, List.getD_cons_zero, List.getD_cons_succ, List.set_cons_zero, List.set_cons_succ, List.length_cons, List.length_nil, pk_I, pk_A, pr_A, pi_I, st_s, st_n, if_true, if_false, eq_self, d_if, d_ju, d_re, d_ca, cat0, cat1, cat2, cat3, fr_z, fr_s, cc_I, cc_A, cc_N, Nat.reduceAdd, Nat.reduceLT, Nat.reduceLeDiff, Nat.reduceEqDiff, not_true, not_false_iff, z1_0, z1_1, Bool.and_self, Bool.true_and, Bool.and_true, nI_add, pk_mul, nI_clamp, decide_true, Nat.le_refl, bI_eq, bI_z1, e1, k18, swq_6, t2]
        exact hQ v1 q1
      · show am_Go am_X0 _ k_Model_pilgrim 16 _ _
        refine go_at (blk := b_Model_pilgrim_16) rfl ?_
        simp (disch := omega) only [b_Model_pilgrim_16, be_4, be_52, List.getD_cons_zero, List.getD_cons_succ, List.set_cons_zero, List.set_cons_succ, List.length_cons, List.length_nil, pk_I, pk_A, pr_A, pi_I, st_s, st_n, if_true, if_false, eq_self, d_if, d_ju, d_re, d_ca, cat0, cat1, cat2, cat3, fr_z, fr_s, cc_I, cc_A, cc_N, Nat.reduceAdd, Nat.reduceLT, Nat.reduceLeDiff, Nat.reduceEqDiff, not_true, not_false_iff, z1_0, z1_1, Bool.and_self, Bool.true_and, Bool.and_true, nI_add, pk_mul, nI_clamp, decide_true, Nat.le_refl, bI_eq, bI_z1, e1, k18, swq_7, t5]
        refine go_at (blk := b_Model_pilgrim_150) rfl ?_
        simp (disch := omega) only [b_Model_pilgrim_150, be_6, be_34, be_1, be_33, be_14, be_4, be_12, be_38, be_54, kc_388, rf_388_28, ka_403, List.getD_cons_zero, List.getD_cons_succ, List.set_cons_zero, List.set_cons_succ, List.length_cons, List.length_nil, pk_I, pk_A, pr_A, pi_I, st_s, st_n, if_true, if_false, eq_self, d_if, d_ju, d_re, d_ca, cat0, cat1, cat2, cat3, fr_z, fr_s, cc_I, cc_A, cc_N, Nat.reduceAdd, Nat.reduceLT, Nat.reduceLeDiff, Nat.reduceEqDiff, not_true, not_false_iff, z1_0, z1_1, Bool.and_self, Bool.true_and, Bool.and_true, nI_add, pk_mul, nI_clamp, decide_true, Nat.le_refl, bI_eq, bI_z1, e1, k18, swq_7, t5]
        exact hQ v1 q1
    · have hsw := swq_d hz
      refine go_at (blk := b_Model_pilgrim_16) rfl ?_
      simp (disch := omega) only [b_Model_pilgrim_16, be_4, be_52, List.getD_cons_zero, List.getD_cons_succ, List.set_cons_zero, List.set_cons_succ, List.length_cons, List.length_nil, pk_I, pk_A, pr_A, pi_I, st_s, st_n, if_true, if_false, eq_self, d_if, d_ju, d_re, d_ca, cat0, cat1, cat2, cat3, fr_z, fr_s, cc_I, cc_A, cc_N, Nat.reduceAdd, Nat.reduceLT, Nat.reduceLeDiff, Nat.reduceEqDiff, not_true, not_false_iff, z1_0, z1_1, Bool.and_self, Bool.true_and, Bool.and_true, nI_add, pk_mul, nI_clamp, decide_true, Nat.le_refl, bI_eq, bI_z1, hsw]
      refine go_at (blk := b_Model_pilgrim_165) rfl ?_
      simp (disch := omega) only [b_Model_pilgrim_165, be_2, be_54, List.getD_cons_zero, List.getD_cons_succ, List.set_cons_zero, List.set_cons_succ, List.length_cons, List.length_nil, pk_I, pk_A, pr_A, pi_I, st_s, st_n, if_true, if_false, eq_self, d_if, d_ju, d_re, d_ca, cat0, cat1, cat2, cat3, fr_z, fr_s, cc_I, cc_A, cc_N, Nat.reduceAdd, Nat.reduceLT, Nat.reduceLeDiff, Nat.reduceEqDiff, not_true, not_false_iff, z1_0, z1_1, Bool.and_self, Bool.true_and, Bool.and_true, nI_add, pk_mul, nI_clamp, decide_true, Nat.le_refl, bI_eq, bI_z1, hsw]
      rw [pl_d hz] at hQ
      exact hQ v1 q1
  · rename_i h0
    have h0 : pilB (tN T) y = false := by simpa using h0
    refine go_at (blk := b_Model_pilgrim_8) rfl ?_
    simp (disch := omega) only [b_Model_pilgrim_8, be_2, be_54, List.getD_cons_zero, List.getD_cons_succ, List.set_cons_zero, List.set_cons_succ, List.length_cons, List.length_nil, pk_I, pk_A, pr_A, pi_I, st_s, st_n, if_true, if_false, eq_self, d_if, d_ju, d_re, d_ca, cat0, cat1, cat2, cat3, fr_z, fr_s, cc_I, cc_A, cc_N, Nat.reduceAdd, Nat.reduceLT, Nat.reduceLeDiff, Nat.reduceEqDiff, not_true, not_false_iff, z1_0, z1_1, Bool.and_self, Bool.true_and, Bool.and_true, nI_add, pk_mul, nI_clamp, decide_true, Nat.le_refl, bI_eq, bI_z1]
    unfold plA at hQ
    rw [if_neg (by rw [h0]; simp)] at hQ
    exact hQ v MF_r
