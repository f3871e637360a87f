/-! laid by wip/whole/m13.py: the reference: bestTwo, exchange -/
theorem tb_2 : ∀ j, j < 8 → ∀ i, i < j → ∀ p, p < 8 → ((2 ^ i + 2 ^ j).testBit p = true ↔ p = i ∨ p = j) := by decide +kernel
theorem sb_two {T : TXT} {f : Nat → Int32} {i j : Nat} (h8 : tN T ≤ 8) (hj : j < tN T) (hi : i < j) (hs : 2 ^ i + 2 ^ j < 256) : sbB (2 ^ i + 2 ^ j) (mayM T f) = (mayB f (-1) (tS T) i && mayB f (-1) (tS T) j) := by
  rw [Bool.eq_iff_iff, sb_bit hs h8, Bool.and_eq_true]
  constructor
  · intro h
    exact ⟨(h i (by omega) ((tb_2 j (by omega) i hi i (by omega)).mpr (Or.inl rfl))).2, (h j (by omega) ((tb_2 j (by omega) i hi j (by omega)).mpr (Or.inr rfl))).2⟩
  · intro h p hp hb
    rcases (tb_2 j (by omega) i hi p hp).mp hb with rfl | rfl
    · exact ⟨by omega, h.1⟩
    · exact ⟨hj, h.2⟩
set_option maxHeartbeats 1000000 in
theorem r_bestTwo {d : Nat} {v : Nat → Nat → Int32} {w : Nat → Nat → Int64} {Q : Option Value → am_H → Prop} {T : TXT} {lv : Nat} {f : Nat → Int32} {B : Int} (hM : MI B v T lv f) {x z : Int32} (hQ : ∀ v', MF v v' → Q (some (.int (b2A T f x z))) (428, 26053, KD, RF, v', w)) : am_Ca (d + 7) M_Model_bestTwo [.ref 388, .int x, .int z] (428, 26053, KD, RF, v, w) Q := by
  have h8 := hM.2.2.2.2.1.1
  refine ca_in (k := k_Model_bestTwo) (nL := 9) rfl (Nat.le_of_ble_eq_true rfl) ?_
  show am_Go am_X0 _ k_Model_bestTwo 0 ([.ref 388, .int x, .int z, .null, .null, .null, .null, .null, .null], [], _) _
  refine go_at (blk := b_Model_bestTwo_0) rfl ?_
  simp (disch := omega) only [b_Model_bestTwo_0, be_4, be_1, be_58_3, List.getD_cons_zero, List.getD_cons_succ, List.set_cons_zero, List.set_cons_succ, List.length_cons, List.length_nil, pk_I, pk_A, pr_A, pi_I, st_s, st_n, if_true, if_false, eq_self, d_if, d_ju, d_re, d_ca, cat0, cat1, cat2, cat3, fr_z, fr_s, cc_I, cc_A, cc_N, Nat.reduceAdd, Nat.reduceLT, Nat.reduceLeDiff, Nat.reduceEqDiff, not_true, not_false_iff, z1_0, z1_1, Bool.and_self, Bool.true_and, Bool.and_true, nI_add, pk_mul, nI_clamp, decide_true, Nat.le_refl, bI_eq, bI_z1]
  refine m_in ?_
  rw [show inB x (nI 1) (nI 300) = spnB x from rfl]
  refine go_at (blk := b_Model_bestTwo_8) rfl ?_
  simp (disch := omega) only [b_Model_bestTwo_8, be_50_0, List.getD_cons_zero, List.getD_cons_succ, List.set_cons_zero, List.set_cons_succ, List.length_cons, List.length_nil, pk_I, pk_A, pr_A, pi_I, st_s, st_n, if_true, if_false, eq_self, d_if, d_ju, d_re, d_ca, cat0, cat1, cat2, cat3, fr_z, fr_s, cc_I, cc_A, cc_N, Nat.reduceAdd, Nat.reduceLT, Nat.reduceLeDiff, Nat.reduceEqDiff, not_true, not_false_iff, z1_0, z1_1, Bool.and_self, Bool.true_and, Bool.and_true, nI_add, pk_mul, nI_clamp, decide_true, Nat.le_refl, bI_eq, bI_z1]
  split
  · rename_i h0
    have h0 : spnB x = false := by simpa using h0
    refine go_at (blk := b_Model_bestTwo_20) rfl ?_
    simp (disch := omega) only [b_Model_bestTwo_20, be_2, be_54, List.getD_cons_zero, List.getD_cons_succ, List.set_cons_zero, List.set_cons_succ, List.length_cons, List.length_nil, pk_I, pk_A, pr_A, pi_I, st_s, st_n, if_true, if_false, eq_self, d_if, d_ju, d_re, d_ca, cat0, cat1, cat2, cat3, fr_z, fr_s, cc_I, cc_A, cc_N, Nat.reduceAdd, Nat.reduceLT, Nat.reduceLeDiff, Nat.reduceEqDiff, not_true, not_false_iff, z1_0, z1_1, Bool.and_self, Bool.true_and, Bool.and_true, nI_add, pk_mul, nI_clamp, decide_true, Nat.le_refl, bI_eq, bI_z1]
    unfold b2A at hQ
    rw [if_neg (by rw [h0]; simp)] at hQ
    exact hQ v MF_r
  · rename_i h0
    have h0 : spnB x = true := by simpa using h0
    refine go_at (blk := b_Model_bestTwo_11) rfl ?_
    simp (disch := omega) only [b_Model_bestTwo_11, be_4, be_1, be_58_3, List.getD_cons_zero, List.getD_cons_succ, List.set_cons_zero, List.set_cons_succ, List.length_cons, List.length_nil, pk_I, pk_A, pr_A, pi_I, st_s, st_n, if_true, if_false, eq_self, d_if, d_ju, d_re, d_ca, cat0, cat1, cat2, cat3, fr_z, fr_s, cc_I, cc_A, cc_N, Nat.reduceAdd, Nat.reduceLT, Nat.reduceLeDiff, Nat.reduceEqDiff, not_true, not_false_iff, z1_0, z1_1, Bool.and_self, Bool.true_and, Bool.and_true, nI_add, pk_mul, nI_clamp, decide_true, Nat.le_refl, bI_eq, bI_z1]
    refine m_in ?_
    rw [in_two]
    refine go_at (blk := b_Model_bestTwo_17) rfl ?_
    simp (disch := omega) only [b_Model_bestTwo_17, be_50_1, List.getD_cons_zero, List.getD_cons_succ, List.set_cons_zero, List.set_cons_succ, List.length_cons, List.length_nil, pk_I, pk_A, pr_A, pi_I, st_s, st_n, if_true, if_false, eq_self, d_if, d_ju, d_re, d_ca, cat0, cat1, cat2, cat3, fr_z, fr_s, cc_I, cc_A, cc_N, Nat.reduceAdd, Nat.reduceLT, Nat.reduceLeDiff, Nat.reduceEqDiff, not_true, not_false_iff, z1_0, z1_1, Bool.and_self, Bool.true_and, Bool.and_true, nI_add, pk_mul, nI_clamp, decide_true, Nat.le_refl, bI_eq, bI_z1]
    split
    · rename_i h1
      have h1 : twoB z = true := by simpa using h1
      unfold b2A at hQ
      rw [if_pos (by rw [h0, h1]; rfl)] at hQ
      obtain ⟨n, _, hn, rfl, en⟩ := spn_of h0
      rw [en] at hQ
      refine go_at (blk := b_Model_bestTwo_22) rfl ?_
      simp (disch := omega) only [b_Model_bestTwo_22, be_2, be_7, be_1, be_0, List.getD_cons_zero, List.getD_cons_succ, List.set_cons_zero, List.set_cons_succ, List.length_cons, List.length_nil, pk_I, pk_A, pr_A, pi_I, st_s, st_n, if_true, if_false, eq_self, d_if, d_ju, d_re, d_ca, cat0, cat1, cat2, cat3, fr_z, fr_s, cc_I, cc_A, cc_N, Nat.reduceAdd, Nat.reduceLT, Nat.reduceLeDiff, Nat.reduceEqDiff, not_true, not_false_iff, z1_0, z1_1, Bool.and_self, Bool.true_and, Bool.and_true, nI_add, pk_mul, nI_clamp, decide_true, Nat.le_refl, bI_eq, bI_z1]
      refine go_loopA (α := (Nat → Nat → Int32) × Value × Value × Value) (fun i x => ([.ref 388, .int (nI n), .int z, .int (b2S T f n i).1, .int (b2S T f n i).2, .int (nI i), x.2.1, x.2.2.1, x.2.2.2], [], (428, 26053, KD, RF, x.1, w))) (fun i x => MF v x.1 ∧ am_cc x.2.1 = true ∧ am_cc x.2.2.1 = true ∧ am_cc x.2.2.2 = true) (tN T) ?_ ?_ (v, .null, .null, .null) ⟨MF_r, rfl, rfl, rfl⟩
      · intro i x hi ⟨x1, x3, x4, x5⟩ ih
        try dsimp only at *
        have hni : ¬ tN T ≤ i := by omega
        have hMx : MI B x.1 T lv f := MI_f hM x1
        obtain ⟨k18, hlv, k398, _⟩ := (MI_f hM x1).1.1
        have k418 : x.1 418 = f := (MI_f hM x1).2.1
        refine go_at (blk := b_Model_bestTwo_32) rfl ?_
        simp (disch := omega) only [b_Model_bestTwo_32, be_4, be_6, be_34, be_33, be_38, be_49_3, kc_388, rf_388_23, ka_398, List.getD_cons_zero, List.getD_cons_succ, List.set_cons_zero, List.set_cons_succ, List.length_cons, List.length_nil, pk_I, pk_A, pr_A, pi_I, st_s, st_n, if_true, if_false, eq_self, d_if, d_ju, d_re, d_ca, cat0, cat1, cat2, cat3, fr_z, fr_s, cc_I, cc_A, cc_N, Nat.reduceAdd, Nat.reduceLT, Nat.reduceLeDiff, Nat.reduceEqDiff, not_true, not_false_iff, z1_0, z1_1, Bool.and_self, Bool.true_and, Bool.and_true, nI_add, pk_mul, nI_clamp, decide_true, Nat.le_refl, bI_eq, bI_z1, nI_ltI, nI_leI, k18, k398, x3, x4, x5, hni]
        refine go_at (blk := b_Model_bestTwo_46) rfl ?_
        simp (disch := omega) only [b_Model_bestTwo_46, be_4, be_1, be_12, be_7, be_0, List.getD_cons_zero, List.getD_cons_succ, List.set_cons_zero, List.set_cons_succ, List.length_cons, List.length_nil, pk_I, pk_A, pr_A, pi_I, st_s, st_n, if_true, if_false, eq_self, d_if, d_ju, d_re, d_ca, cat0, cat1, cat2, cat3, fr_z, fr_s, cc_I, cc_A, cc_N, Nat.reduceAdd, Nat.reduceLT, Nat.reduceLeDiff, Nat.reduceEqDiff, not_true, not_false_iff, z1_0, z1_1, Bool.and_self, Bool.true_and, Bool.and_true, nI_add, pk_mul, nI_clamp, decide_true, Nat.le_refl, bI_eq, bI_z1, nI_ltI, nI_leI, k18, k398, x3, x4, x5, hni]
        refine go_loopA (α := (Nat → Nat → Int32) × Value × Value) (fun j y => ([.ref 388, .int (nI n), .int z, .int (b2I T f n i (b2S T f n i) j).1, .int (b2I T f n i (b2S T f n i) j).2, .int (nI i), .int (nI (i + 1 + j)), y.2.1, y.2.2], [], (428, 26053, KD, RF, y.1, w))) (fun j y => MF v y.1 ∧ am_cc y.2.1 = true ∧ am_cc y.2.2 = true) (tN T - (i + 1)) ?_ ?_ (x.1, x.2.2.1, x.2.2.2) ⟨x1, x4, x5⟩
        · intro j y hj ⟨y1, y2, y3⟩ jh
          try dsimp only at *
          have hMx : MI B y.1 T lv f := MI_f hM y1
          obtain ⟨k18, hlv, k398, _⟩ := (MI_f hM y1).1.1
          have k418 : y.1 418 = f := (MI_f hM y1).2.1
          have hnj : ¬ tN T ≤ i + 1 + j := by omega
          obtain ⟨hbt, hb2⟩ := bt_2 (i + 1 + j) (by omega) i (by omega)
          refine go_at (blk := b_Model_bestTwo_52) rfl ?_
          simp (disch := omega) only [b_Model_bestTwo_52, be_4, be_6, be_34, be_33, be_38, be_49_3, kc_388, rf_388_23, ka_398, List.getD_cons_zero, List.getD_cons_succ, List.set_cons_zero, List.set_cons_succ, List.length_cons, List.length_nil, pk_I, pk_A, pr_A, pi_I, st_s, st_n, if_true, if_false, eq_self, d_if, d_ju, d_re, d_ca, cat0, cat1, cat2, cat3, fr_z, fr_s, cc_I, cc_A, cc_N, Nat.reduceAdd, Nat.reduceLT, Nat.reduceLeDiff, Nat.reduceEqDiff, not_true, not_false_iff, z1_0, z1_1, Bool.and_self, Bool.true_and, Bool.and_true, nI_add, pk_mul, nI_clamp, decide_true, Nat.le_refl, bI_eq, bI_z1, nI_ltI, nI_leI, k18, k398, hnj, hbt, y2, y3]
          refine go_at (blk := b_Model_bestTwo_66) rfl ?_
          simp (disch := omega) only [b_Model_bestTwo_66, be_6, be_1, be_4, be_21, be_19, be_57_1, kc_388, List.getD_cons_zero, List.getD_cons_succ, List.set_cons_zero, List.set_cons_succ, List.length_cons, List.length_nil, pk_I, pk_A, pr_A, pi_I, st_s, st_n, if_true, if_false, eq_self, d_if, d_ju, d_re, d_ca, cat0, cat1, cat2, cat3, fr_z, fr_s, cc_I, cc_A, cc_N, Nat.reduceAdd, Nat.reduceLT, Nat.reduceLeDiff, Nat.reduceEqDiff, not_true, not_false_iff, z1_0, z1_1, Bool.and_self, Bool.true_and, Bool.and_true, nI_add, pk_mul, nI_clamp, decide_true, Nat.le_refl, bI_eq, bI_z1, nI_ltI, nI_leI, k18, k398, hnj, hbt, y2, y3]
          refine r_kneelsBy hMx hb2 ?_
          intro v2 q2 r2
          rw [sb_two h8 (by omega) (by omega) hb2] at r2 ⊢
          refine go_at (blk := b_Model_bestTwo_79) rfl ?_
          simp (disch := omega) only [b_Model_bestTwo_79, be_50_1, List.getD_cons_zero, List.getD_cons_succ, List.set_cons_zero, List.set_cons_succ, List.length_cons, List.length_nil, pk_I, pk_A, pr_A, pi_I, st_s, st_n, if_true, if_false, eq_self, d_if, d_ju, d_re, d_ca, cat0, cat1, cat2, cat3, fr_z, fr_s, cc_I, cc_A, cc_N, Nat.reduceAdd, Nat.reduceLT, Nat.reduceLeDiff, Nat.reduceEqDiff, not_true, not_false_iff, z1_0, z1_1, Bool.and_self, Bool.true_and, Bool.and_true, nI_add, pk_mul, nI_clamp, decide_true, Nat.le_refl, bI_eq, bI_z1, nI_ltI, nI_leI, k18, k398, hnj, hbt, y2, y3]
          split
          · rename_i ha
            have ok : (mayB f (-1) (tS T) i && mayB f (-1) (tS T) (i + 1 + j)) = true := by simpa using ha
            have f2 := MF_t y1 q2
            refine go_at (blk := b_Model_bestTwo_85) rfl ?_
            simp (disch := omega) only [b_Model_bestTwo_85, be_6, be_4, be_57_1, kc_388, List.getD_cons_zero, List.getD_cons_succ, List.set_cons_zero, List.set_cons_succ, List.length_cons, List.length_nil, pk_I, pk_A, pr_A, pi_I, st_s, st_n, if_true, if_false, eq_self, d_if, d_ju, d_re, d_ca, cat0, cat1, cat2, cat3, fr_z, fr_s, cc_I, cc_A, cc_N, Nat.reduceAdd, Nat.reduceLT, Nat.reduceLeDiff, Nat.reduceEqDiff, not_true, not_false_iff, z1_0, z1_1, Bool.and_self, Bool.true_and, Bool.and_true, nI_add, pk_mul, nI_clamp, decide_true, Nat.le_refl, bI_eq, bI_z1, nI_ltI, nI_leI, k18, k398, hnj, hbt, y2, y3]
            refine r_goes (k := n) (by omega) (MX_f hM.1 f2) (r2 ok) ?_
            intro v3 q3 r3
            have f3 := MF_t f2 q3
            have e3 : v3 419 = (itT T (-1) 0 n (knS (2 ^ i + 2 ^ (i + 1 + j)) f)) := r3.1
            obtain ⟨k18b, _, k398b, _⟩ := (MI_f hM f3).1.1
            refine go_at (blk := b_Model_bestTwo_90) rfl ?_
            simp (disch := omega) only [b_Model_bestTwo_90, be_1, be_7, be_0, List.getD_cons_zero, List.getD_cons_succ, List.set_cons_zero, List.set_cons_succ, List.length_cons, List.length_nil, pk_I, pk_A, pr_A, pi_I, st_s, st_n, if_true, if_false, eq_self, d_if, d_ju, d_re, d_ca, cat0, cat1, cat2, cat3, fr_z, fr_s, cc_I, cc_A, cc_N, Nat.reduceAdd, Nat.reduceLT, Nat.reduceLeDiff, Nat.reduceEqDiff, not_true, not_false_iff, z1_0, z1_1, Bool.and_self, Bool.true_and, Bool.and_true, nI_add, pk_mul, nI_clamp, decide_true, Nat.le_refl, bI_eq, bI_z1, nI_ltI, nI_leI, k18, k398, hnj, hbt, y2, y3]
            refine go_loopA (α := Unit) (fun l u => ([.ref 388, .int (nI n), .int z, .int (b2I T f n i (b2S T f n i) j).1, .int (b2I T f n i (b2S T f n i) j).2, .int (nI i), .int (nI (i + 1 + j)), .int (smI 0 (itT T (-1) 0 n (knS (2 ^ i + 2 ^ (i + 1 + j)) f)) l), .int (nI l)], [], (428, 26053, KD, RF, v3, w))) (fun l u => True) (tN T) ?_ ?_ () trivial
            · intro l _ hl _ lh
              try dsimp only at *
              have hnl : ¬ tN T ≤ l := by omega
              refine go_at (blk := b_Model_bestTwo_96) rfl ?_
              simp (disch := omega) only [b_Model_bestTwo_96, be_4, be_6, be_34, be_33, be_38, be_49_3, kc_388, rf_388_23, ka_398, List.getD_cons_zero, List.getD_cons_succ, List.set_cons_zero, List.set_cons_succ, List.length_cons, List.length_nil, pk_I, pk_A, pr_A, pi_I, st_s, st_n, if_true, if_false, eq_self, d_if, d_ju, d_re, d_ca, cat0, cat1, cat2, cat3, fr_z, fr_s, cc_I, cc_A, cc_N, Nat.reduceAdd, Nat.reduceLT, Nat.reduceLeDiff, Nat.reduceEqDiff, not_true, not_false_iff, z1_0, z1_1, Bool.and_self, Bool.true_and, Bool.and_true, nI_add, pk_mul, nI_clamp, decide_true, Nat.le_refl, bI_eq, bI_z1, nI_ltI, nI_leI, k18b, k398b, e3, hnl]
              refine go_at (blk := b_Model_bestTwo_110) rfl ?_
              simp (disch := omega) only [b_Model_bestTwo_110, be_4, be_6, be_34, be_38, be_12, be_7, be_10, be_51, kc_388, rf_388_48, ka_419, List.getD_cons_zero, List.getD_cons_succ, List.set_cons_zero, List.set_cons_succ, List.length_cons, List.length_nil, pk_I, pk_A, pr_A, pi_I, st_s, st_n, if_true, if_false, eq_self, d_if, d_ju, d_re, d_ca, cat0, cat1, cat2, cat3, fr_z, fr_s, cc_I, cc_A, cc_N, Nat.reduceAdd, Nat.reduceLT, Nat.reduceLeDiff, Nat.reduceEqDiff, not_true, not_false_iff, z1_0, z1_1, Bool.and_self, Bool.true_and, Bool.and_true, nI_add, pk_mul, nI_clamp, decide_true, Nat.le_refl, bI_eq, bI_z1, nI_ltI, nI_leI, k18b, k398b, e3, hnl]
              exact lh () trivial
            · intro _ _
              try dsimp only at *
              refine go_at (blk := b_Model_bestTwo_96) rfl ?_
              simp (disch := omega) only [b_Model_bestTwo_96, be_4, be_6, be_34, be_33, be_38, be_49_3, kc_388, rf_388_23, ka_398, List.getD_cons_zero, List.getD_cons_succ, List.set_cons_zero, List.set_cons_succ, List.length_cons, List.length_nil, pk_I, pk_A, pr_A, pi_I, st_s, st_n, if_true, if_false, eq_self, d_if, d_ju, d_re, d_ca, cat0, cat1, cat2, cat3, fr_z, fr_s, cc_I, cc_A, cc_N, Nat.reduceAdd, Nat.reduceLT, Nat.reduceLeDiff, Nat.reduceEqDiff, not_true, not_false_iff, z1_0, z1_1, Bool.and_self, Bool.true_and, Bool.and_true, nI_add, pk_mul, nI_clamp, decide_true, Nat.le_refl, bI_eq, bI_z1, nI_ltI, nI_leI, k18b, k398b, e3]
              refine go_at (blk := b_Model_bestTwo_128) rfl ?_
              simp (disch := omega) only [b_Model_bestTwo_128, be_4, be_49_4, List.getD_cons_zero, List.getD_cons_succ, List.set_cons_zero, List.set_cons_succ, List.length_cons, List.length_nil, pk_I, pk_A, pr_A, pi_I, st_s, st_n, if_true, if_false, eq_self, d_if, d_ju, d_re, d_ca, cat0, cat1, cat2, cat3, fr_z, fr_s, cc_I, cc_A, cc_N, Nat.reduceAdd, Nat.reduceLT, Nat.reduceLeDiff, Nat.reduceEqDiff, not_true, not_false_iff, z1_0, z1_1, Bool.and_self, Bool.true_and, Bool.and_true, nI_add, pk_mul, nI_clamp, decide_true, Nat.le_refl, bI_eq, bI_z1, nI_ltI, nI_leI, k18b, k398b, e3]
              split
              · rename_i hc
                simp only [b2_i (b2_2 ok hc)] at jh
                refine go_at (blk := b_Model_bestTwo_138) rfl ?_
                simp (disch := omega) only [b_Model_bestTwo_138, be_1, be_4, be_14, be_12, be_7, be_0, List.getD_cons_zero, List.getD_cons_succ, List.set_cons_zero, List.set_cons_succ, List.length_cons, List.length_nil, pk_I, pk_A, pr_A, pi_I, st_s, st_n, if_true, if_false, eq_self, d_if, d_ju, d_re, d_ca, cat0, cat1, cat2, cat3, fr_z, fr_s, cc_I, cc_A, cc_N, Nat.reduceAdd, Nat.reduceLT, Nat.reduceLeDiff, Nat.reduceEqDiff, not_true, not_false_iff, z1_0, z1_1, Bool.and_self, Bool.true_and, Bool.and_true, nI_add, pk_mul, nI_clamp, decide_true, Nat.le_refl, bI_eq, bI_z1, nI_ltI, nI_leI, k18b, k398b, e3]
                refine go_at (blk := b_Model_bestTwo_151) rfl ?_
                simp (disch := omega) only [b_Model_bestTwo_151, be_10, be_51, List.getD_cons_zero, List.getD_cons_succ, List.set_cons_zero, List.set_cons_succ, List.length_cons, List.length_nil, pk_I, pk_A, pr_A, pi_I, st_s, st_n, if_true, if_false, eq_self, d_if, d_ju, d_re, d_ca, cat0, cat1, cat2, cat3, fr_z, fr_s, cc_I, cc_A, cc_N, Nat.reduceAdd, Nat.reduceLT, Nat.reduceLeDiff, Nat.reduceEqDiff, not_true, not_false_iff, z1_0, z1_1, Bool.and_self, Bool.true_and, Bool.and_true, nI_add, pk_mul, nI_clamp, decide_true, Nat.le_refl, bI_eq, bI_z1, nI_ltI, nI_leI, k18b, k398b, e3]
                exact jh (v3, .int _, .int _) ⟨f3, rfl, rfl⟩
              · rename_i hc
                simp only [b2_i (b2_1 ok hc)] at jh
                refine go_at (blk := b_Model_bestTwo_135) rfl ?_
                simp (disch := omega) only [b_Model_bestTwo_135, be_51, List.getD_cons_zero, List.getD_cons_succ, List.set_cons_zero, List.set_cons_succ, List.length_cons, List.length_nil, pk_I, pk_A, pr_A, pi_I, st_s, st_n, if_true, if_false, eq_self, d_if, d_ju, d_re, d_ca, cat0, cat1, cat2, cat3, fr_z, fr_s, cc_I, cc_A, cc_N, Nat.reduceAdd, Nat.reduceLT, Nat.reduceLeDiff, Nat.reduceEqDiff, not_true, not_false_iff, z1_0, z1_1, Bool.and_self, Bool.true_and, Bool.and_true, nI_add, pk_mul, nI_clamp, decide_true, Nat.le_refl, bI_eq, bI_z1, nI_ltI, nI_leI, k18b, k398b, e3]
                refine go_at (blk := b_Model_bestTwo_151) rfl ?_
                simp (disch := omega) only [b_Model_bestTwo_151, be_10, be_51, List.getD_cons_zero, List.getD_cons_succ, List.set_cons_zero, List.set_cons_succ, List.length_cons, List.length_nil, pk_I, pk_A, pr_A, pi_I, st_s, st_n, if_true, if_false, eq_self, d_if, d_ju, d_re, d_ca, cat0, cat1, cat2, cat3, fr_z, fr_s, cc_I, cc_A, cc_N, Nat.reduceAdd, Nat.reduceLT, Nat.reduceLeDiff, Nat.reduceEqDiff, not_true, not_false_iff, z1_0, z1_1, Bool.and_self, Bool.true_and, Bool.and_true, nI_add, pk_mul, nI_clamp, decide_true, Nat.le_refl, bI_eq, bI_z1, nI_ltI, nI_leI, k18b, k398b, e3]
                exact jh (v3, .int _, .int _) ⟨f3, rfl, rfl⟩
          · rename_i ha
            have ok : (mayB f (-1) (tS T) i && mayB f (-1) (tS T) (i + 1 + j)) = false := by simpa using ha
            refine go_at (blk := b_Model_bestTwo_82) rfl ?_
            simp (disch := omega) only [b_Model_bestTwo_82, be_51, List.getD_cons_zero, List.getD_cons_succ, List.set_cons_zero, List.set_cons_succ, List.length_cons, List.length_nil, pk_I, pk_A, pr_A, pi_I, st_s, st_n, if_true, if_false, eq_self, d_if, d_ju, d_re, d_ca, cat0, cat1, cat2, cat3, fr_z, fr_s, cc_I, cc_A, cc_N, Nat.reduceAdd, Nat.reduceLT, Nat.reduceLeDiff, Nat.reduceEqDiff, not_true, not_false_iff, z1_0, z1_1, Bool.and_self, Bool.true_and, Bool.and_true, nI_add, pk_mul, nI_clamp, decide_true, Nat.le_refl, bI_eq, bI_z1, nI_ltI, nI_leI, k18, k398, hnj, hbt, y2, y3]
            refine go_at (blk := b_Model_bestTwo_151) rfl ?_
            simp (disch := omega) only [b_Model_bestTwo_151, be_10, be_51, List.getD_cons_zero, List.getD_cons_succ, List.set_cons_zero, List.set_cons_succ, List.length_cons, List.length_nil, pk_I, pk_A, pr_A, pi_I, st_s, st_n, if_true, if_false, eq_self, d_if, d_ju, d_re, d_ca, cat0, cat1, cat2, cat3, fr_z, fr_s, cc_I, cc_A, cc_N, Nat.reduceAdd, Nat.reduceLT, Nat.reduceLeDiff, Nat.reduceEqDiff, not_true, not_false_iff, z1_0, z1_1, Bool.and_self, Bool.true_and, Bool.and_true, nI_add, pk_mul, nI_clamp, decide_true, Nat.le_refl, bI_eq, bI_z1, nI_ltI, nI_leI, k18, k398, hnj, hbt, y2, y3]
            simp only [b2_i (b2_0 ok)] at jh
            exact jh (v2, y.2.1, y.2.2) ⟨MF_t y1 q2, y2, y3⟩
        · intro y ⟨y1, y2, y3⟩
          try dsimp only at *
          have hMx : MI B y.1 T lv f := MI_f hM y1
          obtain ⟨k18, hlv, k398, _⟩ := (MI_f hM y1).1.1
          have k418 : y.1 418 = f := (MI_f hM y1).2.1
          have hje : i + 1 + (tN T - (i + 1)) = tN T := by omega
          refine go_at (blk := b_Model_bestTwo_52) rfl ?_
          simp (disch := omega) only [b_Model_bestTwo_52, be_4, be_6, be_34, be_33, be_38, be_49_3, kc_388, rf_388_23, ka_398, List.getD_cons_zero, List.getD_cons_succ, List.set_cons_zero, List.set_cons_succ, List.length_cons, List.length_nil, pk_I, pk_A, pr_A, pi_I, st_s, st_n, if_true, if_false, eq_self, d_if, d_ju, d_re, d_ca, cat0, cat1, cat2, cat3, fr_z, fr_s, cc_I, cc_A, cc_N, Nat.reduceAdd, Nat.reduceLT, Nat.reduceLeDiff, Nat.reduceEqDiff, not_true, not_false_iff, z1_0, z1_1, Bool.and_self, Bool.true_and, Bool.and_true, nI_add, pk_mul, nI_clamp, decide_true, Nat.le_refl, bI_eq, bI_z1, nI_ltI, nI_leI, k18, k398, hje]
          refine go_at (blk := b_Model_bestTwo_157) rfl ?_
          simp (disch := omega) only [b_Model_bestTwo_157, be_10, be_51, List.getD_cons_zero, List.getD_cons_succ, List.set_cons_zero, List.set_cons_succ, List.length_cons, List.length_nil, pk_I, pk_A, pr_A, pi_I, st_s, st_n, if_true, if_false, eq_self, d_if, d_ju, d_re, d_ca, cat0, cat1, cat2, cat3, fr_z, fr_s, cc_I, cc_A, cc_N, Nat.reduceAdd, Nat.reduceLT, Nat.reduceLeDiff, Nat.reduceEqDiff, not_true, not_false_iff, z1_0, z1_1, Bool.and_self, Bool.true_and, Bool.and_true, nI_add, pk_mul, nI_clamp, decide_true, Nat.le_refl, bI_eq, bI_z1, nI_ltI, nI_leI, k18, k398, hje]
          exact ih (y.1, .int _, y.2.1, y.2.2) ⟨y1, rfl, y2, y3⟩
      · intro x ⟨x1, x3, x4, x5⟩
        try dsimp only at *
        have hMx : MI B x.1 T lv f := MI_f hM x1
        obtain ⟨k18, hlv, k398, _⟩ := (MI_f hM x1).1.1
        have k418 : x.1 418 = f := (MI_f hM x1).2.1
        refine go_at (blk := b_Model_bestTwo_32) rfl ?_
        simp (disch := omega) only [b_Model_bestTwo_32, be_4, be_6, be_34, be_33, be_38, be_49_3, kc_388, rf_388_23, ka_398, List.getD_cons_zero, List.getD_cons_succ, List.set_cons_zero, List.set_cons_succ, List.length_cons, List.length_nil, pk_I, pk_A, pr_A, pi_I, st_s, st_n, if_true, if_false, eq_self, d_if, d_ju, d_re, d_ca, cat0, cat1, cat2, cat3, fr_z, fr_s, cc_I, cc_A, cc_N, Nat.reduceAdd, Nat.reduceLT, Nat.reduceLeDiff, Nat.reduceEqDiff, not_true, not_false_iff, z1_0, z1_1, Bool.and_self, Bool.true_and, Bool.and_true, nI_add, pk_mul, nI_clamp, decide_true, Nat.le_refl, bI_eq, bI_z1, nI_ltI, nI_leI, k18, k398]
        refine go_at (blk := b_Model_bestTwo_163) rfl ?_
        simp (disch := omega) only [b_Model_bestTwo_163, be_4, be_50_1, List.getD_cons_zero, List.getD_cons_succ, List.set_cons_zero, List.set_cons_succ, List.length_cons, List.length_nil, pk_I, pk_A, pr_A, pi_I, st_s, st_n, if_true, if_false, eq_self, d_if, d_ju, d_re, d_ca, cat0, cat1, cat2, cat3, fr_z, fr_s, cc_I, cc_A, cc_N, Nat.reduceAdd, Nat.reduceLT, Nat.reduceLeDiff, Nat.reduceEqDiff, not_true, not_false_iff, z1_0, z1_1, Bool.and_self, Bool.true_and, Bool.and_true, nI_add, pk_mul, nI_clamp, decide_true, Nat.le_refl, bI_eq, bI_z1, nI_ltI, nI_leI, k18, k398]
        split
        · rename_i hw
          rw [if_neg hw] at hQ
          refine go_at (blk := b_Model_bestTwo_172) rfl ?_
          simp (disch := omega) only [b_Model_bestTwo_172, be_4, be_0, List.getD_cons_zero, List.getD_cons_succ, List.set_cons_zero, List.set_cons_succ, List.length_cons, List.length_nil, pk_I, pk_A, pr_A, pi_I, st_s, st_n, if_true, if_false, eq_self, d_if, d_ju, d_re, d_ca, cat0, cat1, cat2, cat3, fr_z, fr_s, cc_I, cc_A, cc_N, Nat.reduceAdd, Nat.reduceLT, Nat.reduceLeDiff, Nat.reduceEqDiff, not_true, not_false_iff, z1_0, z1_1, Bool.and_self, Bool.true_and, Bool.and_true, nI_add, pk_mul, nI_clamp, decide_true, Nat.le_refl, bI_eq, bI_z1, nI_ltI, nI_leI, k18, k398]
          refine go_at (blk := b_Model_bestTwo_173) rfl ?_
          simp (disch := omega) only [b_Model_bestTwo_173, be_54, List.getD_cons_zero, List.getD_cons_succ, List.set_cons_zero, List.set_cons_succ, List.length_cons, List.length_nil, pk_I, pk_A, pr_A, pi_I, st_s, st_n, if_true, if_false, eq_self, d_if, d_ju, d_re, d_ca, cat0, cat1, cat2, cat3, fr_z, fr_s, cc_I, cc_A, cc_N, Nat.reduceAdd, Nat.reduceLT, Nat.reduceLeDiff, Nat.reduceEqDiff, not_true, not_false_iff, z1_0, z1_1, Bool.and_self, Bool.true_and, Bool.and_true, nI_add, pk_mul, nI_clamp, decide_true, Nat.le_refl, bI_eq, bI_z1, nI_ltI, nI_leI, k18, k398]
          exact hQ x.1 x1
        · rename_i hw
          rw [if_pos (Decidable.not_not.mp hw)] at hQ
          refine go_at (blk := b_Model_bestTwo_167) rfl ?_
          simp (disch := omega) only [b_Model_bestTwo_167, be_4, be_51, List.getD_cons_zero, List.getD_cons_succ, List.set_cons_zero, List.set_cons_succ, List.length_cons, List.length_nil, pk_I, pk_A, pr_A, pi_I, st_s, st_n, if_true, if_false, eq_self, d_if, d_ju, d_re, d_ca, cat0, cat1, cat2, cat3, fr_z, fr_s, cc_I, cc_A, cc_N, Nat.reduceAdd, Nat.reduceLT, Nat.reduceLeDiff, Nat.reduceEqDiff, not_true, not_false_iff, z1_0, z1_1, Bool.and_self, Bool.true_and, Bool.and_true, nI_add, pk_mul, nI_clamp, decide_true, Nat.le_refl, bI_eq, bI_z1, nI_ltI, nI_leI, k18, k398]
          refine go_at (blk := b_Model_bestTwo_173) rfl ?_
          simp (disch := omega) only [b_Model_bestTwo_173, be_54, List.getD_cons_zero, List.getD_cons_succ, List.set_cons_zero, List.set_cons_succ, List.length_cons, List.length_nil, pk_I, pk_A, pr_A, pi_I, st_s, st_n, if_true, if_false, eq_self, d_if, d_ju, d_re, d_ca, cat0, cat1, cat2, cat3, fr_z, fr_s, cc_I, cc_A, cc_N, Nat.reduceAdd, Nat.reduceLT, Nat.reduceLeDiff, Nat.reduceEqDiff, not_true, not_false_iff, z1_0, z1_1, Bool.and_self, Bool.true_and, Bool.and_true, nI_add, pk_mul, nI_clamp, decide_true, Nat.le_refl, bI_eq, bI_z1, nI_ltI, nI_leI, k18, k398]
          exact hQ x.1 x1
    · rename_i h1
      have h1 : twoB z = false := by simpa using h1
      refine go_at (blk := b_Model_bestTwo_20) rfl ?_
      simp (disch := omega) only [b_Model_bestTwo_20, be_2, be_54, List.getD_cons_zero, List.getD_cons_succ, List.set_cons_zero, List.set_cons_succ, List.length_cons, List.length_nil, pk_I, pk_A, pr_A, pi_I, st_s, st_n, if_true, if_false, eq_self, d_if, d_ju, d_re, d_ca, cat0, cat1, cat2, cat3, fr_z, fr_s, cc_I, cc_A, cc_N, Nat.reduceAdd, Nat.reduceLT, Nat.reduceLeDiff, Nat.reduceEqDiff, not_true, not_false_iff, z1_0, z1_1, Bool.and_self, Bool.true_and, Bool.and_true, nI_add, pk_mul, nI_clamp, decide_true, Nat.le_refl, bI_eq, bI_z1]
      unfold b2A at hQ
      rw [if_neg (by rw [h1]; simp)] at hQ
      exact hQ v MF_r
theorem xcI_ok {T : TXT} {f : Nat → Int32} {p n i : Nat} {a : Int32 × Int32} (hi : i < 8) (ha : a.1 = -2 ∨ 0 ≤ a.1.toInt) : ∀ j, j ≤ 8 → (xcI T f p n i a j).1 = -2 ∨ 0 ≤ (xcI T f p n i a j).1.toInt := by
  intro j
  induction j with
  | zero => intro _; exact ha
  | succ j ih =>
    intro hj
    show (xcP T f p n i j (xcI T f p n i a j)).1 = -2 ∨ 0 ≤ (xcP T f p n i j (xcI T f p n i a j)).1.toInt
    unfold xcP
    split
    · split
      · right
        show 0 ≤ (nI (10 * i + j)).toInt
        rw [nI_toInt (by omega)]
        omega
      · exact ih (by omega)
    · exact ih (by omega)
theorem xc_ok {T : TXT} {f : Nat → Int32} {p n : Nat} (h8 : tN T ≤ 8) : ∀ i, i ≤ 8 → (xcS T f p n i).1 = -2 ∨ 0 ≤ (xcS T f p n i).1.toInt := by
  intro i
  induction i with
  | zero => intro _; exact Or.inl rfl
  | succ i ih => intro hi; exact xcI_ok (by omega) (ih (by omega)) (tN T) h8
set_option maxHeartbeats 1000000 in
theorem r_exchange {d : Nat} {v : Nat → Nat → Int32} {w : Nat → Nat → Int64} {Q : Option Value → am_H → Prop} {T : TXT} {lv : Nat} {f : Nat → Int32} {B : Int} (hM : MI B v T lv f) {y x z : Int32} (hQ : ∀ v', MF v v' → Q (some (.int (xcA T f y x z))) (428, 26053, KD, RF, v', w)) : am_Ca (d + 7) M_Model_exchange [.ref 388, .int y, .int x, .int z] (428, 26053, KD, RF, v, w) Q := by
  have h8 := hM.2.2.2.2.1.1
  refine ca_in (k := k_Model_exchange) (nL := 8) rfl (Nat.le_of_ble_eq_true rfl) ?_
  show am_Go am_X0 _ k_Model_exchange 0 ([.ref 388, .int y, .int x, .int z, .null, .null, .null, .null], [], _) _
  refine go_at (blk := b_Model_exchange_0) rfl ?_
  simp (disch := omega) only [b_Model_exchange_0, be_6, be_4, be_57_1, kc_388, List.getD_cons_zero, List.getD_cons_succ, List.set_cons_zero, List.set_cons_succ, List.length_cons, List.length_nil, pk_I, pk_A, pr_A, pi_I, st_s, st_n, if_true, if_false, eq_self, d_if, d_ju, d_re, d_ca, cat0, cat1, cat2, cat3, fr_z, fr_s, cc_I, cc_A, cc_N, Nat.reduceAdd, Nat.reduceLT, Nat.reduceLeDiff, Nat.reduceEqDiff, not_true, not_false_iff, z1_0, z1_1, Bool.and_self, Bool.true_and, Bool.and_true, nI_add, pk_mul, nI_clamp, decide_true, Nat.le_refl, bI_eq, bI_z1]
  refine r_isPil hM.1 ?_
  refine go_at (blk := b_Model_exchange_5) rfl ?_
  simp (disch := omega) only [b_Model_exchange_5, be_50_0, List.getD_cons_zero, List.getD_cons_succ, List.set_cons_zero, List.set_cons_succ, List.length_cons, List.length_nil, pk_I, pk_A, pr_A, pi_I, st_s, st_n, if_true, if_false, eq_self, d_if, d_ju, d_re, d_ca, cat0, cat1, cat2, cat3, fr_z, fr_s, cc_I, cc_A, cc_N, Nat.reduceAdd, Nat.reduceLT, Nat.reduceLeDiff, Nat.reduceEqDiff, not_true, not_false_iff, z1_0, z1_1, Bool.and_self, Bool.true_and, Bool.and_true, nI_add, pk_mul, nI_clamp, decide_true, Nat.le_refl, bI_eq, bI_z1]
  split
  · rename_i h0
    have h0 : pilB (tN T) y = false := by simpa using h0
    refine go_at (blk := b_Model_exchange_28) rfl ?_
    simp (disch := omega) only [b_Model_exchange_28, be_2, be_54, List.getD_cons_zero, List.getD_cons_succ, List.set_cons_zero, List.set_cons_succ, List.length_cons, List.length_nil, pk_I, pk_A, pr_A, pi_I, st_s, st_n, if_true, if_false, eq_self, d_if, d_ju, d_re, d_ca, cat0, cat1, cat2, cat3, fr_z, fr_s, cc_I, cc_A, cc_N, Nat.reduceAdd, Nat.reduceLT, Nat.reduceLeDiff, Nat.reduceEqDiff, not_true, not_false_iff, z1_0, z1_1, Bool.and_self, Bool.true_and, Bool.and_true, nI_add, pk_mul, nI_clamp, decide_true, Nat.le_refl, bI_eq, bI_z1]
    unfold xcA at hQ
    rw [if_neg (by rw [h0]; simp)] at hQ
    exact hQ v MF_r
  · rename_i h0
    have h0 : pilB (tN T) y = true := by simpa using h0
    refine go_at (blk := b_Model_exchange_8) rfl ?_
    simp (disch := omega) only [b_Model_exchange_8, be_4, be_1, be_58_3, List.getD_cons_zero, List.getD_cons_succ, List.set_cons_zero, List.set_cons_succ, List.length_cons, List.length_nil, pk_I, pk_A, pr_A, pi_I, st_s, st_n, if_true, if_false, eq_self, d_if, d_ju, d_re, d_ca, cat0, cat1, cat2, cat3, fr_z, fr_s, cc_I, cc_A, cc_N, Nat.reduceAdd, Nat.reduceLT, Nat.reduceLeDiff, Nat.reduceEqDiff, not_true, not_false_iff, z1_0, z1_1, Bool.and_self, Bool.true_and, Bool.and_true, nI_add, pk_mul, nI_clamp, decide_true, Nat.le_refl, bI_eq, bI_z1]
    refine m_in ?_
    rw [show inB x (nI 1) (nI 300) = spnB x from rfl]
    refine go_at (blk := b_Model_exchange_16) rfl ?_
    simp (disch := omega) only [b_Model_exchange_16, be_50_0, List.getD_cons_zero, List.getD_cons_succ, List.set_cons_zero, List.set_cons_succ, List.length_cons, List.length_nil, pk_I, pk_A, pr_A, pi_I, st_s, st_n, if_true, if_false, eq_self, d_if, d_ju, d_re, d_ca, cat0, cat1, cat2, cat3, fr_z, fr_s, cc_I, cc_A, cc_N, Nat.reduceAdd, Nat.reduceLT, Nat.reduceLeDiff, Nat.reduceEqDiff, not_true, not_false_iff, z1_0, z1_1, Bool.and_self, Bool.true_and, Bool.and_true, nI_add, pk_mul, nI_clamp, decide_true, Nat.le_refl, bI_eq, bI_z1]
    split
    · rename_i h1
      have h1 : spnB x = false := by simpa using h1
      refine go_at (blk := b_Model_exchange_28) rfl ?_
      simp (disch := omega) only [b_Model_exchange_28, be_2, be_54, List.getD_cons_zero, List.getD_cons_succ, List.set_cons_zero, List.set_cons_succ, List.length_cons, List.length_nil, pk_I, pk_A, pr_A, pi_I, st_s, st_n, if_true, if_false, eq_self, d_if, d_ju, d_re, d_ca, cat0, cat1, cat2, cat3, fr_z, fr_s, cc_I, cc_A, cc_N, Nat.reduceAdd, Nat.reduceLT, Nat.reduceLeDiff, Nat.reduceEqDiff, not_true, not_false_iff, z1_0, z1_1, Bool.and_self, Bool.true_and, Bool.and_true, nI_add, pk_mul, nI_clamp, decide_true, Nat.le_refl, bI_eq, bI_z1]
      unfold xcA at hQ
      rw [if_neg (by rw [h1]; simp)] at hQ
      exact hQ v MF_r
    · rename_i h1
      have h1 : spnB x = true := by simpa using h1
      refine go_at (blk := b_Model_exchange_19) rfl ?_
      simp (disch := omega) only [b_Model_exchange_19, be_4, be_1, be_58_3, List.getD_cons_zero, List.getD_cons_succ, List.set_cons_zero, List.set_cons_succ, List.length_cons, List.length_nil, pk_I, pk_A, pr_A, pi_I, st_s, st_n, if_true, if_false, eq_self, d_if, d_ju, d_re, d_ca, cat0, cat1, cat2, cat3, fr_z, fr_s, cc_I, cc_A, cc_N, Nat.reduceAdd, Nat.reduceLT, Nat.reduceLeDiff, Nat.reduceEqDiff, not_true, not_false_iff, z1_0, z1_1, Bool.and_self, Bool.true_and, Bool.and_true, nI_add, pk_mul, nI_clamp, decide_true, Nat.le_refl, bI_eq, bI_z1]
      refine m_in ?_
      rw [in_two]
      refine go_at (blk := b_Model_exchange_25) rfl ?_
      simp (disch := omega) only [b_Model_exchange_25, be_50_1, List.getD_cons_zero, List.getD_cons_succ, List.set_cons_zero, List.set_cons_succ, List.length_cons, List.length_nil, pk_I, pk_A, pr_A, pi_I, st_s, st_n, if_true, if_false, eq_self, d_if, d_ju, d_re, d_ca, cat0, cat1, cat2, cat3, fr_z, fr_s, cc_I, cc_A, cc_N, Nat.reduceAdd, Nat.reduceLT, Nat.reduceLeDiff, Nat.reduceEqDiff, not_true, not_false_iff, z1_0, z1_1, Bool.and_self, Bool.true_and, Bool.and_true, nI_add, pk_mul, nI_clamp, decide_true, Nat.le_refl, bI_eq, bI_z1]
      split
      · rename_i h2
        have h2 : twoB z = true := by simpa using h2
        unfold xcA at hQ
        rw [if_pos (by rw [h0, h1, h2]; rfl)] at hQ
        obtain ⟨p, hp, rfl, ep⟩ := pil_of h8 h0
        rw [ep] at hQ
        obtain ⟨n, _, hn, rfl, en⟩ := spn_of h1
        rw [en] at hQ
        refine go_at (blk := b_Model_exchange_30) rfl ?_
        simp (disch := omega) only [b_Model_exchange_30, be_6, be_57_0, kc_388, List.getD_cons_zero, List.getD_cons_succ, List.set_cons_zero, List.set_cons_succ, List.length_cons, List.length_nil, pk_I, pk_A, pr_A, pi_I, st_s, st_n, if_true, if_false, eq_self, d_if, d_ju, d_re, d_ca, cat0, cat1, cat2, cat3, fr_z, fr_s, cc_I, cc_A, cc_N, Nat.reduceAdd, Nat.reduceLT, Nat.reduceLeDiff, Nat.reduceEqDiff, not_true, not_false_iff, z1_0, z1_1, Bool.and_self, Bool.true_and, Bool.and_true, nI_add, pk_mul, nI_clamp, decide_true, Nat.le_refl, bI_eq, bI_z1]
        refine rm_copies hM ?_
        intro v1 q1 r1
        refine go_at (blk := b_Model_exchange_34) rfl ?_
        simp (disch := omega) only [b_Model_exchange_34, be_6, be_4, be_57_1, kc_388, List.getD_cons_zero, List.getD_cons_succ, List.set_cons_zero, List.set_cons_succ, List.length_cons, List.length_nil, pk_I, pk_A, pr_A, pi_I, st_s, st_n, if_true, if_false, eq_self, d_if, d_ju, d_re, d_ca, cat0, cat1, cat2, cat3, fr_z, fr_s, cc_I, cc_A, cc_N, Nat.reduceAdd, Nat.reduceLT, Nat.reduceLeDiff, Nat.reduceEqDiff, not_true, not_false_iff, z1_0, z1_1, Bool.and_self, Bool.true_and, Bool.and_true, nI_add, pk_mul, nI_clamp, decide_true, Nat.le_refl, bI_eq, bI_z1]
        refine r_goes (k := n) (by omega) (MX_f hM.1 q1) r1 ?_
        intro v2 q2 r2
        have e2 : v2 419 p = itT T (-1) 0 n f p := by rw [r2.1]
        refine go_at (blk := b_Model_exchange_39) rfl ?_
        simp (disch := omega) only [b_Model_exchange_39, be_2, be_7, be_6, be_34, be_4, be_38, be_1, be_0, kc_388, rf_388_48, ka_419, List.getD_cons_zero, List.getD_cons_succ, List.set_cons_zero, List.set_cons_succ, List.length_cons, List.length_nil, pk_I, pk_A, pr_A, pi_I, st_s, st_n, if_true, if_false, eq_self, d_if, d_ju, d_re, d_ca, cat0, cat1, cat2, cat3, fr_z, fr_s, cc_I, cc_A, cc_N, Nat.reduceAdd, Nat.reduceLT, Nat.reduceLeDiff, Nat.reduceEqDiff, not_true, not_false_iff, z1_0, z1_1, Bool.and_self, Bool.true_and, Bool.and_true, nI_add, pk_mul, nI_clamp, decide_true, Nat.le_refl, bI_eq, bI_z1, e2]
        refine go_loopA (α := (Nat → Nat → Int32) × Value) (fun i x => ([.ref 388, .int (nI p), .int (nI n), .int z, .int (xcS T f p n i).1, .int (xcS T f p n i).2, .int (nI i), x.2], [], (428, 26053, KD, RF, x.1, w))) (fun i x => MF v x.1 ∧ am_cc x.2 = true) (tN T) ?_ ?_ (v2, .null) ⟨MF_t q1 q2, rfl⟩
        · intro i x hi ⟨x1, x3⟩ ih
          try dsimp only at *
          have hni : ¬ tN T ≤ i := by omega
          have hMx : MI B x.1 T lv f := MI_f hM x1
          obtain ⟨k18, hlv, k398, _⟩ := (MI_f hM x1).1.1
          have k418 : x.1 418 = f := (MI_f hM x1).2.1
          refine go_at (blk := b_Model_exchange_54) rfl ?_
          simp (disch := omega) only [b_Model_exchange_54, be_4, be_6, be_34, be_33, be_38, be_49_3, kc_388, rf_388_23, ka_398, List.getD_cons_zero, List.getD_cons_succ, List.set_cons_zero, List.set_cons_succ, List.length_cons, List.length_nil, pk_I, pk_A, pr_A, pi_I, st_s, st_n, if_true, if_false, eq_self, d_if, d_ju, d_re, d_ca, cat0, cat1, cat2, cat3, fr_z, fr_s, cc_I, cc_A, cc_N, Nat.reduceAdd, Nat.reduceLT, Nat.reduceLeDiff, Nat.reduceEqDiff, not_true, not_false_iff, z1_0, z1_1, Bool.and_self, Bool.true_and, Bool.and_true, nI_add, pk_mul, nI_clamp, decide_true, Nat.le_refl, bI_eq, bI_z1, nI_ltI, nI_leI, k18, k398, x3, hni]
          refine go_at (blk := b_Model_exchange_68) rfl ?_
          simp (disch := omega) only [b_Model_exchange_68, be_1, be_7, be_0, List.getD_cons_zero, List.getD_cons_succ, List.set_cons_zero, List.set_cons_succ, List.length_cons, List.length_nil, pk_I, pk_A, pr_A, pi_I, st_s, st_n, if_true, if_false, eq_self, d_if, d_ju, d_re, d_ca, cat0, cat1, cat2, cat3, fr_z, fr_s, cc_I, cc_A, cc_N, Nat.reduceAdd, Nat.reduceLT, Nat.reduceLeDiff, Nat.reduceEqDiff, not_true, not_false_iff, z1_0, z1_1, Bool.and_self, Bool.true_and, Bool.and_true, nI_add, pk_mul, nI_clamp, decide_true, Nat.le_refl, bI_eq, bI_z1, nI_ltI, nI_leI, k18, k398, x3, hni]
          refine go_loopA (α := (Nat → Nat → Int32)) (fun j y => ([.ref 388, .int (nI p), .int (nI n), .int z, .int (xcI T f p n i (xcS T f p n i) j).1, .int (xcI T f p n i (xcS T f p n i) j).2, .int (nI i), .int (nI j)], [], (428, 26053, KD, RF, y, w))) (fun j y => MF v y) (tN T) ?_ ?_ x.1 x1
          · intro j y hj y1 jh
            try dsimp only at *
            have hnj : ¬ tN T ≤ j := by omega
            have hMx : MI B y T lv f := MI_f hM y1
            obtain ⟨k18, hlv, k398, _⟩ := (MI_f hM y1).1.1
            have k418 : y 418 = f := (MI_f hM y1).2.1
            have g01 := (hM.2.2.2.1.1 j hj).1
            refine go_at (blk := b_Model_exchange_71) rfl ?_
            simp (disch := omega) only [b_Model_exchange_71, be_4, be_6, be_34, be_33, be_38, be_49_3, kc_388, rf_388_23, ka_398, List.getD_cons_zero, List.getD_cons_succ, List.set_cons_zero, List.set_cons_succ, List.length_cons, List.length_nil, pk_I, pk_A, pr_A, pi_I, st_s, st_n, if_true, if_false, eq_self, d_if, d_ju, d_re, d_ca, cat0, cat1, cat2, cat3, fr_z, fr_s, cc_I, cc_A, cc_N, Nat.reduceAdd, Nat.reduceLT, Nat.reduceLeDiff, Nat.reduceEqDiff, not_true, not_false_iff, z1_0, z1_1, Bool.and_self, Bool.true_and, Bool.and_true, nI_add, pk_mul, nI_clamp, decide_true, Nat.le_refl, bI_eq, bI_z1, nI_ltI, nI_leI, k18, k398, hnj]
            refine go_at (blk := b_Model_exchange_85) rfl ?_
            simp (disch := omega) only [b_Model_exchange_85, be_6, be_57_0, kc_388, List.getD_cons_zero, List.getD_cons_succ, List.set_cons_zero, List.set_cons_succ, List.length_cons, List.length_nil, pk_I, pk_A, pr_A, pi_I, st_s, st_n, if_true, if_false, eq_self, d_if, d_ju, d_re, d_ca, cat0, cat1, cat2, cat3, fr_z, fr_s, cc_I, cc_A, cc_N, Nat.reduceAdd, Nat.reduceLT, Nat.reduceLeDiff, Nat.reduceEqDiff, not_true, not_false_iff, z1_0, z1_1, Bool.and_self, Bool.true_and, Bool.and_true, nI_add, pk_mul, nI_clamp, decide_true, Nat.le_refl, bI_eq, bI_z1, nI_ltI, nI_leI, k18, k398, hnj]
            refine rm_copies hMx ?_
            intro v2 q2 r2
            have f2 := MF_t y1 q2
            have e2 : v2 419 = f := r2.1
            refine go_at (blk := b_Model_exchange_89) rfl ?_
            simp (disch := omega) only [b_Model_exchange_89, be_6, be_34, be_1, be_4, be_12, be_38, be_50_0, kc_388, rf_388_48, ka_419, List.getD_cons_zero, List.getD_cons_succ, List.set_cons_zero, List.set_cons_succ, List.length_cons, List.length_nil, pk_I, pk_A, pr_A, pi_I, st_s, st_n, if_true, if_false, eq_self, d_if, d_ju, d_re, d_ca, cat0, cat1, cat2, cat3, fr_z, fr_s, cc_I, cc_A, cc_N, Nat.reduceAdd, Nat.reduceLT, Nat.reduceLeDiff, Nat.reduceEqDiff, not_true, not_false_iff, z1_0, z1_1, Bool.and_self, Bool.true_and, Bool.and_true, nI_add, pk_mul, nI_clamp, decide_true, Nat.le_refl, bI_eq, bI_z1, nI_ltI, nI_leI, k18, k398, hnj, e2]
            split
            · rename_i ha
              refine go_at (blk := b_Model_exchange_187) rfl ?_
              simp (disch := omega) only [b_Model_exchange_187, be_10, be_51, List.getD_cons_zero, List.getD_cons_succ, List.set_cons_zero, List.set_cons_succ, List.length_cons, List.length_nil, pk_I, pk_A, pr_A, pi_I, st_s, st_n, if_true, if_false, eq_self, d_if, d_ju, d_re, d_ca, cat0, cat1, cat2, cat3, fr_z, fr_s, cc_I, cc_A, cc_N, Nat.reduceAdd, Nat.reduceLT, Nat.reduceLeDiff, Nat.reduceEqDiff, not_true, not_false_iff, z1_0, z1_1, Bool.and_self, Bool.true_and, Bool.and_true, nI_add, pk_mul, nI_clamp, decide_true, Nat.le_refl, bI_eq, bI_z1, nI_ltI, nI_leI, k18, k398, hnj, e2]
              have ha := ha
              simp only [xc_i (xc_0 (show (!decide (f (8 + i) = 0) && decide (f (8 + j) = 0) && mayB f (-1) (tS T) j) = false by rw [decide_eq_true ha]; rfl))] at jh
              exact jh v2 f2
            · rename_i ha
              refine go_at (blk := b_Model_exchange_102) rfl ?_
              simp (disch := omega) only [b_Model_exchange_102, be_6, be_34, be_1, be_4, be_12, be_38, be_49_0, kc_388, rf_388_48, ka_419, List.getD_cons_zero, List.getD_cons_succ, List.set_cons_zero, List.set_cons_succ, List.length_cons, List.length_nil, pk_I, pk_A, pr_A, pi_I, st_s, st_n, if_true, if_false, eq_self, d_if, d_ju, d_re, d_ca, cat0, cat1, cat2, cat3, fr_z, fr_s, cc_I, cc_A, cc_N, Nat.reduceAdd, Nat.reduceLT, Nat.reduceLeDiff, Nat.reduceEqDiff, not_true, not_false_iff, z1_0, z1_1, Bool.and_self, Bool.true_and, Bool.and_true, nI_add, pk_mul, nI_clamp, decide_true, Nat.le_refl, bI_eq, bI_z1, nI_ltI, nI_leI, k18, k398, hnj, e2]
              split
              · rename_i hb
                refine go_at (blk := b_Model_exchange_187) rfl ?_
                simp (disch := omega) only [b_Model_exchange_187, be_10, be_51, List.getD_cons_zero, List.getD_cons_succ, List.set_cons_zero, List.set_cons_succ, List.length_cons, List.length_nil, pk_I, pk_A, pr_A, pi_I, st_s, st_n, if_true, if_false, eq_self, d_if, d_ju, d_re, d_ca, cat0, cat1, cat2, cat3, fr_z, fr_s, cc_I, cc_A, cc_N, Nat.reduceAdd, Nat.reduceLT, Nat.reduceLeDiff, Nat.reduceEqDiff, not_true, not_false_iff, z1_0, z1_1, Bool.and_self, Bool.true_and, Bool.and_true, nI_add, pk_mul, nI_clamp, decide_true, Nat.le_refl, bI_eq, bI_z1, nI_ltI, nI_leI, k18, k398, hnj, e2]
                have hb : ¬ f (8 + j) = 0 := by rw [hb]; decide
                simp only [xc_i (xc_0 (show (!decide (f (8 + i) = 0) && decide (f (8 + j) = 0) && mayB f (-1) (tS T) j) = false by rw [decide_eq_false hb]; simp))] at jh
                exact jh v2 f2
              · rename_i hb
                have hb := g01.resolve_right hb
                refine go_at (blk := b_Model_exchange_116) rfl ?_
                simp (disch := omega) only [b_Model_exchange_116, be_6, be_4, be_57_1, kc_388, List.getD_cons_zero, List.getD_cons_succ, List.set_cons_zero, List.set_cons_succ, List.length_cons, List.length_nil, pk_I, pk_A, pr_A, pi_I, st_s, st_n, if_true, if_false, eq_self, d_if, d_ju, d_re, d_ca, cat0, cat1, cat2, cat3, fr_z, fr_s, cc_I, cc_A, cc_N, Nat.reduceAdd, Nat.reduceLT, Nat.reduceLeDiff, Nat.reduceEqDiff, not_true, not_false_iff, z1_0, z1_1, Bool.and_self, Bool.true_and, Bool.and_true, nI_add, pk_mul, nI_clamp, decide_true, Nat.le_refl, bI_eq, bI_z1, nI_ltI, nI_leI, k18, k398, hnj, e2]
                refine r_may (by omega) (MX_f hM.1 f2) r2 ?_
                refine go_at (blk := b_Model_exchange_122) rfl ?_
                simp (disch := omega) only [b_Model_exchange_122, be_50_1, List.getD_cons_zero, List.getD_cons_succ, List.set_cons_zero, List.set_cons_succ, List.length_cons, List.length_nil, pk_I, pk_A, pr_A, pi_I, st_s, st_n, if_true, if_false, eq_self, d_if, d_ju, d_re, d_ca, cat0, cat1, cat2, cat3, fr_z, fr_s, cc_I, cc_A, cc_N, Nat.reduceAdd, Nat.reduceLT, Nat.reduceLeDiff, Nat.reduceEqDiff, not_true, not_false_iff, z1_0, z1_1, Bool.and_self, Bool.true_and, Bool.and_true, nI_add, pk_mul, nI_clamp, decide_true, Nat.le_refl, bI_eq, bI_z1, nI_ltI, nI_leI, k18, k398, hnj, e2]
                split
                · rename_i hc
                  have hc : mayB f (-1) (tS T) j = true := by simpa using hc
                  have ok : (!decide (f (8 + i) = 0) && decide (f (8 + j) = 0) && mayB f (-1) (tS T) j) = true := by rw [decide_eq_false ha, decide_eq_true hb, hc]; rfl
                  have r3 : MR (am_u (am_u v2 419 (8 + i) (nI 0)) 419 (8 + j) (nI 1)) (upd (upd f (8 + i) 0) (8 + j) 1) (-1) 0 := MR_row (MR_row r2)
                  have f3 := MF_t f2 (MF_t (MF_row (k := 8 + i) (x := nI 0) (by omega)) (MF_row (k := 8 + j) (x := nI 1) (by omega)))
                  refine go_at (blk := b_Model_exchange_128) rfl ?_
                  simp (disch := omega) only [b_Model_exchange_128, be_6, be_34, be_1, be_4, be_12, be_43, be_57_1, kc_388, rf_388_48, ka_419, List.getD_cons_zero, List.getD_cons_succ, List.set_cons_zero, List.set_cons_succ, List.length_cons, List.length_nil, pk_I, pk_A, pr_A, pi_I, st_s, st_n, if_true, if_false, eq_self, d_if, d_ju, d_re, d_ca, cat0, cat1, cat2, cat3, fr_z, fr_s, cc_I, cc_A, cc_N, Nat.reduceAdd, Nat.reduceLT, Nat.reduceLeDiff, Nat.reduceEqDiff, not_true, not_false_iff, z1_0, z1_1, Bool.and_self, Bool.true_and, Bool.and_true, nI_add, pk_mul, nI_clamp, decide_true, Nat.le_refl, bI_eq, bI_z1, nI_ltI, nI_leI, k18, k398, hnj, e2]
                  refine r_goes (k := n) (by omega) (MX_f hM.1 f3) r3 ?_
                  intro v4 q4 r4
                  have f4 := MF_t f3 q4
                  have e4 : v4 419 p = swS T f p i j n := by rw [r4.1]; rfl
                  refine go_at (blk := b_Model_exchange_155) rfl ?_
                  simp (disch := omega) only [b_Model_exchange_155, be_6, be_34, be_4, be_38, be_49_4, kc_388, rf_388_48, ka_419, List.getD_cons_zero, List.getD_cons_succ, List.set_cons_zero, List.set_cons_succ, List.length_cons, List.length_nil, pk_I, pk_A, pr_A, pi_I, st_s, st_n, if_true, if_false, eq_self, d_if, d_ju, d_re, d_ca, cat0, cat1, cat2, cat3, fr_z, fr_s, cc_I, cc_A, cc_N, Nat.reduceAdd, Nat.reduceLT, Nat.reduceLeDiff, Nat.reduceEqDiff, not_true, not_false_iff, z1_0, z1_1, Bool.and_self, Bool.true_and, Bool.and_true, nI_add, pk_mul, nI_clamp, decide_true, Nat.le_refl, bI_eq, bI_z1, nI_ltI, nI_leI, k18, k398, hnj, e2, e4]
                  split
                  · rename_i hd
                    simp only [xc_i (xc_2 ok hd)] at jh
                    refine go_at (blk := b_Model_exchange_169) rfl ?_
                    simp (disch := omega) only [b_Model_exchange_169, be_1, be_4, be_14, be_12, be_7, be_6, be_34, be_38, be_0, kc_388, rf_388_48, ka_419, List.getD_cons_zero, List.getD_cons_succ, List.set_cons_zero, List.set_cons_succ, List.length_cons, List.length_nil, pk_I, pk_A, pr_A, pi_I, st_s, st_n, if_true, if_false, eq_self, d_if, d_ju, d_re, d_ca, cat0, cat1, cat2, cat3, fr_z, fr_s, cc_I, cc_A, cc_N, Nat.reduceAdd, Nat.reduceLT, Nat.reduceLeDiff, Nat.reduceEqDiff, not_true, not_false_iff, z1_0, z1_1, Bool.and_self, Bool.true_and, Bool.and_true, nI_add, pk_mul, nI_clamp, decide_true, Nat.le_refl, bI_eq, bI_z1, nI_ltI, nI_leI, k18, k398, hnj, e2, e4]
                    refine go_at (blk := b_Model_exchange_187) rfl ?_
                    simp (disch := omega) only [b_Model_exchange_187, be_10, be_51, List.getD_cons_zero, List.getD_cons_succ, List.set_cons_zero, List.set_cons_succ, List.length_cons, List.length_nil, pk_I, pk_A, pr_A, pi_I, st_s, st_n, if_true, if_false, eq_self, d_if, d_ju, d_re, d_ca, cat0, cat1, cat2, cat3, fr_z, fr_s, cc_I, cc_A, cc_N, Nat.reduceAdd, Nat.reduceLT, Nat.reduceLeDiff, Nat.reduceEqDiff, not_true, not_false_iff, z1_0, z1_1, Bool.and_self, Bool.true_and, Bool.and_true, nI_add, pk_mul, nI_clamp, decide_true, Nat.le_refl, bI_eq, bI_z1, nI_ltI, nI_leI, k18, k398, hnj, e2, e4]
                    exact jh v4 f4
                  · rename_i hd
                    simp only [xc_i (xc_1 ok hd)] at jh
                    refine go_at (blk := b_Model_exchange_166) rfl ?_
                    simp (disch := omega) only [b_Model_exchange_166, be_51, List.getD_cons_zero, List.getD_cons_succ, List.set_cons_zero, List.set_cons_succ, List.length_cons, List.length_nil, pk_I, pk_A, pr_A, pi_I, st_s, st_n, if_true, if_false, eq_self, d_if, d_ju, d_re, d_ca, cat0, cat1, cat2, cat3, fr_z, fr_s, cc_I, cc_A, cc_N, Nat.reduceAdd, Nat.reduceLT, Nat.reduceLeDiff, Nat.reduceEqDiff, not_true, not_false_iff, z1_0, z1_1, Bool.and_self, Bool.true_and, Bool.and_true, nI_add, pk_mul, nI_clamp, decide_true, Nat.le_refl, bI_eq, bI_z1, nI_ltI, nI_leI, k18, k398, hnj, e2, e4]
                    refine go_at (blk := b_Model_exchange_187) rfl ?_
                    simp (disch := omega) only [b_Model_exchange_187, be_10, be_51, List.getD_cons_zero, List.getD_cons_succ, List.set_cons_zero, List.set_cons_succ, List.length_cons, List.length_nil, pk_I, pk_A, pr_A, pi_I, st_s, st_n, if_true, if_false, eq_self, d_if, d_ju, d_re, d_ca, cat0, cat1, cat2, cat3, fr_z, fr_s, cc_I, cc_A, cc_N, Nat.reduceAdd, Nat.reduceLT, Nat.reduceLeDiff, Nat.reduceEqDiff, not_true, not_false_iff, z1_0, z1_1, Bool.and_self, Bool.true_and, Bool.and_true, nI_add, pk_mul, nI_clamp, decide_true, Nat.le_refl, bI_eq, bI_z1, nI_ltI, nI_leI, k18, k398, hnj, e2, e4]
                    exact jh v4 f4
                · rename_i hc
                  have hc : mayB f (-1) (tS T) j = false := by simpa using hc
                  refine go_at (blk := b_Model_exchange_125) rfl ?_
                  simp (disch := omega) only [b_Model_exchange_125, be_51, List.getD_cons_zero, List.getD_cons_succ, List.set_cons_zero, List.set_cons_succ, List.length_cons, List.length_nil, pk_I, pk_A, pr_A, pi_I, st_s, st_n, if_true, if_false, eq_self, d_if, d_ju, d_re, d_ca, cat0, cat1, cat2, cat3, fr_z, fr_s, cc_I, cc_A, cc_N, Nat.reduceAdd, Nat.reduceLT, Nat.reduceLeDiff, Nat.reduceEqDiff, not_true, not_false_iff, z1_0, z1_1, Bool.and_self, Bool.true_and, Bool.and_true, nI_add, pk_mul, nI_clamp, decide_true, Nat.le_refl, bI_eq, bI_z1, nI_ltI, nI_leI, k18, k398, hnj, e2]
                  refine go_at (blk := b_Model_exchange_187) rfl ?_
                  simp (disch := omega) only [b_Model_exchange_187, be_10, be_51, List.getD_cons_zero, List.getD_cons_succ, List.set_cons_zero, List.set_cons_succ, List.length_cons, List.length_nil, pk_I, pk_A, pr_A, pi_I, st_s, st_n, if_true, if_false, eq_self, d_if, d_ju, d_re, d_ca, cat0, cat1, cat2, cat3, fr_z, fr_s, cc_I, cc_A, cc_N, Nat.reduceAdd, Nat.reduceLT, Nat.reduceLeDiff, Nat.reduceEqDiff, not_true, not_false_iff, z1_0, z1_1, Bool.and_self, Bool.true_and, Bool.and_true, nI_add, pk_mul, nI_clamp, decide_true, Nat.le_refl, bI_eq, bI_z1, nI_ltI, nI_leI, k18, k398, hnj, e2]
                  simp only [xc_i (xc_0 (show (!decide (f (8 + i) = 0) && decide (f (8 + j) = 0) && mayB f (-1) (tS T) j) = false by rw [hc]; simp))] at jh
                  exact jh v2 f2
          · intro y y1
            try dsimp only at *
            have hMx : MI B y T lv f := MI_f hM y1
            obtain ⟨k18, hlv, k398, _⟩ := (MI_f hM y1).1.1
            have k418 : y 418 = f := (MI_f hM y1).2.1
            refine go_at (blk := b_Model_exchange_71) rfl ?_
            simp (disch := omega) only [b_Model_exchange_71, be_4, be_6, be_34, be_33, be_38, be_49_3, kc_388, rf_388_23, ka_398, List.getD_cons_zero, List.getD_cons_succ, List.set_cons_zero, List.set_cons_succ, List.length_cons, List.length_nil, pk_I, pk_A, pr_A, pi_I, st_s, st_n, if_true, if_false, eq_self, d_if, d_ju, d_re, d_ca, cat0, cat1, cat2, cat3, fr_z, fr_s, cc_I, cc_A, cc_N, Nat.reduceAdd, Nat.reduceLT, Nat.reduceLeDiff, Nat.reduceEqDiff, not_true, not_false_iff, z1_0, z1_1, Bool.and_self, Bool.true_and, Bool.and_true, nI_add, pk_mul, nI_clamp, decide_true, Nat.le_refl, bI_eq, bI_z1, nI_ltI, nI_leI, k18, k398]
            refine go_at (blk := b_Model_exchange_193) rfl ?_
            simp (disch := omega) only [b_Model_exchange_193, be_10, be_51, List.getD_cons_zero, List.getD_cons_succ, List.set_cons_zero, List.set_cons_succ, List.length_cons, List.length_nil, pk_I, pk_A, pr_A, pi_I, st_s, st_n, if_true, if_false, eq_self, d_if, d_ju, d_re, d_ca, cat0, cat1, cat2, cat3, fr_z, fr_s, cc_I, cc_A, cc_N, Nat.reduceAdd, Nat.reduceLT, Nat.reduceLeDiff, Nat.reduceEqDiff, not_true, not_false_iff, z1_0, z1_1, Bool.and_self, Bool.true_and, Bool.and_true, nI_add, pk_mul, nI_clamp, decide_true, Nat.le_refl, bI_eq, bI_z1, nI_ltI, nI_leI, k18, k398]
            exact ih (y, .int _) ⟨y1, rfl⟩
        · intro x ⟨x1, x3⟩
          try dsimp only at *
          have hMx : MI B x.1 T lv f := MI_f hM x1
          obtain ⟨k18, hlv, k398, _⟩ := (MI_f hM x1).1.1
          have k418 : x.1 418 = f := (MI_f hM x1).2.1
          refine go_at (blk := b_Model_exchange_54) rfl ?_
          simp (disch := omega) only [b_Model_exchange_54, be_4, be_6, be_34, be_33, be_38, be_49_3, kc_388, rf_388_23, ka_398, List.getD_cons_zero, List.getD_cons_succ, List.set_cons_zero, List.set_cons_succ, List.length_cons, List.length_nil, pk_I, pk_A, pr_A, pi_I, st_s, st_n, if_true, if_false, eq_self, d_if, d_ju, d_re, d_ca, cat0, cat1, cat2, cat3, fr_z, fr_s, cc_I, cc_A, cc_N, Nat.reduceAdd, Nat.reduceLT, Nat.reduceLeDiff, Nat.reduceEqDiff, not_true, not_false_iff, z1_0, z1_1, Bool.and_self, Bool.true_and, Bool.and_true, nI_add, pk_mul, nI_clamp, decide_true, Nat.le_refl, bI_eq, bI_z1, nI_ltI, nI_leI, k18, k398]
          refine go_at (blk := b_Model_exchange_199) rfl ?_
          simp (disch := omega) only [b_Model_exchange_199, be_4, be_50_2, List.getD_cons_zero, List.getD_cons_succ, List.set_cons_zero, List.set_cons_succ, List.length_cons, List.length_nil, pk_I, pk_A, pr_A, pi_I, st_s, st_n, if_true, if_false, eq_self, d_if, d_ju, d_re, d_ca, cat0, cat1, cat2, cat3, fr_z, fr_s, cc_I, cc_A, cc_N, Nat.reduceAdd, Nat.reduceLT, Nat.reduceLeDiff, Nat.reduceEqDiff, not_true, not_false_iff, z1_0, z1_1, Bool.and_self, Bool.true_and, Bool.and_true, nI_add, pk_mul, nI_clamp, decide_true, Nat.le_refl, bI_eq, bI_z1, nI_ltI, nI_leI, k18, k398]
          split
          · rename_i hv
            rw [if_pos (Or.inl (n2_of (xc_ok h8 (tN T) h8) hv))] at hQ
            refine go_at (blk := b_Model_exchange_208) rfl ?_
            simp (disch := omega) only [b_Model_exchange_208, be_4, be_51, List.getD_cons_zero, List.getD_cons_succ, List.set_cons_zero, List.set_cons_succ, List.length_cons, List.length_nil, pk_I, pk_A, pr_A, pi_I, st_s, st_n, if_true, if_false, eq_self, d_if, d_ju, d_re, d_ca, cat0, cat1, cat2, cat3, fr_z, fr_s, cc_I, cc_A, cc_N, Nat.reduceAdd, Nat.reduceLT, Nat.reduceLeDiff, Nat.reduceEqDiff, not_true, not_false_iff, z1_0, z1_1, Bool.and_self, Bool.true_and, Bool.and_true, nI_add, pk_mul, nI_clamp, decide_true, Nat.le_refl, bI_eq, bI_z1, nI_ltI, nI_leI, k18, k398]
            refine go_at (blk := b_Model_exchange_215) rfl ?_
            simp (disch := omega) only [b_Model_exchange_215, be_54, List.getD_cons_zero, List.getD_cons_succ, List.set_cons_zero, List.set_cons_succ, List.length_cons, List.length_nil, pk_I, pk_A, pr_A, pi_I, st_s, st_n, if_true, if_false, eq_self, d_if, d_ju, d_re, d_ca, cat0, cat1, cat2, cat3, fr_z, fr_s, cc_I, cc_A, cc_N, Nat.reduceAdd, Nat.reduceLT, Nat.reduceLeDiff, Nat.reduceEqDiff, not_true, not_false_iff, z1_0, z1_1, Bool.and_self, Bool.true_and, Bool.and_true, nI_add, pk_mul, nI_clamp, decide_true, Nat.le_refl, bI_eq, bI_z1, nI_ltI, nI_leI, k18, k398]
            exact hQ x.1 x1
          · rename_i hv
            refine go_at (blk := b_Model_exchange_204) rfl ?_
            simp (disch := omega) only [b_Model_exchange_204, be_4, be_50_1, List.getD_cons_zero, List.getD_cons_succ, List.set_cons_zero, List.set_cons_succ, List.length_cons, List.length_nil, pk_I, pk_A, pr_A, pi_I, st_s, st_n, if_true, if_false, eq_self, d_if, d_ju, d_re, d_ca, cat0, cat1, cat2, cat3, fr_z, fr_s, cc_I, cc_A, cc_N, Nat.reduceAdd, Nat.reduceLT, Nat.reduceLeDiff, Nat.reduceEqDiff, not_true, not_false_iff, z1_0, z1_1, Bool.and_self, Bool.true_and, Bool.and_true, nI_add, pk_mul, nI_clamp, decide_true, Nat.le_refl, bI_eq, bI_z1, nI_ltI, nI_leI, k18, k398]
            split
            · rename_i hw
              rw [if_neg (fun z => z.elim (n2_no hv) hw)] at hQ
              refine go_at (blk := b_Model_exchange_213) rfl ?_
              simp (disch := omega) only [b_Model_exchange_213, be_4, be_0, List.getD_cons_zero, List.getD_cons_succ, List.set_cons_zero, List.set_cons_succ, List.length_cons, List.length_nil, pk_I, pk_A, pr_A, pi_I, st_s, st_n, if_true, if_false, eq_self, d_if, d_ju, d_re, d_ca, cat0, cat1, cat2, cat3, fr_z, fr_s, cc_I, cc_A, cc_N, Nat.reduceAdd, Nat.reduceLT, Nat.reduceLeDiff, Nat.reduceEqDiff, not_true, not_false_iff, z1_0, z1_1, Bool.and_self, Bool.true_and, Bool.and_true, nI_add, pk_mul, nI_clamp, decide_true, Nat.le_refl, bI_eq, bI_z1, nI_ltI, nI_leI, k18, k398]
              refine go_at (blk := b_Model_exchange_215) rfl ?_
              simp (disch := omega) only [b_Model_exchange_215, be_54, List.getD_cons_zero, List.getD_cons_succ, List.set_cons_zero, List.set_cons_succ, List.length_cons, List.length_nil, pk_I, pk_A, pr_A, pi_I, st_s, st_n, if_true, if_false, eq_self, d_if, d_ju, d_re, d_ca, cat0, cat1, cat2, cat3, fr_z, fr_s, cc_I, cc_A, cc_N, Nat.reduceAdd, Nat.reduceLT, Nat.reduceLeDiff, Nat.reduceEqDiff, not_true, not_false_iff, z1_0, z1_1, Bool.and_self, Bool.true_and, Bool.and_true, nI_add, pk_mul, nI_clamp, decide_true, Nat.le_refl, bI_eq, bI_z1, nI_ltI, nI_leI, k18, k398]
              exact hQ x.1 x1
            · rename_i hw
              rw [if_pos (Or.inr (Decidable.not_not.mp hw))] at hQ
              refine go_at (blk := b_Model_exchange_208) rfl ?_
              simp (disch := omega) only [b_Model_exchange_208, be_4, be_51, List.getD_cons_zero, List.getD_cons_succ, List.set_cons_zero, List.set_cons_succ, List.length_cons, List.length_nil, pk_I, pk_A, pr_A, pi_I, st_s, st_n, if_true, if_false, eq_self, d_if, d_ju, d_re, d_ca, cat0, cat1, cat2, cat3, fr_z, fr_s, cc_I, cc_A, cc_N, Nat.reduceAdd, Nat.reduceLT, Nat.reduceLeDiff, Nat.reduceEqDiff, not_true, not_false_iff, z1_0, z1_1, Bool.and_self, Bool.true_and, Bool.and_true, nI_add, pk_mul, nI_clamp, decide_true, Nat.le_refl, bI_eq, bI_z1, nI_ltI, nI_leI, k18, k398]
              refine go_at (blk := b_Model_exchange_215) rfl ?_
              simp (disch := omega) only [b_Model_exchange_215, be_54, List.getD_cons_zero, List.getD_cons_succ, List.set_cons_zero, List.set_cons_succ, List.length_cons, List.length_nil, pk_I, pk_A, pr_A, pi_I, st_s, st_n, if_true, if_false, eq_self, d_if, d_ju, d_re, d_ca, cat0, cat1, cat2, cat3, fr_z, fr_s, cc_I, cc_A, cc_N, Nat.reduceAdd, Nat.reduceLT, Nat.reduceLeDiff, Nat.reduceEqDiff, not_true, not_false_iff, z1_0, z1_1, Bool.and_self, Bool.true_and, Bool.and_true, nI_add, pk_mul, nI_clamp, decide_true, Nat.le_refl, bI_eq, bI_z1, nI_ltI, nI_leI, k18, k398]
              exact hQ x.1 x1
      · rename_i h2
        have h2 : twoB z = false := by simpa using h2
        refine go_at (blk := b_Model_exchange_28) rfl ?_
        simp (disch := omega) only [b_Model_exchange_28, be_2, be_54, List.getD_cons_zero, List.getD_cons_succ, List.set_cons_zero, List.set_cons_succ, List.length_cons, List.length_nil, pk_I, pk_A, pr_A, pi_I, st_s, st_n, if_true, if_false, eq_self, d_if, d_ju, d_re, d_ca, cat0, cat1, cat2, cat3, fr_z, fr_s, cc_I, cc_A, cc_N, Nat.reduceAdd, Nat.reduceLT, Nat.reduceLeDiff, Nat.reduceEqDiff, not_true, not_false_iff, z1_0, z1_1, Bool.and_self, Bool.true_and, Bool.and_true, nI_add, pk_mul, nI_clamp, decide_true, Nat.le_refl, bI_eq, bI_z1]
        unfold xcA at hQ
        rw [if_neg (by rw [h2]; simp)] at hQ
        exact hQ v MF_r
