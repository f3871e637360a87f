/-! laid by wip/whole/m6.py: the reference: what a LAW tells -/
theorem ev_len {cd vl x : Nat → Int32} : ∀ (k c h' : Nat) (st l : List Int32), htS cd vl k c st.length = some h' → evS cd vl x k c st = some l → l.length = h' := by
  intro k
  induction k with
  | zero =>
    intro c h' st l hh he
    cases hh
    cases he
    rfl
  | succ k ih =>
    intro c h' st l hh he
    unfold htS at hh
    unfold evS at he
    by_cases h0 : cd c = nI 0
    · rw [if_pos h0] at hh he
      exact ih _ _ _ _ hh he
    · rw [if_neg h0] at hh he
      by_cases h1 : cd c = nI 1
      · rw [if_pos h1] at he
        split at hh
        · exact ih _ _ _ _ hh he
        · exfalso
          rw [h1] at hh
          split at hh
          · rename_i z
            rcases z.1 with z | z | z | z <;> exact absurd z (by decide)
          · cases hh
      · rw [if_neg h1] at he
        rw [if_neg (fun z => h1 z.1)] at hh
        split at hh
        · match st, hh, he with
          | [], hh, he => cases he
          | [_], hh, he => cases he
          | y :: z :: st, hh, he =>
            dsimp only at he
            split at he
            · cases he
            · refine ih (c + 1) h' _ l ?_ he
              exact hh
        · cases hh
theorem tm_some {cd vl x : Nat → Int32} {a b : Nat} {z : Int32} (h : sgW cd vl a b) (e : evS cd vl x (b - a) a [] = some [z]) : tmS cd vl x a b = some z := by
  unfold tmS
  rw [e]
  rfl
theorem tm_none {cd vl x : Nat → Int32} {a b : Nat} (e : evS cd vl x (b - a) a [] = none) : tmS cd vl x a b = none := by
  unfold tmS
  rw [e]
  rfl
theorem m_termOf {d : Nat} {v : Nat → Nat → Int32} {f x g : Nat → Int32} {b : Int32} {w : Nat → Nat → Int64} {Q : Option Value → am_H → Prop} {a e : Nat} (hs : sgW (v 413) (v 414) a e) (hq0 : tmS (v 413) (v 414) x a e = none → ∀ g', Q (some (.int (nI 0))) (428, 26053, KD, RF, mS v f x (g') (nI 1), w)) (hq1 : ∀ z, tmS (v 413) (v 414) x a e = some z → ∀ g', Q (some (.int z)) (428, 26053, KD, RF, mS v f x (g') b, w)) : am_Ca (d + 1) M_Model_termOf [.ref 388, .int (nI a), .int (nI e)] (428, 26053, KD, RF, mS v f x g b, w) Q := by
  refine ca_in (k := k_Model_termOf) (nL := 8) rfl (Nat.le_of_ble_eq_true rfl) ?_
  show am_Go am_X0 _ k_Model_termOf 0 ([.ref 388, .int (nI a), .int (nI e), .null, .null, .null, .null, .null], [], _) _
  refine go_at (blk := b_Model_termOf_0) rfl ?_
  simp (disch := omega) only [b_Model_termOf_0, be_1, be_7, be_4, be_0, List.getD_cons_zero, List.getD_cons_succ, List.set_cons_zero, List.set_cons_succ, List.length_cons, List.length_nil, pk_I, pk_A, pr_A, pi_I, st_s, st_n, if_true, if_false, eq_self, d_if, d_ju, d_re, d_ca, cat0, cat1, cat2, cat3, fr_z, fr_s, cc_I, cc_A, cc_N, Nat.reduceAdd, Nat.reduceLT, Nat.reduceLeDiff, Nat.reduceEqDiff, not_true, not_false_iff, z1_0, z1_1, Bool.and_self, Bool.true_and, Bool.and_true, nI_add, pk_mul, nI_clamp, decide_true, Nat.le_refl, bI_eq, bI_z1, mS_419, mS_416, mS_417, mS_46, mS_388, mS_o, mS_u419, mS_u416, mS_u417, mS_u46, mS_u388, mS_uo]
  exact m_termOf_loop hs.2.1 (e - a) a [] g .null .null .null (by have := hs.1; omega) (by have := hs.2.2.1; simp; omega) hs.2.2.2 trivial (fun h => hq0 (tm_none h)) (fun z h => hq1 z (tm_some hs h))
theorem nI1_0 : (nI 1 = 0) ↔ False := by decide
set_option maxHeartbeats 2000000 in
theorem m_tells_loop {d : Nat} {v : Nat → Nat → Int32} {f x : Nat → Int32} {w : Nat → Nat → Int64} {Q : Option Value → am_H → Prop} {z at_ : Nat} {k0 plain lo hi : Int32} (hat : at_ < 4) (hz : z ≤ 260) (h407 : v 407 at_ = nI z) : ∀ (k b0 : Nat) (g : Nat → Int32) (u7 u8 : Value), b0 + k = z → (∀ c, b0 ≤ c → c < z → bnW v c z) → am_cc u7 = true → (∀ g' b', Q (some (.int (((brS (v 408) (v 409) (v 410) (v 411) (v 412) (v 413) (v 414) x k b0)).elim 0 (clS lo hi)))) (428, 26053, KD, RF, mS v f x (g') (b'), w)) → am_Go am_X0 (d + 1) k_Model_tells 63 ([.ref 388, .int k0, .int plain, .int lo, .int hi, .int (nI at_), .int (nI b0), u7, u8], [], (428, 26053, KD, RF, mS v f x g (nI 0), w)) Q := by
  intro k
  induction k with
  | zero =>
    intro b0 g u7 u8 hb hw hu hq
    have hb : b0 = z := by omega
    subst hb
    refine go_at (blk := b_Model_tells_63) rfl ?_
    simp (disch := omega) only [b_Model_tells_63, be_4, be_6, be_34, be_38, be_49_3, kc_388, rf_388_32, ka_407, List.getD_cons_zero, List.getD_cons_succ, List.set_cons_zero, List.set_cons_succ, List.length_cons, List.length_nil, pk_I, pk_A, pr_A, pi_I, st_s, st_n, if_true, if_false, eq_self, d_if, d_ju, d_re, d_ca, cat0, cat1, cat2, cat3, fr_z, fr_s, cc_I, cc_A, cc_N, Nat.reduceAdd, Nat.reduceLT, Nat.reduceLeDiff, Nat.reduceEqDiff, not_true, not_false_iff, z1_0, z1_1, Bool.and_self, Bool.true_and, Bool.and_true, nI_add, pk_mul, nI_clamp, decide_true, Nat.le_refl, bI_eq, bI_z1, mS_419, mS_416, mS_417, mS_46, mS_388, mS_o, mS_u419, mS_u416, mS_u417, mS_u46, mS_u388, mS_uo, nI_leI, nI_e0, nI_z, h407]
    refine go_at (blk := b_Model_tells_206) rfl ?_
    simp (disch := omega) only [b_Model_tells_206, be_1, be_54, List.getD_cons_zero, List.getD_cons_succ, List.set_cons_zero, List.set_cons_succ, List.length_cons, List.length_nil, pk_I, pk_A, pr_A, pi_I, st_s, st_n, if_true, if_false, eq_self, d_if, d_ju, d_re, d_ca, cat0, cat1, cat2, cat3, fr_z, fr_s, cc_I, cc_A, cc_N, Nat.reduceAdd, Nat.reduceLT, Nat.reduceLeDiff, Nat.reduceEqDiff, not_true, not_false_iff, z1_0, z1_1, Bool.and_self, Bool.true_and, Bool.and_true, nI_add, pk_mul, nI_clamp, decide_true, Nat.le_refl, bI_eq, bI_z1, mS_419, mS_416, mS_417, mS_46, mS_388, mS_o, mS_u419, mS_u416, mS_u417, mS_u46, mS_u388, mS_uo, nI_leI, nI_e0, nI_z, h407]
    exact hq _ _
  | succ k ih =>
    intro b0 g u7 u8 hb hw hu hq
    have hni : ¬ z ≤ b0 := by omega
    have hb4 : b0 < 260 := by omega
    obtain ⟨f1, m1, t1, e1, h411, h412, sT, hts, hlast, htest⟩ := hw b0 (Nat.le_refl _) (by omega)
    have c1 : t1 ≤ 840 := Nat.le_trans sT.1 sT.2.1
    have c2 : e1 ≤ 840 := sT.2.1
    unfold brS at hq
    rw [h411, h412, cl840 c1, cl840 c2] at hq
    rcases hts with h408 | h408
    · rw [if_pos h408] at hq
      refine go_at (blk := b_Model_tells_63) rfl ?_
      simp (disch := omega) only [b_Model_tells_63, be_4, be_6, be_34, be_38, be_49_3, kc_388, rf_388_32, ka_407, List.getD_cons_zero, List.getD_cons_succ, List.set_cons_zero, List.set_cons_succ, List.length_cons, List.length_nil, pk_I, pk_A, pr_A, pi_I, st_s, st_n, if_true, if_false, eq_self, d_if, d_ju, d_re, d_ca, cat0, cat1, cat2, cat3, fr_z, fr_s, cc_I, cc_A, cc_N, Nat.reduceAdd, Nat.reduceLT, Nat.reduceLeDiff, Nat.reduceEqDiff, not_true, not_false_iff, z1_0, z1_1, Bool.and_self, Bool.true_and, Bool.and_true, nI_add, pk_mul, nI_clamp, decide_true, Nat.le_refl, bI_eq, bI_z1, mS_419, mS_416, mS_417, mS_46, mS_388, mS_o, mS_u419, mS_u416, mS_u417, mS_u46, mS_u388, mS_uo, nI_leI, nI_e0, nI_z, h407, hni, h408, h411, h412, hu]
      refine go_at (blk := b_Model_tells_75) rfl ?_
      simp (disch := omega) only [b_Model_tells_75, be_6, be_34, be_4, be_40, be_50_0, kc_388, rf_388_34, ka_408, List.getD_cons_zero, List.getD_cons_succ, List.set_cons_zero, List.set_cons_succ, List.length_cons, List.length_nil, pk_I, pk_A, pr_A, pi_I, st_s, st_n, if_true, if_false, eq_self, d_if, d_ju, d_re, d_ca, cat0, cat1, cat2, cat3, fr_z, fr_s, cc_I, cc_A, cc_N, Nat.reduceAdd, Nat.reduceLT, Nat.reduceLeDiff, Nat.reduceEqDiff, not_true, not_false_iff, z1_0, z1_1, Bool.and_self, Bool.true_and, Bool.and_true, nI_add, pk_mul, nI_clamp, decide_true, Nat.le_refl, bI_eq, bI_z1, mS_419, mS_416, mS_417, mS_46, mS_388, mS_o, mS_u419, mS_u416, mS_u417, mS_u46, mS_u388, mS_uo, nI_leI, nI_e0, nI_z, h407, hni, h408, h411, h412, hu]
      refine go_at (blk := b_Model_tells_144) rfl ?_
      simp (disch := omega) only [b_Model_tells_144, be_6, be_34, be_4, be_38, be_57_2, kc_388, rf_388_37, ka_411, rf_388_38, ka_412, List.getD_cons_zero, List.getD_cons_succ, List.set_cons_zero, List.set_cons_succ, List.length_cons, List.length_nil, pk_I, pk_A, pr_A, pi_I, st_s, st_n, if_true, if_false, eq_self, d_if, d_ju, d_re, d_ca, cat0, cat1, cat2, cat3, fr_z, fr_s, cc_I, cc_A, cc_N, Nat.reduceAdd, Nat.reduceLT, Nat.reduceLeDiff, Nat.reduceEqDiff, not_true, not_false_iff, z1_0, z1_1, Bool.and_self, Bool.true_and, Bool.and_true, nI_add, pk_mul, nI_clamp, decide_true, Nat.le_refl, bI_eq, bI_z1, mS_419, mS_416, mS_417, mS_46, mS_388, mS_o, mS_u419, mS_u416, mS_u417, mS_u46, mS_u388, mS_uo, nI_leI, nI_e0, nI_z, h407, hni, h408, h411, h412, hu]
      refine m_termOf sT (fun hn g' => ?_) (fun y hy g' => ?_)
      · rw [hn] at hq
        refine go_at (blk := b_Model_tells_162) rfl ?_
        simp (disch := omega) only [b_Model_tells_162, be_7, be_6, be_33, be_50_0, kc_388, List.getD_cons_zero, List.getD_cons_succ, List.set_cons_zero, List.set_cons_succ, List.length_cons, List.length_nil, pk_I, pk_A, pr_A, pi_I, st_s, st_n, if_true, if_false, eq_self, d_if, d_ju, d_re, d_ca, cat0, cat1, cat2, cat3, fr_z, fr_s, cc_I, cc_A, cc_N, Nat.reduceAdd, Nat.reduceLT, Nat.reduceLeDiff, Nat.reduceEqDiff, not_true, not_false_iff, z1_0, z1_1, Bool.and_self, Bool.true_and, Bool.and_true, nI_add, pk_mul, nI_clamp, decide_true, Nat.le_refl, bI_eq, bI_z1, mS_419, mS_416, mS_417, mS_46, mS_388, mS_o, mS_u419, mS_u416, mS_u417, mS_u46, mS_u388, mS_uo, nI_leI, nI_e0, nI_z, h407, hni, h408, h411, h412, hu, nI1_0]
        refine go_at (blk := b_Model_tells_171) rfl ?_
        simp (disch := omega) only [b_Model_tells_171, be_1, be_51, List.getD_cons_zero, List.getD_cons_succ, List.set_cons_zero, List.set_cons_succ, List.length_cons, List.length_nil, pk_I, pk_A, pr_A, pi_I, st_s, st_n, if_true, if_false, eq_self, d_if, d_ju, d_re, d_ca, cat0, cat1, cat2, cat3, fr_z, fr_s, cc_I, cc_A, cc_N, Nat.reduceAdd, Nat.reduceLT, Nat.reduceLeDiff, Nat.reduceEqDiff, not_true, not_false_iff, z1_0, z1_1, Bool.and_self, Bool.true_and, Bool.and_true, nI_add, pk_mul, nI_clamp, decide_true, Nat.le_refl, bI_eq, bI_z1, mS_419, mS_416, mS_417, mS_46, mS_388, mS_o, mS_u419, mS_u416, mS_u417, mS_u46, mS_u388, mS_uo, nI_leI, nI_e0, nI_z, h407, hni, h408, h411, h412, hu, nI1_0]
        refine go_at (blk := b_Model_tells_199) rfl ?_
        simp (disch := omega) only [b_Model_tells_199, be_54, List.getD_cons_zero, List.getD_cons_succ, List.set_cons_zero, List.set_cons_succ, List.length_cons, List.length_nil, pk_I, pk_A, pr_A, pi_I, st_s, st_n, if_true, if_false, eq_self, d_if, d_ju, d_re, d_ca, cat0, cat1, cat2, cat3, fr_z, fr_s, cc_I, cc_A, cc_N, Nat.reduceAdd, Nat.reduceLT, Nat.reduceLeDiff, Nat.reduceEqDiff, not_true, not_false_iff, z1_0, z1_1, Bool.and_self, Bool.true_and, Bool.and_true, nI_add, pk_mul, nI_clamp, decide_true, Nat.le_refl, bI_eq, bI_z1, mS_419, mS_416, mS_417, mS_46, mS_388, mS_o, mS_u419, mS_u416, mS_u417, mS_u46, mS_u388, mS_uo, nI_leI, nI_e0, nI_z, h407, hni, h408, h411, h412, hu, nI1_0]
        exact hq _ _
      · rw [hy] at hq
        have hq : ∀ g' b', Q (some (.int (clS lo hi y))) (428, 26053, KD, RF, mS v f x (g') (b'), w) := hq
        refine go_at (blk := b_Model_tells_162) rfl ?_
        simp (disch := omega) only [b_Model_tells_162, be_7, be_6, be_33, be_50_0, kc_388, List.getD_cons_zero, List.getD_cons_succ, List.set_cons_zero, List.set_cons_succ, List.length_cons, List.length_nil, pk_I, pk_A, pr_A, pi_I, st_s, st_n, if_true, if_false, eq_self, d_if, d_ju, d_re, d_ca, cat0, cat1, cat2, cat3, fr_z, fr_s, cc_I, cc_A, cc_N, Nat.reduceAdd, Nat.reduceLT, Nat.reduceLeDiff, Nat.reduceEqDiff, not_true, not_false_iff, z1_0, z1_1, Bool.and_self, Bool.true_and, Bool.and_true, nI_add, pk_mul, nI_clamp, decide_true, Nat.le_refl, bI_eq, bI_z1, mS_419, mS_416, mS_417, mS_46, mS_388, mS_o, mS_u419, mS_u416, mS_u417, mS_u46, mS_u388, mS_uo, nI_leI, nI_e0, nI_z, h407, hni, h408, h411, h412, hu]
        refine go_at (blk := b_Model_tells_175) rfl ?_
        simp (disch := omega) only [b_Model_tells_175, be_4, be_49_3, List.getD_cons_zero, List.getD_cons_succ, List.set_cons_zero, List.set_cons_succ, List.length_cons, List.length_nil, pk_I, pk_A, pr_A, pi_I, st_s, st_n, if_true, if_false, eq_self, d_if, d_ju, d_re, d_ca, cat0, cat1, cat2, cat3, fr_z, fr_s, cc_I, cc_A, cc_N, Nat.reduceAdd, Nat.reduceLT, Nat.reduceLeDiff, Nat.reduceEqDiff, not_true, not_false_iff, z1_0, z1_1, Bool.and_self, Bool.true_and, Bool.and_true, nI_add, pk_mul, nI_clamp, decide_true, Nat.le_refl, bI_eq, bI_z1, mS_419, mS_416, mS_417, mS_46, mS_388, mS_o, mS_u419, mS_u416, mS_u417, mS_u46, mS_u388, mS_uo, nI_leI, nI_e0, nI_z, h407, hni, h408, h411, h412, hu]
        split
        · rename_i hc1
          refine go_at (blk := b_Model_tells_185) rfl ?_
          simp (disch := omega) only [b_Model_tells_185, be_4, be_49_5, List.getD_cons_zero, List.getD_cons_succ, List.set_cons_zero, List.set_cons_succ, List.length_cons, List.length_nil, pk_I, pk_A, pr_A, pi_I, st_s, st_n, if_true, if_false, eq_self, d_if, d_ju, d_re, d_ca, cat0, cat1, cat2, cat3, fr_z, fr_s, cc_I, cc_A, cc_N, Nat.reduceAdd, Nat.reduceLT, Nat.reduceLeDiff, Nat.reduceEqDiff, not_true, not_false_iff, z1_0, z1_1, Bool.and_self, Bool.true_and, Bool.and_true, nI_add, pk_mul, nI_clamp, decide_true, Nat.le_refl, bI_eq, bI_z1, mS_419, mS_416, mS_417, mS_46, mS_388, mS_o, mS_u419, mS_u416, mS_u417, mS_u46, mS_u388, mS_uo, nI_leI, nI_e0, nI_z, h407, hni, h408, h411, h412, hu]
          split
          · rename_i hc2
            refine go_at (blk := b_Model_tells_197) rfl ?_
            simp (disch := omega) only [b_Model_tells_197, be_4, be_0, List.getD_cons_zero, List.getD_cons_succ, List.set_cons_zero, List.set_cons_succ, List.length_cons, List.length_nil, pk_I, pk_A, pr_A, pi_I, st_s, st_n, if_true, if_false, eq_self, d_if, d_ju, d_re, d_ca, cat0, cat1, cat2, cat3, fr_z, fr_s, cc_I, cc_A, cc_N, Nat.reduceAdd, Nat.reduceLT, Nat.reduceLeDiff, Nat.reduceEqDiff, not_true, not_false_iff, z1_0, z1_1, Bool.and_self, Bool.true_and, Bool.and_true, nI_add, pk_mul, nI_clamp, decide_true, Nat.le_refl, bI_eq, bI_z1, mS_419, mS_416, mS_417, mS_46, mS_388, mS_o, mS_u419, mS_u416, mS_u417, mS_u46, mS_u388, mS_uo, nI_leI, nI_e0, nI_z, h407, hni, h408, h411, h412, hu]
            refine go_at (blk := b_Model_tells_199) rfl ?_
            simp (disch := omega) only [b_Model_tells_199, be_54, List.getD_cons_zero, List.getD_cons_succ, List.set_cons_zero, List.set_cons_succ, List.length_cons, List.length_nil, pk_I, pk_A, pr_A, pi_I, st_s, st_n, if_true, if_false, eq_self, d_if, d_ju, d_re, d_ca, cat0, cat1, cat2, cat3, fr_z, fr_s, cc_I, cc_A, cc_N, Nat.reduceAdd, Nat.reduceLT, Nat.reduceLeDiff, Nat.reduceEqDiff, not_true, not_false_iff, z1_0, z1_1, Bool.and_self, Bool.true_and, Bool.and_true, nI_add, pk_mul, nI_clamp, decide_true, Nat.le_refl, bI_eq, bI_z1, mS_419, mS_416, mS_417, mS_46, mS_388, mS_o, mS_u419, mS_u416, mS_u417, mS_u46, mS_u388, mS_uo, nI_leI, nI_e0, nI_z, h407, hni, h408, h411, h412, hu]
            rw [show clS lo hi y = y by simp [clS, Int32.not_lt.mpr hc1, Int32.not_lt.mpr hc2]] at hq
            exact hq _ _
          · rename_i hc2
            refine go_at (blk := b_Model_tells_192) rfl ?_
            simp (disch := omega) only [b_Model_tells_192, be_4, be_51, List.getD_cons_zero, List.getD_cons_succ, List.set_cons_zero, List.set_cons_succ, List.length_cons, List.length_nil, pk_I, pk_A, pr_A, pi_I, st_s, st_n, if_true, if_false, eq_self, d_if, d_ju, d_re, d_ca, cat0, cat1, cat2, cat3, fr_z, fr_s, cc_I, cc_A, cc_N, Nat.reduceAdd, Nat.reduceLT, Nat.reduceLeDiff, Nat.reduceEqDiff, not_true, not_false_iff, z1_0, z1_1, Bool.and_self, Bool.true_and, Bool.and_true, nI_add, pk_mul, nI_clamp, decide_true, Nat.le_refl, bI_eq, bI_z1, mS_419, mS_416, mS_417, mS_46, mS_388, mS_o, mS_u419, mS_u416, mS_u417, mS_u46, mS_u388, mS_uo, nI_leI, nI_e0, nI_z, h407, hni, h408, h411, h412, hu]
            refine go_at (blk := b_Model_tells_199) rfl ?_
            simp (disch := omega) only [b_Model_tells_199, be_54, List.getD_cons_zero, List.getD_cons_succ, List.set_cons_zero, List.set_cons_succ, List.length_cons, List.length_nil, pk_I, pk_A, pr_A, pi_I, st_s, st_n, if_true, if_false, eq_self, d_if, d_ju, d_re, d_ca, cat0, cat1, cat2, cat3, fr_z, fr_s, cc_I, cc_A, cc_N, Nat.reduceAdd, Nat.reduceLT, Nat.reduceLeDiff, Nat.reduceEqDiff, not_true, not_false_iff, z1_0, z1_1, Bool.and_self, Bool.true_and, Bool.and_true, nI_add, pk_mul, nI_clamp, decide_true, Nat.le_refl, bI_eq, bI_z1, mS_419, mS_416, mS_417, mS_46, mS_388, mS_o, mS_u419, mS_u416, mS_u417, mS_u46, mS_u388, mS_uo, nI_leI, nI_e0, nI_z, h407, hni, h408, h411, h412, hu]
            rw [show clS lo hi y = hi by simp [clS, Int32.not_lt.mpr hc1, Int32.not_le.mp hc2]] at hq
            exact hq _ _
        · rename_i hc1
          refine go_at (blk := b_Model_tells_181) rfl ?_
          simp (disch := omega) only [b_Model_tells_181, be_4, be_51, List.getD_cons_zero, List.getD_cons_succ, List.set_cons_zero, List.set_cons_succ, List.length_cons, List.length_nil, pk_I, pk_A, pr_A, pi_I, st_s, st_n, if_true, if_false, eq_self, d_if, d_ju, d_re, d_ca, cat0, cat1, cat2, cat3, fr_z, fr_s, cc_I, cc_A, cc_N, Nat.reduceAdd, Nat.reduceLT, Nat.reduceLeDiff, Nat.reduceEqDiff, not_true, not_false_iff, z1_0, z1_1, Bool.and_self, Bool.true_and, Bool.and_true, nI_add, pk_mul, nI_clamp, decide_true, Nat.le_refl, bI_eq, bI_z1, mS_419, mS_416, mS_417, mS_46, mS_388, mS_o, mS_u419, mS_u416, mS_u417, mS_u46, mS_u388, mS_uo, nI_leI, nI_e0, nI_z, h407, hni, h408, h411, h412, hu]
          refine go_at (blk := b_Model_tells_199) rfl ?_
          simp (disch := omega) only [b_Model_tells_199, be_54, List.getD_cons_zero, List.getD_cons_succ, List.set_cons_zero, List.set_cons_succ, List.length_cons, List.length_nil, pk_I, pk_A, pr_A, pi_I, st_s, st_n, if_true, if_false, eq_self, d_if, d_ju, d_re, d_ca, cat0, cat1, cat2, cat3, fr_z, fr_s, cc_I, cc_A, cc_N, Nat.reduceAdd, Nat.reduceLT, Nat.reduceLeDiff, Nat.reduceEqDiff, not_true, not_false_iff, z1_0, z1_1, Bool.and_self, Bool.true_and, Bool.and_true, nI_add, pk_mul, nI_clamp, decide_true, Nat.le_refl, bI_eq, bI_z1, mS_419, mS_416, mS_417, mS_46, mS_388, mS_o, mS_u419, mS_u416, mS_u417, mS_u46, mS_u388, mS_uo, nI_leI, nI_e0, nI_z, h407, hni, h408, h411, h412, hu]
          rw [show clS lo hi y = lo by simp [clS, Int32.not_le.mp hc1]] at hq
          exact hq _ _
    · have h7 : ¬ v 408 b0 = nI 0 := by rw [h408]; decide
      rw [if_neg h7] at hq
      obtain ⟨h409, h410, sF, sM⟩ := htest h408
      have c3 : f1 ≤ 840 := Nat.le_trans sF.1 sF.2.1
      have c4 : m1 ≤ 840 := sF.2.1
      rw [h409, h410, cl840 c3, cl840 c4] at hq
      refine go_at (blk := b_Model_tells_63) rfl ?_
      simp (disch := omega) only [b_Model_tells_63, be_4, be_6, be_34, be_38, be_49_3, kc_388, rf_388_32, ka_407, List.getD_cons_zero, List.getD_cons_succ, List.set_cons_zero, List.set_cons_succ, List.length_cons, List.length_nil, pk_I, pk_A, pr_A, pi_I, st_s, st_n, if_true, if_false, eq_self, d_if, d_ju, d_re, d_ca, cat0, cat1, cat2, cat3, fr_z, fr_s, cc_I, cc_A, cc_N, Nat.reduceAdd, Nat.reduceLT, Nat.reduceLeDiff, Nat.reduceEqDiff, not_true, not_false_iff, z1_0, z1_1, Bool.and_self, Bool.true_and, Bool.and_true, nI_add, pk_mul, nI_clamp, decide_true, Nat.le_refl, bI_eq, bI_z1, mS_419, mS_416, mS_417, mS_46, mS_388, mS_o, mS_u419, mS_u416, mS_u417, mS_u46, mS_u388, mS_uo, nI_leI, nI_e0, nI_z, h407, hni, h408, h411, h412, hu, h409, h410, nI1_0]
      refine go_at (blk := b_Model_tells_75) rfl ?_
      simp (disch := omega) only [b_Model_tells_75, be_6, be_34, be_4, be_40, be_50_0, kc_388, rf_388_34, ka_408, List.getD_cons_zero, List.getD_cons_succ, List.set_cons_zero, List.set_cons_succ, List.length_cons, List.length_nil, pk_I, pk_A, pr_A, pi_I, st_s, st_n, if_true, if_false, eq_self, d_if, d_ju, d_re, d_ca, cat0, cat1, cat2, cat3, fr_z, fr_s, cc_I, cc_A, cc_N, Nat.reduceAdd, Nat.reduceLT, Nat.reduceLeDiff, Nat.reduceEqDiff, not_true, not_false_iff, z1_0, z1_1, Bool.and_self, Bool.true_and, Bool.and_true, nI_add, pk_mul, nI_clamp, decide_true, Nat.le_refl, bI_eq, bI_z1, mS_419, mS_416, mS_417, mS_46, mS_388, mS_o, mS_u419, mS_u416, mS_u417, mS_u46, mS_u388, mS_uo, nI_leI, nI_e0, nI_z, h407, hni, h408, h411, h412, hu, h409, h410, nI1_0]
      refine go_at (blk := b_Model_tells_85) rfl ?_
      simp (disch := omega) only [b_Model_tells_85, be_6, be_34, be_4, be_38, be_57_2, kc_388, rf_388_35, ka_409, rf_388_36, ka_410, List.getD_cons_zero, List.getD_cons_succ, List.set_cons_zero, List.set_cons_succ, List.length_cons, List.length_nil, pk_I, pk_A, pr_A, pi_I, st_s, st_n, if_true, if_false, eq_self, d_if, d_ju, d_re, d_ca, cat0, cat1, cat2, cat3, fr_z, fr_s, cc_I, cc_A, cc_N, Nat.reduceAdd, Nat.reduceLT, Nat.reduceLeDiff, Nat.reduceEqDiff, not_true, not_false_iff, z1_0, z1_1, Bool.and_self, Bool.true_and, Bool.and_true, nI_add, pk_mul, nI_clamp, decide_true, Nat.le_refl, bI_eq, bI_z1, mS_419, mS_416, mS_417, mS_46, mS_388, mS_o, mS_u419, mS_u416, mS_u417, mS_u46, mS_u388, mS_uo, nI_leI, nI_e0, nI_z, h407, hni, h408, h411, h412, hu, h409, h410, nI1_0]
      refine m_termOf sF (fun hn g' => ?_) (fun y hy g' => ?_)
      · rw [hn] at hq
        refine go_at (blk := b_Model_tells_103) rfl ?_
        simp (disch := omega) only [b_Model_tells_103, be_7, be_6, be_34, be_4, be_38, be_57_2, kc_388, rf_388_36, ka_410, rf_388_37, ka_411, List.getD_cons_zero, List.getD_cons_succ, List.set_cons_zero, List.set_cons_succ, List.length_cons, List.length_nil, pk_I, pk_A, pr_A, pi_I, st_s, st_n, if_true, if_false, eq_self, d_if, d_ju, d_re, d_ca, cat0, cat1, cat2, cat3, fr_z, fr_s, cc_I, cc_A, cc_N, Nat.reduceAdd, Nat.reduceLT, Nat.reduceLeDiff, Nat.reduceEqDiff, not_true, not_false_iff, z1_0, z1_1, Bool.and_self, Bool.true_and, Bool.and_true, nI_add, pk_mul, nI_clamp, decide_true, Nat.le_refl, bI_eq, bI_z1, mS_419, mS_416, mS_417, mS_46, mS_388, mS_o, mS_u419, mS_u416, mS_u417, mS_u46, mS_u388, mS_uo, nI_leI, nI_e0, nI_z, h407, hni, h408, h411, h412, hu, h409, h410, nI1_0]
        refine m_termOf sM (fun hn2 g2 => ?_) (fun y2 hy2 g2 => ?_)
        · refine go_at (blk := b_Model_tells_123) rfl ?_
          simp (disch := omega) only [b_Model_tells_123, be_7, be_6, be_33, be_50_0, kc_388, List.getD_cons_zero, List.getD_cons_succ, List.set_cons_zero, List.set_cons_succ, List.length_cons, List.length_nil, pk_I, pk_A, pr_A, pi_I, st_s, st_n, if_true, if_false, eq_self, d_if, d_ju, d_re, d_ca, cat0, cat1, cat2, cat3, fr_z, fr_s, cc_I, cc_A, cc_N, Nat.reduceAdd, Nat.reduceLT, Nat.reduceLeDiff, Nat.reduceEqDiff, not_true, not_false_iff, z1_0, z1_1, Bool.and_self, Bool.true_and, Bool.and_true, nI_add, pk_mul, nI_clamp, decide_true, Nat.le_refl, bI_eq, bI_z1, mS_419, mS_416, mS_417, mS_46, mS_388, mS_o, mS_u419, mS_u416, mS_u417, mS_u46, mS_u388, mS_uo, nI_leI, nI_e0, nI_z, h407, hni, h408, h411, h412, hu, h409, h410, nI1_0]
          refine go_at (blk := b_Model_tells_132) rfl ?_
          simp (disch := omega) only [b_Model_tells_132, be_1, be_54, List.getD_cons_zero, List.getD_cons_succ, List.set_cons_zero, List.set_cons_succ, List.length_cons, List.length_nil, pk_I, pk_A, pr_A, pi_I, st_s, st_n, if_true, if_false, eq_self, d_if, d_ju, d_re, d_ca, cat0, cat1, cat2, cat3, fr_z, fr_s, cc_I, cc_A, cc_N, Nat.reduceAdd, Nat.reduceLT, Nat.reduceLeDiff, Nat.reduceEqDiff, not_true, not_false_iff, z1_0, z1_1, Bool.and_self, Bool.true_and, Bool.and_true, nI_add, pk_mul, nI_clamp, decide_true, Nat.le_refl, bI_eq, bI_z1, mS_419, mS_416, mS_417, mS_46, mS_388, mS_o, mS_u419, mS_u416, mS_u417, mS_u46, mS_u388, mS_uo, nI_leI, nI_e0, nI_z, h407, hni, h408, h411, h412, hu, h409, h410, nI1_0]
          exact hq _ _
        · refine go_at (blk := b_Model_tells_123) rfl ?_
          simp (disch := omega) only [b_Model_tells_123, be_7, be_6, be_33, be_50_0, kc_388, List.getD_cons_zero, List.getD_cons_succ, List.set_cons_zero, List.set_cons_succ, List.length_cons, List.length_nil, pk_I, pk_A, pr_A, pi_I, st_s, st_n, if_true, if_false, eq_self, d_if, d_ju, d_re, d_ca, cat0, cat1, cat2, cat3, fr_z, fr_s, cc_I, cc_A, cc_N, Nat.reduceAdd, Nat.reduceLT, Nat.reduceLeDiff, Nat.reduceEqDiff, not_true, not_false_iff, z1_0, z1_1, Bool.and_self, Bool.true_and, Bool.and_true, nI_add, pk_mul, nI_clamp, decide_true, Nat.le_refl, bI_eq, bI_z1, mS_419, mS_416, mS_417, mS_46, mS_388, mS_o, mS_u419, mS_u416, mS_u417, mS_u46, mS_u388, mS_uo, nI_leI, nI_e0, nI_z, h407, hni, h408, h411, h412, hu, h409, h410, nI1_0]
          refine go_at (blk := b_Model_tells_132) rfl ?_
          simp (disch := omega) only [b_Model_tells_132, be_1, be_54, List.getD_cons_zero, List.getD_cons_succ, List.set_cons_zero, List.set_cons_succ, List.length_cons, List.length_nil, pk_I, pk_A, pr_A, pi_I, st_s, st_n, if_true, if_false, eq_self, d_if, d_ju, d_re, d_ca, cat0, cat1, cat2, cat3, fr_z, fr_s, cc_I, cc_A, cc_N, Nat.reduceAdd, Nat.reduceLT, Nat.reduceLeDiff, Nat.reduceEqDiff, not_true, not_false_iff, z1_0, z1_1, Bool.and_self, Bool.true_and, Bool.and_true, nI_add, pk_mul, nI_clamp, decide_true, Nat.le_refl, bI_eq, bI_z1, mS_419, mS_416, mS_417, mS_46, mS_388, mS_o, mS_u419, mS_u416, mS_u417, mS_u46, mS_u388, mS_uo, nI_leI, nI_e0, nI_z, h407, hni, h408, h411, h412, hu, h409, h410, nI1_0]
          exact hq _ _
      · rw [hy] at hq
        refine go_at (blk := b_Model_tells_103) rfl ?_
        simp (disch := omega) only [b_Model_tells_103, be_7, be_6, be_34, be_4, be_38, be_57_2, kc_388, rf_388_36, ka_410, rf_388_37, ka_411, List.getD_cons_zero, List.getD_cons_succ, List.set_cons_zero, List.set_cons_succ, List.length_cons, List.length_nil, pk_I, pk_A, pr_A, pi_I, st_s, st_n, if_true, if_false, eq_self, d_if, d_ju, d_re, d_ca, cat0, cat1, cat2, cat3, fr_z, fr_s, cc_I, cc_A, cc_N, Nat.reduceAdd, Nat.reduceLT, Nat.reduceLeDiff, Nat.reduceEqDiff, not_true, not_false_iff, z1_0, z1_1, Bool.and_self, Bool.true_and, Bool.and_true, nI_add, pk_mul, nI_clamp, decide_true, Nat.le_refl, bI_eq, bI_z1, mS_419, mS_416, mS_417, mS_46, mS_388, mS_o, mS_u419, mS_u416, mS_u417, mS_u46, mS_u388, mS_uo, nI_leI, nI_e0, nI_z, h407, hni, h408, h411, h412, hu, h409, h410, nI1_0]
        refine m_termOf sM (fun hn2 g2 => ?_) (fun y2 hy2 g2 => ?_)
        · rw [hn2] at hq
          refine go_at (blk := b_Model_tells_123) rfl ?_
          simp (disch := omega) only [b_Model_tells_123, be_7, be_6, be_33, be_50_0, kc_388, List.getD_cons_zero, List.getD_cons_succ, List.set_cons_zero, List.set_cons_succ, List.length_cons, List.length_nil, pk_I, pk_A, pr_A, pi_I, st_s, st_n, if_true, if_false, eq_self, d_if, d_ju, d_re, d_ca, cat0, cat1, cat2, cat3, fr_z, fr_s, cc_I, cc_A, cc_N, Nat.reduceAdd, Nat.reduceLT, Nat.reduceLeDiff, Nat.reduceEqDiff, not_true, not_false_iff, z1_0, z1_1, Bool.and_self, Bool.true_and, Bool.and_true, nI_add, pk_mul, nI_clamp, decide_true, Nat.le_refl, bI_eq, bI_z1, mS_419, mS_416, mS_417, mS_46, mS_388, mS_o, mS_u419, mS_u416, mS_u417, mS_u46, mS_u388, mS_uo, nI_leI, nI_e0, nI_z, h407, hni, h408, h411, h412, hu, h409, h410, nI1_0]
          refine go_at (blk := b_Model_tells_132) rfl ?_
          simp (disch := omega) only [b_Model_tells_132, be_1, be_54, List.getD_cons_zero, List.getD_cons_succ, List.set_cons_zero, List.set_cons_succ, List.length_cons, List.length_nil, pk_I, pk_A, pr_A, pi_I, st_s, st_n, if_true, if_false, eq_self, d_if, d_ju, d_re, d_ca, cat0, cat1, cat2, cat3, fr_z, fr_s, cc_I, cc_A, cc_N, Nat.reduceAdd, Nat.reduceLT, Nat.reduceLeDiff, Nat.reduceEqDiff, not_true, not_false_iff, z1_0, z1_1, Bool.and_self, Bool.true_and, Bool.and_true, nI_add, pk_mul, nI_clamp, decide_true, Nat.le_refl, bI_eq, bI_z1, mS_419, mS_416, mS_417, mS_46, mS_388, mS_o, mS_u419, mS_u416, mS_u417, mS_u46, mS_u388, mS_uo, nI_leI, nI_e0, nI_z, h407, hni, h408, h411, h412, hu, h409, h410, nI1_0]
          exact hq _ _
        · rw [hy2] at hq
          rw [show ((some y : Option Int32).bind fun u => (some y2).bind fun y => if y ≤ u then brS (v 408) (v 409) (v 410) (v 411) (v 412) (v 413) (v 414) x k (b0 + 1) else tmS (v 413) (v 414) x t1 e1) = if y2 ≤ y then brS (v 408) (v 409) (v 410) (v 411) (v 412) (v 413) (v 414) x k (b0 + 1) else tmS (v 413) (v 414) x t1 e1 from rfl] at hq
          refine go_at (blk := b_Model_tells_123) rfl ?_
          simp (disch := omega) only [b_Model_tells_123, be_7, be_6, be_33, be_50_0, kc_388, List.getD_cons_zero, List.getD_cons_succ, List.set_cons_zero, List.set_cons_succ, List.length_cons, List.length_nil, pk_I, pk_A, pr_A, pi_I, st_s, st_n, if_true, if_false, eq_self, d_if, d_ju, d_re, d_ca, cat0, cat1, cat2, cat3, fr_z, fr_s, cc_I, cc_A, cc_N, Nat.reduceAdd, Nat.reduceLT, Nat.reduceLeDiff, Nat.reduceEqDiff, not_true, not_false_iff, z1_0, z1_1, Bool.and_self, Bool.true_and, Bool.and_true, nI_add, pk_mul, nI_clamp, decide_true, Nat.le_refl, bI_eq, bI_z1, mS_419, mS_416, mS_417, mS_46, mS_388, mS_o, mS_u419, mS_u416, mS_u417, mS_u46, mS_u388, mS_uo, nI_leI, nI_e0, nI_z, h407, hni, h408, h411, h412, hu, h409, h410, nI1_0]
          refine go_at (blk := b_Model_tells_134) rfl ?_
          simp (disch := omega) only [b_Model_tells_134, be_4, be_49_2, List.getD_cons_zero, List.getD_cons_succ, List.set_cons_zero, List.set_cons_succ, List.length_cons, List.length_nil, pk_I, pk_A, pr_A, pi_I, st_s, st_n, if_true, if_false, eq_self, d_if, d_ju, d_re, d_ca, cat0, cat1, cat2, cat3, fr_z, fr_s, cc_I, cc_A, cc_N, Nat.reduceAdd, Nat.reduceLT, Nat.reduceLeDiff, Nat.reduceEqDiff, not_true, not_false_iff, z1_0, z1_1, Bool.and_self, Bool.true_and, Bool.and_true, nI_add, pk_mul, nI_clamp, decide_true, Nat.le_refl, bI_eq, bI_z1, mS_419, mS_416, mS_417, mS_46, mS_388, mS_o, mS_u419, mS_u416, mS_u417, mS_u46, mS_u388, mS_uo, nI_leI, nI_e0, nI_z, h407, hni, h408, h411, h412, hu, h409, h410, nI1_0]
          split
          · rename_i hlt
            rw [if_neg (Int32.not_le.mpr hlt)] at hq
            refine go_at (blk := b_Model_tells_144) rfl ?_
            simp (disch := omega) only [b_Model_tells_144, be_6, be_34, be_4, be_38, be_57_2, kc_388, rf_388_37, ka_411, rf_388_38, ka_412, List.getD_cons_zero, List.getD_cons_succ, List.set_cons_zero, List.set_cons_succ, List.length_cons, List.length_nil, pk_I, pk_A, pr_A, pi_I, st_s, st_n, if_true, if_false, eq_self, d_if, d_ju, d_re, d_ca, cat0, cat1, cat2, cat3, fr_z, fr_s, cc_I, cc_A, cc_N, Nat.reduceAdd, Nat.reduceLT, Nat.reduceLeDiff, Nat.reduceEqDiff, not_true, not_false_iff, z1_0, z1_1, Bool.and_self, Bool.true_and, Bool.and_true, nI_add, pk_mul, nI_clamp, decide_true, Nat.le_refl, bI_eq, bI_z1, mS_419, mS_416, mS_417, mS_46, mS_388, mS_o, mS_u419, mS_u416, mS_u417, mS_u46, mS_u388, mS_uo, nI_leI, nI_e0, nI_z, h407, hni, h408, h411, h412, hu, h409, h410, nI1_0]
            refine m_termOf sT (fun hn g' => ?_) (fun y hy g' => ?_)
            · rw [hn] at hq
              refine go_at (blk := b_Model_tells_162) rfl ?_
              simp (disch := omega) only [b_Model_tells_162, be_7, be_6, be_33, be_50_0, kc_388, List.getD_cons_zero, List.getD_cons_succ, List.set_cons_zero, List.set_cons_succ, List.length_cons, List.length_nil, pk_I, pk_A, pr_A, pi_I, st_s, st_n, if_true, if_false, eq_self, d_if, d_ju, d_re, d_ca, cat0, cat1, cat2, cat3, fr_z, fr_s, cc_I, cc_A, cc_N, Nat.reduceAdd, Nat.reduceLT, Nat.reduceLeDiff, Nat.reduceEqDiff, not_true, not_false_iff, z1_0, z1_1, Bool.and_self, Bool.true_and, Bool.and_true, nI_add, pk_mul, nI_clamp, decide_true, Nat.le_refl, bI_eq, bI_z1, mS_419, mS_416, mS_417, mS_46, mS_388, mS_o, mS_u419, mS_u416, mS_u417, mS_u46, mS_u388, mS_uo, nI_leI, nI_e0, nI_z, h407, hni, h408, h411, h412, hu, h409, h410, nI1_0]
              refine go_at (blk := b_Model_tells_171) rfl ?_
              simp (disch := omega) only [b_Model_tells_171, be_1, be_51, List.getD_cons_zero, List.getD_cons_succ, List.set_cons_zero, List.set_cons_succ, List.length_cons, List.length_nil, pk_I, pk_A, pr_A, pi_I, st_s, st_n, if_true, if_false, eq_self, d_if, d_ju, d_re, d_ca, cat0, cat1, cat2, cat3, fr_z, fr_s, cc_I, cc_A, cc_N, Nat.reduceAdd, Nat.reduceLT, Nat.reduceLeDiff, Nat.reduceEqDiff, not_true, not_false_iff, z1_0, z1_1, Bool.and_self, Bool.true_and, Bool.and_true, nI_add, pk_mul, nI_clamp, decide_true, Nat.le_refl, bI_eq, bI_z1, mS_419, mS_416, mS_417, mS_46, mS_388, mS_o, mS_u419, mS_u416, mS_u417, mS_u46, mS_u388, mS_uo, nI_leI, nI_e0, nI_z, h407, hni, h408, h411, h412, hu, h409, h410, nI1_0]
              refine go_at (blk := b_Model_tells_199) rfl ?_
              simp (disch := omega) only [b_Model_tells_199, be_54, List.getD_cons_zero, List.getD_cons_succ, List.set_cons_zero, List.set_cons_succ, List.length_cons, List.length_nil, pk_I, pk_A, pr_A, pi_I, st_s, st_n, if_true, if_false, eq_self, d_if, d_ju, d_re, d_ca, cat0, cat1, cat2, cat3, fr_z, fr_s, cc_I, cc_A, cc_N, Nat.reduceAdd, Nat.reduceLT, Nat.reduceLeDiff, Nat.reduceEqDiff, not_true, not_false_iff, z1_0, z1_1, Bool.and_self, Bool.true_and, Bool.and_true, nI_add, pk_mul, nI_clamp, decide_true, Nat.le_refl, bI_eq, bI_z1, mS_419, mS_416, mS_417, mS_46, mS_388, mS_o, mS_u419, mS_u416, mS_u417, mS_u46, mS_u388, mS_uo, nI_leI, nI_e0, nI_z, h407, hni, h408, h411, h412, hu, h409, h410, nI1_0]
              exact hq _ _
            · rw [hy] at hq
              have hq : ∀ g' b', Q (some (.int (clS lo hi y))) (428, 26053, KD, RF, mS v f x (g') (b'), w) := hq
              refine go_at (blk := b_Model_tells_162) rfl ?_
              simp (disch := omega) only [b_Model_tells_162, be_7, be_6, be_33, be_50_0, kc_388, List.getD_cons_zero, List.getD_cons_succ, List.set_cons_zero, List.set_cons_succ, List.length_cons, List.length_nil, pk_I, pk_A, pr_A, pi_I, st_s, st_n, if_true, if_false, eq_self, d_if, d_ju, d_re, d_ca, cat0, cat1, cat2, cat3, fr_z, fr_s, cc_I, cc_A, cc_N, Nat.reduceAdd, Nat.reduceLT, Nat.reduceLeDiff, Nat.reduceEqDiff, not_true, not_false_iff, z1_0, z1_1, Bool.and_self, Bool.true_and, Bool.and_true, nI_add, pk_mul, nI_clamp, decide_true, Nat.le_refl, bI_eq, bI_z1, mS_419, mS_416, mS_417, mS_46, mS_388, mS_o, mS_u419, mS_u416, mS_u417, mS_u46, mS_u388, mS_uo, nI_leI, nI_e0, nI_z, h407, hni, h408, h411, h412, hu, h409, h410, nI1_0]
              refine go_at (blk := b_Model_tells_175) rfl ?_
              simp (disch := omega) only [b_Model_tells_175, be_4, be_49_3, List.getD_cons_zero, List.getD_cons_succ, List.set_cons_zero, List.set_cons_succ, List.length_cons, List.length_nil, pk_I, pk_A, pr_A, pi_I, st_s, st_n, if_true, if_false, eq_self, d_if, d_ju, d_re, d_ca, cat0, cat1, cat2, cat3, fr_z, fr_s, cc_I, cc_A, cc_N, Nat.reduceAdd, Nat.reduceLT, Nat.reduceLeDiff, Nat.reduceEqDiff, not_true, not_false_iff, z1_0, z1_1, Bool.and_self, Bool.true_and, Bool.and_true, nI_add, pk_mul, nI_clamp, decide_true, Nat.le_refl, bI_eq, bI_z1, mS_419, mS_416, mS_417, mS_46, mS_388, mS_o, mS_u419, mS_u416, mS_u417, mS_u46, mS_u388, mS_uo, nI_leI, nI_e0, nI_z, h407, hni, h408, h411, h412, hu, h409, h410, nI1_0]
              split
              · rename_i hc1
                refine go_at (blk := b_Model_tells_185) rfl ?_
                simp (disch := omega) only [b_Model_tells_185, be_4, be_49_5, List.getD_cons_zero, List.getD_cons_succ, List.set_cons_zero, List.set_cons_succ, List.length_cons, List.length_nil, pk_I, pk_A, pr_A, pi_I, st_s, st_n, if_true, if_false, eq_self, d_if, d_ju, d_re, d_ca, cat0, cat1, cat2, cat3, fr_z, fr_s, cc_I, cc_A, cc_N, Nat.reduceAdd, Nat.reduceLT, Nat.reduceLeDiff, Nat.reduceEqDiff, not_true, not_false_iff, z1_0, z1_1, Bool.and_self, Bool.true_and, Bool.and_true, nI_add, pk_mul, nI_clamp, decide_true, Nat.le_refl, bI_eq, bI_z1, mS_419, mS_416, mS_417, mS_46, mS_388, mS_o, mS_u419, mS_u416, mS_u417, mS_u46, mS_u388, mS_uo, nI_leI, nI_e0, nI_z, h407, hni, h408, h411, h412, hu, h409, h410, nI1_0]
                split
                · rename_i hc2
                  refine go_at (blk := b_Model_tells_197) rfl ?_
                  simp (disch := omega) only [b_Model_tells_197, be_4, be_0, List.getD_cons_zero, List.getD_cons_succ, List.set_cons_zero, List.set_cons_succ, List.length_cons, List.length_nil, pk_I, pk_A, pr_A, pi_I, st_s, st_n, if_true, if_false, eq_self, d_if, d_ju, d_re, d_ca, cat0, cat1, cat2, cat3, fr_z, fr_s, cc_I, cc_A, cc_N, Nat.reduceAdd, Nat.reduceLT, Nat.reduceLeDiff, Nat.reduceEqDiff, not_true, not_false_iff, z1_0, z1_1, Bool.and_self, Bool.true_and, Bool.and_true, nI_add, pk_mul, nI_clamp, decide_true, Nat.le_refl, bI_eq, bI_z1, mS_419, mS_416, mS_417, mS_46, mS_388, mS_o, mS_u419, mS_u416, mS_u417, mS_u46, mS_u388, mS_uo, nI_leI, nI_e0, nI_z, h407, hni, h408, h411, h412, hu, h409, h410, nI1_0]
                  refine go_at (blk := b_Model_tells_199) rfl ?_
                  simp (disch := omega) only [b_Model_tells_199, be_54, List.getD_cons_zero, List.getD_cons_succ, List.set_cons_zero, List.set_cons_succ, List.length_cons, List.length_nil, pk_I, pk_A, pr_A, pi_I, st_s, st_n, if_true, if_false, eq_self, d_if, d_ju, d_re, d_ca, cat0, cat1, cat2, cat3, fr_z, fr_s, cc_I, cc_A, cc_N, Nat.reduceAdd, Nat.reduceLT, Nat.reduceLeDiff, Nat.reduceEqDiff, not_true, not_false_iff, z1_0, z1_1, Bool.and_self, Bool.true_and, Bool.and_true, nI_add, pk_mul, nI_clamp, decide_true, Nat.le_refl, bI_eq, bI_z1, mS_419, mS_416, mS_417, mS_46, mS_388, mS_o, mS_u419, mS_u416, mS_u417, mS_u46, mS_u388, mS_uo, nI_leI, nI_e0, nI_z, h407, hni, h408, h411, h412, hu, h409, h410, nI1_0]
                  rw [show clS lo hi y = y by simp [clS, Int32.not_lt.mpr hc1, Int32.not_lt.mpr hc2]] at hq
                  exact hq _ _
                · rename_i hc2
                  refine go_at (blk := b_Model_tells_192) rfl ?_
                  simp (disch := omega) only [b_Model_tells_192, be_4, be_51, List.getD_cons_zero, List.getD_cons_succ, List.set_cons_zero, List.set_cons_succ, List.length_cons, List.length_nil, pk_I, pk_A, pr_A, pi_I, st_s, st_n, if_true, if_false, eq_self, d_if, d_ju, d_re, d_ca, cat0, cat1, cat2, cat3, fr_z, fr_s, cc_I, cc_A, cc_N, Nat.reduceAdd, Nat.reduceLT, Nat.reduceLeDiff, Nat.reduceEqDiff, not_true, not_false_iff, z1_0, z1_1, Bool.and_self, Bool.true_and, Bool.and_true, nI_add, pk_mul, nI_clamp, decide_true, Nat.le_refl, bI_eq, bI_z1, mS_419, mS_416, mS_417, mS_46, mS_388, mS_o, mS_u419, mS_u416, mS_u417, mS_u46, mS_u388, mS_uo, nI_leI, nI_e0, nI_z, h407, hni, h408, h411, h412, hu, h409, h410, nI1_0]
                  refine go_at (blk := b_Model_tells_199) rfl ?_
                  simp (disch := omega) only [b_Model_tells_199, be_54, List.getD_cons_zero, List.getD_cons_succ, List.set_cons_zero, List.set_cons_succ, List.length_cons, List.length_nil, pk_I, pk_A, pr_A, pi_I, st_s, st_n, if_true, if_false, eq_self, d_if, d_ju, d_re, d_ca, cat0, cat1, cat2, cat3, fr_z, fr_s, cc_I, cc_A, cc_N, Nat.reduceAdd, Nat.reduceLT, Nat.reduceLeDiff, Nat.reduceEqDiff, not_true, not_false_iff, z1_0, z1_1, Bool.and_self, Bool.true_and, Bool.and_true, nI_add, pk_mul, nI_clamp, decide_true, Nat.le_refl, bI_eq, bI_z1, mS_419, mS_416, mS_417, mS_46, mS_388, mS_o, mS_u419, mS_u416, mS_u417, mS_u46, mS_u388, mS_uo, nI_leI, nI_e0, nI_z, h407, hni, h408, h411, h412, hu, h409, h410, nI1_0]
                  rw [show clS lo hi y = hi by simp [clS, Int32.not_lt.mpr hc1, Int32.not_le.mp hc2]] at hq
                  exact hq _ _
              · rename_i hc1
                refine go_at (blk := b_Model_tells_181) rfl ?_
                simp (disch := omega) only [b_Model_tells_181, be_4, be_51, List.getD_cons_zero, List.getD_cons_succ, List.set_cons_zero, List.set_cons_succ, List.length_cons, List.length_nil, pk_I, pk_A, pr_A, pi_I, st_s, st_n, if_true, if_false, eq_self, d_if, d_ju, d_re, d_ca, cat0, cat1, cat2, cat3, fr_z, fr_s, cc_I, cc_A, cc_N, Nat.reduceAdd, Nat.reduceLT, Nat.reduceLeDiff, Nat.reduceEqDiff, not_true, not_false_iff, z1_0, z1_1, Bool.and_self, Bool.true_and, Bool.and_true, nI_add, pk_mul, nI_clamp, decide_true, Nat.le_refl, bI_eq, bI_z1, mS_419, mS_416, mS_417, mS_46, mS_388, mS_o, mS_u419, mS_u416, mS_u417, mS_u46, mS_u388, mS_uo, nI_leI, nI_e0, nI_z, h407, hni, h408, h411, h412, hu, h409, h410, nI1_0]
                refine go_at (blk := b_Model_tells_199) rfl ?_
                simp (disch := omega) only [b_Model_tells_199, be_54, List.getD_cons_zero, List.getD_cons_succ, List.set_cons_zero, List.set_cons_succ, List.length_cons, List.length_nil, pk_I, pk_A, pr_A, pi_I, st_s, st_n, if_true, if_false, eq_self, d_if, d_ju, d_re, d_ca, cat0, cat1, cat2, cat3, fr_z, fr_s, cc_I, cc_A, cc_N, Nat.reduceAdd, Nat.reduceLT, Nat.reduceLeDiff, Nat.reduceEqDiff, not_true, not_false_iff, z1_0, z1_1, Bool.and_self, Bool.true_and, Bool.and_true, nI_add, pk_mul, nI_clamp, decide_true, Nat.le_refl, bI_eq, bI_z1, mS_419, mS_416, mS_417, mS_46, mS_388, mS_o, mS_u419, mS_u416, mS_u417, mS_u46, mS_u388, mS_uo, nI_leI, nI_e0, nI_z, h407, hni, h408, h411, h412, hu, h409, h410, nI1_0]
                rw [show clS lo hi y = lo by simp [clS, Int32.not_le.mp hc1]] at hq
                exact hq _ _
          · rename_i hlt
            refine go_at (blk := b_Model_tells_141) rfl ?_
            simp (disch := omega) only [b_Model_tells_141, be_51, List.getD_cons_zero, List.getD_cons_succ, List.set_cons_zero, List.set_cons_succ, List.length_cons, List.length_nil, pk_I, pk_A, pr_A, pi_I, st_s, st_n, if_true, if_false, eq_self, d_if, d_ju, d_re, d_ca, cat0, cat1, cat2, cat3, fr_z, fr_s, cc_I, cc_A, cc_N, Nat.reduceAdd, Nat.reduceLT, Nat.reduceLeDiff, Nat.reduceEqDiff, not_true, not_false_iff, z1_0, z1_1, Bool.and_self, Bool.true_and, Bool.and_true, nI_add, pk_mul, nI_clamp, decide_true, Nat.le_refl, bI_eq, bI_z1, mS_419, mS_416, mS_417, mS_46, mS_388, mS_o, mS_u419, mS_u416, mS_u417, mS_u46, mS_u388, mS_uo, nI_leI, nI_e0, nI_z, h407, hni, h408, h411, h412, hu, h409, h410, nI1_0]
            refine go_at (blk := b_Model_tells_200) rfl ?_
            simp (disch := omega) only [b_Model_tells_200, be_10, be_51, List.getD_cons_zero, List.getD_cons_succ, List.set_cons_zero, List.set_cons_succ, List.length_cons, List.length_nil, pk_I, pk_A, pr_A, pi_I, st_s, st_n, if_true, if_false, eq_self, d_if, d_ju, d_re, d_ca, cat0, cat1, cat2, cat3, fr_z, fr_s, cc_I, cc_A, cc_N, Nat.reduceAdd, Nat.reduceLT, Nat.reduceLeDiff, Nat.reduceEqDiff, not_true, not_false_iff, z1_0, z1_1, Bool.and_self, Bool.true_and, Bool.and_true, nI_add, pk_mul, nI_clamp, decide_true, Nat.le_refl, bI_eq, bI_z1, mS_419, mS_416, mS_417, mS_46, mS_388, mS_o, mS_u419, mS_u416, mS_u417, mS_u46, mS_u388, mS_uo, nI_leI, nI_e0, nI_z, h407, hni, h408, h411, h412, hu, h409, h410, nI1_0]
            rw [if_pos (Int32.not_lt.mp hlt)] at hq
            exact ih (b0 + 1) _ _ _ (by omega) (fun c q1 q2 => hw c (by omega) q2) rfl hq
set_option maxHeartbeats 2000000 in
theorem m_tells {d : Nat} {v : Nat → Nat → Int32} {f x g : Nat → Int32} {b : Int32} {w : Nat → Nat → Int64} {Q : Option Value → am_H → Prop} {lv n : Nat} (ht : TW v lv n) {k : Nat} (hk : k < 2) (hl : lwW v lv k) {plain lo hi : Int32} (hq : ∀ g' b', Q (some (.int (tlS v lv k x plain lo hi))) (428, 26053, KD, RF, mS v f x (g') (b'), w)) : am_Ca (d + 2) M_Model_tells [.ref 388, .int (nI k), .int plain, .int lo, .int hi] (428, 26053, KD, RF, mS v f x g b, w) Q := by
  obtain ⟨h18, hlv, h398, hn⟩ := ht
  obtain ⟨a, z, h406, h407, haz, hz, hw⟩ := hl
  unfold tlS at hq
  refine ca_in (k := k_Model_tells) (nL := 9) rfl (Nat.le_of_ble_eq_true rfl) ?_
  show am_Go am_X0 _ k_Model_tells 0 ([.ref 388, .int (nI k), .int plain, .int lo, .int hi, .null, .null, .null, .null], [], _) _
  refine go_at (blk := b_Model_tells_0) rfl ?_
  simp (disch := omega) only [b_Model_tells_0, be_1, be_6, be_33, be_14, be_4, be_12, be_7, be_34, be_38, be_49_1, kc_388, rf_388_31, ka_406, rf_388_32, ka_407, List.getD_cons_zero, List.getD_cons_succ, List.set_cons_zero, List.set_cons_succ, List.length_cons, List.length_nil, pk_I, pk_A, pr_A, pi_I, st_s, st_n, if_true, if_false, eq_self, d_if, d_ju, d_re, d_ca, cat0, cat1, cat2, cat3, fr_z, fr_s, cc_I, cc_A, cc_N, Nat.reduceAdd, Nat.reduceLT, Nat.reduceLeDiff, Nat.reduceEqDiff, not_true, not_false_iff, z1_0, z1_1, Bool.and_self, Bool.true_and, Bool.and_true, nI_add, pk_mul, nI_clamp, decide_true, Nat.le_refl, bI_eq, bI_z1, mS_419, mS_416, mS_417, mS_46, mS_388, mS_o, mS_u419, mS_u416, mS_u417, mS_u46, mS_u388, mS_uo, h18, h398, nI_leI, h406, h407]
  split
  · rename_i hne
    refine go_at (blk := b_Model_tells_49) rfl ?_
    simp (disch := omega) only [b_Model_tells_49, be_6, be_1, be_36, be_34, be_4, be_38, be_7, be_0, kc_388, rf_388_31, ka_406, List.getD_cons_zero, List.getD_cons_succ, List.set_cons_zero, List.set_cons_succ, List.length_cons, List.length_nil, pk_I, pk_A, pr_A, pi_I, st_s, st_n, if_true, if_false, eq_self, d_if, d_ju, d_re, d_ca, cat0, cat1, cat2, cat3, fr_z, fr_s, cc_I, cc_A, cc_N, Nat.reduceAdd, Nat.reduceLT, Nat.reduceLeDiff, Nat.reduceEqDiff, not_true, not_false_iff, z1_0, z1_1, Bool.and_self, Bool.true_and, Bool.and_true, nI_add, pk_mul, nI_clamp, decide_true, Nat.le_refl, bI_eq, bI_z1, mS_419, mS_416, mS_417, mS_46, mS_388, mS_o, mS_u419, mS_u416, mS_u417, mS_u46, mS_u388, mS_uo, h18, h398, nI_leI, h406, h407]
    rw [if_neg (fun q => hne (by rw [h406, h407] at q; exact q))] at hq
    rw [h406, h407, nI_clamp (n := a) (by omega), nI_clamp (n := z) (by omega)] at hq
    exact m_tells_loop (at_ := 2 * lv + k) (by omega) hz h407 (z - a) a _ _ _ (by omega) hw rfl (fun g' b' => by have := hq g' b'; revert this; cases brS (v 408) (v 409) (v 410) (v 411) (v 412) (v 413) (v 414) x (z - a) a <;> exact id)
  · rename_i hne
    have heq := Decidable.not_not.mp hne
    rw [if_pos (by rw [h406, h407]; exact heq)] at hq
    refine go_at (blk := b_Model_tells_27) rfl ?_
    simp (disch := omega) only [b_Model_tells_27, be_4, be_49_3, List.getD_cons_zero, List.getD_cons_succ, List.set_cons_zero, List.set_cons_succ, List.length_cons, List.length_nil, pk_I, pk_A, pr_A, pi_I, st_s, st_n, if_true, if_false, eq_self, d_if, d_ju, d_re, d_ca, cat0, cat1, cat2, cat3, fr_z, fr_s, cc_I, cc_A, cc_N, Nat.reduceAdd, Nat.reduceLT, Nat.reduceLeDiff, Nat.reduceEqDiff, not_true, not_false_iff, z1_0, z1_1, Bool.and_self, Bool.true_and, Bool.and_true, nI_add, pk_mul, nI_clamp, decide_true, Nat.le_refl, bI_eq, bI_z1, mS_419, mS_416, mS_417, mS_46, mS_388, mS_o, mS_u419, mS_u416, mS_u417, mS_u46, mS_u388, mS_uo, h18, h398, nI_leI, h406, h407]
    split
    · rename_i hc1
      refine go_at (blk := b_Model_tells_36) rfl ?_
      simp (disch := omega) only [b_Model_tells_36, be_4, be_49_5, List.getD_cons_zero, List.getD_cons_succ, List.set_cons_zero, List.set_cons_succ, List.length_cons, List.length_nil, pk_I, pk_A, pr_A, pi_I, st_s, st_n, if_true, if_false, eq_self, d_if, d_ju, d_re, d_ca, cat0, cat1, cat2, cat3, fr_z, fr_s, cc_I, cc_A, cc_N, Nat.reduceAdd, Nat.reduceLT, Nat.reduceLeDiff, Nat.reduceEqDiff, not_true, not_false_iff, z1_0, z1_1, Bool.and_self, Bool.true_and, Bool.and_true, nI_add, pk_mul, nI_clamp, decide_true, Nat.le_refl, bI_eq, bI_z1, mS_419, mS_416, mS_417, mS_46, mS_388, mS_o, mS_u419, mS_u416, mS_u417, mS_u46, mS_u388, mS_uo, h18, h398, nI_leI, h406, h407]
      split
      · rename_i hc2
        refine go_at (blk := b_Model_tells_47) rfl ?_
        simp (disch := omega) only [b_Model_tells_47, be_4, be_0, List.getD_cons_zero, List.getD_cons_succ, List.set_cons_zero, List.set_cons_succ, List.length_cons, List.length_nil, pk_I, pk_A, pr_A, pi_I, st_s, st_n, if_true, if_false, eq_self, d_if, d_ju, d_re, d_ca, cat0, cat1, cat2, cat3, fr_z, fr_s, cc_I, cc_A, cc_N, Nat.reduceAdd, Nat.reduceLT, Nat.reduceLeDiff, Nat.reduceEqDiff, not_true, not_false_iff, z1_0, z1_1, Bool.and_self, Bool.true_and, Bool.and_true, nI_add, pk_mul, nI_clamp, decide_true, Nat.le_refl, bI_eq, bI_z1, mS_419, mS_416, mS_417, mS_46, mS_388, mS_o, mS_u419, mS_u416, mS_u417, mS_u46, mS_u388, mS_uo, h18, h398, nI_leI, h406, h407]
        refine go_at (blk := b_Model_tells_48) rfl ?_
        simp (disch := omega) only [b_Model_tells_48, be_54, List.getD_cons_zero, List.getD_cons_succ, List.set_cons_zero, List.set_cons_succ, List.length_cons, List.length_nil, pk_I, pk_A, pr_A, pi_I, st_s, st_n, if_true, if_false, eq_self, d_if, d_ju, d_re, d_ca, cat0, cat1, cat2, cat3, fr_z, fr_s, cc_I, cc_A, cc_N, Nat.reduceAdd, Nat.reduceLT, Nat.reduceLeDiff, Nat.reduceEqDiff, not_true, not_false_iff, z1_0, z1_1, Bool.and_self, Bool.true_and, Bool.and_true, nI_add, pk_mul, nI_clamp, decide_true, Nat.le_refl, bI_eq, bI_z1, mS_419, mS_416, mS_417, mS_46, mS_388, mS_o, mS_u419, mS_u416, mS_u417, mS_u46, mS_u388, mS_uo, h18, h398, nI_leI, h406, h407]
        rw [show clS lo hi plain = plain by simp [clS, Int32.not_lt.mpr hc1, Int32.not_lt.mpr hc2]] at hq
        exact hq _ _
      · rename_i hc2
        refine go_at (blk := b_Model_tells_42) rfl ?_
        simp (disch := omega) only [b_Model_tells_42, be_4, be_51, List.getD_cons_zero, List.getD_cons_succ, List.set_cons_zero, List.set_cons_succ, List.length_cons, List.length_nil, pk_I, pk_A, pr_A, pi_I, st_s, st_n, if_true, if_false, eq_self, d_if, d_ju, d_re, d_ca, cat0, cat1, cat2, cat3, fr_z, fr_s, cc_I, cc_A, cc_N, Nat.reduceAdd, Nat.reduceLT, Nat.reduceLeDiff, Nat.reduceEqDiff, not_true, not_false_iff, z1_0, z1_1, Bool.and_self, Bool.true_and, Bool.and_true, nI_add, pk_mul, nI_clamp, decide_true, Nat.le_refl, bI_eq, bI_z1, mS_419, mS_416, mS_417, mS_46, mS_388, mS_o, mS_u419, mS_u416, mS_u417, mS_u46, mS_u388, mS_uo, h18, h398, nI_leI, h406, h407]
        refine go_at (blk := b_Model_tells_48) rfl ?_
        simp (disch := omega) only [b_Model_tells_48, be_54, List.getD_cons_zero, List.getD_cons_succ, List.set_cons_zero, List.set_cons_succ, List.length_cons, List.length_nil, pk_I, pk_A, pr_A, pi_I, st_s, st_n, if_true, if_false, eq_self, d_if, d_ju, d_re, d_ca, cat0, cat1, cat2, cat3, fr_z, fr_s, cc_I, cc_A, cc_N, Nat.reduceAdd, Nat.reduceLT, Nat.reduceLeDiff, Nat.reduceEqDiff, not_true, not_false_iff, z1_0, z1_1, Bool.and_self, Bool.true_and, Bool.and_true, nI_add, pk_mul, nI_clamp, decide_true, Nat.le_refl, bI_eq, bI_z1, mS_419, mS_416, mS_417, mS_46, mS_388, mS_o, mS_u419, mS_u416, mS_u417, mS_u46, mS_u388, mS_uo, h18, h398, nI_leI, h406, h407]
        rw [show clS lo hi plain = hi by simp [clS, Int32.not_lt.mpr hc1, Int32.not_le.mp hc2]] at hq
        exact hq _ _
    · rename_i hc1
      refine go_at (blk := b_Model_tells_32) rfl ?_
      simp (disch := omega) only [b_Model_tells_32, be_4, be_51, List.getD_cons_zero, List.getD_cons_succ, List.set_cons_zero, List.set_cons_succ, List.length_cons, List.length_nil, pk_I, pk_A, pr_A, pi_I, st_s, st_n, if_true, if_false, eq_self, d_if, d_ju, d_re, d_ca, cat0, cat1, cat2, cat3, fr_z, fr_s, cc_I, cc_A, cc_N, Nat.reduceAdd, Nat.reduceLT, Nat.reduceLeDiff, Nat.reduceEqDiff, not_true, not_false_iff, z1_0, z1_1, Bool.and_self, Bool.true_and, Bool.and_true, nI_add, pk_mul, nI_clamp, decide_true, Nat.le_refl, bI_eq, bI_z1, mS_419, mS_416, mS_417, mS_46, mS_388, mS_o, mS_u419, mS_u416, mS_u417, mS_u46, mS_u388, mS_uo, h18, h398, nI_leI, h406, h407]
      refine go_at (blk := b_Model_tells_48) rfl ?_
      simp (disch := omega) only [b_Model_tells_48, be_54, List.getD_cons_zero, List.getD_cons_succ, List.set_cons_zero, List.set_cons_succ, List.length_cons, List.length_nil, pk_I, pk_A, pr_A, pi_I, st_s, st_n, if_true, if_false, eq_self, d_if, d_ju, d_re, d_ca, cat0, cat1, cat2, cat3, fr_z, fr_s, cc_I, cc_A, cc_N, Nat.reduceAdd, Nat.reduceLT, Nat.reduceLeDiff, Nat.reduceEqDiff, not_true, not_false_iff, z1_0, z1_1, Bool.and_self, Bool.true_and, Bool.and_true, nI_add, pk_mul, nI_clamp, decide_true, Nat.le_refl, bI_eq, bI_z1, mS_419, mS_416, mS_417, mS_46, mS_388, mS_o, mS_u419, mS_u416, mS_u417, mS_u46, mS_u388, mS_uo, h18, h398, nI_leI, h406, h407]
      rw [show clS lo hi plain = lo by simp [clS, Int32.not_le.mp hc1]] at hq
      exact hq _ _
