/-! laid by wip/whole/m12.py: the reference: kneelsBy, bestTwo, exchange -/
theorem wb_bit {g : Nat → Bool} {p : Nat} (n : Nat) : (wbN g n).testBit p = (decide (p < n) && g p) := by
  induction n with
  | zero =>
    show (0 : Nat).testBit p = _
    rw [Nat.zero_testBit, decide_eq_false (by omega)]
    rfl
  | succ n ih =>
    cases hg : g n with
    | false =>
      rw [wb_f hg, ih]
      by_cases h : p = n
      · subst h
        rw [hg, Bool.and_false, Bool.and_false]
      · rw [show decide (p < n + 1) = decide (p < n) from decide_eq_decide.mpr (by omega)]
    | true =>
      rw [wb_t hg, Nat.add_comm]
      have hl := wb_lt (g := g) n
      by_cases h : p = n
      · subst h
        rw [Nat.testBit_two_pow_add_eq, Nat.testBit_lt_two_pow hl, decide_eq_true (by omega), hg]
        rfl
      · by_cases h2 : p < n
        · rw [Nat.testBit_two_pow_add_gt h2, ih, decide_eq_true h2, decide_eq_true (show p < n + 1 by omega)]
        · rw [decide_eq_false (show ¬ p < n + 1 by omega), Bool.false_and]
          refine Nat.testBit_lt_two_pow ?_
          have : 2 ^ (n + 1) ≤ 2 ^ p := Nat.pow_le_pow_right (by omega) (by omega)
          rw [Nat.pow_succ] at this
          omega
theorem sb_bit {T : TXT} {f : Nat → Int32} {s : Nat} (hs : s < 256) (h8 : tN T ≤ 8) : sbB s (mayM T f) = true ↔ ∀ p, p < 8 → s.testBit p = true → p < tN T ∧ mayB f (-1) (tS T) p = true := by
  have hm : mayM T f < 256 := by
    have h1 := wb_lt (g := mayB f (-1) (tS T)) (tN T)
    have h2 : 2 ^ (tN T) ≤ 2 ^ 8 := Nat.pow_le_pow_right (by omega) h8
    unfold mayM
    omega
  rw [sb_iff s hs _ hm]
  constructor
  · intro h p hp hb
    have h3 := congrArg (fun z => z.testBit p) h
    simp only [Nat.testBit_and] at h3
    rw [hb, Bool.true_and] at h3
    unfold mayM at h3
    rw [wb_bit, Bool.and_eq_true] at h3
    exact ⟨of_decide_eq_true h3.1, h3.2⟩
  · intro h
    apply Nat.eq_of_testBit_eq
    intro p
    rw [Nat.testBit_and]
    cases hb : s.testBit p with
    | false => rfl
    | true =>
      rw [Bool.true_and]
      by_cases hp : p < 8
      · obtain ⟨h1, h2⟩ := h p hp hb
        unfold mayM
        rw [wb_bit, decide_eq_true h1, h2]
        rfl
      · have : s.testBit p = false := Nat.testBit_lt_two_pow (Nat.lt_of_lt_of_le hs (show 2 ^ 8 ≤ 2 ^ p from Nat.pow_le_pow_right (by omega) (by omega)))
        rw [this] at hb
        cases hb
theorem sb_no {T : TXT} {f : Nat → Int32} {s p : Nat} (hs : s < 256) (h8 : tN T ≤ 8) (hp : p < 8) (hb : s.testBit p = true) (h : ¬ (p < tN T ∧ mayB f (-1) (tS T) p = true)) : sbB s (mayM T f) = false := by
  cases hc : sbB s (mayM T f) with
  | false => rfl
  | true => exact absurd ((sb_bit hs h8).mp hc p hp hb) h
/-- the first i of a set kneel, or stand -/
def krS (s : Nat) (f : Nat → Int32) (i j : Nat) : Int32 := if 8 ≤ j ∧ j < 8 + i then (if s.testBit (j - 8) = true then 1 else 0) else f j
theorem kr_0 {s : Nat} {f : Nat → Int32} : krS s f 0 = f := by
  funext j
  exact if_neg (by omega)
theorem kr_8 {s : Nat} {f : Nat → Int32} : krS s f 8 = knS s f := by
  funext j
  unfold krS knS
  by_cases h1 : j < 8
  · rw [if_neg (by omega), if_pos h1]
  · rw [if_neg h1]
    by_cases h2 : j < 16
    · rw [if_pos (by omega), if_pos h2]
    · rw [if_neg (by omega), if_neg h2]
theorem kr_s {s i : Nat} {f : Nat → Int32} {x : Int32} (h : x = if s.testBit i = true then 1 else 0) : upd (krS s f i) (8 + i) x = krS s f (i + 1) := by
  funext j
  by_cases h1 : j = 8 + i
  · subst h1
    rw [upd_at, h]
    unfold krS
    rw [if_pos (show 8 ≤ 8 + i ∧ 8 + i < 8 + (i + 1) by omega), show 8 + i - 8 = i by omega]
  · rw [upd_ne h1]
    unfold krS
    by_cases h2 : 8 ≤ j ∧ j < 8 + i
    · rw [if_pos h2, if_pos (show 8 ≤ j ∧ j < 8 + (i + 1) by omega)]
    · rw [if_neg h2, if_neg (show ¬ (8 ≤ j ∧ j < 8 + (i + 1)) by omega)]
theorem kr_may {s i p : Nat} {f so : Nat → Int32} (hi : i ≤ 8) : mayB (krS s f i) (-1) so p = mayB f (-1) so p := by
  have e : ∀ j, 16 ≤ j → krS s f i j = f j := fun j hj => if_neg (by omega)
  unfold mayB onB
  rw [e _ (by omega), e _ (by omega)]
set_option maxHeartbeats 1000000 in
theorem r_kneelsBy {d : Nat} {v : Nat → Nat → Int32} {w : Nat → Nat → Int64} {Q : Option Value → am_H → Prop} {T : TXT} {lv : Nat} {f : Nat → Int32} {B : Int} (hM : MI B v T lv f) {s : Nat} (hs : s < 256) (hQ : ∀ v', MF v v' → (sbB s (mayM T f) = true → MR v' (knS s f) (-1) 0) → Q (some (.int (bI (sbB s (mayM T f))))) (428, 26053, KD, RF, v', w)) : am_Ca (d + 3) M_Model_kneelsBy [.ref 388, .int (nI s)] (428, 26053, KD, RF, v, w) Q := by
  have h8 := hM.2.2.2.2.1.1
  refine ca_in (k := k_Model_kneelsBy) (nL := 4) rfl (Nat.le_of_ble_eq_true rfl) ?_
  show am_Go am_X0 _ k_Model_kneelsBy 0 ([.ref 388, .int (nI s), .null, .null], [], _) _
  refine go_at (blk := b_Model_kneelsBy_0) rfl ?_
  simp (disch := omega) only [b_Model_kneelsBy_0, be_6, be_57_0, kc_388, List.getD_cons_zero, List.getD_cons_succ, List.set_cons_zero, List.set_cons_succ, List.length_cons, List.length_nil, pk_I, pk_A, pr_A, pi_I, st_s, st_n, if_true, if_false, eq_self, d_if, d_ju, d_re, d_ca, cat0, cat1, cat2, cat3, fr_z, fr_s, cc_I, cc_A, cc_N, Nat.reduceAdd, Nat.reduceLT, Nat.reduceLeDiff, Nat.reduceEqDiff, not_true, not_false_iff, z1_0, z1_1, Bool.and_self, Bool.true_and, Bool.and_true, nI_add, pk_mul, nI_clamp, decide_true, Nat.le_refl, bI_eq, bI_z1]
  refine rm_copies hM ?_
  intro v1 q1 r1
  refine go_at (blk := b_Model_kneelsBy_4) rfl ?_
  simp (disch := omega) only [b_Model_kneelsBy_4, be_1, be_7, be_0, List.getD_cons_zero, List.getD_cons_succ, List.set_cons_zero, List.set_cons_succ, List.length_cons, List.length_nil, pk_I, pk_A, pr_A, pi_I, st_s, st_n, if_true, if_false, eq_self, d_if, d_ju, d_re, d_ca, cat0, cat1, cat2, cat3, fr_z, fr_s, cc_I, cc_A, cc_N, Nat.reduceAdd, Nat.reduceLT, Nat.reduceLeDiff, Nat.reduceEqDiff, not_true, not_false_iff, z1_0, z1_1, Bool.and_self, Bool.true_and, Bool.and_true, nI_add, pk_mul, nI_clamp, decide_true, Nat.le_refl, bI_eq, bI_z1]
  refine go_loopA (α := (Nat → Nat → Int32) × Value) (fun i x => ([.ref 388, .int (nI s), .int (nI i), x.2], [], (428, 26053, KD, RF, x.1, w))) (fun i x => MF v x.1 ∧ MR x.1 (krS s f i) (-1) 0 ∧ am_cc x.2 = true ∧ ∀ p, p < i → s.testBit p = true → p < tN T ∧ mayB f (-1) (tS T) p = true) (8) ?_ ?_ (v1, .null) ⟨q1, by rw [kr_0]; exact r1, rfl, fun p hp => absurd hp (by omega)⟩
  · intro i x hi ⟨i1, i2, i3, i4⟩ ih
    try dsimp only at *
    have hni : ¬ 8 ≤ i := by omega
    have hMx : MI B x.1 T lv f := MI_f hM i1
    obtain ⟨k18, hlv, k398, _⟩ := (MI_f hM i1).1.1
    have k418 : x.1 418 = f := (MI_f hM i1).2.1
    have hbt := bt_1 s hs i (by omega)
    refine go_at (blk := b_Model_kneelsBy_6) rfl ?_
    simp (disch := omega) only [b_Model_kneelsBy_6, be_4, be_1, be_49_3, List.getD_cons_zero, List.getD_cons_succ, List.set_cons_zero, List.set_cons_succ, List.length_cons, List.length_nil, pk_I, pk_A, pr_A, pi_I, st_s, st_n, if_true, if_false, eq_self, d_if, d_ju, d_re, d_ca, cat0, cat1, cat2, cat3, fr_z, fr_s, cc_I, cc_A, cc_N, Nat.reduceAdd, Nat.reduceLT, Nat.reduceLeDiff, Nat.reduceEqDiff, not_true, not_false_iff, z1_0, z1_1, Bool.and_self, Bool.true_and, Bool.and_true, nI_add, pk_mul, nI_clamp, decide_true, Nat.le_refl, bI_eq, bI_z1, nI_ltI, nI_leI, k18, k398, k418, hbt, i3, nI_z, z_10, hni]
    refine go_at (blk := b_Model_kneelsBy_12) rfl ?_
    simp (disch := omega) only [b_Model_kneelsBy_12, be_4, be_22, be_1, be_18, be_49_1, List.getD_cons_zero, List.getD_cons_succ, List.set_cons_zero, List.set_cons_succ, List.length_cons, List.length_nil, pk_I, pk_A, pr_A, pi_I, st_s, st_n, if_true, if_false, eq_self, d_if, d_ju, d_re, d_ca, cat0, cat1, cat2, cat3, fr_z, fr_s, cc_I, cc_A, cc_N, Nat.reduceAdd, Nat.reduceLT, Nat.reduceLeDiff, Nat.reduceEqDiff, not_true, not_false_iff, z1_0, z1_1, Bool.and_self, Bool.true_and, Bool.and_true, nI_add, pk_mul, nI_clamp, decide_true, Nat.le_refl, bI_eq, bI_z1, nI_ltI, nI_leI, k18, k398, k418, hbt, i3, nI_z, z_10, hni]
    split
    · rename_i hb
      have hb' : s.testBit i = false := by simpa using hb
      refine go_at (blk := b_Model_kneelsBy_25) rfl ?_
      simp (disch := omega) only [b_Model_kneelsBy_25, be_1, be_0, List.getD_cons_zero, List.getD_cons_succ, List.set_cons_zero, List.set_cons_succ, List.length_cons, List.length_nil, pk_I, pk_A, pr_A, pi_I, st_s, st_n, if_true, if_false, eq_self, d_if, d_ju, d_re, d_ca, cat0, cat1, cat2, cat3, fr_z, fr_s, cc_I, cc_A, cc_N, Nat.reduceAdd, Nat.reduceLT, Nat.reduceLeDiff, Nat.reduceEqDiff, not_true, not_false_iff, z1_0, z1_1, Bool.and_self, Bool.true_and, Bool.and_true, nI_add, pk_mul, nI_clamp, decide_true, Nat.le_refl, bI_eq, bI_z1, nI_ltI, nI_leI, k18, k398, k418, hbt, i3, nI_z, z_10, hni]
      refine go_at (blk := b_Model_kneelsBy_26) rfl ?_
      simp (disch := omega) only [b_Model_kneelsBy_26, be_7, be_4, be_50_0, List.getD_cons_zero, List.getD_cons_succ, List.set_cons_zero, List.set_cons_succ, List.length_cons, List.length_nil, pk_I, pk_A, pr_A, pi_I, st_s, st_n, if_true, if_false, eq_self, d_if, d_ju, d_re, d_ca, cat0, cat1, cat2, cat3, fr_z, fr_s, cc_I, cc_A, cc_N, Nat.reduceAdd, Nat.reduceLT, Nat.reduceLeDiff, Nat.reduceEqDiff, not_true, not_false_iff, z1_0, z1_1, Bool.and_self, Bool.true_and, Bool.and_true, nI_add, pk_mul, nI_clamp, decide_true, Nat.le_refl, bI_eq, bI_z1, nI_ltI, nI_leI, k18, k398, k418, hbt, i3, nI_z, z_10, hni]
      refine go_at (blk := b_Model_kneelsBy_54) rfl ?_
      simp (disch := omega) only [b_Model_kneelsBy_54, be_6, be_34, be_1, be_4, be_12, be_50_0, kc_388, rf_388_48, List.getD_cons_zero, List.getD_cons_succ, List.set_cons_zero, List.set_cons_succ, List.length_cons, List.length_nil, pk_I, pk_A, pr_A, pi_I, st_s, st_n, if_true, if_false, eq_self, d_if, d_ju, d_re, d_ca, cat0, cat1, cat2, cat3, fr_z, fr_s, cc_I, cc_A, cc_N, Nat.reduceAdd, Nat.reduceLT, Nat.reduceLeDiff, Nat.reduceEqDiff, not_true, not_false_iff, z1_0, z1_1, Bool.and_self, Bool.true_and, Bool.and_true, nI_add, pk_mul, nI_clamp, decide_true, Nat.le_refl, bI_eq, bI_z1, nI_ltI, nI_leI, k18, k398, k418, hbt, i3, nI_z, z_10, hni]
      refine go_at (blk := b_Model_kneelsBy_70) rfl ?_
      simp (disch := omega) only [b_Model_kneelsBy_70, be_1, be_0, List.getD_cons_zero, List.getD_cons_succ, List.set_cons_zero, List.set_cons_succ, List.length_cons, List.length_nil, pk_I, pk_A, pr_A, pi_I, st_s, st_n, if_true, if_false, eq_self, d_if, d_ju, d_re, d_ca, cat0, cat1, cat2, cat3, fr_z, fr_s, cc_I, cc_A, cc_N, Nat.reduceAdd, Nat.reduceLT, Nat.reduceLeDiff, Nat.reduceEqDiff, not_true, not_false_iff, z1_0, z1_1, Bool.and_self, Bool.true_and, Bool.and_true, nI_add, pk_mul, nI_clamp, decide_true, Nat.le_refl, bI_eq, bI_z1, nI_ltI, nI_leI, k18, k398, k418, hbt, i3, nI_z, z_10, hni]
      refine go_at (blk := b_Model_kneelsBy_71) rfl ?_
      simp (disch := omega) only [b_Model_kneelsBy_71, be_43, be_10, be_51, ka_419, List.getD_cons_zero, List.getD_cons_succ, List.set_cons_zero, List.set_cons_succ, List.length_cons, List.length_nil, pk_I, pk_A, pr_A, pi_I, st_s, st_n, if_true, if_false, eq_self, d_if, d_ju, d_re, d_ca, cat0, cat1, cat2, cat3, fr_z, fr_s, cc_I, cc_A, cc_N, Nat.reduceAdd, Nat.reduceLT, Nat.reduceLeDiff, Nat.reduceEqDiff, not_true, not_false_iff, z1_0, z1_1, Bool.and_self, Bool.true_and, Bool.and_true, nI_add, pk_mul, nI_clamp, decide_true, Nat.le_refl, bI_eq, bI_z1, nI_ltI, nI_leI, k18, k398, k418, hbt, i3, nI_z, z_10, hni]
      refine ih (am_u x.1 419 (8 + i) (nI 0), .int _) ⟨MF_t i1 (MF_row (by omega)), ?_, rfl, ?_⟩
      · rw [← kr_s (x := nI 0) (by rw [if_neg (by rw [hb']; decide)]; rfl)]
        exact MR_row i2
      · intro p hp hb2
        by_cases hpi : p = i
        · subst hpi
          rw [hb'] at hb2; cases hb2
        · exact i4 p (by omega) hb2
    · rename_i hb
      have hb := Decidable.not_not.mp hb
      refine go_at (blk := b_Model_kneelsBy_21) rfl ?_
      simp (disch := omega) only [b_Model_kneelsBy_21, be_1, be_51, List.getD_cons_zero, List.getD_cons_succ, List.set_cons_zero, List.set_cons_succ, List.length_cons, List.length_nil, pk_I, pk_A, pr_A, pi_I, st_s, st_n, if_true, if_false, eq_self, d_if, d_ju, d_re, d_ca, cat0, cat1, cat2, cat3, fr_z, fr_s, cc_I, cc_A, cc_N, Nat.reduceAdd, Nat.reduceLT, Nat.reduceLeDiff, Nat.reduceEqDiff, not_true, not_false_iff, z1_0, z1_1, Bool.and_self, Bool.true_and, Bool.and_true, nI_add, pk_mul, nI_clamp, decide_true, Nat.le_refl, bI_eq, bI_z1, nI_ltI, nI_leI, k18, k398, k418, hbt, i3, nI_z, z_10, hni]
      refine go_at (blk := b_Model_kneelsBy_26) rfl ?_
      simp (disch := omega) only [b_Model_kneelsBy_26, be_7, be_4, be_50_0, List.getD_cons_zero, List.getD_cons_succ, List.set_cons_zero, List.set_cons_succ, List.length_cons, List.length_nil, pk_I, pk_A, pr_A, pi_I, st_s, st_n, if_true, if_false, eq_self, d_if, d_ju, d_re, d_ca, cat0, cat1, cat2, cat3, fr_z, fr_s, cc_I, cc_A, cc_N, Nat.reduceAdd, Nat.reduceLT, Nat.reduceLeDiff, Nat.reduceEqDiff, not_true, not_false_iff, z1_0, z1_1, Bool.and_self, Bool.true_and, Bool.and_true, nI_add, pk_mul, nI_clamp, decide_true, Nat.le_refl, bI_eq, bI_z1, nI_ltI, nI_leI, k18, k398, k418, hbt, i3, nI_z, z_10, hni]
      refine go_at (blk := b_Model_kneelsBy_31) rfl ?_
      simp (disch := omega) only [b_Model_kneelsBy_31, be_4, be_6, be_34, be_33, be_38, be_49_3, kc_388, rf_388_23, ka_398, List.getD_cons_zero, List.getD_cons_succ, List.set_cons_zero, List.set_cons_succ, List.length_cons, List.length_nil, pk_I, pk_A, pr_A, pi_I, st_s, st_n, if_true, if_false, eq_self, d_if, d_ju, d_re, d_ca, cat0, cat1, cat2, cat3, fr_z, fr_s, cc_I, cc_A, cc_N, Nat.reduceAdd, Nat.reduceLT, Nat.reduceLeDiff, Nat.reduceEqDiff, not_true, not_false_iff, z1_0, z1_1, Bool.and_self, Bool.true_and, Bool.and_true, nI_add, pk_mul, nI_clamp, decide_true, Nat.le_refl, bI_eq, bI_z1, nI_ltI, nI_leI, k18, k398, k418, hbt, i3, nI_z, z_10, hni]
      split
      · rename_i hn
        refine go_at (blk := b_Model_kneelsBy_52) rfl ?_
        simp (disch := omega) only [b_Model_kneelsBy_52, be_1, be_73, List.getD_cons_zero, List.getD_cons_succ, List.set_cons_zero, List.set_cons_succ, List.length_cons, List.length_nil, pk_I, pk_A, pr_A, pi_I, st_s, st_n, if_true, if_false, eq_self, d_if, d_ju, d_re, d_ca, cat0, cat1, cat2, cat3, fr_z, fr_s, cc_I, cc_A, cc_N, Nat.reduceAdd, Nat.reduceLT, Nat.reduceLeDiff, Nat.reduceEqDiff, not_true, not_false_iff, z1_0, z1_1, Bool.and_self, Bool.true_and, Bool.and_true, nI_add, pk_mul, nI_clamp, decide_true, Nat.le_refl, bI_eq, bI_z1, nI_ltI, nI_leI, k18, k398, k418, hbt, i3, nI_z, z_10, hni]
        rw [sb_no hs h8 (by omega) hb (fun z => by omega)] at hQ
        exact hQ x.1 i1 (fun z => by cases z)
      · rename_i hn
        refine go_at (blk := b_Model_kneelsBy_44) rfl ?_
        simp (disch := omega) only [b_Model_kneelsBy_44, be_6, be_4, be_57_1, kc_388, List.getD_cons_zero, List.getD_cons_succ, List.set_cons_zero, List.set_cons_succ, List.length_cons, List.length_nil, pk_I, pk_A, pr_A, pi_I, st_s, st_n, if_true, if_false, eq_self, d_if, d_ju, d_re, d_ca, cat0, cat1, cat2, cat3, fr_z, fr_s, cc_I, cc_A, cc_N, Nat.reduceAdd, Nat.reduceLT, Nat.reduceLeDiff, Nat.reduceEqDiff, not_true, not_false_iff, z1_0, z1_1, Bool.and_self, Bool.true_and, Bool.and_true, nI_add, pk_mul, nI_clamp, decide_true, Nat.le_refl, bI_eq, bI_z1, nI_ltI, nI_leI, k18, k398, k418, hbt, i3, nI_z, z_10, hni]
        refine r_may (by omega) hMx.1 i2 ?_
        rw [kr_may (by omega)]
        refine go_at (blk := b_Model_kneelsBy_49) rfl ?_
        simp (disch := omega) only [b_Model_kneelsBy_49, be_50_1, List.getD_cons_zero, List.getD_cons_succ, List.set_cons_zero, List.set_cons_succ, List.length_cons, List.length_nil, pk_I, pk_A, pr_A, pi_I, st_s, st_n, if_true, if_false, eq_self, d_if, d_ju, d_re, d_ca, cat0, cat1, cat2, cat3, fr_z, fr_s, cc_I, cc_A, cc_N, Nat.reduceAdd, Nat.reduceLT, Nat.reduceLeDiff, Nat.reduceEqDiff, not_true, not_false_iff, z1_0, z1_1, Bool.and_self, Bool.true_and, Bool.and_true, nI_add, pk_mul, nI_clamp, decide_true, Nat.le_refl, bI_eq, bI_z1, nI_ltI, nI_leI, k18, k398, k418, hbt, i3, nI_z, z_10, hni]
        split
        · rename_i hm
          have hm : mayB f (-1) (tS T) i = true := by simpa using hm
          refine go_at (blk := b_Model_kneelsBy_54) rfl ?_
          simp (disch := omega) only [b_Model_kneelsBy_54, be_6, be_34, be_1, be_4, be_12, be_50_0, kc_388, rf_388_48, List.getD_cons_zero, List.getD_cons_succ, List.set_cons_zero, List.set_cons_succ, List.length_cons, List.length_nil, pk_I, pk_A, pr_A, pi_I, st_s, st_n, if_true, if_false, eq_self, d_if, d_ju, d_re, d_ca, cat0, cat1, cat2, cat3, fr_z, fr_s, cc_I, cc_A, cc_N, Nat.reduceAdd, Nat.reduceLT, Nat.reduceLeDiff, Nat.reduceEqDiff, not_true, not_false_iff, z1_0, z1_1, Bool.and_self, Bool.true_and, Bool.and_true, nI_add, pk_mul, nI_clamp, decide_true, Nat.le_refl, bI_eq, bI_z1, nI_ltI, nI_leI, k18, k398, k418, hbt, i3, nI_z, z_10, hni]
          refine go_at (blk := b_Model_kneelsBy_66) rfl ?_
          simp (disch := omega) only [b_Model_kneelsBy_66, be_1, be_51, List.getD_cons_zero, List.getD_cons_succ, List.set_cons_zero, List.set_cons_succ, List.length_cons, List.length_nil, pk_I, pk_A, pr_A, pi_I, st_s, st_n, if_true, if_false, eq_self, d_if, d_ju, d_re, d_ca, cat0, cat1, cat2, cat3, fr_z, fr_s, cc_I, cc_A, cc_N, Nat.reduceAdd, Nat.reduceLT, Nat.reduceLeDiff, Nat.reduceEqDiff, not_true, not_false_iff, z1_0, z1_1, Bool.and_self, Bool.true_and, Bool.and_true, nI_add, pk_mul, nI_clamp, decide_true, Nat.le_refl, bI_eq, bI_z1, nI_ltI, nI_leI, k18, k398, k418, hbt, i3, nI_z, z_10, hni]
          refine go_at (blk := b_Model_kneelsBy_71) rfl ?_
          simp (disch := omega) only [b_Model_kneelsBy_71, be_43, be_10, be_51, ka_419, List.getD_cons_zero, List.getD_cons_succ, List.set_cons_zero, List.set_cons_succ, List.length_cons, List.length_nil, pk_I, pk_A, pr_A, pi_I, st_s, st_n, if_true, if_false, eq_self, d_if, d_ju, d_re, d_ca, cat0, cat1, cat2, cat3, fr_z, fr_s, cc_I, cc_A, cc_N, Nat.reduceAdd, Nat.reduceLT, Nat.reduceLeDiff, Nat.reduceEqDiff, not_true, not_false_iff, z1_0, z1_1, Bool.and_self, Bool.true_and, Bool.and_true, nI_add, pk_mul, nI_clamp, decide_true, Nat.le_refl, bI_eq, bI_z1, nI_ltI, nI_leI, k18, k398, k418, hbt, i3, nI_z, z_10, hni]
          refine ih (am_u x.1 419 (8 + i) (nI 1), .int _) ⟨MF_t i1 (MF_row (by omega)), ?_, rfl, ?_⟩
          · rw [← kr_s (x := nI 1) (by rw [if_pos hb]; rfl)]
            exact MR_row i2
          · intro p hp hb2
            by_cases hpi : p = i
            · subst hpi
              exact ⟨by omega, hm⟩
            · exact i4 p (by omega) hb2
        · rename_i hm
          have hm : mayB f (-1) (tS T) i = false := by simpa using hm
          refine go_at (blk := b_Model_kneelsBy_52) rfl ?_
          simp (disch := omega) only [b_Model_kneelsBy_52, be_1, be_73, List.getD_cons_zero, List.getD_cons_succ, List.set_cons_zero, List.set_cons_succ, List.length_cons, List.length_nil, pk_I, pk_A, pr_A, pi_I, st_s, st_n, if_true, if_false, eq_self, d_if, d_ju, d_re, d_ca, cat0, cat1, cat2, cat3, fr_z, fr_s, cc_I, cc_A, cc_N, Nat.reduceAdd, Nat.reduceLT, Nat.reduceLeDiff, Nat.reduceEqDiff, not_true, not_false_iff, z1_0, z1_1, Bool.and_self, Bool.true_and, Bool.and_true, nI_add, pk_mul, nI_clamp, decide_true, Nat.le_refl, bI_eq, bI_z1, nI_ltI, nI_leI, k18, k398, k418, hbt, i3, nI_z, z_10, hni]
          rw [sb_no hs h8 (by omega) hb (fun z => by rw [hm] at z; cases z.2)] at hQ
          exact hQ x.1 i1 (fun z => by cases z)
  · intro x ⟨i1, i2, i3, i4⟩
    try dsimp only at *
    refine go_at (blk := b_Model_kneelsBy_6) rfl ?_
    simp (disch := omega) only [b_Model_kneelsBy_6, be_4, be_1, be_49_3, List.getD_cons_zero, List.getD_cons_succ, List.set_cons_zero, List.set_cons_succ, List.length_cons, List.length_nil, pk_I, pk_A, pr_A, pi_I, st_s, st_n, if_true, if_false, eq_self, d_if, d_ju, d_re, d_ca, cat0, cat1, cat2, cat3, fr_z, fr_s, cc_I, cc_A, cc_N, Nat.reduceAdd, Nat.reduceLT, Nat.reduceLeDiff, Nat.reduceEqDiff, not_true, not_false_iff, z1_0, z1_1, Bool.and_self, Bool.true_and, Bool.and_true, nI_add, pk_mul, nI_clamp, decide_true, Nat.le_refl, bI_eq, bI_z1, nI_ltI, nI_leI]
    refine go_at (blk := b_Model_kneelsBy_78) rfl ?_
    simp (disch := omega) only [b_Model_kneelsBy_78, be_1, be_73, List.getD_cons_zero, List.getD_cons_succ, List.set_cons_zero, List.set_cons_succ, List.length_cons, List.length_nil, pk_I, pk_A, pr_A, pi_I, st_s, st_n, if_true, if_false, eq_self, d_if, d_ju, d_re, d_ca, cat0, cat1, cat2, cat3, fr_z, fr_s, cc_I, cc_A, cc_N, Nat.reduceAdd, Nat.reduceLT, Nat.reduceLeDiff, Nat.reduceEqDiff, not_true, not_false_iff, z1_0, z1_1, Bool.and_self, Bool.true_and, Bool.and_true, nI_add, pk_mul, nI_clamp, decide_true, Nat.le_refl, bI_eq, bI_z1, nI_ltI, nI_leI]
    have hc := (sb_bit (f := f) hs h8).mpr i4
    rw [hc] at hQ
    rw [kr_8] at i2
    exact hQ x.1 i1 (fun _ => i2)
