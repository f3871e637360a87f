/-! laid by wip/whole/m14.py: the reference: kneelers -/
theorem su_g {g : Nat → Int32} {s i : Nat} (h : ¬ s.testBit i = true) : suS g s (i + 1) = suS g s i := by
  rw [su_f h, nI_z, Int32.add_zero]
theorem cnt_not (g : Nat → Bool) (n : Nat) : cnt g n + cnt (fun p => !g p) n = n := by
  induction n with
  | zero => rfl
  | succ n ih =>
    cases hg : g n with
    | false => rw [cnt_f hg, cnt_t (g := fun p => !g p) (by simp [hg])]; omega
    | true => rw [cnt_t hg, cnt_f (g := fun p => !g p) (by simp [hg])]; omega
theorem cn_df {a b n k x y : Nat} (ha : a + x = n) (hb : b + y = n) (hn : n ≤ 8) (hk : k ≤ 8) : (nI k ≤ nI a - nI b) ↔ x + k ≤ y := by
  have e : (nI a - nI b).toInt = (a : Int) - b := by
    rw [Int32.toInt_sub, nI_toInt (by omega), nI_toInt (by omega), Int.bmod_eq_of_le (by omega) (by omega)]
  rw [Int32.le_iff_toInt_le, e, nI_toInt (by omega)]
  omega
theorem bt_p : ∀ n, n ≤ 8 → nI 1 <<< (nI n &&& 31) = nI (2 ^ n) := by decide +kernel
theorem p2_8 {n : Nat} (h : n ≤ 8) : 2 ^ n ≤ 256 := (show 2 ^ n ≤ 2 ^ 8 from Nat.pow_le_pow_right (by omega) h)
theorem sb_up {T : TXT} {f : Nat → Int32} {s : Nat} (hs : s < 256) (h8 : tN T ≤ 8) (h : 2 ^ tN T ≤ s) : sbB s (mayM T f) = false := by
  cases hc : sbB s (mayM T f) with
  | false => rfl
  | true =>
    have hl : mayM T f < 2 ^ tN T := wb_lt _
    have := p2_8 h8
    have h3 := (sb_iff s hs (mayM T f) (by omega)).mp hc
    have h4 : s &&& mayM T f ≤ mayM T f := Nat.and_le_right
    omega
theorem ck_up {T : TXT} {f : Nat → Int32} {k n : Nat} (h8 : tN T ≤ 8) : ∀ m, 2 ^ tN T + m ≤ 256 → ckS T f k n (2 ^ tN T + m) = ckS T f k n (2 ^ tN T) := by
  intro m
  induction m with
  | zero => intro _; rfl
  | succ m ih =>
    intro hm
    have h0 : ckP T f k n (2 ^ tN T + m) (ckS T f k n (2 ^ tN T + m)) = false := by
      unfold ckP
      rw [sb_up (by omega) h8 (by omega)]
      rfl
    exact (ck_f h0).trans (ih (by omega))
theorem ck_256 {T : TXT} {f : Nat → Int32} {k n : Nat} (h8 : tN T ≤ 8) : ckS T f k n 256 = ckS T f k n (2 ^ tN T) := by
  have h := ck_up (f := f) (k := k) (n := n) h8 (256 - 2 ^ tN T) (by have := p2_8 h8; omega)
  rw [show 2 ^ tN T + (256 - 2 ^ tN T) = 256 by have := p2_8 h8; omega] at h
  exact h
def ckB : Option Nat → Int32
  | none => -2
  | some b => nI b
def ckL (T : TXT) : Option Nat → Int32
  | none => -2
  | some b => suS (tW T) b (tN T)
theorem ckB_n : ckB none = -2 := rfl
theorem ckB_s {b : Nat} : ckB (some b) = nI b := rfl
theorem ckL_n {T : TXT} : ckL T none = -2 := rfl
theorem ckL_s {T : TXT} {b : Nat} : ckL T (some b) = suS (tW T) b (tN T) := rfl
theorem m2_neg : ((-2 : Int32) < 0) ↔ True := by decide
set_option maxHeartbeats 1000000 in
theorem r_sum400 {d : Nat} {v : Nat → Nat → Int32} {w : Nat → Nat → Int64} {Q : Option Value → am_H → Prop} {T : TXT} {lv : Nat} {f : Nat → Int32} {B : Int} (hM : MI B v T lv f) {s : Nat} (hs : s < 256) (hQ : Q (some (.int (suS (tK T) s (tN T)))) (428, 26053, KD, RF, v, w)) : am_Ca (d + 1) M_Model_sumOf [.ref 388, .int (nI s), .ref 400] (428, 26053, KD, RF, v, w) Q := by
  have h8 := hM.2.2.2.2.1.1
  obtain ⟨k18, hlv, k398, _⟩ := hM.1.1
  have k418 : v 418 = f := hM.2.1
  refine ca_in (k := k_Model_sumOf) (nL := 5) rfl (Nat.le_of_ble_eq_true rfl) ?_
  show am_Go am_X0 _ k_Model_sumOf 0 ([.ref 388, .int (nI s), .ref 400, .null, .null], [], _) _
  refine go_at (blk := b_Model_sumOf_0) rfl ?_
  simp (disch := omega) only [b_Model_sumOf_0, be_1, be_7, be_0, List.getD_cons_zero, List.getD_cons_succ, List.set_cons_zero, List.set_cons_succ, List.length_cons, List.length_nil, pk_I, pk_A, pr_A, pi_I, st_s, st_n, if_true, if_false, eq_self, d_if, d_ju, d_re, d_ca, cat0, cat1, cat2, cat3, fr_z, fr_s, cc_I, cc_A, cc_N, Nat.reduceAdd, Nat.reduceLT, Nat.reduceLeDiff, Nat.reduceEqDiff, not_true, not_false_iff, z1_0, z1_1, Bool.and_self, Bool.true_and, Bool.and_true, nI_add, pk_mul, nI_clamp, decide_true, Nat.le_refl, bI_eq, bI_z1]
  refine go_loopA (α := Unit) (fun i u => ([.ref 388, .int (nI s), .ref 400, .int (suS (tK T) s i), .int (nI i)], [], (428, 26053, KD, RF, v, w))) (fun i u => True) (tN T) ?_ ?_ () trivial
  · intro i _ hi _ ih
    try dsimp only at *
    have hni : ¬ tN T ≤ i := by omega
    have hbt := bt_1 s hs i (by omega)
    have e1 : v 400 (8 * lv + i) = tK T i := (hM.1.2.2.2.2.1 i (by omega)).symm
    refine go_at (blk := b_Model_sumOf_5) rfl ?_
    simp (disch := omega) only [b_Model_sumOf_5, be_4, be_6, be_34, be_33, be_38, be_49_3, kc_388, rf_388_23, ka_398, List.getD_cons_zero, List.getD_cons_succ, List.set_cons_zero, List.set_cons_succ, List.length_cons, List.length_nil, pk_I, pk_A, pr_A, pi_I, st_s, st_n, if_true, if_false, eq_self, d_if, d_ju, d_re, d_ca, cat0, cat1, cat2, cat3, fr_z, fr_s, cc_I, cc_A, cc_N, Nat.reduceAdd, Nat.reduceLT, Nat.reduceLeDiff, Nat.reduceEqDiff, not_true, not_false_iff, z1_0, z1_1, Bool.and_self, Bool.true_and, Bool.and_true, nI_add, pk_mul, nI_clamp, decide_true, Nat.le_refl, bI_eq, bI_z1, nI_ltI, nI_leI, k18, k398, hni, hbt, e1]
    refine go_at (blk := b_Model_sumOf_19) rfl ?_
    simp (disch := omega) only [b_Model_sumOf_19, be_4, be_22, be_1, be_18, be_49_1, List.getD_cons_zero, List.getD_cons_succ, List.set_cons_zero, List.set_cons_succ, List.length_cons, List.length_nil, pk_I, pk_A, pr_A, pi_I, st_s, st_n, if_true, if_false, eq_self, d_if, d_ju, d_re, d_ca, cat0, cat1, cat2, cat3, fr_z, fr_s, cc_I, cc_A, cc_N, Nat.reduceAdd, Nat.reduceLT, Nat.reduceLeDiff, Nat.reduceEqDiff, not_true, not_false_iff, z1_0, z1_1, Bool.and_self, Bool.true_and, Bool.and_true, nI_add, pk_mul, nI_clamp, decide_true, Nat.le_refl, bI_eq, bI_z1, nI_ltI, nI_leI, k18, k398, hni, hbt, e1]
    split
    · rename_i hb
      refine go_at (blk := b_Model_sumOf_44) rfl ?_
      simp (disch := omega) only [b_Model_sumOf_44, be_10, be_51, List.getD_cons_zero, List.getD_cons_succ, List.set_cons_zero, List.set_cons_succ, List.length_cons, List.length_nil, pk_I, pk_A, pr_A, pi_I, st_s, st_n, if_true, if_false, eq_self, d_if, d_ju, d_re, d_ca, cat0, cat1, cat2, cat3, fr_z, fr_s, cc_I, cc_A, cc_N, Nat.reduceAdd, Nat.reduceLT, Nat.reduceLeDiff, Nat.reduceEqDiff, not_true, not_false_iff, z1_0, z1_1, Bool.and_self, Bool.true_and, Bool.and_true, nI_add, pk_mul, nI_clamp, decide_true, Nat.le_refl, bI_eq, bI_z1, nI_ltI, nI_leI, k18, k398, hni, hbt, e1]
      simp only [su_g hb] at ih
      exact ih () trivial
    · rename_i hb
      have hb := Decidable.not_not.mp hb
      simp only [su_t hb] at ih
      refine go_at (blk := b_Model_sumOf_29) rfl ?_
      simp (disch := omega) only [b_Model_sumOf_29, be_4, be_6, be_1, be_33, be_14, be_12, be_38, be_7, be_0, kc_388, ka_400, List.getD_cons_zero, List.getD_cons_succ, List.set_cons_zero, List.set_cons_succ, List.length_cons, List.length_nil, pk_I, pk_A, pr_A, pi_I, st_s, st_n, if_true, if_false, eq_self, d_if, d_ju, d_re, d_ca, cat0, cat1, cat2, cat3, fr_z, fr_s, cc_I, cc_A, cc_N, Nat.reduceAdd, Nat.reduceLT, Nat.reduceLeDiff, Nat.reduceEqDiff, not_true, not_false_iff, z1_0, z1_1, Bool.and_self, Bool.true_and, Bool.and_true, nI_add, pk_mul, nI_clamp, decide_true, Nat.le_refl, bI_eq, bI_z1, nI_ltI, nI_leI, k18, k398, hni, hbt, e1]
      refine go_at (blk := b_Model_sumOf_44) rfl ?_
      simp (disch := omega) only [b_Model_sumOf_44, be_10, be_51, List.getD_cons_zero, List.getD_cons_succ, List.set_cons_zero, List.set_cons_succ, List.length_cons, List.length_nil, pk_I, pk_A, pr_A, pi_I, st_s, st_n, if_true, if_false, eq_self, d_if, d_ju, d_re, d_ca, cat0, cat1, cat2, cat3, fr_z, fr_s, cc_I, cc_A, cc_N, Nat.reduceAdd, Nat.reduceLT, Nat.reduceLeDiff, Nat.reduceEqDiff, not_true, not_false_iff, z1_0, z1_1, Bool.and_self, Bool.true_and, Bool.and_true, nI_add, pk_mul, nI_clamp, decide_true, Nat.le_refl, bI_eq, bI_z1, nI_ltI, nI_leI, k18, k398, hni, hbt, e1]
      exact ih () trivial
  · intro _ _
    try dsimp only at *
    refine go_at (blk := b_Model_sumOf_5) rfl ?_
    simp (disch := omega) only [b_Model_sumOf_5, be_4, be_6, be_34, be_33, be_38, be_49_3, kc_388, rf_388_23, ka_398, List.getD_cons_zero, List.getD_cons_succ, List.set_cons_zero, List.set_cons_succ, List.length_cons, List.length_nil, pk_I, pk_A, pr_A, pi_I, st_s, st_n, if_true, if_false, eq_self, d_if, d_ju, d_re, d_ca, cat0, cat1, cat2, cat3, fr_z, fr_s, cc_I, cc_A, cc_N, Nat.reduceAdd, Nat.reduceLT, Nat.reduceLeDiff, Nat.reduceEqDiff, not_true, not_false_iff, z1_0, z1_1, Bool.and_self, Bool.true_and, Bool.and_true, nI_add, pk_mul, nI_clamp, decide_true, Nat.le_refl, bI_eq, bI_z1, nI_ltI, nI_leI, k18, k398]
    refine go_at (blk := b_Model_sumOf_50) rfl ?_
    simp (disch := omega) only [b_Model_sumOf_50, be_4, be_54, List.getD_cons_zero, List.getD_cons_succ, List.set_cons_zero, List.set_cons_succ, List.length_cons, List.length_nil, pk_I, pk_A, pr_A, pi_I, st_s, st_n, if_true, if_false, eq_self, d_if, d_ju, d_re, d_ca, cat0, cat1, cat2, cat3, fr_z, fr_s, cc_I, cc_A, cc_N, Nat.reduceAdd, Nat.reduceLT, Nat.reduceLeDiff, Nat.reduceEqDiff, not_true, not_false_iff, z1_0, z1_1, Bool.and_self, Bool.true_and, Bool.and_true, nI_add, pk_mul, nI_clamp, decide_true, Nat.le_refl, bI_eq, bI_z1, nI_ltI, nI_leI, k18, k398]
    exact hQ
set_option maxHeartbeats 1000000 in
theorem r_sum403 {d : Nat} {v : Nat → Nat → Int32} {w : Nat → Nat → Int64} {Q : Option Value → am_H → Prop} {T : TXT} {lv : Nat} {f : Nat → Int32} {B : Int} (hM : MI B v T lv f) {s : Nat} (hs : s < 256) (hQ : Q (some (.int (suS (tW T) s (tN T)))) (428, 26053, KD, RF, v, w)) : am_Ca (d + 1) M_Model_sumOf [.ref 388, .int (nI s), .ref 403] (428, 26053, KD, RF, v, w) Q := by
  have h8 := hM.2.2.2.2.1.1
  obtain ⟨k18, hlv, k398, _⟩ := hM.1.1
  have k418 : v 418 = f := hM.2.1
  refine ca_in (k := k_Model_sumOf) (nL := 5) rfl (Nat.le_of_ble_eq_true rfl) ?_
  show am_Go am_X0 _ k_Model_sumOf 0 ([.ref 388, .int (nI s), .ref 403, .null, .null], [], _) _
  refine go_at (blk := b_Model_sumOf_0) rfl ?_
  simp (disch := omega) only [b_Model_sumOf_0, be_1, be_7, be_0, List.getD_cons_zero, List.getD_cons_succ, List.set_cons_zero, List.set_cons_succ, List.length_cons, List.length_nil, pk_I, pk_A, pr_A, pi_I, st_s, st_n, if_true, if_false, eq_self, d_if, d_ju, d_re, d_ca, cat0, cat1, cat2, cat3, fr_z, fr_s, cc_I, cc_A, cc_N, Nat.reduceAdd, Nat.reduceLT, Nat.reduceLeDiff, Nat.reduceEqDiff, not_true, not_false_iff, z1_0, z1_1, Bool.and_self, Bool.true_and, Bool.and_true, nI_add, pk_mul, nI_clamp, decide_true, Nat.le_refl, bI_eq, bI_z1]
  refine go_loopA (α := Unit) (fun i u => ([.ref 388, .int (nI s), .ref 403, .int (suS (tW T) s i), .int (nI i)], [], (428, 26053, KD, RF, v, w))) (fun i u => True) (tN T) ?_ ?_ () trivial
  · intro i _ hi _ ih
    try dsimp only at *
    have hni : ¬ tN T ≤ i := by omega
    have hbt := bt_1 s hs i (by omega)
    have e1 : v 403 (8 * lv + i) = tW T i := (hM.1.2.2.2.2.2.2.2.1 i (by omega)).symm
    refine go_at (blk := b_Model_sumOf_5) rfl ?_
    simp (disch := omega) only [b_Model_sumOf_5, be_4, be_6, be_34, be_33, be_38, be_49_3, kc_388, rf_388_23, ka_398, List.getD_cons_zero, List.getD_cons_succ, List.set_cons_zero, List.set_cons_succ, List.length_cons, List.length_nil, pk_I, pk_A, pr_A, pi_I, st_s, st_n, if_true, if_false, eq_self, d_if, d_ju, d_re, d_ca, cat0, cat1, cat2, cat3, fr_z, fr_s, cc_I, cc_A, cc_N, Nat.reduceAdd, Nat.reduceLT, Nat.reduceLeDiff, Nat.reduceEqDiff, not_true, not_false_iff, z1_0, z1_1, Bool.and_self, Bool.true_and, Bool.and_true, nI_add, pk_mul, nI_clamp, decide_true, Nat.le_refl, bI_eq, bI_z1, nI_ltI, nI_leI, k18, k398, hni, hbt, e1]
    refine go_at (blk := b_Model_sumOf_19) rfl ?_
    simp (disch := omega) only [b_Model_sumOf_19, be_4, be_22, be_1, be_18, be_49_1, List.getD_cons_zero, List.getD_cons_succ, List.set_cons_zero, List.set_cons_succ, List.length_cons, List.length_nil, pk_I, pk_A, pr_A, pi_I, st_s, st_n, if_true, if_false, eq_self, d_if, d_ju, d_re, d_ca, cat0, cat1, cat2, cat3, fr_z, fr_s, cc_I, cc_A, cc_N, Nat.reduceAdd, Nat.reduceLT, Nat.reduceLeDiff, Nat.reduceEqDiff, not_true, not_false_iff, z1_0, z1_1, Bool.and_self, Bool.true_and, Bool.and_true, nI_add, pk_mul, nI_clamp, decide_true, Nat.le_refl, bI_eq, bI_z1, nI_ltI, nI_leI, k18, k398, hni, hbt, e1]
    split
    · rename_i hb
      refine go_at (blk := b_Model_sumOf_44) rfl ?_
      simp (disch := omega) only [b_Model_sumOf_44, be_10, be_51, List.getD_cons_zero, List.getD_cons_succ, List.set_cons_zero, List.set_cons_succ, List.length_cons, List.length_nil, pk_I, pk_A, pr_A, pi_I, st_s, st_n, if_true, if_false, eq_self, d_if, d_ju, d_re, d_ca, cat0, cat1, cat2, cat3, fr_z, fr_s, cc_I, cc_A, cc_N, Nat.reduceAdd, Nat.reduceLT, Nat.reduceLeDiff, Nat.reduceEqDiff, not_true, not_false_iff, z1_0, z1_1, Bool.and_self, Bool.true_and, Bool.and_true, nI_add, pk_mul, nI_clamp, decide_true, Nat.le_refl, bI_eq, bI_z1, nI_ltI, nI_leI, k18, k398, hni, hbt, e1]
      simp only [su_g hb] at ih
      exact ih () trivial
    · rename_i hb
      have hb := Decidable.not_not.mp hb
      simp only [su_t hb] at ih
      refine go_at (blk := b_Model_sumOf_29) rfl ?_
      simp (disch := omega) only [b_Model_sumOf_29, be_4, be_6, be_1, be_33, be_14, be_12, be_38, be_7, be_0, kc_388, ka_403, List.getD_cons_zero, List.getD_cons_succ, List.set_cons_zero, List.set_cons_succ, List.length_cons, List.length_nil, pk_I, pk_A, pr_A, pi_I, st_s, st_n, if_true, if_false, eq_self, d_if, d_ju, d_re, d_ca, cat0, cat1, cat2, cat3, fr_z, fr_s, cc_I, cc_A, cc_N, Nat.reduceAdd, Nat.reduceLT, Nat.reduceLeDiff, Nat.reduceEqDiff, not_true, not_false_iff, z1_0, z1_1, Bool.and_self, Bool.true_and, Bool.and_true, nI_add, pk_mul, nI_clamp, decide_true, Nat.le_refl, bI_eq, bI_z1, nI_ltI, nI_leI, k18, k398, hni, hbt, e1]
      refine go_at (blk := b_Model_sumOf_44) rfl ?_
      simp (disch := omega) only [b_Model_sumOf_44, be_10, be_51, List.getD_cons_zero, List.getD_cons_succ, List.set_cons_zero, List.set_cons_succ, List.length_cons, List.length_nil, pk_I, pk_A, pr_A, pi_I, st_s, st_n, if_true, if_false, eq_self, d_if, d_ju, d_re, d_ca, cat0, cat1, cat2, cat3, fr_z, fr_s, cc_I, cc_A, cc_N, Nat.reduceAdd, Nat.reduceLT, Nat.reduceLeDiff, Nat.reduceEqDiff, not_true, not_false_iff, z1_0, z1_1, Bool.and_self, Bool.true_and, Bool.and_true, nI_add, pk_mul, nI_clamp, decide_true, Nat.le_refl, bI_eq, bI_z1, nI_ltI, nI_leI, k18, k398, hni, hbt, e1]
      exact ih () trivial
  · intro _ _
    try dsimp only at *
    refine go_at (blk := b_Model_sumOf_5) rfl ?_
    simp (disch := omega) only [b_Model_sumOf_5, be_4, be_6, be_34, be_33, be_38, be_49_3, kc_388, rf_388_23, ka_398, List.getD_cons_zero, List.getD_cons_succ, List.set_cons_zero, List.set_cons_succ, List.length_cons, List.length_nil, pk_I, pk_A, pr_A, pi_I, st_s, st_n, if_true, if_false, eq_self, d_if, d_ju, d_re, d_ca, cat0, cat1, cat2, cat3, fr_z, fr_s, cc_I, cc_A, cc_N, Nat.reduceAdd, Nat.reduceLT, Nat.reduceLeDiff, Nat.reduceEqDiff, not_true, not_false_iff, z1_0, z1_1, Bool.and_self, Bool.true_and, Bool.and_true, nI_add, pk_mul, nI_clamp, decide_true, Nat.le_refl, bI_eq, bI_z1, nI_ltI, nI_leI, k18, k398]
    refine go_at (blk := b_Model_sumOf_50) rfl ?_
    simp (disch := omega) only [b_Model_sumOf_50, be_4, be_54, List.getD_cons_zero, List.getD_cons_succ, List.set_cons_zero, List.set_cons_succ, List.length_cons, List.length_nil, pk_I, pk_A, pr_A, pi_I, st_s, st_n, if_true, if_false, eq_self, d_if, d_ju, d_re, d_ca, cat0, cat1, cat2, cat3, fr_z, fr_s, cc_I, cc_A, cc_N, Nat.reduceAdd, Nat.reduceLT, Nat.reduceLeDiff, Nat.reduceEqDiff, not_true, not_false_iff, z1_0, z1_1, Bool.and_self, Bool.true_and, Bool.and_true, nI_add, pk_mul, nI_clamp, decide_true, Nat.le_refl, bI_eq, bI_z1, nI_ltI, nI_leI, k18, k398]
    exact hQ
set_option maxHeartbeats 1000000 in
theorem r_onNow {d : Nat} {v : Nat → Nat → Int32} {w : Nat → Nat → Int64} {Q : Option Value → am_H → Prop} {T : TXT} {lv : Nat} {f : Nat → Int32} {B : Int} (hM : MI B v T lv f) (hQ : Q (some (.int (nI (cnt (onB f (-1)) (tN T))))) (428, 26053, KD, RF, v, w)) : am_Ca (d + 1) M_Model_onNow [.ref 388] (428, 26053, KD, RF, v, w) Q := by
  have h8 := hM.2.2.2.2.1.1
  obtain ⟨k18, hlv, k398, _⟩ := hM.1.1
  have k418 : v 418 = f := hM.2.1
  refine ca_in (k := k_Model_onNow) (nL := 3) rfl (Nat.le_of_ble_eq_true rfl) ?_
  show am_Go am_X0 _ k_Model_onNow 0 ([.ref 388, .null, .null], [], _) _
  refine go_at (blk := b_Model_onNow_0) rfl ?_
  simp (disch := omega) only [b_Model_onNow_0, be_1, be_7, be_0, List.getD_cons_zero, List.getD_cons_succ, List.set_cons_zero, List.set_cons_succ, List.length_cons, List.length_nil, pk_I, pk_A, pr_A, pi_I, st_s, st_n, if_true, if_false, eq_self, d_if, d_ju, d_re, d_ca, cat0, cat1, cat2, cat3, fr_z, fr_s, cc_I, cc_A, cc_N, Nat.reduceAdd, Nat.reduceLT, Nat.reduceLeDiff, Nat.reduceEqDiff, not_true, not_false_iff, z1_0, z1_1, Bool.and_self, Bool.true_and, Bool.and_true, nI_add, pk_mul, nI_clamp, decide_true, Nat.le_refl, bI_eq, bI_z1]
  refine go_loopA (α := Unit) (fun i u => ([.ref 388, .int (nI (cnt (onB f (-1)) i)), .int (nI i)], [], (428, 26053, KD, RF, v, w))) (fun i u => True) (tN T) ?_ ?_ () trivial
  · intro i _ hi _ ih
    try dsimp only at *
    have hni : ¬ tN T ≤ i := by omega
    refine go_at (blk := b_Model_onNow_4) rfl ?_
    simp (disch := omega) only [b_Model_onNow_4, be_4, be_6, be_34, be_33, be_38, be_49_3, kc_388, rf_388_23, ka_398, List.getD_cons_zero, List.getD_cons_succ, List.set_cons_zero, List.set_cons_succ, List.length_cons, List.length_nil, pk_I, pk_A, pr_A, pi_I, st_s, st_n, if_true, if_false, eq_self, d_if, d_ju, d_re, d_ca, cat0, cat1, cat2, cat3, fr_z, fr_s, cc_I, cc_A, cc_N, Nat.reduceAdd, Nat.reduceLT, Nat.reduceLeDiff, Nat.reduceEqDiff, not_true, not_false_iff, z1_0, z1_1, Bool.and_self, Bool.true_and, Bool.and_true, nI_add, pk_mul, nI_clamp, decide_true, Nat.le_refl, bI_eq, bI_z1, nI_ltI, nI_leI, k18, k398, k418, hni]
    refine go_at (blk := b_Model_onNow_17) rfl ?_
    simp (disch := omega) only [b_Model_onNow_17, be_6, be_34, be_1, be_4, be_12, be_38, be_2, be_49_1, kc_388, rf_388_47, ka_418, List.getD_cons_zero, List.getD_cons_succ, List.set_cons_zero, List.set_cons_succ, List.length_cons, List.length_nil, pk_I, pk_A, pr_A, pi_I, st_s, st_n, if_true, if_false, eq_self, d_if, d_ju, d_re, d_ca, cat0, cat1, cat2, cat3, fr_z, fr_s, cc_I, cc_A, cc_N, Nat.reduceAdd, Nat.reduceLT, Nat.reduceLeDiff, Nat.reduceEqDiff, not_true, not_false_iff, z1_0, z1_1, Bool.and_self, Bool.true_and, Bool.and_true, nI_add, pk_mul, nI_clamp, decide_true, Nat.le_refl, bI_eq, bI_z1, nI_ltI, nI_leI, k18, k398, k418, hni]
    split
    · rename_i hb
      refine go_at (blk := b_Model_onNow_33) rfl ?_
      simp (disch := omega) only [b_Model_onNow_33, be_10, be_51, List.getD_cons_zero, List.getD_cons_succ, List.set_cons_zero, List.set_cons_succ, List.length_cons, List.length_nil, pk_I, pk_A, pr_A, pi_I, st_s, st_n, if_true, if_false, eq_self, d_if, d_ju, d_re, d_ca, cat0, cat1, cat2, cat3, fr_z, fr_s, cc_I, cc_A, cc_N, Nat.reduceAdd, Nat.reduceLT, Nat.reduceLeDiff, Nat.reduceEqDiff, not_true, not_false_iff, z1_0, z1_1, Bool.and_self, Bool.true_and, Bool.and_true, nI_add, pk_mul, nI_clamp, decide_true, Nat.le_refl, bI_eq, bI_z1, nI_ltI, nI_leI, k18, k398, k418, hni]
      have hb : onB f (-1) i = false := by unfold onB; rw [decide_eq_false hb, Bool.false_and]
      simp only [cnt_f (g := (onB f (-1))) hb] at ih
      exact ih () trivial
    · rename_i hb
      have hb : onB f (-1) i = true := on_m1 (by omega) (Decidable.not_not.mp hb)
      refine go_at (blk := b_Model_onNow_30) rfl ?_
      simp (disch := omega) only [b_Model_onNow_30, be_10, be_0, List.getD_cons_zero, List.getD_cons_succ, List.set_cons_zero, List.set_cons_succ, List.length_cons, List.length_nil, pk_I, pk_A, pr_A, pi_I, st_s, st_n, if_true, if_false, eq_self, d_if, d_ju, d_re, d_ca, cat0, cat1, cat2, cat3, fr_z, fr_s, cc_I, cc_A, cc_N, Nat.reduceAdd, Nat.reduceLT, Nat.reduceLeDiff, Nat.reduceEqDiff, not_true, not_false_iff, z1_0, z1_1, Bool.and_self, Bool.true_and, Bool.and_true, nI_add, pk_mul, nI_clamp, decide_true, Nat.le_refl, bI_eq, bI_z1, nI_ltI, nI_leI, k18, k398, k418, hni]
      refine go_at (blk := b_Model_onNow_33) rfl ?_
      simp (disch := omega) only [b_Model_onNow_33, be_10, be_51, List.getD_cons_zero, List.getD_cons_succ, List.set_cons_zero, List.set_cons_succ, List.length_cons, List.length_nil, pk_I, pk_A, pr_A, pi_I, st_s, st_n, if_true, if_false, eq_self, d_if, d_ju, d_re, d_ca, cat0, cat1, cat2, cat3, fr_z, fr_s, cc_I, cc_A, cc_N, Nat.reduceAdd, Nat.reduceLT, Nat.reduceLeDiff, Nat.reduceEqDiff, not_true, not_false_iff, z1_0, z1_1, Bool.and_self, Bool.true_and, Bool.and_true, nI_add, pk_mul, nI_clamp, decide_true, Nat.le_refl, bI_eq, bI_z1, nI_ltI, nI_leI, k18, k398, k418, hni]
      simp only [cnt_t (g := (onB f (-1))) hb] at ih
      exact ih () trivial
  · intro _ _
    try dsimp only at *
    refine go_at (blk := b_Model_onNow_4) rfl ?_
    simp (disch := omega) only [b_Model_onNow_4, be_4, be_6, be_34, be_33, be_38, be_49_3, kc_388, rf_388_23, ka_398, List.getD_cons_zero, List.getD_cons_succ, List.set_cons_zero, List.set_cons_succ, List.length_cons, List.length_nil, pk_I, pk_A, pr_A, pi_I, st_s, st_n, if_true, if_false, eq_self, d_if, d_ju, d_re, d_ca, cat0, cat1, cat2, cat3, fr_z, fr_s, cc_I, cc_A, cc_N, Nat.reduceAdd, Nat.reduceLT, Nat.reduceLeDiff, Nat.reduceEqDiff, not_true, not_false_iff, z1_0, z1_1, Bool.and_self, Bool.true_and, Bool.and_true, nI_add, pk_mul, nI_clamp, decide_true, Nat.le_refl, bI_eq, bI_z1, nI_ltI, nI_leI, k18, k398, k418]
    refine go_at (blk := b_Model_onNow_39) rfl ?_
    simp (disch := omega) only [b_Model_onNow_39, be_4, be_54, List.getD_cons_zero, List.getD_cons_succ, List.set_cons_zero, List.set_cons_succ, List.length_cons, List.length_nil, pk_I, pk_A, pr_A, pi_I, st_s, st_n, if_true, if_false, eq_self, d_if, d_ju, d_re, d_ca, cat0, cat1, cat2, cat3, fr_z, fr_s, cc_I, cc_A, cc_N, Nat.reduceAdd, Nat.reduceLT, Nat.reduceLeDiff, Nat.reduceEqDiff, not_true, not_false_iff, z1_0, z1_1, Bool.and_self, Bool.true_and, Bool.and_true, nI_add, pk_mul, nI_clamp, decide_true, Nat.le_refl, bI_eq, bI_z1, nI_ltI, nI_leI, k18, k398, k418]
    exact hQ
set_option maxHeartbeats 1000000 in
theorem r_kneelers {d : Nat} {v : Nat → Nat → Int32} {w : Nat → Nat → Int64} {Q : Option Value → am_H → Prop} {T : TXT} {lv : Nat} {f : Nat → Int32} {B : Int} (hM : MI B v T lv f) {y x z : Int32} (hQ : ∀ v', MF v v' → Q (some (.int (ckA T f y x z))) (428, 26053, KD, RF, v', w)) : am_Ca (d + 7) M_Model_kneelers [.ref 388, .int y, .int x, .int z] (428, 26053, KD, RF, v, w) Q := by
  have h8 := hM.2.2.2.2.1.1
  refine ca_in (k := k_Model_kneelers) (nL := 8) rfl (Nat.le_of_ble_eq_true rfl) ?_
  show am_Go am_X0 _ k_Model_kneelers 0 ([.ref 388, .int y, .int x, .int z, .null, .null, .null, .null], [], _) _
  refine go_at (blk := b_Model_kneelers_0) rfl ?_
  simp (disch := omega) only [b_Model_kneelers_0, be_4, be_1, be_58_3, List.getD_cons_zero, List.getD_cons_succ, List.set_cons_zero, List.set_cons_succ, List.length_cons, List.length_nil, pk_I, pk_A, pr_A, pi_I, st_s, st_n, if_true, if_false, eq_self, d_if, d_ju, d_re, d_ca, cat0, cat1, cat2, cat3, fr_z, fr_s, cc_I, cc_A, cc_N, Nat.reduceAdd, Nat.reduceLT, Nat.reduceLeDiff, Nat.reduceEqDiff, not_true, not_false_iff, z1_0, z1_1, Bool.and_self, Bool.true_and, Bool.and_true, nI_add, pk_mul, nI_clamp, decide_true, Nat.le_refl, bI_eq, bI_z1]
  refine m_in ?_
  rw [show inB y (nI 1) (nI 8) = (!decide (y < nI 1) && !decide (nI 8 < y)) from rfl]
  refine go_at (blk := b_Model_kneelers_7) rfl ?_
  simp (disch := omega) only [b_Model_kneelers_7, be_50_0, List.getD_cons_zero, List.getD_cons_succ, List.set_cons_zero, List.set_cons_succ, List.length_cons, List.length_nil, pk_I, pk_A, pr_A, pi_I, st_s, st_n, if_true, if_false, eq_self, d_if, d_ju, d_re, d_ca, cat0, cat1, cat2, cat3, fr_z, fr_s, cc_I, cc_A, cc_N, Nat.reduceAdd, Nat.reduceLT, Nat.reduceLeDiff, Nat.reduceEqDiff, not_true, not_false_iff, z1_0, z1_1, Bool.and_self, Bool.true_and, Bool.and_true, nI_add, pk_mul, nI_clamp, decide_true, Nat.le_refl, bI_eq, bI_z1]
  split
  · rename_i h0
    have h0 : (!decide (y < nI 1) && !decide (nI 8 < y)) = false := by simpa using h0
    refine go_at (blk := b_Model_kneelers_30) rfl ?_
    simp (disch := omega) only [b_Model_kneelers_30, be_2, be_54, List.getD_cons_zero, List.getD_cons_succ, List.set_cons_zero, List.set_cons_succ, List.length_cons, List.length_nil, pk_I, pk_A, pr_A, pi_I, st_s, st_n, if_true, if_false, eq_self, d_if, d_ju, d_re, d_ca, cat0, cat1, cat2, cat3, fr_z, fr_s, cc_I, cc_A, cc_N, Nat.reduceAdd, Nat.reduceLT, Nat.reduceLeDiff, Nat.reduceEqDiff, not_true, not_false_iff, z1_0, z1_1, Bool.and_self, Bool.true_and, Bool.and_true, nI_add, pk_mul, nI_clamp, decide_true, Nat.le_refl, bI_eq, bI_z1]
    unfold ckA at hQ
    rw [if_neg (by rw [h0]; simp)] at hQ
    exact hQ v MF_r
  · rename_i h0
    have h0 : (!decide (y < nI 1) && !decide (nI 8 < y)) = true := by simpa using h0
    refine go_at (blk := b_Model_kneelers_10) rfl ?_
    simp (disch := omega) only [b_Model_kneelers_10, be_4, be_1, be_58_3, List.getD_cons_zero, List.getD_cons_succ, List.set_cons_zero, List.set_cons_succ, List.length_cons, List.length_nil, pk_I, pk_A, pr_A, pi_I, st_s, st_n, if_true, if_false, eq_self, d_if, d_ju, d_re, d_ca, cat0, cat1, cat2, cat3, fr_z, fr_s, cc_I, cc_A, cc_N, Nat.reduceAdd, Nat.reduceLT, Nat.reduceLeDiff, Nat.reduceEqDiff, not_true, not_false_iff, z1_0, z1_1, Bool.and_self, Bool.true_and, Bool.and_true, nI_add, pk_mul, nI_clamp, decide_true, Nat.le_refl, bI_eq, bI_z1]
    refine m_in ?_
    rw [show inB x (nI 1) (nI 300) = spnB x from rfl]
    refine go_at (blk := b_Model_kneelers_18) rfl ?_
    simp (disch := omega) only [b_Model_kneelers_18, be_50_0, List.getD_cons_zero, List.getD_cons_succ, List.set_cons_zero, List.set_cons_succ, List.length_cons, List.length_nil, pk_I, pk_A, pr_A, pi_I, st_s, st_n, if_true, if_false, eq_self, d_if, d_ju, d_re, d_ca, cat0, cat1, cat2, cat3, fr_z, fr_s, cc_I, cc_A, cc_N, Nat.reduceAdd, Nat.reduceLT, Nat.reduceLeDiff, Nat.reduceEqDiff, not_true, not_false_iff, z1_0, z1_1, Bool.and_self, Bool.true_and, Bool.and_true, nI_add, pk_mul, nI_clamp, decide_true, Nat.le_refl, bI_eq, bI_z1]
    split
    · rename_i h1
      have h1 : spnB x = false := by simpa using h1
      refine go_at (blk := b_Model_kneelers_30) rfl ?_
      simp (disch := omega) only [b_Model_kneelers_30, be_2, be_54, List.getD_cons_zero, List.getD_cons_succ, List.set_cons_zero, List.set_cons_succ, List.length_cons, List.length_nil, pk_I, pk_A, pr_A, pi_I, st_s, st_n, if_true, if_false, eq_self, d_if, d_ju, d_re, d_ca, cat0, cat1, cat2, cat3, fr_z, fr_s, cc_I, cc_A, cc_N, Nat.reduceAdd, Nat.reduceLT, Nat.reduceLeDiff, Nat.reduceEqDiff, not_true, not_false_iff, z1_0, z1_1, Bool.and_self, Bool.true_and, Bool.and_true, nI_add, pk_mul, nI_clamp, decide_true, Nat.le_refl, bI_eq, bI_z1]
      unfold ckA at hQ
      rw [if_neg (by rw [h1]; simp)] at hQ
      exact hQ v MF_r
    · rename_i h1
      have h1 : spnB x = true := by simpa using h1
      refine go_at (blk := b_Model_kneelers_21) rfl ?_
      simp (disch := omega) only [b_Model_kneelers_21, be_4, be_1, be_58_3, List.getD_cons_zero, List.getD_cons_succ, List.set_cons_zero, List.set_cons_succ, List.length_cons, List.length_nil, pk_I, pk_A, pr_A, pi_I, st_s, st_n, if_true, if_false, eq_self, d_if, d_ju, d_re, d_ca, cat0, cat1, cat2, cat3, fr_z, fr_s, cc_I, cc_A, cc_N, Nat.reduceAdd, Nat.reduceLT, Nat.reduceLeDiff, Nat.reduceEqDiff, not_true, not_false_iff, z1_0, z1_1, Bool.and_self, Bool.true_and, Bool.and_true, nI_add, pk_mul, nI_clamp, decide_true, Nat.le_refl, bI_eq, bI_z1]
      refine m_in ?_
      rw [in_two]
      refine go_at (blk := b_Model_kneelers_27) rfl ?_
      simp (disch := omega) only [b_Model_kneelers_27, be_50_1, List.getD_cons_zero, List.getD_cons_succ, List.set_cons_zero, List.set_cons_succ, List.length_cons, List.length_nil, pk_I, pk_A, pr_A, pi_I, st_s, st_n, if_true, if_false, eq_self, d_if, d_ju, d_re, d_ca, cat0, cat1, cat2, cat3, fr_z, fr_s, cc_I, cc_A, cc_N, Nat.reduceAdd, Nat.reduceLT, Nat.reduceLeDiff, Nat.reduceEqDiff, not_true, not_false_iff, z1_0, z1_1, Bool.and_self, Bool.true_and, Bool.and_true, nI_add, pk_mul, nI_clamp, decide_true, Nat.le_refl, bI_eq, bI_z1]
      split
      · rename_i h2
        have h2 : twoB z = true := by simpa using h2
        unfold ckA at hQ
        rw [if_pos (by rw [h0, h1, h2]; rfl)] at hQ
        obtain ⟨k, _, hk, rfl, e⟩ := lim1_of (m := 8) (by omega) (nd_f (Bool.and_eq_true_iff.mp h0).1) (nd_f (Bool.and_eq_true_iff.mp h0).2)
        rw [e] at hQ
        obtain ⟨n, _, hn, rfl, en⟩ := spn_of h1
        rw [en] at hQ
        obtain ⟨N, hN, hN2, hbp⟩ : ∃ N, N = 2 ^ tN T ∧ N ≤ 256 ∧ nI 1 <<< (nI (tN T) &&& 31) = nI N := ⟨_, rfl, p2_8 h8, bt_p _ h8⟩
        rw [ck_256 h8, ← hN] at hQ
        show am_Go am_X0 _ k_Model_kneelers 32 _ _
        refine go_at (blk := b_Model_kneelers_32) rfl ?_
        simp (disch := omega) only [b_Model_kneelers_32, be_2, be_7, be_1, be_0, List.getD_cons_zero, List.getD_cons_succ, List.set_cons_zero, List.set_cons_succ, List.length_cons, List.length_nil, pk_I, pk_A, pr_A, pi_I, st_s, st_n, if_true, if_false, eq_self, d_if, d_ju, d_re, d_ca, cat0, cat1, cat2, cat3, fr_z, fr_s, cc_I, cc_A, cc_N, Nat.reduceAdd, Nat.reduceLT, Nat.reduceLeDiff, Nat.reduceEqDiff, not_true, not_false_iff, z1_0, z1_1, Bool.and_self, Bool.true_and, Bool.and_true, nI_add, pk_mul, nI_clamp, decide_true, Nat.le_refl, bI_eq, bI_z1]
        refine go_loopA (α := (Nat → Nat → Int32) × Value) (fun i x => ([.ref 388, .int (nI k), .int (nI n), .int z, .int (ckB (ckS T f k n i)), .int (ckL T (ckS T f k n i)), .int (nI i), x.2], [], (428, 26053, KD, RF, x.1, w))) (fun i x => MF v x.1 ∧ am_cc x.2 = true) (N) ?_ ?_ (v, .null) ⟨MF_r, rfl⟩
        · intro i x hi ⟨x1, x2⟩ ih
          try dsimp only at *
          have hni : ¬ N ≤ i := by omega
          have hMx : MI B x.1 T lv f := MI_f hM x1
          obtain ⟨k18, hlv, k398, _⟩ := (MI_f hM x1).1.1
          have k418 : x.1 418 = f := (MI_f hM x1).2.1
          cases hcs : ckS T f k n i with
          | none =>
            refine go_at (blk := b_Model_kneelers_43) rfl ?_
            simp (disch := omega) only [b_Model_kneelers_43, be_4, be_1, be_6, be_34, be_33, be_38, be_21, be_49_3, kc_388, rf_388_23, ka_398, List.getD_cons_zero, List.getD_cons_succ, List.set_cons_zero, List.set_cons_succ, List.length_cons, List.length_nil, pk_I, pk_A, pr_A, pi_I, st_s, st_n, if_true, if_false, eq_self, d_if, d_ju, d_re, d_ca, cat0, cat1, cat2, cat3, fr_z, fr_s, cc_I, cc_A, cc_N, Nat.reduceAdd, Nat.reduceLT, Nat.reduceLeDiff, Nat.reduceEqDiff, not_true, not_false_iff, z1_0, z1_1, Bool.and_self, Bool.true_and, Bool.and_true, nI_add, pk_mul, nI_clamp, decide_true, Nat.le_refl, bI_eq, bI_z1, nI_ltI, nI_leI, k18, k398, hbp, hni, x2, ckB_n, ckL_n, m2_neg]
            refine go_at (blk := b_Model_kneelers_59) rfl ?_
            simp (disch := omega) only [b_Model_kneelers_59, be_6, be_4, be_57_1, kc_388, List.getD_cons_zero, List.getD_cons_succ, List.set_cons_zero, List.set_cons_succ, List.length_cons, List.length_nil, pk_I, pk_A, pr_A, pi_I, st_s, st_n, if_true, if_false, eq_self, d_if, d_ju, d_re, d_ca, cat0, cat1, cat2, cat3, fr_z, fr_s, cc_I, cc_A, cc_N, Nat.reduceAdd, Nat.reduceLT, Nat.reduceLeDiff, Nat.reduceEqDiff, not_true, not_false_iff, z1_0, z1_1, Bool.and_self, Bool.true_and, Bool.and_true, nI_add, pk_mul, nI_clamp, decide_true, Nat.le_refl, bI_eq, bI_z1, nI_ltI, nI_leI, k18, k398, hbp, hni, x2, ckB_n, ckL_n, m2_neg]
            refine r_kneelsBy hMx (by omega) ?_
            intro v2 q2 r2
            have f2 := MF_t x1 q2
            refine go_at (blk := b_Model_kneelers_65) rfl ?_
            simp (disch := omega) only [b_Model_kneelers_65, be_50_1, List.getD_cons_zero, List.getD_cons_succ, List.set_cons_zero, List.set_cons_succ, List.length_cons, List.length_nil, pk_I, pk_A, pr_A, pi_I, st_s, st_n, if_true, if_false, eq_self, d_if, d_ju, d_re, d_ca, cat0, cat1, cat2, cat3, fr_z, fr_s, cc_I, cc_A, cc_N, Nat.reduceAdd, Nat.reduceLT, Nat.reduceLeDiff, Nat.reduceEqDiff, not_true, not_false_iff, z1_0, z1_1, Bool.and_self, Bool.true_and, Bool.and_true, nI_add, pk_mul, nI_clamp, decide_true, Nat.le_refl, bI_eq, bI_z1, nI_ltI, nI_leI, k18, k398, hbp, hni, x2, ckB_n, ckL_n, m2_neg]
            split
            · rename_i hs
              have hs : sbB i (mayM T f) = true := by simpa using hs
              refine go_at (blk := b_Model_kneelers_71) rfl ?_
              simp (disch := omega) only [b_Model_kneelers_71, be_6, be_4, be_57_1, kc_388, List.getD_cons_zero, List.getD_cons_succ, List.set_cons_zero, List.set_cons_succ, List.length_cons, List.length_nil, pk_I, pk_A, pr_A, pi_I, st_s, st_n, if_true, if_false, eq_self, d_if, d_ju, d_re, d_ca, cat0, cat1, cat2, cat3, fr_z, fr_s, cc_I, cc_A, cc_N, Nat.reduceAdd, Nat.reduceLT, Nat.reduceLeDiff, Nat.reduceEqDiff, not_true, not_false_iff, z1_0, z1_1, Bool.and_self, Bool.true_and, Bool.and_true, nI_add, pk_mul, nI_clamp, decide_true, Nat.le_refl, bI_eq, bI_z1, nI_ltI, nI_leI, k18, k398, hbp, hni, x2, ckB_n, ckL_n, m2_neg]
              refine r_goes (k := n) (by omega) (MX_f hM.1 f2) (r2 hs) ?_
              intro v3 q3 r3
              have f3 := MF_t f2 q3
              obtain ⟨k18, _, k398, _⟩ := (MI_f hM f3).1.1
              have hdf : (nI k ≤ nI (cnt (onB f (-1)) (tN T)) - nI (cnt (onB (itT T (-1) 0 n (knS i f)) (-1)) (tN T))) ↔ arN T f + k ≤ arN T (itT T (-1) 0 n (knS i f)) := cn_df (cnt_not (onB f (-1)) (tN T)) (cnt_not (onB (itT T (-1) 0 n (knS i f)) (-1)) (tN T)) h8 hk
              refine go_at (blk := b_Model_kneelers_76) rfl ?_
              simp (disch := omega) only [b_Model_kneelers_76, be_6, be_57_0, kc_388, List.getD_cons_zero, List.getD_cons_succ, List.set_cons_zero, List.set_cons_succ, List.length_cons, List.length_nil, pk_I, pk_A, pr_A, pi_I, st_s, st_n, if_true, if_false, eq_self, d_if, d_ju, d_re, d_ca, cat0, cat1, cat2, cat3, fr_z, fr_s, cc_I, cc_A, cc_N, Nat.reduceAdd, Nat.reduceLT, Nat.reduceLeDiff, Nat.reduceEqDiff, not_true, not_false_iff, z1_0, z1_1, Bool.and_self, Bool.true_and, Bool.and_true, nI_add, pk_mul, nI_clamp, decide_true, Nat.le_refl, bI_eq, bI_z1, nI_ltI, nI_leI, k18, k398, hbp, hni, x2, ckB_n, ckL_n, m2_neg]
              refine r_onNow (MI_f hM f3) ?_
              refine go_at (blk := b_Model_kneelers_80) rfl ?_
              simp (disch := omega) only [b_Model_kneelers_80, be_6, be_57_0, kc_388, List.getD_cons_zero, List.getD_cons_succ, List.set_cons_zero, List.set_cons_succ, List.length_cons, List.length_nil, pk_I, pk_A, pr_A, pi_I, st_s, st_n, if_true, if_false, eq_self, d_if, d_ju, d_re, d_ca, cat0, cat1, cat2, cat3, fr_z, fr_s, cc_I, cc_A, cc_N, Nat.reduceAdd, Nat.reduceLT, Nat.reduceLeDiff, Nat.reduceEqDiff, not_true, not_false_iff, z1_0, z1_1, Bool.and_self, Bool.true_and, Bool.and_true, nI_add, pk_mul, nI_clamp, decide_true, Nat.le_refl, bI_eq, bI_z1, nI_ltI, nI_leI, k18, k398, hbp, hni, x2, ckB_n, ckL_n, m2_neg]
              refine r_onAll (MX_f hM.1 f3) r3 ?_
              refine go_at (blk := b_Model_kneelers_84) rfl ?_
              simp (disch := omega) only [b_Model_kneelers_84, be_13, be_4, be_49_3, List.getD_cons_zero, List.getD_cons_succ, List.set_cons_zero, List.set_cons_succ, List.length_cons, List.length_nil, pk_I, pk_A, pr_A, pi_I, st_s, st_n, if_true, if_false, eq_self, d_if, d_ju, d_re, d_ca, cat0, cat1, cat2, cat3, fr_z, fr_s, cc_I, cc_A, cc_N, Nat.reduceAdd, Nat.reduceLT, Nat.reduceLeDiff, Nat.reduceEqDiff, not_true, not_false_iff, z1_0, z1_1, Bool.and_self, Bool.true_and, Bool.and_true, nI_add, pk_mul, nI_clamp, decide_true, Nat.le_refl, bI_eq, bI_z1, nI_ltI, nI_leI, k18, k398, hbp, hni, x2, ckB_n, ckL_n, m2_neg, hdf]
              split
              · rename_i hg
                refine go_at (blk := b_Model_kneelers_92) rfl ?_
                simp (disch := omega) only [b_Model_kneelers_92, be_6, be_4, be_34, be_57_2, kc_388, rf_388_28, List.getD_cons_zero, List.getD_cons_succ, List.set_cons_zero, List.set_cons_succ, List.length_cons, List.length_nil, pk_I, pk_A, pr_A, pi_I, st_s, st_n, if_true, if_false, eq_self, d_if, d_ju, d_re, d_ca, cat0, cat1, cat2, cat3, fr_z, fr_s, cc_I, cc_A, cc_N, Nat.reduceAdd, Nat.reduceLT, Nat.reduceLeDiff, Nat.reduceEqDiff, not_true, not_false_iff, z1_0, z1_1, Bool.and_self, Bool.true_and, Bool.and_true, nI_add, pk_mul, nI_clamp, decide_true, Nat.le_refl, bI_eq, bI_z1, nI_ltI, nI_leI, k18, k398, hbp, hni, x2, ckB_n, ckL_n, m2_neg, hdf]
                refine r_sum403 (MI_f hM f3) (by omega) ?_
                refine go_at (blk := b_Model_kneelers_102) rfl ?_
                simp (disch := omega) only [b_Model_kneelers_102, be_7, be_4, be_50_2, List.getD_cons_zero, List.getD_cons_succ, List.set_cons_zero, List.set_cons_succ, List.length_cons, List.length_nil, pk_I, pk_A, pr_A, pi_I, st_s, st_n, if_true, if_false, eq_self, d_if, d_ju, d_re, d_ca, cat0, cat1, cat2, cat3, fr_z, fr_s, cc_I, cc_A, cc_N, Nat.reduceAdd, Nat.reduceLT, Nat.reduceLeDiff, Nat.reduceEqDiff, not_true, not_false_iff, z1_0, z1_1, Bool.and_self, Bool.true_and, Bool.and_true, nI_add, pk_mul, nI_clamp, decide_true, Nat.le_refl, bI_eq, bI_z1, nI_ltI, nI_leI, k18, k398, hbp, hni, x2, ckB_n, ckL_n, m2_neg, hdf]
                refine go_at (blk := b_Model_kneelers_149) rfl ?_
                simp (disch := omega) only [b_Model_kneelers_149, be_4, be_7, be_0, List.getD_cons_zero, List.getD_cons_succ, List.set_cons_zero, List.set_cons_succ, List.length_cons, List.length_nil, pk_I, pk_A, pr_A, pi_I, st_s, st_n, if_true, if_false, eq_self, d_if, d_ju, d_re, d_ca, cat0, cat1, cat2, cat3, fr_z, fr_s, cc_I, cc_A, cc_N, Nat.reduceAdd, Nat.reduceLT, Nat.reduceLeDiff, Nat.reduceEqDiff, not_true, not_false_iff, z1_0, z1_1, Bool.and_self, Bool.true_and, Bool.and_true, nI_add, pk_mul, nI_clamp, decide_true, Nat.le_refl, bI_eq, bI_z1, nI_ltI, nI_leI, k18, k398, hbp, hni, x2, ckB_n, ckL_n, m2_neg, hdf]
                refine go_at (blk := b_Model_kneelers_157) rfl ?_
                simp (disch := omega) only [b_Model_kneelers_157, be_10, be_51, List.getD_cons_zero, List.getD_cons_succ, List.set_cons_zero, List.set_cons_succ, List.length_cons, List.length_nil, pk_I, pk_A, pr_A, pi_I, st_s, st_n, if_true, if_false, eq_self, d_if, d_ju, d_re, d_ca, cat0, cat1, cat2, cat3, fr_z, fr_s, cc_I, cc_A, cc_N, Nat.reduceAdd, Nat.reduceLT, Nat.reduceLeDiff, Nat.reduceEqDiff, not_true, not_false_iff, z1_0, z1_1, Bool.and_self, Bool.true_and, Bool.and_true, nI_add, pk_mul, nI_clamp, decide_true, Nat.le_refl, bI_eq, bI_z1, nI_ltI, nI_leI, k18, k398, hbp, hni, x2, ckB_n, ckL_n, m2_neg, hdf]
                simp only [ck_t (show ckP T f k n i (ckS T f k n i) = true by rw [hcs]; unfold ckP; rw [show sbB i (mayM T f) = true from hs]; dsimp only; rw [decide_eq_true (p := arN T f + k ≤ arN T (itT T (-1) 0 n (knS i f))) hg]; rfl)] at ih
                exact ih (v3, .int _) ⟨f3, rfl⟩
              · rename_i hg
                refine go_at (blk := b_Model_kneelers_89) rfl ?_
                simp (disch := omega) only [b_Model_kneelers_89, be_51, List.getD_cons_zero, List.getD_cons_succ, List.set_cons_zero, List.set_cons_succ, List.length_cons, List.length_nil, pk_I, pk_A, pr_A, pi_I, st_s, st_n, if_true, if_false, eq_self, d_if, d_ju, d_re, d_ca, cat0, cat1, cat2, cat3, fr_z, fr_s, cc_I, cc_A, cc_N, Nat.reduceAdd, Nat.reduceLT, Nat.reduceLeDiff, Nat.reduceEqDiff, not_true, not_false_iff, z1_0, z1_1, Bool.and_self, Bool.true_and, Bool.and_true, nI_add, pk_mul, nI_clamp, decide_true, Nat.le_refl, bI_eq, bI_z1, nI_ltI, nI_leI, k18, k398, hbp, hni, x2, ckB_n, ckL_n, m2_neg, hdf]
                refine go_at (blk := b_Model_kneelers_157) rfl ?_
                simp (disch := omega) only [b_Model_kneelers_157, be_10, be_51, List.getD_cons_zero, List.getD_cons_succ, List.set_cons_zero, List.set_cons_succ, List.length_cons, List.length_nil, pk_I, pk_A, pr_A, pi_I, st_s, st_n, if_true, if_false, eq_self, d_if, d_ju, d_re, d_ca, cat0, cat1, cat2, cat3, fr_z, fr_s, cc_I, cc_A, cc_N, Nat.reduceAdd, Nat.reduceLT, Nat.reduceLeDiff, Nat.reduceEqDiff, not_true, not_false_iff, z1_0, z1_1, Bool.and_self, Bool.true_and, Bool.and_true, nI_add, pk_mul, nI_clamp, decide_true, Nat.le_refl, bI_eq, bI_z1, nI_ltI, nI_leI, k18, k398, hbp, hni, x2, ckB_n, ckL_n, m2_neg, hdf]
                simp only [ck_f (show ckP T f k n i (ckS T f k n i) = false by rw [hcs]; unfold ckP; rw [show sbB i (mayM T f) = true from hs]; dsimp only; rw [decide_eq_false (p := arN T f + k ≤ arN T (itT T (-1) 0 n (knS i f))) hg]; simp)] at ih
                rw [hcs] at ih
                exact ih (v3, x.2) ⟨f3, x2⟩
            · rename_i hs
              have hs : sbB i (mayM T f) = false := by simpa using hs
              refine go_at (blk := b_Model_kneelers_68) rfl ?_
              simp (disch := omega) only [b_Model_kneelers_68, be_51, List.getD_cons_zero, List.getD_cons_succ, List.set_cons_zero, List.set_cons_succ, List.length_cons, List.length_nil, pk_I, pk_A, pr_A, pi_I, st_s, st_n, if_true, if_false, eq_self, d_if, d_ju, d_re, d_ca, cat0, cat1, cat2, cat3, fr_z, fr_s, cc_I, cc_A, cc_N, Nat.reduceAdd, Nat.reduceLT, Nat.reduceLeDiff, Nat.reduceEqDiff, not_true, not_false_iff, z1_0, z1_1, Bool.and_self, Bool.true_and, Bool.and_true, nI_add, pk_mul, nI_clamp, decide_true, Nat.le_refl, bI_eq, bI_z1, nI_ltI, nI_leI, k18, k398, hbp, hni, x2, ckB_n, ckL_n, m2_neg]
              refine go_at (blk := b_Model_kneelers_157) rfl ?_
              simp (disch := omega) only [b_Model_kneelers_157, be_10, be_51, List.getD_cons_zero, List.getD_cons_succ, List.set_cons_zero, List.set_cons_succ, List.length_cons, List.length_nil, pk_I, pk_A, pr_A, pi_I, st_s, st_n, if_true, if_false, eq_self, d_if, d_ju, d_re, d_ca, cat0, cat1, cat2, cat3, fr_z, fr_s, cc_I, cc_A, cc_N, Nat.reduceAdd, Nat.reduceLT, Nat.reduceLeDiff, Nat.reduceEqDiff, not_true, not_false_iff, z1_0, z1_1, Bool.and_self, Bool.true_and, Bool.and_true, nI_add, pk_mul, nI_clamp, decide_true, Nat.le_refl, bI_eq, bI_z1, nI_ltI, nI_leI, k18, k398, hbp, hni, x2, ckB_n, ckL_n, m2_neg]
              simp only [ck_f (show ckP T f k n i (ckS T f k n i) = false by unfold ckP; rw [hs]; rfl)] at ih
              rw [hcs] at ih
              exact ih (v2, x.2) ⟨f2, x2⟩
          | some b =>
            have hb2 := ck_lt i hcs
            have hbm := nn_lt (i := b) (by omega)
            refine go_at (blk := b_Model_kneelers_43) rfl ?_
            simp (disch := omega) only [b_Model_kneelers_43, be_4, be_1, be_6, be_34, be_33, be_38, be_21, be_49_3, kc_388, rf_388_23, ka_398, List.getD_cons_zero, List.getD_cons_succ, List.set_cons_zero, List.set_cons_succ, List.length_cons, List.length_nil, pk_I, pk_A, pr_A, pi_I, st_s, st_n, if_true, if_false, eq_self, d_if, d_ju, d_re, d_ca, cat0, cat1, cat2, cat3, fr_z, fr_s, cc_I, cc_A, cc_N, Nat.reduceAdd, Nat.reduceLT, Nat.reduceLeDiff, Nat.reduceEqDiff, not_true, not_false_iff, z1_0, z1_1, Bool.and_self, Bool.true_and, Bool.and_true, nI_add, pk_mul, nI_clamp, decide_true, Nat.le_refl, bI_eq, bI_z1, nI_ltI, nI_leI, k18, k398, hbp, hni, x2, ckB_s, ckL_s, hbm]
            refine go_at (blk := b_Model_kneelers_59) rfl ?_
            simp (disch := omega) only [b_Model_kneelers_59, be_6, be_4, be_57_1, kc_388, List.getD_cons_zero, List.getD_cons_succ, List.set_cons_zero, List.set_cons_succ, List.length_cons, List.length_nil, pk_I, pk_A, pr_A, pi_I, st_s, st_n, if_true, if_false, eq_self, d_if, d_ju, d_re, d_ca, cat0, cat1, cat2, cat3, fr_z, fr_s, cc_I, cc_A, cc_N, Nat.reduceAdd, Nat.reduceLT, Nat.reduceLeDiff, Nat.reduceEqDiff, not_true, not_false_iff, z1_0, z1_1, Bool.and_self, Bool.true_and, Bool.and_true, nI_add, pk_mul, nI_clamp, decide_true, Nat.le_refl, bI_eq, bI_z1, nI_ltI, nI_leI, k18, k398, hbp, hni, x2, ckB_s, ckL_s, hbm]
            refine r_kneelsBy hMx (by omega) ?_
            intro v2 q2 r2
            have f2 := MF_t x1 q2
            refine go_at (blk := b_Model_kneelers_65) rfl ?_
            simp (disch := omega) only [b_Model_kneelers_65, be_50_1, List.getD_cons_zero, List.getD_cons_succ, List.set_cons_zero, List.set_cons_succ, List.length_cons, List.length_nil, pk_I, pk_A, pr_A, pi_I, st_s, st_n, if_true, if_false, eq_self, d_if, d_ju, d_re, d_ca, cat0, cat1, cat2, cat3, fr_z, fr_s, cc_I, cc_A, cc_N, Nat.reduceAdd, Nat.reduceLT, Nat.reduceLeDiff, Nat.reduceEqDiff, not_true, not_false_iff, z1_0, z1_1, Bool.and_self, Bool.true_and, Bool.and_true, nI_add, pk_mul, nI_clamp, decide_true, Nat.le_refl, bI_eq, bI_z1, nI_ltI, nI_leI, k18, k398, hbp, hni, x2, ckB_s, ckL_s, hbm]
            split
            · rename_i hs
              have hs : sbB i (mayM T f) = true := by simpa using hs
              refine go_at (blk := b_Model_kneelers_71) rfl ?_
              simp (disch := omega) only [b_Model_kneelers_71, be_6, be_4, be_57_1, kc_388, List.getD_cons_zero, List.getD_cons_succ, List.set_cons_zero, List.set_cons_succ, List.length_cons, List.length_nil, pk_I, pk_A, pr_A, pi_I, st_s, st_n, if_true, if_false, eq_self, d_if, d_ju, d_re, d_ca, cat0, cat1, cat2, cat3, fr_z, fr_s, cc_I, cc_A, cc_N, Nat.reduceAdd, Nat.reduceLT, Nat.reduceLeDiff, Nat.reduceEqDiff, not_true, not_false_iff, z1_0, z1_1, Bool.and_self, Bool.true_and, Bool.and_true, nI_add, pk_mul, nI_clamp, decide_true, Nat.le_refl, bI_eq, bI_z1, nI_ltI, nI_leI, k18, k398, hbp, hni, x2, ckB_s, ckL_s, hbm]
              refine r_goes (k := n) (by omega) (MX_f hM.1 f2) (r2 hs) ?_
              intro v3 q3 r3
              have f3 := MF_t f2 q3
              obtain ⟨k18, _, k398, _⟩ := (MI_f hM f3).1.1
              have hdf : (nI k ≤ nI (cnt (onB f (-1)) (tN T)) - nI (cnt (onB (itT T (-1) 0 n (knS i f)) (-1)) (tN T))) ↔ arN T f + k ≤ arN T (itT T (-1) 0 n (knS i f)) := cn_df (cnt_not (onB f (-1)) (tN T)) (cnt_not (onB (itT T (-1) 0 n (knS i f)) (-1)) (tN T)) h8 hk
              refine go_at (blk := b_Model_kneelers_76) rfl ?_
              simp (disch := omega) only [b_Model_kneelers_76, be_6, be_57_0, kc_388, List.getD_cons_zero, List.getD_cons_succ, List.set_cons_zero, List.set_cons_succ, List.length_cons, List.length_nil, pk_I, pk_A, pr_A, pi_I, st_s, st_n, if_true, if_false, eq_self, d_if, d_ju, d_re, d_ca, cat0, cat1, cat2, cat3, fr_z, fr_s, cc_I, cc_A, cc_N, Nat.reduceAdd, Nat.reduceLT, Nat.reduceLeDiff, Nat.reduceEqDiff, not_true, not_false_iff, z1_0, z1_1, Bool.and_self, Bool.true_and, Bool.and_true, nI_add, pk_mul, nI_clamp, decide_true, Nat.le_refl, bI_eq, bI_z1, nI_ltI, nI_leI, k18, k398, hbp, hni, x2, ckB_s, ckL_s, hbm]
              refine r_onNow (MI_f hM f3) ?_
              refine go_at (blk := b_Model_kneelers_80) rfl ?_
              simp (disch := omega) only [b_Model_kneelers_80, be_6, be_57_0, kc_388, List.getD_cons_zero, List.getD_cons_succ, List.set_cons_zero, List.set_cons_succ, List.length_cons, List.length_nil, pk_I, pk_A, pr_A, pi_I, st_s, st_n, if_true, if_false, eq_self, d_if, d_ju, d_re, d_ca, cat0, cat1, cat2, cat3, fr_z, fr_s, cc_I, cc_A, cc_N, Nat.reduceAdd, Nat.reduceLT, Nat.reduceLeDiff, Nat.reduceEqDiff, not_true, not_false_iff, z1_0, z1_1, Bool.and_self, Bool.true_and, Bool.and_true, nI_add, pk_mul, nI_clamp, decide_true, Nat.le_refl, bI_eq, bI_z1, nI_ltI, nI_leI, k18, k398, hbp, hni, x2, ckB_s, ckL_s, hbm]
              refine r_onAll (MX_f hM.1 f3) r3 ?_
              refine go_at (blk := b_Model_kneelers_84) rfl ?_
              simp (disch := omega) only [b_Model_kneelers_84, be_13, be_4, be_49_3, List.getD_cons_zero, List.getD_cons_succ, List.set_cons_zero, List.set_cons_succ, List.length_cons, List.length_nil, pk_I, pk_A, pr_A, pi_I, st_s, st_n, if_true, if_false, eq_self, d_if, d_ju, d_re, d_ca, cat0, cat1, cat2, cat3, fr_z, fr_s, cc_I, cc_A, cc_N, Nat.reduceAdd, Nat.reduceLT, Nat.reduceLeDiff, Nat.reduceEqDiff, not_true, not_false_iff, z1_0, z1_1, Bool.and_self, Bool.true_and, Bool.and_true, nI_add, pk_mul, nI_clamp, decide_true, Nat.le_refl, bI_eq, bI_z1, nI_ltI, nI_leI, k18, k398, hbp, hni, x2, ckB_s, ckL_s, hbm, hdf]
              split
              · rename_i hg
                refine go_at (blk := b_Model_kneelers_92) rfl ?_
                simp (disch := omega) only [b_Model_kneelers_92, be_6, be_4, be_34, be_57_2, kc_388, rf_388_28, List.getD_cons_zero, List.getD_cons_succ, List.set_cons_zero, List.set_cons_succ, List.length_cons, List.length_nil, pk_I, pk_A, pr_A, pi_I, st_s, st_n, if_true, if_false, eq_self, d_if, d_ju, d_re, d_ca, cat0, cat1, cat2, cat3, fr_z, fr_s, cc_I, cc_A, cc_N, Nat.reduceAdd, Nat.reduceLT, Nat.reduceLeDiff, Nat.reduceEqDiff, not_true, not_false_iff, z1_0, z1_1, Bool.and_self, Bool.true_and, Bool.and_true, nI_add, pk_mul, nI_clamp, decide_true, Nat.le_refl, bI_eq, bI_z1, nI_ltI, nI_leI, k18, k398, hbp, hni, x2, ckB_s, ckL_s, hbm, hdf]
                refine r_sum403 (MI_f hM f3) (by omega) ?_
                refine go_at (blk := b_Model_kneelers_102) rfl ?_
                simp (disch := omega) only [b_Model_kneelers_102, be_7, be_4, be_50_2, List.getD_cons_zero, List.getD_cons_succ, List.set_cons_zero, List.set_cons_succ, List.length_cons, List.length_nil, pk_I, pk_A, pr_A, pi_I, st_s, st_n, if_true, if_false, eq_self, d_if, d_ju, d_re, d_ca, cat0, cat1, cat2, cat3, fr_z, fr_s, cc_I, cc_A, cc_N, Nat.reduceAdd, Nat.reduceLT, Nat.reduceLeDiff, Nat.reduceEqDiff, not_true, not_false_iff, z1_0, z1_1, Bool.and_self, Bool.true_and, Bool.and_true, nI_add, pk_mul, nI_clamp, decide_true, Nat.le_refl, bI_eq, bI_z1, nI_ltI, nI_leI, k18, k398, hbp, hni, x2, ckB_s, ckL_s, hbm, hdf]
                refine go_at (blk := b_Model_kneelers_109) rfl ?_
                simp (disch := omega) only [b_Model_kneelers_109, be_4, be_49_4, List.getD_cons_zero, List.getD_cons_succ, List.set_cons_zero, List.set_cons_succ, List.length_cons, List.length_nil, pk_I, pk_A, pr_A, pi_I, st_s, st_n, if_true, if_false, eq_self, d_if, d_ju, d_re, d_ca, cat0, cat1, cat2, cat3, fr_z, fr_s, cc_I, cc_A, cc_N, Nat.reduceAdd, Nat.reduceLT, Nat.reduceLeDiff, Nat.reduceEqDiff, not_true, not_false_iff, z1_0, z1_1, Bool.and_self, Bool.true_and, Bool.and_true, nI_add, pk_mul, nI_clamp, decide_true, Nat.le_refl, bI_eq, bI_z1, nI_ltI, nI_leI, k18, k398, hbp, hni, x2, ckB_s, ckL_s, hbm, hdf]
                split
                · rename_i h1
                  refine go_at (blk := b_Model_kneelers_157) rfl ?_
                  simp (disch := omega) only [b_Model_kneelers_157, be_10, be_51, List.getD_cons_zero, List.getD_cons_succ, List.set_cons_zero, List.set_cons_succ, List.length_cons, List.length_nil, pk_I, pk_A, pr_A, pi_I, st_s, st_n, if_true, if_false, eq_self, d_if, d_ju, d_re, d_ca, cat0, cat1, cat2, cat3, fr_z, fr_s, cc_I, cc_A, cc_N, Nat.reduceAdd, Nat.reduceLT, Nat.reduceLeDiff, Nat.reduceEqDiff, not_true, not_false_iff, z1_0, z1_1, Bool.and_self, Bool.true_and, Bool.and_true, nI_add, pk_mul, nI_clamp, decide_true, Nat.le_refl, bI_eq, bI_z1, nI_ltI, nI_leI, k18, k398, hbp, hni, x2, ckB_s, ckL_s, hbm, hdf]
                  have hch : chB T i b = false := by unfold chB; rw [decide_eq_false (p := suS (tW T) i (tN T) < suS (tW T) b (tN T)) (fun z => Int32.lt_irrefl (Int32.lt_trans z h1)), decide_eq_false (p := suS (tW T) i (tN T) = suS (tW T) b (tN T)) (fun z => by rw [z] at h1; exact Int32.lt_irrefl h1)]; rfl
                  simp only [ck_f (show ckP T f k n i (ckS T f k n i) = false by rw [hcs]; unfold ckP; rw [show sbB i (mayM T f) = true from hs]; dsimp only; rw [hch]; rfl)] at ih
                  rw [hcs] at ih
                  exact ih (v3, .int _) ⟨f3, rfl⟩
                · rename_i h1
                  refine go_at (blk := b_Model_kneelers_116) rfl ?_
                  simp (disch := omega) only [b_Model_kneelers_116, be_4, be_49_1, List.getD_cons_zero, List.getD_cons_succ, List.set_cons_zero, List.set_cons_succ, List.length_cons, List.length_nil, pk_I, pk_A, pr_A, pi_I, st_s, st_n, if_true, if_false, eq_self, d_if, d_ju, d_re, d_ca, cat0, cat1, cat2, cat3, fr_z, fr_s, cc_I, cc_A, cc_N, Nat.reduceAdd, Nat.reduceLT, Nat.reduceLeDiff, Nat.reduceEqDiff, not_true, not_false_iff, z1_0, z1_1, Bool.and_self, Bool.true_and, Bool.and_true, nI_add, pk_mul, nI_clamp, decide_true, Nat.le_refl, bI_eq, bI_z1, nI_ltI, nI_leI, k18, k398, hbp, hni, x2, ckB_s, ckL_s, hbm, hdf]
                  split
                  · rename_i h2
                    refine go_at (blk := b_Model_kneelers_149) rfl ?_
                    simp (disch := omega) only [b_Model_kneelers_149, be_4, be_7, be_0, List.getD_cons_zero, List.getD_cons_succ, List.set_cons_zero, List.set_cons_succ, List.length_cons, List.length_nil, pk_I, pk_A, pr_A, pi_I, st_s, st_n, if_true, if_false, eq_self, d_if, d_ju, d_re, d_ca, cat0, cat1, cat2, cat3, fr_z, fr_s, cc_I, cc_A, cc_N, Nat.reduceAdd, Nat.reduceLT, Nat.reduceLeDiff, Nat.reduceEqDiff, not_true, not_false_iff, z1_0, z1_1, Bool.and_self, Bool.true_and, Bool.and_true, nI_add, pk_mul, nI_clamp, decide_true, Nat.le_refl, bI_eq, bI_z1, nI_ltI, nI_leI, k18, k398, hbp, hni, x2, ckB_s, ckL_s, hbm, hdf]
                    refine go_at (blk := b_Model_kneelers_157) rfl ?_
                    simp (disch := omega) only [b_Model_kneelers_157, be_10, be_51, List.getD_cons_zero, List.getD_cons_succ, List.set_cons_zero, List.set_cons_succ, List.length_cons, List.length_nil, pk_I, pk_A, pr_A, pi_I, st_s, st_n, if_true, if_false, eq_self, d_if, d_ju, d_re, d_ca, cat0, cat1, cat2, cat3, fr_z, fr_s, cc_I, cc_A, cc_N, Nat.reduceAdd, Nat.reduceLT, Nat.reduceLeDiff, Nat.reduceEqDiff, not_true, not_false_iff, z1_0, z1_1, Bool.and_self, Bool.true_and, Bool.and_true, nI_add, pk_mul, nI_clamp, decide_true, Nat.le_refl, bI_eq, bI_z1, nI_ltI, nI_leI, k18, k398, hbp, hni, x2, ckB_s, ckL_s, hbm, hdf]
                    have hch : chB T i b = true := by unfold chB; rw [decide_eq_true (p := suS (tW T) i (tN T) < suS (tW T) b (tN T)) (Int32.lt_of_le_of_ne (Int32.not_lt.mp h1) h2)]; rfl
                    simp only [ck_t (show ckP T f k n i (ckS T f k n i) = true by rw [hcs]; unfold ckP; rw [show sbB i (mayM T f) = true from hs]; dsimp only; rw [hch, decide_eq_true (p := arN T f + k ≤ arN T (itT T (-1) 0 n (knS i f))) hg]; rfl)] at ih
                    exact ih (v3, .int _) ⟨f3, rfl⟩
                  · rename_i h2
                    have h2 := Decidable.not_not.mp h2
                    refine go_at (blk := b_Model_kneelers_123) rfl ?_
                    simp (disch := omega) only [b_Model_kneelers_123, be_6, be_4, be_34, be_57_2, kc_388, rf_388_25, List.getD_cons_zero, List.getD_cons_succ, List.set_cons_zero, List.set_cons_succ, List.length_cons, List.length_nil, pk_I, pk_A, pr_A, pi_I, st_s, st_n, if_true, if_false, eq_self, d_if, d_ju, d_re, d_ca, cat0, cat1, cat2, cat3, fr_z, fr_s, cc_I, cc_A, cc_N, Nat.reduceAdd, Nat.reduceLT, Nat.reduceLeDiff, Nat.reduceEqDiff, not_true, not_false_iff, z1_0, z1_1, Bool.and_self, Bool.true_and, Bool.and_true, nI_add, pk_mul, nI_clamp, decide_true, Nat.le_refl, bI_eq, bI_z1, nI_ltI, nI_leI, k18, k398, hbp, hni, x2, ckB_s, ckL_s, hbm, hdf]
                    refine r_sum400 (MI_f hM f3) (by omega) ?_
                    refine go_at (blk := b_Model_kneelers_133) rfl ?_
                    simp (disch := omega) only [b_Model_kneelers_133, be_6, be_4, be_34, be_57_2, kc_388, rf_388_25, List.getD_cons_zero, List.getD_cons_succ, List.set_cons_zero, List.set_cons_succ, List.length_cons, List.length_nil, pk_I, pk_A, pr_A, pi_I, st_s, st_n, if_true, if_false, eq_self, d_if, d_ju, d_re, d_ca, cat0, cat1, cat2, cat3, fr_z, fr_s, cc_I, cc_A, cc_N, Nat.reduceAdd, Nat.reduceLT, Nat.reduceLeDiff, Nat.reduceEqDiff, not_true, not_false_iff, z1_0, z1_1, Bool.and_self, Bool.true_and, Bool.and_true, nI_add, pk_mul, nI_clamp, decide_true, Nat.le_refl, bI_eq, bI_z1, nI_ltI, nI_leI, k18, k398, hbp, hni, x2, ckB_s, ckL_s, hbm, hdf]
                    refine r_sum400 (MI_f hM f3) (by omega) ?_
                    refine go_at (blk := b_Model_kneelers_143) rfl ?_
                    simp (disch := omega) only [b_Model_kneelers_143, be_49_2, List.getD_cons_zero, List.getD_cons_succ, List.set_cons_zero, List.set_cons_succ, List.length_cons, List.length_nil, pk_I, pk_A, pr_A, pi_I, st_s, st_n, if_true, if_false, eq_self, d_if, d_ju, d_re, d_ca, cat0, cat1, cat2, cat3, fr_z, fr_s, cc_I, cc_A, cc_N, Nat.reduceAdd, Nat.reduceLT, Nat.reduceLeDiff, Nat.reduceEqDiff, not_true, not_false_iff, z1_0, z1_1, Bool.and_self, Bool.true_and, Bool.and_true, nI_add, pk_mul, nI_clamp, decide_true, Nat.le_refl, bI_eq, bI_z1, nI_ltI, nI_leI, k18, k398, hbp, hni, x2, ckB_s, ckL_s, hbm, hdf]
                    split
                    · rename_i h3
                      refine go_at (blk := b_Model_kneelers_149) rfl ?_
                      simp (disch := omega) only [b_Model_kneelers_149, be_4, be_7, be_0, List.getD_cons_zero, List.getD_cons_succ, List.set_cons_zero, List.set_cons_succ, List.length_cons, List.length_nil, pk_I, pk_A, pr_A, pi_I, st_s, st_n, if_true, if_false, eq_self, d_if, d_ju, d_re, d_ca, cat0, cat1, cat2, cat3, fr_z, fr_s, cc_I, cc_A, cc_N, Nat.reduceAdd, Nat.reduceLT, Nat.reduceLeDiff, Nat.reduceEqDiff, not_true, not_false_iff, z1_0, z1_1, Bool.and_self, Bool.true_and, Bool.and_true, nI_add, pk_mul, nI_clamp, decide_true, Nat.le_refl, bI_eq, bI_z1, nI_ltI, nI_leI, k18, k398, hbp, hni, x2, ckB_s, ckL_s, hbm, hdf]
                      refine go_at (blk := b_Model_kneelers_157) rfl ?_
                      simp (disch := omega) only [b_Model_kneelers_157, be_10, be_51, List.getD_cons_zero, List.getD_cons_succ, List.set_cons_zero, List.set_cons_succ, List.length_cons, List.length_nil, pk_I, pk_A, pr_A, pi_I, st_s, st_n, if_true, if_false, eq_self, d_if, d_ju, d_re, d_ca, cat0, cat1, cat2, cat3, fr_z, fr_s, cc_I, cc_A, cc_N, Nat.reduceAdd, Nat.reduceLT, Nat.reduceLeDiff, Nat.reduceEqDiff, not_true, not_false_iff, z1_0, z1_1, Bool.and_self, Bool.true_and, Bool.and_true, nI_add, pk_mul, nI_clamp, decide_true, Nat.le_refl, bI_eq, bI_z1, nI_ltI, nI_leI, k18, k398, hbp, hni, x2, ckB_s, ckL_s, hbm, hdf]
                      have hch : chB T i b = true := by unfold chB; rw [decide_eq_true h2, decide_eq_true h3]; simp
                      simp only [ck_t (show ckP T f k n i (ckS T f k n i) = true by rw [hcs]; unfold ckP; rw [show sbB i (mayM T f) = true from hs]; dsimp only; rw [hch, decide_eq_true (p := arN T f + k ≤ arN T (itT T (-1) 0 n (knS i f))) hg]; rfl)] at ih
                      exact ih (v3, .int _) ⟨f3, rfl⟩
                    · rename_i h3
                      refine go_at (blk := b_Model_kneelers_146) rfl ?_
                      simp (disch := omega) only [b_Model_kneelers_146, be_51, List.getD_cons_zero, List.getD_cons_succ, List.set_cons_zero, List.set_cons_succ, List.length_cons, List.length_nil, pk_I, pk_A, pr_A, pi_I, st_s, st_n, if_true, if_false, eq_self, d_if, d_ju, d_re, d_ca, cat0, cat1, cat2, cat3, fr_z, fr_s, cc_I, cc_A, cc_N, Nat.reduceAdd, Nat.reduceLT, Nat.reduceLeDiff, Nat.reduceEqDiff, not_true, not_false_iff, z1_0, z1_1, Bool.and_self, Bool.true_and, Bool.and_true, nI_add, pk_mul, nI_clamp, decide_true, Nat.le_refl, bI_eq, bI_z1, nI_ltI, nI_leI, k18, k398, hbp, hni, x2, ckB_s, ckL_s, hbm, hdf]
                      refine go_at (blk := b_Model_kneelers_157) rfl ?_
                      simp (disch := omega) only [b_Model_kneelers_157, be_10, be_51, List.getD_cons_zero, List.getD_cons_succ, List.set_cons_zero, List.set_cons_succ, List.length_cons, List.length_nil, pk_I, pk_A, pr_A, pi_I, st_s, st_n, if_true, if_false, eq_self, d_if, d_ju, d_re, d_ca, cat0, cat1, cat2, cat3, fr_z, fr_s, cc_I, cc_A, cc_N, Nat.reduceAdd, Nat.reduceLT, Nat.reduceLeDiff, Nat.reduceEqDiff, not_true, not_false_iff, z1_0, z1_1, Bool.and_self, Bool.true_and, Bool.and_true, nI_add, pk_mul, nI_clamp, decide_true, Nat.le_refl, bI_eq, bI_z1, nI_ltI, nI_leI, k18, k398, hbp, hni, x2, ckB_s, ckL_s, hbm, hdf]
                      have hch : chB T i b = false := by unfold chB; rw [decide_eq_false (p := suS (tW T) i (tN T) < suS (tW T) b (tN T)) (fun z => by rw [h2] at z; exact Int32.lt_irrefl z), decide_eq_false h3]; simp
                      simp only [ck_f (show ckP T f k n i (ckS T f k n i) = false by rw [hcs]; unfold ckP; rw [show sbB i (mayM T f) = true from hs]; dsimp only; rw [hch]; rfl)] at ih
                      rw [hcs] at ih
                      exact ih (v3, .int _) ⟨f3, rfl⟩
              · rename_i hg
                refine go_at (blk := b_Model_kneelers_89) rfl ?_
                simp (disch := omega) only [b_Model_kneelers_89, be_51, List.getD_cons_zero, List.getD_cons_succ, List.set_cons_zero, List.set_cons_succ, List.length_cons, List.length_nil, pk_I, pk_A, pr_A, pi_I, st_s, st_n, if_true, if_false, eq_self, d_if, d_ju, d_re, d_ca, cat0, cat1, cat2, cat3, fr_z, fr_s, cc_I, cc_A, cc_N, Nat.reduceAdd, Nat.reduceLT, Nat.reduceLeDiff, Nat.reduceEqDiff, not_true, not_false_iff, z1_0, z1_1, Bool.and_self, Bool.true_and, Bool.and_true, nI_add, pk_mul, nI_clamp, decide_true, Nat.le_refl, bI_eq, bI_z1, nI_ltI, nI_leI, k18, k398, hbp, hni, x2, ckB_s, ckL_s, hbm, hdf]
                refine go_at (blk := b_Model_kneelers_157) rfl ?_
                simp (disch := omega) only [b_Model_kneelers_157, be_10, be_51, List.getD_cons_zero, List.getD_cons_succ, List.set_cons_zero, List.set_cons_succ, List.length_cons, List.length_nil, pk_I, pk_A, pr_A, pi_I, st_s, st_n, if_true, if_false, eq_self, d_if, d_ju, d_re, d_ca, cat0, cat1, cat2, cat3, fr_z, fr_s, cc_I, cc_A, cc_N, Nat.reduceAdd, Nat.reduceLT, Nat.reduceLeDiff, Nat.reduceEqDiff, not_true, not_false_iff, z1_0, z1_1, Bool.and_self, Bool.true_and, Bool.and_true, nI_add, pk_mul, nI_clamp, decide_true, Nat.le_refl, bI_eq, bI_z1, nI_ltI, nI_leI, k18, k398, hbp, hni, x2, ckB_s, ckL_s, hbm, hdf]
                simp only [ck_f (show ckP T f k n i (ckS T f k n i) = false by rw [hcs]; unfold ckP; rw [show sbB i (mayM T f) = true from hs]; dsimp only; rw [decide_eq_false (p := arN T f + k ≤ arN T (itT T (-1) 0 n (knS i f))) hg]; simp)] at ih
                rw [hcs] at ih
                exact ih (v3, x.2) ⟨f3, x2⟩
            · rename_i hs
              have hs : sbB i (mayM T f) = false := by simpa using hs
              refine go_at (blk := b_Model_kneelers_68) rfl ?_
              simp (disch := omega) only [b_Model_kneelers_68, be_51, List.getD_cons_zero, List.getD_cons_succ, List.set_cons_zero, List.set_cons_succ, List.length_cons, List.length_nil, pk_I, pk_A, pr_A, pi_I, st_s, st_n, if_true, if_false, eq_self, d_if, d_ju, d_re, d_ca, cat0, cat1, cat2, cat3, fr_z, fr_s, cc_I, cc_A, cc_N, Nat.reduceAdd, Nat.reduceLT, Nat.reduceLeDiff, Nat.reduceEqDiff, not_true, not_false_iff, z1_0, z1_1, Bool.and_self, Bool.true_and, Bool.and_true, nI_add, pk_mul, nI_clamp, decide_true, Nat.le_refl, bI_eq, bI_z1, nI_ltI, nI_leI, k18, k398, hbp, hni, x2, ckB_s, ckL_s, hbm]
              refine go_at (blk := b_Model_kneelers_157) rfl ?_
              simp (disch := omega) only [b_Model_kneelers_157, be_10, be_51, List.getD_cons_zero, List.getD_cons_succ, List.set_cons_zero, List.set_cons_succ, List.length_cons, List.length_nil, pk_I, pk_A, pr_A, pi_I, st_s, st_n, if_true, if_false, eq_self, d_if, d_ju, d_re, d_ca, cat0, cat1, cat2, cat3, fr_z, fr_s, cc_I, cc_A, cc_N, Nat.reduceAdd, Nat.reduceLT, Nat.reduceLeDiff, Nat.reduceEqDiff, not_true, not_false_iff, z1_0, z1_1, Bool.and_self, Bool.true_and, Bool.and_true, nI_add, pk_mul, nI_clamp, decide_true, Nat.le_refl, bI_eq, bI_z1, nI_ltI, nI_leI, k18, k398, hbp, hni, x2, ckB_s, ckL_s, hbm]
              simp only [ck_f (show ckP T f k n i (ckS T f k n i) = false by unfold ckP; rw [hs]; rfl)] at ih
              rw [hcs] at ih
              exact ih (v2, x.2) ⟨f2, x2⟩
        · intro x ⟨x1, x2⟩
          try dsimp only at *
          have hMx : MI B x.1 T lv f := MI_f hM x1
          obtain ⟨k18, hlv, k398, _⟩ := (MI_f hM x1).1.1
          have k418 : x.1 418 = f := (MI_f hM x1).2.1
          cases hcs : ckS T f k n N with
          | none =>
            rw [hcs] at hQ
            dsimp only at hQ
            refine go_at (blk := b_Model_kneelers_43) rfl ?_
            simp (disch := omega) only [b_Model_kneelers_43, be_4, be_1, be_6, be_34, be_33, be_38, be_21, be_49_3, kc_388, rf_388_23, ka_398, List.getD_cons_zero, List.getD_cons_succ, List.set_cons_zero, List.set_cons_succ, List.length_cons, List.length_nil, pk_I, pk_A, pr_A, pi_I, st_s, st_n, if_true, if_false, eq_self, d_if, d_ju, d_re, d_ca, cat0, cat1, cat2, cat3, fr_z, fr_s, cc_I, cc_A, cc_N, Nat.reduceAdd, Nat.reduceLT, Nat.reduceLeDiff, Nat.reduceEqDiff, not_true, not_false_iff, z1_0, z1_1, Bool.and_self, Bool.true_and, Bool.and_true, nI_add, pk_mul, nI_clamp, decide_true, Nat.le_refl, bI_eq, bI_z1, nI_ltI, nI_leI, k18, k398, hbp, ckB_n, ckL_n]
            refine go_at (blk := b_Model_kneelers_163) rfl ?_
            simp (disch := omega) only [b_Model_kneelers_163, be_4, be_50_1, List.getD_cons_zero, List.getD_cons_succ, List.set_cons_zero, List.set_cons_succ, List.length_cons, List.length_nil, pk_I, pk_A, pr_A, pi_I, st_s, st_n, if_true, if_false, eq_self, d_if, d_ju, d_re, d_ca, cat0, cat1, cat2, cat3, fr_z, fr_s, cc_I, cc_A, cc_N, Nat.reduceAdd, Nat.reduceLT, Nat.reduceLeDiff, Nat.reduceEqDiff, not_true, not_false_iff, z1_0, z1_1, Bool.and_self, Bool.true_and, Bool.and_true, nI_add, pk_mul, nI_clamp, decide_true, Nat.le_refl, bI_eq, bI_z1, nI_ltI, nI_leI, k18, k398, hbp, ckB_n, ckL_n]
            split
            · rename_i hw
              refine go_at (blk := b_Model_kneelers_172) rfl ?_
              simp (disch := omega) only [b_Model_kneelers_172, be_4, be_0, List.getD_cons_zero, List.getD_cons_succ, List.set_cons_zero, List.set_cons_succ, List.length_cons, List.length_nil, pk_I, pk_A, pr_A, pi_I, st_s, st_n, if_true, if_false, eq_self, d_if, d_ju, d_re, d_ca, cat0, cat1, cat2, cat3, fr_z, fr_s, cc_I, cc_A, cc_N, Nat.reduceAdd, Nat.reduceLT, Nat.reduceLeDiff, Nat.reduceEqDiff, not_true, not_false_iff, z1_0, z1_1, Bool.and_self, Bool.true_and, Bool.and_true, nI_add, pk_mul, nI_clamp, decide_true, Nat.le_refl, bI_eq, bI_z1, nI_ltI, nI_leI, k18, k398, hbp, ckB_n, ckL_n]
              refine go_at (blk := b_Model_kneelers_174) rfl ?_
              simp (disch := omega) only [b_Model_kneelers_174, be_54, List.getD_cons_zero, List.getD_cons_succ, List.set_cons_zero, List.set_cons_succ, List.length_cons, List.length_nil, pk_I, pk_A, pr_A, pi_I, st_s, st_n, if_true, if_false, eq_self, d_if, d_ju, d_re, d_ca, cat0, cat1, cat2, cat3, fr_z, fr_s, cc_I, cc_A, cc_N, Nat.reduceAdd, Nat.reduceLT, Nat.reduceLeDiff, Nat.reduceEqDiff, not_true, not_false_iff, z1_0, z1_1, Bool.and_self, Bool.true_and, Bool.and_true, nI_add, pk_mul, nI_clamp, decide_true, Nat.le_refl, bI_eq, bI_z1, nI_ltI, nI_leI, k18, k398, hbp, ckB_n, ckL_n]
              exact hQ x.1 x1
            · rename_i hw
              refine go_at (blk := b_Model_kneelers_167) rfl ?_
              simp (disch := omega) only [b_Model_kneelers_167, be_4, be_51, List.getD_cons_zero, List.getD_cons_succ, List.set_cons_zero, List.set_cons_succ, List.length_cons, List.length_nil, pk_I, pk_A, pr_A, pi_I, st_s, st_n, if_true, if_false, eq_self, d_if, d_ju, d_re, d_ca, cat0, cat1, cat2, cat3, fr_z, fr_s, cc_I, cc_A, cc_N, Nat.reduceAdd, Nat.reduceLT, Nat.reduceLeDiff, Nat.reduceEqDiff, not_true, not_false_iff, z1_0, z1_1, Bool.and_self, Bool.true_and, Bool.and_true, nI_add, pk_mul, nI_clamp, decide_true, Nat.le_refl, bI_eq, bI_z1, nI_ltI, nI_leI, k18, k398, hbp, ckB_n, ckL_n]
              refine go_at (blk := b_Model_kneelers_174) rfl ?_
              simp (disch := omega) only [b_Model_kneelers_174, be_54, List.getD_cons_zero, List.getD_cons_succ, List.set_cons_zero, List.set_cons_succ, List.length_cons, List.length_nil, pk_I, pk_A, pr_A, pi_I, st_s, st_n, if_true, if_false, eq_self, d_if, d_ju, d_re, d_ca, cat0, cat1, cat2, cat3, fr_z, fr_s, cc_I, cc_A, cc_N, Nat.reduceAdd, Nat.reduceLT, Nat.reduceLeDiff, Nat.reduceEqDiff, not_true, not_false_iff, z1_0, z1_1, Bool.and_self, Bool.true_and, Bool.and_true, nI_add, pk_mul, nI_clamp, decide_true, Nat.le_refl, bI_eq, bI_z1, nI_ltI, nI_leI, k18, k398, hbp, ckB_n, ckL_n]
              exact hQ x.1 x1
          | some b =>
            rw [hcs] at hQ
            dsimp only at hQ
            refine go_at (blk := b_Model_kneelers_43) rfl ?_
            simp (disch := omega) only [b_Model_kneelers_43, be_4, be_1, be_6, be_34, be_33, be_38, be_21, be_49_3, kc_388, rf_388_23, ka_398, List.getD_cons_zero, List.getD_cons_succ, List.set_cons_zero, List.set_cons_succ, List.length_cons, List.length_nil, pk_I, pk_A, pr_A, pi_I, st_s, st_n, if_true, if_false, eq_self, d_if, d_ju, d_re, d_ca, cat0, cat1, cat2, cat3, fr_z, fr_s, cc_I, cc_A, cc_N, Nat.reduceAdd, Nat.reduceLT, Nat.reduceLeDiff, Nat.reduceEqDiff, not_true, not_false_iff, z1_0, z1_1, Bool.and_self, Bool.true_and, Bool.and_true, nI_add, pk_mul, nI_clamp, decide_true, Nat.le_refl, bI_eq, bI_z1, nI_ltI, nI_leI, k18, k398, hbp, ckB_s, ckL_s]
            refine go_at (blk := b_Model_kneelers_163) rfl ?_
            simp (disch := omega) only [b_Model_kneelers_163, be_4, be_50_1, List.getD_cons_zero, List.getD_cons_succ, List.set_cons_zero, List.set_cons_succ, List.length_cons, List.length_nil, pk_I, pk_A, pr_A, pi_I, st_s, st_n, if_true, if_false, eq_self, d_if, d_ju, d_re, d_ca, cat0, cat1, cat2, cat3, fr_z, fr_s, cc_I, cc_A, cc_N, Nat.reduceAdd, Nat.reduceLT, Nat.reduceLeDiff, Nat.reduceEqDiff, not_true, not_false_iff, z1_0, z1_1, Bool.and_self, Bool.true_and, Bool.and_true, nI_add, pk_mul, nI_clamp, decide_true, Nat.le_refl, bI_eq, bI_z1, nI_ltI, nI_leI, k18, k398, hbp, ckB_s, ckL_s]
            split
            · rename_i hw
              refine go_at (blk := b_Model_kneelers_172) rfl ?_
              simp (disch := omega) only [b_Model_kneelers_172, be_4, be_0, List.getD_cons_zero, List.getD_cons_succ, List.set_cons_zero, List.set_cons_succ, List.length_cons, List.length_nil, pk_I, pk_A, pr_A, pi_I, st_s, st_n, if_true, if_false, eq_self, d_if, d_ju, d_re, d_ca, cat0, cat1, cat2, cat3, fr_z, fr_s, cc_I, cc_A, cc_N, Nat.reduceAdd, Nat.reduceLT, Nat.reduceLeDiff, Nat.reduceEqDiff, not_true, not_false_iff, z1_0, z1_1, Bool.and_self, Bool.true_and, Bool.and_true, nI_add, pk_mul, nI_clamp, decide_true, Nat.le_refl, bI_eq, bI_z1, nI_ltI, nI_leI, k18, k398, hbp, ckB_s, ckL_s]
              refine go_at (blk := b_Model_kneelers_174) rfl ?_
              simp (disch := omega) only [b_Model_kneelers_174, be_54, List.getD_cons_zero, List.getD_cons_succ, List.set_cons_zero, List.set_cons_succ, List.length_cons, List.length_nil, pk_I, pk_A, pr_A, pi_I, st_s, st_n, if_true, if_false, eq_self, d_if, d_ju, d_re, d_ca, cat0, cat1, cat2, cat3, fr_z, fr_s, cc_I, cc_A, cc_N, Nat.reduceAdd, Nat.reduceLT, Nat.reduceLeDiff, Nat.reduceEqDiff, not_true, not_false_iff, z1_0, z1_1, Bool.and_self, Bool.true_and, Bool.and_true, nI_add, pk_mul, nI_clamp, decide_true, Nat.le_refl, bI_eq, bI_z1, nI_ltI, nI_leI, k18, k398, hbp, ckB_s, ckL_s]
              rw [if_neg hw] at hQ
              exact hQ x.1 x1
            · rename_i hw
              refine go_at (blk := b_Model_kneelers_167) rfl ?_
              simp (disch := omega) only [b_Model_kneelers_167, be_4, be_51, List.getD_cons_zero, List.getD_cons_succ, List.set_cons_zero, List.set_cons_succ, List.length_cons, List.length_nil, pk_I, pk_A, pr_A, pi_I, st_s, st_n, if_true, if_false, eq_self, d_if, d_ju, d_re, d_ca, cat0, cat1, cat2, cat3, fr_z, fr_s, cc_I, cc_A, cc_N, Nat.reduceAdd, Nat.reduceLT, Nat.reduceLeDiff, Nat.reduceEqDiff, not_true, not_false_iff, z1_0, z1_1, Bool.and_self, Bool.true_and, Bool.and_true, nI_add, pk_mul, nI_clamp, decide_true, Nat.le_refl, bI_eq, bI_z1, nI_ltI, nI_leI, k18, k398, hbp, ckB_s, ckL_s]
              refine go_at (blk := b_Model_kneelers_174) rfl ?_
              simp (disch := omega) only [b_Model_kneelers_174, be_54, List.getD_cons_zero, List.getD_cons_succ, List.set_cons_zero, List.set_cons_succ, List.length_cons, List.length_nil, pk_I, pk_A, pr_A, pi_I, st_s, st_n, if_true, if_false, eq_self, d_if, d_ju, d_re, d_ca, cat0, cat1, cat2, cat3, fr_z, fr_s, cc_I, cc_A, cc_N, Nat.reduceAdd, Nat.reduceLT, Nat.reduceLeDiff, Nat.reduceEqDiff, not_true, not_false_iff, z1_0, z1_1, Bool.and_self, Bool.true_and, Bool.and_true, nI_add, pk_mul, nI_clamp, decide_true, Nat.le_refl, bI_eq, bI_z1, nI_ltI, nI_leI, k18, k398, hbp, ckB_s, ckL_s]
              rw [if_pos (Decidable.not_not.mp hw)] at hQ
              exact hQ x.1 x1
      · rename_i h2
        have h2 : twoB z = false := by simpa using h2
        refine go_at (blk := b_Model_kneelers_30) rfl ?_
        simp (disch := omega) only [b_Model_kneelers_30, be_2, be_54, List.getD_cons_zero, List.getD_cons_succ, List.set_cons_zero, List.set_cons_succ, List.length_cons, List.length_nil, pk_I, pk_A, pr_A, pi_I, st_s, st_n, if_true, if_false, eq_self, d_if, d_ju, d_re, d_ca, cat0, cat1, cat2, cat3, fr_z, fr_s, cc_I, cc_A, cc_N, Nat.reduceAdd, Nat.reduceLT, Nat.reduceLeDiff, Nat.reduceEqDiff, not_true, not_false_iff, z1_0, z1_1, Bool.and_self, Bool.true_and, Bool.and_true, nI_add, pk_mul, nI_clamp, decide_true, Nat.le_refl, bI_eq, bI_z1]
        unfold ckA at hQ
        rw [if_neg (by rw [h2]; simp)] at hQ
        exact hQ v MF_r
