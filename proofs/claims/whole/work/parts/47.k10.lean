/-! laid by wip/whole/k10.py: the class: the cheapest kneelers, sets at rest -/
def suS (g : Nat → Int32) (s : Nat) : Nat → Int32 := smI 0 (fun p => if s.testBit p = true then g p else nI 0)
theorem su_t {g : Nat → Int32} {s i : Nat} (h : s.testBit i = true) : suS g s (i + 1) = suS g s i + g i := by
  show suS g s i + (if s.testBit i = true then g i else nI 0) = _
  rw [if_pos h]
theorem su_f {g : Nat → Int32} {s i : Nat} (h : ¬ s.testBit i = true) : suS g s (i + 1) = suS g s i + nI 0 := by
  show suS g s i + (if s.testBit i = true then g i else nI 0) = _
  rw [if_neg h]
def chB (T : TXT) (s b : Nat) : Bool := decide (suS (tW T) s (tN T) < suS (tW T) b (tN T)) || (decide (suS (tW T) s (tN T) = suS (tW T) b (tN T)) && decide (suS (tK T) s (tN T) < suS (tK T) b (tN T)))
def sbB (s m : Nat) : Bool := decide (nI s &&& (nI m ^^^ (-1)) = 0)
def encO : Option Nat → Int32
  | none => -1
  | some b => nI b
def mayM (T : TXT) (f : Nat → Int32) : Nat := wbN (mayB f (-1) (tS T)) (tN T)
def arN (T : TXT) (f : Nat → Int32) : Nat := cnt (fun p => !onB f (-1) p) (tN T)
def ckP (T : TXT) (f : Nat → Int32) (k n s : Nat) (c : Option Nat) : Bool := sbB s (mayM T f) && (match c with
  | none => true
  | some b => chB T s b) && decide (arN T f + k ≤ arN T (itT T (-1) 0 n (knS s f)))
def ckS (T : TXT) (f : Nat → Int32) (k n : Nat) : Nat → Option Nat
  | 0 => none
  | s + 1 => if ckP T f k n s (ckS T f k n s) = true then some s else ckS T f k n s
theorem ck_t {T : TXT} {f : Nat → Int32} {k n s : Nat} (h : ckP T f k n s (ckS T f k n s) = true) : ckS T f k n (s + 1) = some s := if_pos h
theorem ck_f {T : TXT} {f : Nat → Int32} {k n s : Nat} (h : ckP T f k n s (ckS T f k n s) = false) : ckS T f k n (s + 1) = ckS T f k n s := if_neg (by rw [h]; decide)
theorem ck_lt {T : TXT} {f : Nat → Int32} {k n b : Nat} (s : Nat) (h : ckS T f k n s = some b) : b < s := by
  induction s with
  | zero => cases h
  | succ s ih =>
    by_cases hc : ckP T f k n s (ckS T f k n s) = true
    · rw [ck_t hc] at h
      cases h
      omega
    · rw [ck_f (by simpa using hc)] at h
      have := ih h
      omega
theorem ck_no {T : TXT} {f : Nat → Int32} {k n : Nat} (hg : tN T < arN T f + k) (s : Nat) : ckS T f k n s = none := by
  induction s with
  | zero => rfl
  | succ s ih =>
    rw [ck_f ?_]
    · exact ih
    · unfold ckP
      rw [decide_eq_false (p := arN T f + k ≤ _) (by have := cnt_le (fun p => !onB (itT T (-1) 0 n (knS s f)) (-1) p) (tN T); unfold arN at *; omega)]
      simp
theorem nI_mm {b : Nat} (h : b < 256) : ¬ nI b = -1 := by
  intro z
  have := congrArg Int32.toInt z
  rw [nI_toInt (by omega), show (-1 : Int32).toInt = -1 from rfl] at this
  omega
set_option maxHeartbeats 1000000 in
theorem k_sum27 {d : Nat} {v : Nat → Nat → Int32} {w : Nat → Nat → Int64} {Q : Option Value → am_H → Prop} {T : TXT} {f : Nat → Int32} {B : Int} (hK : KI B v T f) {s : Nat} (hs : s < 256) (hQ : Q (some (.int (suS (tK T) s (tN T)))) (428, 26053, KD, RF, v, w)) : am_Ca (d + 1) M_Forecast_sumOf [.ref 350, .ref 27, .int (nI s)] (428, 26053, KD, RF, v, w) Q := by
  have h8 := hK.1.1
  have hBB := hK.2.2.2.2.2
  have k1 := hK.1.2.1
  refine ca_in (k := k_Forecast_sumOf) (nL := 5) rfl (Nat.le_of_ble_eq_true rfl) ?_
  show am_Go am_X0 _ k_Forecast_sumOf 0 ([.ref 350, .ref 27, .int (nI s), .null, .null], [], _) _
  refine go_at (blk := b_Forecast_sumOf_0) rfl ?_
  simp (disch := omega) only [b_Forecast_sumOf_0, be_1, be_7, be_0, List.getD_cons_zero, List.getD_cons_succ, List.set_cons_zero, List.set_cons_succ, List.length_cons, List.length_nil, pk_I, pk_A, pr_A, pi_I, st_s, st_n, if_true, if_false, eq_self, d_if, d_ju, d_re, d_ca, cat0, cat1, cat2, cat3, fr_z, fr_s, cc_I, cc_A, cc_N, Nat.reduceAdd, Nat.reduceLT, Nat.reduceLeDiff, Nat.reduceEqDiff, not_true, not_false_iff, z1_0, z1_1, Bool.and_self, Bool.true_and, Bool.and_true, nI_add, pk_mul, nI_clamp, decide_true, Nat.le_refl, bI_eq, bI_z1]
  refine go_loop (fun i => ([.ref 350, .ref 27, .int (nI s), .int (suS (tK T) s i), .int (nI i)], [], (428, 26053, KD, RF, v, w))) (tN T) ?_ ?_
  · intro i hi ih
    have hni : ¬ tN T ≤ i := by omega
    have hbt := bt_1 s hs i (by omega)
    have e1 := (hK.1.2.2.2.2.1 i hi).2.1
    try dsimp only at ih ⊢
    refine go_at (blk := b_Forecast_sumOf_5) rfl ?_
    simp (disch := omega) only [b_Forecast_sumOf_5, be_4, be_6, be_34, be_33, be_49_3, kc_350, rf_350_0, kc_25, List.getD_cons_zero, List.getD_cons_succ, List.set_cons_zero, List.set_cons_succ, List.length_cons, List.length_nil, pk_I, pk_A, pr_A, pi_I, st_s, st_n, if_true, if_false, eq_self, d_if, d_ju, d_re, d_ca, cat0, cat1, cat2, cat3, fr_z, fr_s, cc_I, cc_A, cc_N, Nat.reduceAdd, Nat.reduceLT, Nat.reduceLeDiff, Nat.reduceEqDiff, not_true, not_false_iff, z1_0, z1_1, Bool.and_self, Bool.true_and, Bool.and_true, nI_add, pk_mul, nI_clamp, decide_true, Nat.le_refl, bI_eq, bI_z1, nI_ltI, nI_leI, k1, hbt, e1, hni]
    refine go_at (blk := b_Forecast_sumOf_17) rfl ?_
    simp (disch := omega) only [b_Forecast_sumOf_17, be_4, be_22, be_1, be_18, be_49_1, List.getD_cons_zero, List.getD_cons_succ, List.set_cons_zero, List.set_cons_succ, List.length_cons, List.length_nil, pk_I, pk_A, pr_A, pi_I, st_s, st_n, if_true, if_false, eq_self, d_if, d_ju, d_re, d_ca, cat0, cat1, cat2, cat3, fr_z, fr_s, cc_I, cc_A, cc_N, Nat.reduceAdd, Nat.reduceLT, Nat.reduceLeDiff, Nat.reduceEqDiff, not_true, not_false_iff, z1_0, z1_1, Bool.and_self, Bool.true_and, Bool.and_true, nI_add, pk_mul, nI_clamp, decide_true, Nat.le_refl, bI_eq, bI_z1, nI_ltI, nI_leI, k1, hbt, e1, hni]
    split
    · rename_i hb
      refine go_at (blk := b_Forecast_sumOf_35) rfl ?_
      simp (disch := omega) only [b_Forecast_sumOf_35, be_1, be_0, List.getD_cons_zero, List.getD_cons_succ, List.set_cons_zero, List.set_cons_succ, List.length_cons, List.length_nil, pk_I, pk_A, pr_A, pi_I, st_s, st_n, if_true, if_false, eq_self, d_if, d_ju, d_re, d_ca, cat0, cat1, cat2, cat3, fr_z, fr_s, cc_I, cc_A, cc_N, Nat.reduceAdd, Nat.reduceLT, Nat.reduceLeDiff, Nat.reduceEqDiff, not_true, not_false_iff, z1_0, z1_1, Bool.and_self, Bool.true_and, Bool.and_true, nI_add, pk_mul, nI_clamp, decide_true, Nat.le_refl, bI_eq, bI_z1, nI_ltI, nI_leI, k1, hbt, e1, hni]
      refine go_at (blk := b_Forecast_sumOf_36) rfl ?_
      simp (disch := omega) only [b_Forecast_sumOf_36, be_12, be_7, be_10, be_51, List.getD_cons_zero, List.getD_cons_succ, List.set_cons_zero, List.set_cons_succ, List.length_cons, List.length_nil, pk_I, pk_A, pr_A, pi_I, st_s, st_n, if_true, if_false, eq_self, d_if, d_ju, d_re, d_ca, cat0, cat1, cat2, cat3, fr_z, fr_s, cc_I, cc_A, cc_N, Nat.reduceAdd, Nat.reduceLT, Nat.reduceLeDiff, Nat.reduceEqDiff, not_true, not_false_iff, z1_0, z1_1, Bool.and_self, Bool.true_and, Bool.and_true, nI_add, pk_mul, nI_clamp, decide_true, Nat.le_refl, bI_eq, bI_z1, nI_ltI, nI_leI, k1, hbt, e1, hni]
      rw [su_f hb] at ih
      exact ih
    · rename_i hb
      have hb := Decidable.not_not.mp hb
      refine go_at (blk := b_Forecast_sumOf_28) rfl ?_
      simp (disch := omega) only [b_Forecast_sumOf_28, be_6, be_4, be_38, be_51, ka_27, List.getD_cons_zero, List.getD_cons_succ, List.set_cons_zero, List.set_cons_succ, List.length_cons, List.length_nil, pk_I, pk_A, pr_A, pi_I, st_s, st_n, if_true, if_false, eq_self, d_if, d_ju, d_re, d_ca, cat0, cat1, cat2, cat3, fr_z, fr_s, cc_I, cc_A, cc_N, Nat.reduceAdd, Nat.reduceLT, Nat.reduceLeDiff, Nat.reduceEqDiff, not_true, not_false_iff, z1_0, z1_1, Bool.and_self, Bool.true_and, Bool.and_true, nI_add, pk_mul, nI_clamp, decide_true, Nat.le_refl, bI_eq, bI_z1, nI_ltI, nI_leI, k1, hbt, e1, hni]
      refine go_at (blk := b_Forecast_sumOf_36) rfl ?_
      simp (disch := omega) only [b_Forecast_sumOf_36, be_12, be_7, be_10, be_51, List.getD_cons_zero, List.getD_cons_succ, List.set_cons_zero, List.set_cons_succ, List.length_cons, List.length_nil, pk_I, pk_A, pr_A, pi_I, st_s, st_n, if_true, if_false, eq_self, d_if, d_ju, d_re, d_ca, cat0, cat1, cat2, cat3, fr_z, fr_s, cc_I, cc_A, cc_N, Nat.reduceAdd, Nat.reduceLT, Nat.reduceLeDiff, Nat.reduceEqDiff, not_true, not_false_iff, z1_0, z1_1, Bool.and_self, Bool.true_and, Bool.and_true, nI_add, pk_mul, nI_clamp, decide_true, Nat.le_refl, bI_eq, bI_z1, nI_ltI, nI_leI, k1, hbt, e1, hni]
      rw [su_t hb] at ih
      exact ih
  · have e1 : (1 : Nat) = 1 := rfl
    have hbt : (1 : Nat) = 1 := rfl
    try dsimp only
    refine go_at (blk := b_Forecast_sumOf_5) rfl ?_
    simp (disch := omega) only [b_Forecast_sumOf_5, be_4, be_6, be_34, be_33, be_49_3, kc_350, rf_350_0, kc_25, List.getD_cons_zero, List.getD_cons_succ, List.set_cons_zero, List.set_cons_succ, List.length_cons, List.length_nil, pk_I, pk_A, pr_A, pi_I, st_s, st_n, if_true, if_false, eq_self, d_if, d_ju, d_re, d_ca, cat0, cat1, cat2, cat3, fr_z, fr_s, cc_I, cc_A, cc_N, Nat.reduceAdd, Nat.reduceLT, Nat.reduceLeDiff, Nat.reduceEqDiff, not_true, not_false_iff, z1_0, z1_1, Bool.and_self, Bool.true_and, Bool.and_true, nI_add, pk_mul, nI_clamp, decide_true, Nat.le_refl, bI_eq, bI_z1, nI_ltI, nI_leI, k1, hbt, e1]
    refine go_at (blk := b_Forecast_sumOf_44) rfl ?_
    simp (disch := omega) only [b_Forecast_sumOf_44, be_4, be_54, List.getD_cons_zero, List.getD_cons_succ, List.set_cons_zero, List.set_cons_succ, List.length_cons, List.length_nil, pk_I, pk_A, pr_A, pi_I, st_s, st_n, if_true, if_false, eq_self, d_if, d_ju, d_re, d_ca, cat0, cat1, cat2, cat3, fr_z, fr_s, cc_I, cc_A, cc_N, Nat.reduceAdd, Nat.reduceLT, Nat.reduceLeDiff, Nat.reduceEqDiff, not_true, not_false_iff, z1_0, z1_1, Bool.and_self, Bool.true_and, Bool.and_true, nI_add, pk_mul, nI_clamp, decide_true, Nat.le_refl, bI_eq, bI_z1, nI_ltI, nI_leI, k1, hbt, e1]
    exact hQ
set_option maxHeartbeats 1000000 in
theorem k_sum30 {d : Nat} {v : Nat → Nat → Int32} {w : Nat → Nat → Int64} {Q : Option Value → am_H → Prop} {T : TXT} {f : Nat → Int32} {B : Int} (hK : KI B v T f) {s : Nat} (hs : s < 256) (hQ : Q (some (.int (suS (tW T) s (tN T)))) (428, 26053, KD, RF, v, w)) : am_Ca (d + 1) M_Forecast_sumOf [.ref 350, .ref 30, .int (nI s)] (428, 26053, KD, RF, v, w) Q := by
  have h8 := hK.1.1
  have hBB := hK.2.2.2.2.2
  have k1 := hK.1.2.1
  refine ca_in (k := k_Forecast_sumOf) (nL := 5) rfl (Nat.le_of_ble_eq_true rfl) ?_
  show am_Go am_X0 _ k_Forecast_sumOf 0 ([.ref 350, .ref 30, .int (nI s), .null, .null], [], _) _
  refine go_at (blk := b_Forecast_sumOf_0) rfl ?_
  simp (disch := omega) only [b_Forecast_sumOf_0, be_1, be_7, be_0, List.getD_cons_zero, List.getD_cons_succ, List.set_cons_zero, List.set_cons_succ, List.length_cons, List.length_nil, pk_I, pk_A, pr_A, pi_I, st_s, st_n, if_true, if_false, eq_self, d_if, d_ju, d_re, d_ca, cat0, cat1, cat2, cat3, fr_z, fr_s, cc_I, cc_A, cc_N, Nat.reduceAdd, Nat.reduceLT, Nat.reduceLeDiff, Nat.reduceEqDiff, not_true, not_false_iff, z1_0, z1_1, Bool.and_self, Bool.true_and, Bool.and_true, nI_add, pk_mul, nI_clamp, decide_true, Nat.le_refl, bI_eq, bI_z1]
  refine go_loop (fun i => ([.ref 350, .ref 30, .int (nI s), .int (suS (tW T) s i), .int (nI i)], [], (428, 26053, KD, RF, v, w))) (tN T) ?_ ?_
  · intro i hi ih
    have hni : ¬ tN T ≤ i := by omega
    have hbt := bt_1 s hs i (by omega)
    have e1 := (hK.1.2.2.2.2.1 i hi).2.2.2.2.1
    try dsimp only at ih ⊢
    refine go_at (blk := b_Forecast_sumOf_5) rfl ?_
    simp (disch := omega) only [b_Forecast_sumOf_5, be_4, be_6, be_34, be_33, be_49_3, kc_350, rf_350_0, kc_25, List.getD_cons_zero, List.getD_cons_succ, List.set_cons_zero, List.set_cons_succ, List.length_cons, List.length_nil, pk_I, pk_A, pr_A, pi_I, st_s, st_n, if_true, if_false, eq_self, d_if, d_ju, d_re, d_ca, cat0, cat1, cat2, cat3, fr_z, fr_s, cc_I, cc_A, cc_N, Nat.reduceAdd, Nat.reduceLT, Nat.reduceLeDiff, Nat.reduceEqDiff, not_true, not_false_iff, z1_0, z1_1, Bool.and_self, Bool.true_and, Bool.and_true, nI_add, pk_mul, nI_clamp, decide_true, Nat.le_refl, bI_eq, bI_z1, nI_ltI, nI_leI, k1, hbt, e1, hni]
    refine go_at (blk := b_Forecast_sumOf_17) rfl ?_
    simp (disch := omega) only [b_Forecast_sumOf_17, be_4, be_22, be_1, be_18, be_49_1, List.getD_cons_zero, List.getD_cons_succ, List.set_cons_zero, List.set_cons_succ, List.length_cons, List.length_nil, pk_I, pk_A, pr_A, pi_I, st_s, st_n, if_true, if_false, eq_self, d_if, d_ju, d_re, d_ca, cat0, cat1, cat2, cat3, fr_z, fr_s, cc_I, cc_A, cc_N, Nat.reduceAdd, Nat.reduceLT, Nat.reduceLeDiff, Nat.reduceEqDiff, not_true, not_false_iff, z1_0, z1_1, Bool.and_self, Bool.true_and, Bool.and_true, nI_add, pk_mul, nI_clamp, decide_true, Nat.le_refl, bI_eq, bI_z1, nI_ltI, nI_leI, k1, hbt, e1, hni]
    split
    · rename_i hb
      refine go_at (blk := b_Forecast_sumOf_35) rfl ?_
      simp (disch := omega) only [b_Forecast_sumOf_35, be_1, be_0, List.getD_cons_zero, List.getD_cons_succ, List.set_cons_zero, List.set_cons_succ, List.length_cons, List.length_nil, pk_I, pk_A, pr_A, pi_I, st_s, st_n, if_true, if_false, eq_self, d_if, d_ju, d_re, d_ca, cat0, cat1, cat2, cat3, fr_z, fr_s, cc_I, cc_A, cc_N, Nat.reduceAdd, Nat.reduceLT, Nat.reduceLeDiff, Nat.reduceEqDiff, not_true, not_false_iff, z1_0, z1_1, Bool.and_self, Bool.true_and, Bool.and_true, nI_add, pk_mul, nI_clamp, decide_true, Nat.le_refl, bI_eq, bI_z1, nI_ltI, nI_leI, k1, hbt, e1, hni]
      refine go_at (blk := b_Forecast_sumOf_36) rfl ?_
      simp (disch := omega) only [b_Forecast_sumOf_36, be_12, be_7, be_10, be_51, List.getD_cons_zero, List.getD_cons_succ, List.set_cons_zero, List.set_cons_succ, List.length_cons, List.length_nil, pk_I, pk_A, pr_A, pi_I, st_s, st_n, if_true, if_false, eq_self, d_if, d_ju, d_re, d_ca, cat0, cat1, cat2, cat3, fr_z, fr_s, cc_I, cc_A, cc_N, Nat.reduceAdd, Nat.reduceLT, Nat.reduceLeDiff, Nat.reduceEqDiff, not_true, not_false_iff, z1_0, z1_1, Bool.and_self, Bool.true_and, Bool.and_true, nI_add, pk_mul, nI_clamp, decide_true, Nat.le_refl, bI_eq, bI_z1, nI_ltI, nI_leI, k1, hbt, e1, hni]
      rw [su_f hb] at ih
      exact ih
    · rename_i hb
      have hb := Decidable.not_not.mp hb
      refine go_at (blk := b_Forecast_sumOf_28) rfl ?_
      simp (disch := omega) only [b_Forecast_sumOf_28, be_6, be_4, be_38, be_51, ka_30, List.getD_cons_zero, List.getD_cons_succ, List.set_cons_zero, List.set_cons_succ, List.length_cons, List.length_nil, pk_I, pk_A, pr_A, pi_I, st_s, st_n, if_true, if_false, eq_self, d_if, d_ju, d_re, d_ca, cat0, cat1, cat2, cat3, fr_z, fr_s, cc_I, cc_A, cc_N, Nat.reduceAdd, Nat.reduceLT, Nat.reduceLeDiff, Nat.reduceEqDiff, not_true, not_false_iff, z1_0, z1_1, Bool.and_self, Bool.true_and, Bool.and_true, nI_add, pk_mul, nI_clamp, decide_true, Nat.le_refl, bI_eq, bI_z1, nI_ltI, nI_leI, k1, hbt, e1, hni]
      refine go_at (blk := b_Forecast_sumOf_36) rfl ?_
      simp (disch := omega) only [b_Forecast_sumOf_36, be_12, be_7, be_10, be_51, List.getD_cons_zero, List.getD_cons_succ, List.set_cons_zero, List.set_cons_succ, List.length_cons, List.length_nil, pk_I, pk_A, pr_A, pi_I, st_s, st_n, if_true, if_false, eq_self, d_if, d_ju, d_re, d_ca, cat0, cat1, cat2, cat3, fr_z, fr_s, cc_I, cc_A, cc_N, Nat.reduceAdd, Nat.reduceLT, Nat.reduceLeDiff, Nat.reduceEqDiff, not_true, not_false_iff, z1_0, z1_1, Bool.and_self, Bool.true_and, Bool.and_true, nI_add, pk_mul, nI_clamp, decide_true, Nat.le_refl, bI_eq, bI_z1, nI_ltI, nI_leI, k1, hbt, e1, hni]
      rw [su_t hb] at ih
      exact ih
  · have e1 : (1 : Nat) = 1 := rfl
    have hbt : (1 : Nat) = 1 := rfl
    try dsimp only
    refine go_at (blk := b_Forecast_sumOf_5) rfl ?_
    simp (disch := omega) only [b_Forecast_sumOf_5, be_4, be_6, be_34, be_33, be_49_3, kc_350, rf_350_0, kc_25, List.getD_cons_zero, List.getD_cons_succ, List.set_cons_zero, List.set_cons_succ, List.length_cons, List.length_nil, pk_I, pk_A, pr_A, pi_I, st_s, st_n, if_true, if_false, eq_self, d_if, d_ju, d_re, d_ca, cat0, cat1, cat2, cat3, fr_z, fr_s, cc_I, cc_A, cc_N, Nat.reduceAdd, Nat.reduceLT, Nat.reduceLeDiff, Nat.reduceEqDiff, not_true, not_false_iff, z1_0, z1_1, Bool.and_self, Bool.true_and, Bool.and_true, nI_add, pk_mul, nI_clamp, decide_true, Nat.le_refl, bI_eq, bI_z1, nI_ltI, nI_leI, k1, hbt, e1]
    refine go_at (blk := b_Forecast_sumOf_44) rfl ?_
    simp (disch := omega) only [b_Forecast_sumOf_44, be_4, be_54, List.getD_cons_zero, List.getD_cons_succ, List.set_cons_zero, List.set_cons_succ, List.length_cons, List.length_nil, pk_I, pk_A, pr_A, pi_I, st_s, st_n, if_true, if_false, eq_self, d_if, d_ju, d_re, d_ca, cat0, cat1, cat2, cat3, fr_z, fr_s, cc_I, cc_A, cc_N, Nat.reduceAdd, Nat.reduceLT, Nat.reduceLeDiff, Nat.reduceEqDiff, not_true, not_false_iff, z1_0, z1_1, Bool.and_self, Bool.true_and, Bool.and_true, nI_add, pk_mul, nI_clamp, decide_true, Nat.le_refl, bI_eq, bI_z1, nI_ltI, nI_leI, k1, hbt, e1]
    exact hQ
theorem z_10 : (nI 1 = 0) ↔ False := by decide
set_option maxHeartbeats 1000000 in
theorem k_cheaper {d : Nat} {v : Nat → Nat → Int32} {w : Nat → Nat → Int64} {Q : Option Value → am_H → Prop} {T : TXT} {f : Nat → Int32} {B : Int} (hK : KI B v T f) {s b : Nat} (hs : s < 256) (hb : b < 256) (hQ : Q (some (.int (bI (chB T s b)))) (428, 26053, KD, RF, v, w)) : am_Ca (d + 2) M_Forecast_isCheaper [.ref 350, .int (nI s), .int (nI b)] (428, 26053, KD, RF, v, w) Q := by
  have h8 := hK.1.1
  have hBB := hK.2.2.2.2.2
  refine ca_in (k := k_Forecast_isCheaper) (nL := 6) rfl (Nat.le_of_ble_eq_true rfl) ?_
  show am_Go am_X0 _ k_Forecast_isCheaper 0 ([.ref 350, .int (nI s), .int (nI b), .null, .null, .null], [], _) _
  refine go_at (blk := b_Forecast_isCheaper_0) rfl ?_
  simp (disch := omega) only [b_Forecast_isCheaper_0, be_6, be_34, be_4, be_57_2, kc_350, rf_350_0, kc_25, rf_25_7, List.getD_cons_zero, List.getD_cons_succ, List.set_cons_zero, List.set_cons_succ, List.length_cons, List.length_nil, pk_I, pk_A, pr_A, pi_I, st_s, st_n, if_true, if_false, eq_self, d_if, d_ju, d_re, d_ca, cat0, cat1, cat2, cat3, fr_z, fr_s, cc_I, cc_A, cc_N, Nat.reduceAdd, Nat.reduceLT, Nat.reduceLeDiff, Nat.reduceEqDiff, not_true, not_false_iff, z1_0, z1_1, Bool.and_self, Bool.true_and, Bool.and_true, nI_add, pk_mul, nI_clamp, decide_true, Nat.le_refl, bI_eq, bI_z1, nI_z, z_10]
  refine k_sum30 hK hs ?_
  refine go_at (blk := b_Forecast_isCheaper_12) rfl ?_
  simp (disch := omega) only [b_Forecast_isCheaper_12, be_7, be_6, be_34, be_4, be_57_2, kc_350, rf_350_0, kc_25, rf_25_7, List.getD_cons_zero, List.getD_cons_succ, List.set_cons_zero, List.set_cons_succ, List.length_cons, List.length_nil, pk_I, pk_A, pr_A, pi_I, st_s, st_n, if_true, if_false, eq_self, d_if, d_ju, d_re, d_ca, cat0, cat1, cat2, cat3, fr_z, fr_s, cc_I, cc_A, cc_N, Nat.reduceAdd, Nat.reduceLT, Nat.reduceLeDiff, Nat.reduceEqDiff, not_true, not_false_iff, z1_0, z1_1, Bool.and_self, Bool.true_and, Bool.and_true, nI_add, pk_mul, nI_clamp, decide_true, Nat.le_refl, bI_eq, bI_z1, nI_z, z_10]
  refine k_sum30 hK hb ?_
  refine go_at (blk := b_Forecast_isCheaper_25) rfl ?_
  simp (disch := omega) only [b_Forecast_isCheaper_25, be_7, be_6, be_34, be_4, be_57_2, kc_350, rf_350_0, kc_25, rf_25_4, List.getD_cons_zero, List.getD_cons_succ, List.set_cons_zero, List.set_cons_succ, List.length_cons, List.length_nil, pk_I, pk_A, pr_A, pi_I, st_s, st_n, if_true, if_false, eq_self, d_if, d_ju, d_re, d_ca, cat0, cat1, cat2, cat3, fr_z, fr_s, cc_I, cc_A, cc_N, Nat.reduceAdd, Nat.reduceLT, Nat.reduceLeDiff, Nat.reduceEqDiff, not_true, not_false_iff, z1_0, z1_1, Bool.and_self, Bool.true_and, Bool.and_true, nI_add, pk_mul, nI_clamp, decide_true, Nat.le_refl, bI_eq, bI_z1, nI_z, z_10]
  refine k_sum27 hK hs ?_
  refine go_at (blk := b_Forecast_isCheaper_39) rfl ?_
  simp (disch := omega) only [b_Forecast_isCheaper_39, be_6, be_34, be_4, be_57_2, kc_350, rf_350_0, kc_25, rf_25_4, List.getD_cons_zero, List.getD_cons_succ, List.set_cons_zero, List.set_cons_succ, List.length_cons, List.length_nil, pk_I, pk_A, pr_A, pi_I, st_s, st_n, if_true, if_false, eq_self, d_if, d_ju, d_re, d_ca, cat0, cat1, cat2, cat3, fr_z, fr_s, cc_I, cc_A, cc_N, Nat.reduceAdd, Nat.reduceLT, Nat.reduceLeDiff, Nat.reduceEqDiff, not_true, not_false_iff, z1_0, z1_1, Bool.and_self, Bool.true_and, Bool.and_true, nI_add, pk_mul, nI_clamp, decide_true, Nat.le_refl, bI_eq, bI_z1, nI_z, z_10]
  refine k_sum27 hK hb ?_
  refine go_at (blk := b_Forecast_isCheaper_51) rfl ?_
  simp (disch := omega) only [b_Forecast_isCheaper_51, be_49_3, List.getD_cons_zero, List.getD_cons_succ, List.set_cons_zero, List.set_cons_succ, List.length_cons, List.length_nil, pk_I, pk_A, pr_A, pi_I, st_s, st_n, if_true, if_false, eq_self, d_if, d_ju, d_re, d_ca, cat0, cat1, cat2, cat3, fr_z, fr_s, cc_I, cc_A, cc_N, Nat.reduceAdd, Nat.reduceLT, Nat.reduceLeDiff, Nat.reduceEqDiff, not_true, not_false_iff, z1_0, z1_1, Bool.and_self, Bool.true_and, Bool.and_true, nI_add, pk_mul, nI_clamp, decide_true, Nat.le_refl, bI_eq, bI_z1, nI_z, z_10]
  split
  · rename_i h0
    refine go_at (blk := b_Forecast_isCheaper_58) rfl ?_
    simp (disch := omega) only [b_Forecast_isCheaper_58, be_1, be_0, List.getD_cons_zero, List.getD_cons_succ, List.set_cons_zero, List.set_cons_succ, List.length_cons, List.length_nil, pk_I, pk_A, pr_A, pi_I, st_s, st_n, if_true, if_false, eq_self, d_if, d_ju, d_re, d_ca, cat0, cat1, cat2, cat3, fr_z, fr_s, cc_I, cc_A, cc_N, Nat.reduceAdd, Nat.reduceLT, Nat.reduceLeDiff, Nat.reduceEqDiff, not_true, not_false_iff, z1_0, z1_1, Bool.and_self, Bool.true_and, Bool.and_true, nI_add, pk_mul, nI_clamp, decide_true, Nat.le_refl, bI_eq, bI_z1, nI_z, z_10]
    refine go_at (blk := b_Forecast_isCheaper_59) rfl ?_
    simp (disch := omega) only [b_Forecast_isCheaper_59, be_7, be_4, be_49_2, List.getD_cons_zero, List.getD_cons_succ, List.set_cons_zero, List.set_cons_succ, List.length_cons, List.length_nil, pk_I, pk_A, pr_A, pi_I, st_s, st_n, if_true, if_false, eq_self, d_if, d_ju, d_re, d_ca, cat0, cat1, cat2, cat3, fr_z, fr_s, cc_I, cc_A, cc_N, Nat.reduceAdd, Nat.reduceLT, Nat.reduceLeDiff, Nat.reduceEqDiff, not_true, not_false_iff, z1_0, z1_1, Bool.and_self, Bool.true_and, Bool.and_true, nI_add, pk_mul, nI_clamp, decide_true, Nat.le_refl, bI_eq, bI_z1, nI_z, z_10]
    split
    · rename_i h1
      refine go_at (blk := b_Forecast_isCheaper_78) rfl ?_
      simp (disch := omega) only [b_Forecast_isCheaper_78, be_1, be_51, List.getD_cons_zero, List.getD_cons_succ, List.set_cons_zero, List.set_cons_succ, List.length_cons, List.length_nil, pk_I, pk_A, pr_A, pi_I, st_s, st_n, if_true, if_false, eq_self, d_if, d_ju, d_re, d_ca, cat0, cat1, cat2, cat3, fr_z, fr_s, cc_I, cc_A, cc_N, Nat.reduceAdd, Nat.reduceLT, Nat.reduceLeDiff, Nat.reduceEqDiff, not_true, not_false_iff, z1_0, z1_1, Bool.and_self, Bool.true_and, Bool.and_true, nI_add, pk_mul, nI_clamp, decide_true, Nat.le_refl, bI_eq, bI_z1, nI_z, z_10]
      refine go_at (blk := b_Forecast_isCheaper_83) rfl ?_
      simp (disch := omega) only [b_Forecast_isCheaper_83, be_73, List.getD_cons_zero, List.getD_cons_succ, List.set_cons_zero, List.set_cons_succ, List.length_cons, List.length_nil, pk_I, pk_A, pr_A, pi_I, st_s, st_n, if_true, if_false, eq_self, d_if, d_ju, d_re, d_ca, cat0, cat1, cat2, cat3, fr_z, fr_s, cc_I, cc_A, cc_N, Nat.reduceAdd, Nat.reduceLT, Nat.reduceLeDiff, Nat.reduceEqDiff, not_true, not_false_iff, z1_0, z1_1, Bool.and_self, Bool.true_and, Bool.and_true, nI_add, pk_mul, nI_clamp, decide_true, Nat.le_refl, bI_eq, bI_z1, nI_z, z_10]
      rw [show chB T s b = true by unfold chB; rw [decide_eq_true h1]; rfl] at hQ
      exact hQ
    · rename_i h1
      refine go_at (blk := b_Forecast_isCheaper_67) rfl ?_
      simp (disch := omega) only [b_Forecast_isCheaper_67, be_4, be_49_1, List.getD_cons_zero, List.getD_cons_succ, List.set_cons_zero, List.set_cons_succ, List.length_cons, List.length_nil, pk_I, pk_A, pr_A, pi_I, st_s, st_n, if_true, if_false, eq_self, d_if, d_ju, d_re, d_ca, cat0, cat1, cat2, cat3, fr_z, fr_s, cc_I, cc_A, cc_N, Nat.reduceAdd, Nat.reduceLT, Nat.reduceLeDiff, Nat.reduceEqDiff, not_true, not_false_iff, z1_0, z1_1, Bool.and_self, Bool.true_and, Bool.and_true, nI_add, pk_mul, nI_clamp, decide_true, Nat.le_refl, bI_eq, bI_z1, nI_z, z_10]
      split
      · rename_i h2
        refine go_at (blk := b_Forecast_isCheaper_82) rfl ?_
        simp (disch := omega) only [b_Forecast_isCheaper_82, be_1, be_0, List.getD_cons_zero, List.getD_cons_succ, List.set_cons_zero, List.set_cons_succ, List.length_cons, List.length_nil, pk_I, pk_A, pr_A, pi_I, st_s, st_n, if_true, if_false, eq_self, d_if, d_ju, d_re, d_ca, cat0, cat1, cat2, cat3, fr_z, fr_s, cc_I, cc_A, cc_N, Nat.reduceAdd, Nat.reduceLT, Nat.reduceLeDiff, Nat.reduceEqDiff, not_true, not_false_iff, z1_0, z1_1, Bool.and_self, Bool.true_and, Bool.and_true, nI_add, pk_mul, nI_clamp, decide_true, Nat.le_refl, bI_eq, bI_z1, nI_z, z_10]
        refine go_at (blk := b_Forecast_isCheaper_83) rfl ?_
        simp (disch := omega) only [b_Forecast_isCheaper_83, be_73, List.getD_cons_zero, List.getD_cons_succ, List.set_cons_zero, List.set_cons_succ, List.length_cons, List.length_nil, pk_I, pk_A, pr_A, pi_I, st_s, st_n, if_true, if_false, eq_self, d_if, d_ju, d_re, d_ca, cat0, cat1, cat2, cat3, fr_z, fr_s, cc_I, cc_A, cc_N, Nat.reduceAdd, Nat.reduceLT, Nat.reduceLeDiff, Nat.reduceEqDiff, not_true, not_false_iff, z1_0, z1_1, Bool.and_self, Bool.true_and, Bool.and_true, nI_add, pk_mul, nI_clamp, decide_true, Nat.le_refl, bI_eq, bI_z1, nI_z, z_10]
        rw [show chB T s b = false by unfold chB; rw [decide_eq_false h1, decide_eq_false h2]; rfl] at hQ
        exact hQ
      · rename_i h2
        refine go_at (blk := b_Forecast_isCheaper_73) rfl ?_
        simp (disch := omega) only [b_Forecast_isCheaper_73, be_4, be_50_0, List.getD_cons_zero, List.getD_cons_succ, List.set_cons_zero, List.set_cons_succ, List.length_cons, List.length_nil, pk_I, pk_A, pr_A, pi_I, st_s, st_n, if_true, if_false, eq_self, d_if, d_ju, d_re, d_ca, cat0, cat1, cat2, cat3, fr_z, fr_s, cc_I, cc_A, cc_N, Nat.reduceAdd, Nat.reduceLT, Nat.reduceLeDiff, Nat.reduceEqDiff, not_true, not_false_iff, z1_0, z1_1, Bool.and_self, Bool.true_and, Bool.and_true, nI_add, pk_mul, nI_clamp, decide_true, Nat.le_refl, bI_eq, bI_z1, nI_z, z_10]
        refine go_at (blk := b_Forecast_isCheaper_82) rfl ?_
        simp (disch := omega) only [b_Forecast_isCheaper_82, be_1, be_0, List.getD_cons_zero, List.getD_cons_succ, List.set_cons_zero, List.set_cons_succ, List.length_cons, List.length_nil, pk_I, pk_A, pr_A, pi_I, st_s, st_n, if_true, if_false, eq_self, d_if, d_ju, d_re, d_ca, cat0, cat1, cat2, cat3, fr_z, fr_s, cc_I, cc_A, cc_N, Nat.reduceAdd, Nat.reduceLT, Nat.reduceLeDiff, Nat.reduceEqDiff, not_true, not_false_iff, z1_0, z1_1, Bool.and_self, Bool.true_and, Bool.and_true, nI_add, pk_mul, nI_clamp, decide_true, Nat.le_refl, bI_eq, bI_z1, nI_z, z_10]
        refine go_at (blk := b_Forecast_isCheaper_83) rfl ?_
        simp (disch := omega) only [b_Forecast_isCheaper_83, be_73, List.getD_cons_zero, List.getD_cons_succ, List.set_cons_zero, List.set_cons_succ, List.length_cons, List.length_nil, pk_I, pk_A, pr_A, pi_I, st_s, st_n, if_true, if_false, eq_self, d_if, d_ju, d_re, d_ca, cat0, cat1, cat2, cat3, fr_z, fr_s, cc_I, cc_A, cc_N, Nat.reduceAdd, Nat.reduceLT, Nat.reduceLeDiff, Nat.reduceEqDiff, not_true, not_false_iff, z1_0, z1_1, Bool.and_self, Bool.true_and, Bool.and_true, nI_add, pk_mul, nI_clamp, decide_true, Nat.le_refl, bI_eq, bI_z1, nI_z, z_10]
        rw [show chB T s b = false by unfold chB; rw [decide_eq_false h1, decide_eq_false (p := suS (tK T) s (tN T) < suS (tK T) b (tN T)) (Int32.not_lt.mpr h0)]; simp] at hQ
        exact hQ
  · rename_i h0
    refine go_at (blk := b_Forecast_isCheaper_54) rfl ?_
    simp (disch := omega) only [b_Forecast_isCheaper_54, be_1, be_51, List.getD_cons_zero, List.getD_cons_succ, List.set_cons_zero, List.set_cons_succ, List.length_cons, List.length_nil, pk_I, pk_A, pr_A, pi_I, st_s, st_n, if_true, if_false, eq_self, d_if, d_ju, d_re, d_ca, cat0, cat1, cat2, cat3, fr_z, fr_s, cc_I, cc_A, cc_N, Nat.reduceAdd, Nat.reduceLT, Nat.reduceLeDiff, Nat.reduceEqDiff, not_true, not_false_iff, z1_0, z1_1, Bool.and_self, Bool.true_and, Bool.and_true, nI_add, pk_mul, nI_clamp, decide_true, Nat.le_refl, bI_eq, bI_z1, nI_z, z_10]
    refine go_at (blk := b_Forecast_isCheaper_59) rfl ?_
    simp (disch := omega) only [b_Forecast_isCheaper_59, be_7, be_4, be_49_2, List.getD_cons_zero, List.getD_cons_succ, List.set_cons_zero, List.set_cons_succ, List.length_cons, List.length_nil, pk_I, pk_A, pr_A, pi_I, st_s, st_n, if_true, if_false, eq_self, d_if, d_ju, d_re, d_ca, cat0, cat1, cat2, cat3, fr_z, fr_s, cc_I, cc_A, cc_N, Nat.reduceAdd, Nat.reduceLT, Nat.reduceLeDiff, Nat.reduceEqDiff, not_true, not_false_iff, z1_0, z1_1, Bool.and_self, Bool.true_and, Bool.and_true, nI_add, pk_mul, nI_clamp, decide_true, Nat.le_refl, bI_eq, bI_z1, nI_z, z_10]
    split
    · rename_i h1
      refine go_at (blk := b_Forecast_isCheaper_78) rfl ?_
      simp (disch := omega) only [b_Forecast_isCheaper_78, be_1, be_51, List.getD_cons_zero, List.getD_cons_succ, List.set_cons_zero, List.set_cons_succ, List.length_cons, List.length_nil, pk_I, pk_A, pr_A, pi_I, st_s, st_n, if_true, if_false, eq_self, d_if, d_ju, d_re, d_ca, cat0, cat1, cat2, cat3, fr_z, fr_s, cc_I, cc_A, cc_N, Nat.reduceAdd, Nat.reduceLT, Nat.reduceLeDiff, Nat.reduceEqDiff, not_true, not_false_iff, z1_0, z1_1, Bool.and_self, Bool.true_and, Bool.and_true, nI_add, pk_mul, nI_clamp, decide_true, Nat.le_refl, bI_eq, bI_z1, nI_z, z_10]
      refine go_at (blk := b_Forecast_isCheaper_83) rfl ?_
      simp (disch := omega) only [b_Forecast_isCheaper_83, be_73, List.getD_cons_zero, List.getD_cons_succ, List.set_cons_zero, List.set_cons_succ, List.length_cons, List.length_nil, pk_I, pk_A, pr_A, pi_I, st_s, st_n, if_true, if_false, eq_self, d_if, d_ju, d_re, d_ca, cat0, cat1, cat2, cat3, fr_z, fr_s, cc_I, cc_A, cc_N, Nat.reduceAdd, Nat.reduceLT, Nat.reduceLeDiff, Nat.reduceEqDiff, not_true, not_false_iff, z1_0, z1_1, Bool.and_self, Bool.true_and, Bool.and_true, nI_add, pk_mul, nI_clamp, decide_true, Nat.le_refl, bI_eq, bI_z1, nI_z, z_10]
      rw [show chB T s b = true by unfold chB; rw [decide_eq_true h1]; rfl] at hQ
      exact hQ
    · rename_i h1
      refine go_at (blk := b_Forecast_isCheaper_67) rfl ?_
      simp (disch := omega) only [b_Forecast_isCheaper_67, be_4, be_49_1, List.getD_cons_zero, List.getD_cons_succ, List.set_cons_zero, List.set_cons_succ, List.length_cons, List.length_nil, pk_I, pk_A, pr_A, pi_I, st_s, st_n, if_true, if_false, eq_self, d_if, d_ju, d_re, d_ca, cat0, cat1, cat2, cat3, fr_z, fr_s, cc_I, cc_A, cc_N, Nat.reduceAdd, Nat.reduceLT, Nat.reduceLeDiff, Nat.reduceEqDiff, not_true, not_false_iff, z1_0, z1_1, Bool.and_self, Bool.true_and, Bool.and_true, nI_add, pk_mul, nI_clamp, decide_true, Nat.le_refl, bI_eq, bI_z1, nI_z, z_10]
      split
      · rename_i h2
        refine go_at (blk := b_Forecast_isCheaper_82) rfl ?_
        simp (disch := omega) only [b_Forecast_isCheaper_82, be_1, be_0, List.getD_cons_zero, List.getD_cons_succ, List.set_cons_zero, List.set_cons_succ, List.length_cons, List.length_nil, pk_I, pk_A, pr_A, pi_I, st_s, st_n, if_true, if_false, eq_self, d_if, d_ju, d_re, d_ca, cat0, cat1, cat2, cat3, fr_z, fr_s, cc_I, cc_A, cc_N, Nat.reduceAdd, Nat.reduceLT, Nat.reduceLeDiff, Nat.reduceEqDiff, not_true, not_false_iff, z1_0, z1_1, Bool.and_self, Bool.true_and, Bool.and_true, nI_add, pk_mul, nI_clamp, decide_true, Nat.le_refl, bI_eq, bI_z1, nI_z, z_10]
        refine go_at (blk := b_Forecast_isCheaper_83) rfl ?_
        simp (disch := omega) only [b_Forecast_isCheaper_83, be_73, List.getD_cons_zero, List.getD_cons_succ, List.set_cons_zero, List.set_cons_succ, List.length_cons, List.length_nil, pk_I, pk_A, pr_A, pi_I, st_s, st_n, if_true, if_false, eq_self, d_if, d_ju, d_re, d_ca, cat0, cat1, cat2, cat3, fr_z, fr_s, cc_I, cc_A, cc_N, Nat.reduceAdd, Nat.reduceLT, Nat.reduceLeDiff, Nat.reduceEqDiff, not_true, not_false_iff, z1_0, z1_1, Bool.and_self, Bool.true_and, Bool.and_true, nI_add, pk_mul, nI_clamp, decide_true, Nat.le_refl, bI_eq, bI_z1, nI_z, z_10]
        rw [show chB T s b = false by unfold chB; rw [decide_eq_false h1, decide_eq_false h2]; rfl] at hQ
        exact hQ
      · rename_i h2
        refine go_at (blk := b_Forecast_isCheaper_73) rfl ?_
        simp (disch := omega) only [b_Forecast_isCheaper_73, be_4, be_50_0, List.getD_cons_zero, List.getD_cons_succ, List.set_cons_zero, List.set_cons_succ, List.length_cons, List.length_nil, pk_I, pk_A, pr_A, pi_I, st_s, st_n, if_true, if_false, eq_self, d_if, d_ju, d_re, d_ca, cat0, cat1, cat2, cat3, fr_z, fr_s, cc_I, cc_A, cc_N, Nat.reduceAdd, Nat.reduceLT, Nat.reduceLeDiff, Nat.reduceEqDiff, not_true, not_false_iff, z1_0, z1_1, Bool.and_self, Bool.true_and, Bool.and_true, nI_add, pk_mul, nI_clamp, decide_true, Nat.le_refl, bI_eq, bI_z1, nI_z, z_10]
        refine go_at (blk := b_Forecast_isCheaper_78) rfl ?_
        simp (disch := omega) only [b_Forecast_isCheaper_78, be_1, be_51, List.getD_cons_zero, List.getD_cons_succ, List.set_cons_zero, List.set_cons_succ, List.length_cons, List.length_nil, pk_I, pk_A, pr_A, pi_I, st_s, st_n, if_true, if_false, eq_self, d_if, d_ju, d_re, d_ca, cat0, cat1, cat2, cat3, fr_z, fr_s, cc_I, cc_A, cc_N, Nat.reduceAdd, Nat.reduceLT, Nat.reduceLeDiff, Nat.reduceEqDiff, not_true, not_false_iff, z1_0, z1_1, Bool.and_self, Bool.true_and, Bool.and_true, nI_add, pk_mul, nI_clamp, decide_true, Nat.le_refl, bI_eq, bI_z1, nI_z, z_10]
        refine go_at (blk := b_Forecast_isCheaper_83) rfl ?_
        simp (disch := omega) only [b_Forecast_isCheaper_83, be_73, List.getD_cons_zero, List.getD_cons_succ, List.set_cons_zero, List.set_cons_succ, List.length_cons, List.length_nil, pk_I, pk_A, pr_A, pi_I, st_s, st_n, if_true, if_false, eq_self, d_if, d_ju, d_re, d_ca, cat0, cat1, cat2, cat3, fr_z, fr_s, cc_I, cc_A, cc_N, Nat.reduceAdd, Nat.reduceLT, Nat.reduceLeDiff, Nat.reduceEqDiff, not_true, not_false_iff, z1_0, z1_1, Bool.and_self, Bool.true_and, Bool.and_true, nI_add, pk_mul, nI_clamp, decide_true, Nat.le_refl, bI_eq, bI_z1, nI_z, z_10]
        rw [show chB T s b = true by unfold chB; rw [decide_eq_true (Decidable.not_not.mp h2), decide_eq_true (p := suS (tK T) s (tN T) < suS (tK T) b (tN T)) (Int32.not_le.mp h0)]; simp] at hQ
        exact hQ
theorem encN : encO none = -1 := rfl
theorem encS {b : Nat} : encO (some b) = nI b := rfl
set_option maxHeartbeats 1000000 in
theorem k_cheapest {d : Nat} {v : Nat → Nat → Int32} {w : Nat → Nat → Int64} {Q : Option Value → am_H → Prop} {T : TXT} {f : Nat → Int32} {B : Int} (hK : KI B v T f) {k n : Nat} {wh : Int32} (hk : k ≤ 8) (hn : n ≤ 300) (hQ : ∀ v', QF v v' → Q (some (.int (match ckS T f k n 256 with | none => -2 | some b => if wh = 0 then suS (tW T) b (tN T) else nI b))) (428, 26053, KD, RF, v', w)) : am_Ca (d + 6) M_Forecast_cheapestKneelers [.ref 350, .int (nI k), .int (nI n), .int wh] (428, 26053, KD, RF, v, w) Q := by
  have h8 := hK.1.1
  have hBB := hK.2.2.2.2.2
  have hcl2 := cnt_le (fun p => !onB f (-1) p) (tN T)
  refine ca_in (k := k_Forecast_cheapestKneelers) (nL := 9) rfl (Nat.le_of_ble_eq_true rfl) ?_
  show am_Go am_X0 _ k_Forecast_cheapestKneelers 0 ([.ref 350, .int (nI k), .int (nI n), .int wh, .null, .null, .null, .null, .null], [], _) _
  refine go_at (blk := b_Forecast_cheapestKneelers_0) rfl ?_
  simp (disch := omega) only [b_Forecast_cheapestKneelers_0, be_6, be_34, be_57_0, kc_350, rf_350_1, kc_42, List.getD_cons_zero, List.getD_cons_succ, List.set_cons_zero, List.set_cons_succ, List.length_cons, List.length_nil, pk_I, pk_A, pr_A, pi_I, st_s, st_n, if_true, if_false, eq_self, d_if, d_ju, d_re, d_ca, cat0, cat1, cat2, cat3, fr_z, fr_s, cc_I, cc_A, cc_N, Nat.reduceAdd, Nat.reduceLT, Nat.reduceLeDiff, Nat.reduceEqDiff, not_true, not_false_iff, z1_0, z1_1, Bool.and_self, Bool.true_and, Bool.and_true, nI_add, pk_mul, nI_clamp, decide_true, Nat.le_refl, bI_eq, bI_z1]
  refine k_who st_42 hK.1 hK.2.1 hK.2.2.1 ?_
  refine go_at (blk := b_Forecast_cheapestKneelers_7) rfl ?_
  simp (disch := omega) only [b_Forecast_cheapestKneelers_7, be_7, be_6, be_34, be_57_0, kc_350, rf_350_1, kc_42, List.getD_cons_zero, List.getD_cons_succ, List.set_cons_zero, List.set_cons_succ, List.length_cons, List.length_nil, pk_I, pk_A, pr_A, pi_I, st_s, st_n, if_true, if_false, eq_self, d_if, d_ju, d_re, d_ca, cat0, cat1, cat2, cat3, fr_z, fr_s, cc_I, cc_A, cc_N, Nat.reduceAdd, Nat.reduceLT, Nat.reduceLeDiff, Nat.reduceEqDiff, not_true, not_false_iff, z1_0, z1_1, Bool.and_self, Bool.true_and, Bool.and_true, nI_add, pk_mul, nI_clamp, decide_true, Nat.le_refl, bI_eq, bI_z1]
  refine k_arrived st_42 hK.1 hK.2.1 hK.2.2.1 ?_
  refine go_at (blk := b_Forecast_cheapestKneelers_16) rfl ?_
  simp (disch := omega) only [b_Forecast_cheapestKneelers_16, be_4, be_12, be_7, be_2, be_1, be_0, List.getD_cons_zero, List.getD_cons_succ, List.set_cons_zero, List.set_cons_succ, List.length_cons, List.length_nil, pk_I, pk_A, pr_A, pi_I, st_s, st_n, if_true, if_false, eq_self, d_if, d_ju, d_re, d_ca, cat0, cat1, cat2, cat3, fr_z, fr_s, cc_I, cc_A, cc_N, Nat.reduceAdd, Nat.reduceLT, Nat.reduceLeDiff, Nat.reduceEqDiff, not_true, not_false_iff, z1_0, z1_1, Bool.and_self, Bool.true_and, Bool.and_true, nI_add, pk_mul, nI_clamp, decide_true, Nat.le_refl, bI_eq, bI_z1]
  show am_Go am_X0 _ k_Forecast_cheapestKneelers 26 ([.ref 350, .int (nI k), .int (nI n), .int wh, .int (nI (mayM T f)), .int (nI (arN T f + k)), .int (-1), .int (nI 0), .null], [], _) _
  have hA : arN T f ≤ 8 := by unfold arN; omega
  by_cases hz : tN T < arN T f + k
  · have k1 := hK.1.2.1
    refine go_at (blk := b_Forecast_cheapestKneelers_26) rfl ?_
    simp (disch := omega) only [b_Forecast_cheapestKneelers_26, be_4, be_1, be_49_3, List.getD_cons_zero, List.getD_cons_succ, List.set_cons_zero, List.set_cons_succ, List.length_cons, List.length_nil, pk_I, pk_A, pr_A, pi_I, st_s, st_n, if_true, if_false, eq_self, d_if, d_ju, d_re, d_ca, cat0, cat1, cat2, cat3, fr_z, fr_s, cc_I, cc_A, cc_N, Nat.reduceAdd, Nat.reduceLT, Nat.reduceLeDiff, Nat.reduceEqDiff, not_true, not_false_iff, z1_0, z1_1, Bool.and_self, Bool.true_and, Bool.and_true, nI_add, pk_mul, nI_clamp, decide_true, Nat.le_refl, bI_eq, bI_z1, nI_ltI, nI_leI, k1, hz]
    refine go_at (blk := b_Forecast_cheapestKneelers_34) rfl ?_
    simp (disch := omega) only [b_Forecast_cheapestKneelers_34, be_4, be_6, be_34, be_33, be_49_4, kc_350, rf_350_0, kc_25, List.getD_cons_zero, List.getD_cons_succ, List.set_cons_zero, List.set_cons_succ, List.length_cons, List.length_nil, pk_I, pk_A, pr_A, pi_I, st_s, st_n, if_true, if_false, eq_self, d_if, d_ju, d_re, d_ca, cat0, cat1, cat2, cat3, fr_z, fr_s, cc_I, cc_A, cc_N, Nat.reduceAdd, Nat.reduceLT, Nat.reduceLeDiff, Nat.reduceEqDiff, not_true, not_false_iff, z1_0, z1_1, Bool.and_self, Bool.true_and, Bool.and_true, nI_add, pk_mul, nI_clamp, decide_true, Nat.le_refl, bI_eq, bI_z1, nI_ltI, nI_leI, k1, hz]
    refine go_at (blk := b_Forecast_cheapestKneelers_119) rfl ?_
    simp (disch := omega) only [b_Forecast_cheapestKneelers_119, be_4, be_2, be_49_1, List.getD_cons_zero, List.getD_cons_succ, List.set_cons_zero, List.set_cons_succ, List.length_cons, List.length_nil, pk_I, pk_A, pr_A, pi_I, st_s, st_n, if_true, if_false, eq_self, d_if, d_ju, d_re, d_ca, cat0, cat1, cat2, cat3, fr_z, fr_s, cc_I, cc_A, cc_N, Nat.reduceAdd, Nat.reduceLT, Nat.reduceLeDiff, Nat.reduceEqDiff, not_true, not_false_iff, z1_0, z1_1, Bool.and_self, Bool.true_and, Bool.and_true, nI_add, pk_mul, nI_clamp, decide_true, Nat.le_refl, bI_eq, bI_z1, nI_ltI, nI_leI, k1, hz]
    refine go_at (blk := b_Forecast_cheapestKneelers_125) rfl ?_
    simp (disch := omega) only [b_Forecast_cheapestKneelers_125, be_2, be_54, List.getD_cons_zero, List.getD_cons_succ, List.set_cons_zero, List.set_cons_succ, List.length_cons, List.length_nil, pk_I, pk_A, pr_A, pi_I, st_s, st_n, if_true, if_false, eq_self, d_if, d_ju, d_re, d_ca, cat0, cat1, cat2, cat3, fr_z, fr_s, cc_I, cc_A, cc_N, Nat.reduceAdd, Nat.reduceLT, Nat.reduceLeDiff, Nat.reduceEqDiff, not_true, not_false_iff, z1_0, z1_1, Bool.and_self, Bool.true_and, Bool.and_true, nI_add, pk_mul, nI_clamp, decide_true, Nat.le_refl, bI_eq, bI_z1, nI_ltI, nI_leI, k1, hz]
    rw [ck_no hz] at hQ
    exact hQ v QF_r
  · have hng := hz
    refine go_loopA (α := (Nat → Nat → Int32) × Value) (fun i x => ([.ref 350, .int (nI k), .int (nI n), .int wh, .int (nI (mayM T f)), .int (nI (arN T f + k)), .int (encO (ckS T f k n i)), .int (nI i), x.2], [], (428, 26053, KD, RF, x.1, w))) (fun i x => QF v x.1 ∧ am_cc x.2 = true) (256) ?_ ?_ (v, .null) ⟨QF_r, rfl⟩
    · intro i x hi ⟨x1, x2⟩ ih
      try dsimp only at *
      have hni : ¬ 256 ≤ i := by omega
      have hKx : KI B x.1 T f := KI_q hK x1
      have k1 := hKx.1.2.1
      cases hcs : ckS T f k n i with
      | none =>
        refine go_at (blk := b_Forecast_cheapestKneelers_26) rfl ?_
        simp (disch := omega) only [b_Forecast_cheapestKneelers_26, be_4, be_1, be_49_3, List.getD_cons_zero, List.getD_cons_succ, List.set_cons_zero, List.set_cons_succ, List.length_cons, List.length_nil, pk_I, pk_A, pr_A, pi_I, st_s, st_n, if_true, if_false, eq_self, d_if, d_ju, d_re, d_ca, cat0, cat1, cat2, cat3, fr_z, fr_s, cc_I, cc_A, cc_N, Nat.reduceAdd, Nat.reduceLT, Nat.reduceLeDiff, Nat.reduceEqDiff, not_true, not_false_iff, z1_0, z1_1, Bool.and_self, Bool.true_and, Bool.and_true, nI_add, pk_mul, nI_clamp, decide_true, Nat.le_refl, bI_eq, bI_z1, nI_ltI, nI_leI, k1, hni, hng, x2, nI_z, z_10, encN]
        refine go_at (blk := b_Forecast_cheapestKneelers_34) rfl ?_
        simp (disch := omega) only [b_Forecast_cheapestKneelers_34, be_4, be_6, be_34, be_33, be_49_4, kc_350, rf_350_0, kc_25, List.getD_cons_zero, List.getD_cons_succ, List.set_cons_zero, List.set_cons_succ, List.length_cons, List.length_nil, pk_I, pk_A, pr_A, pi_I, st_s, st_n, if_true, if_false, eq_self, d_if, d_ju, d_re, d_ca, cat0, cat1, cat2, cat3, fr_z, fr_s, cc_I, cc_A, cc_N, Nat.reduceAdd, Nat.reduceLT, Nat.reduceLeDiff, Nat.reduceEqDiff, not_true, not_false_iff, z1_0, z1_1, Bool.and_self, Bool.true_and, Bool.and_true, nI_add, pk_mul, nI_clamp, decide_true, Nat.le_refl, bI_eq, bI_z1, nI_ltI, nI_leI, k1, hni, hng, x2, nI_z, z_10, encN]
        refine go_at (blk := b_Forecast_cheapestKneelers_46) rfl ?_
        simp (disch := omega) only [b_Forecast_cheapestKneelers_46, be_4, be_2, be_20, be_18, be_50_1, List.getD_cons_zero, List.getD_cons_succ, List.set_cons_zero, List.set_cons_succ, List.length_cons, List.length_nil, pk_I, pk_A, pr_A, pi_I, st_s, st_n, if_true, if_false, eq_self, d_if, d_ju, d_re, d_ca, cat0, cat1, cat2, cat3, fr_z, fr_s, cc_I, cc_A, cc_N, Nat.reduceAdd, Nat.reduceLT, Nat.reduceLeDiff, Nat.reduceEqDiff, not_true, not_false_iff, z1_0, z1_1, Bool.and_self, Bool.true_and, Bool.and_true, nI_add, pk_mul, nI_clamp, decide_true, Nat.le_refl, bI_eq, bI_z1, nI_ltI, nI_leI, k1, hni, hng, x2, nI_z, z_10, encN]
        split
        · rename_i hs
          refine go_at (blk := b_Forecast_cheapestKneelers_77) rfl ?_
          simp (disch := omega) only [b_Forecast_cheapestKneelers_77, be_1, be_0, List.getD_cons_zero, List.getD_cons_succ, List.set_cons_zero, List.set_cons_succ, List.length_cons, List.length_nil, pk_I, pk_A, pr_A, pi_I, st_s, st_n, if_true, if_false, eq_self, d_if, d_ju, d_re, d_ca, cat0, cat1, cat2, cat3, fr_z, fr_s, cc_I, cc_A, cc_N, Nat.reduceAdd, Nat.reduceLT, Nat.reduceLeDiff, Nat.reduceEqDiff, not_true, not_false_iff, z1_0, z1_1, Bool.and_self, Bool.true_and, Bool.and_true, nI_add, pk_mul, nI_clamp, decide_true, Nat.le_refl, bI_eq, bI_z1, nI_ltI, nI_leI, k1, hni, hng, x2, nI_z, z_10, encN]
          refine go_at (blk := b_Forecast_cheapestKneelers_78) rfl ?_
          simp (disch := omega) only [b_Forecast_cheapestKneelers_78, be_7, be_4, be_50_0, List.getD_cons_zero, List.getD_cons_succ, List.set_cons_zero, List.set_cons_succ, List.length_cons, List.length_nil, pk_I, pk_A, pr_A, pi_I, st_s, st_n, if_true, if_false, eq_self, d_if, d_ju, d_re, d_ca, cat0, cat1, cat2, cat3, fr_z, fr_s, cc_I, cc_A, cc_N, Nat.reduceAdd, Nat.reduceLT, Nat.reduceLeDiff, Nat.reduceEqDiff, not_true, not_false_iff, z1_0, z1_1, Bool.and_self, Bool.true_and, Bool.and_true, nI_add, pk_mul, nI_clamp, decide_true, Nat.le_refl, bI_eq, bI_z1, nI_ltI, nI_leI, k1, hni, hng, x2, nI_z, z_10, encN]
          refine go_at (blk := b_Forecast_cheapestKneelers_113) rfl ?_
          simp (disch := omega) only [b_Forecast_cheapestKneelers_113, be_10, be_51, List.getD_cons_zero, List.getD_cons_succ, List.set_cons_zero, List.set_cons_succ, List.length_cons, List.length_nil, pk_I, pk_A, pr_A, pi_I, st_s, st_n, if_true, if_false, eq_self, d_if, d_ju, d_re, d_ca, cat0, cat1, cat2, cat3, fr_z, fr_s, cc_I, cc_A, cc_N, Nat.reduceAdd, Nat.reduceLT, Nat.reduceLeDiff, Nat.reduceEqDiff, not_true, not_false_iff, z1_0, z1_1, Bool.and_self, Bool.true_and, Bool.and_true, nI_add, pk_mul, nI_clamp, decide_true, Nat.le_refl, bI_eq, bI_z1, nI_ltI, nI_leI, k1, hni, hng, x2, nI_z, z_10, encN]
          simp only [ck_f (show ckP T f k n i (ckS T f k n i) = false by rw [hcs]; unfold ckP; rw [show sbB i (mayM T f) = false from decide_eq_false hs]; rfl)] at ih
          rw [hcs] at ih
          exact ih (x.1, .int _) ⟨x1, rfl⟩
        · rename_i hs
          have hs := Decidable.not_not.mp hs
          refine go_at (blk := b_Forecast_cheapestKneelers_56) rfl ?_
          simp (disch := omega) only [b_Forecast_cheapestKneelers_56, be_4, be_2, be_49_0, List.getD_cons_zero, List.getD_cons_succ, List.set_cons_zero, List.set_cons_succ, List.length_cons, List.length_nil, pk_I, pk_A, pr_A, pi_I, st_s, st_n, if_true, if_false, eq_self, d_if, d_ju, d_re, d_ca, cat0, cat1, cat2, cat3, fr_z, fr_s, cc_I, cc_A, cc_N, Nat.reduceAdd, Nat.reduceLT, Nat.reduceLeDiff, Nat.reduceEqDiff, not_true, not_false_iff, z1_0, z1_1, Bool.and_self, Bool.true_and, Bool.and_true, nI_add, pk_mul, nI_clamp, decide_true, Nat.le_refl, bI_eq, bI_z1, nI_ltI, nI_leI, k1, hni, hng, x2, nI_z, z_10, encN]
          refine go_at (blk := b_Forecast_cheapestKneelers_73) rfl ?_
          simp (disch := omega) only [b_Forecast_cheapestKneelers_73, be_1, be_51, List.getD_cons_zero, List.getD_cons_succ, List.set_cons_zero, List.set_cons_succ, List.length_cons, List.length_nil, pk_I, pk_A, pr_A, pi_I, st_s, st_n, if_true, if_false, eq_self, d_if, d_ju, d_re, d_ca, cat0, cat1, cat2, cat3, fr_z, fr_s, cc_I, cc_A, cc_N, Nat.reduceAdd, Nat.reduceLT, Nat.reduceLeDiff, Nat.reduceEqDiff, not_true, not_false_iff, z1_0, z1_1, Bool.and_self, Bool.true_and, Bool.and_true, nI_add, pk_mul, nI_clamp, decide_true, Nat.le_refl, bI_eq, bI_z1, nI_ltI, nI_leI, k1, hni, hng, x2, nI_z, z_10, encN]
          refine go_at (blk := b_Forecast_cheapestKneelers_78) rfl ?_
          simp (disch := omega) only [b_Forecast_cheapestKneelers_78, be_7, be_4, be_50_0, List.getD_cons_zero, List.getD_cons_succ, List.set_cons_zero, List.set_cons_succ, List.length_cons, List.length_nil, pk_I, pk_A, pr_A, pi_I, st_s, st_n, if_true, if_false, eq_self, d_if, d_ju, d_re, d_ca, cat0, cat1, cat2, cat3, fr_z, fr_s, cc_I, cc_A, cc_N, Nat.reduceAdd, Nat.reduceLT, Nat.reduceLeDiff, Nat.reduceEqDiff, not_true, not_false_iff, z1_0, z1_1, Bool.and_self, Bool.true_and, Bool.and_true, nI_add, pk_mul, nI_clamp, decide_true, Nat.le_refl, bI_eq, bI_z1, nI_ltI, nI_leI, k1, hni, hng, x2, nI_z, z_10, encN]
          refine go_at (blk := b_Forecast_cheapestKneelers_85) rfl ?_
          simp (disch := omega) only [b_Forecast_cheapestKneelers_85, be_6, be_4, be_57_2, kc_350, List.getD_cons_zero, List.getD_cons_succ, List.set_cons_zero, List.set_cons_succ, List.length_cons, List.length_nil, pk_I, pk_A, pr_A, pi_I, st_s, st_n, if_true, if_false, eq_self, d_if, d_ju, d_re, d_ca, cat0, cat1, cat2, cat3, fr_z, fr_s, cc_I, cc_A, cc_N, Nat.reduceAdd, Nat.reduceLT, Nat.reduceLeDiff, Nat.reduceEqDiff, not_true, not_false_iff, z1_0, z1_1, Bool.and_self, Bool.true_and, Bool.and_true, nI_add, pk_mul, nI_clamp, decide_true, Nat.le_refl, bI_eq, bI_z1, nI_ltI, nI_leI, k1, hni, hng, x2, nI_z, z_10, encN]
          refine k_try (s := i) hKx (by omega) hn ?_
          intro v2 q2 r2 g2
          refine go_at (blk := b_Forecast_cheapestKneelers_92) rfl ?_
          simp (disch := omega) only [b_Forecast_cheapestKneelers_92, be_6, be_34, be_57_0, kc_350, rf_350_2, kc_352, List.getD_cons_zero, List.getD_cons_succ, List.set_cons_zero, List.set_cons_succ, List.length_cons, List.length_nil, pk_I, pk_A, pr_A, pi_I, st_s, st_n, if_true, if_false, eq_self, d_if, d_ju, d_re, d_ca, cat0, cat1, cat2, cat3, fr_z, fr_s, cc_I, cc_A, cc_N, Nat.reduceAdd, Nat.reduceLT, Nat.reduceLeDiff, Nat.reduceEqDiff, not_true, not_false_iff, z1_0, z1_1, Bool.and_self, Bool.true_and, Bool.and_true, nI_add, pk_mul, nI_clamp, decide_true, Nat.le_refl, bI_eq, bI_z1, nI_ltI, nI_leI, k1, hni, hng, x2, nI_z, z_10, encN]
          refine k_arrived st_352 (KI_q hKx q2).1 r2 g2 ?_
          have hcl := cnt_le (fun p => !onB (itT T (-1) 0 n (knS i f)) (-1) p) (tN T)
          refine go_at (blk := b_Forecast_cheapestKneelers_99) rfl ?_
          simp (disch := omega) only [b_Forecast_cheapestKneelers_99, be_4, be_49_2, List.getD_cons_zero, List.getD_cons_succ, List.set_cons_zero, List.set_cons_succ, List.length_cons, List.length_nil, pk_I, pk_A, pr_A, pi_I, st_s, st_n, if_true, if_false, eq_self, d_if, d_ju, d_re, d_ca, cat0, cat1, cat2, cat3, fr_z, fr_s, cc_I, cc_A, cc_N, Nat.reduceAdd, Nat.reduceLT, Nat.reduceLeDiff, Nat.reduceEqDiff, not_true, not_false_iff, z1_0, z1_1, Bool.and_self, Bool.true_and, Bool.and_true, nI_add, pk_mul, nI_clamp, decide_true, Nat.le_refl, bI_eq, bI_z1, nI_ltI, nI_leI, k1, hni, hng, x2, nI_z, z_10, encN]
          split
          · rename_i hg
            refine go_at (blk := b_Forecast_cheapestKneelers_109) rfl ?_
            simp (disch := omega) only [b_Forecast_cheapestKneelers_109, be_4, be_0, List.getD_cons_zero, List.getD_cons_succ, List.set_cons_zero, List.set_cons_succ, List.length_cons, List.length_nil, pk_I, pk_A, pr_A, pi_I, st_s, st_n, if_true, if_false, eq_self, d_if, d_ju, d_re, d_ca, cat0, cat1, cat2, cat3, fr_z, fr_s, cc_I, cc_A, cc_N, Nat.reduceAdd, Nat.reduceLT, Nat.reduceLeDiff, Nat.reduceEqDiff, not_true, not_false_iff, z1_0, z1_1, Bool.and_self, Bool.true_and, Bool.and_true, nI_add, pk_mul, nI_clamp, decide_true, Nat.le_refl, bI_eq, bI_z1, nI_ltI, nI_leI, k1, hni, hng, x2, nI_z, z_10, encN]
            refine go_at (blk := b_Forecast_cheapestKneelers_111) rfl ?_
            simp (disch := omega) only [b_Forecast_cheapestKneelers_111, be_7, be_0, List.getD_cons_zero, List.getD_cons_succ, List.set_cons_zero, List.set_cons_succ, List.length_cons, List.length_nil, pk_I, pk_A, pr_A, pi_I, st_s, st_n, if_true, if_false, eq_self, d_if, d_ju, d_re, d_ca, cat0, cat1, cat2, cat3, fr_z, fr_s, cc_I, cc_A, cc_N, Nat.reduceAdd, Nat.reduceLT, Nat.reduceLeDiff, Nat.reduceEqDiff, not_true, not_false_iff, z1_0, z1_1, Bool.and_self, Bool.true_and, Bool.and_true, nI_add, pk_mul, nI_clamp, decide_true, Nat.le_refl, bI_eq, bI_z1, nI_ltI, nI_leI, k1, hni, hng, x2, nI_z, z_10, encN]
            refine go_at (blk := b_Forecast_cheapestKneelers_113) rfl ?_
            simp (disch := omega) only [b_Forecast_cheapestKneelers_113, be_10, be_51, List.getD_cons_zero, List.getD_cons_succ, List.set_cons_zero, List.set_cons_succ, List.length_cons, List.length_nil, pk_I, pk_A, pr_A, pi_I, st_s, st_n, if_true, if_false, eq_self, d_if, d_ju, d_re, d_ca, cat0, cat1, cat2, cat3, fr_z, fr_s, cc_I, cc_A, cc_N, Nat.reduceAdd, Nat.reduceLT, Nat.reduceLeDiff, Nat.reduceEqDiff, not_true, not_false_iff, z1_0, z1_1, Bool.and_self, Bool.true_and, Bool.and_true, nI_add, pk_mul, nI_clamp, decide_true, Nat.le_refl, bI_eq, bI_z1, nI_ltI, nI_leI, k1, hni, hng, x2, nI_z, z_10, encN]
            simp only [ck_f (show ckP T f k n i (ckS T f k n i) = false by rw [hcs]; unfold ckP; rw [show sbB i (mayM T f) = true from decide_eq_true hs]; dsimp only; rw [decide_eq_false (p := arN T f + k ≤ arN T (itT T (-1) 0 n (knS i f))) (Nat.not_le.mpr hg)]; simp)] at ih
            rw [hcs] at ih
            exact ih (v2, .int _) ⟨QF_t x1 q2, rfl⟩
          · rename_i hg
            refine go_at (blk := b_Forecast_cheapestKneelers_104) rfl ?_
            simp (disch := omega) only [b_Forecast_cheapestKneelers_104, be_4, be_51, List.getD_cons_zero, List.getD_cons_succ, List.set_cons_zero, List.set_cons_succ, List.length_cons, List.length_nil, pk_I, pk_A, pr_A, pi_I, st_s, st_n, if_true, if_false, eq_self, d_if, d_ju, d_re, d_ca, cat0, cat1, cat2, cat3, fr_z, fr_s, cc_I, cc_A, cc_N, Nat.reduceAdd, Nat.reduceLT, Nat.reduceLeDiff, Nat.reduceEqDiff, not_true, not_false_iff, z1_0, z1_1, Bool.and_self, Bool.true_and, Bool.and_true, nI_add, pk_mul, nI_clamp, decide_true, Nat.le_refl, bI_eq, bI_z1, nI_ltI, nI_leI, k1, hni, hng, x2, nI_z, z_10, encN]
            refine go_at (blk := b_Forecast_cheapestKneelers_111) rfl ?_
            simp (disch := omega) only [b_Forecast_cheapestKneelers_111, be_7, be_0, List.getD_cons_zero, List.getD_cons_succ, List.set_cons_zero, List.set_cons_succ, List.length_cons, List.length_nil, pk_I, pk_A, pr_A, pi_I, st_s, st_n, if_true, if_false, eq_self, d_if, d_ju, d_re, d_ca, cat0, cat1, cat2, cat3, fr_z, fr_s, cc_I, cc_A, cc_N, Nat.reduceAdd, Nat.reduceLT, Nat.reduceLeDiff, Nat.reduceEqDiff, not_true, not_false_iff, z1_0, z1_1, Bool.and_self, Bool.true_and, Bool.and_true, nI_add, pk_mul, nI_clamp, decide_true, Nat.le_refl, bI_eq, bI_z1, nI_ltI, nI_leI, k1, hni, hng, x2, nI_z, z_10, encN]
            refine go_at (blk := b_Forecast_cheapestKneelers_113) rfl ?_
            simp (disch := omega) only [b_Forecast_cheapestKneelers_113, be_10, be_51, List.getD_cons_zero, List.getD_cons_succ, List.set_cons_zero, List.set_cons_succ, List.length_cons, List.length_nil, pk_I, pk_A, pr_A, pi_I, st_s, st_n, if_true, if_false, eq_self, d_if, d_ju, d_re, d_ca, cat0, cat1, cat2, cat3, fr_z, fr_s, cc_I, cc_A, cc_N, Nat.reduceAdd, Nat.reduceLT, Nat.reduceLeDiff, Nat.reduceEqDiff, not_true, not_false_iff, z1_0, z1_1, Bool.and_self, Bool.true_and, Bool.and_true, nI_add, pk_mul, nI_clamp, decide_true, Nat.le_refl, bI_eq, bI_z1, nI_ltI, nI_leI, k1, hni, hng, x2, nI_z, z_10, encN]
            simp only [ck_t (show ckP T f k n i (ckS T f k n i) = true by rw [hcs]; unfold ckP; rw [show sbB i (mayM T f) = true from decide_eq_true hs]; dsimp only; rw [decide_eq_true (p := arN T f + k ≤ arN T (itT T (-1) 0 n (knS i f))) (Nat.not_lt.mp hg)]; simp)] at ih
            exact ih (v2, .int _) ⟨QF_t x1 q2, rfl⟩
      | some b =>
        have hb2 := ck_lt i hcs
        have hbm := nI_mm (b := b) (by omega)
        refine go_at (blk := b_Forecast_cheapestKneelers_26) rfl ?_
        simp (disch := omega) only [b_Forecast_cheapestKneelers_26, be_4, be_1, be_49_3, List.getD_cons_zero, List.getD_cons_succ, List.set_cons_zero, List.set_cons_succ, List.length_cons, List.length_nil, pk_I, pk_A, pr_A, pi_I, st_s, st_n, if_true, if_false, eq_self, d_if, d_ju, d_re, d_ca, cat0, cat1, cat2, cat3, fr_z, fr_s, cc_I, cc_A, cc_N, Nat.reduceAdd, Nat.reduceLT, Nat.reduceLeDiff, Nat.reduceEqDiff, not_true, not_false_iff, z1_0, z1_1, Bool.and_self, Bool.true_and, Bool.and_true, nI_add, pk_mul, nI_clamp, decide_true, Nat.le_refl, bI_eq, bI_z1, nI_ltI, nI_leI, k1, hni, hng, x2, nI_z, z_10, encS, hbm]
        refine go_at (blk := b_Forecast_cheapestKneelers_34) rfl ?_
        simp (disch := omega) only [b_Forecast_cheapestKneelers_34, be_4, be_6, be_34, be_33, be_49_4, kc_350, rf_350_0, kc_25, List.getD_cons_zero, List.getD_cons_succ, List.set_cons_zero, List.set_cons_succ, List.length_cons, List.length_nil, pk_I, pk_A, pr_A, pi_I, st_s, st_n, if_true, if_false, eq_self, d_if, d_ju, d_re, d_ca, cat0, cat1, cat2, cat3, fr_z, fr_s, cc_I, cc_A, cc_N, Nat.reduceAdd, Nat.reduceLT, Nat.reduceLeDiff, Nat.reduceEqDiff, not_true, not_false_iff, z1_0, z1_1, Bool.and_self, Bool.true_and, Bool.and_true, nI_add, pk_mul, nI_clamp, decide_true, Nat.le_refl, bI_eq, bI_z1, nI_ltI, nI_leI, k1, hni, hng, x2, nI_z, z_10, encS, hbm]
        refine go_at (blk := b_Forecast_cheapestKneelers_46) rfl ?_
        simp (disch := omega) only [b_Forecast_cheapestKneelers_46, be_4, be_2, be_20, be_18, be_50_1, List.getD_cons_zero, List.getD_cons_succ, List.set_cons_zero, List.set_cons_succ, List.length_cons, List.length_nil, pk_I, pk_A, pr_A, pi_I, st_s, st_n, if_true, if_false, eq_self, d_if, d_ju, d_re, d_ca, cat0, cat1, cat2, cat3, fr_z, fr_s, cc_I, cc_A, cc_N, Nat.reduceAdd, Nat.reduceLT, Nat.reduceLeDiff, Nat.reduceEqDiff, not_true, not_false_iff, z1_0, z1_1, Bool.and_self, Bool.true_and, Bool.and_true, nI_add, pk_mul, nI_clamp, decide_true, Nat.le_refl, bI_eq, bI_z1, nI_ltI, nI_leI, k1, hni, hng, x2, nI_z, z_10, encS, hbm]
        split
        · rename_i hs
          refine go_at (blk := b_Forecast_cheapestKneelers_77) rfl ?_
          simp (disch := omega) only [b_Forecast_cheapestKneelers_77, be_1, be_0, List.getD_cons_zero, List.getD_cons_succ, List.set_cons_zero, List.set_cons_succ, List.length_cons, List.length_nil, pk_I, pk_A, pr_A, pi_I, st_s, st_n, if_true, if_false, eq_self, d_if, d_ju, d_re, d_ca, cat0, cat1, cat2, cat3, fr_z, fr_s, cc_I, cc_A, cc_N, Nat.reduceAdd, Nat.reduceLT, Nat.reduceLeDiff, Nat.reduceEqDiff, not_true, not_false_iff, z1_0, z1_1, Bool.and_self, Bool.true_and, Bool.and_true, nI_add, pk_mul, nI_clamp, decide_true, Nat.le_refl, bI_eq, bI_z1, nI_ltI, nI_leI, k1, hni, hng, x2, nI_z, z_10, encS, hbm]
          refine go_at (blk := b_Forecast_cheapestKneelers_78) rfl ?_
          simp (disch := omega) only [b_Forecast_cheapestKneelers_78, be_7, be_4, be_50_0, List.getD_cons_zero, List.getD_cons_succ, List.set_cons_zero, List.set_cons_succ, List.length_cons, List.length_nil, pk_I, pk_A, pr_A, pi_I, st_s, st_n, if_true, if_false, eq_self, d_if, d_ju, d_re, d_ca, cat0, cat1, cat2, cat3, fr_z, fr_s, cc_I, cc_A, cc_N, Nat.reduceAdd, Nat.reduceLT, Nat.reduceLeDiff, Nat.reduceEqDiff, not_true, not_false_iff, z1_0, z1_1, Bool.and_self, Bool.true_and, Bool.and_true, nI_add, pk_mul, nI_clamp, decide_true, Nat.le_refl, bI_eq, bI_z1, nI_ltI, nI_leI, k1, hni, hng, x2, nI_z, z_10, encS, hbm]
          refine go_at (blk := b_Forecast_cheapestKneelers_113) rfl ?_
          simp (disch := omega) only [b_Forecast_cheapestKneelers_113, be_10, be_51, List.getD_cons_zero, List.getD_cons_succ, List.set_cons_zero, List.set_cons_succ, List.length_cons, List.length_nil, pk_I, pk_A, pr_A, pi_I, st_s, st_n, if_true, if_false, eq_self, d_if, d_ju, d_re, d_ca, cat0, cat1, cat2, cat3, fr_z, fr_s, cc_I, cc_A, cc_N, Nat.reduceAdd, Nat.reduceLT, Nat.reduceLeDiff, Nat.reduceEqDiff, not_true, not_false_iff, z1_0, z1_1, Bool.and_self, Bool.true_and, Bool.and_true, nI_add, pk_mul, nI_clamp, decide_true, Nat.le_refl, bI_eq, bI_z1, nI_ltI, nI_leI, k1, hni, hng, x2, nI_z, z_10, encS, hbm]
          simp only [ck_f (show ckP T f k n i (ckS T f k n i) = false by rw [hcs]; unfold ckP; rw [show sbB i (mayM T f) = false from decide_eq_false hs]; rfl)] at ih
          rw [hcs] at ih
          exact ih (x.1, .int _) ⟨x1, rfl⟩
        · rename_i hs
          have hs := Decidable.not_not.mp hs
          refine go_at (blk := b_Forecast_cheapestKneelers_56) rfl ?_
          simp (disch := omega) only [b_Forecast_cheapestKneelers_56, be_4, be_2, be_49_0, List.getD_cons_zero, List.getD_cons_succ, List.set_cons_zero, List.set_cons_succ, List.length_cons, List.length_nil, pk_I, pk_A, pr_A, pi_I, st_s, st_n, if_true, if_false, eq_self, d_if, d_ju, d_re, d_ca, cat0, cat1, cat2, cat3, fr_z, fr_s, cc_I, cc_A, cc_N, Nat.reduceAdd, Nat.reduceLT, Nat.reduceLeDiff, Nat.reduceEqDiff, not_true, not_false_iff, z1_0, z1_1, Bool.and_self, Bool.true_and, Bool.and_true, nI_add, pk_mul, nI_clamp, decide_true, Nat.le_refl, bI_eq, bI_z1, nI_ltI, nI_leI, k1, hni, hng, x2, nI_z, z_10, encS, hbm]
          refine go_at (blk := b_Forecast_cheapestKneelers_62) rfl ?_
          simp (disch := omega) only [b_Forecast_cheapestKneelers_62, be_6, be_4, be_57_2, kc_350, List.getD_cons_zero, List.getD_cons_succ, List.set_cons_zero, List.set_cons_succ, List.length_cons, List.length_nil, pk_I, pk_A, pr_A, pi_I, st_s, st_n, if_true, if_false, eq_self, d_if, d_ju, d_re, d_ca, cat0, cat1, cat2, cat3, fr_z, fr_s, cc_I, cc_A, cc_N, Nat.reduceAdd, Nat.reduceLT, Nat.reduceLeDiff, Nat.reduceEqDiff, not_true, not_false_iff, z1_0, z1_1, Bool.and_self, Bool.true_and, Bool.and_true, nI_add, pk_mul, nI_clamp, decide_true, Nat.le_refl, bI_eq, bI_z1, nI_ltI, nI_leI, k1, hni, hng, x2, nI_z, z_10, encS, hbm]
          refine k_cheaper hKx (by omega) (by omega) ?_
          refine go_at (blk := b_Forecast_cheapestKneelers_70) rfl ?_
          simp (disch := omega) only [b_Forecast_cheapestKneelers_70, be_50_0, List.getD_cons_zero, List.getD_cons_succ, List.set_cons_zero, List.set_cons_succ, List.length_cons, List.length_nil, pk_I, pk_A, pr_A, pi_I, st_s, st_n, if_true, if_false, eq_self, d_if, d_ju, d_re, d_ca, cat0, cat1, cat2, cat3, fr_z, fr_s, cc_I, cc_A, cc_N, Nat.reduceAdd, Nat.reduceLT, Nat.reduceLeDiff, Nat.reduceEqDiff, not_true, not_false_iff, z1_0, z1_1, Bool.and_self, Bool.true_and, Bool.and_true, nI_add, pk_mul, nI_clamp, decide_true, Nat.le_refl, bI_eq, bI_z1, nI_ltI, nI_leI, k1, hni, hng, x2, nI_z, z_10, encS, hbm]
          split
          · rename_i hc
            refine go_at (blk := b_Forecast_cheapestKneelers_77) rfl ?_
            simp (disch := omega) only [b_Forecast_cheapestKneelers_77, be_1, be_0, List.getD_cons_zero, List.getD_cons_succ, List.set_cons_zero, List.set_cons_succ, List.length_cons, List.length_nil, pk_I, pk_A, pr_A, pi_I, st_s, st_n, if_true, if_false, eq_self, d_if, d_ju, d_re, d_ca, cat0, cat1, cat2, cat3, fr_z, fr_s, cc_I, cc_A, cc_N, Nat.reduceAdd, Nat.reduceLT, Nat.reduceLeDiff, Nat.reduceEqDiff, not_true, not_false_iff, z1_0, z1_1, Bool.and_self, Bool.true_and, Bool.and_true, nI_add, pk_mul, nI_clamp, decide_true, Nat.le_refl, bI_eq, bI_z1, nI_ltI, nI_leI, k1, hni, hng, x2, nI_z, z_10, encS, hbm]
            refine go_at (blk := b_Forecast_cheapestKneelers_78) rfl ?_
            simp (disch := omega) only [b_Forecast_cheapestKneelers_78, be_7, be_4, be_50_0, List.getD_cons_zero, List.getD_cons_succ, List.set_cons_zero, List.set_cons_succ, List.length_cons, List.length_nil, pk_I, pk_A, pr_A, pi_I, st_s, st_n, if_true, if_false, eq_self, d_if, d_ju, d_re, d_ca, cat0, cat1, cat2, cat3, fr_z, fr_s, cc_I, cc_A, cc_N, Nat.reduceAdd, Nat.reduceLT, Nat.reduceLeDiff, Nat.reduceEqDiff, not_true, not_false_iff, z1_0, z1_1, Bool.and_self, Bool.true_and, Bool.and_true, nI_add, pk_mul, nI_clamp, decide_true, Nat.le_refl, bI_eq, bI_z1, nI_ltI, nI_leI, k1, hni, hng, x2, nI_z, z_10, encS, hbm]
            refine go_at (blk := b_Forecast_cheapestKneelers_113) rfl ?_
            simp (disch := omega) only [b_Forecast_cheapestKneelers_113, be_10, be_51, List.getD_cons_zero, List.getD_cons_succ, List.set_cons_zero, List.set_cons_succ, List.length_cons, List.length_nil, pk_I, pk_A, pr_A, pi_I, st_s, st_n, if_true, if_false, eq_self, d_if, d_ju, d_re, d_ca, cat0, cat1, cat2, cat3, fr_z, fr_s, cc_I, cc_A, cc_N, Nat.reduceAdd, Nat.reduceLT, Nat.reduceLeDiff, Nat.reduceEqDiff, not_true, not_false_iff, z1_0, z1_1, Bool.and_self, Bool.true_and, Bool.and_true, nI_add, pk_mul, nI_clamp, decide_true, Nat.le_refl, bI_eq, bI_z1, nI_ltI, nI_leI, k1, hni, hng, x2, nI_z, z_10, encS, hbm]
            simp only [ck_f (show ckP T f k n i (ckS T f k n i) = false by rw [hcs]; unfold ckP; dsimp only; rw [hc]; simp)] at ih
            rw [hcs] at ih
            exact ih (x.1, .int _) ⟨x1, rfl⟩
          · rename_i hc
            refine go_at (blk := b_Forecast_cheapestKneelers_73) rfl ?_
            simp (disch := omega) only [b_Forecast_cheapestKneelers_73, be_1, be_51, List.getD_cons_zero, List.getD_cons_succ, List.set_cons_zero, List.set_cons_succ, List.length_cons, List.length_nil, pk_I, pk_A, pr_A, pi_I, st_s, st_n, if_true, if_false, eq_self, d_if, d_ju, d_re, d_ca, cat0, cat1, cat2, cat3, fr_z, fr_s, cc_I, cc_A, cc_N, Nat.reduceAdd, Nat.reduceLT, Nat.reduceLeDiff, Nat.reduceEqDiff, not_true, not_false_iff, z1_0, z1_1, Bool.and_self, Bool.true_and, Bool.and_true, nI_add, pk_mul, nI_clamp, decide_true, Nat.le_refl, bI_eq, bI_z1, nI_ltI, nI_leI, k1, hni, hng, x2, nI_z, z_10, encS, hbm]
            refine go_at (blk := b_Forecast_cheapestKneelers_78) rfl ?_
            simp (disch := omega) only [b_Forecast_cheapestKneelers_78, be_7, be_4, be_50_0, List.getD_cons_zero, List.getD_cons_succ, List.set_cons_zero, List.set_cons_succ, List.length_cons, List.length_nil, pk_I, pk_A, pr_A, pi_I, st_s, st_n, if_true, if_false, eq_self, d_if, d_ju, d_re, d_ca, cat0, cat1, cat2, cat3, fr_z, fr_s, cc_I, cc_A, cc_N, Nat.reduceAdd, Nat.reduceLT, Nat.reduceLeDiff, Nat.reduceEqDiff, not_true, not_false_iff, z1_0, z1_1, Bool.and_self, Bool.true_and, Bool.and_true, nI_add, pk_mul, nI_clamp, decide_true, Nat.le_refl, bI_eq, bI_z1, nI_ltI, nI_leI, k1, hni, hng, x2, nI_z, z_10, encS, hbm]
            refine go_at (blk := b_Forecast_cheapestKneelers_85) rfl ?_
            simp (disch := omega) only [b_Forecast_cheapestKneelers_85, be_6, be_4, be_57_2, kc_350, List.getD_cons_zero, List.getD_cons_succ, List.set_cons_zero, List.set_cons_succ, List.length_cons, List.length_nil, pk_I, pk_A, pr_A, pi_I, st_s, st_n, if_true, if_false, eq_self, d_if, d_ju, d_re, d_ca, cat0, cat1, cat2, cat3, fr_z, fr_s, cc_I, cc_A, cc_N, Nat.reduceAdd, Nat.reduceLT, Nat.reduceLeDiff, Nat.reduceEqDiff, not_true, not_false_iff, z1_0, z1_1, Bool.and_self, Bool.true_and, Bool.and_true, nI_add, pk_mul, nI_clamp, decide_true, Nat.le_refl, bI_eq, bI_z1, nI_ltI, nI_leI, k1, hni, hng, x2, nI_z, z_10, encS, hbm]
            refine k_try (s := i) hKx (by omega) hn ?_
            intro v2 q2 r2 g2
            refine go_at (blk := b_Forecast_cheapestKneelers_92) rfl ?_
            simp (disch := omega) only [b_Forecast_cheapestKneelers_92, be_6, be_34, be_57_0, kc_350, rf_350_2, kc_352, List.getD_cons_zero, List.getD_cons_succ, List.set_cons_zero, List.set_cons_succ, List.length_cons, List.length_nil, pk_I, pk_A, pr_A, pi_I, st_s, st_n, if_true, if_false, eq_self, d_if, d_ju, d_re, d_ca, cat0, cat1, cat2, cat3, fr_z, fr_s, cc_I, cc_A, cc_N, Nat.reduceAdd, Nat.reduceLT, Nat.reduceLeDiff, Nat.reduceEqDiff, not_true, not_false_iff, z1_0, z1_1, Bool.and_self, Bool.true_and, Bool.and_true, nI_add, pk_mul, nI_clamp, decide_true, Nat.le_refl, bI_eq, bI_z1, nI_ltI, nI_leI, k1, hni, hng, x2, nI_z, z_10, encS, hbm]
            refine k_arrived st_352 (KI_q hKx q2).1 r2 g2 ?_
            have hcl := cnt_le (fun p => !onB (itT T (-1) 0 n (knS i f)) (-1) p) (tN T)
            refine go_at (blk := b_Forecast_cheapestKneelers_99) rfl ?_
            simp (disch := omega) only [b_Forecast_cheapestKneelers_99, be_4, be_49_2, List.getD_cons_zero, List.getD_cons_succ, List.set_cons_zero, List.set_cons_succ, List.length_cons, List.length_nil, pk_I, pk_A, pr_A, pi_I, st_s, st_n, if_true, if_false, eq_self, d_if, d_ju, d_re, d_ca, cat0, cat1, cat2, cat3, fr_z, fr_s, cc_I, cc_A, cc_N, Nat.reduceAdd, Nat.reduceLT, Nat.reduceLeDiff, Nat.reduceEqDiff, not_true, not_false_iff, z1_0, z1_1, Bool.and_self, Bool.true_and, Bool.and_true, nI_add, pk_mul, nI_clamp, decide_true, Nat.le_refl, bI_eq, bI_z1, nI_ltI, nI_leI, k1, hni, hng, x2, nI_z, z_10, encS, hbm]
            split
            · rename_i hg
              refine go_at (blk := b_Forecast_cheapestKneelers_109) rfl ?_
              simp (disch := omega) only [b_Forecast_cheapestKneelers_109, be_4, be_0, List.getD_cons_zero, List.getD_cons_succ, List.set_cons_zero, List.set_cons_succ, List.length_cons, List.length_nil, pk_I, pk_A, pr_A, pi_I, st_s, st_n, if_true, if_false, eq_self, d_if, d_ju, d_re, d_ca, cat0, cat1, cat2, cat3, fr_z, fr_s, cc_I, cc_A, cc_N, Nat.reduceAdd, Nat.reduceLT, Nat.reduceLeDiff, Nat.reduceEqDiff, not_true, not_false_iff, z1_0, z1_1, Bool.and_self, Bool.true_and, Bool.and_true, nI_add, pk_mul, nI_clamp, decide_true, Nat.le_refl, bI_eq, bI_z1, nI_ltI, nI_leI, k1, hni, hng, x2, nI_z, z_10, encS, hbm]
              refine go_at (blk := b_Forecast_cheapestKneelers_111) rfl ?_
              simp (disch := omega) only [b_Forecast_cheapestKneelers_111, be_7, be_0, List.getD_cons_zero, List.getD_cons_succ, List.set_cons_zero, List.set_cons_succ, List.length_cons, List.length_nil, pk_I, pk_A, pr_A, pi_I, st_s, st_n, if_true, if_false, eq_self, d_if, d_ju, d_re, d_ca, cat0, cat1, cat2, cat3, fr_z, fr_s, cc_I, cc_A, cc_N, Nat.reduceAdd, Nat.reduceLT, Nat.reduceLeDiff, Nat.reduceEqDiff, not_true, not_false_iff, z1_0, z1_1, Bool.and_self, Bool.true_and, Bool.and_true, nI_add, pk_mul, nI_clamp, decide_true, Nat.le_refl, bI_eq, bI_z1, nI_ltI, nI_leI, k1, hni, hng, x2, nI_z, z_10, encS, hbm]
              refine go_at (blk := b_Forecast_cheapestKneelers_113) rfl ?_
              simp (disch := omega) only [b_Forecast_cheapestKneelers_113, be_10, be_51, List.getD_cons_zero, List.getD_cons_succ, List.set_cons_zero, List.set_cons_succ, List.length_cons, List.length_nil, pk_I, pk_A, pr_A, pi_I, st_s, st_n, if_true, if_false, eq_self, d_if, d_ju, d_re, d_ca, cat0, cat1, cat2, cat3, fr_z, fr_s, cc_I, cc_A, cc_N, Nat.reduceAdd, Nat.reduceLT, Nat.reduceLeDiff, Nat.reduceEqDiff, not_true, not_false_iff, z1_0, z1_1, Bool.and_self, Bool.true_and, Bool.and_true, nI_add, pk_mul, nI_clamp, decide_true, Nat.le_refl, bI_eq, bI_z1, nI_ltI, nI_leI, k1, hni, hng, x2, nI_z, z_10, encS, hbm]
              simp only [ck_f (show ckP T f k n i (ckS T f k n i) = false by rw [hcs]; unfold ckP; rw [show sbB i (mayM T f) = true from decide_eq_true hs]; dsimp only; rw [show chB T i b = true by simpa using hc, decide_eq_false (p := arN T f + k ≤ arN T (itT T (-1) 0 n (knS i f))) (Nat.not_le.mpr hg)]; simp)] at ih
              rw [hcs] at ih
              exact ih (v2, .int _) ⟨QF_t x1 q2, rfl⟩
            · rename_i hg
              refine go_at (blk := b_Forecast_cheapestKneelers_104) rfl ?_
              simp (disch := omega) only [b_Forecast_cheapestKneelers_104, be_4, be_51, List.getD_cons_zero, List.getD_cons_succ, List.set_cons_zero, List.set_cons_succ, List.length_cons, List.length_nil, pk_I, pk_A, pr_A, pi_I, st_s, st_n, if_true, if_false, eq_self, d_if, d_ju, d_re, d_ca, cat0, cat1, cat2, cat3, fr_z, fr_s, cc_I, cc_A, cc_N, Nat.reduceAdd, Nat.reduceLT, Nat.reduceLeDiff, Nat.reduceEqDiff, not_true, not_false_iff, z1_0, z1_1, Bool.and_self, Bool.true_and, Bool.and_true, nI_add, pk_mul, nI_clamp, decide_true, Nat.le_refl, bI_eq, bI_z1, nI_ltI, nI_leI, k1, hni, hng, x2, nI_z, z_10, encS, hbm]
              refine go_at (blk := b_Forecast_cheapestKneelers_111) rfl ?_
              simp (disch := omega) only [b_Forecast_cheapestKneelers_111, be_7, be_0, List.getD_cons_zero, List.getD_cons_succ, List.set_cons_zero, List.set_cons_succ, List.length_cons, List.length_nil, pk_I, pk_A, pr_A, pi_I, st_s, st_n, if_true, if_false, eq_self, d_if, d_ju, d_re, d_ca, cat0, cat1, cat2, cat3, fr_z, fr_s, cc_I, cc_A, cc_N, Nat.reduceAdd, Nat.reduceLT, Nat.reduceLeDiff, Nat.reduceEqDiff, not_true, not_false_iff, z1_0, z1_1, Bool.and_self, Bool.true_and, Bool.and_true, nI_add, pk_mul, nI_clamp, decide_true, Nat.le_refl, bI_eq, bI_z1, nI_ltI, nI_leI, k1, hni, hng, x2, nI_z, z_10, encS, hbm]
              refine go_at (blk := b_Forecast_cheapestKneelers_113) rfl ?_
              simp (disch := omega) only [b_Forecast_cheapestKneelers_113, be_10, be_51, List.getD_cons_zero, List.getD_cons_succ, List.set_cons_zero, List.set_cons_succ, List.length_cons, List.length_nil, pk_I, pk_A, pr_A, pi_I, st_s, st_n, if_true, if_false, eq_self, d_if, d_ju, d_re, d_ca, cat0, cat1, cat2, cat3, fr_z, fr_s, cc_I, cc_A, cc_N, Nat.reduceAdd, Nat.reduceLT, Nat.reduceLeDiff, Nat.reduceEqDiff, not_true, not_false_iff, z1_0, z1_1, Bool.and_self, Bool.true_and, Bool.and_true, nI_add, pk_mul, nI_clamp, decide_true, Nat.le_refl, bI_eq, bI_z1, nI_ltI, nI_leI, k1, hni, hng, x2, nI_z, z_10, encS, hbm]
              simp only [ck_t (show ckP T f k n i (ckS T f k n i) = true by rw [hcs]; unfold ckP; rw [show sbB i (mayM T f) = true from decide_eq_true hs]; dsimp only; rw [show chB T i b = true by simpa using hc, decide_eq_true (p := arN T f + k ≤ arN T (itT T (-1) 0 n (knS i f))) (Nat.not_lt.mp hg)]; simp)] at ih
              exact ih (v2, .int _) ⟨QF_t x1 q2, rfl⟩
    · intro x ⟨x1, x2⟩
      try dsimp only at *
      have hKx : KI B x.1 T f := KI_q hK x1
      have k1 := hKx.1.2.1
      cases hcs : ckS T f k n 256 with
      | none =>
        refine go_at (blk := b_Forecast_cheapestKneelers_26) rfl ?_
        simp (disch := omega) only [b_Forecast_cheapestKneelers_26, be_4, be_1, be_49_3, List.getD_cons_zero, List.getD_cons_succ, List.set_cons_zero, List.set_cons_succ, List.length_cons, List.length_nil, pk_I, pk_A, pr_A, pi_I, st_s, st_n, if_true, if_false, eq_self, d_if, d_ju, d_re, d_ca, cat0, cat1, cat2, cat3, fr_z, fr_s, cc_I, cc_A, cc_N, Nat.reduceAdd, Nat.reduceLT, Nat.reduceLeDiff, Nat.reduceEqDiff, not_true, not_false_iff, z1_0, z1_1, Bool.and_self, Bool.true_and, Bool.and_true, nI_add, pk_mul, nI_clamp, decide_true, Nat.le_refl, bI_eq, bI_z1, nI_ltI, nI_leI, k1, nI_z, encN]
        refine go_at (blk := b_Forecast_cheapestKneelers_119) rfl ?_
        simp (disch := omega) only [b_Forecast_cheapestKneelers_119, be_4, be_2, be_49_1, List.getD_cons_zero, List.getD_cons_succ, List.set_cons_zero, List.set_cons_succ, List.length_cons, List.length_nil, pk_I, pk_A, pr_A, pi_I, st_s, st_n, if_true, if_false, eq_self, d_if, d_ju, d_re, d_ca, cat0, cat1, cat2, cat3, fr_z, fr_s, cc_I, cc_A, cc_N, Nat.reduceAdd, Nat.reduceLT, Nat.reduceLeDiff, Nat.reduceEqDiff, not_true, not_false_iff, z1_0, z1_1, Bool.and_self, Bool.true_and, Bool.and_true, nI_add, pk_mul, nI_clamp, decide_true, Nat.le_refl, bI_eq, bI_z1, nI_ltI, nI_leI, k1, nI_z, encN]
        refine go_at (blk := b_Forecast_cheapestKneelers_125) rfl ?_
        simp (disch := omega) only [b_Forecast_cheapestKneelers_125, be_2, be_54, List.getD_cons_zero, List.getD_cons_succ, List.set_cons_zero, List.set_cons_succ, List.length_cons, List.length_nil, pk_I, pk_A, pr_A, pi_I, st_s, st_n, if_true, if_false, eq_self, d_if, d_ju, d_re, d_ca, cat0, cat1, cat2, cat3, fr_z, fr_s, cc_I, cc_A, cc_N, Nat.reduceAdd, Nat.reduceLT, Nat.reduceLeDiff, Nat.reduceEqDiff, not_true, not_false_iff, z1_0, z1_1, Bool.and_self, Bool.true_and, Bool.and_true, nI_add, pk_mul, nI_clamp, decide_true, Nat.le_refl, bI_eq, bI_z1, nI_ltI, nI_leI, k1, nI_z, encN]
        rw [hcs] at hQ
        exact hQ x.1 x1
      | some b =>
        have hb2 := ck_lt 256 hcs
        have hbm := nI_mm (b := b) (by omega)
        refine go_at (blk := b_Forecast_cheapestKneelers_26) rfl ?_
        simp (disch := omega) only [b_Forecast_cheapestKneelers_26, be_4, be_1, be_49_3, List.getD_cons_zero, List.getD_cons_succ, List.set_cons_zero, List.set_cons_succ, List.length_cons, List.length_nil, pk_I, pk_A, pr_A, pi_I, st_s, st_n, if_true, if_false, eq_self, d_if, d_ju, d_re, d_ca, cat0, cat1, cat2, cat3, fr_z, fr_s, cc_I, cc_A, cc_N, Nat.reduceAdd, Nat.reduceLT, Nat.reduceLeDiff, Nat.reduceEqDiff, not_true, not_false_iff, z1_0, z1_1, Bool.and_self, Bool.true_and, Bool.and_true, nI_add, pk_mul, nI_clamp, decide_true, Nat.le_refl, bI_eq, bI_z1, nI_ltI, nI_leI, k1, nI_z, encS, hbm]
        refine go_at (blk := b_Forecast_cheapestKneelers_119) rfl ?_
        simp (disch := omega) only [b_Forecast_cheapestKneelers_119, be_4, be_2, be_49_1, List.getD_cons_zero, List.getD_cons_succ, List.set_cons_zero, List.set_cons_succ, List.length_cons, List.length_nil, pk_I, pk_A, pr_A, pi_I, st_s, st_n, if_true, if_false, eq_self, d_if, d_ju, d_re, d_ca, cat0, cat1, cat2, cat3, fr_z, fr_s, cc_I, cc_A, cc_N, Nat.reduceAdd, Nat.reduceLT, Nat.reduceLeDiff, Nat.reduceEqDiff, not_true, not_false_iff, z1_0, z1_1, Bool.and_self, Bool.true_and, Bool.and_true, nI_add, pk_mul, nI_clamp, decide_true, Nat.le_refl, bI_eq, bI_z1, nI_ltI, nI_leI, k1, nI_z, encS, hbm]
        refine go_at (blk := b_Forecast_cheapestKneelers_128) rfl ?_
        simp (disch := omega) only [b_Forecast_cheapestKneelers_128, be_4, be_50_1, List.getD_cons_zero, List.getD_cons_succ, List.set_cons_zero, List.set_cons_succ, List.length_cons, List.length_nil, pk_I, pk_A, pr_A, pi_I, st_s, st_n, if_true, if_false, eq_self, d_if, d_ju, d_re, d_ca, cat0, cat1, cat2, cat3, fr_z, fr_s, cc_I, cc_A, cc_N, Nat.reduceAdd, Nat.reduceLT, Nat.reduceLeDiff, Nat.reduceEqDiff, not_true, not_false_iff, z1_0, z1_1, Bool.and_self, Bool.true_and, Bool.and_true, nI_add, pk_mul, nI_clamp, decide_true, Nat.le_refl, bI_eq, bI_z1, nI_ltI, nI_leI, k1, nI_z, encS, hbm]
        split
        · rename_i hw
          refine go_at (blk := b_Forecast_cheapestKneelers_148) rfl ?_
          simp (disch := omega) only [b_Forecast_cheapestKneelers_148, be_4, be_0, List.getD_cons_zero, List.getD_cons_succ, List.set_cons_zero, List.set_cons_succ, List.length_cons, List.length_nil, pk_I, pk_A, pr_A, pi_I, st_s, st_n, if_true, if_false, eq_self, d_if, d_ju, d_re, d_ca, cat0, cat1, cat2, cat3, fr_z, fr_s, cc_I, cc_A, cc_N, Nat.reduceAdd, Nat.reduceLT, Nat.reduceLeDiff, Nat.reduceEqDiff, not_true, not_false_iff, z1_0, z1_1, Bool.and_self, Bool.true_and, Bool.and_true, nI_add, pk_mul, nI_clamp, decide_true, Nat.le_refl, bI_eq, bI_z1, nI_ltI, nI_leI, k1, nI_z, encS, hbm]
          refine go_at (blk := b_Forecast_cheapestKneelers_150) rfl ?_
          simp (disch := omega) only [b_Forecast_cheapestKneelers_150, be_54, List.getD_cons_zero, List.getD_cons_succ, List.set_cons_zero, List.set_cons_succ, List.length_cons, List.length_nil, pk_I, pk_A, pr_A, pi_I, st_s, st_n, if_true, if_false, eq_self, d_if, d_ju, d_re, d_ca, cat0, cat1, cat2, cat3, fr_z, fr_s, cc_I, cc_A, cc_N, Nat.reduceAdd, Nat.reduceLT, Nat.reduceLeDiff, Nat.reduceEqDiff, not_true, not_false_iff, z1_0, z1_1, Bool.and_self, Bool.true_and, Bool.and_true, nI_add, pk_mul, nI_clamp, decide_true, Nat.le_refl, bI_eq, bI_z1, nI_ltI, nI_leI, k1, nI_z, encS, hbm]
          rw [hcs] at hQ
          dsimp only at hQ
          rw [if_neg hw] at hQ
          exact hQ x.1 x1
        · rename_i hw
          have hw := Decidable.not_not.mp hw
          refine go_at (blk := b_Forecast_cheapestKneelers_132) rfl ?_
          simp (disch := omega) only [b_Forecast_cheapestKneelers_132, be_6, be_34, be_4, be_57_2, kc_350, rf_350_0, kc_25, rf_25_7, List.getD_cons_zero, List.getD_cons_succ, List.set_cons_zero, List.set_cons_succ, List.length_cons, List.length_nil, pk_I, pk_A, pr_A, pi_I, st_s, st_n, if_true, if_false, eq_self, d_if, d_ju, d_re, d_ca, cat0, cat1, cat2, cat3, fr_z, fr_s, cc_I, cc_A, cc_N, Nat.reduceAdd, Nat.reduceLT, Nat.reduceLeDiff, Nat.reduceEqDiff, not_true, not_false_iff, z1_0, z1_1, Bool.and_self, Bool.true_and, Bool.and_true, nI_add, pk_mul, nI_clamp, decide_true, Nat.le_refl, bI_eq, bI_z1, nI_ltI, nI_leI, k1, nI_z, encS, hbm]
          refine k_sum30 hKx hb2 ?_
          refine go_at (blk := b_Forecast_cheapestKneelers_145) rfl ?_
          simp (disch := omega) only [b_Forecast_cheapestKneelers_145, be_51, List.getD_cons_zero, List.getD_cons_succ, List.set_cons_zero, List.set_cons_succ, List.length_cons, List.length_nil, pk_I, pk_A, pr_A, pi_I, st_s, st_n, if_true, if_false, eq_self, d_if, d_ju, d_re, d_ca, cat0, cat1, cat2, cat3, fr_z, fr_s, cc_I, cc_A, cc_N, Nat.reduceAdd, Nat.reduceLT, Nat.reduceLeDiff, Nat.reduceEqDiff, not_true, not_false_iff, z1_0, z1_1, Bool.and_self, Bool.true_and, Bool.and_true, nI_add, pk_mul, nI_clamp, decide_true, Nat.le_refl, bI_eq, bI_z1, nI_ltI, nI_leI, k1, nI_z, encS, hbm]
          refine go_at (blk := b_Forecast_cheapestKneelers_150) rfl ?_
          simp (disch := omega) only [b_Forecast_cheapestKneelers_150, be_54, List.getD_cons_zero, List.getD_cons_succ, List.set_cons_zero, List.set_cons_succ, List.length_cons, List.length_nil, pk_I, pk_A, pr_A, pi_I, st_s, st_n, if_true, if_false, eq_self, d_if, d_ju, d_re, d_ca, cat0, cat1, cat2, cat3, fr_z, fr_s, cc_I, cc_A, cc_N, Nat.reduceAdd, Nat.reduceLT, Nat.reduceLeDiff, Nat.reduceEqDiff, not_true, not_false_iff, z1_0, z1_1, Bool.and_self, Bool.true_and, Bool.and_true, nI_add, pk_mul, nI_clamp, decide_true, Nat.le_refl, bI_eq, bI_z1, nI_ltI, nI_leI, k1, nI_z, encS, hbm]
          rw [hcs] at hQ
          dsimp only at hQ
          rw [if_pos hw] at hQ
          exact hQ x.1 x1
