/-! laid by wip/whole/k6.py: the class: what would be -/
def stS (T : TXT) (f : Nat → Int32) : Int32 := srS (fun k => decide (mvT T (-1) 0 (itT T (-1) 0 k f) = 0)) 301 0
def meS (T : TXT) (f : Nat → Int32) (a b : Nat) : Int32 := srS (fun k => decide (itT T (-1) 0 k f a = itT T (-1) 0 k f b)) 301 0
def hiS (T : TXT) (f : Nat → Int32) (p : Nat) : Nat → Int32
  | 0 => f p
  | k + 1 => if hiS T f p k < itT T (-1) 0 (k + 1) f p then itT T (-1) 0 (k + 1) f p else hiS T f p k
/-- the first of m numbers from i on -/
def pF (P : Nat → Bool) : Nat → Nat → Option Nat
  | 0, _ => none
  | m + 1, i => if P i = true then some i else pF P m (i + 1)
theorem pF_t {P : Nat → Bool} {N i : Nat} (h : i < N) (hp : P i = true) : pF P (N - i) i = some i := by
  rw [show N - i = (N - i - 1) + 1 by omega]
  unfold pF
  rw [if_pos hp]
theorem pF_f {P : Nat → Bool} {N i : Nat} (h : i < N) (hp : P i = false) : pF P (N - i) i = pF P (N - (i + 1)) (i + 1) := by
  rw [show N - i = (N - (i + 1)) + 1 by omega]
  show (if P i = true then some i else pF P (N - (i + 1)) (i + 1)) = _
  rw [if_neg (by rw [hp]; decide)]
theorem pF_e {P : Nat → Bool} {N : Nat} : pF P (N - N) N = none := by
  rw [Nat.sub_self]
  rfl
def fiP (T : TXT) (f : Nat → Int32) (k p : Nat) : Bool := onB f (-1) p && !onB (itT T (-1) 0 k f) (-1) p
def fiS (T : TXT) (f : Nat → Int32) (wh : Int32) : Nat → Nat → Int32
  | 0, _ => -2
  | m + 1, k => match pF (fiP T f k) (tN T) 0 with
    | some p => if wh = 0 then nI p else nI k
    | none => fiS T f wh m (k + 1)
theorem fi_t {T : TXT} {f : Nat → Int32} {wh : Int32} {N i p : Nat} (h : i < N) (hp : pF (fiP T f (i + 1)) (tN T) 0 = some p) : fiS T f wh (N - i) (i + 1) = if wh = 0 then nI p else nI (i + 1) := by
  rw [show N - i = (N - i - 1) + 1 by omega]
  unfold fiS
  rw [hp]
theorem fi_f {T : TXT} {f : Nat → Int32} {wh : Int32} {N i : Nat} (h : i < N) (hp : pF (fiP T f (i + 1)) (tN T) 0 = none) : fiS T f wh (N - i) (i + 1) = fiS T f wh (N - (i + 1)) (i + 1 + 1) := by
  rw [show N - i = (N - (i + 1)) + 1 by omega]
  show (match pF (fiP T f (i + 1)) (tN T) 0 with
    | some p => if wh = 0 then nI p else nI (i + 1)
    | none => fiS T f wh (N - (i + 1)) (i + 1 + 1)) = _
  rw [hp]
theorem fi_e {T : TXT} {f : Nat → Int32} {wh : Int32} {N : Nat} : fiS T f wh (N - N) (N + 1) = -2 := by
  rw [Nat.sub_self]
  rfl
def mnS (T : TXT) (f : Nat → Int32) (a b n : Nat) : Int32 := itT T (-1) 0 n f b - itT T (nI a) 0 n f b
theorem nI_inj {a b : Nat} (ha : a < 8) (hb : b < 8) (h : nI a = nI b) : a = b := (nI_eq (by omega) (by omega)).mp h
theorem nI_300 : nI 300 = 300 := rfl
set_option maxHeartbeats 1000000 in
theorem k_still {d : Nat} {v : Nat → Nat → Int32} {w : Nat → Nat → Int64} {Q : Option Value → am_H → Prop} {T : TXT} {f : Nat → Int32} {B : Int} (hK : KI B v T f) (hQ : ∀ v', QF v v' → Q (some (.int (stS T f))) (428, 26053, KD, RF, v', w)) : am_Ca (d + 5) M_Forecast_stillBehind [.ref 350] (428, 26053, KD, RF, v, w) Q := by
  refine ca_in (k := k_Forecast_stillBehind) (nL := 2) rfl (Nat.le_of_ble_eq_true rfl) ?_
  show am_Go am_X0 _ k_Forecast_stillBehind 0 ([.ref 350, .null], [], _) _
  refine go_at (blk := b_Forecast_stillBehind_0) rfl ?_
  simp (disch := omega) only [b_Forecast_stillBehind_0, be_6, be_34, be_57_1, kc_350, rf_350_2, rf_350_1, kc_352, List.getD_cons_zero, List.getD_cons_succ, List.set_cons_zero, List.set_cons_succ, List.length_cons, List.length_nil, pk_I, pk_A, pr_A, pi_I, st_s, st_n, if_true, if_false, eq_self, d_if, d_ju, d_re, d_ca, cat0, cat1, cat2, cat3, fr_z, fr_s, cc_I, cc_A, cc_N, Nat.reduceAdd, Nat.reduceLT, Nat.reduceLeDiff, Nat.reduceEqDiff, not_true, not_false_iff, z1_0, z1_1, Bool.and_self, Bool.true_and, Bool.and_true, nI_add, pk_mul, nI_clamp, decide_true, Nat.le_refl, bI_eq, bI_z1]
  refine kf_copy hK ?_
  intro v1 q1 r1
  refine go_at (blk := b_Forecast_stillBehind_11) rfl ?_
  simp (disch := omega) only [b_Forecast_stillBehind_11, be_1, be_7, be_0, List.getD_cons_zero, List.getD_cons_succ, List.set_cons_zero, List.set_cons_succ, List.length_cons, List.length_nil, pk_I, pk_A, pr_A, pi_I, st_s, st_n, if_true, if_false, eq_self, d_if, d_ju, d_re, d_ca, cat0, cat1, cat2, cat3, fr_z, fr_s, cc_I, cc_A, cc_N, Nat.reduceAdd, Nat.reduceLT, Nat.reduceLeDiff, Nat.reduceEqDiff, not_true, not_false_iff, z1_0, z1_1, Bool.and_self, Bool.true_and, Bool.and_true, nI_add, pk_mul, nI_clamp, decide_true, Nat.le_refl, bI_eq, bI_z1]
  refine go_loopA (α := (Nat → Nat → Int32)) (fun i x => ([.ref 350, .int (nI i)], [], (428, 26053, KD, RF, x, w))) (fun i x => QF v x ∧ RX x 352 (tN T) (-1) 0 (itT T (-1) 0 i f) ∧ GR (B + i) (tN T) (itT T (-1) 0 i f) ∧ stS T f = srS (fun k => decide (mvT T (-1) 0 (itT T (-1) 0 k f) = 0)) (301 - i) i) (301) ?_ ?_ v1 ⟨q1, r1, by rw [show B + ((0 : Nat) : Int) = B by omega]; exact hK.2.2.1, rfl⟩
  · intro i x hi ⟨i1, i2, i3, i4⟩ ih
    try dsimp only at *
    have hKx : KI B x T f := KI_q hK i1
    have hBB := hK.2.2.2.2.2
    have h8 := hK.1.1
    have hni : ¬ 300 < i := by omega
    refine go_at (blk := b_Forecast_stillBehind_13) rfl ?_
    simp (disch := omega) only [b_Forecast_stillBehind_13, be_4, be_1, be_49_4, List.getD_cons_zero, List.getD_cons_succ, List.set_cons_zero, List.set_cons_succ, List.length_cons, List.length_nil, pk_I, pk_A, pr_A, pi_I, st_s, st_n, if_true, if_false, eq_self, d_if, d_ju, d_re, d_ca, cat0, cat1, cat2, cat3, fr_z, fr_s, cc_I, cc_A, cc_N, Nat.reduceAdd, Nat.reduceLT, Nat.reduceLeDiff, Nat.reduceEqDiff, not_true, not_false_iff, z1_0, z1_1, Bool.and_self, Bool.true_and, Bool.and_true, nI_add, pk_mul, nI_clamp, decide_true, Nat.le_refl, bI_eq, bI_z1, nI_ltI, nI_leI, hni]
    refine go_at (blk := b_Forecast_stillBehind_20) rfl ?_
    simp (disch := omega) only [b_Forecast_stillBehind_20, be_6, be_34, be_57_0, kc_350, rf_350_2, kc_352, List.getD_cons_zero, List.getD_cons_succ, List.set_cons_zero, List.set_cons_succ, List.length_cons, List.length_nil, pk_I, pk_A, pr_A, pi_I, st_s, st_n, if_true, if_false, eq_self, d_if, d_ju, d_re, d_ca, cat0, cat1, cat2, cat3, fr_z, fr_s, cc_I, cc_A, cc_N, Nat.reduceAdd, Nat.reduceLT, Nat.reduceLeDiff, Nat.reduceEqDiff, not_true, not_false_iff, z1_0, z1_1, Bool.and_self, Bool.true_and, Bool.and_true, nI_add, pk_mul, nI_clamp, decide_true, Nat.le_refl, bI_eq, bI_z1, nI_ltI, nI_leI, hni]
    refine kf_moves hKx i2 i3 ?_
    intro v3 q3 r3
    refine go_at (blk := b_Forecast_stillBehind_27) rfl ?_
    simp (disch := omega) only [b_Forecast_stillBehind_27, be_50_1, List.getD_cons_zero, List.getD_cons_succ, List.set_cons_zero, List.set_cons_succ, List.length_cons, List.length_nil, pk_I, pk_A, pr_A, pi_I, st_s, st_n, if_true, if_false, eq_self, d_if, d_ju, d_re, d_ca, cat0, cat1, cat2, cat3, fr_z, fr_s, cc_I, cc_A, cc_N, Nat.reduceAdd, Nat.reduceLT, Nat.reduceLeDiff, Nat.reduceEqDiff, not_true, not_false_iff, z1_0, z1_1, Bool.and_self, Bool.true_and, Bool.and_true, nI_add, pk_mul, nI_clamp, decide_true, Nat.le_refl, bI_eq, bI_z1, nI_ltI, nI_leI, hni]
    split
    · rename_i hb
      refine go_at (blk := b_Forecast_stillBehind_32) rfl ?_
      simp (disch := omega) only [b_Forecast_stillBehind_32, be_6, be_34, be_1, be_57_1, kc_350, rf_350_2, kc_352, List.getD_cons_zero, List.getD_cons_succ, List.set_cons_zero, List.set_cons_succ, List.length_cons, List.length_nil, pk_I, pk_A, pr_A, pi_I, st_s, st_n, if_true, if_false, eq_self, d_if, d_ju, d_re, d_ca, cat0, cat1, cat2, cat3, fr_z, fr_s, cc_I, cc_A, cc_N, Nat.reduceAdd, Nat.reduceLT, Nat.reduceLeDiff, Nat.reduceEqDiff, not_true, not_false_iff, z1_0, z1_1, Bool.and_self, Bool.true_and, Bool.and_true, nI_add, pk_mul, nI_clamp, decide_true, Nat.le_refl, bI_eq, bI_z1, nI_ltI, nI_leI, hni]
      refine kf_pass (k := 1) (KI_q hKx q3) r3 i3 (by omega) (by omega) ?_
      intro v2 q2 r2 g2
      refine go_at (blk := b_Forecast_stillBehind_40) rfl ?_
      simp (disch := omega) only [b_Forecast_stillBehind_40, be_10, be_51, List.getD_cons_zero, List.getD_cons_succ, List.set_cons_zero, List.set_cons_succ, List.length_cons, List.length_nil, pk_I, pk_A, pr_A, pi_I, st_s, st_n, if_true, if_false, eq_self, d_if, d_ju, d_re, d_ca, cat0, cat1, cat2, cat3, fr_z, fr_s, cc_I, cc_A, cc_N, Nat.reduceAdd, Nat.reduceLT, Nat.reduceLeDiff, Nat.reduceEqDiff, not_true, not_false_iff, z1_0, z1_1, Bool.and_self, Bool.true_and, Bool.and_true, nI_add, pk_mul, nI_clamp, decide_true, Nat.le_refl, bI_eq, bI_z1, nI_ltI, nI_leI, hni]
      refine ih v2 ⟨QF_t i1 (QF_t q3 q2), r2, GR_s g2, ?_⟩
      rw [i4, sr_f (by omega) (by simpa using hb)]
    · rename_i hb
      refine go_at (blk := b_Forecast_stillBehind_30) rfl ?_
      simp (disch := omega) only [b_Forecast_stillBehind_30, be_4, be_54, List.getD_cons_zero, List.getD_cons_succ, List.set_cons_zero, List.set_cons_succ, List.length_cons, List.length_nil, pk_I, pk_A, pr_A, pi_I, st_s, st_n, if_true, if_false, eq_self, d_if, d_ju, d_re, d_ca, cat0, cat1, cat2, cat3, fr_z, fr_s, cc_I, cc_A, cc_N, Nat.reduceAdd, Nat.reduceLT, Nat.reduceLeDiff, Nat.reduceEqDiff, not_true, not_false_iff, z1_0, z1_1, Bool.and_self, Bool.true_and, Bool.and_true, nI_add, pk_mul, nI_clamp, decide_true, Nat.le_refl, bI_eq, bI_z1, nI_ltI, nI_leI, hni]
      have hb : mvT T (-1) 0 (itT T (-1) 0 i f) = 0 := Decidable.not_not.mp hb
      rw [i4, sr_t (by omega) (by simpa using hb)] at hQ
      exact hQ v3 (QF_t i1 q3)
  · intro x ⟨i1, i2, i3, i4⟩
    try dsimp only at *
    refine go_at (blk := b_Forecast_stillBehind_13) rfl ?_
    simp (disch := omega) only [b_Forecast_stillBehind_13, be_4, be_1, be_49_4, List.getD_cons_zero, List.getD_cons_succ, List.set_cons_zero, List.set_cons_succ, List.length_cons, List.length_nil, pk_I, pk_A, pr_A, pi_I, st_s, st_n, if_true, if_false, eq_self, d_if, d_ju, d_re, d_ca, cat0, cat1, cat2, cat3, fr_z, fr_s, cc_I, cc_A, cc_N, Nat.reduceAdd, Nat.reduceLT, Nat.reduceLeDiff, Nat.reduceEqDiff, not_true, not_false_iff, z1_0, z1_1, Bool.and_self, Bool.true_and, Bool.and_true, nI_add, pk_mul, nI_clamp, decide_true, Nat.le_refl, bI_eq, bI_z1, nI_ltI, nI_leI]
    refine go_at (blk := b_Forecast_stillBehind_46) rfl ?_
    simp (disch := omega) only [b_Forecast_stillBehind_46, be_2, be_54, List.getD_cons_zero, List.getD_cons_succ, List.set_cons_zero, List.set_cons_succ, List.length_cons, List.length_nil, pk_I, pk_A, pr_A, pi_I, st_s, st_n, if_true, if_false, eq_self, d_if, d_ju, d_re, d_ca, cat0, cat1, cat2, cat3, fr_z, fr_s, cc_I, cc_A, cc_N, Nat.reduceAdd, Nat.reduceLT, Nat.reduceLeDiff, Nat.reduceEqDiff, not_true, not_false_iff, z1_0, z1_1, Bool.and_self, Bool.true_and, Bool.and_true, nI_add, pk_mul, nI_clamp, decide_true, Nat.le_refl, bI_eq, bI_z1, nI_ltI, nI_leI]
    rw [i4, sr_e] at hQ
    exact hQ x i1
set_option maxHeartbeats 1000000 in
theorem k_meet {d : Nat} {v : Nat → Nat → Int32} {w : Nat → Nat → Int64} {Q : Option Value → am_H → Prop} {T : TXT} {f : Nat → Int32} {B : Int} (hK : KI B v T f) {p q : Nat} (hp : p < tN T) (hq : q < tN T) (hQ : ∀ v', QF v v' → Q (some (.int (meS T f p q))) (428, 26053, KD, RF, v', w)) : am_Ca (d + 5) M_Forecast_meetBehind [.ref 350, .int (nI p), .int (nI q)] (428, 26053, KD, RF, v, w) Q := by
  have h8 := hK.1.1
  refine ca_in (k := k_Forecast_meetBehind) (nL := 4) rfl (Nat.le_of_ble_eq_true rfl) ?_
  show am_Go am_X0 _ k_Forecast_meetBehind 0 ([.ref 350, .int (nI p), .int (nI q), .null], [], _) _
  refine go_at (blk := b_Forecast_meetBehind_0) rfl ?_
  simp (disch := omega) only [b_Forecast_meetBehind_0, be_6, be_34, be_57_1, kc_350, rf_350_2, rf_350_1, kc_352, List.getD_cons_zero, List.getD_cons_succ, List.set_cons_zero, List.set_cons_succ, List.length_cons, List.length_nil, pk_I, pk_A, pr_A, pi_I, st_s, st_n, if_true, if_false, eq_self, d_if, d_ju, d_re, d_ca, cat0, cat1, cat2, cat3, fr_z, fr_s, cc_I, cc_A, cc_N, Nat.reduceAdd, Nat.reduceLT, Nat.reduceLeDiff, Nat.reduceEqDiff, not_true, not_false_iff, z1_0, z1_1, Bool.and_self, Bool.true_and, Bool.and_true, nI_add, pk_mul, nI_clamp, decide_true, Nat.le_refl, bI_eq, bI_z1]
  refine kf_copy hK ?_
  intro v1 q1 r1
  refine go_at (blk := b_Forecast_meetBehind_11) rfl ?_
  simp (disch := omega) only [b_Forecast_meetBehind_11, be_1, be_7, be_0, List.getD_cons_zero, List.getD_cons_succ, List.set_cons_zero, List.set_cons_succ, List.length_cons, List.length_nil, pk_I, pk_A, pr_A, pi_I, st_s, st_n, if_true, if_false, eq_self, d_if, d_ju, d_re, d_ca, cat0, cat1, cat2, cat3, fr_z, fr_s, cc_I, cc_A, cc_N, Nat.reduceAdd, Nat.reduceLT, Nat.reduceLeDiff, Nat.reduceEqDiff, not_true, not_false_iff, z1_0, z1_1, Bool.and_self, Bool.true_and, Bool.and_true, nI_add, pk_mul, nI_clamp, decide_true, Nat.le_refl, bI_eq, bI_z1]
  refine go_loopA (α := (Nat → Nat → Int32)) (fun i x => ([.ref 350, .int (nI p), .int (nI q), .int (nI i)], [], (428, 26053, KD, RF, x, w))) (fun i x => QF v x ∧ RX x 352 (tN T) (-1) 0 (itT T (-1) 0 i f) ∧ GR (B + i) (tN T) (itT T (-1) 0 i f) ∧ meS T f p q = srS (fun k => decide (itT T (-1) 0 k f p = itT T (-1) 0 k f q)) (301 - i) i) (301) ?_ ?_ v1 ⟨q1, r1, by rw [show B + ((0 : Nat) : Int) = B by omega]; exact hK.2.2.1, rfl⟩
  · intro i x hi ⟨i1, i2, i3, i4⟩ ih
    try dsimp only at *
    have hKx : KI B x T f := KI_q hK i1
    have hBB := hK.2.2.2.2.2
    have h8 := hK.1.1
    have hni : ¬ 300 < i := by omega
    have e1 : x 353 p = (itT T (-1) 0 i f) p := RX_st i2 hp (nI_m (by omega))
    have e2 : x 353 q = (itT T (-1) 0 i f) q := RX_st i2 hq (nI_m (by omega))
    refine go_at (blk := b_Forecast_meetBehind_13) rfl ?_
    simp (disch := omega) only [b_Forecast_meetBehind_13, be_4, be_1, be_49_4, List.getD_cons_zero, List.getD_cons_succ, List.set_cons_zero, List.set_cons_succ, List.length_cons, List.length_nil, pk_I, pk_A, pr_A, pi_I, st_s, st_n, if_true, if_false, eq_self, d_if, d_ju, d_re, d_ca, cat0, cat1, cat2, cat3, fr_z, fr_s, cc_I, cc_A, cc_N, Nat.reduceAdd, Nat.reduceLT, Nat.reduceLeDiff, Nat.reduceEqDiff, not_true, not_false_iff, z1_0, z1_1, Bool.and_self, Bool.true_and, Bool.and_true, nI_add, pk_mul, nI_clamp, decide_true, Nat.le_refl, bI_eq, bI_z1, nI_ltI, nI_leI, hni, e1, e2]
    refine go_at (blk := b_Forecast_meetBehind_20) rfl ?_
    simp (disch := omega) only [b_Forecast_meetBehind_20, be_6, be_34, be_4, be_38, be_49_1, kc_350, rf_350_2, kc_352, rf_352_1, ka_353, List.getD_cons_zero, List.getD_cons_succ, List.set_cons_zero, List.set_cons_succ, List.length_cons, List.length_nil, pk_I, pk_A, pr_A, pi_I, st_s, st_n, if_true, if_false, eq_self, d_if, d_ju, d_re, d_ca, cat0, cat1, cat2, cat3, fr_z, fr_s, cc_I, cc_A, cc_N, Nat.reduceAdd, Nat.reduceLT, Nat.reduceLeDiff, Nat.reduceEqDiff, not_true, not_false_iff, z1_0, z1_1, Bool.and_self, Bool.true_and, Bool.and_true, nI_add, pk_mul, nI_clamp, decide_true, Nat.le_refl, bI_eq, bI_z1, nI_ltI, nI_leI, hni, e1, e2]
    split
    · rename_i hb
      refine go_at (blk := b_Forecast_meetBehind_43) rfl ?_
      simp (disch := omega) only [b_Forecast_meetBehind_43, be_6, be_34, be_1, be_57_1, kc_350, rf_350_2, kc_352, List.getD_cons_zero, List.getD_cons_succ, List.set_cons_zero, List.set_cons_succ, List.length_cons, List.length_nil, pk_I, pk_A, pr_A, pi_I, st_s, st_n, if_true, if_false, eq_self, d_if, d_ju, d_re, d_ca, cat0, cat1, cat2, cat3, fr_z, fr_s, cc_I, cc_A, cc_N, Nat.reduceAdd, Nat.reduceLT, Nat.reduceLeDiff, Nat.reduceEqDiff, not_true, not_false_iff, z1_0, z1_1, Bool.and_self, Bool.true_and, Bool.and_true, nI_add, pk_mul, nI_clamp, decide_true, Nat.le_refl, bI_eq, bI_z1, nI_ltI, nI_leI, hni, e1, e2]
      refine kf_pass (k := 1) hKx i2 i3 (by omega) (by omega) ?_
      intro v2 q2 r2 g2
      refine go_at (blk := b_Forecast_meetBehind_51) rfl ?_
      simp (disch := omega) only [b_Forecast_meetBehind_51, be_10, be_51, List.getD_cons_zero, List.getD_cons_succ, List.set_cons_zero, List.set_cons_succ, List.length_cons, List.length_nil, pk_I, pk_A, pr_A, pi_I, st_s, st_n, if_true, if_false, eq_self, d_if, d_ju, d_re, d_ca, cat0, cat1, cat2, cat3, fr_z, fr_s, cc_I, cc_A, cc_N, Nat.reduceAdd, Nat.reduceLT, Nat.reduceLeDiff, Nat.reduceEqDiff, not_true, not_false_iff, z1_0, z1_1, Bool.and_self, Bool.true_and, Bool.and_true, nI_add, pk_mul, nI_clamp, decide_true, Nat.le_refl, bI_eq, bI_z1, nI_ltI, nI_leI, hni, e1, e2]
      refine ih v2 ⟨QF_t i1 q2, r2, GR_s g2, ?_⟩
      rw [i4, sr_f (by omega) (by simpa using hb)]
    · rename_i hb
      refine go_at (blk := b_Forecast_meetBehind_41) rfl ?_
      simp (disch := omega) only [b_Forecast_meetBehind_41, be_4, be_54, List.getD_cons_zero, List.getD_cons_succ, List.set_cons_zero, List.set_cons_succ, List.length_cons, List.length_nil, pk_I, pk_A, pr_A, pi_I, st_s, st_n, if_true, if_false, eq_self, d_if, d_ju, d_re, d_ca, cat0, cat1, cat2, cat3, fr_z, fr_s, cc_I, cc_A, cc_N, Nat.reduceAdd, Nat.reduceLT, Nat.reduceLeDiff, Nat.reduceEqDiff, not_true, not_false_iff, z1_0, z1_1, Bool.and_self, Bool.true_and, Bool.and_true, nI_add, pk_mul, nI_clamp, decide_true, Nat.le_refl, bI_eq, bI_z1, nI_ltI, nI_leI, hni, e1, e2]
      have hb : (itT T (-1) 0 i f) p = (itT T (-1) 0 i f) q := Decidable.not_not.mp hb
      rw [i4, sr_t (by omega) (by simpa using hb)] at hQ
      exact hQ x i1
  · intro x ⟨i1, i2, i3, i4⟩
    try dsimp only at *
    refine go_at (blk := b_Forecast_meetBehind_13) rfl ?_
    simp (disch := omega) only [b_Forecast_meetBehind_13, be_4, be_1, be_49_4, List.getD_cons_zero, List.getD_cons_succ, List.set_cons_zero, List.set_cons_succ, List.length_cons, List.length_nil, pk_I, pk_A, pr_A, pi_I, st_s, st_n, if_true, if_false, eq_self, d_if, d_ju, d_re, d_ca, cat0, cat1, cat2, cat3, fr_z, fr_s, cc_I, cc_A, cc_N, Nat.reduceAdd, Nat.reduceLT, Nat.reduceLeDiff, Nat.reduceEqDiff, not_true, not_false_iff, z1_0, z1_1, Bool.and_self, Bool.true_and, Bool.and_true, nI_add, pk_mul, nI_clamp, decide_true, Nat.le_refl, bI_eq, bI_z1, nI_ltI, nI_leI]
    refine go_at (blk := b_Forecast_meetBehind_57) rfl ?_
    simp (disch := omega) only [b_Forecast_meetBehind_57, be_2, be_54, List.getD_cons_zero, List.getD_cons_succ, List.set_cons_zero, List.set_cons_succ, List.length_cons, List.length_nil, pk_I, pk_A, pr_A, pi_I, st_s, st_n, if_true, if_false, eq_self, d_if, d_ju, d_re, d_ca, cat0, cat1, cat2, cat3, fr_z, fr_s, cc_I, cc_A, cc_N, Nat.reduceAdd, Nat.reduceLT, Nat.reduceLeDiff, Nat.reduceEqDiff, not_true, not_false_iff, z1_0, z1_1, Bool.and_self, Bool.true_and, Bool.and_true, nI_add, pk_mul, nI_clamp, decide_true, Nat.le_refl, bI_eq, bI_z1, nI_ltI, nI_leI]
    rw [i4, sr_e] at hQ
    exact hQ x i1
set_option maxHeartbeats 1000000 in
theorem k_highest {d : Nat} {v : Nat → Nat → Int32} {w : Nat → Nat → Int64} {Q : Option Value → am_H → Prop} {T : TXT} {f : Nat → Int32} {B : Int} (hK : KI B v T f) {p n : Nat} (hp : p < tN T) (hn : n ≤ 300) (hQ : ∀ v', QF v v' → Q (some (.int (hiS T f p n))) (428, 26053, KD, RF, v', w)) : am_Ca (d + 5) M_Forecast_highestOf [.ref 350, .int (nI p), .int (nI n)] (428, 26053, KD, RF, v, w) Q := by
  have h8 := hK.1.1
  refine ca_in (k := k_Forecast_highestOf) (nL := 5) rfl (Nat.le_of_ble_eq_true rfl) ?_
  show am_Go am_X0 _ k_Forecast_highestOf 0 ([.ref 350, .int (nI p), .int (nI n), .null, .null], [], _) _
  refine go_at (blk := b_Forecast_highestOf_0) rfl ?_
  simp (disch := omega) only [b_Forecast_highestOf_0, be_6, be_34, be_57_1, kc_350, rf_350_2, rf_350_1, kc_352, List.getD_cons_zero, List.getD_cons_succ, List.set_cons_zero, List.set_cons_succ, List.length_cons, List.length_nil, pk_I, pk_A, pr_A, pi_I, st_s, st_n, if_true, if_false, eq_self, d_if, d_ju, d_re, d_ca, cat0, cat1, cat2, cat3, fr_z, fr_s, cc_I, cc_A, cc_N, Nat.reduceAdd, Nat.reduceLT, Nat.reduceLeDiff, Nat.reduceEqDiff, not_true, not_false_iff, z1_0, z1_1, Bool.and_self, Bool.true_and, Bool.and_true, nI_add, pk_mul, nI_clamp, decide_true, Nat.le_refl, bI_eq, bI_z1]
  refine kf_copy hK ?_
  intro v1 q1 r1
  have e0 : v1 353 p = f p := RX_st r1 hp (nI_m (by omega))
  refine go_at (blk := b_Forecast_highestOf_11) rfl ?_
  simp (disch := omega) only [b_Forecast_highestOf_11, be_6, be_34, be_4, be_38, be_7, be_1, be_0, kc_350, rf_350_2, kc_352, rf_352_1, ka_353, List.getD_cons_zero, List.getD_cons_succ, List.set_cons_zero, List.set_cons_succ, List.length_cons, List.length_nil, pk_I, pk_A, pr_A, pi_I, st_s, st_n, if_true, if_false, eq_self, d_if, d_ju, d_re, d_ca, cat0, cat1, cat2, cat3, fr_z, fr_s, cc_I, cc_A, cc_N, Nat.reduceAdd, Nat.reduceLT, Nat.reduceLeDiff, Nat.reduceEqDiff, not_true, not_false_iff, z1_0, z1_1, Bool.and_self, Bool.true_and, Bool.and_true, nI_add, pk_mul, nI_clamp, decide_true, Nat.le_refl, bI_eq, bI_z1, e0]
  refine go_loopA (α := (Nat → Nat → Int32)) (fun i x => ([.ref 350, .int (nI p), .int (nI n), .int (hiS T f p i), .int (nI i)], [], (428, 26053, KD, RF, x, w))) (fun i x => QF v x ∧ RX x 352 (tN T) (-1) 0 (itT T (-1) 0 i f) ∧ GR (B + i) (tN T) (itT T (-1) 0 i f)) (n) ?_ ?_ v1 ⟨q1, r1, by rw [show B + ((0 : Nat) : Int) = B by omega]; exact hK.2.2.1⟩
  · intro i x hi ⟨i1, i2, i3⟩ ih
    try dsimp only at *
    have hni : ¬ n ≤ i := by omega
    have hKx : KI B x T f := KI_q hK i1
    have hBB := hK.2.2.2.2.2
    have h8 := hK.1.1
    refine go_at (blk := b_Forecast_highestOf_24) rfl ?_
    simp (disch := omega) only [b_Forecast_highestOf_24, be_4, be_49_3, List.getD_cons_zero, List.getD_cons_succ, List.set_cons_zero, List.set_cons_succ, List.length_cons, List.length_nil, pk_I, pk_A, pr_A, pi_I, st_s, st_n, if_true, if_false, eq_self, d_if, d_ju, d_re, d_ca, cat0, cat1, cat2, cat3, fr_z, fr_s, cc_I, cc_A, cc_N, Nat.reduceAdd, Nat.reduceLT, Nat.reduceLeDiff, Nat.reduceEqDiff, not_true, not_false_iff, z1_0, z1_1, Bool.and_self, Bool.true_and, Bool.and_true, nI_add, pk_mul, nI_clamp, decide_true, Nat.le_refl, bI_eq, bI_z1, nI_ltI, nI_leI, hni]
    refine go_at (blk := b_Forecast_highestOf_30) rfl ?_
    simp (disch := omega) only [b_Forecast_highestOf_30, be_6, be_34, be_1, be_57_1, kc_350, rf_350_2, kc_352, List.getD_cons_zero, List.getD_cons_succ, List.set_cons_zero, List.set_cons_succ, List.length_cons, List.length_nil, pk_I, pk_A, pr_A, pi_I, st_s, st_n, if_true, if_false, eq_self, d_if, d_ju, d_re, d_ca, cat0, cat1, cat2, cat3, fr_z, fr_s, cc_I, cc_A, cc_N, Nat.reduceAdd, Nat.reduceLT, Nat.reduceLeDiff, Nat.reduceEqDiff, not_true, not_false_iff, z1_0, z1_1, Bool.and_self, Bool.true_and, Bool.and_true, nI_add, pk_mul, nI_clamp, decide_true, Nat.le_refl, bI_eq, bI_z1, nI_ltI, nI_leI, hni]
    refine kf_pass (k := 1) hKx i2 i3 (by omega) (by omega) ?_
    intro v2 q2 r2 g2
    have e1 : v2 353 p = itT T (-1) 0 (i + 1) f p := RX_st r2 hp (nI_m (by omega))
    refine go_at (blk := b_Forecast_highestOf_38) rfl ?_
    simp (disch := omega) only [b_Forecast_highestOf_38, be_4, be_6, be_34, be_38, be_64, be_7, be_10, be_51, kc_350, rf_350_2, kc_352, rf_352_1, ka_353, List.getD_cons_zero, List.getD_cons_succ, List.set_cons_zero, List.set_cons_succ, List.length_cons, List.length_nil, pk_I, pk_A, pr_A, pi_I, st_s, st_n, if_true, if_false, eq_self, d_if, d_ju, d_re, d_ca, cat0, cat1, cat2, cat3, fr_z, fr_s, cc_I, cc_A, cc_N, Nat.reduceAdd, Nat.reduceLT, Nat.reduceLeDiff, Nat.reduceEqDiff, not_true, not_false_iff, z1_0, z1_1, Bool.and_self, Bool.true_and, Bool.and_true, nI_add, pk_mul, nI_clamp, decide_true, Nat.le_refl, bI_eq, bI_z1, nI_ltI, nI_leI, hni, e1]
    exact ih v2 ⟨QF_t i1 q2, r2, GR_s g2⟩
  · intro x ⟨i1, i2, i3⟩
    try dsimp only at *
    refine go_at (blk := b_Forecast_highestOf_24) rfl ?_
    simp (disch := omega) only [b_Forecast_highestOf_24, be_4, be_49_3, List.getD_cons_zero, List.getD_cons_succ, List.set_cons_zero, List.set_cons_succ, List.length_cons, List.length_nil, pk_I, pk_A, pr_A, pi_I, st_s, st_n, if_true, if_false, eq_self, d_if, d_ju, d_re, d_ca, cat0, cat1, cat2, cat3, fr_z, fr_s, cc_I, cc_A, cc_N, Nat.reduceAdd, Nat.reduceLT, Nat.reduceLeDiff, Nat.reduceEqDiff, not_true, not_false_iff, z1_0, z1_1, Bool.and_self, Bool.true_and, Bool.and_true, nI_add, pk_mul, nI_clamp, decide_true, Nat.le_refl, bI_eq, bI_z1, nI_ltI, nI_leI]
    refine go_at (blk := b_Forecast_highestOf_58) rfl ?_
    simp (disch := omega) only [b_Forecast_highestOf_58, be_4, be_54, List.getD_cons_zero, List.getD_cons_succ, List.set_cons_zero, List.set_cons_succ, List.length_cons, List.length_nil, pk_I, pk_A, pr_A, pi_I, st_s, st_n, if_true, if_false, eq_self, d_if, d_ju, d_re, d_ca, cat0, cat1, cat2, cat3, fr_z, fr_s, cc_I, cc_A, cc_N, Nat.reduceAdd, Nat.reduceLT, Nat.reduceLeDiff, Nat.reduceEqDiff, not_true, not_false_iff, z1_0, z1_1, Bool.and_self, Bool.true_and, Bool.and_true, nI_add, pk_mul, nI_clamp, decide_true, Nat.le_refl, bI_eq, bI_z1, nI_ltI, nI_leI]
    exact hQ x i1
set_option maxHeartbeats 1000000 in
theorem k_first {d : Nat} {v : Nat → Nat → Int32} {w : Nat → Nat → Int64} {Q : Option Value → am_H → Prop} {T : TXT} {f : Nat → Int32} {B : Int} (hK : KI B v T f) {wh : Int32} (hQ : ∀ v', QF v v' → Q (some (.int (fiS T f wh 300 1))) (428, 26053, KD, RF, v', w)) : am_Ca (d + 5) M_Forecast_firstToArrive [.ref 350, .int wh] (428, 26053, KD, RF, v, w) Q := by
  have h8 := hK.1.1
  refine ca_in (k := k_Forecast_firstToArrive) (nL := 4) rfl (Nat.le_of_ble_eq_true rfl) ?_
  show am_Go am_X0 _ k_Forecast_firstToArrive 0 ([.ref 350, .int wh, .null, .null], [], _) _
  refine go_at (blk := b_Forecast_firstToArrive_0) rfl ?_
  simp (disch := omega) only [b_Forecast_firstToArrive_0, be_6, be_34, be_57_1, kc_350, rf_350_2, rf_350_1, kc_352, List.getD_cons_zero, List.getD_cons_succ, List.set_cons_zero, List.set_cons_succ, List.length_cons, List.length_nil, pk_I, pk_A, pr_A, pi_I, st_s, st_n, if_true, if_false, eq_self, d_if, d_ju, d_re, d_ca, cat0, cat1, cat2, cat3, fr_z, fr_s, cc_I, cc_A, cc_N, Nat.reduceAdd, Nat.reduceLT, Nat.reduceLeDiff, Nat.reduceEqDiff, not_true, not_false_iff, z1_0, z1_1, Bool.and_self, Bool.true_and, Bool.and_true, nI_add, pk_mul, nI_clamp, decide_true, Nat.le_refl, bI_eq, bI_z1]
  refine kf_copy hK ?_
  intro v1 q1 r1
  refine go_at (blk := b_Forecast_firstToArrive_11) rfl ?_
  simp (disch := omega) only [b_Forecast_firstToArrive_11, be_1, be_7, be_0, List.getD_cons_zero, List.getD_cons_succ, List.set_cons_zero, List.set_cons_succ, List.length_cons, List.length_nil, pk_I, pk_A, pr_A, pi_I, st_s, st_n, if_true, if_false, eq_self, d_if, d_ju, d_re, d_ca, cat0, cat1, cat2, cat3, fr_z, fr_s, cc_I, cc_A, cc_N, Nat.reduceAdd, Nat.reduceLT, Nat.reduceLeDiff, Nat.reduceEqDiff, not_true, not_false_iff, z1_0, z1_1, Bool.and_self, Bool.true_and, Bool.and_true, nI_add, pk_mul, nI_clamp, decide_true, Nat.le_refl, bI_eq, bI_z1]
  refine go_loopA (α := (Nat → Nat → Int32) × Value) (fun i x => ([.ref 350, .int wh, .int (nI (i + 1)), x.2], [], (428, 26053, KD, RF, x.1, w))) (fun i x => QF v x.1 ∧ RX x.1 352 (tN T) (-1) 0 (itT T (-1) 0 i f) ∧ GR (B + i) (tN T) (itT T (-1) 0 i f) ∧ fiS T f wh 300 1 = fiS T f wh (300 - i) (i + 1) ∧ am_cc x.2 = true) (300) ?_ ?_ (v1, .null) ⟨q1, r1, by rw [show B + ((0 : Nat) : Int) = B by omega]; exact hK.2.2.1, rfl, rfl⟩
  · intro i x hi ⟨x1, x2, x3, x4, x5⟩ ih
    try dsimp only at *
    have hKx : KI B x.1 T f := KI_q hK x1
    have hBB := hK.2.2.2.2.2
    have h8 := hK.1.1
    have hni : ¬ 300 < i + 1 := by omega
    refine go_at (blk := b_Forecast_firstToArrive_13) rfl ?_
    simp (disch := omega) only [b_Forecast_firstToArrive_13, be_4, be_1, be_49_4, List.getD_cons_zero, List.getD_cons_succ, List.set_cons_zero, List.set_cons_succ, List.length_cons, List.length_nil, pk_I, pk_A, pr_A, pi_I, st_s, st_n, if_true, if_false, eq_self, d_if, d_ju, d_re, d_ca, cat0, cat1, cat2, cat3, fr_z, fr_s, cc_I, cc_A, cc_N, Nat.reduceAdd, Nat.reduceLT, Nat.reduceLeDiff, Nat.reduceEqDiff, not_true, not_false_iff, z1_0, z1_1, Bool.and_self, Bool.true_and, Bool.and_true, nI_add, pk_mul, nI_clamp, decide_true, Nat.le_refl, bI_eq, bI_z1, nI_ltI, nI_leI, hni, x5]
    refine go_at (blk := b_Forecast_firstToArrive_20) rfl ?_
    simp (disch := omega) only [b_Forecast_firstToArrive_20, be_6, be_34, be_1, be_57_1, kc_350, rf_350_2, kc_352, List.getD_cons_zero, List.getD_cons_succ, List.set_cons_zero, List.set_cons_succ, List.length_cons, List.length_nil, pk_I, pk_A, pr_A, pi_I, st_s, st_n, if_true, if_false, eq_self, d_if, d_ju, d_re, d_ca, cat0, cat1, cat2, cat3, fr_z, fr_s, cc_I, cc_A, cc_N, Nat.reduceAdd, Nat.reduceLT, Nat.reduceLeDiff, Nat.reduceEqDiff, not_true, not_false_iff, z1_0, z1_1, Bool.and_self, Bool.true_and, Bool.and_true, nI_add, pk_mul, nI_clamp, decide_true, Nat.le_refl, bI_eq, bI_z1, nI_ltI, nI_leI, hni, x5]
    refine kf_pass (k := 1) hKx x2 x3 (by omega) (by omega) ?_
    intro v2 q2 r2' g2'
    have r2 : RX v2 352 (tN T) (-1) 0 (itT T (-1) 0 (i + 1) f) := r2'
    have g2 : GR (B + i + ((1 : Nat) : Int)) (tN T) (itT T (-1) 0 (i + 1) f) := g2'
    have hK2 := KI_q hKx q2
    have k1 := hK2.1.2.1
    refine go_at (blk := b_Forecast_firstToArrive_28) rfl ?_
    simp (disch := omega) only [b_Forecast_firstToArrive_28, be_1, be_7, be_0, List.getD_cons_zero, List.getD_cons_succ, List.set_cons_zero, List.set_cons_succ, List.length_cons, List.length_nil, pk_I, pk_A, pr_A, pi_I, st_s, st_n, if_true, if_false, eq_self, d_if, d_ju, d_re, d_ca, cat0, cat1, cat2, cat3, fr_z, fr_s, cc_I, cc_A, cc_N, Nat.reduceAdd, Nat.reduceLT, Nat.reduceLeDiff, Nat.reduceEqDiff, not_true, not_false_iff, z1_0, z1_1, Bool.and_self, Bool.true_and, Bool.and_true, nI_add, pk_mul, nI_clamp, decide_true, Nat.le_refl, bI_eq, bI_z1, nI_ltI, nI_leI, hni, x5]
    refine go_loopA (α := Unit) (fun j x => ([.ref 350, .int wh, .int (nI (i + 1)), .int (nI j)], [], (428, 26053, KD, RF, v2, w))) (fun j x => pF (fiP T f (i + 1)) (tN T) 0 = pF (fiP T f (i + 1)) (tN T - j) j) (tN T) ?_ ?_ () rfl
    · intro j _ hj j1 jh
      try dsimp only at *
      have hnj : ¬ tN T ≤ j := by omega
      refine go_at (blk := b_Forecast_firstToArrive_30) rfl ?_
      simp (disch := omega) only [b_Forecast_firstToArrive_30, be_4, be_6, be_34, be_33, be_49_3, kc_350, rf_350_0, kc_25, List.getD_cons_zero, List.getD_cons_succ, List.set_cons_zero, List.set_cons_succ, List.length_cons, List.length_nil, pk_I, pk_A, pr_A, pi_I, st_s, st_n, if_true, if_false, eq_self, d_if, d_ju, d_re, d_ca, cat0, cat1, cat2, cat3, fr_z, fr_s, cc_I, cc_A, cc_N, Nat.reduceAdd, Nat.reduceLT, Nat.reduceLeDiff, Nat.reduceEqDiff, not_true, not_false_iff, z1_0, z1_1, Bool.and_self, Bool.true_and, Bool.and_true, nI_add, pk_mul, nI_clamp, decide_true, Nat.le_refl, bI_eq, bI_z1, nI_ltI, nI_leI, hni, k1, hnj]
      refine go_at (blk := b_Forecast_firstToArrive_41) rfl ?_
      simp (disch := omega) only [b_Forecast_firstToArrive_41, be_6, be_34, be_4, be_57_1, kc_350, rf_350_1, kc_42, List.getD_cons_zero, List.getD_cons_succ, List.set_cons_zero, List.set_cons_succ, List.length_cons, List.length_nil, pk_I, pk_A, pr_A, pi_I, st_s, st_n, if_true, if_false, eq_self, d_if, d_ju, d_re, d_ca, cat0, cat1, cat2, cat3, fr_z, fr_s, cc_I, cc_A, cc_N, Nat.reduceAdd, Nat.reduceLT, Nat.reduceLeDiff, Nat.reduceEqDiff, not_true, not_false_iff, z1_0, z1_1, Bool.and_self, Bool.true_and, Bool.and_true, nI_add, pk_mul, nI_clamp, decide_true, Nat.le_refl, bI_eq, bI_z1, nI_ltI, nI_leI, hni, k1, hnj]
      refine kf_nowOn hK2 hj ?_
      refine go_at (blk := b_Forecast_firstToArrive_49) rfl ?_
      simp (disch := omega) only [b_Forecast_firstToArrive_49, be_50_0, List.getD_cons_zero, List.getD_cons_succ, List.set_cons_zero, List.set_cons_succ, List.length_cons, List.length_nil, pk_I, pk_A, pr_A, pi_I, st_s, st_n, if_true, if_false, eq_self, d_if, d_ju, d_re, d_ca, cat0, cat1, cat2, cat3, fr_z, fr_s, cc_I, cc_A, cc_N, Nat.reduceAdd, Nat.reduceLT, Nat.reduceLeDiff, Nat.reduceEqDiff, not_true, not_false_iff, z1_0, z1_1, Bool.and_self, Bool.true_and, Bool.and_true, nI_add, pk_mul, nI_clamp, decide_true, Nat.le_refl, bI_eq, bI_z1, nI_ltI, nI_leI, hni, k1, hnj]
      split
      · rename_i ha
        refine go_at (blk := b_Forecast_firstToArrive_73) rfl ?_
        simp (disch := omega) only [b_Forecast_firstToArrive_73, be_10, be_51, List.getD_cons_zero, List.getD_cons_succ, List.set_cons_zero, List.set_cons_succ, List.length_cons, List.length_nil, pk_I, pk_A, pr_A, pi_I, st_s, st_n, if_true, if_false, eq_self, d_if, d_ju, d_re, d_ca, cat0, cat1, cat2, cat3, fr_z, fr_s, cc_I, cc_A, cc_N, Nat.reduceAdd, Nat.reduceLT, Nat.reduceLeDiff, Nat.reduceEqDiff, not_true, not_false_iff, z1_0, z1_1, Bool.and_self, Bool.true_and, Bool.and_true, nI_add, pk_mul, nI_clamp, decide_true, Nat.le_refl, bI_eq, bI_z1, nI_ltI, nI_leI, hni, k1, hnj]
        exact jh () (by rw [j1, pF_f hj (by unfold fiP; rw [ha]; rfl)])
      · rename_i ha
        have ha : onB f (-1) j = true := by simpa using ha
        refine go_at (blk := b_Forecast_firstToArrive_52) rfl ?_
        simp (disch := omega) only [b_Forecast_firstToArrive_52, be_6, be_34, be_4, be_57_1, kc_350, rf_350_2, kc_352, List.getD_cons_zero, List.getD_cons_succ, List.set_cons_zero, List.set_cons_succ, List.length_cons, List.length_nil, pk_I, pk_A, pr_A, pi_I, st_s, st_n, if_true, if_false, eq_self, d_if, d_ju, d_re, d_ca, cat0, cat1, cat2, cat3, fr_z, fr_s, cc_I, cc_A, cc_N, Nat.reduceAdd, Nat.reduceLT, Nat.reduceLeDiff, Nat.reduceEqDiff, not_true, not_false_iff, z1_0, z1_1, Bool.and_self, Bool.true_and, Bool.and_true, nI_add, pk_mul, nI_clamp, decide_true, Nat.le_refl, bI_eq, bI_z1, nI_ltI, nI_leI, hni, k1, hnj]
        refine kf_isOn hK2 r2 g2 hj ?_
        refine go_at (blk := b_Forecast_firstToArrive_60) rfl ?_
        simp (disch := omega) only [b_Forecast_firstToArrive_60, be_50_1, List.getD_cons_zero, List.getD_cons_succ, List.set_cons_zero, List.set_cons_succ, List.length_cons, List.length_nil, pk_I, pk_A, pr_A, pi_I, st_s, st_n, if_true, if_false, eq_self, d_if, d_ju, d_re, d_ca, cat0, cat1, cat2, cat3, fr_z, fr_s, cc_I, cc_A, cc_N, Nat.reduceAdd, Nat.reduceLT, Nat.reduceLeDiff, Nat.reduceEqDiff, not_true, not_false_iff, z1_0, z1_1, Bool.and_self, Bool.true_and, Bool.and_true, nI_add, pk_mul, nI_clamp, decide_true, Nat.le_refl, bI_eq, bI_z1, nI_ltI, nI_leI, hni, k1, hnj]
        split
        · rename_i hb
          refine go_at (blk := b_Forecast_firstToArrive_73) rfl ?_
          simp (disch := omega) only [b_Forecast_firstToArrive_73, be_10, be_51, List.getD_cons_zero, List.getD_cons_succ, List.set_cons_zero, List.set_cons_succ, List.length_cons, List.length_nil, pk_I, pk_A, pr_A, pi_I, st_s, st_n, if_true, if_false, eq_self, d_if, d_ju, d_re, d_ca, cat0, cat1, cat2, cat3, fr_z, fr_s, cc_I, cc_A, cc_N, Nat.reduceAdd, Nat.reduceLT, Nat.reduceLeDiff, Nat.reduceEqDiff, not_true, not_false_iff, z1_0, z1_1, Bool.and_self, Bool.true_and, Bool.and_true, nI_add, pk_mul, nI_clamp, decide_true, Nat.le_refl, bI_eq, bI_z1, nI_ltI, nI_leI, hni, k1, hnj]
          exact jh () (by rw [j1, pF_f hj (by unfold fiP; rw [show onB (itT T (-1) 0 (i + 1) f) (-1) j = true by simpa using hb]; simp)])
        · rename_i hb
          have hb : onB (itT T (-1) 0 (i + 1) f) (-1) j = false := by have := hb; simpa using this
          have hf : pF (fiP T f (i + 1)) (tN T) 0 = some j := by rw [j1, pF_t hj (by unfold fiP; rw [ha, hb]; rfl)]
          rw [x4, fi_t (by omega) hf] at hQ
          refine go_at (blk := b_Forecast_firstToArrive_63) rfl ?_
          simp (disch := omega) only [b_Forecast_firstToArrive_63, be_4, be_50_1, List.getD_cons_zero, List.getD_cons_succ, List.set_cons_zero, List.set_cons_succ, List.length_cons, List.length_nil, pk_I, pk_A, pr_A, pi_I, st_s, st_n, if_true, if_false, eq_self, d_if, d_ju, d_re, d_ca, cat0, cat1, cat2, cat3, fr_z, fr_s, cc_I, cc_A, cc_N, Nat.reduceAdd, Nat.reduceLT, Nat.reduceLeDiff, Nat.reduceEqDiff, not_true, not_false_iff, z1_0, z1_1, Bool.and_self, Bool.true_and, Bool.and_true, nI_add, pk_mul, nI_clamp, decide_true, Nat.le_refl, bI_eq, bI_z1, nI_ltI, nI_leI, hni, k1, hnj]
          split
          · rename_i hw
            refine go_at (blk := b_Forecast_firstToArrive_71) rfl ?_
            simp (disch := omega) only [b_Forecast_firstToArrive_71, be_4, be_0, List.getD_cons_zero, List.getD_cons_succ, List.set_cons_zero, List.set_cons_succ, List.length_cons, List.length_nil, pk_I, pk_A, pr_A, pi_I, st_s, st_n, if_true, if_false, eq_self, d_if, d_ju, d_re, d_ca, cat0, cat1, cat2, cat3, fr_z, fr_s, cc_I, cc_A, cc_N, Nat.reduceAdd, Nat.reduceLT, Nat.reduceLeDiff, Nat.reduceEqDiff, not_true, not_false_iff, z1_0, z1_1, Bool.and_self, Bool.true_and, Bool.and_true, nI_add, pk_mul, nI_clamp, decide_true, Nat.le_refl, bI_eq, bI_z1, nI_ltI, nI_leI, hni, k1, hnj]
            refine go_at (blk := b_Forecast_firstToArrive_72) rfl ?_
            simp (disch := omega) only [b_Forecast_firstToArrive_72, be_54, List.getD_cons_zero, List.getD_cons_succ, List.set_cons_zero, List.set_cons_succ, List.length_cons, List.length_nil, pk_I, pk_A, pr_A, pi_I, st_s, st_n, if_true, if_false, eq_self, d_if, d_ju, d_re, d_ca, cat0, cat1, cat2, cat3, fr_z, fr_s, cc_I, cc_A, cc_N, Nat.reduceAdd, Nat.reduceLT, Nat.reduceLeDiff, Nat.reduceEqDiff, not_true, not_false_iff, z1_0, z1_1, Bool.and_self, Bool.true_and, Bool.and_true, nI_add, pk_mul, nI_clamp, decide_true, Nat.le_refl, bI_eq, bI_z1, nI_ltI, nI_leI, hni, k1, hnj]
            rw [if_neg hw] at hQ
            exact hQ _ (QF_t x1 q2)
          · rename_i hw
            refine go_at (blk := b_Forecast_firstToArrive_67) rfl ?_
            simp (disch := omega) only [b_Forecast_firstToArrive_67, be_4, be_51, List.getD_cons_zero, List.getD_cons_succ, List.set_cons_zero, List.set_cons_succ, List.length_cons, List.length_nil, pk_I, pk_A, pr_A, pi_I, st_s, st_n, if_true, if_false, eq_self, d_if, d_ju, d_re, d_ca, cat0, cat1, cat2, cat3, fr_z, fr_s, cc_I, cc_A, cc_N, Nat.reduceAdd, Nat.reduceLT, Nat.reduceLeDiff, Nat.reduceEqDiff, not_true, not_false_iff, z1_0, z1_1, Bool.and_self, Bool.true_and, Bool.and_true, nI_add, pk_mul, nI_clamp, decide_true, Nat.le_refl, bI_eq, bI_z1, nI_ltI, nI_leI, hni, k1, hnj]
            refine go_at (blk := b_Forecast_firstToArrive_72) rfl ?_
            simp (disch := omega) only [b_Forecast_firstToArrive_72, be_54, List.getD_cons_zero, List.getD_cons_succ, List.set_cons_zero, List.set_cons_succ, List.length_cons, List.length_nil, pk_I, pk_A, pr_A, pi_I, st_s, st_n, if_true, if_false, eq_self, d_if, d_ju, d_re, d_ca, cat0, cat1, cat2, cat3, fr_z, fr_s, cc_I, cc_A, cc_N, Nat.reduceAdd, Nat.reduceLT, Nat.reduceLeDiff, Nat.reduceEqDiff, not_true, not_false_iff, z1_0, z1_1, Bool.and_self, Bool.true_and, Bool.and_true, nI_add, pk_mul, nI_clamp, decide_true, Nat.le_refl, bI_eq, bI_z1, nI_ltI, nI_leI, hni, k1, hnj]
            rw [if_pos (Decidable.not_not.mp hw)] at hQ
            exact hQ _ (QF_t x1 q2)
    · intro _ j1
      try dsimp only at *
      refine go_at (blk := b_Forecast_firstToArrive_30) rfl ?_
      simp (disch := omega) only [b_Forecast_firstToArrive_30, be_4, be_6, be_34, be_33, be_49_3, kc_350, rf_350_0, kc_25, List.getD_cons_zero, List.getD_cons_succ, List.set_cons_zero, List.set_cons_succ, List.length_cons, List.length_nil, pk_I, pk_A, pr_A, pi_I, st_s, st_n, if_true, if_false, eq_self, d_if, d_ju, d_re, d_ca, cat0, cat1, cat2, cat3, fr_z, fr_s, cc_I, cc_A, cc_N, Nat.reduceAdd, Nat.reduceLT, Nat.reduceLeDiff, Nat.reduceEqDiff, not_true, not_false_iff, z1_0, z1_1, Bool.and_self, Bool.true_and, Bool.and_true, nI_add, pk_mul, nI_clamp, decide_true, Nat.le_refl, bI_eq, bI_z1, nI_ltI, nI_leI, k1]
      refine go_at (blk := b_Forecast_firstToArrive_79) rfl ?_
      simp (disch := omega) only [b_Forecast_firstToArrive_79, be_10, be_51, List.getD_cons_zero, List.getD_cons_succ, List.set_cons_zero, List.set_cons_succ, List.length_cons, List.length_nil, pk_I, pk_A, pr_A, pi_I, st_s, st_n, if_true, if_false, eq_self, d_if, d_ju, d_re, d_ca, cat0, cat1, cat2, cat3, fr_z, fr_s, cc_I, cc_A, cc_N, Nat.reduceAdd, Nat.reduceLT, Nat.reduceLeDiff, Nat.reduceEqDiff, not_true, not_false_iff, z1_0, z1_1, Bool.and_self, Bool.true_and, Bool.and_true, nI_add, pk_mul, nI_clamp, decide_true, Nat.le_refl, bI_eq, bI_z1, nI_ltI, nI_leI, k1]
      exact ih (v2, .int _) ⟨QF_t x1 q2, r2, GR_s g2, by rw [x4, fi_f (by omega) (by rw [j1, pF_e])], rfl⟩
  · intro x ⟨x1, x2, x3, x4, x5⟩
    try dsimp only at *
    refine go_at (blk := b_Forecast_firstToArrive_13) rfl ?_
    simp (disch := omega) only [b_Forecast_firstToArrive_13, be_4, be_1, be_49_4, List.getD_cons_zero, List.getD_cons_succ, List.set_cons_zero, List.set_cons_succ, List.length_cons, List.length_nil, pk_I, pk_A, pr_A, pi_I, st_s, st_n, if_true, if_false, eq_self, d_if, d_ju, d_re, d_ca, cat0, cat1, cat2, cat3, fr_z, fr_s, cc_I, cc_A, cc_N, Nat.reduceAdd, Nat.reduceLT, Nat.reduceLeDiff, Nat.reduceEqDiff, not_true, not_false_iff, z1_0, z1_1, Bool.and_self, Bool.true_and, Bool.and_true, nI_add, pk_mul, nI_clamp, decide_true, Nat.le_refl, bI_eq, bI_z1, nI_ltI, nI_leI]
    refine go_at (blk := b_Forecast_firstToArrive_85) rfl ?_
    simp (disch := omega) only [b_Forecast_firstToArrive_85, be_2, be_54, List.getD_cons_zero, List.getD_cons_succ, List.set_cons_zero, List.set_cons_succ, List.length_cons, List.length_nil, pk_I, pk_A, pr_A, pi_I, st_s, st_n, if_true, if_false, eq_self, d_if, d_ju, d_re, d_ca, cat0, cat1, cat2, cat3, fr_z, fr_s, cc_I, cc_A, cc_N, Nat.reduceAdd, Nat.reduceLT, Nat.reduceLeDiff, Nat.reduceEqDiff, not_true, not_false_iff, z1_0, z1_1, Bool.and_self, Bool.true_and, Bool.and_true, nI_add, pk_mul, nI_clamp, decide_true, Nat.le_refl, bI_eq, bI_z1, nI_ltI, nI_leI]
    rw [x4, fi_e] at hQ
    exact hQ _ x1
