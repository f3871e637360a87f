/-! laid by wip/whole/k14.py: the class: what was told -/
/-- what is told: m sights: who, when, where -/
def WX (v : Nat → Nat → Int32) (n m : Nat) (tp tm : Nat → Nat) (ts : Nat → Int32) : Prop := v 358 5 = nI m ∧ m ≤ 20 ∧ ∀ i, i < m → v 359 i = nI (tp i) ∧ tp i < n ∧ v 360 i = nI (tm i) ∧ tm i ≤ 99 ∧ v 361 i = ts i
theorem WX_q {v v' : Nat → Nat → Int32} {n m : Nat} {tp tm : Nat → Nat} {ts : Nat → Int32} (h : WX v n m tp tm ts) (e : QF v v') : WX v' n m tp tm ts := by
  unfold WX at *
  rw [e 358 (by omega) (by omega) (by omega) (by omega) (by omega) (by omega), e 359 (by omega) (by omega) (by omega) (by omega) (by omega) (by omega), e 360 (by omega) (by omega) (by omega) (by omega) (by omega) (by omega), e 361 (by omega) (by omega) (by omega) (by omega) (by omega) (by omega)]
  exact h
/-- one more than the last minute told -/
def lmN (tm : Nat → Nat) : Nat → Nat
  | 0 => 0
  | k + 1 => if lmN tm k < tm k + 1 then tm k + 1 else lmN tm k
theorem lm_le {tm : Nat → Nat} (k : Nat) (h : ∀ i, i < k → tm i ≤ 99) : lmN tm k ≤ 100 := by
  induction k with
  | zero => exact Nat.zero_le _
  | succ k ih =>
    have h1 := ih (fun i hi => h i (by omega))
    have h2 := h k (by omega)
    show (if lmN tm k < tm k + 1 then tm k + 1 else lmN tm k) ≤ 100
    split <;> omega
theorem lm_lt {M i : Nat} (hM : M ≤ 100) (hi : i ≤ 1000) : (nI M + (-1) < nI i) ↔ M ≤ i := by
  cases M with
  | zero =>
    refine ⟨fun _ => Nat.zero_le _, fun _ => ?_⟩
    rw [show nI 0 + (-1) = (-1 : Int32) from rfl, Int32.lt_iff_toInt_lt, nI_toInt (by omega), show (-1 : Int32).toInt = -1 from rfl]
    omega
  | succ M => rw [pk_m1, nI_ltI (by omega) (by omega)]; omega
theorem lm_mx {M t : Nat} (hM : M ≤ 100) (ht : t ≤ 99) : (if nI M + (-1) < nI t then nI t else nI M + (-1)) = nI (if M < t + 1 then t + 1 else M) + (-1) := by
  by_cases h : M ≤ t
  · rw [if_pos ((lm_lt hM (by omega)).mpr h), if_pos (by omega), pk_m1]
  · rw [if_neg (fun z => h ((lm_lt hM (by omega)).mp z)), if_neg (by omega)]
theorem lm_s {tm : Nat → Nat} {k : Nat} : lmN tm (k + 1) = if lmN tm k < tm k + 1 then tm k + 1 else lmN tm k := rfl
theorem lm_0 {tm : Nat → Nat} : (-1 : Int32) = nI (lmN tm 0) + (-1) := by
  rw [show lmN tm 0 = 0 from rfl]
  decide
def nsP (tp tm : Nat → Nat) (ts g : Nat → Int32) (m i : Nat) : Bool := decide (tm i = m) && !decide (g (tp i) = ts i)
def enN : Option Nat → Int32
  | none => -2
  | some i => nI i
theorem enn_n : enN none = -2 := rfl
theorem enn_s {i : Nat} : enN (some i) = nI i := rfl
theorem nI_m2 {b : Nat} (h : b < 256) : ¬ nI b = -2 := by
  intro z
  have := congrArg Int32.toInt z
  rw [nI_toInt (by omega), show (-2 : Int32).toInt = -2 from rfl] at this
  omega
theorem pF_lt {P : Nat → Bool} : ∀ (m i j : Nat), pF P m i = some j → i ≤ j ∧ j < i + m ∧ P j = true := by
  intro m
  induction m with
  | zero => intro i j h; cases h
  | succ m ih =>
    intro i j h
    by_cases hp : P i = true
    · have : some i = some j := by rw [← h]; exact (if_pos hp).symm
      cases this
      exact ⟨Nat.le_refl _, by omega, hp⟩
    · have h' : pF P m (i + 1) = some j := by rw [← h]; exact (if_neg hp).symm
      obtain ⟨a, b, c⟩ := ih _ _ h'
      exact ⟨by omega, by omega, c⟩
theorem kw_begin {d : Nat} {v : Nat → Nat → Int32} {w : Nat → Nat → Int64} {Q : Option Value → am_H → Prop} {T : TXT} {f : Nat → Int32} {B : Int} (hK : KI B v T f) (hQ : ∀ v', QF v v' → RX v' 362 (tN T) (-1) 0 (bgT T) → Q none (428, 26053, KD, RF, v', w)) : am_Ca (d + 2) M_Stair_begin [.ref 362] (428, 26053, KD, RF, v, w) Q := by
  exact k_begin st_362 hK.1 hK.2.2.2.1 (fun v' h1 h2 => hQ v' (QF_c2 h1) h2)
theorem kw_pass {d : Nat} {v : Nat → Nat → Int32} {w : Nat → Nat → Int64} {Q : Option Value → am_H → Prop} {T : TXT} {f : Nat → Int32} {B : Int} (hK : KI B v T f) {g : Nat → Int32} {C : Int} (hr : RX v 362 (tN T) (-1) 0 g) (hg : GR C (tN T) g) {k : Nat} (hk : k ≤ 1000) (hC : C ≤ 300000) (hQ : ∀ v', QF v v' → RX v' 362 (tN T) (-1) 0 (itT T (-1) 0 k g) → GR (C + k) (tN T) (itT T (-1) 0 k g) → Q none (428, 26053, KD, RF, v', w)) : am_Ca (d + 4) M_Stair_pass [.ref 362, .int (nI k)] (428, 26053, KD, RF, v, w) Q := by
  exact k_pass st_362 hK.1 hr hg hk hK.2.2.2.1 (by omega) (fun v' h1 h2 => hQ v' (QF_s2 h1) h2 (GR_it hK.2.2.2.1 hg k (by omega)))
set_option maxHeartbeats 1000000 in
theorem k_last {d : Nat} {v : Nat → Nat → Int32} {w : Nat → Nat → Int64} {Q : Option Value → am_H → Prop} {T : TXT} {f : Nat → Int32} {B : Int} (hK : KI B v T f) {m : Nat} {tp tm : Nat → Nat} {ts : Nat → Int32} (hW : WX v (tN T) m tp tm ts) {k : Nat} (hk : k ≤ m) (hQ : Q (some (.int (nI (lmN tm k) + (-1)))) (428, 26053, KD, RF, v, w)) : am_Ca (d + 1) M_Witness_lastMinute [.ref 358, .int (nI k)] (428, 26053, KD, RF, v, w) Q := by
  have hm20 := hW.2.1
  refine ca_in (k := k_Witness_lastMinute) (nL := 4) rfl (Nat.le_of_ble_eq_true rfl) ?_
  show am_Go am_X0 _ k_Witness_lastMinute 0 ([.ref 358, .int (nI k), .null, .null], [], _) _
  refine go_at (blk := b_Witness_lastMinute_0) rfl ?_
  simp (disch := omega) only [b_Witness_lastMinute_0, be_2, be_7, be_1, be_0, List.getD_cons_zero, List.getD_cons_succ, List.set_cons_zero, List.set_cons_succ, List.length_cons, List.length_nil, pk_I, pk_A, pr_A, pi_I, st_s, st_n, if_true, if_false, eq_self, d_if, d_ju, d_re, d_ca, cat0, cat1, cat2, cat3, fr_z, fr_s, cc_I, cc_A, cc_N, Nat.reduceAdd, Nat.reduceLT, Nat.reduceLeDiff, Nat.reduceEqDiff, not_true, not_false_iff, z1_0, z1_1, Bool.and_self, Bool.true_and, Bool.and_true, nI_add, pk_mul, nI_clamp, decide_true, Nat.le_refl, bI_eq, bI_z1]
  rw [show (-1 : Int32) = nI (lmN tm 0) + (-1) from lm_0]
  refine go_loop (fun i => ([.ref 358, .int (nI k), .int (nI (lmN tm i) + (-1)), .int (nI i)], [], (428, 26053, KD, RF, v, w))) (k) ?_ ?_
  · intro i hi ih
    have hni : ¬ k ≤ i := by omega
    obtain ⟨_, _, e3, e4, _⟩ := hW.2.2 i (by omega)
    have hmx := lm_mx (lm_le i (fun j hj => (hW.2.2 j (by omega)).2.2.2.1)) e4
    try dsimp only at ih ⊢
    refine go_at (blk := b_Witness_lastMinute_4) rfl ?_
    simp (disch := omega) only [b_Witness_lastMinute_4, be_4, be_49_3, List.getD_cons_zero, List.getD_cons_succ, List.set_cons_zero, List.set_cons_succ, List.length_cons, List.length_nil, pk_I, pk_A, pr_A, pi_I, st_s, st_n, if_true, if_false, eq_self, d_if, d_ju, d_re, d_ca, cat0, cat1, cat2, cat3, fr_z, fr_s, cc_I, cc_A, cc_N, Nat.reduceAdd, Nat.reduceLT, Nat.reduceLeDiff, Nat.reduceEqDiff, not_true, not_false_iff, z1_0, z1_1, Bool.and_self, Bool.true_and, Bool.and_true, nI_add, pk_mul, nI_clamp, decide_true, Nat.le_refl, bI_eq, bI_z1, nI_ltI, nI_leI, e3, hmx, hni]
    refine go_at (blk := b_Witness_lastMinute_9) rfl ?_
    simp (disch := omega) only [b_Witness_lastMinute_9, be_4, be_6, be_34, be_38, be_64, be_7, be_10, be_51, kc_358, rf_358_3, ka_360, List.getD_cons_zero, List.getD_cons_succ, List.set_cons_zero, List.set_cons_succ, List.length_cons, List.length_nil, pk_I, pk_A, pr_A, pi_I, st_s, st_n, if_true, if_false, eq_self, d_if, d_ju, d_re, d_ca, cat0, cat1, cat2, cat3, fr_z, fr_s, cc_I, cc_A, cc_N, Nat.reduceAdd, Nat.reduceLT, Nat.reduceLeDiff, Nat.reduceEqDiff, not_true, not_false_iff, z1_0, z1_1, Bool.and_self, Bool.true_and, Bool.and_true, nI_add, pk_mul, nI_clamp, decide_true, Nat.le_refl, bI_eq, bI_z1, nI_ltI, nI_leI, e3, hmx, hni]
    rw [lm_s] at ih
    exact ih
  · have e3 : (1 : Nat) = 1 := rfl
    have hmx : (1 : Nat) = 1 := rfl
    try dsimp only
    refine go_at (blk := b_Witness_lastMinute_4) rfl ?_
    simp (disch := omega) only [b_Witness_lastMinute_4, be_4, be_49_3, List.getD_cons_zero, List.getD_cons_succ, List.set_cons_zero, List.set_cons_succ, List.length_cons, List.length_nil, pk_I, pk_A, pr_A, pi_I, st_s, st_n, if_true, if_false, eq_self, d_if, d_ju, d_re, d_ca, cat0, cat1, cat2, cat3, fr_z, fr_s, cc_I, cc_A, cc_N, Nat.reduceAdd, Nat.reduceLT, Nat.reduceLeDiff, Nat.reduceEqDiff, not_true, not_false_iff, z1_0, z1_1, Bool.and_self, Bool.true_and, Bool.and_true, nI_add, pk_mul, nI_clamp, decide_true, Nat.le_refl, bI_eq, bI_z1, nI_ltI, nI_leI, e3, hmx]
    refine go_at (blk := b_Witness_lastMinute_26) rfl ?_
    simp (disch := omega) only [b_Witness_lastMinute_26, be_4, be_54, List.getD_cons_zero, List.getD_cons_succ, List.set_cons_zero, List.set_cons_succ, List.length_cons, List.length_nil, pk_I, pk_A, pr_A, pi_I, st_s, st_n, if_true, if_false, eq_self, d_if, d_ju, d_re, d_ca, cat0, cat1, cat2, cat3, fr_z, fr_s, cc_I, cc_A, cc_N, Nat.reduceAdd, Nat.reduceLT, Nat.reduceLeDiff, Nat.reduceEqDiff, not_true, not_false_iff, z1_0, z1_1, Bool.and_self, Bool.true_and, Bool.and_true, nI_add, pk_mul, nI_clamp, decide_true, Nat.le_refl, bI_eq, bI_z1, nI_ltI, nI_leI, e3, hmx]
    exact hQ
set_option maxHeartbeats 1000000 in
theorem k_notSo {d : Nat} {v : Nat → Nat → Int32} {w : Nat → Nat → Int64} {Q : Option Value → am_H → Prop} {T : TXT} {f : Nat → Int32} {B : Int} (hK : KI B v T f) {m : Nat} {tp tm : Nat → Nat} {ts : Nat → Int32} (hW : WX v (tN T) m tp tm ts) {g : Nat → Int32} {C : Int} (hr : RX v 362 (tN T) (-1) 0 g) (hg : GR C (tN T) g) {k x : Nat} (hk : k ≤ m) (hx : x ≤ 100) (hQ : Q (some (.int (enN (pF (nsP tp tm ts g x) k 0)))) (428, 26053, KD, RF, v, w)) : am_Ca (d + 1) M_Witness_firstNotSoBehind [.ref 358, .int (nI x), .int (nI k)] (428, 26053, KD, RF, v, w) Q := by
  have hm20 := hW.2.1
  refine ca_in (k := k_Witness_firstNotSoBehind) (nL := 4) rfl (Nat.le_of_ble_eq_true rfl) ?_
  show am_Go am_X0 _ k_Witness_firstNotSoBehind 0 ([.ref 358, .int (nI x), .int (nI k), .null], [], _) _
  refine go_at (blk := b_Witness_firstNotSoBehind_0) rfl ?_
  simp (disch := omega) only [b_Witness_firstNotSoBehind_0, be_1, be_7, be_0, List.getD_cons_zero, List.getD_cons_succ, List.set_cons_zero, List.set_cons_succ, List.length_cons, List.length_nil, pk_I, pk_A, pr_A, pi_I, st_s, st_n, if_true, if_false, eq_self, d_if, d_ju, d_re, d_ca, cat0, cat1, cat2, cat3, fr_z, fr_s, cc_I, cc_A, cc_N, Nat.reduceAdd, Nat.reduceLT, Nat.reduceLeDiff, Nat.reduceEqDiff, not_true, not_false_iff, z1_0, z1_1, Bool.and_self, Bool.true_and, Bool.and_true, nI_add, pk_mul, nI_clamp, decide_true, Nat.le_refl, bI_eq, bI_z1]
  refine go_loopA (α := Unit) (fun i z => ([.ref 358, .int (nI x), .int (nI k), .int (nI i)], [], (428, 26053, KD, RF, v, w))) (fun i z => pF (nsP tp tm ts g x) k 0 = pF (nsP tp tm ts g x) (k - i) i) (k) ?_ ?_ () rfl
  · intro i _ hi i1 ih
    try dsimp only at *
    have hni : ¬ k ≤ i := by omega
    obtain ⟨e1, e2, e3, e4, e5⟩ := hW.2.2 i (by omega)
    have h8 := hK.1.1
    have eg : v 363 (tp i) = g (tp i) := RX_st hr e2 (nI_m (by omega))
    refine go_at (blk := b_Witness_firstNotSoBehind_2) rfl ?_
    simp (disch := omega) only [b_Witness_firstNotSoBehind_2, be_4, be_49_3, List.getD_cons_zero, List.getD_cons_succ, List.set_cons_zero, List.set_cons_succ, List.length_cons, List.length_nil, pk_I, pk_A, pr_A, pi_I, st_s, st_n, if_true, if_false, eq_self, d_if, d_ju, d_re, d_ca, cat0, cat1, cat2, cat3, fr_z, fr_s, cc_I, cc_A, cc_N, Nat.reduceAdd, Nat.reduceLT, Nat.reduceLeDiff, Nat.reduceEqDiff, not_true, not_false_iff, z1_0, z1_1, Bool.and_self, Bool.true_and, Bool.and_true, nI_add, pk_mul, nI_clamp, decide_true, Nat.le_refl, bI_eq, bI_z1, nI_ltI, nI_leI, hni, e1, e3, e5, eg, nI_eq]
    refine go_at (blk := b_Witness_firstNotSoBehind_7) rfl ?_
    simp (disch := omega) only [b_Witness_firstNotSoBehind_7, be_6, be_34, be_4, be_38, be_49_1, kc_358, rf_358_3, ka_360, List.getD_cons_zero, List.getD_cons_succ, List.set_cons_zero, List.set_cons_succ, List.length_cons, List.length_nil, pk_I, pk_A, pr_A, pi_I, st_s, st_n, if_true, if_false, eq_self, d_if, d_ju, d_re, d_ca, cat0, cat1, cat2, cat3, fr_z, fr_s, cc_I, cc_A, cc_N, Nat.reduceAdd, Nat.reduceLT, Nat.reduceLeDiff, Nat.reduceEqDiff, not_true, not_false_iff, z1_0, z1_1, Bool.and_self, Bool.true_and, Bool.and_true, nI_add, pk_mul, nI_clamp, decide_true, Nat.le_refl, bI_eq, bI_z1, nI_ltI, nI_leI, hni, e1, e3, e5, eg, nI_eq]
    split
    · rename_i ha
      refine go_at (blk := b_Witness_firstNotSoBehind_42) rfl ?_
      simp (disch := omega) only [b_Witness_firstNotSoBehind_42, be_10, be_51, List.getD_cons_zero, List.getD_cons_succ, List.set_cons_zero, List.set_cons_succ, List.length_cons, List.length_nil, pk_I, pk_A, pr_A, pi_I, st_s, st_n, if_true, if_false, eq_self, d_if, d_ju, d_re, d_ca, cat0, cat1, cat2, cat3, fr_z, fr_s, cc_I, cc_A, cc_N, Nat.reduceAdd, Nat.reduceLT, Nat.reduceLeDiff, Nat.reduceEqDiff, not_true, not_false_iff, z1_0, z1_1, Bool.and_self, Bool.true_and, Bool.and_true, nI_add, pk_mul, nI_clamp, decide_true, Nat.le_refl, bI_eq, bI_z1, nI_ltI, nI_leI, hni, e1, e3, e5, eg, nI_eq]
      exact ih () (by rw [i1, pF_f hi (show nsP tp tm ts g x i = false by unfold nsP; rw [decide_eq_false ha]; rfl)])
    · rename_i ha
      refine go_at (blk := b_Witness_firstNotSoBehind_17) rfl ?_
      simp (disch := omega) only [b_Witness_firstNotSoBehind_17, be_6, be_34, be_4, be_38, be_49_0, kc_358, rf_358_1, kc_362, rf_362_1, rf_358_2, ka_359, ka_363, rf_358_4, ka_361, List.getD_cons_zero, List.getD_cons_succ, List.set_cons_zero, List.set_cons_succ, List.length_cons, List.length_nil, pk_I, pk_A, pr_A, pi_I, st_s, st_n, if_true, if_false, eq_self, d_if, d_ju, d_re, d_ca, cat0, cat1, cat2, cat3, fr_z, fr_s, cc_I, cc_A, cc_N, Nat.reduceAdd, Nat.reduceLT, Nat.reduceLeDiff, Nat.reduceEqDiff, not_true, not_false_iff, z1_0, z1_1, Bool.and_self, Bool.true_and, Bool.and_true, nI_add, pk_mul, nI_clamp, decide_true, Nat.le_refl, bI_eq, bI_z1, nI_ltI, nI_leI, hni, e1, e3, e5, eg, nI_eq]
      split
      · rename_i hb
        refine go_at (blk := b_Witness_firstNotSoBehind_42) rfl ?_
        simp (disch := omega) only [b_Witness_firstNotSoBehind_42, be_10, be_51, List.getD_cons_zero, List.getD_cons_succ, List.set_cons_zero, List.set_cons_succ, List.length_cons, List.length_nil, pk_I, pk_A, pr_A, pi_I, st_s, st_n, if_true, if_false, eq_self, d_if, d_ju, d_re, d_ca, cat0, cat1, cat2, cat3, fr_z, fr_s, cc_I, cc_A, cc_N, Nat.reduceAdd, Nat.reduceLT, Nat.reduceLeDiff, Nat.reduceEqDiff, not_true, not_false_iff, z1_0, z1_1, Bool.and_self, Bool.true_and, Bool.and_true, nI_add, pk_mul, nI_clamp, decide_true, Nat.le_refl, bI_eq, bI_z1, nI_ltI, nI_leI, hni, e1, e3, e5, eg, nI_eq]
        exact ih () (by rw [i1, pF_f hi (show nsP tp tm ts g x i = false by unfold nsP; rw [decide_eq_true hb]; simp)])
      · rename_i hb
        refine go_at (blk := b_Witness_firstNotSoBehind_40) rfl ?_
        simp (disch := omega) only [b_Witness_firstNotSoBehind_40, be_4, be_54, List.getD_cons_zero, List.getD_cons_succ, List.set_cons_zero, List.set_cons_succ, List.length_cons, List.length_nil, pk_I, pk_A, pr_A, pi_I, st_s, st_n, if_true, if_false, eq_self, d_if, d_ju, d_re, d_ca, cat0, cat1, cat2, cat3, fr_z, fr_s, cc_I, cc_A, cc_N, Nat.reduceAdd, Nat.reduceLT, Nat.reduceLeDiff, Nat.reduceEqDiff, not_true, not_false_iff, z1_0, z1_1, Bool.and_self, Bool.true_and, Bool.and_true, nI_add, pk_mul, nI_clamp, decide_true, Nat.le_refl, bI_eq, bI_z1, nI_ltI, nI_leI, hni, e1, e3, e5, eg, nI_eq]
        rw [i1, pF_t hi (show nsP tp tm ts g x i = true by unfold nsP; rw [decide_eq_true (Decidable.not_not.mp ha), decide_eq_false hb]; rfl)] at hQ
        exact hQ
  · intro _ i1
    try dsimp only at *
    refine go_at (blk := b_Witness_firstNotSoBehind_2) rfl ?_
    simp (disch := omega) only [b_Witness_firstNotSoBehind_2, be_4, be_49_3, List.getD_cons_zero, List.getD_cons_succ, List.set_cons_zero, List.set_cons_succ, List.length_cons, List.length_nil, pk_I, pk_A, pr_A, pi_I, st_s, st_n, if_true, if_false, eq_self, d_if, d_ju, d_re, d_ca, cat0, cat1, cat2, cat3, fr_z, fr_s, cc_I, cc_A, cc_N, Nat.reduceAdd, Nat.reduceLT, Nat.reduceLeDiff, Nat.reduceEqDiff, not_true, not_false_iff, z1_0, z1_1, Bool.and_self, Bool.true_and, Bool.and_true, nI_add, pk_mul, nI_clamp, decide_true, Nat.le_refl, bI_eq, bI_z1, nI_ltI, nI_leI]
    refine go_at (blk := b_Witness_firstNotSoBehind_48) rfl ?_
    simp (disch := omega) only [b_Witness_firstNotSoBehind_48, be_2, be_54, List.getD_cons_zero, List.getD_cons_succ, List.set_cons_zero, List.set_cons_succ, List.length_cons, List.length_nil, pk_I, pk_A, pr_A, pi_I, st_s, st_n, if_true, if_false, eq_self, d_if, d_ju, d_re, d_ca, cat0, cat1, cat2, cat3, fr_z, fr_s, cc_I, cc_A, cc_N, Nat.reduceAdd, Nat.reduceLT, Nat.reduceLeDiff, Nat.reduceEqDiff, not_true, not_false_iff, z1_0, z1_1, Bool.and_self, Bool.true_and, Bool.and_true, nI_add, pk_mul, nI_clamp, decide_true, Nat.le_refl, bI_eq, bI_z1, nI_ltI, nI_leI]
    rw [i1, pF_e] at hQ
    exact hQ
