/-! laid by wip/whole/m19.py: the reference: who rose in secret -/
/-- what is told: m sights: who, when, where -/
def WM (v : Nat → Nat → Int32) (n m : Nat) (tp tm : Nat → Nat) (ts : Nat → Int32) : Prop := v 388 55 = nI m ∧ m ≤ 20 ∧ ∀ i, i < m → v 423 i = nI (tp i) ∧ tp i < n ∧ v 424 i = nI (tm i) ∧ tm i ≤ 99 ∧ v 425 i = ts i
theorem WM_f {v v' : Nat → Nat → Int32} {n m : Nat} {tp tm : Nat → Nat} {ts : Nat → Int32} (h : WM v n m tp tm ts) (e : MF v v') : WM v' n m tp tm ts := by
  unfold WM at *
  rw [e.2.1 55 (by omega) (by omega) (by omega), e.1 423 (by omega) (by omega) (by omega) (by omega), e.1 424 (by omega) (by omega) (by omega) (by omega), e.1 425 (by omega) (by omega) (by omega) (by omega)]
  exact h
def wr20 : Option Nat → Int32
  | none => nI 20
  | some i => nI i
def ifB : Option Nat → Nat → Bool
  | none, _ => true
  | some b, j => decide (j < b)
def inF (P : Nat → Bool) (c : Option Nat) : Nat → Option Nat
  | 0 => c
  | j + 1 => if (P j && ifB (inF P c j) j) = true then some j else inF P c j
theorem in_t {P : Nat → Bool} {c : Option Nat} {j : Nat} (h : P j = true) (h2 : ifB (inF P c j) j = true) : inF P c (j + 1) = some j := if_pos (by rw [h, h2]; rfl)
theorem in_f {P : Nat → Bool} {c : Option Nat} {j : Nat} (h : P j = false ∨ ifB (inF P c j) j = false) : inF P c (j + 1) = inF P c j := if_neg (by rcases h with h | h <;> rw [h] <;> simp)
theorem in_b {P : Nat → Bool} {c : Option Nat} (hc : ∀ b, c = some b → b < 20) : ∀ j, j ≤ 20 → ∀ b, inF P c j = some b → b < 20 := by
  intro j
  induction j with
  | zero => intro _; exact hc
  | succ j ih =>
    intro hj b hb
    by_cases h : (P j && ifB (inF P c j) j) = true
    · rw [show inF P c (j + 1) = some j from if_pos h] at hb
      cases hb
      omega
    · rw [show inF P c (j + 1) = inF P c j from if_neg h] at hb
      exact ih (by omega) b hb
theorem wr_le {o : Option Nat} {j : Nat} (hj : j < 20) (hb : ∀ b, o = some b → b < 20) : (wr20 o ≤ nI j) ↔ ifB o j = false := by
  cases o with
  | none =>
    show (nI 20 ≤ nI j) ↔ true = false
    rw [nI_leI (by omega) (by omega)]
    constructor
    · intro h; omega
    · intro h; cases h
  | some b =>
    have := hb b rfl
    show (nI b ≤ nI j) ↔ decide (j < b) = false
    rw [nI_leI (by omega) (by omega), decide_eq_false_iff_not]
    omega
theorem pF_app {P : Nat → Bool} : ∀ m i, pF P (m + 1) i = match pF P m i with
    | some x => some x
    | none => if P (i + m) = true then some (i + m) else none := by
  intro m
  induction m with
  | zero => intro i; rfl
  | succ m ih =>
    intro i
    by_cases h : P i = true
    · rw [show pF P (m + 1 + 1) i = some i from if_pos h, show pF P (m + 1) i = some i from if_pos h]
    · rw [show pF P (m + 1 + 1) i = pF P (m + 1) (i + 1) from if_neg h, show pF P (m + 1) i = pF P m (i + 1) from if_neg h, ih (i + 1), show i + 1 + m = i + (m + 1) by omega]
theorem in_eq {P : Nat → Bool} {c : Option Nat} (k : Nat) : inF P c k = foM (pF P k 0) c := by
  induction k with
  | zero => rfl
  | succ k ih =>
    rw [pF_app]
    show (if (P k && ifB (inF P c k) k) = true then some k else inF P c k) = _
    rw [ih]
    cases hp : pF P k 0 with
    | none =>
      show (if (P k && ifB c k) = true then some k else c) = foM (if P (0 + k) = true then some (0 + k) else none) c
      rw [Nat.zero_add]
      cases hk : P k with
      | false => rfl
      | true =>
        cases c with
        | none => rfl
        | some b =>
          show (if (true && decide (k < b)) = true then some k else some b) = if k < b then some k else some b
          rw [Bool.true_and]
          simp
    | some i =>
      have hl := (pF_lt _ _ _ hp).2.1
      cases c with
      | none =>
        show (if (P k && decide (k < i)) = true then some k else some i) = some i
        rw [decide_eq_false (by omega), Bool.and_false]
        rfl
      | some b =>
        show (if (P k && ifB (if i < b then some i else some b) k) = true then some k else (if i < b then some i else some b)) = if i < b then some i else some b
        by_cases h : i < b
        · rw [if_pos h]
          show (if (P k && decide (k < i)) = true then some k else some i) = some i
          rw [decide_eq_false (by omega), Bool.and_false]
          rfl
        · rw [if_neg h]
          show (if (P k && decide (k < b)) = true then some k else some b) = some b
          rw [decide_eq_false (by omega), Bool.and_false]
          rfl
theorem fm_b {a c : Option Nat} (ha : ∀ b, a = some b → b < 20) (hc : ∀ b, c = some b → b < 20) : ∀ b, foM a c = some b → b < 20 := by
  intro b h
  cases a with
  | none => exact hc b h
  | some i =>
    cases c with
    | none => exact ha b h
    | some j =>
      have h' : (if i < j then some i else some j) = some b := h
      split at h'
      · exact ha b h'
      · exact hc b h'
theorem pF_20 {P : Nat → Bool} {k : Nat} (hk : k ≤ 20) : ∀ b, pF P k 0 = some b → b < 20 := by
  intro b h
  have := pF_lt _ _ _ h
  omega
theorem fo_20 {T : TXT} {tp tm : Nat → Nat} {ts : Nat → Int32} {k : Nat} (hk : k ≤ 20) (m : Nat) : ∀ b, foS T tp tm ts k m = some b → b < 20 := by
  induction m with
  | zero => intro b h; cases h
  | succ m ih => exact fm_b (pF_20 hk) ih
def fpS (T : TXT) (tp tm : Nat → Nat) (ts : Nat → Int32) (k p w : Nat) : Nat → Option Nat
  | 0 => none
  | m + 1 => foM (pF (nsP tp tm ts (raS T p w (m + 1)) m) k 0) (fpS T tp tm ts k p w m)
theorem fp_20 {T : TXT} {tp tm : Nat → Nat} {ts : Nat → Int32} {k p w : Nat} (hk : k ≤ 20) (m : Nat) : ∀ b, fpS T tp tm ts k p w m = some b → b < 20 := by
  induction m with
  | zero => intro b h; cases h
  | succ m ih => exact fm_b (pF_20 hk) ih
theorem fm_no {a c : Option Nat} : (foM a c).isNone = (a.isNone && c.isNone) := by
  cases a with
  | none => rfl
  | some i =>
    cases c with
    | none => rfl
    | some j =>
      show (if i < j then some i else some j).isNone = false
      split <;> rfl
theorem pF_no {P : Nat → Bool} {m : Nat} : (pF P (m + 1) 0).isNone = ((pF P m 0).isNone && !P m) := by
  rw [pF_app]
  cases pF P m 0 with
  | some i => rfl
  | none =>
    show (if P (0 + m) = true then some (0 + m) else none).isNone = (true && !P m)
    rw [Nat.zero_add]
    cases P m <;> rfl
theorem as_fp {T : TXT} {tp tm : Nat → Nat} {ts : Nat → Int32} {k p w : Nat} : asB T tp tm ts k p w = (fpS T tp tm ts k p w (lmN tm k)).isNone := by
  unfold asB
  generalize lmN tm k = M
  induction M with
  | zero => rfl
  | succ M ih =>
    rw [pF_no, ih]
    show _ = (foM _ _).isNone
    rw [fm_no, Bool.and_comm]
    congr 1
    unfold asP
    cases pF (nsP tp tm ts (raS T p w (M + 1)) M) k 0 <;> rfl
theorem wr_20 {o : Option Nat} (hb : ∀ b, o = some b → b < 20) : (nI 20 ≤ wr20 o) ↔ o.isNone = true := by
  cases o with
  | none => exact ⟨fun _ => rfl, fun _ => Int32.le_refl _⟩
  | some b =>
    have := hb b rfl
    show (nI 20 ≤ nI b) ↔ false = true
    rw [nI_leI (by omega) (by omega)]
    constructor
    · intro h; omega
    · intro h; cases h
theorem wr_ne {o : Option Nat} (hb : ∀ b, o = some b → b < 20) : (¬ wr20 o = nI 20) ↔ ¬ o = none := by
  cases o with
  | none => exact ⟨fun h => absurd rfl h, fun h => absurd rfl h⟩
  | some b =>
    have := hb b rfl
    refine ⟨fun _ => (fun h => by cases h), fun _ z => ?_⟩
    have : b = 20 := (nI_eq (by omega) (by omega)).mp z
    omega
theorem lm_t {tm : Nat → Nat} {k : Nat} (h : lmN tm k ≤ tm k) : nI (lmN tm (k + 1)) + (-1) = nI (tm k) := by
  rw [lm_s, if_pos (by omega), pk_m1]
theorem lm_f {tm : Nat → Nat} {k : Nat} (h : tm k < lmN tm k) : lmN tm (k + 1) = lmN tm k := by
  rw [lm_s, if_neg (by omega)]
theorem lm_le2 {M t : Nat} (hM : M ≤ 100) (ht : t ≤ 1000) : (nI t ≤ nI M + (-1)) ↔ t < M := by
  rw [← Int32.not_lt, lm_lt hM ht]
  omega
set_option maxHeartbeats 1000000 in
theorem r_last {d : Nat} {v : Nat → Nat → Int32} {w : Nat → Nat → Int64} {Q : Option Value → am_H → Prop} {T : TXT} {lv : Nat} {f : Nat → Int32} {B : Int} (hM : MI B v T lv f) {m : Nat} {tp tm : Nat → Nat} {ts : Nat → Int32} (hW : WM v (tN T) m tp tm ts) {k : Nat} (hk : k ≤ m) (hQ : Q (some (.int (nI (lmN tm k) + (-1)))) (428, 26053, KD, RF, v, w)) : am_Ca (d + 1) M_Model_lastOf [.ref 388, .int (nI k)] (428, 26053, KD, RF, v, w) Q := by
  have h8 := hM.2.2.2.2.1.1
  have hm20 := hW.2.1
  refine ca_in (k := k_Model_lastOf) (nL := 4) rfl (Nat.le_of_ble_eq_true rfl) ?_
  show am_Go am_X0 _ k_Model_lastOf 0 ([.ref 388, .int (nI k), .null, .null], [], _) _
  refine go_at (blk := b_Model_lastOf_0) rfl ?_
  simp (disch := omega) only [b_Model_lastOf_0, be_2, be_7, be_1, be_0, List.getD_cons_zero, List.getD_cons_succ, List.set_cons_zero, List.set_cons_succ, List.length_cons, List.length_nil, pk_I, pk_A, pr_A, pi_I, st_s, st_n, if_true, if_false, eq_self, d_if, d_ju, d_re, d_ca, cat0, cat1, cat2, cat3, fr_z, fr_s, cc_I, cc_A, cc_N, Nat.reduceAdd, Nat.reduceLT, Nat.reduceLeDiff, Nat.reduceEqDiff, not_true, not_false_iff, z1_0, z1_1, Bool.and_self, Bool.true_and, Bool.and_true, nI_add, pk_mul, nI_clamp, decide_true, Nat.le_refl, bI_eq, bI_z1]
  refine go_loopA (α := Int32) (fun i x => ([.ref 388, .int (nI k), .int x, .int (nI i)], [], (428, 26053, KD, RF, v, w))) (fun i x => x = nI (lmN tm i) + (-1)) (k) ?_ ?_ (-1) lm_0
  · intro i x hi x1 ih
    try dsimp only at *
    have hni : ¬ k ≤ i := by omega
    obtain ⟨_, _, e3, e4, _⟩ := hW.2.2 i (by omega)
    have hl1 : lmN tm i ≤ 100 := lm_le i (fun j hj => (hW.2.2 j (by omega)).2.2.2.1)
    have hle : (nI (tm i) ≤ x) ↔ tm i < lmN tm i := by rw [x1]; exact lm_le2 hl1 (by omega)
    refine go_at (blk := b_Model_lastOf_4) rfl ?_
    simp (disch := omega) only [b_Model_lastOf_4, be_4, be_49_3, List.getD_cons_zero, List.getD_cons_succ, List.set_cons_zero, List.set_cons_succ, List.length_cons, List.length_nil, pk_I, pk_A, pr_A, pi_I, st_s, st_n, if_true, if_false, eq_self, d_if, d_ju, d_re, d_ca, cat0, cat1, cat2, cat3, fr_z, fr_s, cc_I, cc_A, cc_N, Nat.reduceAdd, Nat.reduceLT, Nat.reduceLeDiff, Nat.reduceEqDiff, not_true, not_false_iff, z1_0, z1_1, Bool.and_self, Bool.true_and, Bool.and_true, nI_add, pk_mul, nI_clamp, decide_true, Nat.le_refl, bI_eq, bI_z1, nI_ltI, nI_leI, e3, hle, hni]
    refine go_at (blk := b_Model_lastOf_9) rfl ?_
    simp (disch := omega) only [b_Model_lastOf_9, be_6, be_34, be_4, be_38, be_49_5, kc_388, rf_388_57, ka_424, List.getD_cons_zero, List.getD_cons_succ, List.set_cons_zero, List.set_cons_succ, List.length_cons, List.length_nil, pk_I, pk_A, pr_A, pi_I, st_s, st_n, if_true, if_false, eq_self, d_if, d_ju, d_re, d_ca, cat0, cat1, cat2, cat3, fr_z, fr_s, cc_I, cc_A, cc_N, Nat.reduceAdd, Nat.reduceLT, Nat.reduceLeDiff, Nat.reduceEqDiff, not_true, not_false_iff, z1_0, z1_1, Bool.and_self, Bool.true_and, Bool.and_true, nI_add, pk_mul, nI_clamp, decide_true, Nat.le_refl, bI_eq, bI_z1, nI_ltI, nI_leI, e3, hle, hni]
    split
    · rename_i hc
      refine go_at (blk := b_Model_lastOf_26) rfl ?_
      simp (disch := omega) only [b_Model_lastOf_26, be_10, be_51, List.getD_cons_zero, List.getD_cons_succ, List.set_cons_zero, List.set_cons_succ, List.length_cons, List.length_nil, pk_I, pk_A, pr_A, pi_I, st_s, st_n, if_true, if_false, eq_self, d_if, d_ju, d_re, d_ca, cat0, cat1, cat2, cat3, fr_z, fr_s, cc_I, cc_A, cc_N, Nat.reduceAdd, Nat.reduceLT, Nat.reduceLeDiff, Nat.reduceEqDiff, not_true, not_false_iff, z1_0, z1_1, Bool.and_self, Bool.true_and, Bool.and_true, nI_add, pk_mul, nI_clamp, decide_true, Nat.le_refl, bI_eq, bI_z1, nI_ltI, nI_leI, e3, hle, hni]
      exact ih x (by rw [lm_f hc]; exact x1)
    · rename_i hc
      have e6 := lm_t (Nat.not_lt.mp hc)
      refine go_at (blk := b_Model_lastOf_19) rfl ?_
      simp (disch := omega) only [b_Model_lastOf_19, be_6, be_34, be_4, be_38, be_7, be_0, kc_388, rf_388_57, ka_424, List.getD_cons_zero, List.getD_cons_succ, List.set_cons_zero, List.set_cons_succ, List.length_cons, List.length_nil, pk_I, pk_A, pr_A, pi_I, st_s, st_n, if_true, if_false, eq_self, d_if, d_ju, d_re, d_ca, cat0, cat1, cat2, cat3, fr_z, fr_s, cc_I, cc_A, cc_N, Nat.reduceAdd, Nat.reduceLT, Nat.reduceLeDiff, Nat.reduceEqDiff, not_true, not_false_iff, z1_0, z1_1, Bool.and_self, Bool.true_and, Bool.and_true, nI_add, pk_mul, nI_clamp, decide_true, Nat.le_refl, bI_eq, bI_z1, nI_ltI, nI_leI, e3, hle, hni]
      refine go_at (blk := b_Model_lastOf_26) rfl ?_
      simp (disch := omega) only [b_Model_lastOf_26, be_10, be_51, List.getD_cons_zero, List.getD_cons_succ, List.set_cons_zero, List.set_cons_succ, List.length_cons, List.length_nil, pk_I, pk_A, pr_A, pi_I, st_s, st_n, if_true, if_false, eq_self, d_if, d_ju, d_re, d_ca, cat0, cat1, cat2, cat3, fr_z, fr_s, cc_I, cc_A, cc_N, Nat.reduceAdd, Nat.reduceLT, Nat.reduceLeDiff, Nat.reduceEqDiff, not_true, not_false_iff, z1_0, z1_1, Bool.and_self, Bool.true_and, Bool.and_true, nI_add, pk_mul, nI_clamp, decide_true, Nat.le_refl, bI_eq, bI_z1, nI_ltI, nI_leI, e3, hle, hni]
      exact ih _ e6.symm
  · intro x x1
    try dsimp only at *
    refine go_at (blk := b_Model_lastOf_4) rfl ?_
    simp (disch := omega) only [b_Model_lastOf_4, be_4, be_49_3, List.getD_cons_zero, List.getD_cons_succ, List.set_cons_zero, List.set_cons_succ, List.length_cons, List.length_nil, pk_I, pk_A, pr_A, pi_I, st_s, st_n, if_true, if_false, eq_self, d_if, d_ju, d_re, d_ca, cat0, cat1, cat2, cat3, fr_z, fr_s, cc_I, cc_A, cc_N, Nat.reduceAdd, Nat.reduceLT, Nat.reduceLeDiff, Nat.reduceEqDiff, not_true, not_false_iff, z1_0, z1_1, Bool.and_self, Bool.true_and, Bool.and_true, nI_add, pk_mul, nI_clamp, decide_true, Nat.le_refl, bI_eq, bI_z1, nI_ltI, nI_leI]
    refine go_at (blk := b_Model_lastOf_32) rfl ?_
    simp (disch := omega) only [b_Model_lastOf_32, be_4, be_54, List.getD_cons_zero, List.getD_cons_succ, List.set_cons_zero, List.set_cons_succ, List.length_cons, List.length_nil, pk_I, pk_A, pr_A, pi_I, st_s, st_n, if_true, if_false, eq_self, d_if, d_ju, d_re, d_ca, cat0, cat1, cat2, cat3, fr_z, fr_s, cc_I, cc_A, cc_N, Nat.reduceAdd, Nat.reduceLT, Nat.reduceLeDiff, Nat.reduceEqDiff, not_true, not_false_iff, z1_0, z1_1, Bool.and_self, Bool.true_and, Bool.and_true, nI_add, pk_mul, nI_clamp, decide_true, Nat.le_refl, bI_eq, bI_z1, nI_ltI, nI_leI]
    rw [← x1] at hQ
    exact hQ
set_option maxHeartbeats 1000000 in
theorem r_wrongA {d : Nat} {v : Nat → Nat → Int32} {w : Nat → Nat → Int64} {Q : Option Value → am_H → Prop} {T : TXT} {lv : Nat} {f : Nat → Int32} {B : Int} (hM : MI B v T lv f) {m : Nat} {tp tm : Nat → Nat} {ts : Nat → Int32} (hW : WM v (tN T) m tp tm ts) {k : Nat} (hk : k ≤ m) (hZ : Z50 f) (hQ : ∀ v', MF v v' → Q (some (.int (wr20 (foS T tp tm ts k (lmN tm k))))) (428, 26053, KD, RF, v', w)) : am_Ca (d + 6) M_Model_wrongAt [.ref 388, .int (-1), .int (-1), .int (nI k)] (428, 26053, KD, RF, v, w) Q := by
  have h8 := hM.2.2.2.2.1.1
  have hm20 := hW.2.1
  have hML : lmN tm k ≤ 100 := lm_le k (fun j hj => (hW.2.2 j (by omega)).2.2.2.1)
  refine ca_in (k := k_Model_wrongAt) (nL := 8) rfl (Nat.le_of_ble_eq_true rfl) ?_
  show am_Go am_X0 _ k_Model_wrongAt 0 ([.ref 388, .int (-1), .int (-1), .int (nI k), .null, .null, .null, .null], [], _) _
  refine go_at (blk := b_Model_wrongAt_0) rfl ?_
  simp (disch := omega) only [b_Model_wrongAt_0, be_6, be_57_0, kc_388, List.getD_cons_zero, List.getD_cons_succ, List.set_cons_zero, List.set_cons_succ, List.length_cons, List.length_nil, pk_I, pk_A, pr_A, pi_I, st_s, st_n, if_true, if_false, eq_self, d_if, d_ju, d_re, d_ca, cat0, cat1, cat2, cat3, fr_z, fr_s, cc_I, cc_A, cc_N, Nat.reduceAdd, Nat.reduceLT, Nat.reduceLeDiff, Nat.reduceEqDiff, not_true, not_false_iff, z1_0, z1_1, Bool.and_self, Bool.true_and, Bool.and_true, nI_add, pk_mul, nI_clamp, decide_true, Nat.le_refl, bI_eq, bI_z1]
  refine r_begins hM.1 hM.2.2.2.2.1 (fun j hj => (hM.2.2.1 j hj).trans (hZ j hj)) ?_
  intro v1 q1 r1
  refine go_at (blk := b_Model_wrongAt_4) rfl ?_
  simp (disch := omega) only [b_Model_wrongAt_4, be_6, be_4, be_57_1, kc_388, List.getD_cons_zero, List.getD_cons_succ, List.set_cons_zero, List.set_cons_succ, List.length_cons, List.length_nil, pk_I, pk_A, pr_A, pi_I, st_s, st_n, if_true, if_false, eq_self, d_if, d_ju, d_re, d_ca, cat0, cat1, cat2, cat3, fr_z, fr_s, cc_I, cc_A, cc_N, Nat.reduceAdd, Nat.reduceLT, Nat.reduceLeDiff, Nat.reduceEqDiff, not_true, not_false_iff, z1_0, z1_1, Bool.and_self, Bool.true_and, Bool.and_true, nI_add, pk_mul, nI_clamp, decide_true, Nat.le_refl, bI_eq, bI_z1]
  refine r_last (MI_f hM q1) (WM_f hW q1) hk ?_
  refine go_at (blk := b_Model_wrongAt_9) rfl ?_
  simp (disch := omega) only [b_Model_wrongAt_9, be_7, be_1, be_0, List.getD_cons_zero, List.getD_cons_succ, List.set_cons_zero, List.set_cons_succ, List.length_cons, List.length_nil, pk_I, pk_A, pr_A, pi_I, st_s, st_n, if_true, if_false, eq_self, d_if, d_ju, d_re, d_ca, cat0, cat1, cat2, cat3, fr_z, fr_s, cc_I, cc_A, cc_N, Nat.reduceAdd, Nat.reduceLT, Nat.reduceLeDiff, Nat.reduceEqDiff, not_true, not_false_iff, z1_0, z1_1, Bool.and_self, Bool.true_and, Bool.and_true, nI_add, pk_mul, nI_clamp, decide_true, Nat.le_refl, bI_eq, bI_z1]
  refine go_loopA (α := (Nat → Nat → Int32) × Value) (fun i x => ([.ref 388, .int (-1), .int (-1), .int (nI k), .int (nI (lmN tm k) + (-1)), .int (wr20 (foS T tp tm ts k i)), .int (nI i), x.2], [], (428, 26053, KD, RF, x.1, w))) (fun i x => MF v x.1 ∧ MR x.1 (itT T (-1) 0 i (bgT T)) (-1) 0 ∧ am_cc x.2 = true) (lmN tm k) ?_ ?_ (v1, .null) ⟨q1, r1, rfl⟩
  · intro i x hi ⟨x1, x2, x4⟩ ih
    try dsimp only at *
    have hnj : (nI (lmN tm k) + (-1) < nI i) ↔ False := by rw [lm_lt hML (by omega)]; exact ⟨fun z => absurd z (by omega), False.elim⟩
    have hm1 : ¬ nI i = -1 := nI_mm (by omega)
    have nx : ∀ v2, MF v v2 → MR v2 (itT T (-1) 0 i (bgT T)) (-1) 0 → am_Go am_X0 (d + 5) k_Model_wrongAt 45 ([.ref 388, .int (-1), .int (-1), .int (nI k), .int (nI (lmN tm k) + (-1)), .int (wr20 (foS T tp tm ts k i)), .int (nI i), x.2], [], (428, 26053, KD, RF, v2, w)) Q := by
      intro v2 f2 r2
      refine go_at (blk := b_Model_wrongAt_45) rfl ?_
      simp (disch := omega) only [b_Model_wrongAt_45, be_6, be_57_0, kc_388, List.getD_cons_zero, List.getD_cons_succ, List.set_cons_zero, List.set_cons_succ, List.length_cons, List.length_nil, pk_I, pk_A, pr_A, pi_I, st_s, st_n, if_true, if_false, eq_self, d_if, d_ju, d_re, d_ca, cat0, cat1, cat2, cat3, fr_z, fr_s, cc_I, cc_A, cc_N, Nat.reduceAdd, Nat.reduceLT, Nat.reduceLeDiff, Nat.reduceEqDiff, not_true, not_false_iff, z1_0, z1_1, Bool.and_self, Bool.true_and, Bool.and_true, nI_add, pk_mul, nI_clamp, decide_true, Nat.le_refl, bI_eq, bI_z1, x4]
      refine r_min (MX_f hM.1 f2) r2 ?_
      intro v3 q3 r3'
      have r3 : MR v3 (itT T (-1) 0 (i + 1) (bgT T)) (-1) 0 := r3'
      have f3 := MF_t f2 q3
      have e3 : v3 419 = (itT T (-1) 0 (i + 1) (bgT T)) := r3.1
      have hW3 := WM_f hW f3
      refine go_at (blk := b_Model_wrongAt_49) rfl ?_
      simp (disch := omega) only [b_Model_wrongAt_49, be_1, be_7, be_0, List.getD_cons_zero, List.getD_cons_succ, List.set_cons_zero, List.set_cons_succ, List.length_cons, List.length_nil, pk_I, pk_A, pr_A, pi_I, st_s, st_n, if_true, if_false, eq_self, d_if, d_ju, d_re, d_ca, cat0, cat1, cat2, cat3, fr_z, fr_s, cc_I, cc_A, cc_N, Nat.reduceAdd, Nat.reduceLT, Nat.reduceLeDiff, Nat.reduceEqDiff, not_true, not_false_iff, z1_0, z1_1, Bool.and_self, Bool.true_and, Bool.and_true, nI_add, pk_mul, nI_clamp, decide_true, Nat.le_refl, bI_eq, bI_z1, x4]
      refine go_loopA (α := Unit) (fun j u => ([.ref 388, .int (-1), .int (-1), .int (nI k), .int (nI (lmN tm k) + (-1)), .int (wr20 (inF (nsP tp tm ts (itT T (-1) 0 (i + 1) (bgT T)) i) (foS T tp tm ts k i) j)), .int (nI i), .int (nI j)], [], (428, 26053, KD, RF, v3, w))) (fun j u => True) (k) ?_ ?_ () trivial
      · intro j _ hj _ jh
        try dsimp only at *
        have hnj2 : ¬ k ≤ j := by omega
        obtain ⟨t1, t2, t3, t4, t5⟩ := hW3.2.2 j (by omega)
        have hwl := wr_le (o := (inF (nsP tp tm ts (itT T (-1) 0 (i + 1) (bgT T)) i) (foS T tp tm ts k i) j)) (j := j) (by omega) (in_b (fo_20 (by omega) i) j (by omega))
        refine go_at (blk := b_Model_wrongAt_52) rfl ?_
        simp (disch := omega) only [b_Model_wrongAt_52, be_4, be_49_3, List.getD_cons_zero, List.getD_cons_succ, List.set_cons_zero, List.set_cons_succ, List.length_cons, List.length_nil, pk_I, pk_A, pr_A, pi_I, st_s, st_n, if_true, if_false, eq_self, d_if, d_ju, d_re, d_ca, cat0, cat1, cat2, cat3, fr_z, fr_s, cc_I, cc_A, cc_N, Nat.reduceAdd, Nat.reduceLT, Nat.reduceLeDiff, Nat.reduceEqDiff, not_true, not_false_iff, z1_0, z1_1, Bool.and_self, Bool.true_and, Bool.and_true, nI_add, pk_mul, nI_clamp, decide_true, Nat.le_refl, bI_eq, bI_z1, nI_ltI, nI_leI, t1, t3, t5, e3, nI_eq, hwl, hnj2]
        refine go_at (blk := b_Model_wrongAt_58) rfl ?_
        simp (disch := omega) only [b_Model_wrongAt_58, be_6, be_34, be_4, be_38, be_49_1, kc_388, rf_388_57, ka_424, List.getD_cons_zero, List.getD_cons_succ, List.set_cons_zero, List.set_cons_succ, List.length_cons, List.length_nil, pk_I, pk_A, pr_A, pi_I, st_s, st_n, if_true, if_false, eq_self, d_if, d_ju, d_re, d_ca, cat0, cat1, cat2, cat3, fr_z, fr_s, cc_I, cc_A, cc_N, Nat.reduceAdd, Nat.reduceLT, Nat.reduceLeDiff, Nat.reduceEqDiff, not_true, not_false_iff, z1_0, z1_1, Bool.and_self, Bool.true_and, Bool.and_true, nI_add, pk_mul, nI_clamp, decide_true, Nat.le_refl, bI_eq, bI_z1, nI_ltI, nI_leI, t1, t3, t5, e3, nI_eq, hwl, hnj2]
        split
        · rename_i ha
          refine go_at (blk := b_Model_wrongAt_103) rfl ?_
          simp (disch := omega) only [b_Model_wrongAt_103, be_10, be_51, List.getD_cons_zero, List.getD_cons_succ, List.set_cons_zero, List.set_cons_succ, List.length_cons, List.length_nil, pk_I, pk_A, pr_A, pi_I, st_s, st_n, if_true, if_false, eq_self, d_if, d_ju, d_re, d_ca, cat0, cat1, cat2, cat3, fr_z, fr_s, cc_I, cc_A, cc_N, Nat.reduceAdd, Nat.reduceLT, Nat.reduceLeDiff, Nat.reduceEqDiff, not_true, not_false_iff, z1_0, z1_1, Bool.and_self, Bool.true_and, Bool.and_true, nI_add, pk_mul, nI_clamp, decide_true, Nat.le_refl, bI_eq, bI_z1, nI_ltI, nI_leI, t1, t3, t5, e3, nI_eq, hwl, hnj2]
          simp only [in_f (P := (nsP tp tm ts (itT T (-1) 0 (i + 1) (bgT T)) i)) (c := (foS T tp tm ts k i)) (Or.inl (show nsP tp tm ts (itT T (-1) 0 (i + 1) (bgT T)) i j = false by unfold nsP; rw [decide_eq_false ha]; rfl))] at jh
          exact jh () trivial
        · rename_i ha
          have ha := Decidable.not_not.mp ha
          refine go_at (blk := b_Model_wrongAt_70) rfl ?_
          simp (disch := omega) only [b_Model_wrongAt_70, be_6, be_34, be_4, be_38, be_49_0, kc_388, rf_388_48, rf_388_56, ka_423, ka_419, rf_388_58, ka_425, List.getD_cons_zero, List.getD_cons_succ, List.set_cons_zero, List.set_cons_succ, List.length_cons, List.length_nil, pk_I, pk_A, pr_A, pi_I, st_s, st_n, if_true, if_false, eq_self, d_if, d_ju, d_re, d_ca, cat0, cat1, cat2, cat3, fr_z, fr_s, cc_I, cc_A, cc_N, Nat.reduceAdd, Nat.reduceLT, Nat.reduceLeDiff, Nat.reduceEqDiff, not_true, not_false_iff, z1_0, z1_1, Bool.and_self, Bool.true_and, Bool.and_true, nI_add, pk_mul, nI_clamp, decide_true, Nat.le_refl, bI_eq, bI_z1, nI_ltI, nI_leI, t1, t3, t5, e3, nI_eq, hwl, hnj2]
          split
          · rename_i hb
            refine go_at (blk := b_Model_wrongAt_103) rfl ?_
            simp (disch := omega) only [b_Model_wrongAt_103, be_10, be_51, List.getD_cons_zero, List.getD_cons_succ, List.set_cons_zero, List.set_cons_succ, List.length_cons, List.length_nil, pk_I, pk_A, pr_A, pi_I, st_s, st_n, if_true, if_false, eq_self, d_if, d_ju, d_re, d_ca, cat0, cat1, cat2, cat3, fr_z, fr_s, cc_I, cc_A, cc_N, Nat.reduceAdd, Nat.reduceLT, Nat.reduceLeDiff, Nat.reduceEqDiff, not_true, not_false_iff, z1_0, z1_1, Bool.and_self, Bool.true_and, Bool.and_true, nI_add, pk_mul, nI_clamp, decide_true, Nat.le_refl, bI_eq, bI_z1, nI_ltI, nI_leI, t1, t3, t5, e3, nI_eq, hwl, hnj2]
            simp only [in_f (P := (nsP tp tm ts (itT T (-1) 0 (i + 1) (bgT T)) i)) (c := (foS T tp tm ts k i)) (Or.inl (show nsP tp tm ts (itT T (-1) 0 (i + 1) (bgT T)) i j = false by unfold nsP; rw [decide_eq_true hb]; simp))] at jh
            exact jh () trivial
          · rename_i hb
            have hP : nsP tp tm ts (itT T (-1) 0 (i + 1) (bgT T)) i j = true := by unfold nsP; rw [decide_eq_true ha, decide_eq_false hb]; rfl
            refine go_at (blk := b_Model_wrongAt_92) rfl ?_
            simp (disch := omega) only [b_Model_wrongAt_92, be_4, be_49_3, List.getD_cons_zero, List.getD_cons_succ, List.set_cons_zero, List.set_cons_succ, List.length_cons, List.length_nil, pk_I, pk_A, pr_A, pi_I, st_s, st_n, if_true, if_false, eq_self, d_if, d_ju, d_re, d_ca, cat0, cat1, cat2, cat3, fr_z, fr_s, cc_I, cc_A, cc_N, Nat.reduceAdd, Nat.reduceLT, Nat.reduceLeDiff, Nat.reduceEqDiff, not_true, not_false_iff, z1_0, z1_1, Bool.and_self, Bool.true_and, Bool.and_true, nI_add, pk_mul, nI_clamp, decide_true, Nat.le_refl, bI_eq, bI_z1, nI_ltI, nI_leI, t1, t3, t5, e3, nI_eq, hwl, hnj2]
            split
            · rename_i hc
              refine go_at (blk := b_Model_wrongAt_103) rfl ?_
              simp (disch := omega) only [b_Model_wrongAt_103, be_10, be_51, List.getD_cons_zero, List.getD_cons_succ, List.set_cons_zero, List.set_cons_succ, List.length_cons, List.length_nil, pk_I, pk_A, pr_A, pi_I, st_s, st_n, if_true, if_false, eq_self, d_if, d_ju, d_re, d_ca, cat0, cat1, cat2, cat3, fr_z, fr_s, cc_I, cc_A, cc_N, Nat.reduceAdd, Nat.reduceLT, Nat.reduceLeDiff, Nat.reduceEqDiff, not_true, not_false_iff, z1_0, z1_1, Bool.and_self, Bool.true_and, Bool.and_true, nI_add, pk_mul, nI_clamp, decide_true, Nat.le_refl, bI_eq, bI_z1, nI_ltI, nI_leI, t1, t3, t5, e3, nI_eq, hwl, hnj2]
              simp only [in_f (P := (nsP tp tm ts (itT T (-1) 0 (i + 1) (bgT T)) i)) (c := (foS T tp tm ts k i)) (Or.inr hc)] at jh
              exact jh () trivial
            · rename_i hc
              have hc : ifB (inF (nsP tp tm ts (itT T (-1) 0 (i + 1) (bgT T)) i) (foS T tp tm ts k i) j) j = true := by simpa using hc
              have hx : inF (nsP tp tm ts (itT T (-1) 0 (i + 1) (bgT T)) i) (foS T tp tm ts k i) (j + 1) = some j := in_t hP hc
              simp only [hx] at jh
              refine go_at (blk := b_Model_wrongAt_99) rfl ?_
              simp (disch := omega) only [b_Model_wrongAt_99, be_4, be_7, be_0, List.getD_cons_zero, List.getD_cons_succ, List.set_cons_zero, List.set_cons_succ, List.length_cons, List.length_nil, pk_I, pk_A, pr_A, pi_I, st_s, st_n, if_true, if_false, eq_self, d_if, d_ju, d_re, d_ca, cat0, cat1, cat2, cat3, fr_z, fr_s, cc_I, cc_A, cc_N, Nat.reduceAdd, Nat.reduceLT, Nat.reduceLeDiff, Nat.reduceEqDiff, not_true, not_false_iff, z1_0, z1_1, Bool.and_self, Bool.true_and, Bool.and_true, nI_add, pk_mul, nI_clamp, decide_true, Nat.le_refl, bI_eq, bI_z1, nI_ltI, nI_leI, t1, t3, t5, e3, nI_eq, hwl, hnj2]
              refine go_at (blk := b_Model_wrongAt_103) rfl ?_
              simp (disch := omega) only [b_Model_wrongAt_103, be_10, be_51, List.getD_cons_zero, List.getD_cons_succ, List.set_cons_zero, List.set_cons_succ, List.length_cons, List.length_nil, pk_I, pk_A, pr_A, pi_I, st_s, st_n, if_true, if_false, eq_self, d_if, d_ju, d_re, d_ca, cat0, cat1, cat2, cat3, fr_z, fr_s, cc_I, cc_A, cc_N, Nat.reduceAdd, Nat.reduceLT, Nat.reduceLeDiff, Nat.reduceEqDiff, not_true, not_false_iff, z1_0, z1_1, Bool.and_self, Bool.true_and, Bool.and_true, nI_add, pk_mul, nI_clamp, decide_true, Nat.le_refl, bI_eq, bI_z1, nI_ltI, nI_leI, t1, t3, t5, e3, nI_eq, hwl, hnj2]
              exact jh () trivial
      · intro _ _
        try dsimp only at *
        refine go_at (blk := b_Model_wrongAt_52) rfl ?_
        simp (disch := omega) only [b_Model_wrongAt_52, be_4, be_49_3, List.getD_cons_zero, List.getD_cons_succ, List.set_cons_zero, List.set_cons_succ, List.length_cons, List.length_nil, pk_I, pk_A, pr_A, pi_I, st_s, st_n, if_true, if_false, eq_self, d_if, d_ju, d_re, d_ca, cat0, cat1, cat2, cat3, fr_z, fr_s, cc_I, cc_A, cc_N, Nat.reduceAdd, Nat.reduceLT, Nat.reduceLeDiff, Nat.reduceEqDiff, not_true, not_false_iff, z1_0, z1_1, Bool.and_self, Bool.true_and, Bool.and_true, nI_add, pk_mul, nI_clamp, decide_true, Nat.le_refl, bI_eq, bI_z1, nI_ltI, nI_leI]
        refine go_at (blk := b_Model_wrongAt_109) rfl ?_
        simp (disch := omega) only [b_Model_wrongAt_109, be_10, be_51, List.getD_cons_zero, List.getD_cons_succ, List.set_cons_zero, List.set_cons_succ, List.length_cons, List.length_nil, pk_I, pk_A, pr_A, pi_I, st_s, st_n, if_true, if_false, eq_self, d_if, d_ju, d_re, d_ca, cat0, cat1, cat2, cat3, fr_z, fr_s, cc_I, cc_A, cc_N, Nat.reduceAdd, Nat.reduceLT, Nat.reduceLeDiff, Nat.reduceEqDiff, not_true, not_false_iff, z1_0, z1_1, Bool.and_self, Bool.true_and, Bool.and_true, nI_add, pk_mul, nI_clamp, decide_true, Nat.le_refl, bI_eq, bI_z1, nI_ltI, nI_leI]
        have hx : inF (nsP tp tm ts (itT T (-1) 0 (i + 1) (bgT T)) i) (foS T tp tm ts k i) k = (foS T tp tm ts k (i + 1)) := in_eq k
        rw [hx]
        exact ih (v3, .int _) ⟨f3, r3, rfl⟩
    refine go_at (blk := b_Model_wrongAt_18) rfl ?_
    simp (disch := omega) only [b_Model_wrongAt_18, be_4, be_49_4, List.getD_cons_zero, List.getD_cons_succ, List.set_cons_zero, List.set_cons_succ, List.length_cons, List.length_nil, pk_I, pk_A, pr_A, pi_I, st_s, st_n, if_true, if_false, eq_self, d_if, d_ju, d_re, d_ca, cat0, cat1, cat2, cat3, fr_z, fr_s, cc_I, cc_A, cc_N, Nat.reduceAdd, Nat.reduceLT, Nat.reduceLeDiff, Nat.reduceEqDiff, not_true, not_false_iff, z1_0, z1_1, Bool.and_self, Bool.true_and, Bool.and_true, nI_add, pk_mul, nI_clamp, decide_true, Nat.le_refl, bI_eq, bI_z1, nI_ltI, nI_leI, hnj, x4, hm1]
    refine go_at (blk := b_Model_wrongAt_25) rfl ?_
    simp (disch := omega) only [b_Model_wrongAt_25, be_4, be_49_1, List.getD_cons_zero, List.getD_cons_succ, List.set_cons_zero, List.set_cons_succ, List.length_cons, List.length_nil, pk_I, pk_A, pr_A, pi_I, st_s, st_n, if_true, if_false, eq_self, d_if, d_ju, d_re, d_ca, cat0, cat1, cat2, cat3, fr_z, fr_s, cc_I, cc_A, cc_N, Nat.reduceAdd, Nat.reduceLT, Nat.reduceLeDiff, Nat.reduceEqDiff, not_true, not_false_iff, z1_0, z1_1, Bool.and_self, Bool.true_and, Bool.and_true, nI_add, pk_mul, nI_clamp, decide_true, Nat.le_refl, bI_eq, bI_z1, nI_ltI, nI_leI, hnj, x4, hm1]
    exact nx x.1 x1 x2
  · intro x ⟨x1, x2, x4⟩
    try dsimp only at *
    have hne : (nI (lmN tm k) + (-1) < nI (lmN tm k)) ↔ True := by rw [lm_lt hML (by omega)]; exact ⟨fun _ => trivial, fun _ => Nat.le_refl _⟩
    refine go_at (blk := b_Model_wrongAt_18) rfl ?_
    simp (disch := omega) only [b_Model_wrongAt_18, be_4, be_49_4, List.getD_cons_zero, List.getD_cons_succ, List.set_cons_zero, List.set_cons_succ, List.length_cons, List.length_nil, pk_I, pk_A, pr_A, pi_I, st_s, st_n, if_true, if_false, eq_self, d_if, d_ju, d_re, d_ca, cat0, cat1, cat2, cat3, fr_z, fr_s, cc_I, cc_A, cc_N, Nat.reduceAdd, Nat.reduceLT, Nat.reduceLeDiff, Nat.reduceEqDiff, not_true, not_false_iff, z1_0, z1_1, Bool.and_self, Bool.true_and, Bool.and_true, nI_add, pk_mul, nI_clamp, decide_true, Nat.le_refl, bI_eq, bI_z1, nI_ltI, nI_leI, hne]
    refine go_at (blk := b_Model_wrongAt_115) rfl ?_
    simp (disch := omega) only [b_Model_wrongAt_115, be_4, be_54, List.getD_cons_zero, List.getD_cons_succ, List.set_cons_zero, List.set_cons_succ, List.length_cons, List.length_nil, pk_I, pk_A, pr_A, pi_I, st_s, st_n, if_true, if_false, eq_self, d_if, d_ju, d_re, d_ca, cat0, cat1, cat2, cat3, fr_z, fr_s, cc_I, cc_A, cc_N, Nat.reduceAdd, Nat.reduceLT, Nat.reduceLeDiff, Nat.reduceEqDiff, not_true, not_false_iff, z1_0, z1_1, Bool.and_self, Bool.true_and, Bool.and_true, nI_add, pk_mul, nI_clamp, decide_true, Nat.le_refl, bI_eq, bI_z1, nI_ltI, nI_leI, hne]
    exact hQ x.1 x1
set_option maxHeartbeats 1000000 in
theorem r_wrongB {d : Nat} {v : Nat → Nat → Int32} {w : Nat → Nat → Int64} {Q : Option Value → am_H → Prop} {T : TXT} {lv : Nat} {f : Nat → Int32} {B : Int} (hM : MI B v T lv f) {m : Nat} {tp tm : Nat → Nat} {ts : Nat → Int32} (hW : WM v (tN T) m tp tm ts) {k : Nat} (hk : k ≤ m) {p w2 : Nat} (hp : p < tN T) (hw2 : w2 ≤ 100) (hZ : Z50 f) (hQ : ∀ v', MF v v' → Q (some (.int (wr20 (fpS T tp tm ts k p w2 (lmN tm k))))) (428, 26053, KD, RF, v', w)) : am_Ca (d + 6) M_Model_wrongAt [.ref 388, .int (nI p), .int (nI w2), .int (nI k)] (428, 26053, KD, RF, v, w) Q := by
  have h8 := hM.2.2.2.2.1.1
  have hm20 := hW.2.1
  have hML : lmN tm k ≤ 100 := lm_le k (fun j hj => (hW.2.2 j (by omega)).2.2.2.1)
  refine ca_in (k := k_Model_wrongAt) (nL := 8) rfl (Nat.le_of_ble_eq_true rfl) ?_
  show am_Go am_X0 _ k_Model_wrongAt 0 ([.ref 388, .int (nI p), .int (nI w2), .int (nI k), .null, .null, .null, .null], [], _) _
  refine go_at (blk := b_Model_wrongAt_0) rfl ?_
  simp (disch := omega) only [b_Model_wrongAt_0, be_6, be_57_0, kc_388, List.getD_cons_zero, List.getD_cons_succ, List.set_cons_zero, List.set_cons_succ, List.length_cons, List.length_nil, pk_I, pk_A, pr_A, pi_I, st_s, st_n, if_true, if_false, eq_self, d_if, d_ju, d_re, d_ca, cat0, cat1, cat2, cat3, fr_z, fr_s, cc_I, cc_A, cc_N, Nat.reduceAdd, Nat.reduceLT, Nat.reduceLeDiff, Nat.reduceEqDiff, not_true, not_false_iff, z1_0, z1_1, Bool.and_self, Bool.true_and, Bool.and_true, nI_add, pk_mul, nI_clamp, decide_true, Nat.le_refl, bI_eq, bI_z1]
  refine r_begins hM.1 hM.2.2.2.2.1 (fun j hj => (hM.2.2.1 j hj).trans (hZ j hj)) ?_
  intro v1 q1 r1
  refine go_at (blk := b_Model_wrongAt_4) rfl ?_
  simp (disch := omega) only [b_Model_wrongAt_4, be_6, be_4, be_57_1, kc_388, List.getD_cons_zero, List.getD_cons_succ, List.set_cons_zero, List.set_cons_succ, List.length_cons, List.length_nil, pk_I, pk_A, pr_A, pi_I, st_s, st_n, if_true, if_false, eq_self, d_if, d_ju, d_re, d_ca, cat0, cat1, cat2, cat3, fr_z, fr_s, cc_I, cc_A, cc_N, Nat.reduceAdd, Nat.reduceLT, Nat.reduceLeDiff, Nat.reduceEqDiff, not_true, not_false_iff, z1_0, z1_1, Bool.and_self, Bool.true_and, Bool.and_true, nI_add, pk_mul, nI_clamp, decide_true, Nat.le_refl, bI_eq, bI_z1]
  refine r_last (MI_f hM q1) (WM_f hW q1) hk ?_
  refine go_at (blk := b_Model_wrongAt_9) rfl ?_
  simp (disch := omega) only [b_Model_wrongAt_9, be_7, be_1, be_0, List.getD_cons_zero, List.getD_cons_succ, List.set_cons_zero, List.set_cons_succ, List.length_cons, List.length_nil, pk_I, pk_A, pr_A, pi_I, st_s, st_n, if_true, if_false, eq_self, d_if, d_ju, d_re, d_ca, cat0, cat1, cat2, cat3, fr_z, fr_s, cc_I, cc_A, cc_N, Nat.reduceAdd, Nat.reduceLT, Nat.reduceLeDiff, Nat.reduceEqDiff, not_true, not_false_iff, z1_0, z1_1, Bool.and_self, Bool.true_and, Bool.and_true, nI_add, pk_mul, nI_clamp, decide_true, Nat.le_refl, bI_eq, bI_z1]
  refine go_loopA (α := (Nat → Nat → Int32) × Value) (fun i x => ([.ref 388, .int (nI p), .int (nI w2), .int (nI k), .int (nI (lmN tm k) + (-1)), .int (wr20 (fpS T tp tm ts k p w2 i)), .int (nI i), x.2], [], (428, 26053, KD, RF, x.1, w))) (fun i x => MF v x.1 ∧ MR x.1 (raS T p w2 i) (-1) 0 ∧ am_cc x.2 = true) (lmN tm k) ?_ ?_ (v1, .null) ⟨q1, r1, rfl⟩
  · intro i x hi ⟨x1, x2, x4⟩ ih
    try dsimp only at *
    have hnj : (nI (lmN tm k) + (-1) < nI i) ↔ False := by rw [lm_lt hML (by omega)]; exact ⟨fun z => absurd z (by omega), False.elim⟩
    have hp0 := nn_lt (i := p) (by omega)
    have nx : ∀ v2, MF v v2 → MR v2 (raR p w2 i (raS T p w2 i)) (-1) 0 → am_Go am_X0 (d + 5) k_Model_wrongAt 45 ([.ref 388, .int (nI p), .int (nI w2), .int (nI k), .int (nI (lmN tm k) + (-1)), .int (wr20 (fpS T tp tm ts k p w2 i)), .int (nI i), x.2], [], (428, 26053, KD, RF, v2, w)) Q := by
      intro v2 f2 r2
      refine go_at (blk := b_Model_wrongAt_45) rfl ?_
      simp (disch := omega) only [b_Model_wrongAt_45, be_6, be_57_0, kc_388, List.getD_cons_zero, List.getD_cons_succ, List.set_cons_zero, List.set_cons_succ, List.length_cons, List.length_nil, pk_I, pk_A, pr_A, pi_I, st_s, st_n, if_true, if_false, eq_self, d_if, d_ju, d_re, d_ca, cat0, cat1, cat2, cat3, fr_z, fr_s, cc_I, cc_A, cc_N, Nat.reduceAdd, Nat.reduceLT, Nat.reduceLeDiff, Nat.reduceEqDiff, not_true, not_false_iff, z1_0, z1_1, Bool.and_self, Bool.true_and, Bool.and_true, nI_add, pk_mul, nI_clamp, decide_true, Nat.le_refl, bI_eq, bI_z1, x4]
      refine r_min (MX_f hM.1 f2) r2 ?_
      intro v3 q3 r3'
      have r3 : MR v3 (raS T p w2 (i + 1)) (-1) 0 := r3'
      have f3 := MF_t f2 q3
      have e3 : v3 419 = (raS T p w2 (i + 1)) := r3.1
      have hW3 := WM_f hW f3
      refine go_at (blk := b_Model_wrongAt_49) rfl ?_
      simp (disch := omega) only [b_Model_wrongAt_49, be_1, be_7, be_0, List.getD_cons_zero, List.getD_cons_succ, List.set_cons_zero, List.set_cons_succ, List.length_cons, List.length_nil, pk_I, pk_A, pr_A, pi_I, st_s, st_n, if_true, if_false, eq_self, d_if, d_ju, d_re, d_ca, cat0, cat1, cat2, cat3, fr_z, fr_s, cc_I, cc_A, cc_N, Nat.reduceAdd, Nat.reduceLT, Nat.reduceLeDiff, Nat.reduceEqDiff, not_true, not_false_iff, z1_0, z1_1, Bool.and_self, Bool.true_and, Bool.and_true, nI_add, pk_mul, nI_clamp, decide_true, Nat.le_refl, bI_eq, bI_z1, x4]
      refine go_loopA (α := Unit) (fun j u => ([.ref 388, .int (nI p), .int (nI w2), .int (nI k), .int (nI (lmN tm k) + (-1)), .int (wr20 (inF (nsP tp tm ts (raS T p w2 (i + 1)) i) (fpS T tp tm ts k p w2 i) j)), .int (nI i), .int (nI j)], [], (428, 26053, KD, RF, v3, w))) (fun j u => True) (k) ?_ ?_ () trivial
      · intro j _ hj _ jh
        try dsimp only at *
        have hnj2 : ¬ k ≤ j := by omega
        obtain ⟨t1, t2, t3, t4, t5⟩ := hW3.2.2 j (by omega)
        have hwl := wr_le (o := (inF (nsP tp tm ts (raS T p w2 (i + 1)) i) (fpS T tp tm ts k p w2 i) j)) (j := j) (by omega) (in_b (fp_20 (by omega) i) j (by omega))
        refine go_at (blk := b_Model_wrongAt_52) rfl ?_
        simp (disch := omega) only [b_Model_wrongAt_52, be_4, be_49_3, List.getD_cons_zero, List.getD_cons_succ, List.set_cons_zero, List.set_cons_succ, List.length_cons, List.length_nil, pk_I, pk_A, pr_A, pi_I, st_s, st_n, if_true, if_false, eq_self, d_if, d_ju, d_re, d_ca, cat0, cat1, cat2, cat3, fr_z, fr_s, cc_I, cc_A, cc_N, Nat.reduceAdd, Nat.reduceLT, Nat.reduceLeDiff, Nat.reduceEqDiff, not_true, not_false_iff, z1_0, z1_1, Bool.and_self, Bool.true_and, Bool.and_true, nI_add, pk_mul, nI_clamp, decide_true, Nat.le_refl, bI_eq, bI_z1, nI_ltI, nI_leI, t1, t3, t5, e3, nI_eq, hwl, hnj2]
        refine go_at (blk := b_Model_wrongAt_58) rfl ?_
        simp (disch := omega) only [b_Model_wrongAt_58, be_6, be_34, be_4, be_38, be_49_1, kc_388, rf_388_57, ka_424, List.getD_cons_zero, List.getD_cons_succ, List.set_cons_zero, List.set_cons_succ, List.length_cons, List.length_nil, pk_I, pk_A, pr_A, pi_I, st_s, st_n, if_true, if_false, eq_self, d_if, d_ju, d_re, d_ca, cat0, cat1, cat2, cat3, fr_z, fr_s, cc_I, cc_A, cc_N, Nat.reduceAdd, Nat.reduceLT, Nat.reduceLeDiff, Nat.reduceEqDiff, not_true, not_false_iff, z1_0, z1_1, Bool.and_self, Bool.true_and, Bool.and_true, nI_add, pk_mul, nI_clamp, decide_true, Nat.le_refl, bI_eq, bI_z1, nI_ltI, nI_leI, t1, t3, t5, e3, nI_eq, hwl, hnj2]
        split
        · rename_i ha
          refine go_at (blk := b_Model_wrongAt_103) rfl ?_
          simp (disch := omega) only [b_Model_wrongAt_103, be_10, be_51, List.getD_cons_zero, List.getD_cons_succ, List.set_cons_zero, List.set_cons_succ, List.length_cons, List.length_nil, pk_I, pk_A, pr_A, pi_I, st_s, st_n, if_true, if_false, eq_self, d_if, d_ju, d_re, d_ca, cat0, cat1, cat2, cat3, fr_z, fr_s, cc_I, cc_A, cc_N, Nat.reduceAdd, Nat.reduceLT, Nat.reduceLeDiff, Nat.reduceEqDiff, not_true, not_false_iff, z1_0, z1_1, Bool.and_self, Bool.true_and, Bool.and_true, nI_add, pk_mul, nI_clamp, decide_true, Nat.le_refl, bI_eq, bI_z1, nI_ltI, nI_leI, t1, t3, t5, e3, nI_eq, hwl, hnj2]
          simp only [in_f (P := (nsP tp tm ts (raS T p w2 (i + 1)) i)) (c := (fpS T tp tm ts k p w2 i)) (Or.inl (show nsP tp tm ts (raS T p w2 (i + 1)) i j = false by unfold nsP; rw [decide_eq_false ha]; rfl))] at jh
          exact jh () trivial
        · rename_i ha
          have ha := Decidable.not_not.mp ha
          refine go_at (blk := b_Model_wrongAt_70) rfl ?_
          simp (disch := omega) only [b_Model_wrongAt_70, be_6, be_34, be_4, be_38, be_49_0, kc_388, rf_388_48, rf_388_56, ka_423, ka_419, rf_388_58, ka_425, List.getD_cons_zero, List.getD_cons_succ, List.set_cons_zero, List.set_cons_succ, List.length_cons, List.length_nil, pk_I, pk_A, pr_A, pi_I, st_s, st_n, if_true, if_false, eq_self, d_if, d_ju, d_re, d_ca, cat0, cat1, cat2, cat3, fr_z, fr_s, cc_I, cc_A, cc_N, Nat.reduceAdd, Nat.reduceLT, Nat.reduceLeDiff, Nat.reduceEqDiff, not_true, not_false_iff, z1_0, z1_1, Bool.and_self, Bool.true_and, Bool.and_true, nI_add, pk_mul, nI_clamp, decide_true, Nat.le_refl, bI_eq, bI_z1, nI_ltI, nI_leI, t1, t3, t5, e3, nI_eq, hwl, hnj2]
          split
          · rename_i hb
            refine go_at (blk := b_Model_wrongAt_103) rfl ?_
            simp (disch := omega) only [b_Model_wrongAt_103, be_10, be_51, List.getD_cons_zero, List.getD_cons_succ, List.set_cons_zero, List.set_cons_succ, List.length_cons, List.length_nil, pk_I, pk_A, pr_A, pi_I, st_s, st_n, if_true, if_false, eq_self, d_if, d_ju, d_re, d_ca, cat0, cat1, cat2, cat3, fr_z, fr_s, cc_I, cc_A, cc_N, Nat.reduceAdd, Nat.reduceLT, Nat.reduceLeDiff, Nat.reduceEqDiff, not_true, not_false_iff, z1_0, z1_1, Bool.and_self, Bool.true_and, Bool.and_true, nI_add, pk_mul, nI_clamp, decide_true, Nat.le_refl, bI_eq, bI_z1, nI_ltI, nI_leI, t1, t3, t5, e3, nI_eq, hwl, hnj2]
            simp only [in_f (P := (nsP tp tm ts (raS T p w2 (i + 1)) i)) (c := (fpS T tp tm ts k p w2 i)) (Or.inl (show nsP tp tm ts (raS T p w2 (i + 1)) i j = false by unfold nsP; rw [decide_eq_true hb]; simp))] at jh
            exact jh () trivial
          · rename_i hb
            have hP : nsP tp tm ts (raS T p w2 (i + 1)) i j = true := by unfold nsP; rw [decide_eq_true ha, decide_eq_false hb]; rfl
            refine go_at (blk := b_Model_wrongAt_92) rfl ?_
            simp (disch := omega) only [b_Model_wrongAt_92, be_4, be_49_3, List.getD_cons_zero, List.getD_cons_succ, List.set_cons_zero, List.set_cons_succ, List.length_cons, List.length_nil, pk_I, pk_A, pr_A, pi_I, st_s, st_n, if_true, if_false, eq_self, d_if, d_ju, d_re, d_ca, cat0, cat1, cat2, cat3, fr_z, fr_s, cc_I, cc_A, cc_N, Nat.reduceAdd, Nat.reduceLT, Nat.reduceLeDiff, Nat.reduceEqDiff, not_true, not_false_iff, z1_0, z1_1, Bool.and_self, Bool.true_and, Bool.and_true, nI_add, pk_mul, nI_clamp, decide_true, Nat.le_refl, bI_eq, bI_z1, nI_ltI, nI_leI, t1, t3, t5, e3, nI_eq, hwl, hnj2]
            split
            · rename_i hc
              refine go_at (blk := b_Model_wrongAt_103) rfl ?_
              simp (disch := omega) only [b_Model_wrongAt_103, be_10, be_51, List.getD_cons_zero, List.getD_cons_succ, List.set_cons_zero, List.set_cons_succ, List.length_cons, List.length_nil, pk_I, pk_A, pr_A, pi_I, st_s, st_n, if_true, if_false, eq_self, d_if, d_ju, d_re, d_ca, cat0, cat1, cat2, cat3, fr_z, fr_s, cc_I, cc_A, cc_N, Nat.reduceAdd, Nat.reduceLT, Nat.reduceLeDiff, Nat.reduceEqDiff, not_true, not_false_iff, z1_0, z1_1, Bool.and_self, Bool.true_and, Bool.and_true, nI_add, pk_mul, nI_clamp, decide_true, Nat.le_refl, bI_eq, bI_z1, nI_ltI, nI_leI, t1, t3, t5, e3, nI_eq, hwl, hnj2]
              simp only [in_f (P := (nsP tp tm ts (raS T p w2 (i + 1)) i)) (c := (fpS T tp tm ts k p w2 i)) (Or.inr hc)] at jh
              exact jh () trivial
            · rename_i hc
              have hc : ifB (inF (nsP tp tm ts (raS T p w2 (i + 1)) i) (fpS T tp tm ts k p w2 i) j) j = true := by simpa using hc
              have hx : inF (nsP tp tm ts (raS T p w2 (i + 1)) i) (fpS T tp tm ts k p w2 i) (j + 1) = some j := in_t hP hc
              simp only [hx] at jh
              refine go_at (blk := b_Model_wrongAt_99) rfl ?_
              simp (disch := omega) only [b_Model_wrongAt_99, be_4, be_7, be_0, List.getD_cons_zero, List.getD_cons_succ, List.set_cons_zero, List.set_cons_succ, List.length_cons, List.length_nil, pk_I, pk_A, pr_A, pi_I, st_s, st_n, if_true, if_false, eq_self, d_if, d_ju, d_re, d_ca, cat0, cat1, cat2, cat3, fr_z, fr_s, cc_I, cc_A, cc_N, Nat.reduceAdd, Nat.reduceLT, Nat.reduceLeDiff, Nat.reduceEqDiff, not_true, not_false_iff, z1_0, z1_1, Bool.and_self, Bool.true_and, Bool.and_true, nI_add, pk_mul, nI_clamp, decide_true, Nat.le_refl, bI_eq, bI_z1, nI_ltI, nI_leI, t1, t3, t5, e3, nI_eq, hwl, hnj2]
              refine go_at (blk := b_Model_wrongAt_103) rfl ?_
              simp (disch := omega) only [b_Model_wrongAt_103, be_10, be_51, List.getD_cons_zero, List.getD_cons_succ, List.set_cons_zero, List.set_cons_succ, List.length_cons, List.length_nil, pk_I, pk_A, pr_A, pi_I, st_s, st_n, if_true, if_false, eq_self, d_if, d_ju, d_re, d_ca, cat0, cat1, cat2, cat3, fr_z, fr_s, cc_I, cc_A, cc_N, Nat.reduceAdd, Nat.reduceLT, Nat.reduceLeDiff, Nat.reduceEqDiff, not_true, not_false_iff, z1_0, z1_1, Bool.and_self, Bool.true_and, Bool.and_true, nI_add, pk_mul, nI_clamp, decide_true, Nat.le_refl, bI_eq, bI_z1, nI_ltI, nI_leI, t1, t3, t5, e3, nI_eq, hwl, hnj2]
              exact jh () trivial
      · intro _ _
        try dsimp only at *
        refine go_at (blk := b_Model_wrongAt_52) rfl ?_
        simp (disch := omega) only [b_Model_wrongAt_52, be_4, be_49_3, List.getD_cons_zero, List.getD_cons_succ, List.set_cons_zero, List.set_cons_succ, List.length_cons, List.length_nil, pk_I, pk_A, pr_A, pi_I, st_s, st_n, if_true, if_false, eq_self, d_if, d_ju, d_re, d_ca, cat0, cat1, cat2, cat3, fr_z, fr_s, cc_I, cc_A, cc_N, Nat.reduceAdd, Nat.reduceLT, Nat.reduceLeDiff, Nat.reduceEqDiff, not_true, not_false_iff, z1_0, z1_1, Bool.and_self, Bool.true_and, Bool.and_true, nI_add, pk_mul, nI_clamp, decide_true, Nat.le_refl, bI_eq, bI_z1, nI_ltI, nI_leI]
        refine go_at (blk := b_Model_wrongAt_109) rfl ?_
        simp (disch := omega) only [b_Model_wrongAt_109, be_10, be_51, List.getD_cons_zero, List.getD_cons_succ, List.set_cons_zero, List.set_cons_succ, List.length_cons, List.length_nil, pk_I, pk_A, pr_A, pi_I, st_s, st_n, if_true, if_false, eq_self, d_if, d_ju, d_re, d_ca, cat0, cat1, cat2, cat3, fr_z, fr_s, cc_I, cc_A, cc_N, Nat.reduceAdd, Nat.reduceLT, Nat.reduceLeDiff, Nat.reduceEqDiff, not_true, not_false_iff, z1_0, z1_1, Bool.and_self, Bool.true_and, Bool.and_true, nI_add, pk_mul, nI_clamp, decide_true, Nat.le_refl, bI_eq, bI_z1, nI_ltI, nI_leI]
        have hx : inF (nsP tp tm ts (raS T p w2 (i + 1)) i) (fpS T tp tm ts k p w2 i) k = (fpS T tp tm ts k p w2 (i + 1)) := in_eq k
        rw [hx]
        exact ih (v3, .int _) ⟨f3, r3, rfl⟩
    refine go_at (blk := b_Model_wrongAt_18) rfl ?_
    simp (disch := omega) only [b_Model_wrongAt_18, be_4, be_49_4, List.getD_cons_zero, List.getD_cons_succ, List.set_cons_zero, List.set_cons_succ, List.length_cons, List.length_nil, pk_I, pk_A, pr_A, pi_I, st_s, st_n, if_true, if_false, eq_self, d_if, d_ju, d_re, d_ca, cat0, cat1, cat2, cat3, fr_z, fr_s, cc_I, cc_A, cc_N, Nat.reduceAdd, Nat.reduceLT, Nat.reduceLeDiff, Nat.reduceEqDiff, not_true, not_false_iff, z1_0, z1_1, Bool.and_self, Bool.true_and, Bool.and_true, nI_add, pk_mul, nI_clamp, decide_true, Nat.le_refl, bI_eq, bI_z1, nI_ltI, nI_leI, hnj, x4, hp0]
    refine go_at (blk := b_Model_wrongAt_25) rfl ?_
    simp (disch := omega) only [b_Model_wrongAt_25, be_4, be_49_1, List.getD_cons_zero, List.getD_cons_succ, List.set_cons_zero, List.set_cons_succ, List.length_cons, List.length_nil, pk_I, pk_A, pr_A, pi_I, st_s, st_n, if_true, if_false, eq_self, d_if, d_ju, d_re, d_ca, cat0, cat1, cat2, cat3, fr_z, fr_s, cc_I, cc_A, cc_N, Nat.reduceAdd, Nat.reduceLT, Nat.reduceLeDiff, Nat.reduceEqDiff, not_true, not_false_iff, z1_0, z1_1, Bool.and_self, Bool.true_and, Bool.and_true, nI_add, pk_mul, nI_clamp, decide_true, Nat.le_refl, bI_eq, bI_z1, nI_ltI, nI_leI, hnj, x4, hp0]
    split
    · rename_i hw
      exact nx x.1 x1 (by rw [show (raR p w2 i (raS T p w2 i)) = raS T p w2 i from if_neg (fun z => hw (by rw [z]))]; exact x2)
    · rename_i hw
      have hw : i = w2 := (nI_eq (by omega) (by omega)).mp (Decidable.not_not.mp hw)
      refine go_at (blk := b_Model_wrongAt_31) rfl ?_
      simp (disch := omega) only [b_Model_wrongAt_31, be_4, be_50_2, List.getD_cons_zero, List.getD_cons_succ, List.set_cons_zero, List.set_cons_succ, List.length_cons, List.length_nil, pk_I, pk_A, pr_A, pi_I, st_s, st_n, if_true, if_false, eq_self, d_if, d_ju, d_re, d_ca, cat0, cat1, cat2, cat3, fr_z, fr_s, cc_I, cc_A, cc_N, Nat.reduceAdd, Nat.reduceLT, Nat.reduceLeDiff, Nat.reduceEqDiff, not_true, not_false_iff, z1_0, z1_1, Bool.and_self, Bool.true_and, Bool.and_true, nI_add, pk_mul, nI_clamp, decide_true, Nat.le_refl, bI_eq, bI_z1, nI_ltI, nI_leI, hnj, x4, hp0]
      refine go_at (blk := b_Model_wrongAt_35) rfl ?_
      simp (disch := omega) only [b_Model_wrongAt_35, be_6, be_34, be_1, be_4, be_12, be_43, be_0, kc_388, rf_388_48, ka_419, List.getD_cons_zero, List.getD_cons_succ, List.set_cons_zero, List.set_cons_succ, List.length_cons, List.length_nil, pk_I, pk_A, pr_A, pi_I, st_s, st_n, if_true, if_false, eq_self, d_if, d_ju, d_re, d_ca, cat0, cat1, cat2, cat3, fr_z, fr_s, cc_I, cc_A, cc_N, Nat.reduceAdd, Nat.reduceLT, Nat.reduceLeDiff, Nat.reduceEqDiff, not_true, not_false_iff, z1_0, z1_1, Bool.and_self, Bool.true_and, Bool.and_true, nI_add, pk_mul, nI_clamp, decide_true, Nat.le_refl, bI_eq, bI_z1, nI_ltI, nI_leI, hnj, x4, hp0]
      exact nx _ (MF_t x1 (MF_row (by omega))) (by rw [show (raR p w2 i (raS T p w2 i)) = upd (raS T p w2 i) (8 + p) 0 from if_pos hw]; exact MR_row x2)
  · intro x ⟨x1, x2, x4⟩
    try dsimp only at *
    have hne : (nI (lmN tm k) + (-1) < nI (lmN tm k)) ↔ True := by rw [lm_lt hML (by omega)]; exact ⟨fun _ => trivial, fun _ => Nat.le_refl _⟩
    refine go_at (blk := b_Model_wrongAt_18) rfl ?_
    simp (disch := omega) only [b_Model_wrongAt_18, be_4, be_49_4, List.getD_cons_zero, List.getD_cons_succ, List.set_cons_zero, List.set_cons_succ, List.length_cons, List.length_nil, pk_I, pk_A, pr_A, pi_I, st_s, st_n, if_true, if_false, eq_self, d_if, d_ju, d_re, d_ca, cat0, cat1, cat2, cat3, fr_z, fr_s, cc_I, cc_A, cc_N, Nat.reduceAdd, Nat.reduceLT, Nat.reduceLeDiff, Nat.reduceEqDiff, not_true, not_false_iff, z1_0, z1_1, Bool.and_self, Bool.true_and, Bool.and_true, nI_add, pk_mul, nI_clamp, decide_true, Nat.le_refl, bI_eq, bI_z1, nI_ltI, nI_leI, hne]
    refine go_at (blk := b_Model_wrongAt_115) rfl ?_
    simp (disch := omega) only [b_Model_wrongAt_115, be_4, be_54, List.getD_cons_zero, List.getD_cons_succ, List.set_cons_zero, List.set_cons_succ, List.length_cons, List.length_nil, pk_I, pk_A, pr_A, pi_I, st_s, st_n, if_true, if_false, eq_self, d_if, d_ju, d_re, d_ca, cat0, cat1, cat2, cat3, fr_z, fr_s, cc_I, cc_A, cc_N, Nat.reduceAdd, Nat.reduceLT, Nat.reduceLeDiff, Nat.reduceEqDiff, not_true, not_false_iff, z1_0, z1_1, Bool.and_self, Bool.true_and, Bool.and_true, nI_add, pk_mul, nI_clamp, decide_true, Nat.le_refl, bI_eq, bI_z1, nI_ltI, nI_leI, hne]
    exact hQ x.1 x1
set_option maxHeartbeats 1000000 in
theorem r_off {d : Nat} {v : Nat → Nat → Int32} {w : Nat → Nat → Int64} {Q : Option Value → am_H → Prop} {T : TXT} {lv : Nat} {f : Nat → Int32} {B : Int} (hM : MI B v T lv f) {m : Nat} {tp tm : Nat → Nat} {ts : Nat → Int32} (hW : WM v (tN T) m tp tm ts) (hZ : Z50 f) {x : Int32} (hQ : ∀ v', MF v v' → Q (some (.int (ofA T m tp tm ts x))) (428, 26053, KD, RF, v', w)) : am_Ca (d + 7) M_Model_off [.ref 388, .int x] (428, 26053, KD, RF, v, w) Q := by
  have h8 := hM.2.2.2.2.1.1
  have hm20 := hW.2.1
  have w1 := hW.1
  refine ca_in (k := k_Model_off) (nL := 3) rfl (Nat.le_of_ble_eq_true rfl) ?_
  show am_Go am_X0 _ k_Model_off 0 ([.ref 388, .int x, .null], [], _) _
  refine go_at (blk := b_Model_off_0) rfl ?_
  simp (disch := omega) only [b_Model_off_0, be_4, be_1, be_6, be_33, be_58_3, kc_388, List.getD_cons_zero, List.getD_cons_succ, List.set_cons_zero, List.set_cons_succ, List.length_cons, List.length_nil, pk_I, pk_A, pr_A, pi_I, st_s, st_n, if_true, if_false, eq_self, d_if, d_ju, d_re, d_ca, cat0, cat1, cat2, cat3, fr_z, fr_s, cc_I, cc_A, cc_N, Nat.reduceAdd, Nat.reduceLT, Nat.reduceLeDiff, Nat.reduceEqDiff, not_true, not_false_iff, z1_0, z1_1, Bool.and_self, Bool.true_and, Bool.and_true, nI_add, pk_mul, nI_clamp, decide_true, Nat.le_refl, bI_eq, bI_z1, w1]
  refine m_in ?_
  rw [show inB x (nI 0) (nI m) = (!decide (x < 0) && !decide (nI m < x)) from rfl]
  refine go_at (blk := b_Model_off_9) rfl ?_
  simp (disch := omega) only [b_Model_off_9, be_50_1, List.getD_cons_zero, List.getD_cons_succ, List.set_cons_zero, List.set_cons_succ, List.length_cons, List.length_nil, pk_I, pk_A, pr_A, pi_I, st_s, st_n, if_true, if_false, eq_self, d_if, d_ju, d_re, d_ca, cat0, cat1, cat2, cat3, fr_z, fr_s, cc_I, cc_A, cc_N, Nat.reduceAdd, Nat.reduceLT, Nat.reduceLeDiff, Nat.reduceEqDiff, not_true, not_false_iff, z1_0, z1_1, Bool.and_self, Bool.true_and, Bool.and_true, nI_add, pk_mul, nI_clamp, decide_true, Nat.le_refl, bI_eq, bI_z1, w1]
  split
  · rename_i h0
    have h0 : (!decide (x < 0) && !decide (nI m < x)) = true := by simpa using h0
    unfold ofA at hQ
    rw [if_pos h0] at hQ
    obtain ⟨k, hk, rfl, e⟩ := in_of (m := m) (by omega) h0
    rw [e] at hQ
    refine go_at (blk := b_Model_off_14) rfl ?_
    simp (disch := omega) only [b_Model_off_14, be_6, be_2, be_4, be_57_3, kc_388, List.getD_cons_zero, List.getD_cons_succ, List.set_cons_zero, List.set_cons_succ, List.length_cons, List.length_nil, pk_I, pk_A, pr_A, pi_I, st_s, st_n, if_true, if_false, eq_self, d_if, d_ju, d_re, d_ca, cat0, cat1, cat2, cat3, fr_z, fr_s, cc_I, cc_A, cc_N, Nat.reduceAdd, Nat.reduceLT, Nat.reduceLeDiff, Nat.reduceEqDiff, not_true, not_false_iff, z1_0, z1_1, Bool.and_self, Bool.true_and, Bool.and_true, nI_add, pk_mul, nI_clamp, decide_true, Nat.le_refl, bI_eq, bI_z1, w1]
    refine r_wrongA hM hW hk hZ ?_
    intro v2 q2
    have hwn := wr_ne (fo_20 (T := T) (tp := tp) (tm := tm) (ts := ts) (k := k) (by omega) (lmN tm k))
    refine go_at (blk := b_Model_off_21) rfl ?_
    simp (disch := omega) only [b_Model_off_21, be_7, be_4, be_1, be_49_1, List.getD_cons_zero, List.getD_cons_succ, List.set_cons_zero, List.set_cons_succ, List.length_cons, List.length_nil, pk_I, pk_A, pr_A, pi_I, st_s, st_n, if_true, if_false, eq_self, d_if, d_ju, d_re, d_ca, cat0, cat1, cat2, cat3, fr_z, fr_s, cc_I, cc_A, cc_N, Nat.reduceAdd, Nat.reduceLT, Nat.reduceLeDiff, Nat.reduceEqDiff, not_true, not_false_iff, z1_0, z1_1, Bool.and_self, Bool.true_and, Bool.and_true, nI_add, pk_mul, nI_clamp, decide_true, Nat.le_refl, bI_eq, bI_z1, w1, hwn]
    split
    · rename_i hc
      obtain ⟨b, hb⟩ := Option.ne_none_iff_exists'.mp hc
      rw [hb] at hQ ⊢
      refine go_at (blk := b_Model_off_33) rfl ?_
      simp (disch := omega) only [b_Model_off_33, be_4, be_0, List.getD_cons_zero, List.getD_cons_succ, List.set_cons_zero, List.set_cons_succ, List.length_cons, List.length_nil, pk_I, pk_A, pr_A, pi_I, st_s, st_n, if_true, if_false, eq_self, d_if, d_ju, d_re, d_ca, cat0, cat1, cat2, cat3, fr_z, fr_s, cc_I, cc_A, cc_N, Nat.reduceAdd, Nat.reduceLT, Nat.reduceLeDiff, Nat.reduceEqDiff, not_true, not_false_iff, z1_0, z1_1, Bool.and_self, Bool.true_and, Bool.and_true, nI_add, pk_mul, nI_clamp, decide_true, Nat.le_refl, bI_eq, bI_z1, w1, hwn]
      refine go_at (blk := b_Model_off_34) rfl ?_
      simp (disch := omega) only [b_Model_off_34, be_54, List.getD_cons_zero, List.getD_cons_succ, List.set_cons_zero, List.set_cons_succ, List.length_cons, List.length_nil, pk_I, pk_A, pr_A, pi_I, st_s, st_n, if_true, if_false, eq_self, d_if, d_ju, d_re, d_ca, cat0, cat1, cat2, cat3, fr_z, fr_s, cc_I, cc_A, cc_N, Nat.reduceAdd, Nat.reduceLT, Nat.reduceLeDiff, Nat.reduceEqDiff, not_true, not_false_iff, z1_0, z1_1, Bool.and_self, Bool.true_and, Bool.and_true, nI_add, pk_mul, nI_clamp, decide_true, Nat.le_refl, bI_eq, bI_z1, w1, hwn]
      exact hQ v2 q2
    · rename_i hc
      rw [Decidable.not_not.mp hc] at hQ
      refine go_at (blk := b_Model_off_28) rfl ?_
      simp (disch := omega) only [b_Model_off_28, be_2, be_51, List.getD_cons_zero, List.getD_cons_succ, List.set_cons_zero, List.set_cons_succ, List.length_cons, List.length_nil, pk_I, pk_A, pr_A, pi_I, st_s, st_n, if_true, if_false, eq_self, d_if, d_ju, d_re, d_ca, cat0, cat1, cat2, cat3, fr_z, fr_s, cc_I, cc_A, cc_N, Nat.reduceAdd, Nat.reduceLT, Nat.reduceLeDiff, Nat.reduceEqDiff, not_true, not_false_iff, z1_0, z1_1, Bool.and_self, Bool.true_and, Bool.and_true, nI_add, pk_mul, nI_clamp, decide_true, Nat.le_refl, bI_eq, bI_z1, w1, hwn]
      refine go_at (blk := b_Model_off_34) rfl ?_
      simp (disch := omega) only [b_Model_off_34, be_54, List.getD_cons_zero, List.getD_cons_succ, List.set_cons_zero, List.set_cons_succ, List.length_cons, List.length_nil, pk_I, pk_A, pr_A, pi_I, st_s, st_n, if_true, if_false, eq_self, d_if, d_ju, d_re, d_ca, cat0, cat1, cat2, cat3, fr_z, fr_s, cc_I, cc_A, cc_N, Nat.reduceAdd, Nat.reduceLT, Nat.reduceLeDiff, Nat.reduceEqDiff, not_true, not_false_iff, z1_0, z1_1, Bool.and_self, Bool.true_and, Bool.and_true, nI_add, pk_mul, nI_clamp, decide_true, Nat.le_refl, bI_eq, bI_z1, w1, hwn]
      exact hQ v2 q2
  · rename_i h0
    have h0 : (!decide (x < 0) && !decide (nI m < x)) = false := by simpa using h0
    refine go_at (blk := b_Model_off_12) rfl ?_
    simp (disch := omega) only [b_Model_off_12, be_2, be_54, List.getD_cons_zero, List.getD_cons_succ, List.set_cons_zero, List.set_cons_succ, List.length_cons, List.length_nil, pk_I, pk_A, pr_A, pi_I, st_s, st_n, if_true, if_false, eq_self, d_if, d_ju, d_re, d_ca, cat0, cat1, cat2, cat3, fr_z, fr_s, cc_I, cc_A, cc_N, Nat.reduceAdd, Nat.reduceLT, Nat.reduceLeDiff, Nat.reduceEqDiff, not_true, not_false_iff, z1_0, z1_1, Bool.and_self, Bool.true_and, Bool.and_true, nI_add, pk_mul, nI_clamp, decide_true, Nat.le_refl, bI_eq, bI_z1, w1]
    unfold ofA at hQ
    rw [if_neg (by rw [h0]; decide)] at hQ
    exact hQ v MF_r
