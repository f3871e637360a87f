/-! laid by wip/whole/k15.py: the class: is what was told so -/
def foM : Option Nat → Option Nat → Option Nat
  | none, c => c
  | some i, none => some i
  | some i, some j => if i < j then some i else some j
def foS (T : TXT) (tp tm : Nat → Nat) (ts : Nat → Int32) (k : Nat) : Nat → Option Nat
  | 0 => none
  | m + 1 => foM (pF (nsP tp tm ts (itT T (-1) 0 (m + 1) (bgT T)) m) k 0) (foS T tp tm ts k m)
theorem en_no {o : Option Nat} (h : ∀ b, o = some b → b < 256) (e : enN o = -2) : o = none := by
  cases o with
  | none => rfl
  | some b => exact absurd e (nI_m2 (h b rfl))
theorem en_so {o : Option Nat} (e : ¬ enN o = -2) : ∃ b, o = some b := by
  cases o with
  | none => exact absurd rfl e
  | some b => exact ⟨b, rfl⟩
theorem fo_1 {o c : Option Nat} (h : ∀ b, o = some b → b < 256) (e : enN o = -2) : foM o c = c := by
  rw [en_no h e]
  rfl
theorem fo_2 {o c : Option Nat} (h : ∀ b, c = some b → b < 256) (e : enN c = -2) : foM o c = o := by
  rw [en_no h e]
  cases o <;> rfl
theorem fo_3 {o c : Option Nat} (h : ∀ b, o = some b → b < 256) (h' : ∀ b, c = some b → b < 256) (e : ¬ enN o = -2) (e' : ¬ enN c = -2) (l : enN c ≤ enN o) : foM o c = c := by
  obtain ⟨a, rfl⟩ := en_so e
  obtain ⟨b, rfl⟩ := en_so e'
  have ha := h a rfl
  have hb := h' b rfl
  have := (nI_leI (a := b) (b := a) (by omega) (by omega)).mp l
  exact if_neg (by omega)
theorem fo_4 {o c : Option Nat} (h : ∀ b, o = some b → b < 256) (h' : ∀ b, c = some b → b < 256) (e : ¬ enN o = -2) (e' : ¬ enN c = -2) (l : ¬ enN c ≤ enN o) : foM o c = o := by
  obtain ⟨a, rfl⟩ := en_so e
  obtain ⟨b, rfl⟩ := en_so e'
  have ha := h a rfl
  have hb := h' b rfl
  have : ¬ b ≤ a := fun z => l ((nI_leI (a := b) (b := a) (by omega) (by omega)).mpr z)
  exact if_pos (by omega)
theorem pF_b {P : Nat → Bool} {k : Nat} (hk : k ≤ 20) : ∀ b, pF P k 0 = some b → b < 256 := by
  intro b h
  have := pF_lt _ _ _ h
  omega
theorem fo_b {T : TXT} {tp tm : Nat → Nat} {ts : Nat → Int32} {k : Nat} (hk : k ≤ 20) (m : Nat) : ∀ b, foS T tp tm ts k m = some b → b < 256 := by
  induction m with
  | zero => intro b h; cases h
  | succ m ih =>
    intro b h
    unfold foS at h
    have hp := pF_b (P := nsP tp tm ts (itT T (-1) 0 (m + 1) (bgT T)) m) hk
    revert h hp
    cases pF (nsP tp tm ts (itT T (-1) 0 (m + 1) (bgT T)) m) k 0 with
    | none => intro h _; exact ih b h
    | some i =>
      intro h hp
      revert h ih
      cases foS T tp tm ts k m with
      | none => intro ih h; exact hp b h
      | some j =>
        intro ih h
        have h : (if i < j then some i else some j) = some b := h
        split at h
        · exact hp b h
        · exact ih b h
theorem fo_s {T : TXT} {tp tm : Nat → Nat} {ts : Nat → Int32} {k m : Nat} {o : Option Nat} (h : foM (pF (nsP tp tm ts (itT T (-1) 0 (m + 1) (bgT T)) m) k 0) (foS T tp tm ts k m) = o) : foS T tp tm ts k (m + 1) = o := h
set_option maxHeartbeats 1000000 in
theorem k_off {d : Nat} {v : Nat → Nat → Int32} {w : Nat → Nat → Int64} {Q : Option Value → am_H → Prop} {T : TXT} {f : Nat → Int32} {B : Int} (hK : KI B v T f) {m : Nat} {tp tm : Nat → Nat} {ts : Nat → Int32} (hW : WX v (tN T) m tp tm ts) {k : Nat} (hk : k ≤ m) (hQ : ∀ v', QF v v' → Q (some (.int (enN (foS T tp tm ts k (lmN tm k))))) (428, 26053, KD, RF, v', w)) : am_Ca (d + 5) M_Witness_firstNotSo [.ref 358, .int (nI k)] (428, 26053, KD, RF, v, w) Q := by
  have h8 := hK.1.1
  have hBB := hK.2.2.2.2.2
  have hm20 := hW.2.1
  have hM : lmN tm k ≤ 100 := lm_le k (fun j hj => (hW.2.2 j (by omega)).2.2.2.1)
  refine ca_in (k := k_Witness_firstNotSo) (nL := 6) rfl (Nat.le_of_ble_eq_true rfl) ?_
  show am_Go am_X0 _ k_Witness_firstNotSo 0 ([.ref 358, .int (nI k), .null, .null, .null, .null], [], _) _
  refine go_at (blk := b_Witness_firstNotSo_0) rfl ?_
  simp (disch := omega) only [b_Witness_firstNotSo_0, be_6, be_4, be_57_1, kc_358, List.getD_cons_zero, List.getD_cons_succ, List.set_cons_zero, List.set_cons_succ, List.length_cons, List.length_nil, pk_I, pk_A, pr_A, pi_I, st_s, st_n, if_true, if_false, eq_self, d_if, d_ju, d_re, d_ca, cat0, cat1, cat2, cat3, fr_z, fr_s, cc_I, cc_A, cc_N, Nat.reduceAdd, Nat.reduceLT, Nat.reduceLeDiff, Nat.reduceEqDiff, not_true, not_false_iff, z1_0, z1_1, Bool.and_self, Bool.true_and, Bool.and_true, nI_add, pk_mul, nI_clamp, decide_true, Nat.le_refl, bI_eq, bI_z1]
  refine k_last hK hW hk ?_
  refine go_at (blk := b_Witness_firstNotSo_5) rfl ?_
  simp (disch := omega) only [b_Witness_firstNotSo_5, be_7, be_2, be_6, be_34, be_57_0, kc_358, rf_358_1, kc_362, List.getD_cons_zero, List.getD_cons_succ, List.set_cons_zero, List.set_cons_succ, List.length_cons, List.length_nil, pk_I, pk_A, pr_A, pi_I, st_s, st_n, if_true, if_false, eq_self, d_if, d_ju, d_re, d_ca, cat0, cat1, cat2, cat3, fr_z, fr_s, cc_I, cc_A, cc_N, Nat.reduceAdd, Nat.reduceLT, Nat.reduceLeDiff, Nat.reduceEqDiff, not_true, not_false_iff, z1_0, z1_1, Bool.and_self, Bool.true_and, Bool.and_true, nI_add, pk_mul, nI_clamp, decide_true, Nat.le_refl, bI_eq, bI_z1]
  refine kw_begin hK ?_
  intro v1 q1 r1
  refine go_at (blk := b_Witness_firstNotSo_16) rfl ?_
  simp (disch := omega) only [b_Witness_firstNotSo_16, be_1, be_7, be_0, List.getD_cons_zero, List.getD_cons_succ, List.set_cons_zero, List.set_cons_succ, List.length_cons, List.length_nil, pk_I, pk_A, pr_A, pi_I, st_s, st_n, if_true, if_false, eq_self, d_if, d_ju, d_re, d_ca, cat0, cat1, cat2, cat3, fr_z, fr_s, cc_I, cc_A, cc_N, Nat.reduceAdd, Nat.reduceLT, Nat.reduceLeDiff, Nat.reduceEqDiff, not_true, not_false_iff, z1_0, z1_1, Bool.and_self, Bool.true_and, Bool.and_true, nI_add, pk_mul, nI_clamp, decide_true, Nat.le_refl, bI_eq, bI_z1]
  refine go_loopA (α := (Nat → Nat → Int32) × Value) (fun i x => ([.ref 358, .int (nI k), .int (nI (lmN tm k) + (-1)), .int (enN (foS T tp tm ts k i)), .int (nI i), x.2], [], (428, 26053, KD, RF, x.1, w))) (fun i x => QF v x.1 ∧ RX x.1 362 (tN T) (-1) 0 (itT T (-1) 0 i (bgT T)) ∧ GR (0 + (i : Int)) (tN T) (itT T (-1) 0 i (bgT T)) ∧ am_cc x.2 = true) (lmN tm k) ?_ ?_ (v1, .null) ⟨q1, r1, by rw [show (0 : Int) + ((0 : Nat) : Int) = 0 by omega]; exact GR_bg hK.2.2.2.1, rfl⟩
  · intro i x hi ⟨x1, x2, x3, x4⟩ ih
    try dsimp only at *
    have hKx : KI B x.1 T f := KI_q hK x1
    have hni : (nI (lmN tm k) + (-1) < nI i) ↔ False := by rw [lm_lt hM (by omega)]; exact ⟨fun z => absurd z (by omega), False.elim⟩
    refine go_at (blk := b_Witness_firstNotSo_19) rfl ?_
    simp (disch := omega) only [b_Witness_firstNotSo_19, be_4, be_49_4, List.getD_cons_zero, List.getD_cons_succ, List.set_cons_zero, List.set_cons_succ, List.length_cons, List.length_nil, pk_I, pk_A, pr_A, pi_I, st_s, st_n, if_true, if_false, eq_self, d_if, d_ju, d_re, d_ca, cat0, cat1, cat2, cat3, fr_z, fr_s, cc_I, cc_A, cc_N, Nat.reduceAdd, Nat.reduceLT, Nat.reduceLeDiff, Nat.reduceEqDiff, not_true, not_false_iff, z1_0, z1_1, Bool.and_self, Bool.true_and, Bool.and_true, nI_add, pk_mul, nI_clamp, decide_true, Nat.le_refl, bI_eq, bI_z1, nI_ltI, nI_leI, hni, x4]
    refine go_at (blk := b_Witness_firstNotSo_25) rfl ?_
    simp (disch := omega) only [b_Witness_firstNotSo_25, be_6, be_34, be_1, be_57_1, kc_358, rf_358_1, kc_362, List.getD_cons_zero, List.getD_cons_succ, List.set_cons_zero, List.set_cons_succ, List.length_cons, List.length_nil, pk_I, pk_A, pr_A, pi_I, st_s, st_n, if_true, if_false, eq_self, d_if, d_ju, d_re, d_ca, cat0, cat1, cat2, cat3, fr_z, fr_s, cc_I, cc_A, cc_N, Nat.reduceAdd, Nat.reduceLT, Nat.reduceLeDiff, Nat.reduceEqDiff, not_true, not_false_iff, z1_0, z1_1, Bool.and_self, Bool.true_and, Bool.and_true, nI_add, pk_mul, nI_clamp, decide_true, Nat.le_refl, bI_eq, bI_z1, nI_ltI, nI_leI, hni, x4]
    refine kw_pass (k := 1) hKx x2 x3 (by omega) (by omega) ?_
    intro v2 q2 r2' g2'
    have r2 : RX v2 362 (tN T) (-1) 0 (itT T (-1) 0 (i + 1) (bgT T)) := r2'
    have g2 : GR (0 + (i : Int) + ((1 : Nat) : Int)) (tN T) (itT T (-1) 0 (i + 1) (bgT T)) := g2'
    refine go_at (blk := b_Witness_firstNotSo_33) rfl ?_
    simp (disch := omega) only [b_Witness_firstNotSo_33, be_6, be_4, be_57_2, kc_358, List.getD_cons_zero, List.getD_cons_succ, List.set_cons_zero, List.set_cons_succ, List.length_cons, List.length_nil, pk_I, pk_A, pr_A, pi_I, st_s, st_n, if_true, if_false, eq_self, d_if, d_ju, d_re, d_ca, cat0, cat1, cat2, cat3, fr_z, fr_s, cc_I, cc_A, cc_N, Nat.reduceAdd, Nat.reduceLT, Nat.reduceLeDiff, Nat.reduceEqDiff, not_true, not_false_iff, z1_0, z1_1, Bool.and_self, Bool.true_and, Bool.and_true, nI_add, pk_mul, nI_clamp, decide_true, Nat.le_refl, bI_eq, bI_z1, nI_ltI, nI_leI, hni, x4]
    refine k_notSo (KI_q hKx q2) (WX_q (WX_q hW x1) q2) r2 g2 hk (by omega) ?_
    refine go_at (blk := b_Witness_firstNotSo_40) rfl ?_
    simp (disch := omega) only [b_Witness_firstNotSo_40, be_7, be_4, be_2, be_49_0, List.getD_cons_zero, List.getD_cons_succ, List.set_cons_zero, List.set_cons_succ, List.length_cons, List.length_nil, pk_I, pk_A, pr_A, pi_I, st_s, st_n, if_true, if_false, eq_self, d_if, d_ju, d_re, d_ca, cat0, cat1, cat2, cat3, fr_z, fr_s, cc_I, cc_A, cc_N, Nat.reduceAdd, Nat.reduceLT, Nat.reduceLeDiff, Nat.reduceEqDiff, not_true, not_false_iff, z1_0, z1_1, Bool.and_self, Bool.true_and, Bool.and_true, nI_add, pk_mul, nI_clamp, decide_true, Nat.le_refl, bI_eq, bI_z1, nI_ltI, nI_leI, hni, x4]
    split
    · rename_i ha
      refine go_at (blk := b_Witness_firstNotSo_64) rfl ?_
      simp (disch := omega) only [b_Witness_firstNotSo_64, be_10, be_51, List.getD_cons_zero, List.getD_cons_succ, List.set_cons_zero, List.set_cons_succ, List.length_cons, List.length_nil, pk_I, pk_A, pr_A, pi_I, st_s, st_n, if_true, if_false, eq_self, d_if, d_ju, d_re, d_ca, cat0, cat1, cat2, cat3, fr_z, fr_s, cc_I, cc_A, cc_N, Nat.reduceAdd, Nat.reduceLT, Nat.reduceLeDiff, Nat.reduceEqDiff, not_true, not_false_iff, z1_0, z1_1, Bool.and_self, Bool.true_and, Bool.and_true, nI_add, pk_mul, nI_clamp, decide_true, Nat.le_refl, bI_eq, bI_z1, nI_ltI, nI_leI, hni, x4]
      simp only [fo_s (show foM (pF (nsP tp tm ts (itT T (-1) 0 (i + 1) (bgT T)) i) k 0) (foS T tp tm ts k i) = _ from fo_1 (pF_b (by omega)) ha)] at ih
      exact ih (v2, .int _) ⟨QF_t x1 q2, r2, GR_s g2, rfl⟩
    · rename_i ha
      refine go_at (blk := b_Witness_firstNotSo_49) rfl ?_
      simp (disch := omega) only [b_Witness_firstNotSo_49, be_4, be_2, be_49_0, List.getD_cons_zero, List.getD_cons_succ, List.set_cons_zero, List.set_cons_succ, List.length_cons, List.length_nil, pk_I, pk_A, pr_A, pi_I, st_s, st_n, if_true, if_false, eq_self, d_if, d_ju, d_re, d_ca, cat0, cat1, cat2, cat3, fr_z, fr_s, cc_I, cc_A, cc_N, Nat.reduceAdd, Nat.reduceLT, Nat.reduceLeDiff, Nat.reduceEqDiff, not_true, not_false_iff, z1_0, z1_1, Bool.and_self, Bool.true_and, Bool.and_true, nI_add, pk_mul, nI_clamp, decide_true, Nat.le_refl, bI_eq, bI_z1, nI_ltI, nI_leI, hni, x4]
      split
      · rename_i hb
        refine go_at (blk := b_Witness_firstNotSo_61) rfl ?_
        simp (disch := omega) only [b_Witness_firstNotSo_61, be_4, be_7, be_0, List.getD_cons_zero, List.getD_cons_succ, List.set_cons_zero, List.set_cons_succ, List.length_cons, List.length_nil, pk_I, pk_A, pr_A, pi_I, st_s, st_n, if_true, if_false, eq_self, d_if, d_ju, d_re, d_ca, cat0, cat1, cat2, cat3, fr_z, fr_s, cc_I, cc_A, cc_N, Nat.reduceAdd, Nat.reduceLT, Nat.reduceLeDiff, Nat.reduceEqDiff, not_true, not_false_iff, z1_0, z1_1, Bool.and_self, Bool.true_and, Bool.and_true, nI_add, pk_mul, nI_clamp, decide_true, Nat.le_refl, bI_eq, bI_z1, nI_ltI, nI_leI, hni, x4]
        refine go_at (blk := b_Witness_firstNotSo_64) rfl ?_
        simp (disch := omega) only [b_Witness_firstNotSo_64, be_10, be_51, List.getD_cons_zero, List.getD_cons_succ, List.set_cons_zero, List.set_cons_succ, List.length_cons, List.length_nil, pk_I, pk_A, pr_A, pi_I, st_s, st_n, if_true, if_false, eq_self, d_if, d_ju, d_re, d_ca, cat0, cat1, cat2, cat3, fr_z, fr_s, cc_I, cc_A, cc_N, Nat.reduceAdd, Nat.reduceLT, Nat.reduceLeDiff, Nat.reduceEqDiff, not_true, not_false_iff, z1_0, z1_1, Bool.and_self, Bool.true_and, Bool.and_true, nI_add, pk_mul, nI_clamp, decide_true, Nat.le_refl, bI_eq, bI_z1, nI_ltI, nI_leI, hni, x4]
        simp only [fo_s (show foM (pF (nsP tp tm ts (itT T (-1) 0 (i + 1) (bgT T)) i) k 0) (foS T tp tm ts k i) = _ from fo_2 (fo_b (by omega) i) hb)] at ih
        exact ih (v2, .int _) ⟨QF_t x1 q2, r2, GR_s g2, rfl⟩
      · rename_i hb
        refine go_at (blk := b_Witness_firstNotSo_55) rfl ?_
        simp (disch := omega) only [b_Witness_firstNotSo_55, be_4, be_49_3, List.getD_cons_zero, List.getD_cons_succ, List.set_cons_zero, List.set_cons_succ, List.length_cons, List.length_nil, pk_I, pk_A, pr_A, pi_I, st_s, st_n, if_true, if_false, eq_self, d_if, d_ju, d_re, d_ca, cat0, cat1, cat2, cat3, fr_z, fr_s, cc_I, cc_A, cc_N, Nat.reduceAdd, Nat.reduceLT, Nat.reduceLeDiff, Nat.reduceEqDiff, not_true, not_false_iff, z1_0, z1_1, Bool.and_self, Bool.true_and, Bool.and_true, nI_add, pk_mul, nI_clamp, decide_true, Nat.le_refl, bI_eq, bI_z1, nI_ltI, nI_leI, hni, x4]
        split
        · rename_i hc
          refine go_at (blk := b_Witness_firstNotSo_64) rfl ?_
          simp (disch := omega) only [b_Witness_firstNotSo_64, be_10, be_51, List.getD_cons_zero, List.getD_cons_succ, List.set_cons_zero, List.set_cons_succ, List.length_cons, List.length_nil, pk_I, pk_A, pr_A, pi_I, st_s, st_n, if_true, if_false, eq_self, d_if, d_ju, d_re, d_ca, cat0, cat1, cat2, cat3, fr_z, fr_s, cc_I, cc_A, cc_N, Nat.reduceAdd, Nat.reduceLT, Nat.reduceLeDiff, Nat.reduceEqDiff, not_true, not_false_iff, z1_0, z1_1, Bool.and_self, Bool.true_and, Bool.and_true, nI_add, pk_mul, nI_clamp, decide_true, Nat.le_refl, bI_eq, bI_z1, nI_ltI, nI_leI, hni, x4]
          simp only [fo_s (show foM (pF (nsP tp tm ts (itT T (-1) 0 (i + 1) (bgT T)) i) k 0) (foS T tp tm ts k i) = _ from fo_3 (pF_b (by omega)) (fo_b (by omega) i) ha hb hc)] at ih
          exact ih (v2, .int _) ⟨QF_t x1 q2, r2, GR_s g2, rfl⟩
        · rename_i hc
          refine go_at (blk := b_Witness_firstNotSo_61) rfl ?_
          simp (disch := omega) only [b_Witness_firstNotSo_61, be_4, be_7, be_0, List.getD_cons_zero, List.getD_cons_succ, List.set_cons_zero, List.set_cons_succ, List.length_cons, List.length_nil, pk_I, pk_A, pr_A, pi_I, st_s, st_n, if_true, if_false, eq_self, d_if, d_ju, d_re, d_ca, cat0, cat1, cat2, cat3, fr_z, fr_s, cc_I, cc_A, cc_N, Nat.reduceAdd, Nat.reduceLT, Nat.reduceLeDiff, Nat.reduceEqDiff, not_true, not_false_iff, z1_0, z1_1, Bool.and_self, Bool.true_and, Bool.and_true, nI_add, pk_mul, nI_clamp, decide_true, Nat.le_refl, bI_eq, bI_z1, nI_ltI, nI_leI, hni, x4]
          refine go_at (blk := b_Witness_firstNotSo_64) rfl ?_
          simp (disch := omega) only [b_Witness_firstNotSo_64, be_10, be_51, List.getD_cons_zero, List.getD_cons_succ, List.set_cons_zero, List.set_cons_succ, List.length_cons, List.length_nil, pk_I, pk_A, pr_A, pi_I, st_s, st_n, if_true, if_false, eq_self, d_if, d_ju, d_re, d_ca, cat0, cat1, cat2, cat3, fr_z, fr_s, cc_I, cc_A, cc_N, Nat.reduceAdd, Nat.reduceLT, Nat.reduceLeDiff, Nat.reduceEqDiff, not_true, not_false_iff, z1_0, z1_1, Bool.and_self, Bool.true_and, Bool.and_true, nI_add, pk_mul, nI_clamp, decide_true, Nat.le_refl, bI_eq, bI_z1, nI_ltI, nI_leI, hni, x4]
          simp only [fo_s (show foM (pF (nsP tp tm ts (itT T (-1) 0 (i + 1) (bgT T)) i) k 0) (foS T tp tm ts k i) = _ from fo_4 (pF_b (by omega)) (fo_b (by omega) i) ha hb hc)] at ih
          exact ih (v2, .int _) ⟨QF_t x1 q2, r2, GR_s g2, rfl⟩
  · intro x ⟨x1, x2, x3, x4⟩
    try dsimp only at *
    have hne : (nI (lmN tm k) + (-1) < nI (lmN tm k)) ↔ True := by rw [lm_lt hM (by omega)]; exact ⟨fun _ => trivial, fun _ => Nat.le_refl _⟩
    refine go_at (blk := b_Witness_firstNotSo_19) rfl ?_
    simp (disch := omega) only [b_Witness_firstNotSo_19, be_4, be_49_4, List.getD_cons_zero, List.getD_cons_succ, List.set_cons_zero, List.set_cons_succ, List.length_cons, List.length_nil, pk_I, pk_A, pr_A, pi_I, st_s, st_n, if_true, if_false, eq_self, d_if, d_ju, d_re, d_ca, cat0, cat1, cat2, cat3, fr_z, fr_s, cc_I, cc_A, cc_N, Nat.reduceAdd, Nat.reduceLT, Nat.reduceLeDiff, Nat.reduceEqDiff, not_true, not_false_iff, z1_0, z1_1, Bool.and_self, Bool.true_and, Bool.and_true, nI_add, pk_mul, nI_clamp, decide_true, Nat.le_refl, bI_eq, bI_z1, nI_ltI, nI_leI, hne]
    refine go_at (blk := b_Witness_firstNotSo_70) rfl ?_
    simp (disch := omega) only [b_Witness_firstNotSo_70, be_4, be_54, List.getD_cons_zero, List.getD_cons_succ, List.set_cons_zero, List.set_cons_succ, List.length_cons, List.length_nil, pk_I, pk_A, pr_A, pi_I, st_s, st_n, if_true, if_false, eq_self, d_if, d_ju, d_re, d_ca, cat0, cat1, cat2, cat3, fr_z, fr_s, cc_I, cc_A, cc_N, Nat.reduceAdd, Nat.reduceLT, Nat.reduceLeDiff, Nat.reduceEqDiff, not_true, not_false_iff, z1_0, z1_1, Bool.and_self, Bool.true_and, Bool.and_true, nI_add, pk_mul, nI_clamp, decide_true, Nat.le_refl, bI_eq, bI_z1, nI_ltI, nI_leI, hne]
    exact hQ x.1 x1
/-- rows of one who rises ahead of a minute -/
def raR (p w i : Nat) (g : Nat → Int32) : Nat → Int32 := if i = w then upd g (8 + p) 0 else g
def raS (T : TXT) (p w : Nat) : Nat → Nat → Int32
  | 0 => bgT T
  | i + 1 => mnT T (-1) 0 (raR p w i (raS T p w i))
def asP (T : TXT) (tp tm : Nat → Nat) (ts : Nat → Int32) (k p w i : Nat) : Bool := (pF (nsP tp tm ts (raS T p w (i + 1)) i) k 0).isSome
def asB (T : TXT) (tp tm : Nat → Nat) (ts : Nat → Int32) (k p w : Nat) : Bool := (pF (asP T tp tm ts k p w) (lmN tm k) 0).isNone
theorem QF_a2 {v : Nat → Nat → Int32} {c k : Nat} {x : Int32} (h : 362 ≤ c ∧ c ≤ 367) : QF v (am_u v c k x) := fun b _ _ _ _ _ b6 => am_u_ne (by omega)
set_option maxHeartbeats 1000000 in
theorem k_allSo {d : Nat} {v : Nat → Nat → Int32} {w : Nat → Nat → Int64} {Q : Option Value → am_H → Prop} {T : TXT} {f : Nat → Int32} {B : Int} (hK : KI B v T f) {m : Nat} {tp tm : Nat → Nat} {ts : Nat → Int32} (hW : WX v (tN T) m tp tm ts) {k : Nat} (hk : k ≤ m) {p w2 : Nat} (hp : p < tN T) (hw2 : w2 ≤ 100) (hQ : ∀ v', QF v v' → Q (some (.int (bI (asB T tp tm ts k p w2)))) (428, 26053, KD, RF, v', w)) : am_Ca (d + 5) M_Witness_isAllSo [.ref 358, .int (nI k), .int (nI (lmN tm k) + (-1)), .int (nI p), .int (nI w2)] (428, 26053, KD, RF, v, w) Q := by
  have h8 := hK.1.1
  have hBB := hK.2.2.2.2.2
  have hm20 := hW.2.1
  have hM : lmN tm k ≤ 100 := lm_le k (fun j hj => (hW.2.2 j (by omega)).2.2.2.1)
  refine ca_in (k := k_Witness_isAllSo) (nL := 6) rfl (Nat.le_of_ble_eq_true rfl) ?_
  show am_Go am_X0 _ k_Witness_isAllSo 0 ([.ref 358, .int (nI k), .int (nI (lmN tm k) + (-1)), .int (nI p), .int (nI w2), .null], [], _) _
  refine go_at (blk := b_Witness_isAllSo_0) rfl ?_
  simp (disch := omega) only [b_Witness_isAllSo_0, be_6, be_34, be_57_0, kc_358, rf_358_1, kc_362, List.getD_cons_zero, List.getD_cons_succ, List.set_cons_zero, List.set_cons_succ, List.length_cons, List.length_nil, pk_I, pk_A, pr_A, pi_I, st_s, st_n, if_true, if_false, eq_self, d_if, d_ju, d_re, d_ca, cat0, cat1, cat2, cat3, fr_z, fr_s, cc_I, cc_A, cc_N, Nat.reduceAdd, Nat.reduceLT, Nat.reduceLeDiff, Nat.reduceEqDiff, not_true, not_false_iff, z1_0, z1_1, Bool.and_self, Bool.true_and, Bool.and_true, nI_add, pk_mul, nI_clamp, decide_true, Nat.le_refl, bI_eq, bI_z1]
  refine kw_begin hK ?_
  intro v1 q1 r1
  refine go_at (blk := b_Witness_isAllSo_7) rfl ?_
  simp (disch := omega) only [b_Witness_isAllSo_7, be_1, be_7, be_0, List.getD_cons_zero, List.getD_cons_succ, List.set_cons_zero, List.set_cons_succ, List.length_cons, List.length_nil, pk_I, pk_A, pr_A, pi_I, st_s, st_n, if_true, if_false, eq_self, d_if, d_ju, d_re, d_ca, cat0, cat1, cat2, cat3, fr_z, fr_s, cc_I, cc_A, cc_N, Nat.reduceAdd, Nat.reduceLT, Nat.reduceLeDiff, Nat.reduceEqDiff, not_true, not_false_iff, z1_0, z1_1, Bool.and_self, Bool.true_and, Bool.and_true, nI_add, pk_mul, nI_clamp, decide_true, Nat.le_refl, bI_eq, bI_z1]
  refine go_loopA (α := (Nat → Nat → Int32)) (fun i x => ([.ref 358, .int (nI k), .int (nI (lmN tm k) + (-1)), .int (nI p), .int (nI w2), .int (nI i)], [], (428, 26053, KD, RF, x, w))) (fun i x => QF v x ∧ RX x 362 (tN T) (-1) 0 (raS T p w2 i) ∧ GR (0 + (i : Int)) (tN T) (raS T p w2 i) ∧ pF (asP T tp tm ts k p w2) (lmN tm k) 0 = pF (asP T tp tm ts k p w2) (lmN tm k - i) i) (lmN tm k) ?_ ?_ v1 ⟨q1, r1, by rw [show (0 : Int) + ((0 : Nat) : Int) = 0 by omega]; exact GR_bg hK.2.2.2.1, rfl⟩
  · intro i x hi ⟨x1, x2, x3, x4⟩ ih
    try dsimp only at *
    have hni : (nI (lmN tm k) + (-1) < nI i) ↔ False := by rw [lm_lt hM (by omega)]; exact ⟨fun z => absurd z (by omega), False.elim⟩
    refine go_at (blk := b_Witness_isAllSo_10) rfl ?_
    simp (disch := omega) only [b_Witness_isAllSo_10, be_4, be_49_4, List.getD_cons_zero, List.getD_cons_succ, List.set_cons_zero, List.set_cons_succ, List.length_cons, List.length_nil, pk_I, pk_A, pr_A, pi_I, st_s, st_n, if_true, if_false, eq_self, d_if, d_ju, d_re, d_ca, cat0, cat1, cat2, cat3, fr_z, fr_s, cc_I, cc_A, cc_N, Nat.reduceAdd, Nat.reduceLT, Nat.reduceLeDiff, Nat.reduceEqDiff, not_true, not_false_iff, z1_0, z1_1, Bool.and_self, Bool.true_and, Bool.and_true, nI_add, pk_mul, nI_clamp, decide_true, Nat.le_refl, bI_eq, bI_z1, nI_ltI, nI_leI, hni, nI_eq, vb_0]
    refine go_at (blk := b_Witness_isAllSo_16) rfl ?_
    simp (disch := omega) only [b_Witness_isAllSo_16, be_4, be_49_1, List.getD_cons_zero, List.getD_cons_succ, List.set_cons_zero, List.set_cons_succ, List.length_cons, List.length_nil, pk_I, pk_A, pr_A, pi_I, st_s, st_n, if_true, if_false, eq_self, d_if, d_ju, d_re, d_ca, cat0, cat1, cat2, cat3, fr_z, fr_s, cc_I, cc_A, cc_N, Nat.reduceAdd, Nat.reduceLT, Nat.reduceLeDiff, Nat.reduceEqDiff, not_true, not_false_iff, z1_0, z1_1, Bool.and_self, Bool.true_and, Bool.and_true, nI_add, pk_mul, nI_clamp, decide_true, Nat.le_refl, bI_eq, bI_z1, nI_ltI, nI_leI, hni, nI_eq, vb_0]
    split
    · rename_i hw
      refine go_at (blk := b_Witness_isAllSo_33) rfl ?_
      simp (disch := omega) only [b_Witness_isAllSo_33, be_6, be_34, be_1, be_57_1, kc_358, rf_358_1, kc_362, List.getD_cons_zero, List.getD_cons_succ, List.set_cons_zero, List.set_cons_succ, List.length_cons, List.length_nil, pk_I, pk_A, pr_A, pi_I, st_s, st_n, if_true, if_false, eq_self, d_if, d_ju, d_re, d_ca, cat0, cat1, cat2, cat3, fr_z, fr_s, cc_I, cc_A, cc_N, Nat.reduceAdd, Nat.reduceLT, Nat.reduceLeDiff, Nat.reduceEqDiff, not_true, not_false_iff, z1_0, z1_1, Bool.and_self, Bool.true_and, Bool.and_true, nI_add, pk_mul, nI_clamp, decide_true, Nat.le_refl, bI_eq, bI_z1, nI_ltI, nI_leI, hni, nI_eq, vb_0]
      refine kw_pass (k := 1) (KI_q hK x1) x2 x3 (by omega) (by omega) ?_
      intro v2 q2 r2' g2'
      have r2 : RX v2 362 (tN T) (-1) 0 (raS T p w2 (i + 1)) := by
        show RX v2 362 (tN T) (-1) 0 (mnT T (-1) 0 (raR p w2 i (raS T p w2 i)))
        unfold raR
        rw [if_neg hw]
        exact r2'
      have g2 : GR (0 + (i : Int) + ((1 : Nat) : Int)) (tN T) (raS T p w2 (i + 1)) := by
        show GR (0 + (i : Int) + ((1 : Nat) : Int)) (tN T) (mnT T (-1) 0 (raR p w2 i (raS T p w2 i)))
        unfold raR
        rw [if_neg hw]
        exact g2'
      refine go_at (blk := b_Witness_isAllSo_41) rfl ?_
      simp (disch := omega) only [b_Witness_isAllSo_41, be_6, be_4, be_57_2, kc_358, List.getD_cons_zero, List.getD_cons_succ, List.set_cons_zero, List.set_cons_succ, List.length_cons, List.length_nil, pk_I, pk_A, pr_A, pi_I, st_s, st_n, if_true, if_false, eq_self, d_if, d_ju, d_re, d_ca, cat0, cat1, cat2, cat3, fr_z, fr_s, cc_I, cc_A, cc_N, Nat.reduceAdd, Nat.reduceLT, Nat.reduceLeDiff, Nat.reduceEqDiff, not_true, not_false_iff, z1_0, z1_1, Bool.and_self, Bool.true_and, Bool.and_true, nI_add, pk_mul, nI_clamp, decide_true, Nat.le_refl, bI_eq, bI_z1, nI_ltI, nI_leI, hni, nI_eq, vb_0]
      refine k_notSo (KI_q (KI_q hK x1) q2) (WX_q (WX_q hW x1) q2) r2 g2 hk (by omega) ?_
      refine go_at (blk := b_Witness_isAllSo_48) rfl ?_
      simp (disch := omega) only [b_Witness_isAllSo_48, be_2, be_49_0, List.getD_cons_zero, List.getD_cons_succ, List.set_cons_zero, List.set_cons_succ, List.length_cons, List.length_nil, pk_I, pk_A, pr_A, pi_I, st_s, st_n, if_true, if_false, eq_self, d_if, d_ju, d_re, d_ca, cat0, cat1, cat2, cat3, fr_z, fr_s, cc_I, cc_A, cc_N, Nat.reduceAdd, Nat.reduceLT, Nat.reduceLeDiff, Nat.reduceEqDiff, not_true, not_false_iff, z1_0, z1_1, Bool.and_self, Bool.true_and, Bool.and_true, nI_add, pk_mul, nI_clamp, decide_true, Nat.le_refl, bI_eq, bI_z1, nI_ltI, nI_leI, hni, nI_eq, vb_0]
      split
      · rename_i hb
        refine go_at (blk := b_Witness_isAllSo_55) rfl ?_
        simp (disch := omega) only [b_Witness_isAllSo_55, be_10, be_51, List.getD_cons_zero, List.getD_cons_succ, List.set_cons_zero, List.set_cons_succ, List.length_cons, List.length_nil, pk_I, pk_A, pr_A, pi_I, st_s, st_n, if_true, if_false, eq_self, d_if, d_ju, d_re, d_ca, cat0, cat1, cat2, cat3, fr_z, fr_s, cc_I, cc_A, cc_N, Nat.reduceAdd, Nat.reduceLT, Nat.reduceLeDiff, Nat.reduceEqDiff, not_true, not_false_iff, z1_0, z1_1, Bool.and_self, Bool.true_and, Bool.and_true, nI_add, pk_mul, nI_clamp, decide_true, Nat.le_refl, bI_eq, bI_z1, nI_ltI, nI_leI, hni, nI_eq, vb_0]
        have hb := en_no (pF_b (by omega)) hb
        exact ih v2 ⟨QF_t x1 q2, r2, GR_s g2, by rw [x4, pF_f hi (show asP T tp tm ts k p w2 i = false by unfold asP; rw [hb]; rfl)]⟩
      · rename_i hb
        refine go_at (blk := b_Witness_isAllSo_53) rfl ?_
        simp (disch := omega) only [b_Witness_isAllSo_53, be_1, be_73, List.getD_cons_zero, List.getD_cons_succ, List.set_cons_zero, List.set_cons_succ, List.length_cons, List.length_nil, pk_I, pk_A, pr_A, pi_I, st_s, st_n, if_true, if_false, eq_self, d_if, d_ju, d_re, d_ca, cat0, cat1, cat2, cat3, fr_z, fr_s, cc_I, cc_A, cc_N, Nat.reduceAdd, Nat.reduceLT, Nat.reduceLeDiff, Nat.reduceEqDiff, not_true, not_false_iff, z1_0, z1_1, Bool.and_self, Bool.true_and, Bool.and_true, nI_add, pk_mul, nI_clamp, decide_true, Nat.le_refl, bI_eq, bI_z1, nI_ltI, nI_leI, hni, nI_eq, vb_0]
        obtain ⟨b, hb⟩ := en_so hb
        have hz : asB T tp tm ts k p w2 = false := by unfold asB; rw [x4, pF_t hi (show asP T tp tm ts k p w2 i = true by unfold asP; rw [hb]; rfl)]; rfl
        rw [hz] at hQ
        exact hQ v2 (QF_t x1 q2)
    · rename_i hw
      have hw := Decidable.not_not.mp hw
      have r3 : RX (am_u x 364 p (nI 0)) 362 (tN T) (-1) 0 (upd (raS T p w2 i) (8 + p) 0) := RX_kn h8 (by omega) x2
      have q3 : QF v (am_u x 364 p (nI 0)) := QF_t x1 (QF_a2 (by omega))
      refine go_at (blk := b_Witness_isAllSo_23) rfl ?_
      simp (disch := omega) only [b_Witness_isAllSo_23, be_6, be_34, be_4, be_1, be_45, be_0, kc_358, rf_358_1, kc_362, rf_362_2, ka_364, List.getD_cons_zero, List.getD_cons_succ, List.set_cons_zero, List.set_cons_succ, List.length_cons, List.length_nil, pk_I, pk_A, pr_A, pi_I, st_s, st_n, if_true, if_false, eq_self, d_if, d_ju, d_re, d_ca, cat0, cat1, cat2, cat3, fr_z, fr_s, cc_I, cc_A, cc_N, Nat.reduceAdd, Nat.reduceLT, Nat.reduceLeDiff, Nat.reduceEqDiff, not_true, not_false_iff, z1_0, z1_1, Bool.and_self, Bool.true_and, Bool.and_true, nI_add, pk_mul, nI_clamp, decide_true, Nat.le_refl, bI_eq, bI_z1, nI_ltI, nI_leI, hni, nI_eq, vb_0]
      refine go_at (blk := b_Witness_isAllSo_33) rfl ?_
      simp (disch := omega) only [b_Witness_isAllSo_33, be_6, be_34, be_1, be_57_1, kc_358, rf_358_1, kc_362, List.getD_cons_zero, List.getD_cons_succ, List.set_cons_zero, List.set_cons_succ, List.length_cons, List.length_nil, pk_I, pk_A, pr_A, pi_I, st_s, st_n, if_true, if_false, eq_self, d_if, d_ju, d_re, d_ca, cat0, cat1, cat2, cat3, fr_z, fr_s, cc_I, cc_A, cc_N, Nat.reduceAdd, Nat.reduceLT, Nat.reduceLeDiff, Nat.reduceEqDiff, not_true, not_false_iff, z1_0, z1_1, Bool.and_self, Bool.true_and, Bool.and_true, nI_add, pk_mul, nI_clamp, decide_true, Nat.le_refl, bI_eq, bI_z1, nI_ltI, nI_leI, hni, nI_eq, vb_0]
      refine kw_pass (k := 1) (KI_q hK q3) r3 (GR_k1 h8 (by omega) x3 (Or.inl rfl)) (by omega) (by omega) ?_
      intro v2 q2 r2' g2'
      have r2 : RX v2 362 (tN T) (-1) 0 (raS T p w2 (i + 1)) := by
        show RX v2 362 (tN T) (-1) 0 (mnT T (-1) 0 (raR p w2 i (raS T p w2 i)))
        unfold raR
        rw [if_pos hw]
        exact r2'
      have g2 : GR (0 + (i : Int) + ((1 : Nat) : Int)) (tN T) (raS T p w2 (i + 1)) := by
        show GR (0 + (i : Int) + ((1 : Nat) : Int)) (tN T) (mnT T (-1) 0 (raR p w2 i (raS T p w2 i)))
        unfold raR
        rw [if_pos hw]
        exact g2'
      refine go_at (blk := b_Witness_isAllSo_41) rfl ?_
      simp (disch := omega) only [b_Witness_isAllSo_41, be_6, be_4, be_57_2, kc_358, List.getD_cons_zero, List.getD_cons_succ, List.set_cons_zero, List.set_cons_succ, List.length_cons, List.length_nil, pk_I, pk_A, pr_A, pi_I, st_s, st_n, if_true, if_false, eq_self, d_if, d_ju, d_re, d_ca, cat0, cat1, cat2, cat3, fr_z, fr_s, cc_I, cc_A, cc_N, Nat.reduceAdd, Nat.reduceLT, Nat.reduceLeDiff, Nat.reduceEqDiff, not_true, not_false_iff, z1_0, z1_1, Bool.and_self, Bool.true_and, Bool.and_true, nI_add, pk_mul, nI_clamp, decide_true, Nat.le_refl, bI_eq, bI_z1, nI_ltI, nI_leI, hni, nI_eq, vb_0]
      refine k_notSo (KI_q (KI_q hK q3) q2) (WX_q (WX_q hW q3) q2) r2 g2 hk (by omega) ?_
      refine go_at (blk := b_Witness_isAllSo_48) rfl ?_
      simp (disch := omega) only [b_Witness_isAllSo_48, be_2, be_49_0, List.getD_cons_zero, List.getD_cons_succ, List.set_cons_zero, List.set_cons_succ, List.length_cons, List.length_nil, pk_I, pk_A, pr_A, pi_I, st_s, st_n, if_true, if_false, eq_self, d_if, d_ju, d_re, d_ca, cat0, cat1, cat2, cat3, fr_z, fr_s, cc_I, cc_A, cc_N, Nat.reduceAdd, Nat.reduceLT, Nat.reduceLeDiff, Nat.reduceEqDiff, not_true, not_false_iff, z1_0, z1_1, Bool.and_self, Bool.true_and, Bool.and_true, nI_add, pk_mul, nI_clamp, decide_true, Nat.le_refl, bI_eq, bI_z1, nI_ltI, nI_leI, hni, nI_eq, vb_0]
      split
      · rename_i hb
        refine go_at (blk := b_Witness_isAllSo_55) rfl ?_
        simp (disch := omega) only [b_Witness_isAllSo_55, be_10, be_51, List.getD_cons_zero, List.getD_cons_succ, List.set_cons_zero, List.set_cons_succ, List.length_cons, List.length_nil, pk_I, pk_A, pr_A, pi_I, st_s, st_n, if_true, if_false, eq_self, d_if, d_ju, d_re, d_ca, cat0, cat1, cat2, cat3, fr_z, fr_s, cc_I, cc_A, cc_N, Nat.reduceAdd, Nat.reduceLT, Nat.reduceLeDiff, Nat.reduceEqDiff, not_true, not_false_iff, z1_0, z1_1, Bool.and_self, Bool.true_and, Bool.and_true, nI_add, pk_mul, nI_clamp, decide_true, Nat.le_refl, bI_eq, bI_z1, nI_ltI, nI_leI, hni, nI_eq, vb_0]
        have hb := en_no (pF_b (by omega)) hb
        exact ih v2 ⟨QF_t q3 q2, r2, GR_s g2, by rw [x4, pF_f hi (show asP T tp tm ts k p w2 i = false by unfold asP; rw [hb]; rfl)]⟩
      · rename_i hb
        refine go_at (blk := b_Witness_isAllSo_53) rfl ?_
        simp (disch := omega) only [b_Witness_isAllSo_53, be_1, be_73, List.getD_cons_zero, List.getD_cons_succ, List.set_cons_zero, List.set_cons_succ, List.length_cons, List.length_nil, pk_I, pk_A, pr_A, pi_I, st_s, st_n, if_true, if_false, eq_self, d_if, d_ju, d_re, d_ca, cat0, cat1, cat2, cat3, fr_z, fr_s, cc_I, cc_A, cc_N, Nat.reduceAdd, Nat.reduceLT, Nat.reduceLeDiff, Nat.reduceEqDiff, not_true, not_false_iff, z1_0, z1_1, Bool.and_self, Bool.true_and, Bool.and_true, nI_add, pk_mul, nI_clamp, decide_true, Nat.le_refl, bI_eq, bI_z1, nI_ltI, nI_leI, hni, nI_eq, vb_0]
        obtain ⟨b, hb⟩ := en_so hb
        have hz : asB T tp tm ts k p w2 = false := by unfold asB; rw [x4, pF_t hi (show asP T tp tm ts k p w2 i = true by unfold asP; rw [hb]; rfl)]; rfl
        rw [hz] at hQ
        exact hQ v2 (QF_t q3 q2)
  · intro x ⟨x1, x2, x3, x4⟩
    try dsimp only at *
    have hne : (nI (lmN tm k) + (-1) < nI (lmN tm k)) ↔ True := by rw [lm_lt hM (by omega)]; exact ⟨fun _ => trivial, fun _ => Nat.le_refl _⟩
    refine go_at (blk := b_Witness_isAllSo_10) rfl ?_
    simp (disch := omega) only [b_Witness_isAllSo_10, be_4, be_49_4, List.getD_cons_zero, List.getD_cons_succ, List.set_cons_zero, List.set_cons_succ, List.length_cons, List.length_nil, pk_I, pk_A, pr_A, pi_I, st_s, st_n, if_true, if_false, eq_self, d_if, d_ju, d_re, d_ca, cat0, cat1, cat2, cat3, fr_z, fr_s, cc_I, cc_A, cc_N, Nat.reduceAdd, Nat.reduceLT, Nat.reduceLeDiff, Nat.reduceEqDiff, not_true, not_false_iff, z1_0, z1_1, Bool.and_self, Bool.true_and, Bool.and_true, nI_add, pk_mul, nI_clamp, decide_true, Nat.le_refl, bI_eq, bI_z1, nI_ltI, nI_leI, hne]
    refine go_at (blk := b_Witness_isAllSo_61) rfl ?_
    simp (disch := omega) only [b_Witness_isAllSo_61, be_1, be_73, List.getD_cons_zero, List.getD_cons_succ, List.set_cons_zero, List.set_cons_succ, List.length_cons, List.length_nil, pk_I, pk_A, pr_A, pi_I, st_s, st_n, if_true, if_false, eq_self, d_if, d_ju, d_re, d_ca, cat0, cat1, cat2, cat3, fr_z, fr_s, cc_I, cc_A, cc_N, Nat.reduceAdd, Nat.reduceLT, Nat.reduceLeDiff, Nat.reduceEqDiff, not_true, not_false_iff, z1_0, z1_1, Bool.and_self, Bool.true_and, Bool.and_true, nI_add, pk_mul, nI_clamp, decide_true, Nat.le_refl, bI_eq, bI_z1, nI_ltI, nI_leI, hne]
    have hz : asB T tp tm ts k p w2 = true := by unfold asB; rw [x4, pF_e]; rfl
    rw [hz] at hQ
    exact hQ x x1
