/-! laid by wip/whole/m8.py: the reference: goes, isPilgrim; what it keeps of now -/
/-- what the reference keeps of now, but for what is done and undone -/
def MI (B : Int) (v : Nat → Nat → Int32) (T : TXT) (lv : Nat) (f : Nat → Int32) : Prop := MX v T lv ∧ v 418 = f ∧ (∀ j, 50 ≤ j → v 419 j = f j) ∧ GR B (tN T) f ∧ GT T ∧ (f 40).toInt ≤ 999 ∧ B ≤ 200000
theorem MI_f {B : Int} {v v' : Nat → Nat → Int32} {T : TXT} {lv : Nat} {f : Nat → Int32} (h : MI B v T lv f) (e : MF v v') : MI B v' T lv f := by
  obtain ⟨h1, h2, h3, h4⟩ := h
  exact ⟨MX_f h1 e, (e.1 418 (by omega) (by omega) (by omega) (by omega)).trans h2, fun j hj => (e.2.2 j hj).trans (h3 j hj), h4⟩
theorem pil_in {n : Nat} {y : Int32} (hn : n ≤ 8) : inB y (nI 0) (nI n - nI 1) = pilB n y := by
  have e : (nI n - nI 1).toInt = (n : Int) - 1 := by
    rw [Int32.toInt_sub, nI_toInt (by omega), nI_toInt (by omega), Int.bmod_eq_of_le (by omega) (by omega)]
    rfl
  have h : (nI n - nI 1 < y) ↔ ¬ y < nI n := by
    rw [Int32.lt_iff_toInt_lt, Int32.lt_iff_toInt_lt, e, nI_toInt (by omega)]
    omega
  unfold inB pilB
  rw [show (nI 0 : Int32) = 0 from rfl]
  by_cases h2 : y < nI n
  · rw [decide_eq_true h2, decide_eq_false (fun z => h.mp z h2)]
    rfl
  · rw [decide_eq_false h2, decide_eq_true (h.mpr h2)]
    rfl
theorem r_isPil {d : Nat} {v : Nat → Nat → Int32} {w : Nat → Nat → Int64} {Q : Option Value → am_H → Prop} {T : TXT} {lv : Nat} {y : Int32} (hX : MX v T lv) (hQ : Q (some (.int (bI (pilB (tN T) y)))) (428, 26053, KD, RF, v, w)) : am_Ca (d + 2) M_Model_isPilgrim [.ref 388, .int y] (428, 26053, KD, RF, v, w) Q := by
  obtain ⟨h18, hlv, h398, hn⟩ := hX.1
  refine ca_in (k := k_Model_isPilgrim) (nL := 2) rfl (Nat.le_of_ble_eq_true rfl) ?_
  show am_Go am_X0 _ k_Model_isPilgrim 0 ([.ref 388, .int y], [], _) _
  refine go_at (blk := b_Model_isPilgrim_0) rfl ?_
  simp (disch := omega) only [b_Model_isPilgrim_0, be_4, be_1, be_6, be_34, be_33, be_38, be_13, be_58_3, kc_388, rf_388_23, ka_398, List.getD_cons_zero, List.getD_cons_succ, List.set_cons_zero, List.set_cons_succ, List.length_cons, List.length_nil, pk_I, pk_A, pr_A, pi_I, st_s, st_n, if_true, if_false, eq_self, d_if, d_ju, d_re, d_ca, cat0, cat1, cat2, cat3, fr_z, fr_s, cc_I, cc_A, cc_N, Nat.reduceAdd, Nat.reduceLT, Nat.reduceLeDiff, Nat.reduceEqDiff, not_true, not_false_iff, z1_0, z1_1, Bool.and_self, Bool.true_and, Bool.and_true, nI_add, pk_mul, nI_clamp, decide_true, Nat.le_refl, bI_eq, bI_z1, h18, h398]
  refine m_in ?_
  rw [pil_in hn]
  refine go_at (blk := b_Model_isPilgrim_16) rfl ?_
  simp (disch := omega) only [b_Model_isPilgrim_16, be_73, List.getD_cons_zero, List.getD_cons_succ, List.set_cons_zero, List.set_cons_succ, List.length_cons, List.length_nil, pk_I, pk_A, pr_A, pi_I, st_s, st_n, if_true, if_false, eq_self, d_if, d_ju, d_re, d_ca, cat0, cat1, cat2, cat3, fr_z, fr_s, cc_I, cc_A, cc_N, Nat.reduceAdd, Nat.reduceLT, Nat.reduceLeDiff, Nat.reduceEqDiff, not_true, not_false_iff, z1_0, z1_1, Bool.and_self, Bool.true_and, Bool.and_true, nI_add, pk_mul, nI_clamp, decide_true, Nat.le_refl, bI_eq, bI_z1, h18, h398]
  exact hQ
theorem r_goes {d : Nat} {v : Nat → Nat → Int32} {w : Nat → Nat → Int64} {Q : Option Value → am_H → Prop} {T : TXT} {lv : Nat} {g : Nat → Int32} {no md : Int32} {k : Nat} (hk : k ≤ 1000) (hX : MX v T lv) (hr : MR v g no md) (hQ : ∀ v', MF v v' → MR v' (itT T no md k g) no md → Q none (428, 26053, KD, RF, v', w)) : am_Ca (d + 6) M_Model_goes [.ref 388, .int (nI k)] (428, 26053, KD, RF, v, w) Q := by
  refine ca_in (k := k_Model_goes) (nL := 3) rfl (Nat.le_of_ble_eq_true rfl) ?_
  show am_Go am_X0 _ k_Model_goes 0 ([.ref 388, .int (nI k), .null], [], _) _
  refine go_at (blk := b_Model_goes_0) rfl ?_
  simp (disch := omega) only [b_Model_goes_0, be_1, be_7, be_0, List.getD_cons_zero, List.getD_cons_succ, List.set_cons_zero, List.set_cons_succ, List.length_cons, List.length_nil, pk_I, pk_A, pr_A, pi_I, st_s, st_n, if_true, if_false, eq_self, d_if, d_ju, d_re, d_ca, cat0, cat1, cat2, cat3, fr_z, fr_s, cc_I, cc_A, cc_N, Nat.reduceAdd, Nat.reduceLT, Nat.reduceLeDiff, Nat.reduceEqDiff, not_true, not_false_iff, z1_0, z1_1, Bool.and_self, Bool.true_and, Bool.and_true, nI_add, pk_mul, nI_clamp, decide_true, Nat.le_refl, bI_eq, bI_z1]
  refine go_loopA (α := (Nat → Nat → Int32)) (fun i x => ([.ref 388, .int (nI k), .int (nI i)], [], (428, 26053, KD, RF, x, w))) (fun i x => MF v x ∧ MR x (itT T no md i g) no md) (k) ?_ ?_ v ⟨MF_r, hr⟩
  · intro i x hi ⟨i1, i2⟩ ih
    try dsimp only at *
    have hni : ¬ k ≤ i := by omega
    refine go_at (blk := b_Model_goes_2) rfl ?_
    simp (disch := omega) only [b_Model_goes_2, be_4, be_49_3, List.getD_cons_zero, List.getD_cons_succ, List.set_cons_zero, List.set_cons_succ, List.length_cons, List.length_nil, pk_I, pk_A, pr_A, pi_I, st_s, st_n, if_true, if_false, eq_self, d_if, d_ju, d_re, d_ca, cat0, cat1, cat2, cat3, fr_z, fr_s, cc_I, cc_A, cc_N, Nat.reduceAdd, Nat.reduceLT, Nat.reduceLeDiff, Nat.reduceEqDiff, not_true, not_false_iff, z1_0, z1_1, Bool.and_self, Bool.true_and, Bool.and_true, nI_add, pk_mul, nI_clamp, decide_true, Nat.le_refl, bI_eq, bI_z1, nI_ltI, nI_leI, hni]
    refine go_at (blk := b_Model_goes_7) rfl ?_
    simp (disch := omega) only [b_Model_goes_7, be_6, be_57_0, kc_388, List.getD_cons_zero, List.getD_cons_succ, List.set_cons_zero, List.set_cons_succ, List.length_cons, List.length_nil, pk_I, pk_A, pr_A, pi_I, st_s, st_n, if_true, if_false, eq_self, d_if, d_ju, d_re, d_ca, cat0, cat1, cat2, cat3, fr_z, fr_s, cc_I, cc_A, cc_N, Nat.reduceAdd, Nat.reduceLT, Nat.reduceLeDiff, Nat.reduceEqDiff, not_true, not_false_iff, z1_0, z1_1, Bool.and_self, Bool.true_and, Bool.and_true, nI_add, pk_mul, nI_clamp, decide_true, Nat.le_refl, bI_eq, bI_z1, nI_ltI, nI_leI, hni]
    refine r_min (MX_f hX i1) i2 ?_
    intro v2 q2 r2
    refine go_at (blk := b_Model_goes_11) rfl ?_
    simp (disch := omega) only [b_Model_goes_11, be_10, be_51, List.getD_cons_zero, List.getD_cons_succ, List.set_cons_zero, List.set_cons_succ, List.length_cons, List.length_nil, pk_I, pk_A, pr_A, pi_I, st_s, st_n, if_true, if_false, eq_self, d_if, d_ju, d_re, d_ca, cat0, cat1, cat2, cat3, fr_z, fr_s, cc_I, cc_A, cc_N, Nat.reduceAdd, Nat.reduceLT, Nat.reduceLeDiff, Nat.reduceEqDiff, not_true, not_false_iff, z1_0, z1_1, Bool.and_self, Bool.true_and, Bool.and_true, nI_add, pk_mul, nI_clamp, decide_true, Nat.le_refl, bI_eq, bI_z1, nI_ltI, nI_leI, hni]
    exact ih v2 ⟨MF_t i1 q2, r2⟩
  · intro x ⟨i1, i2⟩
    try dsimp only at *
    refine go_at (blk := b_Model_goes_2) rfl ?_
    simp (disch := omega) only [b_Model_goes_2, be_4, be_49_3, List.getD_cons_zero, List.getD_cons_succ, List.set_cons_zero, List.set_cons_succ, List.length_cons, List.length_nil, pk_I, pk_A, pr_A, pi_I, st_s, st_n, if_true, if_false, eq_self, d_if, d_ju, d_re, d_ca, cat0, cat1, cat2, cat3, fr_z, fr_s, cc_I, cc_A, cc_N, Nat.reduceAdd, Nat.reduceLT, Nat.reduceLeDiff, Nat.reduceEqDiff, not_true, not_false_iff, z1_0, z1_1, Bool.and_self, Bool.true_and, Bool.and_true, nI_add, pk_mul, nI_clamp, decide_true, Nat.le_refl, bI_eq, bI_z1, nI_ltI, nI_leI]
    refine go_at (blk := b_Model_goes_17) rfl ?_
    simp (disch := omega) only [b_Model_goes_17, be_56, List.getD_cons_zero, List.getD_cons_succ, List.set_cons_zero, List.set_cons_succ, List.length_cons, List.length_nil, pk_I, pk_A, pr_A, pi_I, st_s, st_n, if_true, if_false, eq_self, d_if, d_ju, d_re, d_ca, cat0, cat1, cat2, cat3, fr_z, fr_s, cc_I, cc_A, cc_N, Nat.reduceAdd, Nat.reduceLT, Nat.reduceLeDiff, Nat.reduceEqDiff, not_true, not_false_iff, z1_0, z1_1, Bool.and_self, Bool.true_and, Bool.and_true, nI_add, pk_mul, nI_clamp, decide_true, Nat.le_refl, bI_eq, bI_z1, nI_ltI, nI_leI]
    exact hQ x i1 i2
theorem rm_copies {d : Nat} {v : Nat → Nat → Int32} {w : Nat → Nat → Int64} {Q : Option Value → am_H → Prop} {T : TXT} {lv : Nat} {f : Nat → Int32} {B : Int} (hM : MI B v T lv f) (hQ : ∀ v', MF v v' → MR v' f (-1) 0 → Q none (428, 26053, KD, RF, v', w)) : am_Ca (d + 2) M_Model_copies [.ref 388] (428, 26053, KD, RF, v, w) Q := by
  refine r_copies (fun j hj => by rw [hM.2.1]; exact hM.2.2.1 j hj) (fun v' h1 h2 => ?_)
  rw [hM.2.1] at h2
  exact hQ v' h1 h2
