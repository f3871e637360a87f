/-! laid by wip/whole/k3.py: the class: a stair: minutes go by -/
/-- a loop whose states are not known beforehand -/
theorem go_loopA {α : Type} {X : am_X} {d : Nat} {k : Nat → List am_I} {pc : Nat} {Q : Option Value → am_H → Prop} (s : Nat → α → am_S) (I : Nat → α → Prop) (N : Nat) (body : ∀ i x, i < N → I i x → (∀ x', I (i + 1) x' → am_Go X d k pc (s (i + 1) x') Q) → am_Go X d k pc (s i x) Q) (fin : ∀ x, I N x → am_Go X d k pc (s N x) Q) (x : α) (h0 : I 0 x) : am_Go X d k pc (s 0 x) Q := by
  have h : ∀ j, j ≤ N → ∀ x, I (N - j) x → am_Go X d k pc (s (N - j) x) Q := by
    intro j
    induction j with
    | zero => intro _ x hx; exact fin x hx
    | succ j ih =>
      intro hj x hx
      refine body (N - (j + 1)) x (by omega) hx ?_
      intro x' hx'
      rw [show N - (j + 1) + 1 = N - j by omega] at hx' ⊢
      exact ih (by omega) x' hx'
  have := h N (Nat.le_refl _) x
  rw [Nat.sub_self] at this
  exact this h0
/-- nothing but one pilgrim has changed -/
def TP (v v' : Nat → Nat → Int32) (a p : Nat) : Prop := ∀ c q, (c < a + 1 ∨ a + 5 < c ∨ q ≠ p) → v' c q = v c q
theorem TP_r {v : Nat → Nat → Int32} {a p : Nat} : TP v v a p := fun _ _ _ => rfl
theorem TP_u {v v' : Nat → Nat → Int32} {a p k : Nat} {x : Int32} (hk : 1 ≤ k ∧ k ≤ 5) (h : TP v v' a p) : TP v (am_u v' (a + k) p x) a p := by
  intro c q hc
  rw [← h c q hc]
  by_cases e : c = a + k
  · subst e
    rw [am_u_at, upd_ne (by omega)]
  · rw [am_u_ne e]
theorem TP_t {v v' v'' : Nat → Nat → Int32} {a p : Nat} (h : TP v v' a p) (h' : TP v' v'' a p) : TP v v'' a p := fun c q hc => (h' c q hc).trans (h c q hc)
theorem TP_c {v v' : Nat → Nat → Int32} {a p c : Nat} (h : TP v v' a p) (hc : c < a + 1 ∨ a + 5 < c) : v' c = v c := by
  funext q
  exact h c q (by omega)
theorem am_u_self {v : Nat → Nat → Int32} {c k : Nat} : am_u v c k (v c k) = v := by
  funext d
  unfold am_u
  split
  · rename_i h
    subst h
    funext j
    unfold upd
    split
    · rename_i h; rw [h]
    · rfl
  · rfl
theorem vb_0 : vp_nar FieldType.boolean (nI 0) = nI 0 := rfl
theorem vb_1 : vp_nar FieldType.boolean (nI 1) = nI 1 := rfl
theorem mx_sp {s by_ : Int32} : (if nI 0 < s + by_ then s + by_ else nI 0) = spS by_ s := by
  unfold spS
  rw [nI_z]
  simp only [Int32.lt_iff_toInt_lt, show (0 : Int32).toInt = 0 from rfl]
  repeat' split
  all_goals first
    | rfl
    | omega
    | (apply Int32.toInt_inj.mp; rw [show (0 : Int32).toInt = 0 from rfl]; omega)
theorem mx_dn {s : Int32} (h : 0 ≤ s.toInt) : (if nI 0 < s - nI 1 then s - nI 1 else nI 0) = if 0 < s then s - 1 else s := by
  rw [nI_z, nI_o]
  simp only [Int32.lt_iff_toInt_lt, show (0 : Int32).toInt = 0 from rfl]
  by_cases h0 : 0 < s.toInt
  · rw [toI_s1 h0, if_pos h0]
    split
    · rfl
    · apply Int32.toInt_inj.mp
      rw [toI_s1 h0, show (0 : Int32).toInt = 0 from rfl]
      omega
  · have hs : s = 0 := by
      apply Int32.toInt_inj.mp
      rw [show (0 : Int32).toInt = 0 from rfl]
      omega
    subst hs
    decide
theorem k_arriveIn {d : Nat} {v : Nat → Nat → Int32} {w : Nat → Nat → Int64} {Q : Option Value → am_H → Prop} {a : Nat} (ha : ST a) {p : Nat} {m : Int32} (hp : p < 8) (hQ : Q none (428, 26053, KD, RF, am_u (am_u (am_u v (a + 1) p (v 25 0)) (a + 5) p m) (a + 2) p (nI 0), w)) : am_Ca (d + 1) M_Stair_arriveIn [.ref a, .int (nI p), .int m] (428, 26053, KD, RF, v, w) Q := by
  refine ca_in (k := k_Stair_arriveIn) (nL := 3) rfl (Nat.le_of_ble_eq_true rfl) ?_
  show am_Go am_X0 _ k_Stair_arriveIn 0 ([.ref a, .int (nI p), .int m], [], _) _
  refine go_at (blk := b_Stair_arriveIn_0) rfl ?_
  simp (disch := omega) only [b_Stair_arriveIn_0, be_6, be_34, be_4, be_33, be_43, be_1, be_45, be_56, kc_st ha, st_r1 ha, st_r0 ha, kc_25, ka_st1 ha, st_r5 ha, ka_st5 ha, st_r2 ha, ka_st2 ha, List.getD_cons_zero, List.getD_cons_succ, List.set_cons_zero, List.set_cons_succ, List.length_cons, List.length_nil, pk_I, pk_A, pr_A, pi_I, st_s, st_n, if_true, if_false, eq_self, d_if, d_ju, d_re, d_ca, cat0, cat1, cat2, cat3, fr_z, fr_s, cc_I, cc_A, cc_N, Nat.reduceAdd, Nat.reduceLT, Nat.reduceLeDiff, Nat.reduceEqDiff, not_true, not_false_iff, z1_0, z1_1, Bool.and_self, Bool.true_and, Bool.and_true, nI_add, pk_mul, nI_clamp, decide_true, Nat.le_refl, bI_eq, bI_z1, vb_0, vb_1]
  exact hQ
theorem k_takeAway {d : Nat} {v : Nat → Nat → Int32} {w : Nat → Nat → Int64} {Q : Option Value → am_H → Prop} {a : Nat} (ha : ST a) {p : Nat} (hp : p < 8) (h0 : decide (v (a + 5) p = -2) = false → Q none (428, 26053, KD, RF, v, w)) (h1 : decide (v (a + 5) p = -2) = true → Q none (428, 26053, KD, RF, am_u (am_u (am_u v (a + 1) p (v 25 0)) (a + 5) p (v a 7)) (a + 2) p (nI 0), w)) : am_Ca (d + 2) M_Stair_takeAway [.ref a, .int (nI p)] (428, 26053, KD, RF, v, w) Q := by
  refine ca_in (k := k_Stair_takeAway) (nL := 2) rfl (Nat.le_of_ble_eq_true rfl) ?_
  show am_Go am_X0 _ k_Stair_takeAway 0 ([.ref a, .int (nI p)], [], _) _
  refine go_at (blk := b_Stair_takeAway_0) rfl ?_
  simp (disch := omega) only [b_Stair_takeAway_0, be_6, be_4, be_57_1, kc_st ha, List.getD_cons_zero, List.getD_cons_succ, List.set_cons_zero, List.set_cons_succ, List.length_cons, List.length_nil, pk_I, pk_A, pr_A, pi_I, st_s, st_n, if_true, if_false, eq_self, d_if, d_ju, d_re, d_ca, cat0, cat1, cat2, cat3, fr_z, fr_s, cc_I, cc_A, cc_N, Nat.reduceAdd, Nat.reduceLT, Nat.reduceLeDiff, Nat.reduceEqDiff, not_true, not_false_iff, z1_0, z1_1, Bool.and_self, Bool.true_and, Bool.and_true, nI_add, pk_mul, nI_clamp, decide_true, Nat.le_refl, bI_eq, bI_z1]
  refine k_isOn ha hp ?_
  refine go_at (blk := b_Stair_takeAway_5) rfl ?_
  simp (disch := omega) only [b_Stair_takeAway_5, be_50_0, List.getD_cons_zero, List.getD_cons_succ, List.set_cons_zero, List.set_cons_succ, List.length_cons, List.length_nil, pk_I, pk_A, pr_A, pi_I, st_s, st_n, if_true, if_false, eq_self, d_if, d_ju, d_re, d_ca, cat0, cat1, cat2, cat3, fr_z, fr_s, cc_I, cc_A, cc_N, Nat.reduceAdd, Nat.reduceLT, Nat.reduceLeDiff, Nat.reduceEqDiff, not_true, not_false_iff, z1_0, z1_1, Bool.and_self, Bool.true_and, Bool.and_true, nI_add, pk_mul, nI_clamp, decide_true, Nat.le_refl, bI_eq, bI_z1]
  split
  · rename_i hc
    refine go_at (blk := b_Stair_takeAway_17) rfl ?_
    simp (disch := omega) only [b_Stair_takeAway_17, be_56, List.getD_cons_zero, List.getD_cons_succ, List.set_cons_zero, List.set_cons_succ, List.length_cons, List.length_nil, pk_I, pk_A, pr_A, pi_I, st_s, st_n, if_true, if_false, eq_self, d_if, d_ju, d_re, d_ca, cat0, cat1, cat2, cat3, fr_z, fr_s, cc_I, cc_A, cc_N, Nat.reduceAdd, Nat.reduceLT, Nat.reduceLeDiff, Nat.reduceEqDiff, not_true, not_false_iff, z1_0, z1_1, Bool.and_self, Bool.true_and, Bool.and_true, nI_add, pk_mul, nI_clamp, decide_true, Nat.le_refl, bI_eq, bI_z1]
    exact h0 hc
  · rename_i hc
    refine go_at (blk := b_Stair_takeAway_8) rfl ?_
    simp (disch := omega) only [b_Stair_takeAway_8, be_6, be_4, be_33, be_57_2, kc_st ha, List.getD_cons_zero, List.getD_cons_succ, List.set_cons_zero, List.set_cons_succ, List.length_cons, List.length_nil, pk_I, pk_A, pr_A, pi_I, st_s, st_n, if_true, if_false, eq_self, d_if, d_ju, d_re, d_ca, cat0, cat1, cat2, cat3, fr_z, fr_s, cc_I, cc_A, cc_N, Nat.reduceAdd, Nat.reduceLT, Nat.reduceLeDiff, Nat.reduceEqDiff, not_true, not_false_iff, z1_0, z1_1, Bool.and_self, Bool.true_and, Bool.and_true, nI_add, pk_mul, nI_clamp, decide_true, Nat.le_refl, bI_eq, bI_z1]
    refine k_arriveIn ha hp ?_
    refine go_at (blk := b_Stair_takeAway_17) rfl ?_
    simp (disch := omega) only [b_Stair_takeAway_17, be_56, List.getD_cons_zero, List.getD_cons_succ, List.set_cons_zero, List.set_cons_succ, List.length_cons, List.length_nil, pk_I, pk_A, pr_A, pi_I, st_s, st_n, if_true, if_false, eq_self, d_if, d_ju, d_re, d_ca, cat0, cat1, cat2, cat3, fr_z, fr_s, cc_I, cc_A, cc_N, Nat.reduceAdd, Nat.reduceLT, Nat.reduceLeDiff, Nat.reduceEqDiff, not_true, not_false_iff, z1_0, z1_1, Bool.and_self, Bool.true_and, Bool.and_true, nI_add, pk_mul, nI_clamp, decide_true, Nat.le_refl, bI_eq, bI_z1]
    exact h1 (by simpa using hc)
set_option maxHeartbeats 1000000 in
theorem k_carry33 {d : Nat} {v : Nat → Nat → Int32} {w : Nat → Nat → Int64} {Q : Option Value → am_H → Prop} {a : Nat} (ha : ST a) {T : TXT} {no : Int32} {f : Nat → Int32} {B : Int} (hk : KX v T) (hg : GR B (tN T) f) (h41 : v a 7 = f 41) {p : Nat} {y : Int32} (hp : p < tN T) (hx : PX v a no f p) (ho : onB f no p = true) (hQ : ∀ v', TP v v' a p → PX v' a no (minR (tN T) (tT T) y no (tK T) (tS T) f) p → Q none (428, 26053, KD, RF, v', w)) : am_Go am_X0 (d + 1) k_Stair_carry 33 ([.ref a, .int (nI p), .int y], [], (428, 26053, KD, RF, am_u v (a + 4) p (if f (8 + p) = 1 ∧ 0 < y then f (24 + p) + tK T p * y else f (24 + p)), w)) Q := by
  obtain ⟨hlo, hhi⟩ := st_lo ha
  obtain ⟨k0, k1, k2, k3, k4, _⟩ := hk
  have hp8 : p < 8 := by omega
  obtain ⟨e1, e2, e3, e4, e5⟩ := hx.1 (onB_no ho).1
  obtain ⟨f0, f1, f2, f3, f4, f5⟩ := k4 p hp
  obtain ⟨q0, q1, q2, q3⟩ := hg.1 p hp
  have hm1 : f 41 ≠ -1 := by intro z; have := hg.2.2.1; rw [z] at this; exact absurd this (by decide)
  refine go_at (blk := b_Stair_carry_33) rfl ?_
  simp (disch := omega) only [b_Stair_carry_33, be_6, be_34, be_4, be_1, be_38, be_12, be_64, be_43, be_33, be_49_2, kc_st ha, st_r1 ha, ka_st1 ha, st_r0 ha, kc_25, List.getD_cons_zero, List.getD_cons_succ, List.set_cons_zero, List.set_cons_succ, List.length_cons, List.length_nil, pk_I, pk_A, pr_A, pi_I, st_s, st_n, if_true, if_false, eq_self, d_if, d_ju, d_re, d_ca, cat0, cat1, cat2, cat3, fr_z, fr_s, cc_I, cc_A, cc_N, Nat.reduceAdd, Nat.reduceLT, Nat.reduceLeDiff, Nat.reduceEqDiff, not_true, not_false_iff, z1_0, z1_1, Bool.and_self, Bool.true_and, Bool.and_true, nI_add, pk_mul, nI_clamp, decide_true, Nat.le_refl, bI_eq, bI_z1, vb_0, vb_1, am_u_at, am_u_ne, upd_at, upd_ne, e1, e2, e3, e4, k2, mx_sp]
  split
  · rename_i hs
    obtain ⟨m0, m1, m2, m3, m4⟩ := minR_stay (n := tN T) (kn := tK T) (so := tS T) hp hp8 ho hs
    refine go_at (blk := b_Stair_carry_79) rfl ?_
    simp (disch := omega) only [b_Stair_carry_79, be_6, be_34, be_4, be_40, be_50_0, kc_st ha, st_r2 ha, ka_st2 ha, List.getD_cons_zero, List.getD_cons_succ, List.set_cons_zero, List.set_cons_succ, List.length_cons, List.length_nil, pk_I, pk_A, pr_A, pi_I, st_s, st_n, if_true, if_false, eq_self, d_if, d_ju, d_re, d_ca, cat0, cat1, cat2, cat3, fr_z, fr_s, cc_I, cc_A, cc_N, Nat.reduceAdd, Nat.reduceLT, Nat.reduceLeDiff, Nat.reduceEqDiff, not_true, not_false_iff, z1_0, z1_1, Bool.and_self, Bool.true_and, Bool.and_true, nI_add, pk_mul, nI_clamp, decide_true, Nat.le_refl, bI_eq, bI_z1, vb_0, vb_1, am_u_at, am_u_ne, upd_at, upd_ne, e1, e2, e3, e4, k2, mx_sp]
    split
    · rename_i h8
      refine go_at (blk := b_Stair_carry_130) rfl ?_
      simp (disch := omega) only [b_Stair_carry_130, be_6, be_34, be_4, be_1, be_38, be_13, be_64, be_43, be_0, kc_st ha, st_r3 ha, ka_st3 ha, List.getD_cons_zero, List.getD_cons_succ, List.set_cons_zero, List.set_cons_succ, List.length_cons, List.length_nil, pk_I, pk_A, pr_A, pi_I, st_s, st_n, if_true, if_false, eq_self, d_if, d_ju, d_re, d_ca, cat0, cat1, cat2, cat3, fr_z, fr_s, cc_I, cc_A, cc_N, Nat.reduceAdd, Nat.reduceLT, Nat.reduceLeDiff, Nat.reduceEqDiff, not_true, not_false_iff, z1_0, z1_1, Bool.and_self, Bool.true_and, Bool.and_true, nI_add, pk_mul, nI_clamp, decide_true, Nat.le_refl, bI_eq, bI_z1, vb_0, vb_1, am_u_at, am_u_ne, upd_at, upd_ne, e1, e2, e3, e4, k2, mx_sp, mx_dn]
      refine go_at (blk := b_Stair_carry_148) rfl ?_
      simp (disch := omega) only [b_Stair_carry_148, be_56, List.getD_cons_zero, List.getD_cons_succ, List.set_cons_zero, List.set_cons_succ, List.length_cons, List.length_nil, pk_I, pk_A, pr_A, pi_I, st_s, st_n, if_true, if_false, eq_self, d_if, d_ju, d_re, d_ca, cat0, cat1, cat2, cat3, fr_z, fr_s, cc_I, cc_A, cc_N, Nat.reduceAdd, Nat.reduceLT, Nat.reduceLeDiff, Nat.reduceEqDiff, not_true, not_false_iff, z1_0, z1_1, Bool.and_self, Bool.true_and, Bool.and_true, nI_add, pk_mul, nI_clamp, decide_true, Nat.le_refl, bI_eq, bI_z1, vb_0, vb_1, am_u_at, am_u_ne, upd_at, upd_ne, e1, e2, e3, e4, k2, mx_sp, mx_dn]
      refine hQ _ (TP_u (by omega) (TP_u (by omega) (TP_u (by omega) TP_r))) ⟨fun _ => ⟨?_, ?_, ?_, ?_, ?_⟩, fun h => absurd h (onB_no ho).1⟩
      · rw [m0]; simp (disch := omega) only [am_u_at, am_u_ne, upd_at, upd_ne, e1, e2, e3, e4, e5, h8, if_true, onB_no ho]
      · rw [m1]; simp (disch := omega) only [am_u_at, am_u_ne, upd_at, upd_ne, e1, e2, e3, e4, e5, h8, if_true, onB_no ho]
      · rw [m2]; simp (disch := omega) only [am_u_at, am_u_ne, upd_at, upd_ne, e1, e2, e3, e4, e5, h8, if_true, onB_no ho]
      · rw [m3]; simp (disch := omega) only [am_u_at, am_u_ne, upd_at, upd_ne, e1, e2, e3, e4, e5, h8, if_true, onB_no ho]
      · rw [m4]; simp (disch := omega) only [am_u_at, am_u_ne, upd_at, upd_ne, e1, e2, e3, e4, e5, h8, if_true, onB_no ho]
    · rename_i h8
      have h81 : f (8 + p) = 1 := q0.resolve_left h8
      refine go_at (blk := b_Stair_carry_88) rfl ?_
      simp (disch := omega) only [b_Stair_carry_88, be_6, be_34, be_4, be_32, be_38, be_1, be_12, be_43, be_49_3, kc_st ha, st_r3 ha, ka_st3 ha, st_r2 ha, st_r0 ha, kc_25, rf_25_6, ka_29, List.getD_cons_zero, List.getD_cons_succ, List.set_cons_zero, List.set_cons_succ, List.length_cons, List.length_nil, pk_I, pk_A, pr_A, pi_I, st_s, st_n, if_true, if_false, eq_self, d_if, d_ju, d_re, d_ca, cat0, cat1, cat2, cat3, fr_z, fr_s, cc_I, cc_A, cc_N, Nat.reduceAdd, Nat.reduceLT, Nat.reduceLeDiff, Nat.reduceEqDiff, not_true, not_false_iff, z1_0, z1_1, Bool.and_self, Bool.true_and, Bool.and_true, nI_add, pk_mul, nI_clamp, decide_true, Nat.le_refl, bI_eq, bI_z1, vb_0, vb_1, am_u_at, am_u_ne, upd_at, upd_ne, e1, e2, e3, e4, k2, mx_sp, f3]
      split
      · rename_i h9
        have h80 : ¬ (1 : Int32) = 0 := by decide
        have h9a : ¬ f (16 + p) + 1 < tS T p := Int32.not_lt.mpr h9
        refine go_at (blk := b_Stair_carry_125) rfl ?_
        simp (disch := omega) only [b_Stair_carry_125, be_1, be_0, List.getD_cons_zero, List.getD_cons_succ, List.set_cons_zero, List.set_cons_succ, List.length_cons, List.length_nil, pk_I, pk_A, pr_A, pi_I, st_s, st_n, if_true, if_false, eq_self, d_if, d_ju, d_re, d_ca, cat0, cat1, cat2, cat3, fr_z, fr_s, cc_I, cc_A, cc_N, Nat.reduceAdd, Nat.reduceLT, Nat.reduceLeDiff, Nat.reduceEqDiff, not_true, not_false_iff, z1_0, z1_1, Bool.and_self, Bool.true_and, Bool.and_true, nI_add, pk_mul, nI_clamp, decide_true, Nat.le_refl, bI_eq, bI_z1, vb_0, vb_1, am_u_at, am_u_ne, upd_at, upd_ne, e1, e2, e3, e4, k2, mx_sp, f3]
        refine go_at (blk := b_Stair_carry_126) rfl ?_
        simp (disch := omega) only [b_Stair_carry_126, be_45, be_51, ka_st2 ha, List.getD_cons_zero, List.getD_cons_succ, List.set_cons_zero, List.set_cons_succ, List.length_cons, List.length_nil, pk_I, pk_A, pr_A, pi_I, st_s, st_n, if_true, if_false, eq_self, d_if, d_ju, d_re, d_ca, cat0, cat1, cat2, cat3, fr_z, fr_s, cc_I, cc_A, cc_N, Nat.reduceAdd, Nat.reduceLT, Nat.reduceLeDiff, Nat.reduceEqDiff, not_true, not_false_iff, z1_0, z1_1, Bool.and_self, Bool.true_and, Bool.and_true, nI_add, pk_mul, nI_clamp, decide_true, Nat.le_refl, bI_eq, bI_z1, vb_0, vb_1, am_u_at, am_u_ne, upd_at, upd_ne, e1, e2, e3, e4, k2, mx_sp, f3]
        refine go_at (blk := b_Stair_carry_148) rfl ?_
        simp (disch := omega) only [b_Stair_carry_148, be_56, List.getD_cons_zero, List.getD_cons_succ, List.set_cons_zero, List.set_cons_succ, List.length_cons, List.length_nil, pk_I, pk_A, pr_A, pi_I, st_s, st_n, if_true, if_false, eq_self, d_if, d_ju, d_re, d_ca, cat0, cat1, cat2, cat3, fr_z, fr_s, cc_I, cc_A, cc_N, Nat.reduceAdd, Nat.reduceLT, Nat.reduceLeDiff, Nat.reduceEqDiff, not_true, not_false_iff, z1_0, z1_1, Bool.and_self, Bool.true_and, Bool.and_true, nI_add, pk_mul, nI_clamp, decide_true, Nat.le_refl, bI_eq, bI_z1, vb_0, vb_1, am_u_at, am_u_ne, upd_at, upd_ne, e1, e2, e3, e4, k2, mx_sp, f3]
        refine hQ _ (TP_u (by omega) (TP_u (by omega) (TP_u (by omega) (TP_u (by omega) TP_r)))) ⟨fun _ => ⟨?_, ?_, ?_, ?_, ?_⟩, fun h => absurd h (onB_no ho).1⟩
        · rw [m0]; simp (disch := omega) only [am_u_at, am_u_ne, upd_at, upd_ne, e1, e2, e3, e4, e5, h81, h80, h9a, if_true, if_false, onB_no ho, nI_z, nI_o]
        · rw [m1]; simp (disch := omega) only [am_u_at, am_u_ne, upd_at, upd_ne, e1, e2, e3, e4, e5, h81, h80, h9a, if_true, if_false, onB_no ho, nI_z, nI_o]
        · rw [m2]; simp (disch := omega) only [am_u_at, am_u_ne, upd_at, upd_ne, e1, e2, e3, e4, e5, h81, h80, h9a, if_true, if_false, onB_no ho, nI_z, nI_o]
        · rw [m3]; simp (disch := omega) only [am_u_at, am_u_ne, upd_at, upd_ne, e1, e2, e3, e4, e5, h81, h80, h9a, if_true, if_false, onB_no ho, nI_z, nI_o]
        · rw [m4]; simp (disch := omega) only [am_u_at, am_u_ne, upd_at, upd_ne, e1, e2, e3, e4, e5, h81, h80, h9a, if_true, if_false, onB_no ho, nI_z, nI_o]
      · rename_i h9
        have h80 : ¬ (1 : Int32) = 0 := by decide
        have h9a : f (16 + p) + 1 < tS T p := Int32.not_le.mp h9
        refine go_at (blk := b_Stair_carry_121) rfl ?_
        simp (disch := omega) only [b_Stair_carry_121, be_1, be_51, List.getD_cons_zero, List.getD_cons_succ, List.set_cons_zero, List.set_cons_succ, List.length_cons, List.length_nil, pk_I, pk_A, pr_A, pi_I, st_s, st_n, if_true, if_false, eq_self, d_if, d_ju, d_re, d_ca, cat0, cat1, cat2, cat3, fr_z, fr_s, cc_I, cc_A, cc_N, Nat.reduceAdd, Nat.reduceLT, Nat.reduceLeDiff, Nat.reduceEqDiff, not_true, not_false_iff, z1_0, z1_1, Bool.and_self, Bool.true_and, Bool.and_true, nI_add, pk_mul, nI_clamp, decide_true, Nat.le_refl, bI_eq, bI_z1, vb_0, vb_1, am_u_at, am_u_ne, upd_at, upd_ne, e1, e2, e3, e4, k2, mx_sp, f3]
        refine go_at (blk := b_Stair_carry_126) rfl ?_
        simp (disch := omega) only [b_Stair_carry_126, be_45, be_51, ka_st2 ha, List.getD_cons_zero, List.getD_cons_succ, List.set_cons_zero, List.set_cons_succ, List.length_cons, List.length_nil, pk_I, pk_A, pr_A, pi_I, st_s, st_n, if_true, if_false, eq_self, d_if, d_ju, d_re, d_ca, cat0, cat1, cat2, cat3, fr_z, fr_s, cc_I, cc_A, cc_N, Nat.reduceAdd, Nat.reduceLT, Nat.reduceLeDiff, Nat.reduceEqDiff, not_true, not_false_iff, z1_0, z1_1, Bool.and_self, Bool.true_and, Bool.and_true, nI_add, pk_mul, nI_clamp, decide_true, Nat.le_refl, bI_eq, bI_z1, vb_0, vb_1, am_u_at, am_u_ne, upd_at, upd_ne, e1, e2, e3, e4, k2, mx_sp, f3]
        refine go_at (blk := b_Stair_carry_148) rfl ?_
        simp (disch := omega) only [b_Stair_carry_148, be_56, List.getD_cons_zero, List.getD_cons_succ, List.set_cons_zero, List.set_cons_succ, List.length_cons, List.length_nil, pk_I, pk_A, pr_A, pi_I, st_s, st_n, if_true, if_false, eq_self, d_if, d_ju, d_re, d_ca, cat0, cat1, cat2, cat3, fr_z, fr_s, cc_I, cc_A, cc_N, Nat.reduceAdd, Nat.reduceLT, Nat.reduceLeDiff, Nat.reduceEqDiff, not_true, not_false_iff, z1_0, z1_1, Bool.and_self, Bool.true_and, Bool.and_true, nI_add, pk_mul, nI_clamp, decide_true, Nat.le_refl, bI_eq, bI_z1, vb_0, vb_1, am_u_at, am_u_ne, upd_at, upd_ne, e1, e2, e3, e4, k2, mx_sp, f3]
        refine hQ _ (TP_u (by omega) (TP_u (by omega) (TP_u (by omega) (TP_u (by omega) TP_r)))) ⟨fun _ => ⟨?_, ?_, ?_, ?_, ?_⟩, fun h => absurd h (onB_no ho).1⟩
        · rw [m0]; simp (disch := omega) only [am_u_at, am_u_ne, upd_at, upd_ne, e1, e2, e3, e4, e5, h81, h80, h9a, if_true, if_false, onB_no ho, nI_z, nI_o]
        · rw [m1]; simp (disch := omega) only [am_u_at, am_u_ne, upd_at, upd_ne, e1, e2, e3, e4, e5, h81, h80, h9a, if_true, if_false, onB_no ho, nI_z, nI_o]
        · rw [m2]; simp (disch := omega) only [am_u_at, am_u_ne, upd_at, upd_ne, e1, e2, e3, e4, e5, h81, h80, h9a, if_true, if_false, onB_no ho, nI_z, nI_o]
        · rw [m3]; simp (disch := omega) only [am_u_at, am_u_ne, upd_at, upd_ne, e1, e2, e3, e4, e5, h81, h80, h9a, if_true, if_false, onB_no ho, nI_z, nI_o]
        · rw [m4]; simp (disch := omega) only [am_u_at, am_u_ne, upd_at, upd_ne, e1, e2, e3, e4, e5, h81, h80, h9a, if_true, if_false, onB_no ho, nI_z, nI_o]
  · rename_i hs
    obtain ⟨m0, m1, m2, m3, m4⟩ := minR_top (n := tN T) (kn := tK T) (so := tS T) hp hp8 ho hs hm1
    refine go_at (blk := b_Stair_carry_67) rfl ?_
    simp (disch := omega) only [b_Stair_carry_67, be_6, be_4, be_33, be_57_2, kc_st ha, List.getD_cons_zero, List.getD_cons_succ, List.set_cons_zero, List.set_cons_succ, List.length_cons, List.length_nil, pk_I, pk_A, pr_A, pi_I, st_s, st_n, if_true, if_false, eq_self, d_if, d_ju, d_re, d_ca, cat0, cat1, cat2, cat3, fr_z, fr_s, cc_I, cc_A, cc_N, Nat.reduceAdd, Nat.reduceLT, Nat.reduceLeDiff, Nat.reduceEqDiff, not_true, not_false_iff, z1_0, z1_1, Bool.and_self, Bool.true_and, Bool.and_true, nI_add, pk_mul, nI_clamp, decide_true, Nat.le_refl, bI_eq, bI_z1, vb_0, vb_1, am_u_at, am_u_ne, upd_at, upd_ne, e1, e2, e3, e4, k2, mx_sp, h41]
    refine k_arriveIn ha hp8 ?_
    refine go_at (blk := b_Stair_carry_76) rfl ?_
    simp (disch := omega) only [b_Stair_carry_76, be_51, List.getD_cons_zero, List.getD_cons_succ, List.set_cons_zero, List.set_cons_succ, List.length_cons, List.length_nil, pk_I, pk_A, pr_A, pi_I, st_s, st_n, if_true, if_false, eq_self, d_if, d_ju, d_re, d_ca, cat0, cat1, cat2, cat3, fr_z, fr_s, cc_I, cc_A, cc_N, Nat.reduceAdd, Nat.reduceLT, Nat.reduceLeDiff, Nat.reduceEqDiff, not_true, not_false_iff, z1_0, z1_1, Bool.and_self, Bool.true_and, Bool.and_true, nI_add, pk_mul, nI_clamp, decide_true, Nat.le_refl, bI_eq, bI_z1, vb_0, vb_1, am_u_at, am_u_ne, upd_at, upd_ne, e1, e2, e3, e4, k2, mx_sp, h41]
    refine go_at (blk := b_Stair_carry_148) rfl ?_
    simp (disch := omega) only [b_Stair_carry_148, be_56, List.getD_cons_zero, List.getD_cons_succ, List.set_cons_zero, List.set_cons_succ, List.length_cons, List.length_nil, pk_I, pk_A, pr_A, pi_I, st_s, st_n, if_true, if_false, eq_self, d_if, d_ju, d_re, d_ca, cat0, cat1, cat2, cat3, fr_z, fr_s, cc_I, cc_A, cc_N, Nat.reduceAdd, Nat.reduceLT, Nat.reduceLeDiff, Nat.reduceEqDiff, not_true, not_false_iff, z1_0, z1_1, Bool.and_self, Bool.true_and, Bool.and_true, nI_add, pk_mul, nI_clamp, decide_true, Nat.le_refl, bI_eq, bI_z1, vb_0, vb_1, am_u_at, am_u_ne, upd_at, upd_ne, e1, e2, e3, e4, k2, mx_sp, h41]
    refine hQ _ (TP_u (by omega) (TP_u (by omega) (TP_u (by omega) (TP_u (by omega) (TP_u (by omega) TP_r))))) ⟨fun _ => ⟨?_, ?_, ?_, ?_, ?_⟩, fun h => absurd h (onB_no ho).1⟩
    · rw [m0]; simp (disch := omega) only [am_u_at, am_u_ne, upd_at, upd_ne, e1, e2, e3, e4, e5, k2, h41, if_true, if_false, hm1, nI_z]
    · rw [m1]; simp (disch := omega) only [am_u_at, am_u_ne, upd_at, upd_ne, e1, e2, e3, e4, e5, k2, h41, if_true, if_false, hm1, nI_z]
    · rw [m2]; simp (disch := omega) only [am_u_at, am_u_ne, upd_at, upd_ne, e1, e2, e3, e4, e5, k2, h41, if_true, if_false, hm1, nI_z]
    · rw [m3]; simp (disch := omega) only [am_u_at, am_u_ne, upd_at, upd_ne, e1, e2, e3, e4, e5, k2, h41, if_true, if_false, hm1, nI_z]
    · rw [m4]; simp (disch := omega) only [am_u_at, am_u_ne, upd_at, upd_ne, e1, e2, e3, e4, e5, k2, h41, if_true, if_false, hm1, nI_z]
theorem k_carry {d : Nat} {v : Nat → Nat → Int32} {w : Nat → Nat → Int64} {Q : Option Value → am_H → Prop} {a : Nat} (ha : ST a) {T : TXT} {no : Int32} {f : Nat → Int32} {B : Int} (hk : KX v T) (hg : GR B (tN T) f) (h41 : v a 7 = f 41) {p : Nat} {y : Int32} (hp : p < tN T) (hx : PX v a no f p) (ho : onB f no p = true) (hQ : ∀ v', TP v v' a p → PX v' a no (minR (tN T) (tT T) y no (tK T) (tS T) f) p → Q none (428, 26053, KD, RF, v', w)) : am_Ca (d + 2) M_Stair_carry [.ref a, .int (nI p), .int y] (428, 26053, KD, RF, v, w) Q := by
  obtain ⟨hlo, hhi⟩ := st_lo ha
  obtain ⟨k0, k1, k2, k3, k4, k5⟩ := hk
  have hp8 : p < 8 := by omega
  obtain ⟨e1, e2, e3, e4, e5⟩ := hx.1 (onB_no ho).1
  obtain ⟨f0, f1, f2, f3, f4, f5⟩ := k4 p hp
  obtain ⟨q0, q1, q2, q3⟩ := hg.1 p hp
  have hm1 : f 41 ≠ -1 := by intro z; have := hg.2.2.1; rw [z] at this; exact absurd this (by decide)
  refine ca_in (k := k_Stair_carry) (nL := 3) rfl (Nat.le_of_ble_eq_true rfl) ?_
  show am_Go am_X0 _ k_Stair_carry 0 ([.ref a, .int (nI p), .int y], [], _) _
  refine go_at (blk := b_Stair_carry_0) rfl ?_
  simp (disch := omega) only [b_Stair_carry_0, be_6, be_34, be_4, be_40, be_50_0, kc_st ha, st_r2 ha, ka_st2 ha, List.getD_cons_zero, List.getD_cons_succ, List.set_cons_zero, List.set_cons_succ, List.length_cons, List.length_nil, pk_I, pk_A, pr_A, pi_I, st_s, st_n, if_true, if_false, eq_self, d_if, d_ju, d_re, d_ca, cat0, cat1, cat2, cat3, fr_z, fr_s, cc_I, cc_A, cc_N, Nat.reduceAdd, Nat.reduceLT, Nat.reduceLeDiff, Nat.reduceEqDiff, not_true, not_false_iff, z1_0, z1_1, Bool.and_self, Bool.true_and, Bool.and_true, nI_add, pk_mul, nI_clamp, decide_true, Nat.le_refl, bI_eq, bI_z1, e2, e4, f1]
  split
  · rename_i h8
    have := k_carry33 (d := d) ha ⟨k0, k1, k2, k3, k4, k5⟩ hg h41 hp hx ho hQ
    rw [if_neg (fun z => absurd (h8.symm.trans z.1) (by decide)), ← e4, am_u_self] at this
    exact this
  · rename_i h8
    refine go_at (blk := b_Stair_carry_9) rfl ?_
    simp (disch := omega) only [b_Stair_carry_9, be_4, be_50_5, List.getD_cons_zero, List.getD_cons_succ, List.set_cons_zero, List.set_cons_succ, List.length_cons, List.length_nil, pk_I, pk_A, pr_A, pi_I, st_s, st_n, if_true, if_false, eq_self, d_if, d_ju, d_re, d_ca, cat0, cat1, cat2, cat3, fr_z, fr_s, cc_I, cc_A, cc_N, Nat.reduceAdd, Nat.reduceLT, Nat.reduceLeDiff, Nat.reduceEqDiff, not_true, not_false_iff, z1_0, z1_1, Bool.and_self, Bool.true_and, Bool.and_true, nI_add, pk_mul, nI_clamp, decide_true, Nat.le_refl, bI_eq, bI_z1, e2, e4, f1]
    split
    · rename_i h9
      have := k_carry33 (d := d) ha ⟨k0, k1, k2, k3, k4, k5⟩ hg h41 hp hx ho hQ
      rw [if_neg (by intro z; exact absurd z.2 (by rw [Int32.not_lt]; exact h9)), ← e4, am_u_self] at this
      exact this
    · rename_i h9
      refine go_at (blk := b_Stair_carry_13) rfl ?_
      simp (disch := omega) only [b_Stair_carry_13, be_6, be_34, be_4, be_32, be_38, be_14, be_12, be_43, be_0, kc_st ha, st_r4 ha, ka_st4 ha, st_r0 ha, kc_25, rf_25_4, ka_27, List.getD_cons_zero, List.getD_cons_succ, List.set_cons_zero, List.set_cons_succ, List.length_cons, List.length_nil, pk_I, pk_A, pr_A, pi_I, st_s, st_n, if_true, if_false, eq_self, d_if, d_ju, d_re, d_ca, cat0, cat1, cat2, cat3, fr_z, fr_s, cc_I, cc_A, cc_N, Nat.reduceAdd, Nat.reduceLT, Nat.reduceLeDiff, Nat.reduceEqDiff, not_true, not_false_iff, z1_0, z1_1, Bool.and_self, Bool.true_and, Bool.and_true, nI_add, pk_mul, nI_clamp, decide_true, Nat.le_refl, bI_eq, bI_z1, e2, e4, f1]
      have := k_carry33 (d := d) ha ⟨k0, k1, k2, k3, k4, k5⟩ hg h41 hp hx ho hQ
      rw [if_pos ⟨q0.resolve_left h8, by rw [← Int32.not_le]; exact h9⟩] at this
      exact this
/-- so many minutes -/
def itT (T : TXT) (no md : Int32) : Nat → (Nat → Int32) → Nat → Int32
  | 0, f => f
  | k + 1, f => mnT T no md (itT T no md k f)
theorem GR_it {T : TXT} {no md : Int32} {B : Int} {f : Nat → Int32} (ht : GT T) (g : GR B (tN T) f) (k : Nat) (h : 36 * (B + k) < 2 ^ 31) : GR (B + k) (tN T) (itT T no md k f) := by
  induction k with
  | zero =>
    rw [show B + ((0 : Nat) : Int) = B by omega]
    exact g
  | succ k ih =>
    have := GR_mn (no := no) (md := md) ht (ih (by omega)) (by omega)
    rw [show B + ((k + 1 : Nat) : Int) = B + (k : Int) + 1 by omega]
    exact this
theorem RX_on {v : Nat → Nat → Int32} {a n p : Nat} {no md : Int32} {B : Int} {f : Nat → Int32} (h : RX v a n no md f) (g : GR B n f) (hp : p < n) : decide (v (a + 5) p = -2) = onB f no p := PX_on (h.1 p hp) g hp
theorem PX_off {v : Nat → Nat → Int32} {a n p : Nat} {no top by_ : Int32} {kn so f : Nat → Int32} (hp : p < 8) (h : PX v a no f p) (ho : onB f no p = false) : PX v a no (minR n top by_ no kn so f) p := by
  unfold PX at *
  rw [minR_off hp ho (by omega) (by omega), minR_off hp ho (j := 8 + p) (by omega) (by omega), minR_off hp ho (j := 16 + p) (by omega) (by omega), minR_off hp ho (j := 24 + p) (by omega) (by omega), minR_off hp ho (j := 32 + p) (by omega) (by omega)]
  exact h
theorem k_pass15 {d : Nat} {v : Nat → Nat → Int32} {w : Nat → Nat → Int64} {Q : Option Value → am_H → Prop} {a : Nat} (ha : ST a) {T : TXT} {no md : Int32} {f : Nat → Int32} {B : Int} (hk : KX v T) (hr : RX v a (tN T) no md f) (hg : GR B (tN T) f) {K I : Int32} (hQ : ∀ x : Nat → Nat → Int32, (∀ c, (c < a + 1 ∨ a + 5 < c) → x c = v c) → (∀ q, q < tN T → PX x a no (mnT T no md f) q) → am_Go am_X0 (d + 2) k_Stair_pass 49 ([.ref a, .int K, .int I, .int (mvT T no md f), .int (nI (tN T))], [], (428, 26053, KD, RF, x, w)) Q) : am_Go am_X0 (d + 2) k_Stair_pass 15 ([.ref a, .int K, .int I, .int (mvT T no md f), .int (nI 0)], [], (428, 26053, KD, RF, v, w)) Q := by
  obtain ⟨hlo, hhi⟩ := st_lo ha
  have hk0 := hk
  obtain ⟨k0, k1', k2, k3, k4, _⟩ := hk0
  obtain ⟨r0, r1, r2, r3, r4⟩ := hr
  refine go_loopA (α := Nat → Nat → Int32) (fun i x => ([.ref a, .int K, .int I, .int (mvT T no md f), .int (nI i)], [], (428, 26053, KD, RF, x, w))) (fun i x => (∀ c, (c < a + 1 ∨ a + 5 < c) → x c = v c) ∧ (∀ q, q < i → PX x a no (mnT T no md f) q) ∧ ∀ q, i ≤ q → q < tN T → PX x a no f q) (tN T) ?_ ?_ v ⟨fun _ _ => rfl, fun q h => absurd h (by omega), fun q _ h => r0 q h⟩
  · intro i x hi ⟨i1, i2, i3⟩ ih
    try dsimp only at ih ⊢
    have hni : ¬ tN T ≤ i := by omega
    have hkx : KX x T := KX_w hk (fun c _ _ _ _ => i1 c (by omega))
    have k1 : x 25 2 = nI (tN T) := by rw [i1 25 (by omega)]; exact k1'
    refine go_at (blk := b_Stair_pass_15) rfl ?_
    simp (disch := omega) only [b_Stair_pass_15, be_4, be_6, be_34, be_33, be_49_3, kc_st ha, st_r0 ha, kc_25, List.getD_cons_zero, List.getD_cons_succ, List.set_cons_zero, List.set_cons_succ, List.length_cons, List.length_nil, pk_I, pk_A, pr_A, pi_I, st_s, st_n, if_true, if_false, eq_self, d_if, d_ju, d_re, d_ca, cat0, cat1, cat2, cat3, fr_z, fr_s, cc_I, cc_A, cc_N, Nat.reduceAdd, Nat.reduceLT, Nat.reduceLeDiff, Nat.reduceEqDiff, not_true, not_false_iff, z1_0, z1_1, Bool.and_self, Bool.true_and, Bool.and_true, nI_add, pk_mul, nI_clamp, decide_true, Nat.le_refl, bI_eq, bI_z1, k1, nI_leI, hni]
    refine go_at (blk := b_Stair_pass_27) rfl ?_
    simp (disch := omega) only [b_Stair_pass_27, be_6, be_4, be_57_1, kc_st ha, List.getD_cons_zero, List.getD_cons_succ, List.set_cons_zero, List.set_cons_succ, List.length_cons, List.length_nil, pk_I, pk_A, pr_A, pi_I, st_s, st_n, if_true, if_false, eq_self, d_if, d_ju, d_re, d_ca, cat0, cat1, cat2, cat3, fr_z, fr_s, cc_I, cc_A, cc_N, Nat.reduceAdd, Nat.reduceLT, Nat.reduceLeDiff, Nat.reduceEqDiff, not_true, not_false_iff, z1_0, z1_1, Bool.and_self, Bool.true_and, Bool.and_true, nI_add, pk_mul, nI_clamp, decide_true, Nat.le_refl, bI_eq, bI_z1, k1, nI_leI, hni]
    refine k_isOn ha (by omega) ?_
    rw [PX_on (i3 i (Nat.le_refl _) hi) hg hi]
    refine go_at (blk := b_Stair_pass_33) rfl ?_
    simp (disch := omega) only [b_Stair_pass_33, be_50_0, List.getD_cons_zero, List.getD_cons_succ, List.set_cons_zero, List.set_cons_succ, List.length_cons, List.length_nil, pk_I, pk_A, pr_A, pi_I, st_s, st_n, if_true, if_false, eq_self, d_if, d_ju, d_re, d_ca, cat0, cat1, cat2, cat3, fr_z, fr_s, cc_I, cc_A, cc_N, Nat.reduceAdd, Nat.reduceLT, Nat.reduceLeDiff, Nat.reduceEqDiff, not_true, not_false_iff, z1_0, z1_1, Bool.and_self, Bool.true_and, Bool.and_true, nI_add, pk_mul, nI_clamp, decide_true, Nat.le_refl, bI_eq, bI_z1, k1, nI_leI, hni]
    split
    · rename_i hb
      refine go_at (blk := b_Stair_pass_43) rfl ?_
      simp (disch := omega) only [b_Stair_pass_43, be_10, be_51, List.getD_cons_zero, List.getD_cons_succ, List.set_cons_zero, List.set_cons_succ, List.length_cons, List.length_nil, pk_I, pk_A, pr_A, pi_I, st_s, st_n, if_true, if_false, eq_self, d_if, d_ju, d_re, d_ca, cat0, cat1, cat2, cat3, fr_z, fr_s, cc_I, cc_A, cc_N, Nat.reduceAdd, Nat.reduceLT, Nat.reduceLeDiff, Nat.reduceEqDiff, not_true, not_false_iff, z1_0, z1_1, Bool.and_self, Bool.true_and, Bool.and_true, nI_add, pk_mul, nI_clamp, decide_true, Nat.le_refl, bI_eq, bI_z1, k1, nI_leI, hni]
      refine ih x ⟨i1, ?_, fun q h1 h2 => i3 q (by omega) h2⟩
      intro q hq
      rcases Nat.lt_or_eq_of_le (Nat.le_of_lt_succ hq) with h | h
      · exact i2 q h
      · subst h; exact PX_off (by omega) (i3 q (Nat.le_refl _) hi) hb
    · rename_i hb
      refine go_at (blk := b_Stair_pass_36) rfl ?_
      simp (disch := omega) only [b_Stair_pass_36, be_6, be_4, be_57_2, kc_st ha, List.getD_cons_zero, List.getD_cons_succ, List.set_cons_zero, List.set_cons_succ, List.length_cons, List.length_nil, pk_I, pk_A, pr_A, pi_I, st_s, st_n, if_true, if_false, eq_self, d_if, d_ju, d_re, d_ca, cat0, cat1, cat2, cat3, fr_z, fr_s, cc_I, cc_A, cc_N, Nat.reduceAdd, Nat.reduceLT, Nat.reduceLeDiff, Nat.reduceEqDiff, not_true, not_false_iff, z1_0, z1_1, Bool.and_self, Bool.true_and, Bool.and_true, nI_add, pk_mul, nI_clamp, decide_true, Nat.le_refl, bI_eq, bI_z1, k1, nI_leI, hni]
      refine k_carry ha hkx hg (by rw [i1 a (by omega)]; exact r2) hi (i3 i (Nat.le_refl _) hi) (by simpa using hb) ?_
      intro x' t1 t2
      refine go_at (blk := b_Stair_pass_43) rfl ?_
      simp (disch := omega) only [b_Stair_pass_43, be_10, be_51, List.getD_cons_zero, List.getD_cons_succ, List.set_cons_zero, List.set_cons_succ, List.length_cons, List.length_nil, pk_I, pk_A, pr_A, pi_I, st_s, st_n, if_true, if_false, eq_self, d_if, d_ju, d_re, d_ca, cat0, cat1, cat2, cat3, fr_z, fr_s, cc_I, cc_A, cc_N, Nat.reduceAdd, Nat.reduceLT, Nat.reduceLeDiff, Nat.reduceEqDiff, not_true, not_false_iff, z1_0, z1_1, Bool.and_self, Bool.true_and, Bool.and_true, nI_add, pk_mul, nI_clamp, decide_true, Nat.le_refl, bI_eq, bI_z1, k1, nI_leI, hni]
      refine ih x' ⟨fun c hc => (TP_c t1 hc).trans (i1 c hc), ?_, fun q h1 h2 => PX_w (i3 q (by omega) h2) (fun k _ _ => t1 _ _ (by omega))⟩
      intro q hq
      rcases Nat.lt_or_eq_of_le (Nat.le_of_lt_succ hq) with h | h
      · exact PX_w (i2 q h) (fun k _ _ => t1 _ _ (by omega))
      · subst h; exact t2
  · intro x ⟨i1, i2, i3⟩
    try dsimp only
    have k1 : x 25 2 = nI (tN T) := by rw [i1 25 (by omega)]; exact k1'
    refine go_at (blk := b_Stair_pass_15) rfl ?_
    simp (disch := omega) only [b_Stair_pass_15, be_4, be_6, be_34, be_33, be_49_3, kc_st ha, st_r0 ha, kc_25, List.getD_cons_zero, List.getD_cons_succ, List.set_cons_zero, List.set_cons_succ, List.length_cons, List.length_nil, pk_I, pk_A, pr_A, pi_I, st_s, st_n, if_true, if_false, eq_self, d_if, d_ju, d_re, d_ca, cat0, cat1, cat2, cat3, fr_z, fr_s, cc_I, cc_A, cc_N, Nat.reduceAdd, Nat.reduceLT, Nat.reduceLeDiff, Nat.reduceEqDiff, not_true, not_false_iff, z1_0, z1_1, Bool.and_self, Bool.true_and, Bool.and_true, nI_add, pk_mul, nI_clamp, decide_true, Nat.le_refl, bI_eq, bI_z1, k1, nI_leI]
    exact hQ x i1 (fun q hq => i2 q hq)
set_option maxHeartbeats 1000000 in
theorem k_pass {d : Nat} {v : Nat → Nat → Int32} {w : Nat → Nat → Int64} {Q : Option Value → am_H → Prop} {a : Nat} (ha : ST a) {T : TXT} {no md : Int32} {f : Nat → Int32} {B : Int} (hk : KX v T) (hr : RX v a (tN T) no md f) (hg : GR B (tN T) f) {k : Nat} (hk3 : k ≤ 1000) (ht : GT T) (hB : 36 * (B + k) < 2 ^ 31) (hQ : ∀ v', FS v v' a → RX v' a (tN T) no md (itT T no md k f) → Q none (428, 26053, KD, RF, v', w)) : am_Ca (d + 4) M_Stair_pass [.ref a, .int (nI k)] (428, 26053, KD, RF, v, w) Q := by
  obtain ⟨hlo, hhi⟩ := st_lo ha
  refine ca_in (k := k_Stair_pass) (nL := 5) rfl (Nat.le_of_ble_eq_true rfl) ?_
  show am_Go am_X0 _ k_Stair_pass 0 ([.ref a, .int (nI k), .null, .null, .null], [], _) _
  refine go_at (blk := b_Stair_pass_0) rfl ?_
  simp (disch := omega) only [b_Stair_pass_0, be_1, be_7, be_0, List.getD_cons_zero, List.getD_cons_succ, List.set_cons_zero, List.set_cons_succ, List.length_cons, List.length_nil, pk_I, pk_A, pr_A, pi_I, st_s, st_n, if_true, if_false, eq_self, d_if, d_ju, d_re, d_ca, cat0, cat1, cat2, cat3, fr_z, fr_s, cc_I, cc_A, cc_N, Nat.reduceAdd, Nat.reduceLT, Nat.reduceLeDiff, Nat.reduceEqDiff, not_true, not_false_iff, z1_0, z1_1, Bool.and_self, Bool.true_and, Bool.and_true, nI_add, pk_mul, nI_clamp, decide_true, Nat.le_refl, bI_eq, bI_z1]
  refine go_loopA (α := (Nat → Nat → Int32) × Value × Value) (fun i x => ([.ref a, .int (nI k), .int (nI i), x.2.1, x.2.2], [], (428, 26053, KD, RF, x.1, w))) (fun i x => FS v x.1 a ∧ RX x.1 a (tN T) no md (itT T no md i f) ∧ am_cc x.2.1 = true ∧ am_cc x.2.2 = true) k ?_ ?_ (v, .null, .null) ⟨FS_r, hr, rfl, rfl⟩
  · intro i x hi ⟨i1, i2, i3, i4⟩ ih
    try dsimp only at ih ⊢
    have hni : ¬ k ≤ i := by omega
    have gi := GR_it (no := no) (md := md) ht hg i (by omega)
    refine go_at (blk := b_Stair_pass_2) rfl ?_
    simp (disch := omega) only [b_Stair_pass_2, be_4, be_49_3, List.getD_cons_zero, List.getD_cons_succ, List.set_cons_zero, List.set_cons_succ, List.length_cons, List.length_nil, pk_I, pk_A, pr_A, pi_I, st_s, st_n, if_true, if_false, eq_self, d_if, d_ju, d_re, d_ca, cat0, cat1, cat2, cat3, fr_z, fr_s, cc_I, cc_A, cc_N, Nat.reduceAdd, Nat.reduceLT, Nat.reduceLeDiff, Nat.reduceEqDiff, not_true, not_false_iff, z1_0, z1_1, Bool.and_self, Bool.true_and, Bool.and_true, nI_add, pk_mul, nI_clamp, decide_true, Nat.le_refl, bI_eq, bI_z1, nI_leI, hni, i3, i4]
    refine go_at (blk := b_Stair_pass_7) rfl ?_
    simp (disch := omega) only [b_Stair_pass_7, be_6, be_57_0, kc_st ha, List.getD_cons_zero, List.getD_cons_succ, List.set_cons_zero, List.set_cons_succ, List.length_cons, List.length_nil, pk_I, pk_A, pr_A, pi_I, st_s, st_n, if_true, if_false, eq_self, d_if, d_ju, d_re, d_ca, cat0, cat1, cat2, cat3, fr_z, fr_s, cc_I, cc_A, cc_N, Nat.reduceAdd, Nat.reduceLT, Nat.reduceLeDiff, Nat.reduceEqDiff, not_true, not_false_iff, z1_0, z1_1, Bool.and_self, Bool.true_and, Bool.and_true, nI_add, pk_mul, nI_clamp, decide_true, Nat.le_refl, bI_eq, bI_z1, nI_leI, hni, i3, i4]
    refine k_movesNow ha (KX_s hk hlo i1) i2 gi ?_
    intro v1 h1
    refine go_at (blk := b_Stair_pass_11) rfl ?_
    simp (disch := omega) only [b_Stair_pass_11, be_7, be_1, be_0, List.getD_cons_zero, List.getD_cons_succ, List.set_cons_zero, List.set_cons_succ, List.length_cons, List.length_nil, pk_I, pk_A, pr_A, pi_I, st_s, st_n, if_true, if_false, eq_self, d_if, d_ju, d_re, d_ca, cat0, cat1, cat2, cat3, fr_z, fr_s, cc_I, cc_A, cc_N, Nat.reduceAdd, Nat.reduceLT, Nat.reduceLeDiff, Nat.reduceEqDiff, not_true, not_false_iff, z1_0, z1_1, Bool.and_self, Bool.true_and, Bool.and_true, nI_add, pk_mul, nI_clamp, decide_true, Nat.le_refl, bI_eq, bI_z1, nI_leI, hni, i3, i4]
    have kx1 : KX v1 T := KX_w (KX_s hk hlo i1) (fun c _ _ c1 c2 => h1 c c1 c2)
    have rx1 : RX v1 a (tN T) no md (itT T no md i f) := RX_w i2 (fun c c1 c2 => h1 c (by omega) (by omega))
    refine k_pass15 ha kx1 rx1 gi ?_
    intro v2 h2 h3
    have a6 : v2 a 6 = itT T no md i f 40 := by rw [h2 a (by omega)]; exact rx1.2.1
    have a7 : v2 a 7 = itT T no md i f 41 := by rw [h2 a (by omega)]; exact rx1.2.2.1
    have a8 : v2 a 8 = itT T no md i f 42 := by rw [h2 a (by omega)]; exact rx1.2.2.2.1
    have a9 : v2 a 9 = md := by rw [h2 a (by omega)]; exact rx1.2.2.2.2
    have g40 := gi.2.1
    refine go_at (blk := b_Stair_pass_49) rfl ?_
    simp (disch := omega) only [b_Stair_pass_49, be_6, be_1, be_33, be_13, be_64, be_35, be_30I, be_30A, be_4, be_12, be_10, be_51, kc_st ha, List.getD_cons_zero, List.getD_cons_succ, List.set_cons_zero, List.set_cons_succ, List.length_cons, List.length_nil, pk_I, pk_A, pr_A, pi_I, st_s, st_n, if_true, if_false, eq_self, d_if, d_ju, d_re, d_ca, cat0, cat1, cat2, cat3, fr_z, fr_s, cc_I, cc_A, cc_N, Nat.reduceAdd, Nat.reduceLT, Nat.reduceLeDiff, Nat.reduceEqDiff, not_true, not_false_iff, z1_0, z1_1, Bool.and_self, Bool.true_and, Bool.and_true, nI_add, pk_mul, nI_clamp, decide_true, Nat.le_refl, bI_eq, bI_z1, a6, a7, a8, am_u_at, am_u_ne, upd_at, upd_ne, mx_dn]
    refine ih (am_u (am_u (am_u v2 a 6 _) a 8 _) a 7 _, .int _, .int _) ⟨?_, ?_, rfl, rfl⟩
    · intro c c1 c2 c3 c4 c5
      simp (disch := omega) only [am_u_ne]
      rw [h2 c (by omega), h1 c (by omega) (by omega)]
      exact i1 c c1 c2 c3 c4 c5
    · refine ⟨fun p hp => PX_w (h3 p hp) (fun k _ _ => by simp (disch := omega) only [am_u_ne]), ?_, ?_, ?_, ?_⟩
      · show _ = mnT T no md (itT T no md i f) 40
        unfold mnT
        rw [minR_40]
        simp (disch := omega) only [am_u_at, upd_at, upd_ne]
      · show _ = mnT T no md (itT T no md i f) 41
        unfold mnT
        rw [minR_41]
        simp (disch := omega) only [am_u_at, upd_at, upd_ne, nI_o]
      · show _ = mnT T no md (itT T no md i f) 42
        unfold mnT
        rw [minR_42]
        simp (disch := omega) only [am_u_at, upd_at, upd_ne, nI_o]
      · simp (disch := omega) only [am_u_at, upd_at, upd_ne, a9]
  · intro x ⟨i1, i2, i3, i4⟩
    try dsimp only
    refine go_at (blk := b_Stair_pass_2) rfl ?_
    simp (disch := omega) only [b_Stair_pass_2, be_4, be_49_3, List.getD_cons_zero, List.getD_cons_succ, List.set_cons_zero, List.set_cons_succ, List.length_cons, List.length_nil, pk_I, pk_A, pr_A, pi_I, st_s, st_n, if_true, if_false, eq_self, d_if, d_ju, d_re, d_ca, cat0, cat1, cat2, cat3, fr_z, fr_s, cc_I, cc_A, cc_N, Nat.reduceAdd, Nat.reduceLT, Nat.reduceLeDiff, Nat.reduceEqDiff, not_true, not_false_iff, z1_0, z1_1, Bool.and_self, Bool.true_and, Bool.and_true, nI_add, pk_mul, nI_clamp, decide_true, Nat.le_refl, bI_eq, bI_z1, nI_leI]
    refine go_at (blk := b_Stair_pass_89) rfl ?_
    simp (disch := omega) only [b_Stair_pass_89, be_56, List.getD_cons_zero, List.getD_cons_succ, List.set_cons_zero, List.set_cons_succ, List.length_cons, List.length_nil, pk_I, pk_A, pr_A, pi_I, st_s, st_n, if_true, if_false, eq_self, d_if, d_ju, d_re, d_ca, cat0, cat1, cat2, cat3, fr_z, fr_s, cc_I, cc_A, cc_N, Nat.reduceAdd, Nat.reduceLT, Nat.reduceLeDiff, Nat.reduceEqDiff, not_true, not_false_iff, z1_0, z1_1, Bool.and_self, Bool.true_and, Bool.and_true, nI_add, pk_mul, nI_clamp, decide_true, Nat.le_refl, bI_eq, bI_z1, nI_leI]
    exact hQ x.1 i1 i2
