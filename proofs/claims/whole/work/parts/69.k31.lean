/-! laid by wip/whole/k31.py: the class: feed -/
def byt (x : Int32) (k : Nat) : Int32 := (x >>> (nI (24 - 8 * k) &&& 31)).toInt8.toInt32
/-- a tape with the first i bytes of a word written behind t -/
def ptS (t : Nat) (x : Int32) (g : Nat → Int32) : Nat → Nat → Int32
  | 0 => g
  | i + 1 => upd (ptS t x g i) (t + i) (vp_nar FieldType.byte (byt x i))
/-- the class's tape and how much of it is written -/
def twS (v : Nat → Nat → Int32) (P : Nat → Int32) (t : Int32) : Nat → Nat → Int32 := fun c => if c = 1 then P else if c = 0 then upd (v 0) 1 t else v c
section
variable {v : Nat → Nat → Int32} {P : Nat → Int32} {t b : Int32} {k c : Nat}
theorem tw_1 : twS v P t 1 = P := rfl
theorem tw_01 : twS v P t 0 1 = t := by simp [twS, upd]
theorem tw_o (h0 : c ≠ 0) (h1 : c ≠ 1) : twS v P t c = v c := by simp [twS, h0, h1]
theorem tw_u1 : am_u (twS v P t) 1 k b = twS v (upd P k b) t := by
  funext d
  unfold am_u
  by_cases h : d = 1
  · subst h; simp [twS]
  · simp [twS, h]
theorem tw_u0 : am_u (twS v P t) 0 1 b = twS v P b := by
  funext d
  unfold am_u
  by_cases h : d = 0
  · subst h
    simp only [if_true]
    funext j
    by_cases hj : j = 1
    · subst hj; simp [twS, upd]
    · simp [twS, upd, hj]
  · simp [twS, h]
theorem tw_self : twS v (v 1) (v 0 1) = v := by
  funext d
  unfold twS
  split
  · rename_i h; rw [h]
  · split
    · rename_i h
      rw [h]
      funext j
      unfold upd
      split
      · rename_i h; rw [h]
      · rfl
    · rfl
end
theorem sh_n : ∀ i, i < 4 → nI (32 - 8 * i) + (-8) = nI (24 - 8 * i) := by decide
theorem sh_g : ∀ i, i < 4 → ((nI (24 - 8 * i) < 0) ↔ False) := by decide
theorem sh_d : ∀ i, i < 4 → nI (24 - 8 * i) = nI (32 - 8 * (i + 1)) := by decide
theorem sh_e : (nI (32 - 8 * 4) + (-8) < 0) ↔ True := by decide
theorem k_putWord {d : Nat} {v : Nat → Nat → Int32} {w : Nat → Nat → Int64} {Q : Option Value → am_H → Prop} {P : Nat → Int32} {t : Nat} {x : Int32} (ht : t + 4 ≤ 2000) (hQ : Q none (428, 26053, KD, RF, twS v (ptS t x P 4) (nI (t + 4)), w)) : am_Ca (d + 1) M_KneeStair_putWord [.ref 0, .int x] (428, 26053, KD, RF, twS v P (nI t), w) Q := by
  refine ca_in (k := k_KneeStair_putWord) (nL := 3) rfl (Nat.le_of_ble_eq_true rfl) ?_
  show am_Go am_X0 _ k_KneeStair_putWord 0 ([.ref 0, .int x, .null], [], _) _
  refine go_at (blk := b_KneeStair_putWord_0) rfl ?_
  simp (disch := omega) only [b_KneeStair_putWord_0, be_1, be_7, be_0, List.getD_cons_zero, List.getD_cons_succ, List.set_cons_zero, List.set_cons_succ, List.length_cons, List.length_nil, pk_I, pk_A, pr_A, pi_I, st_s, st_n, if_true, if_false, eq_self, d_if, d_ju, d_re, d_ca, cat0, cat1, cat2, cat3, fr_z, fr_s, cc_I, cc_A, cc_N, Nat.reduceAdd, Nat.reduceLT, Nat.reduceLeDiff, Nat.reduceEqDiff, not_true, not_false_iff, z1_0, z1_1, Bool.and_self, Bool.true_and, Bool.and_true, nI_add, pk_mul, nI_clamp, decide_true, Nat.le_refl, bI_eq, bI_z1]
  refine go_loop (fun i => ([.ref 0, .int x, .int (nI (32 - 8 * i) + (-8))], [], (428, 26053, KD, RF, twS v (ptS t x P i) (nI (t + i)), w))) 4 ?_ ?_
  · intro i hi ih
    have e1 := sh_n i hi
    have e2 := sh_g i hi
    try dsimp only at ih ⊢
    refine go_at (blk := b_KneeStair_putWord_3) rfl ?_
    simp (disch := omega) only [b_KneeStair_putWord_3, be_4, be_50_2, List.getD_cons_zero, List.getD_cons_succ, List.set_cons_zero, List.set_cons_succ, List.length_cons, List.length_nil, pk_I, pk_A, pr_A, pi_I, st_s, st_n, if_true, if_false, eq_self, d_if, d_ju, d_re, d_ca, cat0, cat1, cat2, cat3, fr_z, fr_s, cc_I, cc_A, cc_N, Nat.reduceAdd, Nat.reduceLT, Nat.reduceLeDiff, Nat.reduceEqDiff, not_true, not_false_iff, z1_0, z1_1, Bool.and_self, Bool.true_and, Bool.and_true, nI_add, pk_mul, nI_clamp, decide_true, Nat.le_refl, bI_eq, bI_z1, nI_ltI, nI_leI, e1, e2, tw_1, tw_01, tw_u1, tw_u0]
    refine go_at (blk := b_KneeStair_putWord_7) rfl ?_
    simp (disch := omega) only [b_KneeStair_putWord_7, be_6, be_34, be_33, be_4, be_22, be_28, be_44, be_30I, be_30A, be_1, be_12, be_35, be_11, be_51, kc_0, rf_0_0, ka_1, List.getD_cons_zero, List.getD_cons_succ, List.set_cons_zero, List.set_cons_succ, List.length_cons, List.length_nil, pk_I, pk_A, pr_A, pi_I, st_s, st_n, if_true, if_false, eq_self, d_if, d_ju, d_re, d_ca, cat0, cat1, cat2, cat3, fr_z, fr_s, cc_I, cc_A, cc_N, Nat.reduceAdd, Nat.reduceLT, Nat.reduceLeDiff, Nat.reduceEqDiff, not_true, not_false_iff, z1_0, z1_1, Bool.and_self, Bool.true_and, Bool.and_true, nI_add, pk_mul, nI_clamp, decide_true, Nat.le_refl, bI_eq, bI_z1, nI_ltI, nI_leI, e1, e2, tw_1, tw_01, tw_u1, tw_u0]
    rw [← sh_d i hi] at ih
    exact ih
  · try dsimp only
    refine go_at (blk := b_KneeStair_putWord_3) rfl ?_
    simp (disch := omega) only [b_KneeStair_putWord_3, be_4, be_50_2, List.getD_cons_zero, List.getD_cons_succ, List.set_cons_zero, List.set_cons_succ, List.length_cons, List.length_nil, pk_I, pk_A, pr_A, pi_I, st_s, st_n, if_true, if_false, eq_self, d_if, d_ju, d_re, d_ca, cat0, cat1, cat2, cat3, fr_z, fr_s, cc_I, cc_A, cc_N, Nat.reduceAdd, Nat.reduceLT, Nat.reduceLeDiff, Nat.reduceEqDiff, not_true, not_false_iff, z1_0, z1_1, Bool.and_self, Bool.true_and, Bool.and_true, nI_add, pk_mul, nI_clamp, decide_true, Nat.le_refl, bI_eq, bI_z1, sh_e]
    refine go_at (blk := b_KneeStair_putWord_36) rfl ?_
    simp (disch := omega) only [b_KneeStair_putWord_36, be_56, List.getD_cons_zero, List.getD_cons_succ, List.set_cons_zero, List.set_cons_succ, List.length_cons, List.length_nil, pk_I, pk_A, pr_A, pi_I, st_s, st_n, if_true, if_false, eq_self, d_if, d_ju, d_re, d_ca, cat0, cat1, cat2, cat3, fr_z, fr_s, cc_I, cc_A, cc_N, Nat.reduceAdd, Nat.reduceLT, Nat.reduceLeDiff, Nat.reduceEqDiff, not_true, not_false_iff, z1_0, z1_1, Bool.and_self, Bool.true_and, Bool.and_true, nI_add, pk_mul, nI_clamp, decide_true, Nat.le_refl, bI_eq, bI_z1, sh_e]
    exact hQ
