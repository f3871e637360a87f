/-! laid by wip/whole/g6.py: a LAW, by itself; the class: a LAW -/
abbrev BRD : Type := CL × CL × CL
abbrev RL : Type := (Nat × Nat) ⊕ (Nat × List BRD × CL)
def bX (E : ENV) (t : Nat) (k : Nat → CL → Prop) (bad : Nat × Nat → Prop) : Prop := (∃ f, XX E (false, t, [], []) (.inl f) ∧ bad f) ∨ ∃ t' C, XX E (false, t, [], []) (.inr (t', C)) ∧ k t' C
def bT (r : RT) (k : Nat → Prop) (bad : Nat × Nat → Prop) : Prop := match r with
  | .inl f => bad f
  | .inr t => k t
/-- if E < E then E else -/
def BR1 (E : ENV) (t : Nat) (k : Nat → BRD → Prop) (bad : Nat × Nat → Prop) : Prop :=
  bT (tkR E t) (fun t1 => bX E t1 (fun t2 A => bT (wnt E 13 t2) (fun t3 => bX E t3 (fun t4 B => bT (wnt E 27 t4) (fun t5 => bX E t5 (fun t6 C => bT (wnt E 28 t6) (fun t7 => k t7 (A, B, C)) bad) bad) bad) bad) bad) bad) bad
def addB (b : BRD) (R : RL) : RL := match R with
  | .inl f => .inl f
  | .inr (t, bs, D) => .inr (t, b :: bs, D)
/-- a LAW behind its = , that may have n times if -/
def LWR (E : ENV) : Nat → Nat → RL → Prop
  | 0, t, R => if eK E t = 26 then R = .inl (2, eP E t) else bX E t (fun t' D => R = .inr (t', [], D)) (fun f => R = .inl f)
  | n + 1, t, R => if eK E t = 26 then BR1 E t (fun t' b => ∃ R', LWR E n t' R' ∧ R = addB b R') (fun f => R = .inl f) else bX E t (fun t' D => R = .inr (t', [], D)) (fun f => R = .inl f)
def LAWR (E : ENV) (t : Nat) (R : RL) : Prop := bT (wnt E 5 t) (fun t1 => LWR E 4 t1 R) (fun f => R = .inl f)
def addBs (bs : List BRD) (R : RL) : RL := match R with
  | .inl f => .inl f
  | .inr (t, bs', D) => .inr (t, bs ++ bs', D)
theorem ab_0 {R : RL} : addBs [] R = R := by
  cases R with
  | inl f => rfl
  | inr x => rfl
theorem ab_s {bs : List BRD} {b : BRD} {R : RL} : addBs bs (addB b R) = addBs (bs ++ [b]) R := by
  cases R with
  | inl f => rfl
  | inr x =>
    obtain ⟨t, bs', D⟩ := x
    show Sum.inr (t, bs ++ b :: bs', D) = Sum.inr (t, bs ++ [b] ++ bs', D)
    rw [List.append_assoc]
    rfl
/-- the class's codes of a LAW -/
def brc (off : Nat) (b : BRD) : CL := b.1 ++ b.2.1 ++ [(6, nI (off + b.1.length + b.2.1.length + b.2.2.length + 2))] ++ b.2.2 ++ [(7, nI 0)]
def brn (b : BRD) : Nat := b.1.length + b.2.1.length + b.2.2.length + 2
def lcode : Nat → List BRD → CL → CL
  | _, [], D => D
  | off, b :: bs, D => brc off b ++ lcode (off + brn b) bs D
def brs : List BRD → Nat
  | [] => 0
  | b :: bs => brn b + brs bs
theorem brc_len {off : Nat} {b : BRD} : (brc off b).length = brn b := by
  unfold brc brn
  simp only [List.length_append, List.length_cons, List.length_nil]
  omega
theorem lc_snoc {bs : List BRD} {b : BRD} {D : CL} : ∀ off, lcode off (bs ++ [b]) D = lcode off bs [] ++ (brc (off + brs bs) b ++ D) := by
  induction bs with
  | nil => intro off; rfl
  | cons a bs ih =>
    intro off
    show brc off a ++ lcode (off + brn a) (bs ++ [b]) D = brc off a ++ lcode (off + brn a) bs [] ++ (brc (off + (brn a + brs bs)) b ++ D)
    rw [ih, List.append_assoc, show off + brn a + brs bs = off + (brn a + brs bs) by omega]
theorem lc_end {bs : List BRD} {D : CL} : ∀ off, lcode off bs D = lcode off bs [] ++ D := by
  induction bs with
  | nil => intro off; rfl
  | cons a bs ih =>
    intro off
    show brc off a ++ lcode (off + brn a) bs D = brc off a ++ lcode (off + brn a) bs [] ++ D
    rw [ih, List.append_assoc]
theorem lc_len {bs : List BRD} : ∀ off, (lcode off bs []).length = brs bs := by
  induction bs with
  | nil => intro off; rfl
  | cons a bs ih =>
    intro off
    show (brc off a ++ lcode (off + brn a) bs []).length = brn a + brs bs
    rw [List.length_append, brc_len, ih]
theorem gd_m {X Y : CL} {a d : Nat × Int32} {j : Nat} : (X ++ [a] ++ Y).getD j d = if j < X.length then X.getD j d else if j = X.length then a else Y.getD (j - X.length - 1) d := by
  rw [List.getD_eq_getElem?_getD, List.append_assoc]
  by_cases h : j < X.length
  · rw [if_pos h, List.getElem?_append_left h, List.getD_eq_getElem?_getD]
  · rw [if_neg h, List.getElem?_append_right (by omega)]
    by_cases h2 : j = X.length
    · rw [if_pos h2, h2, Nat.sub_self]
      rfl
    · rw [if_neg h2, show j - X.length = (j - X.length - 1) + 1 by omega, List.getD_eq_getElem?_getD]
      rfl
theorem k_lclear {d : Nat} {v : Nat → Nat → Int32} {w : Nat → Nat → Int64} {Q : Option Value → am_H → Prop} {q : Nat} (hq' : LD q) (hQ : ∀ v', F3 q v v' → LC v' q [] → Q none (428, 26053, KD, RF, v', w)) : am_Ca (d + 1) M_Law_clear [.ref q] (428, 26053, KD, RF, v, w) Q := by
  have hq := LD_W hq'
  refine ca_in (k := k_Law_clear) (nL := 1) rfl (Nat.le_of_ble_eq_true rfl) ?_
  show am_Go am_X0 _ k_Law_clear 0 ([.ref q], [], _) _
  refine go_at (blk := b_Law_clear_0) rfl ?_
  simp (disch := omega) only [b_Law_clear_0, be_6, be_1, be_35, be_56, kc_lw hq, List.getD_cons_zero, List.getD_cons_succ, List.set_cons_zero, List.set_cons_succ, List.length_cons, List.length_nil, pk_I, pk_A, pr_A, pi_I, st_s, st_n, if_true, if_false, eq_self, d_if, d_ju, d_re, d_ca, cat0, cat1, cat2, cat3, fr_z, fr_s, cc_I, cc_A, cc_N, Nat.reduceAdd, Nat.reduceLT, Nat.reduceLeDiff, Nat.reduceEqDiff, not_true, not_false_iff, z1_0, z1_1, Bool.and_self, Bool.true_and, Bool.and_true, nI_add, pk_mul, nI_clamp, decide_true, Nat.le_refl, bI_eq, bI_z1, am_u_at, am_u_ne, upd_at, upd_ne]
  exact hQ _ (fun c c1 _ _ => by rw [am_u_ne c1]) ⟨by rw [am_u_at, upd_at]; rfl, fun j hj => absurd hj (Nat.not_lt_zero _)⟩
theorem k_skip {d : Nat} {v : Nat → Nat → Int32} {w : Nat → Nat → Int64} {Q : Option Value → am_H → Prop} {q : Nat} (hq' : LD q) {X Y : CL} {k n : Nat} {x : Int32} (hn : n = X.length + 1 + Y.length) (hn4 : n ≤ 400) (hC : LC v q (X ++ [(k, x)] ++ Y)) (hQ : ∀ v', F3 q v v' → LC v' q (X ++ [(k, nI n)] ++ Y) → Q none (428, 26053, KD, RF, v', w)) : am_Ca (d + 1) M_Law_skipToHere [.ref q, .int (nI X.length)] (428, 26053, KD, RF, v, w) Q := by
  have hq := LD_W hq'
  obtain ⟨h2, h3⟩ := hC
  have hlen : (X ++ [(k, x)] ++ Y).length = n := by simp only [List.length_append, List.length_cons, List.length_nil]; omega
  have hlen' : (X ++ [(k, nI n)] ++ Y).length = n := by simp only [List.length_append, List.length_cons, List.length_nil]; omega
  rw [hlen] at h2
  have hlt : ¬ n ≤ X.length := by omega
  have hp0 := nn_lt (i := X.length) (by omega)
  refine ca_in (k := k_Law_skipToHere) (nL := 2) rfl (Nat.le_of_ble_eq_true rfl) ?_
  show am_Go am_X0 _ k_Law_skipToHere 0 ([.ref q, .int (nI X.length)], [], _) _
  refine go_at (blk := b_Law_skipToHere_0) rfl ?_
  simp (disch := omega) only [b_Law_skipToHere_0, be_4, be_50_2, List.getD_cons_zero, List.getD_cons_succ, List.set_cons_zero, List.set_cons_succ, List.length_cons, List.length_nil, pk_I, pk_A, pr_A, pi_I, st_s, st_n, if_true, if_false, eq_self, d_if, d_ju, d_re, d_ca, cat0, cat1, cat2, cat3, fr_z, fr_s, cc_I, cc_A, cc_N, Nat.reduceAdd, Nat.reduceLT, Nat.reduceLeDiff, Nat.reduceEqDiff, not_true, not_false_iff, z1_0, z1_1, Bool.and_self, Bool.true_and, Bool.and_true, nI_add, pk_mul, nI_clamp, decide_true, Nat.le_refl, bI_eq, bI_z1, nI_ltI, nI_leI, am_u_at, am_u_ne, upd_at, upd_ne, h2, hp0, hlt]
  refine go_at (blk := b_Law_skipToHere_4) rfl ?_
  simp (disch := omega) only [b_Law_skipToHere_4, be_4, be_6, be_33, be_49_3, kc_lw hq, List.getD_cons_zero, List.getD_cons_succ, List.set_cons_zero, List.set_cons_succ, List.length_cons, List.length_nil, pk_I, pk_A, pr_A, pi_I, st_s, st_n, if_true, if_false, eq_self, d_if, d_ju, d_re, d_ca, cat0, cat1, cat2, cat3, fr_z, fr_s, cc_I, cc_A, cc_N, Nat.reduceAdd, Nat.reduceLT, Nat.reduceLeDiff, Nat.reduceEqDiff, not_true, not_false_iff, z1_0, z1_1, Bool.and_self, Bool.true_and, Bool.and_true, nI_add, pk_mul, nI_clamp, decide_true, Nat.le_refl, bI_eq, bI_z1, nI_ltI, nI_leI, am_u_at, am_u_ne, upd_at, upd_ne, h2, hp0, hlt]
  refine go_at (blk := b_Law_skipToHere_12) rfl ?_
  simp (disch := omega) only [b_Law_skipToHere_12, be_6, be_34, be_4, be_33, be_43, be_0, kc_lw hq, lq_r1 hq, ka_lw2 hq, List.getD_cons_zero, List.getD_cons_succ, List.set_cons_zero, List.set_cons_succ, List.length_cons, List.length_nil, pk_I, pk_A, pr_A, pi_I, st_s, st_n, if_true, if_false, eq_self, d_if, d_ju, d_re, d_ca, cat0, cat1, cat2, cat3, fr_z, fr_s, cc_I, cc_A, cc_N, Nat.reduceAdd, Nat.reduceLT, Nat.reduceLeDiff, Nat.reduceEqDiff, not_true, not_false_iff, z1_0, z1_1, Bool.and_self, Bool.true_and, Bool.and_true, nI_add, pk_mul, nI_clamp, decide_true, Nat.le_refl, bI_eq, bI_z1, nI_ltI, nI_leI, am_u_at, am_u_ne, upd_at, upd_ne, h2, hp0, hlt]
  refine go_at (blk := b_Law_skipToHere_22) rfl ?_
  simp (disch := omega) only [b_Law_skipToHere_22, be_56, List.getD_cons_zero, List.getD_cons_succ, List.set_cons_zero, List.set_cons_succ, List.length_cons, List.length_nil, pk_I, pk_A, pr_A, pi_I, st_s, st_n, if_true, if_false, eq_self, d_if, d_ju, d_re, d_ca, cat0, cat1, cat2, cat3, fr_z, fr_s, cc_I, cc_A, cc_N, Nat.reduceAdd, Nat.reduceLT, Nat.reduceLeDiff, Nat.reduceEqDiff, not_true, not_false_iff, z1_0, z1_1, Bool.and_self, Bool.true_and, Bool.and_true, nI_add, pk_mul, nI_clamp, decide_true, Nat.le_refl, bI_eq, bI_z1, nI_ltI, nI_leI, am_u_at, am_u_ne, upd_at, upd_ne, h2, hp0, hlt]
  refine hQ _ (fun c c1 c2 c3 => by rw [am_u_ne c3]) ⟨?_, fun j hj => ?_⟩
  · rw [am_u_ne (by omega), h2, hlen']
  · have hj' : j < (X ++ [(k, x)] ++ Y).length := by rw [hlen]; rw [hlen'] at hj; exact hj
    obtain ⟨e1, e2⟩ := h3 j hj'
    rw [gd_m] at e1 e2
    rw [am_u_ne (by omega), am_u_at, gd_m]
    by_cases h : j = X.length
    · rw [if_neg (by omega), if_pos h] at e1
      rw [if_neg (by omega), if_pos h, h, upd_at]
      rw [h] at e1
      exact ⟨e1, rfl⟩
    · rw [upd_ne h]
      rw [if_neg h] at e1 e2
      rw [if_neg h]
      exact ⟨e1, e2⟩
theorem k_skipB {d : Nat} {v : Nat → Nat → Int32} {w : Nat → Nat → Int64} {Q : Option Value → am_H → Prop} {q : Nat} (hq' : LD q) {x : Int32} (hL : LL v q) (hQ : ∀ v', F3 q v v' → LL v' q → Q none (428, 26053, KD, RF, v', w)) : am_Ca (d + 1) M_Law_skipToHere [.ref q, .int x] (428, 26053, KD, RF, v, w) Q := by
  have hq := LD_W hq'
  obtain ⟨n, hn, h2⟩ := hL
  refine ca_in (k := k_Law_skipToHere) (nL := 2) rfl (Nat.le_of_ble_eq_true rfl) ?_
  show am_Go am_X0 _ k_Law_skipToHere 0 ([.ref q, .int x], [], _) _
  refine go_at (blk := b_Law_skipToHere_0) rfl ?_
  simp (disch := omega) only [b_Law_skipToHere_0, be_4, be_50_2, List.getD_cons_zero, List.getD_cons_succ, List.set_cons_zero, List.set_cons_succ, List.length_cons, List.length_nil, pk_I, pk_A, pr_A, pi_I, st_s, st_n, if_true, if_false, eq_self, d_if, d_ju, d_re, d_ca, cat0, cat1, cat2, cat3, fr_z, fr_s, cc_I, cc_A, cc_N, Nat.reduceAdd, Nat.reduceLT, Nat.reduceLeDiff, Nat.reduceEqDiff, not_true, not_false_iff, z1_0, z1_1, Bool.and_self, Bool.true_and, Bool.and_true, nI_add, pk_mul, nI_clamp, decide_true, Nat.le_refl, bI_eq, bI_z1, nI_ltI, nI_leI, am_u_at, am_u_ne, upd_at, upd_ne, h2]
  split
  · rename_i h0
    refine go_at (blk := b_Law_skipToHere_22) rfl ?_
    simp (disch := omega) only [b_Law_skipToHere_22, be_56, List.getD_cons_zero, List.getD_cons_succ, List.set_cons_zero, List.set_cons_succ, List.length_cons, List.length_nil, pk_I, pk_A, pr_A, pi_I, st_s, st_n, if_true, if_false, eq_self, d_if, d_ju, d_re, d_ca, cat0, cat1, cat2, cat3, fr_z, fr_s, cc_I, cc_A, cc_N, Nat.reduceAdd, Nat.reduceLT, Nat.reduceLeDiff, Nat.reduceEqDiff, not_true, not_false_iff, z1_0, z1_1, Bool.and_self, Bool.true_and, Bool.and_true, nI_add, pk_mul, nI_clamp, decide_true, Nat.le_refl, bI_eq, bI_z1, nI_ltI, nI_leI, am_u_at, am_u_ne, upd_at, upd_ne, h2]
    exact hQ v (fun _ _ _ _ => rfl) ⟨n, hn, h2⟩
  · rename_i h0
    refine go_at (blk := b_Law_skipToHere_4) rfl ?_
    simp (disch := omega) only [b_Law_skipToHere_4, be_4, be_6, be_33, be_49_3, kc_lw hq, List.getD_cons_zero, List.getD_cons_succ, List.set_cons_zero, List.set_cons_succ, List.length_cons, List.length_nil, pk_I, pk_A, pr_A, pi_I, st_s, st_n, if_true, if_false, eq_self, d_if, d_ju, d_re, d_ca, cat0, cat1, cat2, cat3, fr_z, fr_s, cc_I, cc_A, cc_N, Nat.reduceAdd, Nat.reduceLT, Nat.reduceLeDiff, Nat.reduceEqDiff, not_true, not_false_iff, z1_0, z1_1, Bool.and_self, Bool.true_and, Bool.and_true, nI_add, pk_mul, nI_clamp, decide_true, Nat.le_refl, bI_eq, bI_z1, nI_ltI, nI_leI, am_u_at, am_u_ne, upd_at, upd_ne, h2]
    split
    · rename_i h1
      refine go_at (blk := b_Law_skipToHere_22) rfl ?_
      simp (disch := omega) only [b_Law_skipToHere_22, be_56, List.getD_cons_zero, List.getD_cons_succ, List.set_cons_zero, List.set_cons_succ, List.length_cons, List.length_nil, pk_I, pk_A, pr_A, pi_I, st_s, st_n, if_true, if_false, eq_self, d_if, d_ju, d_re, d_ca, cat0, cat1, cat2, cat3, fr_z, fr_s, cc_I, cc_A, cc_N, Nat.reduceAdd, Nat.reduceLT, Nat.reduceLeDiff, Nat.reduceEqDiff, not_true, not_false_iff, z1_0, z1_1, Bool.and_self, Bool.true_and, Bool.and_true, nI_add, pk_mul, nI_clamp, decide_true, Nat.le_refl, bI_eq, bI_z1, nI_ltI, nI_leI, am_u_at, am_u_ne, upd_at, upd_ne, h2]
      exact hQ v (fun _ _ _ _ => rfl) ⟨n, hn, h2⟩
    · rename_i h1
      obtain ⟨i, hi, rfl⟩ := nI_of h0
      have hi4 : i < 400 := by
        have h9 : ¬ n ≤ i := fun z => h1 ((nI_leI (a := n) (b := i) (by omega) hi).mpr z)
        omega
      refine go_at (blk := b_Law_skipToHere_12) rfl ?_
      simp (disch := omega) only [b_Law_skipToHere_12, be_6, be_34, be_4, be_33, be_43, be_0, kc_lw hq, lq_r1 hq, ka_lw2 hq, List.getD_cons_zero, List.getD_cons_succ, List.set_cons_zero, List.set_cons_succ, List.length_cons, List.length_nil, pk_I, pk_A, pr_A, pi_I, st_s, st_n, if_true, if_false, eq_self, d_if, d_ju, d_re, d_ca, cat0, cat1, cat2, cat3, fr_z, fr_s, cc_I, cc_A, cc_N, Nat.reduceAdd, Nat.reduceLT, Nat.reduceLeDiff, Nat.reduceEqDiff, not_true, not_false_iff, z1_0, z1_1, Bool.and_self, Bool.true_and, Bool.and_true, nI_add, pk_mul, nI_clamp, decide_true, Nat.le_refl, bI_eq, bI_z1, nI_ltI, nI_leI, am_u_at, am_u_ne, upd_at, upd_ne, h2]
      refine go_at (blk := b_Law_skipToHere_22) rfl ?_
      simp (disch := omega) only [b_Law_skipToHere_22, be_56, List.getD_cons_zero, List.getD_cons_succ, List.set_cons_zero, List.set_cons_succ, List.length_cons, List.length_nil, pk_I, pk_A, pr_A, pi_I, st_s, st_n, if_true, if_false, eq_self, d_if, d_ju, d_re, d_ca, cat0, cat1, cat2, cat3, fr_z, fr_s, cc_I, cc_A, cc_N, Nat.reduceAdd, Nat.reduceLT, Nat.reduceLeDiff, Nat.reduceEqDiff, not_true, not_false_iff, z1_0, z1_1, Bool.and_self, Bool.true_and, Bool.and_true, nI_add, pk_mul, nI_clamp, decide_true, Nat.le_refl, bI_eq, bI_z1, nI_ltI, nI_leI, am_u_at, am_u_ne, upd_at, upd_ne, h2]
      exact hQ _ (fun c c1 c2 c3 => by rw [am_u_ne c3]) ⟨n, hn, by rw [am_u_ne (by omega)]; exact h2⟩
