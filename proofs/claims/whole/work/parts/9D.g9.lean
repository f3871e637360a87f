/-! laid by wip/whole/g9.py: the class: names, pilgrims -/
def toldB (nm : Nat → Nat) (n x : Nat) : Bool := (pF (fun i => decide (nm i = x)) n 0).isSome
def nameV (E : ENV) (s : SG) : Nat := match s.1 with
  | .inl _ => 0
  | .inr t => if eK E t = 1 then eM E t else 0
def nameS (E : ENV) (told : Nat → Bool) (s : SG) : SG := match s.1 with
  | .inl _ => s
  | .inr t => if eK E t = 1 then takeS E (if told (eM E t) = true then lateS E 3 s else s) else failS E 1 s
def NX (v : Nat → Nat → Int32) (w : Nat → Nat → Int64) (n : Nat) (nm : Nat → Nat) : Prop := v 3 2 = nI n ∧ n ≤ 8 ∧ ∀ i, i < n → w 24 i = lN (nm i) ∧ nm i < 2 ^ 63
theorem NX_2 {v v' : Nat → Nat → Int32} {w : Nat → Nat → Int64} {n : Nat} {nm : Nat → Nat} (h : NX v w n nm) (e : F2 v v') : NX v' w n nm := by
  unfold NX at *
  rw [e 3 (by omega)]
  exact h
theorem k_told {d : Nat} {v : Nat → Nat → Int32} {w : Nat → Nat → Int64} {Q : Option Value → am_H → Prop} {n x : Nat} {nm : Nat → Nat} (hN : NX v w n nm) (hx : x < 2 ^ 63) (hQ : Q (some (.int (bI (toldB nm n x)))) (428, 26053, KD, RF, v, w)) : am_Ca (d + 1) M_Reader_isNameTold [.ref 2, .long (lN x)] (428, 26053, KD, RF, v, w) Q := by
  obtain ⟨n1, n2, n3⟩ := hN
  refine ca_in (k := k_Reader_isNameTold) (nL := 4) rfl (Nat.le_of_ble_eq_true rfl) ?_
  show am_Go am_X0 _ k_Reader_isNameTold 0 ([.ref 2, .long (lN x), .null, .null], [], _) _
  refine go_at (blk := b_Reader_isNameTold_0) rfl ?_
  simp (disch := omega) only [b_Reader_isNameTold_0, be_1, be_7, be_0, List.getD_cons_zero, List.getD_cons_succ, List.set_cons_zero, List.set_cons_succ, List.length_cons, List.length_nil, pk_I, pk_A, pr_A, pi_I, st_s, st_n, if_true, if_false, eq_self, d_if, d_ju, d_re, d_ca, cat0, cat1, cat2, cat3, fr_z, fr_s, cc_I, cc_A, cc_N, Nat.reduceAdd, Nat.reduceLT, Nat.reduceLeDiff, Nat.reduceEqDiff, not_true, not_false_iff, z1_0, z1_1, Bool.and_self, Bool.true_and, Bool.and_true, nI_add, pk_mul, nI_clamp, decide_true, Nat.le_refl, bI_eq, bI_z1, pk_L, cc_L]
  refine go_loopA (α := Unit) (fun i u => ([.ref 2, .long (lN x), .null, .int (nI i)], [], (428, 26053, KD, RF, v, w))) (fun i u => pF (fun i => decide (nm i = x)) n 0 = pF (fun i => decide (nm i = x)) (n - i) i) (n) ?_ ?_ () rfl
  · intro i _ hi i1 ih
    try dsimp only at *
    have hni : ¬ n ≤ i := by omega
    obtain ⟨hw4, hlt⟩ := n3 i hi
    have hle9 : (lN (nm i) = lN x) ↔ nm i = x := pk_lEQ hlt hx
    refine go_at (blk := b_Reader_isNameTold_2) rfl ?_
    simp (disch := omega) only [b_Reader_isNameTold_2, be_4, be_6, be_34, be_33, be_49_3, kc_2, rf_2_0, kc_3, List.getD_cons_zero, List.getD_cons_succ, List.set_cons_zero, List.set_cons_succ, List.length_cons, List.length_nil, pk_I, pk_A, pr_A, pi_I, st_s, st_n, if_true, if_false, eq_self, d_if, d_ju, d_re, d_ca, cat0, cat1, cat2, cat3, fr_z, fr_s, cc_I, cc_A, cc_N, Nat.reduceAdd, Nat.reduceLT, Nat.reduceLeDiff, Nat.reduceEqDiff, not_true, not_false_iff, z1_0, z1_1, Bool.and_self, Bool.true_and, Bool.and_true, nI_add, pk_mul, nI_clamp, decide_true, Nat.le_refl, bI_eq, bI_z1, nI_ltI, nI_leI, pk_L, cc_L, n1, hw4, lg_cmp_eq, hle9, hni]
    refine go_at (blk := b_Reader_isNameTold_13) rfl ?_
    simp (disch := omega) only [b_Reader_isNameTold_13, be_6, be_34, be_4, be_41, be_5, be_25, be_50_1, kc_2, rf_2_3, ka_24, List.getD_cons_zero, List.getD_cons_succ, List.set_cons_zero, List.set_cons_succ, List.length_cons, List.length_nil, pk_I, pk_A, pr_A, pi_I, st_s, st_n, if_true, if_false, eq_self, d_if, d_ju, d_re, d_ca, cat0, cat1, cat2, cat3, fr_z, fr_s, cc_I, cc_A, cc_N, Nat.reduceAdd, Nat.reduceLT, Nat.reduceLeDiff, Nat.reduceEqDiff, not_true, not_false_iff, z1_0, z1_1, Bool.and_self, Bool.true_and, Bool.and_true, nI_add, pk_mul, nI_clamp, decide_true, Nat.le_refl, bI_eq, bI_z1, nI_ltI, nI_leI, pk_L, cc_L, n1, hw4, lg_cmp_eq, hle9, hni]
    split
    · rename_i hk
      refine go_at (blk := b_Reader_isNameTold_26) rfl ?_
      simp (disch := omega) only [b_Reader_isNameTold_26, be_10, be_51, List.getD_cons_zero, List.getD_cons_succ, List.set_cons_zero, List.set_cons_succ, List.length_cons, List.length_nil, pk_I, pk_A, pr_A, pi_I, st_s, st_n, if_true, if_false, eq_self, d_if, d_ju, d_re, d_ca, cat0, cat1, cat2, cat3, fr_z, fr_s, cc_I, cc_A, cc_N, Nat.reduceAdd, Nat.reduceLT, Nat.reduceLeDiff, Nat.reduceEqDiff, not_true, not_false_iff, z1_0, z1_1, Bool.and_self, Bool.true_and, Bool.and_true, nI_add, pk_mul, nI_clamp, decide_true, Nat.le_refl, bI_eq, bI_z1, nI_ltI, nI_leI, pk_L, cc_L, n1, hw4, lg_cmp_eq, hle9, hni]
      exact ih () (by rw [i1, pF_f hi (decide_eq_false hk)])
    · rename_i hk
      refine go_at (blk := b_Reader_isNameTold_24) rfl ?_
      simp (disch := omega) only [b_Reader_isNameTold_24, be_1, be_73, List.getD_cons_zero, List.getD_cons_succ, List.set_cons_zero, List.set_cons_succ, List.length_cons, List.length_nil, pk_I, pk_A, pr_A, pi_I, st_s, st_n, if_true, if_false, eq_self, d_if, d_ju, d_re, d_ca, cat0, cat1, cat2, cat3, fr_z, fr_s, cc_I, cc_A, cc_N, Nat.reduceAdd, Nat.reduceLT, Nat.reduceLeDiff, Nat.reduceEqDiff, not_true, not_false_iff, z1_0, z1_1, Bool.and_self, Bool.true_and, Bool.and_true, nI_add, pk_mul, nI_clamp, decide_true, Nat.le_refl, bI_eq, bI_z1, nI_ltI, nI_leI, pk_L, cc_L, n1, hw4, lg_cmp_eq, hle9, hni]
      have hr : toldB nm n x = true := by unfold toldB; rw [i1, pF_t hi (decide_eq_true (Decidable.not_not.mp hk))]; rfl
      rw [hr] at hQ
      exact hQ
  · intro _ i1
    try dsimp only at *
    refine go_at (blk := b_Reader_isNameTold_2) rfl ?_
    simp (disch := omega) only [b_Reader_isNameTold_2, be_4, be_6, be_34, be_33, be_49_3, kc_2, rf_2_0, kc_3, List.getD_cons_zero, List.getD_cons_succ, List.set_cons_zero, List.set_cons_succ, List.length_cons, List.length_nil, pk_I, pk_A, pr_A, pi_I, st_s, st_n, if_true, if_false, eq_self, d_if, d_ju, d_re, d_ca, cat0, cat1, cat2, cat3, fr_z, fr_s, cc_I, cc_A, cc_N, Nat.reduceAdd, Nat.reduceLT, Nat.reduceLeDiff, Nat.reduceEqDiff, not_true, not_false_iff, z1_0, z1_1, Bool.and_self, Bool.true_and, Bool.and_true, nI_add, pk_mul, nI_clamp, decide_true, Nat.le_refl, bI_eq, bI_z1, nI_ltI, nI_leI, pk_L, cc_L, n1]
    refine go_at (blk := b_Reader_isNameTold_32) rfl ?_
    simp (disch := omega) only [b_Reader_isNameTold_32, be_1, be_73, List.getD_cons_zero, List.getD_cons_succ, List.set_cons_zero, List.set_cons_succ, List.length_cons, List.length_nil, pk_I, pk_A, pr_A, pi_I, st_s, st_n, if_true, if_false, eq_self, d_if, d_ju, d_re, d_ca, cat0, cat1, cat2, cat3, fr_z, fr_s, cc_I, cc_A, cc_N, Nat.reduceAdd, Nat.reduceLT, Nat.reduceLeDiff, Nat.reduceEqDiff, not_true, not_false_iff, z1_0, z1_1, Bool.and_self, Bool.true_and, Bool.and_true, nI_add, pk_mul, nI_clamp, decide_true, Nat.le_refl, bI_eq, bI_z1, nI_ltI, nI_leI, pk_L, cc_L, n1]
    have hr : toldB nm n x = false := by unfold toldB; rw [i1, pF_e]; rfl
    rw [hr] at hQ
    exact hQ
theorem ck1 : nI 300 = nI (cK 1) := rfl
theorem k_name {d : Nat} {v : Nat → Nat → Int32} {w : Nat → Nat → Int64} {Q : Option Value → am_H → Prop} {E : ENV} {s : SG} (hE : CE E v w) (hs : CS E v s) {n : Nat} {nm : Nat → Nat} (hN : NX v w n nm) (hQ : ∀ v', F2 v v' → CS E v' (nameS E (toldB nm n) s) → Q (some (.long (lN (nameV E s)))) (428, 26053, KD, RF, v', w)) : am_Ca (d + 3) M_Reader_wantName [.ref 2] (428, 26053, KD, RF, v, w) Q := by
  obtain ⟨r, l, p⟩ := s
  cases r with
  | inl e =>
    have hceq : ¬ nI (cK (kdR E (.inl e, l, p))) = nI (cK 1) := fun z => absurd ((ck_eq (by show 3 < 37; omega) rfl (by omega) rfl).mp z) (by show ¬ 3 = 1; omega)
    refine ca_in (k := k_Reader_wantName) (nL := 3) rfl (Nat.le_of_ble_eq_true rfl) ?_
    show am_Go am_X0 _ k_Reader_wantName 0 ([.ref 2, .null, .null], [], _) _
    refine go_at (blk := b_Reader_wantName_0) rfl ?_
    simp (disch := omega) only [b_Reader_wantName_0, be_6, be_57_0, kc_2, List.getD_cons_zero, List.getD_cons_succ, List.set_cons_zero, List.set_cons_succ, List.length_cons, List.length_nil, pk_I, pk_A, pr_A, pi_I, st_s, st_n, if_true, if_false, eq_self, d_if, d_ju, d_re, d_ca, cat0, cat1, cat2, cat3, fr_z, fr_s, cc_I, cc_A, cc_N, Nat.reduceAdd, Nat.reduceLT, Nat.reduceLeDiff, Nat.reduceEqDiff, not_true, not_false_iff, z1_0, z1_1, Bool.and_self, Bool.true_and, Bool.and_true, nI_add, pk_mul, nI_clamp, decide_true, Nat.le_refl, bI_eq, bI_z1, ck1, hceq, nI_eq]
    refine k_kind hE hs ?_
    refine go_at (blk := b_Reader_wantName_4) rfl ?_
    simp (disch := omega) only [b_Reader_wantName_4, be_1, be_49_0, List.getD_cons_zero, List.getD_cons_succ, List.set_cons_zero, List.set_cons_succ, List.length_cons, List.length_nil, pk_I, pk_A, pr_A, pi_I, st_s, st_n, if_true, if_false, eq_self, d_if, d_ju, d_re, d_ca, cat0, cat1, cat2, cat3, fr_z, fr_s, cc_I, cc_A, cc_N, Nat.reduceAdd, Nat.reduceLT, Nat.reduceLeDiff, Nat.reduceEqDiff, not_true, not_false_iff, z1_0, z1_1, Bool.and_self, Bool.true_and, Bool.and_true, nI_add, pk_mul, nI_clamp, decide_true, Nat.le_refl, bI_eq, bI_z1, ck1, hceq, nI_eq]
    refine go_at (blk := b_Reader_wantName_10) rfl ?_
    simp (disch := omega) only [b_Reader_wantName_10, be_6, be_1, be_57_1, kc_2, List.getD_cons_zero, List.getD_cons_succ, List.set_cons_zero, List.set_cons_succ, List.length_cons, List.length_nil, pk_I, pk_A, pr_A, pi_I, st_s, st_n, if_true, if_false, eq_self, d_if, d_ju, d_re, d_ca, cat0, cat1, cat2, cat3, fr_z, fr_s, cc_I, cc_A, cc_N, Nat.reduceAdd, Nat.reduceLT, Nat.reduceLeDiff, Nat.reduceEqDiff, not_true, not_false_iff, z1_0, z1_1, Bool.and_self, Bool.true_and, Bool.and_true, nI_add, pk_mul, nI_clamp, decide_true, Nat.le_refl, bI_eq, bI_z1, ck1, hceq, nI_eq]
    refine k_fail hE hs (by omega) (by omega) ?_
    intro v2 f2 g2
    refine go_at (blk := b_Reader_wantName_15) rfl ?_
    simp (disch := omega) only [b_Reader_wantName_15, be_3, be_55, List.getD_cons_zero, List.getD_cons_succ, List.set_cons_zero, List.set_cons_succ, List.length_cons, List.length_nil, pk_I, pk_A, pr_A, pi_I, st_s, st_n, if_true, if_false, eq_self, d_if, d_ju, d_re, d_ca, cat0, cat1, cat2, cat3, fr_z, fr_s, cc_I, cc_A, cc_N, Nat.reduceAdd, Nat.reduceLT, Nat.reduceLeDiff, Nat.reduceEqDiff, not_true, not_false_iff, z1_0, z1_1, Bool.and_self, Bool.true_and, Bool.and_true, nI_add, pk_mul, nI_clamp, decide_true, Nat.le_refl, bI_eq, bI_z1, ck1, hceq, nI_eq]
    exact hQ v2 f2 g2
  | inr t =>
    have hs0' := hs
    have hs0 : CG E v t l p := hs
    have hceq : (nI (cK (kdR E (.inr t, l, p))) = nI (cK 1)) ↔ eK E t = 1 := ck_eq (hE.1.2.2.2.1 t).1 (hE.1.2.2.2.1 t).2 (by omega) rfl
    obtain ⟨g1, g4, gt, g5, g6, gl, g7⟩ := hs
    obtain ⟨gk, gp, gn, gv⟩ := hE.2 t gt
    have gL := hE.1.1
    refine ca_in (k := k_Reader_wantName) (nL := 3) rfl (Nat.le_of_ble_eq_true rfl) ?_
    show am_Go am_X0 _ k_Reader_wantName 0 ([.ref 2, .null, .null], [], _) _
    refine go_at (blk := b_Reader_wantName_0) rfl ?_
    simp (disch := omega) only [b_Reader_wantName_0, be_6, be_57_0, kc_2, List.getD_cons_zero, List.getD_cons_succ, List.set_cons_zero, List.set_cons_succ, List.length_cons, List.length_nil, pk_I, pk_A, pr_A, pi_I, st_s, st_n, if_true, if_false, eq_self, d_if, d_ju, d_re, d_ca, cat0, cat1, cat2, cat3, fr_z, fr_s, cc_I, cc_A, cc_N, Nat.reduceAdd, Nat.reduceLT, Nat.reduceLeDiff, Nat.reduceEqDiff, not_true, not_false_iff, z1_0, z1_1, Bool.and_self, Bool.true_and, Bool.and_true, nI_add, pk_mul, nI_clamp, decide_true, Nat.le_refl, bI_eq, bI_z1, nI_ltI, nI_leI, g5, g4, ck1, hceq, nI_eq, pk_L, cc_L]
    refine k_kind hE hs0' ?_
    refine go_at (blk := b_Reader_wantName_4) rfl ?_
    simp (disch := omega) only [b_Reader_wantName_4, be_1, be_49_0, List.getD_cons_zero, List.getD_cons_succ, List.set_cons_zero, List.set_cons_succ, List.length_cons, List.length_nil, pk_I, pk_A, pr_A, pi_I, st_s, st_n, if_true, if_false, eq_self, d_if, d_ju, d_re, d_ca, cat0, cat1, cat2, cat3, fr_z, fr_s, cc_I, cc_A, cc_N, Nat.reduceAdd, Nat.reduceLT, Nat.reduceLeDiff, Nat.reduceEqDiff, not_true, not_false_iff, z1_0, z1_1, Bool.and_self, Bool.true_and, Bool.and_true, nI_add, pk_mul, nI_clamp, decide_true, Nat.le_refl, bI_eq, bI_z1, nI_ltI, nI_leI, g5, g4, ck1, hceq, nI_eq, pk_L, cc_L]
    split
    · rename_i hc
      have hc : eK E t = 1 := hc
      have gv2 := gn hc
      have gv9 := (hE.1.2.2.2.2.1 t gt).2.2 hc
      have hE2 : ∀ v2, F2 v v2 → CE E v2 w := fun v2 f => CE_2 hE f
      refine go_at (blk := b_Reader_wantName_17) rfl ?_
      simp (disch := omega) only [b_Reader_wantName_17, be_6, be_34, be_33, be_41, be_8, be_5, be_57_1, kc_2, rf_2_2, kc_20, rf_20_2, ka_23, List.getD_cons_zero, List.getD_cons_succ, List.set_cons_zero, List.set_cons_succ, List.length_cons, List.length_nil, pk_I, pk_A, pr_A, pi_I, st_s, st_n, if_true, if_false, eq_self, d_if, d_ju, d_re, d_ca, cat0, cat1, cat2, cat3, fr_z, fr_s, cc_I, cc_A, cc_N, Nat.reduceAdd, Nat.reduceLT, Nat.reduceLeDiff, Nat.reduceEqDiff, not_true, not_false_iff, z1_0, z1_1, Bool.and_self, Bool.true_and, Bool.and_true, nI_add, pk_mul, nI_clamp, decide_true, Nat.le_refl, bI_eq, bI_z1, nI_ltI, nI_leI, g5, g4, ck1, hceq, nI_eq, pk_L, cc_L, gv2]
      refine k_told hN gv9 ?_
      refine go_at (blk := b_Reader_wantName_35) rfl ?_
      simp (disch := omega) only [b_Reader_wantName_35, be_50_0, List.getD_cons_zero, List.getD_cons_succ, List.set_cons_zero, List.set_cons_succ, List.length_cons, List.length_nil, pk_I, pk_A, pr_A, pi_I, st_s, st_n, if_true, if_false, eq_self, d_if, d_ju, d_re, d_ca, cat0, cat1, cat2, cat3, fr_z, fr_s, cc_I, cc_A, cc_N, Nat.reduceAdd, Nat.reduceLT, Nat.reduceLeDiff, Nat.reduceEqDiff, not_true, not_false_iff, z1_0, z1_1, Bool.and_self, Bool.true_and, Bool.and_true, nI_add, pk_mul, nI_clamp, decide_true, Nat.le_refl, bI_eq, bI_z1, nI_ltI, nI_leI, g5, g4, ck1, hceq, nI_eq, pk_L, cc_L, gv2]
      split
      · rename_i ht0
        have ht0 : toldB nm n (eM E t) = false := by simpa using ht0
        refine go_at (blk := b_Reader_wantName_43) rfl ?_
        simp (disch := omega) only [b_Reader_wantName_43, be_6, be_57_0, kc_2, List.getD_cons_zero, List.getD_cons_succ, List.set_cons_zero, List.set_cons_succ, List.length_cons, List.length_nil, pk_I, pk_A, pr_A, pi_I, st_s, st_n, if_true, if_false, eq_self, d_if, d_ju, d_re, d_ca, cat0, cat1, cat2, cat3, fr_z, fr_s, cc_I, cc_A, cc_N, Nat.reduceAdd, Nat.reduceLT, Nat.reduceLeDiff, Nat.reduceEqDiff, not_true, not_false_iff, z1_0, z1_1, Bool.and_self, Bool.true_and, Bool.and_true, nI_add, pk_mul, nI_clamp, decide_true, Nat.le_refl, bI_eq, bI_z1, nI_ltI, nI_leI, g5, g4, ck1, hceq, nI_eq, pk_L, cc_L, gv2]
        refine k_take hE (s := (.inr t, l, p)) hs0' (fun t' ht => ?_) ?_
        · have : t' = t := by dsimp only at ht; cases ht; rfl
          subst this
          rw [hc]
          exact ⟨by omega, by omega⟩
        intro v3 f3 g3
        refine go_at (blk := b_Reader_wantName_47) rfl ?_
        simp (disch := omega) only [b_Reader_wantName_47, be_5, be_55, List.getD_cons_zero, List.getD_cons_succ, List.set_cons_zero, List.set_cons_succ, List.length_cons, List.length_nil, pk_I, pk_A, pr_A, pi_I, st_s, st_n, if_true, if_false, eq_self, d_if, d_ju, d_re, d_ca, cat0, cat1, cat2, cat3, fr_z, fr_s, cc_I, cc_A, cc_N, Nat.reduceAdd, Nat.reduceLT, Nat.reduceLeDiff, Nat.reduceEqDiff, not_true, not_false_iff, z1_0, z1_1, Bool.and_self, Bool.true_and, Bool.and_true, nI_add, pk_mul, nI_clamp, decide_true, Nat.le_refl, bI_eq, bI_z1, nI_ltI, nI_leI, g5, g4, ck1, hceq, nI_eq, pk_L, cc_L, gv2]
        rw [show nameV E (.inr t, l, p) = eM E t from if_pos hc, show nameS E (toldB nm n) (.inr t, l, p) = takeS E (.inr t, l, p) from (if_pos hc).trans (by rw [if_neg (by rw [ht0]; decide)])] at hQ
        exact hQ v3 f3 g3
      · rename_i ht0
        have ht0 : toldB nm n (eM E t) = true := by simpa using ht0
        refine go_at (blk := b_Reader_wantName_38) rfl ?_
        simp (disch := omega) only [b_Reader_wantName_38, be_6, be_1, be_57_1, kc_2, List.getD_cons_zero, List.getD_cons_succ, List.set_cons_zero, List.set_cons_succ, List.length_cons, List.length_nil, pk_I, pk_A, pr_A, pi_I, st_s, st_n, if_true, if_false, eq_self, d_if, d_ju, d_re, d_ca, cat0, cat1, cat2, cat3, fr_z, fr_s, cc_I, cc_A, cc_N, Nat.reduceAdd, Nat.reduceLT, Nat.reduceLeDiff, Nat.reduceEqDiff, not_true, not_false_iff, z1_0, z1_1, Bool.and_self, Bool.true_and, Bool.and_true, nI_add, pk_mul, nI_clamp, decide_true, Nat.le_refl, bI_eq, bI_z1, nI_ltI, nI_leI, g5, g4, ck1, hceq, nI_eq, pk_L, cc_L, gv2]
        refine k_late hE hs0 (by omega) ?_
        intro v2 f2 g2
        refine go_at (blk := b_Reader_wantName_43) rfl ?_
        simp (disch := omega) only [b_Reader_wantName_43, be_6, be_57_0, kc_2, List.getD_cons_zero, List.getD_cons_succ, List.set_cons_zero, List.set_cons_succ, List.length_cons, List.length_nil, pk_I, pk_A, pr_A, pi_I, st_s, st_n, if_true, if_false, eq_self, d_if, d_ju, d_re, d_ca, cat0, cat1, cat2, cat3, fr_z, fr_s, cc_I, cc_A, cc_N, Nat.reduceAdd, Nat.reduceLT, Nat.reduceLeDiff, Nat.reduceEqDiff, not_true, not_false_iff, z1_0, z1_1, Bool.and_self, Bool.true_and, Bool.and_true, nI_add, pk_mul, nI_clamp, decide_true, Nat.le_refl, bI_eq, bI_z1, nI_ltI, nI_leI, g5, g4, ck1, hceq, nI_eq, pk_L, cc_L, gv2]
        refine k_take (hE2 v2 f2) (s := (lateS E 3 (.inr t, l, p))) g2 (fun t' ht => ?_) ?_
        · have : t' = t := by unfold lateS at ht; dsimp only at ht; split at ht <;> (dsimp only at ht; cases ht; rfl)
          subst this
          rw [hc]
          exact ⟨by omega, by omega⟩
        intro v3 f3 g3
        refine go_at (blk := b_Reader_wantName_47) rfl ?_
        simp (disch := omega) only [b_Reader_wantName_47, be_5, be_55, List.getD_cons_zero, List.getD_cons_succ, List.set_cons_zero, List.set_cons_succ, List.length_cons, List.length_nil, pk_I, pk_A, pr_A, pi_I, st_s, st_n, if_true, if_false, eq_self, d_if, d_ju, d_re, d_ca, cat0, cat1, cat2, cat3, fr_z, fr_s, cc_I, cc_A, cc_N, Nat.reduceAdd, Nat.reduceLT, Nat.reduceLeDiff, Nat.reduceEqDiff, not_true, not_false_iff, z1_0, z1_1, Bool.and_self, Bool.true_and, Bool.and_true, nI_add, pk_mul, nI_clamp, decide_true, Nat.le_refl, bI_eq, bI_z1, nI_ltI, nI_leI, g5, g4, ck1, hceq, nI_eq, pk_L, cc_L, gv2]
        rw [show nameV E (.inr t, l, p) = eM E t from if_pos hc, show nameS E (toldB nm n) (.inr t, l, p) = takeS E (lateS E 3 (.inr t, l, p)) from (if_pos hc).trans (by rw [if_pos ht0])] at hQ
        exact hQ v3 (F2_t f2 f3) g3
    · rename_i hc
      have hc : ¬ eK E t = 1 := hc
      refine go_at (blk := b_Reader_wantName_10) rfl ?_
      simp (disch := omega) only [b_Reader_wantName_10, be_6, be_1, be_57_1, kc_2, List.getD_cons_zero, List.getD_cons_succ, List.set_cons_zero, List.set_cons_succ, List.length_cons, List.length_nil, pk_I, pk_A, pr_A, pi_I, st_s, st_n, if_true, if_false, eq_self, d_if, d_ju, d_re, d_ca, cat0, cat1, cat2, cat3, fr_z, fr_s, cc_I, cc_A, cc_N, Nat.reduceAdd, Nat.reduceLT, Nat.reduceLeDiff, Nat.reduceEqDiff, not_true, not_false_iff, z1_0, z1_1, Bool.and_self, Bool.true_and, Bool.and_true, nI_add, pk_mul, nI_clamp, decide_true, Nat.le_refl, bI_eq, bI_z1, nI_ltI, nI_leI, g5, g4, ck1, hceq, nI_eq, pk_L, cc_L]
      refine k_fail hE hs0' (by omega) (by omega) ?_
      intro v2 f2 g2
      refine go_at (blk := b_Reader_wantName_15) rfl ?_
      simp (disch := omega) only [b_Reader_wantName_15, be_3, be_55, List.getD_cons_zero, List.getD_cons_succ, List.set_cons_zero, List.set_cons_succ, List.length_cons, List.length_nil, pk_I, pk_A, pr_A, pi_I, st_s, st_n, if_true, if_false, eq_self, d_if, d_ju, d_re, d_ca, cat0, cat1, cat2, cat3, fr_z, fr_s, cc_I, cc_A, cc_N, Nat.reduceAdd, Nat.reduceLT, Nat.reduceLeDiff, Nat.reduceEqDiff, not_true, not_false_iff, z1_0, z1_1, Bool.and_self, Bool.true_and, Bool.and_true, nI_add, pk_mul, nI_clamp, decide_true, Nat.le_refl, bI_eq, bI_z1, nI_ltI, nI_leI, g5, g4, ck1, hceq, nI_eq, pk_L, cc_L]
      rw [show nameV E (.inr t, l, p) = 0 from if_neg hc, show nameS E (toldB nm n) (.inr t, l, p) = failS E 1 (.inr t, l, p) from if_neg hc] at hQ
      exact hQ v2 f2 g2
/-- a pilgrim's TELL, up to its ; -/
def pl1 (E : ENV) (s : SG) : SG := takeS E s
def pl2 (E : ENV) (nm : Nat → Nat) (n : Nat) (s : SG) : SG := nameS E (toldB nm n) (pl1 E s)
def pl3 (E : ENV) (nm : Nat → Nat) (n : Nat) (s : SG) : SG := numS E 0 99 (pl2 E nm n s)
def pl4 (E : ENV) (nm : Nat → Nat) (n : Nat) (s : SG) : SG := numS E 0 4 (pl3 E nm n s)
def pl5 (E : ENV) (nm : Nat → Nat) (n : Nat) (s : SG) : SG := numS E 0 9 (pl4 E nm n s)
def pl6 (E : ENV) (nm : Nat → Nat) (n : Nat) (s : SG) : SG := numS E 1 99 (pl5 E nm n s)
def pl7 (E : ENV) (nm : Nat → Nat) (n : Nat) (s : SG) : SG := numS E 0 99 (pl6 E nm n s)
def plK (E : ENV) (nm : Nat → Nat) (n : Nat) (s : SG) : Bool := decide (kdR E (pl7 E nm n s) = 25)
def pl8 (E : ENV) (nm : Nat → Nat) (n : Nat) (s : SG) : SG := if plK E nm n s = true then takeS E (pl7 E nm n s) else pl7 E nm n s
theorem ck25 : nI 258 = nI (cK 25) := rfl
/-- the draft's pilgrims have changed, and what is read -/
def FDp (v v' : Nat → Nat → Int32) : Prop := ∀ c, c ≠ 2 → (c < 3 ∨ 9 < c) → v' c = v c
theorem F2_u {V V' : Nat → Nat → Int32} {c0 k : Nat} {x : Int32} (h : F2 V V') (hc : c0 ≠ 2) : F2 (am_u V c0 k x) (am_u V' c0 k x) := by
  intro c h2
  by_cases e : c = c0
  · rw [e, am_u_at, am_u_at, h c0 hc]
  · rw [am_u_ne e, am_u_ne e, h c h2]
set_option maxHeartbeats 2000000 in
theorem k_pilgrim {d : Nat} {v : Nat → Nat → Int32} {w : Nat → Nat → Int64} {Q : Option Value → am_H → Prop} {E : ENV} {s : SG} (hE : CE E v w) (hs : CS E v s) {n : Nat} {nm : Nat → Nat} (hN : NX v w n nm) (hn : n < 8) (hk : ∀ t, s.1 = .inr t → eK E t ≠ 0 ∧ eK E t ≠ 3) (hQ : ∀ v', F2 (am_u (am_u (am_u (am_u (am_u (am_u (am_u v 4 n (nI (numV E 0 (pl2 E nm n s)))) 5 n (nI (numV E 0 (pl3 E nm n s)))) 6 n (nI (numV E 0 (pl4 E nm n s)))) 7 n (nI (numV E 1 (pl5 E nm n s)))) 8 n (nI (numV E 0 (pl6 E nm n s)))) 9 n (bI (plK E nm n s))) 3 2 (nI (n + 1))) v' → CS E v' (pl8 E nm n s) → Q none (428, 26053, KD, RF, v', am_uL w 24 n (lN (nameV E (pl1 E s))))) : am_Ca (d + 4) M_Reader_readPilgrim [.ref 2] (428, 26053, KD, RF, v, w) Q := by
  obtain ⟨n1, n2, n3⟩ := hN
  have hN : NX v w n nm := ⟨n1, n2, n3⟩
  have hn8 : n < 8 := hn
  refine ca_in (k := k_Reader_readPilgrim) (nL := 2) rfl (Nat.le_of_ble_eq_true rfl) ?_
  show am_Go am_X0 _ k_Reader_readPilgrim 0 ([.ref 2, .null], [], _) _
  refine go_at (blk := b_Reader_readPilgrim_0) rfl ?_
  simp (disch := omega) only [b_Reader_readPilgrim_0, be_6, be_34, be_33, be_7, be_4, be_1, be_49_2, kc_2, rf_2_0, kc_3, List.getD_cons_zero, List.getD_cons_succ, List.set_cons_zero, List.set_cons_succ, List.length_cons, List.length_nil, pk_I, pk_A, pr_A, pi_I, st_s, st_n, if_true, if_false, eq_self, d_if, d_ju, d_re, d_ca, cat0, cat1, cat2, cat3, fr_z, fr_s, cc_I, cc_A, cc_N, Nat.reduceAdd, Nat.reduceLT, Nat.reduceLeDiff, Nat.reduceEqDiff, not_true, not_false_iff, z1_0, z1_1, Bool.and_self, Bool.true_and, Bool.and_true, nI_add, pk_mul, nI_clamp, decide_true, Nat.le_refl, bI_eq, bI_z1, nI_ltI, nI_leI, n1, hn8, am_u_at, am_u_ne, upd_at, upd_ne, pk_L, cc_L]
  refine go_at (blk := b_Reader_readPilgrim_20) rfl ?_
  simp (disch := omega) only [b_Reader_readPilgrim_20, be_6, be_57_0, kc_2, List.getD_cons_zero, List.getD_cons_succ, List.set_cons_zero, List.set_cons_succ, List.length_cons, List.length_nil, pk_I, pk_A, pr_A, pi_I, st_s, st_n, if_true, if_false, eq_self, d_if, d_ju, d_re, d_ca, cat0, cat1, cat2, cat3, fr_z, fr_s, cc_I, cc_A, cc_N, Nat.reduceAdd, Nat.reduceLT, Nat.reduceLeDiff, Nat.reduceEqDiff, not_true, not_false_iff, z1_0, z1_1, Bool.and_self, Bool.true_and, Bool.and_true, nI_add, pk_mul, nI_clamp, decide_true, Nat.le_refl, bI_eq, bI_z1, nI_ltI, nI_leI, n1, hn8, am_u_at, am_u_ne, upd_at, upd_ne, pk_L, cc_L]
  refine k_take hE hs hk ?_
  intro v1 f1 s1
  have hE1 := CE_2 hE f1
  refine go_at (blk := b_Reader_readPilgrim_24) rfl ?_
  simp (disch := omega) only [b_Reader_readPilgrim_24, be_6, be_34, be_4, be_57_0, kc_2, rf_2_3, List.getD_cons_zero, List.getD_cons_succ, List.set_cons_zero, List.set_cons_succ, List.length_cons, List.length_nil, pk_I, pk_A, pr_A, pi_I, st_s, st_n, if_true, if_false, eq_self, d_if, d_ju, d_re, d_ca, cat0, cat1, cat2, cat3, fr_z, fr_s, cc_I, cc_A, cc_N, Nat.reduceAdd, Nat.reduceLT, Nat.reduceLeDiff, Nat.reduceEqDiff, not_true, not_false_iff, z1_0, z1_1, Bool.and_self, Bool.true_and, Bool.and_true, nI_add, pk_mul, nI_clamp, decide_true, Nat.le_refl, bI_eq, bI_z1, nI_ltI, nI_leI, n1, hn8, am_u_at, am_u_ne, upd_at, upd_ne, pk_L, cc_L]
  refine k_name (s := pl1 E s) hE1 s1 (NX_2 hN f1) ?_
  intro v2 f2 s2
  have hE2 : CE E v2 (am_uL w 24 n (lN (nameV E (pl1 E s)))) := ⟨(CE_2 hE1 f2).1, fun j hj => by rw [uL_ne (by omega)]; exact (CE_2 hE1 f2).2 j hj⟩
  refine go_at (blk := b_Reader_readPilgrim_33) rfl ?_
  simp (disch := omega) only [b_Reader_readPilgrim_33, be_46, be_6, be_34, be_4, be_1, be_57_2, ka_24, kc_2, rf_2_0, kc_3, rf_3_3, List.getD_cons_zero, List.getD_cons_succ, List.set_cons_zero, List.set_cons_succ, List.length_cons, List.length_nil, pk_I, pk_A, pr_A, pi_I, st_s, st_n, if_true, if_false, eq_self, d_if, d_ju, d_re, d_ca, cat0, cat1, cat2, cat3, fr_z, fr_s, cc_I, cc_A, cc_N, Nat.reduceAdd, Nat.reduceLT, Nat.reduceLeDiff, Nat.reduceEqDiff, not_true, not_false_iff, z1_0, z1_1, Bool.and_self, Bool.true_and, Bool.and_true, nI_add, pk_mul, nI_clamp, decide_true, Nat.le_refl, bI_eq, bI_z1, nI_ltI, nI_leI, n1, hn8, am_u_at, am_u_ne, upd_at, upd_ne, pk_L, cc_L]
  refine k_num (lo := 0) (hi := 99) (s := pl2 E nm n s) (hE2) s2 (by omega) (by omega) ?_
  intro v3 f3 s3
  have hE3 : CE E (am_u v3 4 n (nI (numV E 0 (pl2 E nm n s)))) (am_uL w 24 n (lN (nameV E (pl1 E s)))) := CE_w (CE_2 hE2 f3) (by rw [am_u_ne (by omega)]) (by rw [am_u_ne (by omega)])
  have t3 : CS E (am_u v3 4 n (nI (numV E 0 (pl2 E nm n s)))) (pl3 E nm n s) := CS_w s3 (by rw [am_u_ne (by omega)])
  refine go_at (blk := b_Reader_readPilgrim_49) rfl ?_
  simp (disch := omega) only [b_Reader_readPilgrim_49, be_43, be_6, be_34, be_4, be_1, be_57_2, ka_4, kc_2, rf_2_0, kc_3, rf_3_4, List.getD_cons_zero, List.getD_cons_succ, List.set_cons_zero, List.set_cons_succ, List.length_cons, List.length_nil, pk_I, pk_A, pr_A, pi_I, st_s, st_n, if_true, if_false, eq_self, d_if, d_ju, d_re, d_ca, cat0, cat1, cat2, cat3, fr_z, fr_s, cc_I, cc_A, cc_N, Nat.reduceAdd, Nat.reduceLT, Nat.reduceLeDiff, Nat.reduceEqDiff, not_true, not_false_iff, z1_0, z1_1, Bool.and_self, Bool.true_and, Bool.and_true, nI_add, pk_mul, nI_clamp, decide_true, Nat.le_refl, bI_eq, bI_z1, nI_ltI, nI_leI, n1, hn8, am_u_at, am_u_ne, upd_at, upd_ne, pk_L, cc_L]
  refine k_num (lo := 0) (hi := 4) (s := pl3 E nm n s) (hE3) t3 (by omega) (by omega) ?_
  intro v4 f4 s4
  have hE4 : CE E (am_u v4 5 n (nI (numV E 0 (pl3 E nm n s)))) (am_uL w 24 n (lN (nameV E (pl1 E s)))) := CE_w (CE_2 hE3 f4) (by rw [am_u_ne (by omega)]) (by rw [am_u_ne (by omega)])
  have t4 : CS E (am_u v4 5 n (nI (numV E 0 (pl3 E nm n s)))) (pl4 E nm n s) := CS_w s4 (by rw [am_u_ne (by omega)])
  refine go_at (blk := b_Reader_readPilgrim_64) rfl ?_
  simp (disch := omega) only [b_Reader_readPilgrim_64, be_43, be_6, be_34, be_4, be_1, be_57_2, ka_5, kc_2, rf_2_0, kc_3, rf_3_5, List.getD_cons_zero, List.getD_cons_succ, List.set_cons_zero, List.set_cons_succ, List.length_cons, List.length_nil, pk_I, pk_A, pr_A, pi_I, st_s, st_n, if_true, if_false, eq_self, d_if, d_ju, d_re, d_ca, cat0, cat1, cat2, cat3, fr_z, fr_s, cc_I, cc_A, cc_N, Nat.reduceAdd, Nat.reduceLT, Nat.reduceLeDiff, Nat.reduceEqDiff, not_true, not_false_iff, z1_0, z1_1, Bool.and_self, Bool.true_and, Bool.and_true, nI_add, pk_mul, nI_clamp, decide_true, Nat.le_refl, bI_eq, bI_z1, nI_ltI, nI_leI, n1, hn8, am_u_at, am_u_ne, upd_at, upd_ne, pk_L, cc_L]
  refine k_num (lo := 0) (hi := 9) (s := pl4 E nm n s) (hE4) t4 (by omega) (by omega) ?_
  intro v5 f5 s5
  have hE5 : CE E (am_u v5 6 n (nI (numV E 0 (pl4 E nm n s)))) (am_uL w 24 n (lN (nameV E (pl1 E s)))) := CE_w (CE_2 hE4 f5) (by rw [am_u_ne (by omega)]) (by rw [am_u_ne (by omega)])
  have t5 : CS E (am_u v5 6 n (nI (numV E 0 (pl4 E nm n s)))) (pl5 E nm n s) := CS_w s5 (by rw [am_u_ne (by omega)])
  refine go_at (blk := b_Reader_readPilgrim_80) rfl ?_
  simp (disch := omega) only [b_Reader_readPilgrim_80, be_43, be_6, be_34, be_4, be_1, be_57_2, ka_6, kc_2, rf_2_0, kc_3, rf_3_6, List.getD_cons_zero, List.getD_cons_succ, List.set_cons_zero, List.set_cons_succ, List.length_cons, List.length_nil, pk_I, pk_A, pr_A, pi_I, st_s, st_n, if_true, if_false, eq_self, d_if, d_ju, d_re, d_ca, cat0, cat1, cat2, cat3, fr_z, fr_s, cc_I, cc_A, cc_N, Nat.reduceAdd, Nat.reduceLT, Nat.reduceLeDiff, Nat.reduceEqDiff, not_true, not_false_iff, z1_0, z1_1, Bool.and_self, Bool.true_and, Bool.and_true, nI_add, pk_mul, nI_clamp, decide_true, Nat.le_refl, bI_eq, bI_z1, nI_ltI, nI_leI, n1, hn8, am_u_at, am_u_ne, upd_at, upd_ne, pk_L, cc_L]
  refine k_num (lo := 1) (hi := 99) (s := pl5 E nm n s) (hE5) t5 (by omega) (by omega) ?_
  intro v6 f6 s6
  have hE6 : CE E (am_u v6 7 n (nI (numV E 1 (pl5 E nm n s)))) (am_uL w 24 n (lN (nameV E (pl1 E s)))) := CE_w (CE_2 hE5 f6) (by rw [am_u_ne (by omega)]) (by rw [am_u_ne (by omega)])
  have t6 : CS E (am_u v6 7 n (nI (numV E 1 (pl5 E nm n s)))) (pl6 E nm n s) := CS_w s6 (by rw [am_u_ne (by omega)])
  refine go_at (blk := b_Reader_readPilgrim_96) rfl ?_
  simp (disch := omega) only [b_Reader_readPilgrim_96, be_43, be_6, be_34, be_4, be_1, be_57_2, ka_7, kc_2, rf_2_0, kc_3, rf_3_7, List.getD_cons_zero, List.getD_cons_succ, List.set_cons_zero, List.set_cons_succ, List.length_cons, List.length_nil, pk_I, pk_A, pr_A, pi_I, st_s, st_n, if_true, if_false, eq_self, d_if, d_ju, d_re, d_ca, cat0, cat1, cat2, cat3, fr_z, fr_s, cc_I, cc_A, cc_N, Nat.reduceAdd, Nat.reduceLT, Nat.reduceLeDiff, Nat.reduceEqDiff, not_true, not_false_iff, z1_0, z1_1, Bool.and_self, Bool.true_and, Bool.and_true, nI_add, pk_mul, nI_clamp, decide_true, Nat.le_refl, bI_eq, bI_z1, nI_ltI, nI_leI, n1, hn8, am_u_at, am_u_ne, upd_at, upd_ne, pk_L, cc_L]
  refine k_num (lo := 0) (hi := 99) (s := pl6 E nm n s) (hE6) t6 (by omega) (by omega) ?_
  intro v7 f7 s7
  have hE7 : CE E (am_u v7 8 n (nI (numV E 0 (pl6 E nm n s)))) (am_uL w 24 n (lN (nameV E (pl1 E s)))) := CE_w (CE_2 hE6 f7) (by rw [am_u_ne (by omega)]) (by rw [am_u_ne (by omega)])
  have t7 : CS E (am_u v7 8 n (nI (numV E 0 (pl6 E nm n s)))) (pl7 E nm n s) := CS_w s7 (by rw [am_u_ne (by omega)])
  refine go_at (blk := b_Reader_readPilgrim_112) rfl ?_
  simp (disch := omega) only [b_Reader_readPilgrim_112, be_43, be_6, be_34, be_4, be_57_0, ka_8, kc_2, rf_2_0, kc_3, rf_3_8, List.getD_cons_zero, List.getD_cons_succ, List.set_cons_zero, List.set_cons_succ, List.length_cons, List.length_nil, pk_I, pk_A, pr_A, pi_I, st_s, st_n, if_true, if_false, eq_self, d_if, d_ju, d_re, d_ca, cat0, cat1, cat2, cat3, fr_z, fr_s, cc_I, cc_A, cc_N, Nat.reduceAdd, Nat.reduceLT, Nat.reduceLeDiff, Nat.reduceEqDiff, not_true, not_false_iff, z1_0, z1_1, Bool.and_self, Bool.true_and, Bool.and_true, nI_add, pk_mul, nI_clamp, decide_true, Nat.le_refl, bI_eq, bI_z1, nI_ltI, nI_leI, n1, hn8, am_u_at, am_u_ne, upd_at, upd_ne, pk_L, cc_L]
  have r7 : F2 (am_u (am_u (am_u (am_u (am_u v 4 n (nI (numV E 0 (pl2 E nm n s)))) 5 n (nI (numV E 0 (pl3 E nm n s)))) 6 n (nI (numV E 0 (pl4 E nm n s)))) 7 n (nI (numV E 1 (pl5 E nm n s)))) 8 n (nI (numV E 0 (pl6 E nm n s)))) (am_u v7 8 n (nI (numV E 0 (pl6 E nm n s)))) := (F2_u (F2_t (F2_u (F2_t (F2_u (F2_t (F2_u (F2_t (F2_u (F2_t (F2_t f1 f2) f3) (by omega)) f4) (by omega)) f5) (by omega)) f6) (by omega)) f7) (by omega))
  have e7 : v7 3 2 = nI n := by
    have h9 := r7 3 (by omega)
    simp (disch := omega) only [am_u_ne] at h9
    rw [h9]
    exact n1
  refine k_kind (s := pl7 E nm n s) hE7 t7 ?_
  have hceq := ck_eq (kd_ok hE.1 (pl7 E nm n s)).1 (kd_ok hE.1 (pl7 E nm n s)).2 (show 25 < 37 by omega) rfl
  refine go_at (blk := b_Reader_readPilgrim_125) rfl ?_
  simp (disch := omega) only [b_Reader_readPilgrim_125, be_1, be_49_1, List.getD_cons_zero, List.getD_cons_succ, List.set_cons_zero, List.set_cons_succ, List.length_cons, List.length_nil, pk_I, pk_A, pr_A, pi_I, st_s, st_n, if_true, if_false, eq_self, d_if, d_ju, d_re, d_ca, cat0, cat1, cat2, cat3, fr_z, fr_s, cc_I, cc_A, cc_N, Nat.reduceAdd, Nat.reduceLT, Nat.reduceLeDiff, Nat.reduceEqDiff, not_true, not_false_iff, z1_0, z1_1, Bool.and_self, Bool.true_and, Bool.and_true, nI_add, pk_mul, nI_clamp, decide_true, Nat.le_refl, bI_eq, bI_z1, nI_ltI, nI_leI, n1, hn8, am_u_at, am_u_ne, upd_at, upd_ne, pk_L, cc_L, ck25, hceq, vb_1, vb_0, nI_z, z_10]
  split
  · rename_i hc
    have hK : plK E nm n s = false := decide_eq_false hc
    refine go_at (blk := b_Reader_readPilgrim_135) rfl ?_
    simp (disch := omega) only [b_Reader_readPilgrim_135, be_1, be_0, List.getD_cons_zero, List.getD_cons_succ, List.set_cons_zero, List.set_cons_succ, List.length_cons, List.length_nil, pk_I, pk_A, pr_A, pi_I, st_s, st_n, if_true, if_false, eq_self, d_if, d_ju, d_re, d_ca, cat0, cat1, cat2, cat3, fr_z, fr_s, cc_I, cc_A, cc_N, Nat.reduceAdd, Nat.reduceLT, Nat.reduceLeDiff, Nat.reduceEqDiff, not_true, not_false_iff, z1_0, z1_1, Bool.and_self, Bool.true_and, Bool.and_true, nI_add, pk_mul, nI_clamp, decide_true, Nat.le_refl, bI_eq, bI_z1, nI_ltI, nI_leI, n1, hn8, am_u_at, am_u_ne, upd_at, upd_ne, pk_L, cc_L, ck25, hceq, vb_1, vb_0, nI_z, z_10]
    refine go_at (blk := b_Reader_readPilgrim_136) rfl ?_
    simp (disch := omega) only [b_Reader_readPilgrim_136, be_45, be_6, be_34, be_4, be_40, be_50_0, ka_9, kc_2, rf_2_0, kc_3, rf_3_8, List.getD_cons_zero, List.getD_cons_succ, List.set_cons_zero, List.set_cons_succ, List.length_cons, List.length_nil, pk_I, pk_A, pr_A, pi_I, st_s, st_n, if_true, if_false, eq_self, d_if, d_ju, d_re, d_ca, cat0, cat1, cat2, cat3, fr_z, fr_s, cc_I, cc_A, cc_N, Nat.reduceAdd, Nat.reduceLT, Nat.reduceLeDiff, Nat.reduceEqDiff, not_true, not_false_iff, z1_0, z1_1, Bool.and_self, Bool.true_and, Bool.and_true, nI_add, pk_mul, nI_clamp, decide_true, Nat.le_refl, bI_eq, bI_z1, nI_ltI, nI_leI, n1, hn8, am_u_at, am_u_ne, upd_at, upd_ne, pk_L, cc_L, ck25, hceq, vb_1, vb_0, nI_z, z_10]
    refine go_at (blk := b_Reader_readPilgrim_153) rfl ?_
    simp (disch := omega) only [b_Reader_readPilgrim_153, e7, be_6, be_34, be_30I, be_30A, be_33, be_1, be_12, be_35, be_56, kc_2, rf_2_0, kc_3, List.getD_cons_zero, List.getD_cons_succ, List.set_cons_zero, List.set_cons_succ, List.length_cons, List.length_nil, pk_I, pk_A, pr_A, pi_I, st_s, st_n, if_true, if_false, eq_self, d_if, d_ju, d_re, d_ca, cat0, cat1, cat2, cat3, fr_z, fr_s, cc_I, cc_A, cc_N, Nat.reduceAdd, Nat.reduceLT, Nat.reduceLeDiff, Nat.reduceEqDiff, not_true, not_false_iff, z1_0, z1_1, Bool.and_self, Bool.true_and, Bool.and_true, nI_add, pk_mul, nI_clamp, decide_true, Nat.le_refl, bI_eq, bI_z1, nI_ltI, nI_leI, n1, hn8, am_u_at, am_u_ne, upd_at, upd_ne, pk_L, cc_L, ck25, hceq, vb_1, vb_0, nI_z, z_10]
    exact hQ _ (F2_u (by rw [hK]; exact F2_u r7 (by omega)) (by omega)) (CS_w (s := pl8 E nm n s) (by unfold pl8; rw [hK, if_neg (by decide)]; exact t7) (by simp (disch := omega) only [am_u_ne]))
  · rename_i hc
    have hK : plK E nm n s = true := decide_eq_true (Decidable.not_not.mp hc)
    refine go_at (blk := b_Reader_readPilgrim_131) rfl ?_
    simp (disch := omega) only [b_Reader_readPilgrim_131, be_1, be_51, List.getD_cons_zero, List.getD_cons_succ, List.set_cons_zero, List.set_cons_succ, List.length_cons, List.length_nil, pk_I, pk_A, pr_A, pi_I, st_s, st_n, if_true, if_false, eq_self, d_if, d_ju, d_re, d_ca, cat0, cat1, cat2, cat3, fr_z, fr_s, cc_I, cc_A, cc_N, Nat.reduceAdd, Nat.reduceLT, Nat.reduceLeDiff, Nat.reduceEqDiff, not_true, not_false_iff, z1_0, z1_1, Bool.and_self, Bool.true_and, Bool.and_true, nI_add, pk_mul, nI_clamp, decide_true, Nat.le_refl, bI_eq, bI_z1, nI_ltI, nI_leI, n1, hn8, am_u_at, am_u_ne, upd_at, upd_ne, pk_L, cc_L, ck25, hceq, vb_1, vb_0, nI_z, z_10]
    refine go_at (blk := b_Reader_readPilgrim_136) rfl ?_
    simp (disch := omega) only [b_Reader_readPilgrim_136, be_45, be_6, be_34, be_4, be_40, be_50_0, ka_9, kc_2, rf_2_0, kc_3, rf_3_8, List.getD_cons_zero, List.getD_cons_succ, List.set_cons_zero, List.set_cons_succ, List.length_cons, List.length_nil, pk_I, pk_A, pr_A, pi_I, st_s, st_n, if_true, if_false, eq_self, d_if, d_ju, d_re, d_ca, cat0, cat1, cat2, cat3, fr_z, fr_s, cc_I, cc_A, cc_N, Nat.reduceAdd, Nat.reduceLT, Nat.reduceLeDiff, Nat.reduceEqDiff, not_true, not_false_iff, z1_0, z1_1, Bool.and_self, Bool.true_and, Bool.and_true, nI_add, pk_mul, nI_clamp, decide_true, Nat.le_refl, bI_eq, bI_z1, nI_ltI, nI_leI, n1, hn8, am_u_at, am_u_ne, upd_at, upd_ne, pk_L, cc_L, ck25, hceq, vb_1, vb_0, nI_z, z_10]
    refine go_at (blk := b_Reader_readPilgrim_149) rfl ?_
    simp (disch := omega) only [b_Reader_readPilgrim_149, be_6, be_57_0, kc_2, List.getD_cons_zero, List.getD_cons_succ, List.set_cons_zero, List.set_cons_succ, List.length_cons, List.length_nil, pk_I, pk_A, pr_A, pi_I, st_s, st_n, if_true, if_false, eq_self, d_if, d_ju, d_re, d_ca, cat0, cat1, cat2, cat3, fr_z, fr_s, cc_I, cc_A, cc_N, Nat.reduceAdd, Nat.reduceLT, Nat.reduceLeDiff, Nat.reduceEqDiff, not_true, not_false_iff, z1_0, z1_1, Bool.and_self, Bool.true_and, Bool.and_true, nI_add, pk_mul, nI_clamp, decide_true, Nat.le_refl, bI_eq, bI_z1, nI_ltI, nI_leI, n1, hn8, am_u_at, am_u_ne, upd_at, upd_ne, pk_L, cc_L, ck25, hceq, vb_1, vb_0, nI_z, z_10]
    refine k_take (s := pl7 E nm n s) (CE_w hE7 (by rw [am_u_ne (by omega)]) (by rw [am_u_ne (by omega)])) (CS_w t7 (by rw [am_u_ne (by omega)])) (fun t' ht => ?_) ?_
    · have hc := Decidable.not_not.mp hc
      unfold kdR at hc
      rw [ht] at hc
      dsimp only at hc
      rw [hc]
      exact ⟨by omega, by omega⟩
    intro v8 f8 s8
    have e8 : v8 3 2 = nI n := by
      rw [f8 3 (by omega)]
      simp (disch := omega) only [am_u_ne]
      exact e7
    refine go_at (blk := b_Reader_readPilgrim_153) rfl ?_
    simp (disch := omega) only [b_Reader_readPilgrim_153, e8, be_6, be_34, be_30I, be_30A, be_33, be_1, be_12, be_35, be_56, kc_2, rf_2_0, kc_3, List.getD_cons_zero, List.getD_cons_succ, List.set_cons_zero, List.set_cons_succ, List.length_cons, List.length_nil, pk_I, pk_A, pr_A, pi_I, st_s, st_n, if_true, if_false, eq_self, d_if, d_ju, d_re, d_ca, cat0, cat1, cat2, cat3, fr_z, fr_s, cc_I, cc_A, cc_N, Nat.reduceAdd, Nat.reduceLT, Nat.reduceLeDiff, Nat.reduceEqDiff, not_true, not_false_iff, z1_0, z1_1, Bool.and_self, Bool.true_and, Bool.and_true, nI_add, pk_mul, nI_clamp, decide_true, Nat.le_refl, bI_eq, bI_z1, nI_ltI, nI_leI, n1, hn8, am_u_at, am_u_ne, upd_at, upd_ne, pk_L, cc_L, ck25, hceq, vb_1, vb_0, nI_z, z_10]
    exact hQ _ (F2_u (F2_t (by rw [hK]; exact F2_u r7 (by omega)) f8) (by omega)) (CS_w (s := pl8 E nm n s) (by unfold pl8; rw [hK, if_pos rfl]; exact s8) (by simp (disch := omega) only [am_u_ne]))
theorem k_pilgrim8 {d : Nat} {v : Nat → Nat → Int32} {w : Nat → Nat → Int64} {Q : Option Value → am_H → Prop} {E : ENV} {s : SG} (hE : CE E v w) (hs : CS E v s) {nm : Nat → Nat} (hN : NX v w 8 nm) (hQ : ∀ v', F2 v v' → CS E v' (failS E 2 s) → Q none (428, 26053, KD, RF, v', w)) : am_Ca (d + 4) M_Reader_readPilgrim [.ref 2] (428, 26053, KD, RF, v, w) Q := by
  obtain ⟨n1, n2, n3⟩ := hN
  have hn8 : ¬ (8 : Nat) < 8 := by omega
  refine ca_in (k := k_Reader_readPilgrim) (nL := 2) rfl (Nat.le_of_ble_eq_true rfl) ?_
  show am_Go am_X0 _ k_Reader_readPilgrim 0 ([.ref 2, .null], [], _) _
  refine go_at (blk := b_Reader_readPilgrim_0) rfl ?_
  simp (disch := omega) only [b_Reader_readPilgrim_0, be_6, be_34, be_33, be_7, be_4, be_1, be_49_2, kc_2, rf_2_0, kc_3, List.getD_cons_zero, List.getD_cons_succ, List.set_cons_zero, List.set_cons_succ, List.length_cons, List.length_nil, pk_I, pk_A, pr_A, pi_I, st_s, st_n, if_true, if_false, eq_self, d_if, d_ju, d_re, d_ca, cat0, cat1, cat2, cat3, fr_z, fr_s, cc_I, cc_A, cc_N, Nat.reduceAdd, Nat.reduceLT, Nat.reduceLeDiff, Nat.reduceEqDiff, not_true, not_false_iff, z1_0, z1_1, Bool.and_self, Bool.true_and, Bool.and_true, nI_add, pk_mul, nI_clamp, decide_true, Nat.le_refl, bI_eq, bI_z1, nI_ltI, nI_leI, n1, hn8]
  refine go_at (blk := b_Reader_readPilgrim_14) rfl ?_
  simp (disch := omega) only [b_Reader_readPilgrim_14, be_6, be_1, be_57_1, kc_2, List.getD_cons_zero, List.getD_cons_succ, List.set_cons_zero, List.set_cons_succ, List.length_cons, List.length_nil, pk_I, pk_A, pr_A, pi_I, st_s, st_n, if_true, if_false, eq_self, d_if, d_ju, d_re, d_ca, cat0, cat1, cat2, cat3, fr_z, fr_s, cc_I, cc_A, cc_N, Nat.reduceAdd, Nat.reduceLT, Nat.reduceLeDiff, Nat.reduceEqDiff, not_true, not_false_iff, z1_0, z1_1, Bool.and_self, Bool.true_and, Bool.and_true, nI_add, pk_mul, nI_clamp, decide_true, Nat.le_refl, bI_eq, bI_z1, nI_ltI, nI_leI, n1, hn8]
  refine k_fail hE hs (by omega) (by omega) ?_
  intro v1 f1 s1
  refine go_at (blk := b_Reader_readPilgrim_19) rfl ?_
  simp (disch := omega) only [b_Reader_readPilgrim_19, be_56, List.getD_cons_zero, List.getD_cons_succ, List.set_cons_zero, List.set_cons_succ, List.length_cons, List.length_nil, pk_I, pk_A, pr_A, pi_I, st_s, st_n, if_true, if_false, eq_self, d_if, d_ju, d_re, d_ca, cat0, cat1, cat2, cat3, fr_z, fr_s, cc_I, cc_A, cc_N, Nat.reduceAdd, Nat.reduceLT, Nat.reduceLeDiff, Nat.reduceEqDiff, not_true, not_false_iff, z1_0, z1_1, Bool.and_self, Bool.true_and, Bool.and_true, nI_add, pk_mul, nI_clamp, decide_true, Nat.le_refl, bI_eq, bI_z1, nI_ltI, nI_leI, n1, hn8]
  exact hQ v1 f1 s1
