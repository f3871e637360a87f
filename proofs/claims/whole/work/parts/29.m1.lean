/-! laid by wip/whole/m1.py: the reference: who is on the stair, what is seen, a minute -/
def inB (x a b : Int32) : Bool := !decide (x < a) && !decide (b < x)
/-- which text is live, how many pilgrims it has -/
def TW (v : Nat → Nat → Int32) (lv n : Nat) : Prop := v 388 18 = nI lv ∧ lv < 2 ∧ v 398 lv = nI n ∧ n ≤ 8
theorem m_in {d : Nat} {x a b : Int32} {h : am_H} {Q : Option Value → am_H → Prop} (hq : Q (some (.int (bI (inB x a b)))) h) : am_Ca (d + 1) M_Model_in [.int x, .int a, .int b] h Q := by
  refine ca_in (k := k_Model_in) (nL := 3) rfl (Nat.le_of_ble_eq_true rfl) ?_
  show am_Go am_X0 _ k_Model_in 0 ([.int x, .int a, .int b], [], _) _
  refine go_at (blk := b_Model_in_0) rfl ?_
  simp (disch := omega) only [b_Model_in_0, be_4, be_49_2, List.getD_cons_zero, List.getD_cons_succ, List.set_cons_zero, List.set_cons_succ, List.length_cons, List.length_nil, pk_I, pk_A, pr_A, pi_I, st_s, st_n, if_true, if_false, eq_self, d_if, d_ju, d_re, d_ca, cat0, cat1, cat2, cat3, fr_z, fr_s, cc_I, cc_A, cc_N, z1_0, z1_1, Bool.and_self, Bool.true_and, Bool.and_true, nI_add, pk_mul, nI_clamp, decide_true, Nat.le_refl, bI_eq, bI_z1]
  split
  · rename_i hc
    refine go_at (blk := b_Model_in_14) rfl ?_
    simp (disch := omega) only [b_Model_in_14, be_1, be_0, List.getD_cons_zero, List.getD_cons_succ, List.set_cons_zero, List.set_cons_succ, List.length_cons, List.length_nil, pk_I, pk_A, pr_A, pi_I, st_s, st_n, if_true, if_false, eq_self, d_if, d_ju, d_re, d_ca, cat0, cat1, cat2, cat3, fr_z, fr_s, cc_I, cc_A, cc_N, z1_0, z1_1, Bool.and_self, Bool.true_and, Bool.and_true, nI_add, pk_mul, nI_clamp, decide_true, Nat.le_refl, bI_eq, bI_z1]
    refine go_at (blk := b_Model_in_15) rfl ?_
    simp (disch := omega) only [b_Model_in_15, be_73, List.getD_cons_zero, List.getD_cons_succ, List.set_cons_zero, List.set_cons_succ, List.length_cons, List.length_nil, pk_I, pk_A, pr_A, pi_I, st_s, st_n, if_true, if_false, eq_self, d_if, d_ju, d_re, d_ca, cat0, cat1, cat2, cat3, fr_z, fr_s, cc_I, cc_A, cc_N, z1_0, z1_1, Bool.and_self, Bool.true_and, Bool.and_true, nI_add, pk_mul, nI_clamp, decide_true, Nat.le_refl, bI_eq, bI_z1]
    rw [show inB x a b = false by simp [inB, hc]] at hq
    exact hq
  · rename_i hc
    refine go_at (blk := b_Model_in_5) rfl ?_
    simp (disch := omega) only [b_Model_in_5, be_4, be_49_4, List.getD_cons_zero, List.getD_cons_succ, List.set_cons_zero, List.set_cons_succ, List.length_cons, List.length_nil, pk_I, pk_A, pr_A, pi_I, st_s, st_n, if_true, if_false, eq_self, d_if, d_ju, d_re, d_ca, cat0, cat1, cat2, cat3, fr_z, fr_s, cc_I, cc_A, cc_N, z1_0, z1_1, Bool.and_self, Bool.true_and, Bool.and_true, nI_add, pk_mul, nI_clamp, decide_true, Nat.le_refl, bI_eq, bI_z1]
    split
    · rename_i hc2
      refine go_at (blk := b_Model_in_14) rfl ?_
      simp (disch := omega) only [b_Model_in_14, be_1, be_0, List.getD_cons_zero, List.getD_cons_succ, List.set_cons_zero, List.set_cons_succ, List.length_cons, List.length_nil, pk_I, pk_A, pr_A, pi_I, st_s, st_n, if_true, if_false, eq_self, d_if, d_ju, d_re, d_ca, cat0, cat1, cat2, cat3, fr_z, fr_s, cc_I, cc_A, cc_N, z1_0, z1_1, Bool.and_self, Bool.true_and, Bool.and_true, nI_add, pk_mul, nI_clamp, decide_true, Nat.le_refl, bI_eq, bI_z1]
      refine go_at (blk := b_Model_in_15) rfl ?_
      simp (disch := omega) only [b_Model_in_15, be_73, List.getD_cons_zero, List.getD_cons_succ, List.set_cons_zero, List.set_cons_succ, List.length_cons, List.length_nil, pk_I, pk_A, pr_A, pi_I, st_s, st_n, if_true, if_false, eq_self, d_if, d_ju, d_re, d_ca, cat0, cat1, cat2, cat3, fr_z, fr_s, cc_I, cc_A, cc_N, z1_0, z1_1, Bool.and_self, Bool.true_and, Bool.and_true, nI_add, pk_mul, nI_clamp, decide_true, Nat.le_refl, bI_eq, bI_z1]
      rw [show inB x a b = false by simp [inB, hc2]] at hq
      exact hq
    · rename_i hc2
      refine go_at (blk := b_Model_in_10) rfl ?_
      simp (disch := omega) only [b_Model_in_10, be_1, be_51, List.getD_cons_zero, List.getD_cons_succ, List.set_cons_zero, List.set_cons_succ, List.length_cons, List.length_nil, pk_I, pk_A, pr_A, pi_I, st_s, st_n, if_true, if_false, eq_self, d_if, d_ju, d_re, d_ca, cat0, cat1, cat2, cat3, fr_z, fr_s, cc_I, cc_A, cc_N, z1_0, z1_1, Bool.and_self, Bool.true_and, Bool.and_true, nI_add, pk_mul, nI_clamp, decide_true, Nat.le_refl, bI_eq, bI_z1]
      refine go_at (blk := b_Model_in_15) rfl ?_
      simp (disch := omega) only [b_Model_in_15, be_73, List.getD_cons_zero, List.getD_cons_succ, List.set_cons_zero, List.set_cons_succ, List.length_cons, List.length_nil, pk_I, pk_A, pr_A, pi_I, st_s, st_n, if_true, if_false, eq_self, d_if, d_ju, d_re, d_ca, cat0, cat1, cat2, cat3, fr_z, fr_s, cc_I, cc_A, cc_N, z1_0, z1_1, Bool.and_self, Bool.true_and, Bool.and_true, nI_add, pk_mul, nI_clamp, decide_true, Nat.le_refl, bI_eq, bI_z1]
      rw [show inB x a b = true by simp [inB, hc, hc2]] at hq
      exact hq
theorem m_plainly {d : Nat} {v : Nat → Nat → Int32} {f x g : Nat → Int32} {b : Int32} {w : Nat → Nat → Int64} {Q : Option Value → am_H → Prop} (hq : Q none (428, 26053, KD, RF, mS (am_u (am_u v 388 49 (-1)) 388 50 (nI 0)) f x g b, w)) : am_Ca (d + 1) M_Model_plainly [.ref 388] (428, 26053, KD, RF, mS v f x g b, w) Q := by
  refine ca_in (k := k_Model_plainly) (nL := 1) rfl (Nat.le_of_ble_eq_true rfl) ?_
  show am_Go am_X0 _ k_Model_plainly 0 ([.ref 388], [], _) _
  refine go_at (blk := b_Model_plainly_0) rfl ?_
  simp (disch := omega) only [b_Model_plainly_0, be_6, be_2, be_35, be_1, be_56, kc_388, List.getD_cons_zero, List.getD_cons_succ, List.set_cons_zero, List.set_cons_succ, List.length_cons, List.length_nil, pk_I, pk_A, pr_A, pi_I, st_s, st_n, if_true, if_false, eq_self, d_if, d_ju, d_re, d_ca, cat0, cat1, cat2, cat3, fr_z, fr_s, cc_I, cc_A, cc_N, z1_0, z1_1, Bool.and_self, Bool.true_and, Bool.and_true, nI_add, pk_mul, nI_clamp, decide_true, Nat.le_refl, bI_eq, bI_z1, mS_419, mS_416, mS_417, mS_46, mS_388, mS_o, mS_u419, mS_u416, mS_u417, mS_u46, mS_u388, mS_uo]
  exact hq
theorem m_isOn {d : Nat} {p : Nat} (hp : p < 8) {v : Nat → Nat → Int32} {f x g : Nat → Int32} {b : Int32} {w : Nat → Nat → Int64} {Q : Option Value → am_H → Prop} (hq : Q (some (.int (bI (onB f (v 388 49) p)))) (428, 26053, KD, RF, mS v f x g b, w)) : am_Ca (d + 1) M_Model_isOn [.ref 388, .int (nI p)] (428, 26053, KD, RF, mS v f x g b, w) Q := by
  refine ca_in (k := k_Model_isOn) (nL := 2) rfl (Nat.le_of_ble_eq_true rfl) ?_
  show am_Go am_X0 _ k_Model_isOn 0 ([.ref 388, .int (nI p)], [], _) _
  refine go_at (blk := b_Model_isOn_0) rfl ?_
  simp (disch := omega) only [b_Model_isOn_0, be_6, be_34, be_1, be_4, be_12, be_38, be_2, be_49_1, kc_388, rf_388_48, ka_419, List.getD_cons_zero, List.getD_cons_succ, List.set_cons_zero, List.set_cons_succ, List.length_cons, List.length_nil, pk_I, pk_A, pr_A, pi_I, st_s, st_n, if_true, if_false, eq_self, d_if, d_ju, d_re, d_ca, cat0, cat1, cat2, cat3, fr_z, fr_s, cc_I, cc_A, cc_N, z1_0, z1_1, Bool.and_self, Bool.true_and, Bool.and_true, nI_add, pk_mul, nI_clamp, decide_true, Nat.le_refl, bI_eq, bI_z1, mS_419, mS_416, mS_417, mS_46, mS_388, mS_o, mS_u419, mS_u416, mS_u417, mS_u46, mS_u388, mS_uo]
  split
  · rename_i hc
    refine go_at (blk := b_Model_isOn_25) rfl ?_
    simp (disch := omega) only [b_Model_isOn_25, be_1, be_0, List.getD_cons_zero, List.getD_cons_succ, List.set_cons_zero, List.set_cons_succ, List.length_cons, List.length_nil, pk_I, pk_A, pr_A, pi_I, st_s, st_n, if_true, if_false, eq_self, d_if, d_ju, d_re, d_ca, cat0, cat1, cat2, cat3, fr_z, fr_s, cc_I, cc_A, cc_N, z1_0, z1_1, Bool.and_self, Bool.true_and, Bool.and_true, nI_add, pk_mul, nI_clamp, decide_true, Nat.le_refl, bI_eq, bI_z1, mS_419, mS_416, mS_417, mS_46, mS_388, mS_o, mS_u419, mS_u416, mS_u417, mS_u46, mS_u388, mS_uo]
    refine go_at (blk := b_Model_isOn_26) rfl ?_
    simp (disch := omega) only [b_Model_isOn_26, be_73, List.getD_cons_zero, List.getD_cons_succ, List.set_cons_zero, List.set_cons_succ, List.length_cons, List.length_nil, pk_I, pk_A, pr_A, pi_I, st_s, st_n, if_true, if_false, eq_self, d_if, d_ju, d_re, d_ca, cat0, cat1, cat2, cat3, fr_z, fr_s, cc_I, cc_A, cc_N, z1_0, z1_1, Bool.and_self, Bool.true_and, Bool.and_true, nI_add, pk_mul, nI_clamp, decide_true, Nat.le_refl, bI_eq, bI_z1, mS_419, mS_416, mS_417, mS_46, mS_388, mS_o, mS_u419, mS_u416, mS_u417, mS_u46, mS_u388, mS_uo]
    rw [show onB f (v 388 49) p = false by simp [onB, hc]] at hq
    exact hq
  · rename_i hc
    refine go_at (blk := b_Model_isOn_13) rfl ?_
    simp (disch := omega) only [b_Model_isOn_13, be_4, be_6, be_33, be_49_0, kc_388, List.getD_cons_zero, List.getD_cons_succ, List.set_cons_zero, List.set_cons_succ, List.length_cons, List.length_nil, pk_I, pk_A, pr_A, pi_I, st_s, st_n, if_true, if_false, eq_self, d_if, d_ju, d_re, d_ca, cat0, cat1, cat2, cat3, fr_z, fr_s, cc_I, cc_A, cc_N, z1_0, z1_1, Bool.and_self, Bool.true_and, Bool.and_true, nI_add, pk_mul, nI_clamp, decide_true, Nat.le_refl, bI_eq, bI_z1, mS_419, mS_416, mS_417, mS_46, mS_388, mS_o, mS_u419, mS_u416, mS_u417, mS_u46, mS_u388, mS_uo]
    split
    · rename_i hc2
      refine go_at (blk := b_Model_isOn_25) rfl ?_
      simp (disch := omega) only [b_Model_isOn_25, be_1, be_0, List.getD_cons_zero, List.getD_cons_succ, List.set_cons_zero, List.set_cons_succ, List.length_cons, List.length_nil, pk_I, pk_A, pr_A, pi_I, st_s, st_n, if_true, if_false, eq_self, d_if, d_ju, d_re, d_ca, cat0, cat1, cat2, cat3, fr_z, fr_s, cc_I, cc_A, cc_N, z1_0, z1_1, Bool.and_self, Bool.true_and, Bool.and_true, nI_add, pk_mul, nI_clamp, decide_true, Nat.le_refl, bI_eq, bI_z1, mS_419, mS_416, mS_417, mS_46, mS_388, mS_o, mS_u419, mS_u416, mS_u417, mS_u46, mS_u388, mS_uo]
      refine go_at (blk := b_Model_isOn_26) rfl ?_
      simp (disch := omega) only [b_Model_isOn_26, be_73, List.getD_cons_zero, List.getD_cons_succ, List.set_cons_zero, List.set_cons_succ, List.length_cons, List.length_nil, pk_I, pk_A, pr_A, pi_I, st_s, st_n, if_true, if_false, eq_self, d_if, d_ju, d_re, d_ca, cat0, cat1, cat2, cat3, fr_z, fr_s, cc_I, cc_A, cc_N, z1_0, z1_1, Bool.and_self, Bool.true_and, Bool.and_true, nI_add, pk_mul, nI_clamp, decide_true, Nat.le_refl, bI_eq, bI_z1, mS_419, mS_416, mS_417, mS_46, mS_388, mS_o, mS_u419, mS_u416, mS_u417, mS_u46, mS_u388, mS_uo]
      rw [show onB f (v 388 49) p = false by simp [onB, hc2]] at hq
      exact hq
    · rename_i hc2
      refine go_at (blk := b_Model_isOn_21) rfl ?_
      simp (disch := omega) only [b_Model_isOn_21, be_1, be_51, List.getD_cons_zero, List.getD_cons_succ, List.set_cons_zero, List.set_cons_succ, List.length_cons, List.length_nil, pk_I, pk_A, pr_A, pi_I, st_s, st_n, if_true, if_false, eq_self, d_if, d_ju, d_re, d_ca, cat0, cat1, cat2, cat3, fr_z, fr_s, cc_I, cc_A, cc_N, z1_0, z1_1, Bool.and_self, Bool.true_and, Bool.and_true, nI_add, pk_mul, nI_clamp, decide_true, Nat.le_refl, bI_eq, bI_z1, mS_419, mS_416, mS_417, mS_46, mS_388, mS_o, mS_u419, mS_u416, mS_u417, mS_u46, mS_u388, mS_uo]
      refine go_at (blk := b_Model_isOn_26) rfl ?_
      simp (disch := omega) only [b_Model_isOn_26, be_73, List.getD_cons_zero, List.getD_cons_succ, List.set_cons_zero, List.set_cons_succ, List.length_cons, List.length_nil, pk_I, pk_A, pr_A, pi_I, st_s, st_n, if_true, if_false, eq_self, d_if, d_ju, d_re, d_ca, cat0, cat1, cat2, cat3, fr_z, fr_s, cc_I, cc_A, cc_N, z1_0, z1_1, Bool.and_self, Bool.true_and, Bool.and_true, nI_add, pk_mul, nI_clamp, decide_true, Nat.le_refl, bI_eq, bI_z1, mS_419, mS_416, mS_417, mS_46, mS_388, mS_o, mS_u419, mS_u416, mS_u417, mS_u46, mS_u388, mS_uo]
      rw [show onB f (v 388 49) p = true by simp [onB, hc2, Decidable.not_not.mp hc]] at hq
      exact hq
theorem m_onAll {d : Nat} {v : Nat → Nat → Int32} {f x g : Nat → Int32} {b : Int32} {w : Nat → Nat → Int64} {Q : Option Value → am_H → Prop} {lv n : Nat} (ht : TW v lv n) (hq : Q (some (.int (nI (cnt (onB f (v 388 49)) n)))) (428, 26053, KD, RF, mS v f x g b, w)) : am_Ca (d + 2) M_Model_onAll [.ref 388] (428, 26053, KD, RF, mS v f x g b, w) Q := by
  obtain ⟨h18, hlv, h398, hn⟩ := ht
  refine ca_in (k := k_Model_onAll) (nL := 3) rfl (Nat.le_of_ble_eq_true rfl) ?_
  show am_Go am_X0 _ k_Model_onAll 0 ([.ref 388, .null, .null], [], _) _
  refine go_at (blk := b_Model_onAll_0) rfl ?_
  simp (disch := omega) only [b_Model_onAll_0, be_1, be_7, be_0, List.getD_cons_zero, List.getD_cons_succ, List.set_cons_zero, List.set_cons_succ, List.length_cons, List.length_nil, pk_I, pk_A, pr_A, pi_I, st_s, st_n, if_true, if_false, eq_self, d_if, d_ju, d_re, d_ca, cat0, cat1, cat2, cat3, fr_z, fr_s, cc_I, cc_A, cc_N, z1_0, z1_1, Bool.and_self, Bool.true_and, Bool.and_true, nI_add, pk_mul, nI_clamp, decide_true, Nat.le_refl, bI_eq, bI_z1, mS_419, mS_416, mS_417, mS_46, mS_388, mS_o, mS_u419, mS_u416, mS_u417, mS_u46, mS_u388, mS_uo, h18, h398]
  refine go_loop (fun i => ([.ref 388, .int (nI (cnt (onB f (v 388 49)) i)), .int (nI i)], [], (428, 26053, KD, RF, mS v f x g b, w))) (n) ?_ ?_
  · intro i hi ih
    have hni : ¬ n ≤ i := by omega
    try dsimp only at ih ⊢
    refine go_at (blk := b_Model_onAll_4) rfl ?_
    simp (disch := omega) only [b_Model_onAll_4, be_4, be_6, be_34, be_33, be_38, be_49_3, kc_388, rf_388_23, ka_398, List.getD_cons_zero, List.getD_cons_succ, List.set_cons_zero, List.set_cons_succ, List.length_cons, List.length_nil, pk_I, pk_A, pr_A, pi_I, st_s, st_n, if_true, if_false, eq_self, d_if, d_ju, d_re, d_ca, cat0, cat1, cat2, cat3, fr_z, fr_s, cc_I, cc_A, cc_N, z1_0, z1_1, Bool.and_self, Bool.true_and, Bool.and_true, nI_add, pk_mul, nI_clamp, decide_true, Nat.le_refl, bI_eq, bI_z1, mS_419, mS_416, mS_417, mS_46, mS_388, mS_o, mS_u419, mS_u416, mS_u417, mS_u46, mS_u388, mS_uo, h18, h398, nI_leI, hni]
    refine go_at (blk := b_Model_onAll_17) rfl ?_
    simp (disch := omega) only [b_Model_onAll_17, be_6, be_4, be_57_1, kc_388, List.getD_cons_zero, List.getD_cons_succ, List.set_cons_zero, List.set_cons_succ, List.length_cons, List.length_nil, pk_I, pk_A, pr_A, pi_I, st_s, st_n, if_true, if_false, eq_self, d_if, d_ju, d_re, d_ca, cat0, cat1, cat2, cat3, fr_z, fr_s, cc_I, cc_A, cc_N, z1_0, z1_1, Bool.and_self, Bool.true_and, Bool.and_true, nI_add, pk_mul, nI_clamp, decide_true, Nat.le_refl, bI_eq, bI_z1, mS_419, mS_416, mS_417, mS_46, mS_388, mS_o, mS_u419, mS_u416, mS_u417, mS_u46, mS_u388, mS_uo, h18, h398, nI_leI, hni]
    refine m_isOn (by omega) ?_
    refine go_at (blk := b_Model_onAll_22) rfl ?_
    simp (disch := omega) only [b_Model_onAll_22, be_50_0, List.getD_cons_zero, List.getD_cons_succ, List.set_cons_zero, List.set_cons_succ, List.length_cons, List.length_nil, pk_I, pk_A, pr_A, pi_I, st_s, st_n, if_true, if_false, eq_self, d_if, d_ju, d_re, d_ca, cat0, cat1, cat2, cat3, fr_z, fr_s, cc_I, cc_A, cc_N, z1_0, z1_1, Bool.and_self, Bool.true_and, Bool.and_true, nI_add, pk_mul, nI_clamp, decide_true, Nat.le_refl, bI_eq, bI_z1, mS_419, mS_416, mS_417, mS_46, mS_388, mS_o, mS_u419, mS_u416, mS_u417, mS_u46, mS_u388, mS_uo, h18, h398, nI_leI, hni]
    split
    · rename_i hc
      refine go_at (blk := b_Model_onAll_28) rfl ?_
      simp (disch := omega) only [b_Model_onAll_28, be_10, be_51, List.getD_cons_zero, List.getD_cons_succ, List.set_cons_zero, List.set_cons_succ, List.length_cons, List.length_nil, pk_I, pk_A, pr_A, pi_I, st_s, st_n, if_true, if_false, eq_self, d_if, d_ju, d_re, d_ca, cat0, cat1, cat2, cat3, fr_z, fr_s, cc_I, cc_A, cc_N, z1_0, z1_1, Bool.and_self, Bool.true_and, Bool.and_true, nI_add, pk_mul, nI_clamp, decide_true, Nat.le_refl, bI_eq, bI_z1, mS_419, mS_416, mS_417, mS_46, mS_388, mS_o, mS_u419, mS_u416, mS_u417, mS_u46, mS_u388, mS_uo, h18, h398, nI_leI, hni]
      rw [show cnt (onB f (v 388 49)) (i + 1) = cnt (onB f (v 388 49)) i by simp [cnt, hc]] at ih
      exact ih
    · rename_i hc
      refine go_at (blk := b_Model_onAll_25) rfl ?_
      simp (disch := omega) only [b_Model_onAll_25, be_10, be_0, List.getD_cons_zero, List.getD_cons_succ, List.set_cons_zero, List.set_cons_succ, List.length_cons, List.length_nil, pk_I, pk_A, pr_A, pi_I, st_s, st_n, if_true, if_false, eq_self, d_if, d_ju, d_re, d_ca, cat0, cat1, cat2, cat3, fr_z, fr_s, cc_I, cc_A, cc_N, z1_0, z1_1, Bool.and_self, Bool.true_and, Bool.and_true, nI_add, pk_mul, nI_clamp, decide_true, Nat.le_refl, bI_eq, bI_z1, mS_419, mS_416, mS_417, mS_46, mS_388, mS_o, mS_u419, mS_u416, mS_u417, mS_u46, mS_u388, mS_uo, h18, h398, nI_leI, hni]
      refine go_at (blk := b_Model_onAll_28) rfl ?_
      simp (disch := omega) only [b_Model_onAll_28, be_10, be_51, List.getD_cons_zero, List.getD_cons_succ, List.set_cons_zero, List.set_cons_succ, List.length_cons, List.length_nil, pk_I, pk_A, pr_A, pi_I, st_s, st_n, if_true, if_false, eq_self, d_if, d_ju, d_re, d_ca, cat0, cat1, cat2, cat3, fr_z, fr_s, cc_I, cc_A, cc_N, z1_0, z1_1, Bool.and_self, Bool.true_and, Bool.and_true, nI_add, pk_mul, nI_clamp, decide_true, Nat.le_refl, bI_eq, bI_z1, mS_419, mS_416, mS_417, mS_46, mS_388, mS_o, mS_u419, mS_u416, mS_u417, mS_u46, mS_u388, mS_uo, h18, h398, nI_leI, hni]
      rw [show cnt (onB f (v 388 49)) (i + 1) = cnt (onB f (v 388 49)) i + 1 by simp [cnt, hc]] at ih
      exact ih
  · try dsimp only
    refine go_at (blk := b_Model_onAll_4) rfl ?_
    simp (disch := omega) only [b_Model_onAll_4, be_4, be_6, be_34, be_33, be_38, be_49_3, kc_388, rf_388_23, ka_398, List.getD_cons_zero, List.getD_cons_succ, List.set_cons_zero, List.set_cons_succ, List.length_cons, List.length_nil, pk_I, pk_A, pr_A, pi_I, st_s, st_n, if_true, if_false, eq_self, d_if, d_ju, d_re, d_ca, cat0, cat1, cat2, cat3, fr_z, fr_s, cc_I, cc_A, cc_N, z1_0, z1_1, Bool.and_self, Bool.true_and, Bool.and_true, nI_add, pk_mul, nI_clamp, decide_true, Nat.le_refl, bI_eq, bI_z1, mS_419, mS_416, mS_417, mS_46, mS_388, mS_o, mS_u419, mS_u416, mS_u417, mS_u46, mS_u388, mS_uo, h18, h398, nI_leI]
    refine go_at (blk := b_Model_onAll_34) rfl ?_
    simp (disch := omega) only [b_Model_onAll_34, be_4, be_54, List.getD_cons_zero, List.getD_cons_succ, List.set_cons_zero, List.set_cons_succ, List.length_cons, List.length_nil, pk_I, pk_A, pr_A, pi_I, st_s, st_n, if_true, if_false, eq_self, d_if, d_ju, d_re, d_ca, cat0, cat1, cat2, cat3, fr_z, fr_s, cc_I, cc_A, cc_N, z1_0, z1_1, Bool.and_self, Bool.true_and, Bool.and_true, nI_add, pk_mul, nI_clamp, decide_true, Nat.le_refl, bI_eq, bI_z1, mS_419, mS_416, mS_417, mS_46, mS_388, mS_o, mS_u419, mS_u416, mS_u417, mS_u46, mS_u388, mS_uo, h18, h398, nI_leI]
    exact hq
theorem m_mayKneel {d : Nat} {p : Nat} (hp : p < 8) {v : Nat → Nat → Int32} {f x g : Nat → Int32} {b : Int32} {w : Nat → Nat → Int64} {Q : Option Value → am_H → Prop} {lv n : Nat} (ht : TW v lv n) (hq : Q (some (.int (bI (mayB f (v 388 49) (fun p => v 402 (8 * lv + p)) p)))) (428, 26053, KD, RF, mS v f x g b, w)) : am_Ca (d + 2) M_Model_mayKneel [.ref 388, .int (nI p)] (428, 26053, KD, RF, mS v f x g b, w) Q := by
  obtain ⟨h18, hlv, h398, hn⟩ := ht
  refine ca_in (k := k_Model_mayKneel) (nL := 2) rfl (Nat.le_of_ble_eq_true rfl) ?_
  show am_Go am_X0 _ k_Model_mayKneel 0 ([.ref 388, .int (nI p)], [], _) _
  refine go_at (blk := b_Model_mayKneel_0) rfl ?_
  simp (disch := omega) only [b_Model_mayKneel_0, be_6, be_4, be_57_1, kc_388, List.getD_cons_zero, List.getD_cons_succ, List.set_cons_zero, List.set_cons_succ, List.length_cons, List.length_nil, pk_I, pk_A, pr_A, pi_I, st_s, st_n, if_true, if_false, eq_self, d_if, d_ju, d_re, d_ca, cat0, cat1, cat2, cat3, fr_z, fr_s, cc_I, cc_A, cc_N, z1_0, z1_1, Bool.and_self, Bool.true_and, Bool.and_true, nI_add, pk_mul, nI_clamp, decide_true, Nat.le_refl, bI_eq, bI_z1, mS_419, mS_416, mS_417, mS_46, mS_388, mS_o, mS_u419, mS_u416, mS_u417, mS_u46, mS_u388, mS_uo, h18, h398]
  refine m_isOn hp ?_
  refine go_at (blk := b_Model_mayKneel_5) rfl ?_
  simp (disch := omega) only [b_Model_mayKneel_5, be_50_0, List.getD_cons_zero, List.getD_cons_succ, List.set_cons_zero, List.set_cons_succ, List.length_cons, List.length_nil, pk_I, pk_A, pr_A, pi_I, st_s, st_n, if_true, if_false, eq_self, d_if, d_ju, d_re, d_ca, cat0, cat1, cat2, cat3, fr_z, fr_s, cc_I, cc_A, cc_N, z1_0, z1_1, Bool.and_self, Bool.true_and, Bool.and_true, nI_add, pk_mul, nI_clamp, decide_true, Nat.le_refl, bI_eq, bI_z1, mS_419, mS_416, mS_417, mS_46, mS_388, mS_o, mS_u419, mS_u416, mS_u417, mS_u46, mS_u388, mS_uo, h18, h398]
  split
  · rename_i hc
    refine go_at (blk := b_Model_mayKneel_38) rfl ?_
    simp (disch := omega) only [b_Model_mayKneel_38, be_1, be_0, List.getD_cons_zero, List.getD_cons_succ, List.set_cons_zero, List.set_cons_succ, List.length_cons, List.length_nil, pk_I, pk_A, pr_A, pi_I, st_s, st_n, if_true, if_false, eq_self, d_if, d_ju, d_re, d_ca, cat0, cat1, cat2, cat3, fr_z, fr_s, cc_I, cc_A, cc_N, z1_0, z1_1, Bool.and_self, Bool.true_and, Bool.and_true, nI_add, pk_mul, nI_clamp, decide_true, Nat.le_refl, bI_eq, bI_z1, mS_419, mS_416, mS_417, mS_46, mS_388, mS_o, mS_u419, mS_u416, mS_u417, mS_u46, mS_u388, mS_uo, h18, h398]
    refine go_at (blk := b_Model_mayKneel_39) rfl ?_
    simp (disch := omega) only [b_Model_mayKneel_39, be_73, List.getD_cons_zero, List.getD_cons_succ, List.set_cons_zero, List.set_cons_succ, List.length_cons, List.length_nil, pk_I, pk_A, pr_A, pi_I, st_s, st_n, if_true, if_false, eq_self, d_if, d_ju, d_re, d_ca, cat0, cat1, cat2, cat3, fr_z, fr_s, cc_I, cc_A, cc_N, z1_0, z1_1, Bool.and_self, Bool.true_and, Bool.and_true, nI_add, pk_mul, nI_clamp, decide_true, Nat.le_refl, bI_eq, bI_z1, mS_419, mS_416, mS_417, mS_46, mS_388, mS_o, mS_u419, mS_u416, mS_u417, mS_u46, mS_u388, mS_uo, h18, h398]
    rw [show mayB f (v 388 49) (fun p => v 402 (8 * lv + p)) p = false by simp [mayB, hc]] at hq
    exact hq
  · rename_i hc
    refine go_at (blk := b_Model_mayKneel_8) rfl ?_
    simp (disch := omega) only [b_Model_mayKneel_8, be_6, be_34, be_1, be_4, be_12, be_38, be_33, be_14, be_49_3, kc_388, rf_388_48, ka_419, rf_388_27, ka_402, List.getD_cons_zero, List.getD_cons_succ, List.set_cons_zero, List.set_cons_succ, List.length_cons, List.length_nil, pk_I, pk_A, pr_A, pi_I, st_s, st_n, if_true, if_false, eq_self, d_if, d_ju, d_re, d_ca, cat0, cat1, cat2, cat3, fr_z, fr_s, cc_I, cc_A, cc_N, z1_0, z1_1, Bool.and_self, Bool.true_and, Bool.and_true, nI_add, pk_mul, nI_clamp, decide_true, Nat.le_refl, bI_eq, bI_z1, mS_419, mS_416, mS_417, mS_46, mS_388, mS_o, mS_u419, mS_u416, mS_u417, mS_u46, mS_u388, mS_uo, h18, h398]
    split
    · rename_i hc2
      refine go_at (blk := b_Model_mayKneel_38) rfl ?_
      simp (disch := omega) only [b_Model_mayKneel_38, be_1, be_0, List.getD_cons_zero, List.getD_cons_succ, List.set_cons_zero, List.set_cons_succ, List.length_cons, List.length_nil, pk_I, pk_A, pr_A, pi_I, st_s, st_n, if_true, if_false, eq_self, d_if, d_ju, d_re, d_ca, cat0, cat1, cat2, cat3, fr_z, fr_s, cc_I, cc_A, cc_N, z1_0, z1_1, Bool.and_self, Bool.true_and, Bool.and_true, nI_add, pk_mul, nI_clamp, decide_true, Nat.le_refl, bI_eq, bI_z1, mS_419, mS_416, mS_417, mS_46, mS_388, mS_o, mS_u419, mS_u416, mS_u417, mS_u46, mS_u388, mS_uo, h18, h398]
      refine go_at (blk := b_Model_mayKneel_39) rfl ?_
      simp (disch := omega) only [b_Model_mayKneel_39, be_73, List.getD_cons_zero, List.getD_cons_succ, List.set_cons_zero, List.set_cons_succ, List.length_cons, List.length_nil, pk_I, pk_A, pr_A, pi_I, st_s, st_n, if_true, if_false, eq_self, d_if, d_ju, d_re, d_ca, cat0, cat1, cat2, cat3, fr_z, fr_s, cc_I, cc_A, cc_N, z1_0, z1_1, Bool.and_self, Bool.true_and, Bool.and_true, nI_add, pk_mul, nI_clamp, decide_true, Nat.le_refl, bI_eq, bI_z1, mS_419, mS_416, mS_417, mS_46, mS_388, mS_o, mS_u419, mS_u416, mS_u417, mS_u46, mS_u388, mS_uo, h18, h398]
      rw [show mayB f (v 388 49) (fun p => v 402 (8 * lv + p)) p = false by simp [mayB, Int32.not_lt.mpr hc2]] at hq
      exact hq
    · rename_i hc2
      refine go_at (blk := b_Model_mayKneel_34) rfl ?_
      simp (disch := omega) only [b_Model_mayKneel_34, be_1, be_51, List.getD_cons_zero, List.getD_cons_succ, List.set_cons_zero, List.set_cons_succ, List.length_cons, List.length_nil, pk_I, pk_A, pr_A, pi_I, st_s, st_n, if_true, if_false, eq_self, d_if, d_ju, d_re, d_ca, cat0, cat1, cat2, cat3, fr_z, fr_s, cc_I, cc_A, cc_N, z1_0, z1_1, Bool.and_self, Bool.true_and, Bool.and_true, nI_add, pk_mul, nI_clamp, decide_true, Nat.le_refl, bI_eq, bI_z1, mS_419, mS_416, mS_417, mS_46, mS_388, mS_o, mS_u419, mS_u416, mS_u417, mS_u46, mS_u388, mS_uo, h18, h398]
      refine go_at (blk := b_Model_mayKneel_39) rfl ?_
      simp (disch := omega) only [b_Model_mayKneel_39, be_73, List.getD_cons_zero, List.getD_cons_succ, List.set_cons_zero, List.set_cons_succ, List.length_cons, List.length_nil, pk_I, pk_A, pr_A, pi_I, st_s, st_n, if_true, if_false, eq_self, d_if, d_ju, d_re, d_ca, cat0, cat1, cat2, cat3, fr_z, fr_s, cc_I, cc_A, cc_N, z1_0, z1_1, Bool.and_self, Bool.true_and, Bool.and_true, nI_add, pk_mul, nI_clamp, decide_true, Nat.le_refl, bI_eq, bI_z1, mS_419, mS_416, mS_417, mS_46, mS_388, mS_o, mS_u419, mS_u416, mS_u417, mS_u46, mS_u388, mS_uo, h18, h398]
      rw [show mayB f (v 388 49) (fun p => v 402 (8 * lv + p)) p = true by simp [mayB, hc, Int32.not_le.mp hc2]] at hq
      exact hq
