/-! laid by wip/whole/m2.py: the reference: what is seen, a minute -/
theorem upd_01 {x : Nat → Int32} {a b c : Int32} : upd (upd (upd x 0 a) 1 b) 0 c = upd (upd x 0 c) 1 b := by
  funext j
  unfold upd
  by_cases h0 : j = 0
  · subst h0; simp
  · simp [h0]
theorem upd_11 {x : Nat → Int32} {k : Nat} {b c : Int32} : upd (upd x k b) k c = upd x k c := by
  funext j
  unfold upd
  split <;> rfl
theorem m_tells {d : Nat} {v : Nat → Nat → Int32} {f x g : Nat → Int32} {b : Int32} {w : Nat → Nat → Int64} {Q : Option Value → am_H → Prop} {lv n : Nat} (ht : TW v lv n) {k : Nat} (hk : k < 2) (hl : lwW v lv k) {plain lo hi : Int32} (hq : ∀ g' b', Q (some (.int (tlS v lv k x plain lo hi))) (428, 26053, KD, RF, mS v f x g' b', w)) : am_Ca (d + 2) M_Model_tells [.ref 388, .int (nI k), .int plain, .int lo, .int hi] (428, 26053, KD, RF, mS v f x g b, w) Q := by
  sorry
set_option maxHeartbeats 1000000 in
theorem m_setsOf {d : Nat} {v : Nat → Nat → Int32} {f x g : Nat → Int32} {b : Int32} {w : Nat → Nat → Int64} {Q : Option Value → am_H → Prop} {lv n : Nat} (ht : TW v lv n) {a1 a2 a3 : Int32} (hq : ∀ x' : Nat → Int32, (∀ k, k < 8 → x' k = vars n f (v 388 49) (v 388 50) (fun p => v 400 (8 * lv + p)) (fun p => v 401 (8 * lv + p)) a1 a2 a3 k) → Q none (428, 26053, KD, RF, mS v f (x') g b, w)) : am_Ca (d + 3) M_Model_setsOf [.ref 388, .int a1, .int a2, .int a3] (428, 26053, KD, RF, mS v f x g b, w) Q := by
  obtain ⟨h18, hlv, h398, hn⟩ := ht
  refine ca_in (k := k_Model_setsOf) (nL := 5) rfl (Nat.le_of_ble_eq_true rfl) ?_
  show am_Go am_X0 _ k_Model_setsOf 0 ([.ref 388, .int a1, .int a2, .int a3, .null], [], _) _
  refine go_at (blk := b_Model_setsOf_0) rfl ?_
  simp (disch := omega) only [b_Model_setsOf_0, be_6, be_34, be_1, be_43, be_33, be_7, be_0, kc_388, rf_388_44, ka_416, List.getD_cons_zero, List.getD_cons_succ, List.set_cons_zero, List.set_cons_succ, List.length_cons, List.length_nil, pk_I, pk_A, pr_A, pi_I, st_s, st_n, if_true, if_false, eq_self, d_if, d_ju, d_re, d_ca, cat0, cat1, cat2, cat3, fr_z, fr_s, cc_I, cc_A, cc_N, z1_0, z1_1, Bool.and_self, Bool.true_and, Bool.and_true, nI_add, pk_mul, nI_clamp, decide_true, Nat.le_refl, bI_eq, bI_z1, mS_419, mS_416, mS_417, mS_46, mS_388, mS_o, mS_u419, mS_u416, mS_u417, mS_u46, mS_u388, mS_uo, h18, h398]
  refine go_loop (fun i => ([.ref 388, .int a1, .int a2, .int a3, .int (nI i)], [], (428, 26053, KD, RF, mS v f (upd (upd x 0 (smI 0 (knG f (v 388 49) (fun p => v 400 (8 * lv + p))) i)) 1 (smI (v 388 50) (dbG f (v 388 49) (fun p => v 401 (8 * lv + p))) i)) g b, w))) (n) ?_ ?_
  · intro i hi ih
    have hni : ¬ n ≤ i := by omega
    try dsimp only at ih ⊢
    refine go_at (blk := b_Model_setsOf_20) rfl ?_
    simp (disch := omega) only [b_Model_setsOf_20, be_4, be_6, be_34, be_33, be_38, be_49_3, kc_388, rf_388_23, ka_398, List.getD_cons_zero, List.getD_cons_succ, List.set_cons_zero, List.set_cons_succ, List.length_cons, List.length_nil, pk_I, pk_A, pr_A, pi_I, st_s, st_n, if_true, if_false, eq_self, d_if, d_ju, d_re, d_ca, cat0, cat1, cat2, cat3, fr_z, fr_s, cc_I, cc_A, cc_N, z1_0, z1_1, Bool.and_self, Bool.true_and, Bool.and_true, nI_add, pk_mul, nI_clamp, decide_true, Nat.le_refl, bI_eq, bI_z1, mS_419, mS_416, mS_417, mS_46, mS_388, mS_o, mS_u419, mS_u416, mS_u417, mS_u46, mS_u388, mS_uo, h18, h398, nI_leI, upd_at, upd_ne, upd_01, upd_11, hni]
    refine go_at (blk := b_Model_setsOf_34) rfl ?_
    simp (disch := omega) only [b_Model_setsOf_34, be_6, be_4, be_57_1, kc_388, List.getD_cons_zero, List.getD_cons_succ, List.set_cons_zero, List.set_cons_succ, List.length_cons, List.length_nil, pk_I, pk_A, pr_A, pi_I, st_s, st_n, if_true, if_false, eq_self, d_if, d_ju, d_re, d_ca, cat0, cat1, cat2, cat3, fr_z, fr_s, cc_I, cc_A, cc_N, z1_0, z1_1, Bool.and_self, Bool.true_and, Bool.and_true, nI_add, pk_mul, nI_clamp, decide_true, Nat.le_refl, bI_eq, bI_z1, mS_419, mS_416, mS_417, mS_46, mS_388, mS_o, mS_u419, mS_u416, mS_u417, mS_u46, mS_u388, mS_uo, h18, h398, nI_leI, upd_at, upd_ne, upd_01, upd_11, hni]
    refine m_isOn (by omega) ?_
    refine go_at (blk := b_Model_setsOf_40) rfl ?_
    simp (disch := omega) only [b_Model_setsOf_40, be_50_1, List.getD_cons_zero, List.getD_cons_succ, List.set_cons_zero, List.set_cons_succ, List.length_cons, List.length_nil, pk_I, pk_A, pr_A, pi_I, st_s, st_n, if_true, if_false, eq_self, d_if, d_ju, d_re, d_ca, cat0, cat1, cat2, cat3, fr_z, fr_s, cc_I, cc_A, cc_N, z1_0, z1_1, Bool.and_self, Bool.true_and, Bool.and_true, nI_add, pk_mul, nI_clamp, decide_true, Nat.le_refl, bI_eq, bI_z1, mS_419, mS_416, mS_417, mS_46, mS_388, mS_o, mS_u419, mS_u416, mS_u417, mS_u46, mS_u388, mS_uo, h18, h398, nI_leI, upd_at, upd_ne, upd_01, upd_11, hni]
    split
    · rename_i hc
      refine go_at (blk := b_Model_setsOf_46) rfl ?_
      simp (disch := omega) only [b_Model_setsOf_46, be_6, be_34, be_1, be_4, be_12, be_38, be_49_1, kc_388, rf_388_48, ka_419, List.getD_cons_zero, List.getD_cons_succ, List.set_cons_zero, List.set_cons_succ, List.length_cons, List.length_nil, pk_I, pk_A, pr_A, pi_I, st_s, st_n, if_true, if_false, eq_self, d_if, d_ju, d_re, d_ca, cat0, cat1, cat2, cat3, fr_z, fr_s, cc_I, cc_A, cc_N, z1_0, z1_1, Bool.and_self, Bool.true_and, Bool.and_true, nI_add, pk_mul, nI_clamp, decide_true, Nat.le_refl, bI_eq, bI_z1, mS_419, mS_416, mS_417, mS_46, mS_388, mS_o, mS_u419, mS_u416, mS_u417, mS_u46, mS_u388, mS_uo, h18, h398, nI_leI, upd_at, upd_ne, upd_01, upd_11, hni]
      split
      · rename_i hc2
        have hc2 : ¬ f (8 + i) = 1 := hc2
        refine go_at (blk := b_Model_setsOf_87) rfl ?_
        simp (disch := omega) only [b_Model_setsOf_87, be_6, be_34, be_1, be_32, be_38, be_33, be_14, be_4, be_12, be_43, be_0, kc_388, rf_388_44, ka_416, rf_388_26, ka_401, List.getD_cons_zero, List.getD_cons_succ, List.set_cons_zero, List.set_cons_succ, List.length_cons, List.length_nil, pk_I, pk_A, pr_A, pi_I, st_s, st_n, if_true, if_false, eq_self, d_if, d_ju, d_re, d_ca, cat0, cat1, cat2, cat3, fr_z, fr_s, cc_I, cc_A, cc_N, z1_0, z1_1, Bool.and_self, Bool.true_and, Bool.and_true, nI_add, pk_mul, nI_clamp, decide_true, Nat.le_refl, bI_eq, bI_z1, mS_419, mS_416, mS_417, mS_46, mS_388, mS_o, mS_u419, mS_u416, mS_u417, mS_u46, mS_u388, mS_uo, h18, h398, nI_leI, upd_at, upd_ne, upd_01, upd_11, hni]
        refine go_at (blk := b_Model_setsOf_111) rfl ?_
        simp (disch := omega) only [b_Model_setsOf_111, be_10, be_51, List.getD_cons_zero, List.getD_cons_succ, List.set_cons_zero, List.set_cons_succ, List.length_cons, List.length_nil, pk_I, pk_A, pr_A, pi_I, st_s, st_n, if_true, if_false, eq_self, d_if, d_ju, d_re, d_ca, cat0, cat1, cat2, cat3, fr_z, fr_s, cc_I, cc_A, cc_N, z1_0, z1_1, Bool.and_self, Bool.true_and, Bool.and_true, nI_add, pk_mul, nI_clamp, decide_true, Nat.le_refl, bI_eq, bI_z1, mS_419, mS_416, mS_417, mS_46, mS_388, mS_o, mS_u419, mS_u416, mS_u417, mS_u46, mS_u388, mS_uo, h18, h398, nI_leI, upd_at, upd_ne, upd_01, upd_11, hni]
        rw [show (smI 0 (knG f (v 388 49) (fun p => v 400 (8 * lv + p))) (i + 1)) = (smI 0 (knG f (v 388 49) (fun p => v 400 (8 * lv + p))) i) + knG f (v 388 49) (fun p => v 400 (8 * lv + p)) i from rfl, show (smI (v 388 50) (dbG f (v 388 49) (fun p => v 401 (8 * lv + p))) (i + 1)) = (smI (v 388 50) (dbG f (v 388 49) (fun p => v 401 (8 * lv + p))) i) + dbG f (v 388 49) (fun p => v 401 (8 * lv + p)) i from rfl, show knG f (v 388 49) (fun p => v 400 (8 * lv + p)) i = 0 by simp [knG, hc, hc2], show dbG f (v 388 49) (fun p => v 401 (8 * lv + p)) i = v 401 (8 * lv + i) by simp [dbG, hc, hc2], Int32.add_zero] at ih
        exact ih
      · rename_i hc2
        have hc2 : ¬ ¬ f (8 + i) = 1 := hc2
        refine go_at (blk := b_Model_setsOf_60) rfl ?_
        simp (disch := omega) only [b_Model_setsOf_60, be_6, be_34, be_1, be_32, be_38, be_33, be_14, be_4, be_12, be_43, be_51, kc_388, rf_388_44, ka_416, rf_388_25, ka_400, List.getD_cons_zero, List.getD_cons_succ, List.set_cons_zero, List.set_cons_succ, List.length_cons, List.length_nil, pk_I, pk_A, pr_A, pi_I, st_s, st_n, if_true, if_false, eq_self, d_if, d_ju, d_re, d_ca, cat0, cat1, cat2, cat3, fr_z, fr_s, cc_I, cc_A, cc_N, z1_0, z1_1, Bool.and_self, Bool.true_and, Bool.and_true, nI_add, pk_mul, nI_clamp, decide_true, Nat.le_refl, bI_eq, bI_z1, mS_419, mS_416, mS_417, mS_46, mS_388, mS_o, mS_u419, mS_u416, mS_u417, mS_u46, mS_u388, mS_uo, h18, h398, nI_leI, upd_at, upd_ne, upd_01, upd_11, hni]
        refine go_at (blk := b_Model_setsOf_111) rfl ?_
        simp (disch := omega) only [b_Model_setsOf_111, be_10, be_51, List.getD_cons_zero, List.getD_cons_succ, List.set_cons_zero, List.set_cons_succ, List.length_cons, List.length_nil, pk_I, pk_A, pr_A, pi_I, st_s, st_n, if_true, if_false, eq_self, d_if, d_ju, d_re, d_ca, cat0, cat1, cat2, cat3, fr_z, fr_s, cc_I, cc_A, cc_N, z1_0, z1_1, Bool.and_self, Bool.true_and, Bool.and_true, nI_add, pk_mul, nI_clamp, decide_true, Nat.le_refl, bI_eq, bI_z1, mS_419, mS_416, mS_417, mS_46, mS_388, mS_o, mS_u419, mS_u416, mS_u417, mS_u46, mS_u388, mS_uo, h18, h398, nI_leI, upd_at, upd_ne, upd_01, upd_11, hni]
        rw [show (smI 0 (knG f (v 388 49) (fun p => v 400 (8 * lv + p))) (i + 1)) = (smI 0 (knG f (v 388 49) (fun p => v 400 (8 * lv + p))) i) + knG f (v 388 49) (fun p => v 400 (8 * lv + p)) i from rfl, show (smI (v 388 50) (dbG f (v 388 49) (fun p => v 401 (8 * lv + p))) (i + 1)) = (smI (v 388 50) (dbG f (v 388 49) (fun p => v 401 (8 * lv + p))) i) + dbG f (v 388 49) (fun p => v 401 (8 * lv + p)) i from rfl, show knG f (v 388 49) (fun p => v 400 (8 * lv + p)) i = v 400 (8 * lv + i) by simp [knG, hc, Decidable.not_not.mp hc2], show dbG f (v 388 49) (fun p => v 401 (8 * lv + p)) i = 0 by simp [dbG, hc, Decidable.not_not.mp hc2], Int32.add_zero] at ih
        exact ih
    · rename_i hc
      have hc : onB f (v 388 49) i = false := by simpa using hc
      refine go_at (blk := b_Model_setsOf_43) rfl ?_
      simp (disch := omega) only [b_Model_setsOf_43, be_51, List.getD_cons_zero, List.getD_cons_succ, List.set_cons_zero, List.set_cons_succ, List.length_cons, List.length_nil, pk_I, pk_A, pr_A, pi_I, st_s, st_n, if_true, if_false, eq_self, d_if, d_ju, d_re, d_ca, cat0, cat1, cat2, cat3, fr_z, fr_s, cc_I, cc_A, cc_N, z1_0, z1_1, Bool.and_self, Bool.true_and, Bool.and_true, nI_add, pk_mul, nI_clamp, decide_true, Nat.le_refl, bI_eq, bI_z1, mS_419, mS_416, mS_417, mS_46, mS_388, mS_o, mS_u419, mS_u416, mS_u417, mS_u46, mS_u388, mS_uo, h18, h398, nI_leI, upd_at, upd_ne, upd_01, upd_11, hni]
      refine go_at (blk := b_Model_setsOf_111) rfl ?_
      simp (disch := omega) only [b_Model_setsOf_111, be_10, be_51, List.getD_cons_zero, List.getD_cons_succ, List.set_cons_zero, List.set_cons_succ, List.length_cons, List.length_nil, pk_I, pk_A, pr_A, pi_I, st_s, st_n, if_true, if_false, eq_self, d_if, d_ju, d_re, d_ca, cat0, cat1, cat2, cat3, fr_z, fr_s, cc_I, cc_A, cc_N, z1_0, z1_1, Bool.and_self, Bool.true_and, Bool.and_true, nI_add, pk_mul, nI_clamp, decide_true, Nat.le_refl, bI_eq, bI_z1, mS_419, mS_416, mS_417, mS_46, mS_388, mS_o, mS_u419, mS_u416, mS_u417, mS_u46, mS_u388, mS_uo, h18, h398, nI_leI, upd_at, upd_ne, upd_01, upd_11, hni]
      rw [show (smI 0 (knG f (v 388 49) (fun p => v 400 (8 * lv + p))) (i + 1)) = (smI 0 (knG f (v 388 49) (fun p => v 400 (8 * lv + p))) i) + knG f (v 388 49) (fun p => v 400 (8 * lv + p)) i from rfl, show (smI (v 388 50) (dbG f (v 388 49) (fun p => v 401 (8 * lv + p))) (i + 1)) = (smI (v 388 50) (dbG f (v 388 49) (fun p => v 401 (8 * lv + p))) i) + dbG f (v 388 49) (fun p => v 401 (8 * lv + p)) i from rfl, show knG f (v 388 49) (fun p => v 400 (8 * lv + p)) i = 0 by simp [knG, hc], show dbG f (v 388 49) (fun p => v 401 (8 * lv + p)) i = 0 by simp [dbG, hc], Int32.add_zero, Int32.add_zero] at ih
      exact ih
  · try dsimp only
    refine go_at (blk := b_Model_setsOf_20) rfl ?_
    simp (disch := omega) only [b_Model_setsOf_20, be_4, be_6, be_34, be_33, be_38, be_49_3, kc_388, rf_388_23, ka_398, List.getD_cons_zero, List.getD_cons_succ, List.set_cons_zero, List.set_cons_succ, List.length_cons, List.length_nil, pk_I, pk_A, pr_A, pi_I, st_s, st_n, if_true, if_false, eq_self, d_if, d_ju, d_re, d_ca, cat0, cat1, cat2, cat3, fr_z, fr_s, cc_I, cc_A, cc_N, z1_0, z1_1, Bool.and_self, Bool.true_and, Bool.and_true, nI_add, pk_mul, nI_clamp, decide_true, Nat.le_refl, bI_eq, bI_z1, mS_419, mS_416, mS_417, mS_46, mS_388, mS_o, mS_u419, mS_u416, mS_u417, mS_u46, mS_u388, mS_uo, h18, h398, nI_leI, upd_at, upd_ne, upd_01, upd_11]
    refine go_at (blk := b_Model_setsOf_117) rfl ?_
    simp (disch := omega) only [b_Model_setsOf_117, be_6, be_34, be_1, be_38, be_43, be_57_0, kc_388, rf_388_44, rf_388_48, ka_419, ka_416, List.getD_cons_zero, List.getD_cons_succ, List.set_cons_zero, List.set_cons_succ, List.length_cons, List.length_nil, pk_I, pk_A, pr_A, pi_I, st_s, st_n, if_true, if_false, eq_self, d_if, d_ju, d_re, d_ca, cat0, cat1, cat2, cat3, fr_z, fr_s, cc_I, cc_A, cc_N, z1_0, z1_1, Bool.and_self, Bool.true_and, Bool.and_true, nI_add, pk_mul, nI_clamp, decide_true, Nat.le_refl, bI_eq, bI_z1, mS_419, mS_416, mS_417, mS_46, mS_388, mS_o, mS_u419, mS_u416, mS_u417, mS_u46, mS_u388, mS_uo, h18, h398, nI_leI, upd_at, upd_ne, upd_01, upd_11]
    refine m_onAll ⟨h18, hlv, h398, hn⟩ ?_
    refine go_at (blk := b_Model_setsOf_152) rfl ?_
    simp (disch := omega) only [b_Model_setsOf_152, be_43, be_6, be_34, be_1, be_4, be_56, ka_416, kc_388, rf_388_44, List.getD_cons_zero, List.getD_cons_succ, List.set_cons_zero, List.set_cons_succ, List.length_cons, List.length_nil, pk_I, pk_A, pr_A, pi_I, st_s, st_n, if_true, if_false, eq_self, d_if, d_ju, d_re, d_ca, cat0, cat1, cat2, cat3, fr_z, fr_s, cc_I, cc_A, cc_N, z1_0, z1_1, Bool.and_self, Bool.true_and, Bool.and_true, nI_add, pk_mul, nI_clamp, decide_true, Nat.le_refl, bI_eq, bI_z1, mS_419, mS_416, mS_417, mS_46, mS_388, mS_o, mS_u419, mS_u416, mS_u417, mS_u46, mS_u388, mS_uo, h18, h398, nI_leI, upd_at, upd_ne, upd_01, upd_11]
    refine hq _ (fun k hk => ?_)
    match k, hk with
    | 0, _ => simp [upd, vars]
    | 1, _ => simp [upd, vars]
    | 2, _ => simp [upd, vars]
    | 3, _ => simp [upd, vars]
    | 4, _ => simp [upd, vars]
    | 5, _ => simp [upd, vars]
    | 6, _ => simp [upd, vars]
    | 7, _ => simp [upd, vars]
