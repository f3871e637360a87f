/-! laid by wip/whole/k11.py: the class: sets at rest -/
theorem sb_x {s m p : Nat} (hs : s < 256) (hm : m < 256) (hp : p < 8) (h : sbB s m = true) (hb : m.testBit p = true) (hx : s ^^^ 2 ^ p < 256) : sbB (s ^^^ 2 ^ p) m = true := by
  rw [sb_iff _ hx _ hm]
  rw [sb_iff _ hs _ hm] at h
  apply Nat.eq_of_testBit_eq
  intro j
  have hj := congrArg (fun z => z.testBit j) h
  rw [Nat.testBit_and] at hj
  rw [Nat.testBit_and, Nat.testBit_xor, Nat.testBit_two_pow]
  by_cases e : p = j
  · subst e
    rw [hb]
    simp
  · simp [e]
    simpa using hj
theorem bt_x : ∀ s, s < 256 → ∀ p, p < 8 → nI s ^^^ (nI 1 <<< (nI p &&& 31)) = nI (s ^^^ 2 ^ p) ∧ s ^^^ 2 ^ p < 256 := by decide +kernel
theorem may_lt {T : TXT} {f : Nat → Int32} (h : tN T ≤ 8) : mayM T f < 256 := by
  have h1 : mayM T f < 2 ^ tN T := wb_lt (tN T)
  have h2 : 2 ^ tN T ≤ 2 ^ 8 := Nat.pow_le_pow_right (by decide) h
  omega
/-- what one has in the end, if a set kneels -/
def gnS (T : TXT) (f : Nat → Int32) (n s p : Nat) : Int32 := hsT T (-1) 0 (itT T (-1) 0 n (knS s f)) p
def rvB (T : TXT) (f : Nat → Int32) (n s p : Nat) : Bool := (mayM T f).testBit p && decide (gnS T f n s p < gnS T f n (s ^^^ 2 ^ p) p)
def rsB (T : TXT) (f : Nat → Int32) (n s : Nat) : Bool := sbB s (mayM T f) && (pF (rvB T f n s) (tN T) 0).isNone
def rtS (T : TXT) (f : Nat → Int32) (n : Nat) (ii : Int32) : Nat → Nat → Nat → Int32
  | 0, _, c => if ii = -1 then nI c else -1
  | m + 1, s, c => if rsB T f n s = true then (if nI c = ii then nI s else rtS T f n ii m (s + 1) (c + 1)) else rtS T f n ii m (s + 1) c
theorem rt_0 {T : TXT} {f : Nat → Int32} {n N s c : Nat} {ii : Int32} (h : s < N) (hr : rsB T f n s = false) : rtS T f n ii (N - s) s c = rtS T f n ii (N - (s + 1)) (s + 1) c := by
  rw [show N - s = (N - (s + 1)) + 1 by omega]
  exact if_neg (by rw [hr]; decide)
theorem rt_1 {T : TXT} {f : Nat → Int32} {n N s c : Nat} {ii : Int32} (h : s < N) (hr : rsB T f n s = true) (hc : ¬ nI c = ii) : rtS T f n ii (N - s) s c = rtS T f n ii (N - (s + 1)) (s + 1) (c + 1) := by
  rw [show N - s = (N - (s + 1)) + 1 by omega]
  exact (if_pos hr).trans (if_neg hc)
theorem rt_2 {T : TXT} {f : Nat → Int32} {n N s c : Nat} {ii : Int32} (h : s < N) (hr : rsB T f n s = true) (hc : nI c = ii) : rtS T f n ii (N - s) s c = nI s := by
  rw [show N - s = (N - (s + 1)) + 1 by omega]
  exact (if_pos hr).trans (if_pos hc)
/-- as QF; and the row of gains -/
def QW (v v' : Nat → Nat → Int32) : Prop := ∀ c, c ≠ 35 → c ≠ 36 → c ≠ 40 → c ≠ 41 → (c < 351 ∨ 357 < c) → (c < 362 ∨ 367 < c) → v' c = v c
theorem QW_q {v v' : Nat → Nat → Int32} (h : QF v v') : QW v v' := fun c a1 a2 a3 a4 a5 a6 => h c a1 a2 a3 a4 (by omega) a6
theorem QW_t {v v' v'' : Nat → Nat → Int32} (h : QW v v') (h' : QW v' v'') : QW v v'' := fun c a1 a2 a3 a4 a5 a6 => (h' c a1 a2 a3 a4 a5 a6).trans (h c a1 a2 a3 a4 a5 a6)
theorem KI_w {B : Int} {v v' : Nat → Nat → Int32} {T : TXT} {f : Nat → Int32} (h : KI B v T f) (e : QW v v') : KI B v' T f := by
  obtain ⟨h1, h2, h3⟩ := h
  exact ⟨KX_w h1 (fun c _ _ c3 c4 => e c c3 c4 (by omega) (by omega) (by omega) (by omega)), RX_w h2 (fun c c1 c2 => e c (by omega) (by omega) (by omega) (by omega) (by omega) (by omega)), h3⟩
set_option maxHeartbeats 1000000 in
theorem k_isRest {d : Nat} {v : Nat → Nat → Int32} {w : Nat → Nat → Int64} {Q : Option Value → am_H → Prop} {T : TXT} {f : Nat → Int32} {B : Int} (hK : KI B v T f) {n s : Nat} (hs : s < 256) (hsb : sbB s (mayM T f) = true) (hG : ∀ s, s < 256 → sbB s (mayM T f) = true → ∀ p, p < tN T → v 351 (s * 8 + p) = gnS T f n s p) (hQ : Q (some (.int (bI (pF (rvB T f n s) (tN T) 0).isNone))) (428, 26053, KD, RF, v, w)) : am_Ca (d + 1) M_Forecast_isRest [.ref 350, .int (nI s), .int (nI (mayM T f))] (428, 26053, KD, RF, v, w) Q := by
  have h8 := hK.1.1
  have hBB := hK.2.2.2.2.2
  have hm := may_lt (f := f) h8
  have k1 := hK.1.2.1
  refine ca_in (k := k_Forecast_isRest) (nL := 6) rfl (Nat.le_of_ble_eq_true rfl) ?_
  show am_Go am_X0 _ k_Forecast_isRest 0 ([.ref 350, .int (nI s), .int (nI (mayM T f)), .null, .null, .null], [], _) _
  refine go_at (blk := b_Forecast_isRest_0) rfl ?_
  simp (disch := omega) only [b_Forecast_isRest_0, be_1, be_7, be_0, List.getD_cons_zero, List.getD_cons_succ, List.set_cons_zero, List.set_cons_succ, List.length_cons, List.length_nil, pk_I, pk_A, pr_A, pi_I, st_s, st_n, if_true, if_false, eq_self, d_if, d_ju, d_re, d_ca, cat0, cat1, cat2, cat3, fr_z, fr_s, cc_I, cc_A, cc_N, Nat.reduceAdd, Nat.reduceLT, Nat.reduceLeDiff, Nat.reduceEqDiff, not_true, not_false_iff, z1_0, z1_1, Bool.and_self, Bool.true_and, Bool.and_true, nI_add, pk_mul, nI_clamp, decide_true, Nat.le_refl, bI_eq, bI_z1]
  refine go_loopA (α := Value × Value) (fun i x => ([.ref 350, .int (nI s), .int (nI (mayM T f)), .int (nI i), x.1, x.2], [], (428, 26053, KD, RF, v, w))) (fun i x => pF (rvB T f n s) (tN T) 0 = pF (rvB T f n s) (tN T - i) i ∧ am_cc x.1 = true ∧ am_cc x.2 = true) (tN T) ?_ ?_ (.null, .null) ⟨rfl, rfl, rfl⟩
  · intro i x hi ⟨i1, i2, i3⟩ ih
    try dsimp only at *
    have hni : ¬ tN T ≤ i := by omega
    obtain ⟨hx, hx2⟩ := bt_x s hs i (by omega)
    have hbt := bt_1 _ hm i (by omega)
    refine go_at (blk := b_Forecast_isRest_2) rfl ?_
    simp (disch := omega) only [b_Forecast_isRest_2, be_4, be_6, be_34, be_33, be_49_3, kc_350, rf_350_0, kc_25, List.getD_cons_zero, List.getD_cons_succ, List.set_cons_zero, List.set_cons_succ, List.length_cons, List.length_nil, pk_I, pk_A, pr_A, pi_I, st_s, st_n, if_true, if_false, eq_self, d_if, d_ju, d_re, d_ca, cat0, cat1, cat2, cat3, fr_z, fr_s, cc_I, cc_A, cc_N, Nat.reduceAdd, Nat.reduceLT, Nat.reduceLeDiff, Nat.reduceEqDiff, not_true, not_false_iff, z1_0, z1_1, Bool.and_self, Bool.true_and, Bool.and_true, nI_add, pk_mul, nI_clamp, decide_true, Nat.le_refl, bI_eq, bI_z1, nI_ltI, nI_leI, k1, hbt, hx, nI_z, z_10, hni, i2, i3]
    refine go_at (blk := b_Forecast_isRest_13) rfl ?_
    simp (disch := omega) only [b_Forecast_isRest_13, be_4, be_1, be_21, be_20, be_7, be_22, be_18, be_49_1, List.getD_cons_zero, List.getD_cons_succ, List.set_cons_zero, List.set_cons_succ, List.length_cons, List.length_nil, pk_I, pk_A, pr_A, pi_I, st_s, st_n, if_true, if_false, eq_self, d_if, d_ju, d_re, d_ca, cat0, cat1, cat2, cat3, fr_z, fr_s, cc_I, cc_A, cc_N, Nat.reduceAdd, Nat.reduceLT, Nat.reduceLeDiff, Nat.reduceEqDiff, not_true, not_false_iff, z1_0, z1_1, Bool.and_self, Bool.true_and, Bool.and_true, nI_add, pk_mul, nI_clamp, decide_true, Nat.le_refl, bI_eq, bI_z1, nI_ltI, nI_leI, k1, hbt, hx, nI_z, z_10, hni, i2, i3]
    split
    · rename_i hb
      refine go_at (blk := b_Forecast_isRest_33) rfl ?_
      simp (disch := omega) only [b_Forecast_isRest_33, be_1, be_0, List.getD_cons_zero, List.getD_cons_succ, List.set_cons_zero, List.set_cons_succ, List.length_cons, List.length_nil, pk_I, pk_A, pr_A, pi_I, st_s, st_n, if_true, if_false, eq_self, d_if, d_ju, d_re, d_ca, cat0, cat1, cat2, cat3, fr_z, fr_s, cc_I, cc_A, cc_N, Nat.reduceAdd, Nat.reduceLT, Nat.reduceLeDiff, Nat.reduceEqDiff, not_true, not_false_iff, z1_0, z1_1, Bool.and_self, Bool.true_and, Bool.and_true, nI_add, pk_mul, nI_clamp, decide_true, Nat.le_refl, bI_eq, bI_z1, nI_ltI, nI_leI, k1, hbt, hx, nI_z, z_10, hni, i2, i3]
      refine go_at (blk := b_Forecast_isRest_34) rfl ?_
      simp (disch := omega) only [b_Forecast_isRest_34, be_7, be_4, be_50_0, List.getD_cons_zero, List.getD_cons_succ, List.set_cons_zero, List.set_cons_succ, List.length_cons, List.length_nil, pk_I, pk_A, pr_A, pi_I, st_s, st_n, if_true, if_false, eq_self, d_if, d_ju, d_re, d_ca, cat0, cat1, cat2, cat3, fr_z, fr_s, cc_I, cc_A, cc_N, Nat.reduceAdd, Nat.reduceLT, Nat.reduceLeDiff, Nat.reduceEqDiff, not_true, not_false_iff, z1_0, z1_1, Bool.and_self, Bool.true_and, Bool.and_true, nI_add, pk_mul, nI_clamp, decide_true, Nat.le_refl, bI_eq, bI_z1, nI_ltI, nI_leI, k1, hbt, hx, nI_z, z_10, hni, i2, i3]
      refine go_at (blk := b_Forecast_isRest_69) rfl ?_
      simp (disch := omega) only [b_Forecast_isRest_69, be_10, be_51, List.getD_cons_zero, List.getD_cons_succ, List.set_cons_zero, List.set_cons_succ, List.length_cons, List.length_nil, pk_I, pk_A, pr_A, pi_I, st_s, st_n, if_true, if_false, eq_self, d_if, d_ju, d_re, d_ca, cat0, cat1, cat2, cat3, fr_z, fr_s, cc_I, cc_A, cc_N, Nat.reduceAdd, Nat.reduceLT, Nat.reduceLeDiff, Nat.reduceEqDiff, not_true, not_false_iff, z1_0, z1_1, Bool.and_self, Bool.true_and, Bool.and_true, nI_add, pk_mul, nI_clamp, decide_true, Nat.le_refl, bI_eq, bI_z1, nI_ltI, nI_leI, k1, hbt, hx, nI_z, z_10, hni, i2, i3]
      exact ih (.int _, .int _) ⟨by rw [i1, pF_f hi (show rvB T f n s i = false by unfold rvB; rw [show (mayM T f).testBit i = false by simpa using hb]; rfl)], rfl, rfl⟩
    · rename_i hb
      have hb := Decidable.not_not.mp hb
      have g1 := hG s hs hsb i hi
      have g2 := hG (s ^^^ 2 ^ i) hx2 (sb_x hs hm (by omega) hsb hb hx2) i hi
      refine go_at (blk := b_Forecast_isRest_29) rfl ?_
      simp (disch := omega) only [b_Forecast_isRest_29, be_1, be_51, List.getD_cons_zero, List.getD_cons_succ, List.set_cons_zero, List.set_cons_succ, List.length_cons, List.length_nil, pk_I, pk_A, pr_A, pi_I, st_s, st_n, if_true, if_false, eq_self, d_if, d_ju, d_re, d_ca, cat0, cat1, cat2, cat3, fr_z, fr_s, cc_I, cc_A, cc_N, Nat.reduceAdd, Nat.reduceLT, Nat.reduceLeDiff, Nat.reduceEqDiff, not_true, not_false_iff, z1_0, z1_1, Bool.and_self, Bool.true_and, Bool.and_true, nI_add, pk_mul, nI_clamp, decide_true, Nat.le_refl, bI_eq, bI_z1, nI_ltI, nI_leI, k1, hbt, hx, nI_z, z_10, hni, i2, i3]
      refine go_at (blk := b_Forecast_isRest_34) rfl ?_
      simp (disch := omega) only [b_Forecast_isRest_34, be_7, be_4, be_50_0, List.getD_cons_zero, List.getD_cons_succ, List.set_cons_zero, List.set_cons_succ, List.length_cons, List.length_nil, pk_I, pk_A, pr_A, pi_I, st_s, st_n, if_true, if_false, eq_self, d_if, d_ju, d_re, d_ca, cat0, cat1, cat2, cat3, fr_z, fr_s, cc_I, cc_A, cc_N, Nat.reduceAdd, Nat.reduceLT, Nat.reduceLeDiff, Nat.reduceEqDiff, not_true, not_false_iff, z1_0, z1_1, Bool.and_self, Bool.true_and, Bool.and_true, nI_add, pk_mul, nI_clamp, decide_true, Nat.le_refl, bI_eq, bI_z1, nI_ltI, nI_leI, k1, hbt, hx, nI_z, z_10, hni, i2, i3]
      refine go_at (blk := b_Forecast_isRest_41) rfl ?_
      simp (disch := omega) only [b_Forecast_isRest_41, be_6, be_34, be_4, be_1, be_14, be_12, be_38, be_49_5, kc_350, rf_350_3, ka_351, List.getD_cons_zero, List.getD_cons_succ, List.set_cons_zero, List.set_cons_succ, List.length_cons, List.length_nil, pk_I, pk_A, pr_A, pi_I, st_s, st_n, if_true, if_false, eq_self, d_if, d_ju, d_re, d_ca, cat0, cat1, cat2, cat3, fr_z, fr_s, cc_I, cc_A, cc_N, Nat.reduceAdd, Nat.reduceLT, Nat.reduceLeDiff, Nat.reduceEqDiff, not_true, not_false_iff, z1_0, z1_1, Bool.and_self, Bool.true_and, Bool.and_true, nI_add, pk_mul, nI_clamp, decide_true, Nat.le_refl, bI_eq, bI_z1, nI_ltI, nI_leI, k1, hbt, hx, nI_z, z_10, hni, i2, i3, g1, g2]
      split
      · rename_i hc
        refine go_at (blk := b_Forecast_isRest_69) rfl ?_
        simp (disch := omega) only [b_Forecast_isRest_69, be_10, be_51, List.getD_cons_zero, List.getD_cons_succ, List.set_cons_zero, List.set_cons_succ, List.length_cons, List.length_nil, pk_I, pk_A, pr_A, pi_I, st_s, st_n, if_true, if_false, eq_self, d_if, d_ju, d_re, d_ca, cat0, cat1, cat2, cat3, fr_z, fr_s, cc_I, cc_A, cc_N, Nat.reduceAdd, Nat.reduceLT, Nat.reduceLeDiff, Nat.reduceEqDiff, not_true, not_false_iff, z1_0, z1_1, Bool.and_self, Bool.true_and, Bool.and_true, nI_add, pk_mul, nI_clamp, decide_true, Nat.le_refl, bI_eq, bI_z1, nI_ltI, nI_leI, k1, hbt, hx, nI_z, z_10, hni, i2, i3]
        exact ih (.int _, .int _) ⟨by rw [i1, pF_f hi (show rvB T f n s i = false by unfold rvB; rw [decide_eq_false (Int32.not_lt.mpr hc)]; simp)], rfl, rfl⟩
      · rename_i hc
        refine go_at (blk := b_Forecast_isRest_67) rfl ?_
        simp (disch := omega) only [b_Forecast_isRest_67, be_1, be_73, List.getD_cons_zero, List.getD_cons_succ, List.set_cons_zero, List.set_cons_succ, List.length_cons, List.length_nil, pk_I, pk_A, pr_A, pi_I, st_s, st_n, if_true, if_false, eq_self, d_if, d_ju, d_re, d_ca, cat0, cat1, cat2, cat3, fr_z, fr_s, cc_I, cc_A, cc_N, Nat.reduceAdd, Nat.reduceLT, Nat.reduceLeDiff, Nat.reduceEqDiff, not_true, not_false_iff, z1_0, z1_1, Bool.and_self, Bool.true_and, Bool.and_true, nI_add, pk_mul, nI_clamp, decide_true, Nat.le_refl, bI_eq, bI_z1, nI_ltI, nI_leI, k1, hbt, hx, nI_z, z_10, hni, i2, i3]
        have hv : pF (rvB T f n s) (tN T) 0 = some i := by rw [i1, pF_t hi (show rvB T f n s i = true by unfold rvB; rw [hb, decide_eq_true (Int32.not_le.mp hc)]; rfl)]
        rw [hv] at hQ
        exact hQ
  · intro x ⟨i1, i2, i3⟩
    try dsimp only at *
    refine go_at (blk := b_Forecast_isRest_2) rfl ?_
    simp (disch := omega) only [b_Forecast_isRest_2, be_4, be_6, be_34, be_33, be_49_3, kc_350, rf_350_0, kc_25, List.getD_cons_zero, List.getD_cons_succ, List.set_cons_zero, List.set_cons_succ, List.length_cons, List.length_nil, pk_I, pk_A, pr_A, pi_I, st_s, st_n, if_true, if_false, eq_self, d_if, d_ju, d_re, d_ca, cat0, cat1, cat2, cat3, fr_z, fr_s, cc_I, cc_A, cc_N, Nat.reduceAdd, Nat.reduceLT, Nat.reduceLeDiff, Nat.reduceEqDiff, not_true, not_false_iff, z1_0, z1_1, Bool.and_self, Bool.true_and, Bool.and_true, nI_add, pk_mul, nI_clamp, decide_true, Nat.le_refl, bI_eq, bI_z1, nI_ltI, nI_leI, k1]
    refine go_at (blk := b_Forecast_isRest_75) rfl ?_
    simp (disch := omega) only [b_Forecast_isRest_75, be_1, be_73, List.getD_cons_zero, List.getD_cons_succ, List.set_cons_zero, List.set_cons_succ, List.length_cons, List.length_nil, pk_I, pk_A, pr_A, pi_I, st_s, st_n, if_true, if_false, eq_self, d_if, d_ju, d_re, d_ca, cat0, cat1, cat2, cat3, fr_z, fr_s, cc_I, cc_A, cc_N, Nat.reduceAdd, Nat.reduceLT, Nat.reduceLeDiff, Nat.reduceEqDiff, not_true, not_false_iff, z1_0, z1_1, Bool.and_self, Bool.true_and, Bool.and_true, nI_add, pk_mul, nI_clamp, decide_true, Nat.le_refl, bI_eq, bI_z1, nI_ltI, nI_leI, k1]
    rw [i1, pF_e] at hQ
    exact hQ
set_option maxHeartbeats 1000000 in
theorem k_resting {d : Nat} {v : Nat → Nat → Int32} {w : Nat → Nat → Int64} {Q : Option Value → am_H → Prop} {T : TXT} {f : Nat → Int32} {B : Int} (hK : KI B v T f) {n : Nat} {ii : Int32} (hn : n ≤ 300) (hQ : ∀ v', QW v v' → Q (some (.int (rtS T f n ii 256 0 0))) (428, 26053, KD, RF, v', w)) : am_Ca (d + 6) M_Forecast_restingSets [.ref 350, .int (nI n), .int ii] (428, 26053, KD, RF, v, w) Q := by
  have h8 := hK.1.1
  have hBB := hK.2.2.2.2.2
  refine ca_in (k := k_Forecast_restingSets) (nL := 6) rfl (Nat.le_of_ble_eq_true rfl) ?_
  show am_Go am_X0 _ k_Forecast_restingSets 0 ([.ref 350, .int (nI n), .int ii, .null, .null, .null], [], _) _
  refine go_at (blk := b_Forecast_restingSets_0) rfl ?_
  simp (disch := omega) only [b_Forecast_restingSets_0, be_6, be_34, be_57_0, kc_350, rf_350_1, kc_42, List.getD_cons_zero, List.getD_cons_succ, List.set_cons_zero, List.set_cons_succ, List.length_cons, List.length_nil, pk_I, pk_A, pr_A, pi_I, st_s, st_n, if_true, if_false, eq_self, d_if, d_ju, d_re, d_ca, cat0, cat1, cat2, cat3, fr_z, fr_s, cc_I, cc_A, cc_N, Nat.reduceAdd, Nat.reduceLT, Nat.reduceLeDiff, Nat.reduceEqDiff, not_true, not_false_iff, z1_0, z1_1, Bool.and_self, Bool.true_and, Bool.and_true, nI_add, pk_mul, nI_clamp, decide_true, Nat.le_refl, bI_eq, bI_z1]
  refine k_who st_42 hK.1 hK.2.1 hK.2.2.1 ?_
  refine go_at (blk := b_Forecast_restingSets_7) rfl ?_
  simp (disch := omega) only [b_Forecast_restingSets_7, be_7, be_1, be_0, List.getD_cons_zero, List.getD_cons_succ, List.set_cons_zero, List.set_cons_succ, List.length_cons, List.length_nil, pk_I, pk_A, pr_A, pi_I, st_s, st_n, if_true, if_false, eq_self, d_if, d_ju, d_re, d_ca, cat0, cat1, cat2, cat3, fr_z, fr_s, cc_I, cc_A, cc_N, Nat.reduceAdd, Nat.reduceLT, Nat.reduceLeDiff, Nat.reduceEqDiff, not_true, not_false_iff, z1_0, z1_1, Bool.and_self, Bool.true_and, Bool.and_true, nI_add, pk_mul, nI_clamp, decide_true, Nat.le_refl, bI_eq, bI_z1]
  refine go_loopA (α := (Nat → Nat → Int32) × Value) (fun i x => ([.ref 350, .int (nI n), .int ii, .int (nI (mayM T f)), .int (nI i), x.2], [], (428, 26053, KD, RF, x.1, w))) (fun i x => QW v x.1 ∧ (∀ s, s < i → sbB s (mayM T f) = true → ∀ p, p < tN T → x.1 351 (s * 8 + p) = gnS T f n s p) ∧ am_cc x.2 = true) (256) ?_ ?_ (v, .null) ⟨fun _ _ _ _ _ _ _ => rfl, fun s h => absurd h (by omega), rfl⟩
  · intro i x hi ⟨x1, x2, x3⟩ ih
    try dsimp only at *
    have hni : ¬ 256 ≤ i := by omega
    have hKx : KI B x.1 T f := KI_w hK x1
    refine go_at (blk := b_Forecast_restingSets_11) rfl ?_
    simp (disch := omega) only [b_Forecast_restingSets_11, be_4, be_1, be_49_3, List.getD_cons_zero, List.getD_cons_succ, List.set_cons_zero, List.set_cons_succ, List.length_cons, List.length_nil, pk_I, pk_A, pr_A, pi_I, st_s, st_n, if_true, if_false, eq_self, d_if, d_ju, d_re, d_ca, cat0, cat1, cat2, cat3, fr_z, fr_s, cc_I, cc_A, cc_N, Nat.reduceAdd, Nat.reduceLT, Nat.reduceLeDiff, Nat.reduceEqDiff, not_true, not_false_iff, z1_0, z1_1, Bool.and_self, Bool.true_and, Bool.and_true, nI_add, pk_mul, nI_clamp, decide_true, Nat.le_refl, bI_eq, bI_z1, nI_ltI, nI_leI, hni, x3]
    refine go_at (blk := b_Forecast_restingSets_19) rfl ?_
    simp (disch := omega) only [b_Forecast_restingSets_19, be_4, be_2, be_20, be_18, be_50_1, List.getD_cons_zero, List.getD_cons_succ, List.set_cons_zero, List.set_cons_succ, List.length_cons, List.length_nil, pk_I, pk_A, pr_A, pi_I, st_s, st_n, if_true, if_false, eq_self, d_if, d_ju, d_re, d_ca, cat0, cat1, cat2, cat3, fr_z, fr_s, cc_I, cc_A, cc_N, Nat.reduceAdd, Nat.reduceLT, Nat.reduceLeDiff, Nat.reduceEqDiff, not_true, not_false_iff, z1_0, z1_1, Bool.and_self, Bool.true_and, Bool.and_true, nI_add, pk_mul, nI_clamp, decide_true, Nat.le_refl, bI_eq, bI_z1, nI_ltI, nI_leI, hni, x3]
    split
    · rename_i hs
      refine go_at (blk := b_Forecast_restingSets_78) rfl ?_
      simp (disch := omega) only [b_Forecast_restingSets_78, be_10, be_51, List.getD_cons_zero, List.getD_cons_succ, List.set_cons_zero, List.set_cons_succ, List.length_cons, List.length_nil, pk_I, pk_A, pr_A, pi_I, st_s, st_n, if_true, if_false, eq_self, d_if, d_ju, d_re, d_ca, cat0, cat1, cat2, cat3, fr_z, fr_s, cc_I, cc_A, cc_N, Nat.reduceAdd, Nat.reduceLT, Nat.reduceLeDiff, Nat.reduceEqDiff, not_true, not_false_iff, z1_0, z1_1, Bool.and_self, Bool.true_and, Bool.and_true, nI_add, pk_mul, nI_clamp, decide_true, Nat.le_refl, bI_eq, bI_z1, nI_ltI, nI_leI, hni, x3]
      refine ih (x.1, x.2) ⟨x1, ?_, x3⟩
      intro s h1 h2 p hp
      rcases Nat.lt_or_eq_of_le (Nat.le_of_lt_succ h1) with h | h
      · exact x2 s h h2 p hp
      · subst h; exact absurd (of_decide_eq_true h2) hs
    · rename_i hs
      have hs := Decidable.not_not.mp hs
      refine go_at (blk := b_Forecast_restingSets_28) rfl ?_
      simp (disch := omega) only [b_Forecast_restingSets_28, be_6, be_4, be_57_2, kc_350, List.getD_cons_zero, List.getD_cons_succ, List.set_cons_zero, List.set_cons_succ, List.length_cons, List.length_nil, pk_I, pk_A, pr_A, pi_I, st_s, st_n, if_true, if_false, eq_self, d_if, d_ju, d_re, d_ca, cat0, cat1, cat2, cat3, fr_z, fr_s, cc_I, cc_A, cc_N, Nat.reduceAdd, Nat.reduceLT, Nat.reduceLeDiff, Nat.reduceEqDiff, not_true, not_false_iff, z1_0, z1_1, Bool.and_self, Bool.true_and, Bool.and_true, nI_add, pk_mul, nI_clamp, decide_true, Nat.le_refl, bI_eq, bI_z1, nI_ltI, nI_leI, hni, x3]
      refine k_try (s := i) hKx (by omega) hn ?_
      intro v2 q2 r2 g2
      have hK2 := KI_q hKx q2
      refine go_at (blk := b_Forecast_restingSets_35) rfl ?_
      simp (disch := omega) only [b_Forecast_restingSets_35, be_1, be_7, be_0, List.getD_cons_zero, List.getD_cons_succ, List.set_cons_zero, List.set_cons_succ, List.length_cons, List.length_nil, pk_I, pk_A, pr_A, pi_I, st_s, st_n, if_true, if_false, eq_self, d_if, d_ju, d_re, d_ca, cat0, cat1, cat2, cat3, fr_z, fr_s, cc_I, cc_A, cc_N, Nat.reduceAdd, Nat.reduceLT, Nat.reduceLeDiff, Nat.reduceEqDiff, not_true, not_false_iff, z1_0, z1_1, Bool.and_self, Bool.true_and, Bool.and_true, nI_add, pk_mul, nI_clamp, decide_true, Nat.le_refl, bI_eq, bI_z1, nI_ltI, nI_leI, hni, x3]
      refine go_loopA (α := (Nat → Nat → Int32)) (fun j y => ([.ref 350, .int (nI n), .int ii, .int (nI (mayM T f)), .int (nI i), .int (nI j)], [], (428, 26053, KD, RF, y, w))) (fun j y => (∀ c, c ≠ 351 → c ≠ 40 → c ≠ 41 → y c = v2 c) ∧ (∀ q, q < j → y 351 (i * 8 + q) = gnS T f n i q) ∧ ∀ t, t < i * 8 → y 351 t = v2 351 t) (tN T) ?_ ?_ v2 ⟨fun _ _ _ _ => rfl, fun q h => absurd h (by omega), fun _ _ => rfl⟩
      · intro j y hj ⟨y1, y2, y3⟩ jh
        try dsimp only at *
        have hnj : ¬ tN T ≤ j := by omega
        have hKy : KI B y T f := KI_w hK2 (fun c _ _ c3 c4 c5 _ => y1 c (by omega) c3 c4)
        have k1 := hKy.1.2.1
        have ry : RX y 352 (tN T) (-1) 0 (itT T (-1) 0 n (knS i f)) := RX_w r2 (fun c c1 c2 => y1 c (by omega) (by omega) (by omega))
        refine go_at (blk := b_Forecast_restingSets_38) rfl ?_
        simp (disch := omega) only [b_Forecast_restingSets_38, be_4, be_6, be_34, be_33, be_49_3, kc_350, rf_350_0, kc_25, List.getD_cons_zero, List.getD_cons_succ, List.set_cons_zero, List.set_cons_succ, List.length_cons, List.length_nil, pk_I, pk_A, pr_A, pi_I, st_s, st_n, if_true, if_false, eq_self, d_if, d_ju, d_re, d_ca, cat0, cat1, cat2, cat3, fr_z, fr_s, cc_I, cc_A, cc_N, Nat.reduceAdd, Nat.reduceLT, Nat.reduceLeDiff, Nat.reduceEqDiff, not_true, not_false_iff, z1_0, z1_1, Bool.and_self, Bool.true_and, Bool.and_true, nI_add, pk_mul, nI_clamp, decide_true, Nat.le_refl, bI_eq, bI_z1, nI_ltI, nI_leI, k1, hnj]
        refine go_at (blk := b_Forecast_restingSets_50) rfl ?_
        simp (disch := omega) only [b_Forecast_restingSets_50, be_6, be_34, be_4, be_1, be_14, be_12, be_57_1, kc_350, rf_350_3, rf_350_2, kc_352, List.getD_cons_zero, List.getD_cons_succ, List.set_cons_zero, List.set_cons_succ, List.length_cons, List.length_nil, pk_I, pk_A, pr_A, pi_I, st_s, st_n, if_true, if_false, eq_self, d_if, d_ju, d_re, d_ca, cat0, cat1, cat2, cat3, fr_z, fr_s, cc_I, cc_A, cc_N, Nat.reduceAdd, Nat.reduceLT, Nat.reduceLeDiff, Nat.reduceEqDiff, not_true, not_false_iff, z1_0, z1_1, Bool.and_self, Bool.true_and, Bool.and_true, nI_add, pk_mul, nI_clamp, decide_true, Nat.le_refl, bI_eq, bI_z1, nI_ltI, nI_leI, k1, hnj]
        refine k_hasNow st_352 hKy.1 ry g2 hj (nI_m (by omega)) ?_
        intro v3 h3
        refine go_at (blk := b_Forecast_restingSets_71) rfl ?_
        simp (disch := omega) only [b_Forecast_restingSets_71, be_43, be_10, be_51, ka_351, List.getD_cons_zero, List.getD_cons_succ, List.set_cons_zero, List.set_cons_succ, List.length_cons, List.length_nil, pk_I, pk_A, pr_A, pi_I, st_s, st_n, if_true, if_false, eq_self, d_if, d_ju, d_re, d_ca, cat0, cat1, cat2, cat3, fr_z, fr_s, cc_I, cc_A, cc_N, Nat.reduceAdd, Nat.reduceLT, Nat.reduceLeDiff, Nat.reduceEqDiff, not_true, not_false_iff, z1_0, z1_1, Bool.and_self, Bool.true_and, Bool.and_true, nI_add, pk_mul, nI_clamp, decide_true, Nat.le_refl, bI_eq, bI_z1, nI_ltI, nI_leI, k1, hnj]
        refine jh (am_u v3 351 (i * 8 + j) _) ⟨?_, ?_, ?_⟩
        · intro c c1 c2 c3
          rw [am_u_ne c1, h3 c c2 c3, y1 c c1 c2 c3]
        · intro q hq
          rw [am_u_at]
          by_cases e : q = j
          · subst e; rw [upd_at]; rfl
          · rw [upd_ne (by omega), h3 351 (by omega) (by omega)]
            exact y2 q (by omega)
        · intro t ht
          rw [am_u_at, upd_ne (by omega), h3 351 (by omega) (by omega)]
          exact y3 t ht
      · intro y ⟨y1, y2, y3⟩
        try dsimp only at *
        have hKy : KI B y T f := KI_w hK2 (fun c _ _ c3 c4 c5 _ => y1 c (by omega) c3 c4)
        have k1 := hKy.1.2.1
        refine go_at (blk := b_Forecast_restingSets_38) rfl ?_
        simp (disch := omega) only [b_Forecast_restingSets_38, be_4, be_6, be_34, be_33, be_49_3, kc_350, rf_350_0, kc_25, List.getD_cons_zero, List.getD_cons_succ, List.set_cons_zero, List.set_cons_succ, List.length_cons, List.length_nil, pk_I, pk_A, pr_A, pi_I, st_s, st_n, if_true, if_false, eq_self, d_if, d_ju, d_re, d_ca, cat0, cat1, cat2, cat3, fr_z, fr_s, cc_I, cc_A, cc_N, Nat.reduceAdd, Nat.reduceLT, Nat.reduceLeDiff, Nat.reduceEqDiff, not_true, not_false_iff, z1_0, z1_1, Bool.and_self, Bool.true_and, Bool.and_true, nI_add, pk_mul, nI_clamp, decide_true, Nat.le_refl, bI_eq, bI_z1, nI_ltI, nI_leI, k1]
        refine go_at (blk := b_Forecast_restingSets_78) rfl ?_
        simp (disch := omega) only [b_Forecast_restingSets_78, be_10, be_51, List.getD_cons_zero, List.getD_cons_succ, List.set_cons_zero, List.set_cons_succ, List.length_cons, List.length_nil, pk_I, pk_A, pr_A, pi_I, st_s, st_n, if_true, if_false, eq_self, d_if, d_ju, d_re, d_ca, cat0, cat1, cat2, cat3, fr_z, fr_s, cc_I, cc_A, cc_N, Nat.reduceAdd, Nat.reduceLT, Nat.reduceLeDiff, Nat.reduceEqDiff, not_true, not_false_iff, z1_0, z1_1, Bool.and_self, Bool.true_and, Bool.and_true, nI_add, pk_mul, nI_clamp, decide_true, Nat.le_refl, bI_eq, bI_z1, nI_ltI, nI_leI, k1]
        refine ih (y, .int _) ⟨QW_t x1 (QW_t (QW_q q2) (fun c _ _ c3 c4 c5 _ => y1 c (by omega) c3 c4)), ?_, rfl⟩
        intro s hs hsb p hp
        rcases Nat.lt_or_eq_of_le (Nat.le_of_lt_succ hs) with h | h
        · show y 351 (s * 8 + p) = _
          rw [y3 (s * 8 + p) (by omega), q2 351 (by omega) (by omega) (by omega) (by omega) (by omega) (by omega)]
          exact x2 s h hsb p hp
        · subst h
          exact y2 p hp
  · intro x ⟨x1, x2, x3⟩
    try dsimp only at *
    have hKx : KI B x.1 T f := KI_w hK x1
    refine go_at (blk := b_Forecast_restingSets_11) rfl ?_
    simp (disch := omega) only [b_Forecast_restingSets_11, be_4, be_1, be_49_3, List.getD_cons_zero, List.getD_cons_succ, List.set_cons_zero, List.set_cons_succ, List.length_cons, List.length_nil, pk_I, pk_A, pr_A, pi_I, st_s, st_n, if_true, if_false, eq_self, d_if, d_ju, d_re, d_ca, cat0, cat1, cat2, cat3, fr_z, fr_s, cc_I, cc_A, cc_N, Nat.reduceAdd, Nat.reduceLT, Nat.reduceLeDiff, Nat.reduceEqDiff, not_true, not_false_iff, z1_0, z1_1, Bool.and_self, Bool.true_and, Bool.and_true, nI_add, pk_mul, nI_clamp, decide_true, Nat.le_refl, bI_eq, bI_z1, nI_ltI, nI_leI, x3]
    refine go_at (blk := b_Forecast_restingSets_84) rfl ?_
    simp (disch := omega) only [b_Forecast_restingSets_84, be_1, be_7, be_0, List.getD_cons_zero, List.getD_cons_succ, List.set_cons_zero, List.set_cons_succ, List.length_cons, List.length_nil, pk_I, pk_A, pr_A, pi_I, st_s, st_n, if_true, if_false, eq_self, d_if, d_ju, d_re, d_ca, cat0, cat1, cat2, cat3, fr_z, fr_s, cc_I, cc_A, cc_N, Nat.reduceAdd, Nat.reduceLT, Nat.reduceLeDiff, Nat.reduceEqDiff, not_true, not_false_iff, z1_0, z1_1, Bool.and_self, Bool.true_and, Bool.and_true, nI_add, pk_mul, nI_clamp, decide_true, Nat.le_refl, bI_eq, bI_z1, nI_ltI, nI_leI, x3]
    refine go_loopA (α := Nat) (fun i c => ([.ref 350, .int (nI n), .int ii, .int (nI (mayM T f)), .int (nI c), .int (nI i)], [], (428, 26053, KD, RF, x.1, w))) (fun i c => c ≤ i ∧ rtS T f n ii 256 0 0 = rtS T f n ii (256 - i) i c) (256) ?_ ?_ 0 ⟨Nat.le_refl _, rfl⟩
    · intro i c hi ⟨z1, z2⟩ ih
      try dsimp only at *
      have hni : ¬ 256 ≤ i := by omega
      refine go_at (blk := b_Forecast_restingSets_90) rfl ?_
      simp (disch := omega) only [b_Forecast_restingSets_90, be_4, be_1, be_49_3, List.getD_cons_zero, List.getD_cons_succ, List.set_cons_zero, List.set_cons_succ, List.length_cons, List.length_nil, pk_I, pk_A, pr_A, pi_I, st_s, st_n, if_true, if_false, eq_self, d_if, d_ju, d_re, d_ca, cat0, cat1, cat2, cat3, fr_z, fr_s, cc_I, cc_A, cc_N, Nat.reduceAdd, Nat.reduceLT, Nat.reduceLeDiff, Nat.reduceEqDiff, not_true, not_false_iff, z1_0, z1_1, Bool.and_self, Bool.true_and, Bool.and_true, nI_add, pk_mul, nI_clamp, decide_true, Nat.le_refl, bI_eq, bI_z1, nI_ltI, nI_leI, hni, z_10, nI_z]
      refine go_at (blk := b_Forecast_restingSets_98) rfl ?_
      simp (disch := omega) only [b_Forecast_restingSets_98, be_4, be_2, be_20, be_18, be_50_1, List.getD_cons_zero, List.getD_cons_succ, List.set_cons_zero, List.set_cons_succ, List.length_cons, List.length_nil, pk_I, pk_A, pr_A, pi_I, st_s, st_n, if_true, if_false, eq_self, d_if, d_ju, d_re, d_ca, cat0, cat1, cat2, cat3, fr_z, fr_s, cc_I, cc_A, cc_N, Nat.reduceAdd, Nat.reduceLT, Nat.reduceLeDiff, Nat.reduceEqDiff, not_true, not_false_iff, z1_0, z1_1, Bool.and_self, Bool.true_and, Bool.and_true, nI_add, pk_mul, nI_clamp, decide_true, Nat.le_refl, bI_eq, bI_z1, nI_ltI, nI_leI, hni, z_10, nI_z]
      split
      · rename_i hs
        refine go_at (blk := b_Forecast_restingSets_129) rfl ?_
        simp (disch := omega) only [b_Forecast_restingSets_129, be_10, be_51, List.getD_cons_zero, List.getD_cons_succ, List.set_cons_zero, List.set_cons_succ, List.length_cons, List.length_nil, pk_I, pk_A, pr_A, pi_I, st_s, st_n, if_true, if_false, eq_self, d_if, d_ju, d_re, d_ca, cat0, cat1, cat2, cat3, fr_z, fr_s, cc_I, cc_A, cc_N, Nat.reduceAdd, Nat.reduceLT, Nat.reduceLeDiff, Nat.reduceEqDiff, not_true, not_false_iff, z1_0, z1_1, Bool.and_self, Bool.true_and, Bool.and_true, nI_add, pk_mul, nI_clamp, decide_true, Nat.le_refl, bI_eq, bI_z1, nI_ltI, nI_leI, hni, z_10, nI_z]
        exact ih c ⟨by omega, by rw [z2, rt_0 (by omega) (show rsB T f n i = false by unfold rsB; rw [show sbB i (mayM T f) = false from decide_eq_false hs]; rfl)]⟩
      · rename_i hs
        have hs := Decidable.not_not.mp hs
        have hsb : sbB i (mayM T f) = true := decide_eq_true hs
        refine go_at (blk := b_Forecast_restingSets_107) rfl ?_
        simp (disch := omega) only [b_Forecast_restingSets_107, be_6, be_4, be_57_2, kc_350, List.getD_cons_zero, List.getD_cons_succ, List.set_cons_zero, List.set_cons_succ, List.length_cons, List.length_nil, pk_I, pk_A, pr_A, pi_I, st_s, st_n, if_true, if_false, eq_self, d_if, d_ju, d_re, d_ca, cat0, cat1, cat2, cat3, fr_z, fr_s, cc_I, cc_A, cc_N, Nat.reduceAdd, Nat.reduceLT, Nat.reduceLeDiff, Nat.reduceEqDiff, not_true, not_false_iff, z1_0, z1_1, Bool.and_self, Bool.true_and, Bool.and_true, nI_add, pk_mul, nI_clamp, decide_true, Nat.le_refl, bI_eq, bI_z1, nI_ltI, nI_leI, hni, z_10, nI_z]
        refine k_isRest (n := n) hKx (by omega) hsb x2 ?_
        refine go_at (blk := b_Forecast_restingSets_114) rfl ?_
        simp (disch := omega) only [b_Forecast_restingSets_114, be_50_0, List.getD_cons_zero, List.getD_cons_succ, List.set_cons_zero, List.set_cons_succ, List.length_cons, List.length_nil, pk_I, pk_A, pr_A, pi_I, st_s, st_n, if_true, if_false, eq_self, d_if, d_ju, d_re, d_ca, cat0, cat1, cat2, cat3, fr_z, fr_s, cc_I, cc_A, cc_N, Nat.reduceAdd, Nat.reduceLT, Nat.reduceLeDiff, Nat.reduceEqDiff, not_true, not_false_iff, z1_0, z1_1, Bool.and_self, Bool.true_and, Bool.and_true, nI_add, pk_mul, nI_clamp, decide_true, Nat.le_refl, bI_eq, bI_z1, nI_ltI, nI_leI, hni, z_10, nI_z]
        split
        · rename_i hr
          refine go_at (blk := b_Forecast_restingSets_129) rfl ?_
          simp (disch := omega) only [b_Forecast_restingSets_129, be_10, be_51, List.getD_cons_zero, List.getD_cons_succ, List.set_cons_zero, List.set_cons_succ, List.length_cons, List.length_nil, pk_I, pk_A, pr_A, pi_I, st_s, st_n, if_true, if_false, eq_self, d_if, d_ju, d_re, d_ca, cat0, cat1, cat2, cat3, fr_z, fr_s, cc_I, cc_A, cc_N, Nat.reduceAdd, Nat.reduceLT, Nat.reduceLeDiff, Nat.reduceEqDiff, not_true, not_false_iff, z1_0, z1_1, Bool.and_self, Bool.true_and, Bool.and_true, nI_add, pk_mul, nI_clamp, decide_true, Nat.le_refl, bI_eq, bI_z1, nI_ltI, nI_leI, hni, z_10, nI_z]
          exact ih c ⟨by omega, by rw [z2, rt_0 (by omega) (show rsB T f n i = false by unfold rsB; rw [hr, hsb]; rfl)]⟩
        · rename_i hr
          have hr : rsB T f n i = true := by unfold rsB; rw [hsb, show (pF (rvB T f n i) (tN T) 0).isNone = true by simpa using hr]; rfl
          refine go_at (blk := b_Forecast_restingSets_117) rfl ?_
          simp (disch := omega) only [b_Forecast_restingSets_117, be_4, be_49_1, List.getD_cons_zero, List.getD_cons_succ, List.set_cons_zero, List.set_cons_succ, List.length_cons, List.length_nil, pk_I, pk_A, pr_A, pi_I, st_s, st_n, if_true, if_false, eq_self, d_if, d_ju, d_re, d_ca, cat0, cat1, cat2, cat3, fr_z, fr_s, cc_I, cc_A, cc_N, Nat.reduceAdd, Nat.reduceLT, Nat.reduceLeDiff, Nat.reduceEqDiff, not_true, not_false_iff, z1_0, z1_1, Bool.and_self, Bool.true_and, Bool.and_true, nI_add, pk_mul, nI_clamp, decide_true, Nat.le_refl, bI_eq, bI_z1, nI_ltI, nI_leI, hni, z_10, nI_z]
          split
          · rename_i hc
            refine go_at (blk := b_Forecast_restingSets_126) rfl ?_
            simp (disch := omega) only [b_Forecast_restingSets_126, be_10, be_0, List.getD_cons_zero, List.getD_cons_succ, List.set_cons_zero, List.set_cons_succ, List.length_cons, List.length_nil, pk_I, pk_A, pr_A, pi_I, st_s, st_n, if_true, if_false, eq_self, d_if, d_ju, d_re, d_ca, cat0, cat1, cat2, cat3, fr_z, fr_s, cc_I, cc_A, cc_N, Nat.reduceAdd, Nat.reduceLT, Nat.reduceLeDiff, Nat.reduceEqDiff, not_true, not_false_iff, z1_0, z1_1, Bool.and_self, Bool.true_and, Bool.and_true, nI_add, pk_mul, nI_clamp, decide_true, Nat.le_refl, bI_eq, bI_z1, nI_ltI, nI_leI, hni, z_10, nI_z]
            refine go_at (blk := b_Forecast_restingSets_129) rfl ?_
            simp (disch := omega) only [b_Forecast_restingSets_129, be_10, be_51, List.getD_cons_zero, List.getD_cons_succ, List.set_cons_zero, List.set_cons_succ, List.length_cons, List.length_nil, pk_I, pk_A, pr_A, pi_I, st_s, st_n, if_true, if_false, eq_self, d_if, d_ju, d_re, d_ca, cat0, cat1, cat2, cat3, fr_z, fr_s, cc_I, cc_A, cc_N, Nat.reduceAdd, Nat.reduceLT, Nat.reduceLeDiff, Nat.reduceEqDiff, not_true, not_false_iff, z1_0, z1_1, Bool.and_self, Bool.true_and, Bool.and_true, nI_add, pk_mul, nI_clamp, decide_true, Nat.le_refl, bI_eq, bI_z1, nI_ltI, nI_leI, hni, z_10, nI_z]
            exact ih (c + 1) ⟨by omega, by rw [z2, rt_1 (by omega) hr hc]⟩
          · rename_i hc
            have hc := Decidable.not_not.mp hc
            refine go_at (blk := b_Forecast_restingSets_123) rfl ?_
            simp (disch := omega) only [b_Forecast_restingSets_123, be_4, be_54, List.getD_cons_zero, List.getD_cons_succ, List.set_cons_zero, List.set_cons_succ, List.length_cons, List.length_nil, pk_I, pk_A, pr_A, pi_I, st_s, st_n, if_true, if_false, eq_self, d_if, d_ju, d_re, d_ca, cat0, cat1, cat2, cat3, fr_z, fr_s, cc_I, cc_A, cc_N, Nat.reduceAdd, Nat.reduceLT, Nat.reduceLeDiff, Nat.reduceEqDiff, not_true, not_false_iff, z1_0, z1_1, Bool.and_self, Bool.true_and, Bool.and_true, nI_add, pk_mul, nI_clamp, decide_true, Nat.le_refl, bI_eq, bI_z1, nI_ltI, nI_leI, hni, z_10, nI_z]
            rw [z2, rt_2 (by omega) hr hc] at hQ
            exact hQ x.1 x1
    · intro c ⟨z1, z2⟩
      try dsimp only at *
      refine go_at (blk := b_Forecast_restingSets_90) rfl ?_
      simp (disch := omega) only [b_Forecast_restingSets_90, be_4, be_1, be_49_3, List.getD_cons_zero, List.getD_cons_succ, List.set_cons_zero, List.set_cons_succ, List.length_cons, List.length_nil, pk_I, pk_A, pr_A, pi_I, st_s, st_n, if_true, if_false, eq_self, d_if, d_ju, d_re, d_ca, cat0, cat1, cat2, cat3, fr_z, fr_s, cc_I, cc_A, cc_N, Nat.reduceAdd, Nat.reduceLT, Nat.reduceLeDiff, Nat.reduceEqDiff, not_true, not_false_iff, z1_0, z1_1, Bool.and_self, Bool.true_and, Bool.and_true, nI_add, pk_mul, nI_clamp, decide_true, Nat.le_refl, bI_eq, bI_z1, nI_ltI, nI_leI]
      refine go_at (blk := b_Forecast_restingSets_135) rfl ?_
      simp (disch := omega) only [b_Forecast_restingSets_135, be_4, be_2, be_49_1, List.getD_cons_zero, List.getD_cons_succ, List.set_cons_zero, List.set_cons_succ, List.length_cons, List.length_nil, pk_I, pk_A, pr_A, pi_I, st_s, st_n, if_true, if_false, eq_self, d_if, d_ju, d_re, d_ca, cat0, cat1, cat2, cat3, fr_z, fr_s, cc_I, cc_A, cc_N, Nat.reduceAdd, Nat.reduceLT, Nat.reduceLeDiff, Nat.reduceEqDiff, not_true, not_false_iff, z1_0, z1_1, Bool.and_self, Bool.true_and, Bool.and_true, nI_add, pk_mul, nI_clamp, decide_true, Nat.le_refl, bI_eq, bI_z1, nI_ltI, nI_leI]
      split
      · rename_i hc
        refine go_at (blk := b_Forecast_restingSets_145) rfl ?_
        simp (disch := omega) only [b_Forecast_restingSets_145, be_2, be_0, List.getD_cons_zero, List.getD_cons_succ, List.set_cons_zero, List.set_cons_succ, List.length_cons, List.length_nil, pk_I, pk_A, pr_A, pi_I, st_s, st_n, if_true, if_false, eq_self, d_if, d_ju, d_re, d_ca, cat0, cat1, cat2, cat3, fr_z, fr_s, cc_I, cc_A, cc_N, Nat.reduceAdd, Nat.reduceLT, Nat.reduceLeDiff, Nat.reduceEqDiff, not_true, not_false_iff, z1_0, z1_1, Bool.and_self, Bool.true_and, Bool.and_true, nI_add, pk_mul, nI_clamp, decide_true, Nat.le_refl, bI_eq, bI_z1, nI_ltI, nI_leI]
        refine go_at (blk := b_Forecast_restingSets_146) rfl ?_
        simp (disch := omega) only [b_Forecast_restingSets_146, be_54, List.getD_cons_zero, List.getD_cons_succ, List.set_cons_zero, List.set_cons_succ, List.length_cons, List.length_nil, pk_I, pk_A, pr_A, pi_I, st_s, st_n, if_true, if_false, eq_self, d_if, d_ju, d_re, d_ca, cat0, cat1, cat2, cat3, fr_z, fr_s, cc_I, cc_A, cc_N, Nat.reduceAdd, Nat.reduceLT, Nat.reduceLeDiff, Nat.reduceEqDiff, not_true, not_false_iff, z1_0, z1_1, Bool.and_self, Bool.true_and, Bool.and_true, nI_add, pk_mul, nI_clamp, decide_true, Nat.le_refl, bI_eq, bI_z1, nI_ltI, nI_leI]
        rw [z2, Nat.sub_self, show rtS T f n ii 0 256 c = -1 from if_neg hc] at hQ
        exact hQ x.1 x1
      · rename_i hc
        refine go_at (blk := b_Forecast_restingSets_140) rfl ?_
        simp (disch := omega) only [b_Forecast_restingSets_140, be_4, be_51, List.getD_cons_zero, List.getD_cons_succ, List.set_cons_zero, List.set_cons_succ, List.length_cons, List.length_nil, pk_I, pk_A, pr_A, pi_I, st_s, st_n, if_true, if_false, eq_self, d_if, d_ju, d_re, d_ca, cat0, cat1, cat2, cat3, fr_z, fr_s, cc_I, cc_A, cc_N, Nat.reduceAdd, Nat.reduceLT, Nat.reduceLeDiff, Nat.reduceEqDiff, not_true, not_false_iff, z1_0, z1_1, Bool.and_self, Bool.true_and, Bool.and_true, nI_add, pk_mul, nI_clamp, decide_true, Nat.le_refl, bI_eq, bI_z1, nI_ltI, nI_leI]
        refine go_at (blk := b_Forecast_restingSets_146) rfl ?_
        simp (disch := omega) only [b_Forecast_restingSets_146, be_54, List.getD_cons_zero, List.getD_cons_succ, List.set_cons_zero, List.set_cons_succ, List.length_cons, List.length_nil, pk_I, pk_A, pr_A, pi_I, st_s, st_n, if_true, if_false, eq_self, d_if, d_ju, d_re, d_ca, cat0, cat1, cat2, cat3, fr_z, fr_s, cc_I, cc_A, cc_N, Nat.reduceAdd, Nat.reduceLT, Nat.reduceLeDiff, Nat.reduceEqDiff, not_true, not_false_iff, z1_0, z1_1, Bool.and_self, Bool.true_and, Bool.and_true, nI_add, pk_mul, nI_clamp, decide_true, Nat.le_refl, bI_eq, bI_z1, nI_ltI, nI_leI]
        rw [z2, Nat.sub_self, show rtS T f n ii 0 256 c = nI c from if_pos (Decidable.not_not.mp hc)] at hQ
        exact hQ x.1 x1
