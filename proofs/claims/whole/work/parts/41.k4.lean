/-! laid by wip/whole/k4.py: the class: a stair: copied, begun, counted -/
/-- a stair, and not even what laws are reckoned with, has changed -/
def FC (v v' : Nat → Nat → Int32) (a : Nat) : Prop := ∀ c, (c < a ∨ a + 5 < c) → v' c = v c
theorem FC_s {v v' : Nat → Nat → Int32} {a : Nat} (h : FC v v' a) : FS v v' a := fun c h1 _ _ _ _ => h c h1
theorem nI_m {p : Nat} (h : p < 8) : nI p ≠ -1 := by
  intro z
  have := congrArg Int32.toInt z
  rw [nI_toInt (by omega), show (-1 : Int32).toInt = -1 from rfl] at this
  omega
theorem vb_01 {x : Int32} (h : x = 0 ∨ x = 1) : vp_nar FieldType.boolean x = x := by rcases h with h | h <;> rw [h] <;> rfl
theorem bt_1 : ∀ s, s < 256 → ∀ p, p < 8 → (((nI s >>> (nI p &&& 31)) &&& nI 1 = nI 1) ↔ s.testBit p = true) := by decide +kernel
theorem bt_or : ∀ p, p < 8 → ∀ m, m < 2 ^ p → nI m ||| (nI 1 <<< (nI p &&& 31)) = nI (m + 2 ^ p) := by decide +kernel
/-- the row of a text's beginning -/
def bgT (T : TXT) (j : Nat) : Int32 :=
  if j < 8 then (if j < tN T then (if tP T j < tT T then tP T j else tT T) else 0)
  else if j < 16 then (if j - 8 < tN T then (if tP T (j - 8) < tT T then tL T (j - 8) else 0) else 0)
  else if j < 32 then 0
  else if j < 40 then (if j - 32 < tN T then (if tP T (j - 32) < tT T then -1 else 0) else 0)
  else if j = 40 then tO T else 0
section
variable {T : TXT} {p : Nat}
theorem bg_0 (h : p < tN T) (h8 : p < 8) : bgT T p = if tP T p < tT T then tP T p else tT T := by
  unfold bgT
  rw [if_pos h8, if_pos h]
theorem bg_1 (h : p < tN T) (h8 : p < 8) : bgT T (8 + p) = if tP T p < tT T then tL T p else 0 := by
  unfold bgT
  rw [if_neg (by omega), if_pos (by omega), show 8 + p - 8 = p by omega, if_pos h]
theorem bg_2 (h8 : p < 8) : bgT T (16 + p) = 0 := by
  unfold bgT
  rw [if_neg (by omega), if_neg (by omega), if_pos (by omega)]
theorem bg_3 (h8 : p < 8) : bgT T (24 + p) = 0 := by
  unfold bgT
  rw [if_neg (by omega), if_neg (by omega), if_pos (by omega)]
theorem bg_4 (h : p < tN T) (h8 : p < 8) : bgT T (32 + p) = if tP T p < tT T then -1 else 0 := by
  unfold bgT
  rw [if_neg (by omega), if_neg (by omega), if_neg (by omega), if_pos (by omega), show 32 + p - 32 = p by omega, if_pos h]
end
theorem GR_bg {T : TXT} (h : GT T) : GR 0 (tN T) (bgT T) := by
  obtain ⟨h1, h2, h3, h4, h5⟩ := h
  refine ⟨?_, h3.1, Int.le_refl _, Int.le_refl _⟩
  intro p hp
  have h8 : p < 8 := by omega
  obtain ⟨q0, q1, q2, q3, q4, q5⟩ := h4 p hp
  rw [bg_0 hp h8, bg_1 hp h8, bg_2 h8, bg_3 h8, bg_4 hp h8]
  refine ⟨?_, Int.le_refl _, Int.le_refl _, ?_, ?_, Int.le_refl _, Int.le_refl _⟩
  · split
    · exact q5
    · exact Or.inl rfl
  · split
    · exact Or.inl rfl
    · exact Or.inr (Int.le_refl _)
  · split <;> omega
theorem KX_c {v v' : Nat → Nat → Int32} {T : TXT} {a : Nat} (h : KX v T) (ha : 42 ≤ a) (e : ∀ c, (c < a + 1 ∨ a + 5 < c) → v' c = v c) : KX v' T := KX_w h (fun c _ _ _ _ => e c (by omega))
set_option maxHeartbeats 1000000 in
theorem k_copyFrom {d : Nat} {v : Nat → Nat → Int32} {w : Nat → Nat → Int64} {Q : Option Value → am_H → Prop} {a : Nat} (ha : ST a) {b : Nat} (hb : ST b) (hd : b + 5 < a ∨ a + 5 < b) {T : TXT} {md : Int32} {f : Nat → Int32} {B : Int} (hk : KX v T) (hr : RX v b (tN T) (-1) md f) (hg : GR B (tN T) f) (hQ : ∀ v', FC v v' a → RX v' a (tN T) (-1) md f → Q none (428, 26053, KD, RF, v', w)) : am_Ca (d + 1) M_Stair_copyFrom [.ref a, .ref b] (428, 26053, KD, RF, v, w) Q := by
  obtain ⟨hlo, hhi⟩ := st_lo ha
  have hk0 := hk
  obtain ⟨k0, k1', k2', k3', k4, _⟩ := hk0
  obtain ⟨hlo2, hhi2⟩ := st_lo hb
  refine ca_in (k := k_Stair_copyFrom) (nL := 3) rfl (Nat.le_of_ble_eq_true rfl) ?_
  show am_Go am_X0 _ k_Stair_copyFrom 0 ([.ref a, .ref b, .null], [], _) _
  refine go_at (blk := b_Stair_copyFrom_0) rfl ?_
  simp (disch := omega) only [b_Stair_copyFrom_0, be_1, be_7, be_0, List.getD_cons_zero, List.getD_cons_succ, List.set_cons_zero, List.set_cons_succ, List.length_cons, List.length_nil, pk_I, pk_A, pr_A, pi_I, st_s, st_n, if_true, if_false, eq_self, d_if, d_ju, d_re, d_ca, cat0, cat1, cat2, cat3, fr_z, fr_s, cc_I, cc_A, cc_N, Nat.reduceAdd, Nat.reduceLT, Nat.reduceLeDiff, Nat.reduceEqDiff, not_true, not_false_iff, z1_0, z1_1, Bool.and_self, Bool.true_and, Bool.and_true, nI_add, pk_mul, nI_clamp, decide_true, Nat.le_refl, bI_eq, bI_z1]
  refine go_loopA (α := (Nat → Nat → Int32)) (fun i x => ([.ref a, .ref b, .int (nI i)], [], (428, 26053, KD, RF, x, w))) (fun i x => (∀ c, (c < a + 1 ∨ a + 5 < c) → x c = v c) ∧ ∀ q, q < i → PX x a (-1) f q) (tN T) ?_ ?_ v ⟨fun _ _ => rfl, fun q h => absurd h (by omega)⟩
  · intro i x hi ⟨i1, i2⟩ ih
    try dsimp only at *
    have hni : ¬ tN T ≤ i := by omega
    have k1 : x 25 2 = nI (tN T) := by rw [i1 25 (by omega)]; exact k1'
    obtain ⟨b1, b2, b3, b4, b5⟩ := (PX_w (v' := x) (hr.1 i hi) (fun k _ _ => by rw [i1 (b + k) (by omega)])).1 (nI_m (by omega))
    have b6 := vb_01 (hg.1 i hi).1
    refine go_at (blk := b_Stair_copyFrom_2) rfl ?_
    simp (disch := omega) only [b_Stair_copyFrom_2, be_4, be_6, be_34, be_33, be_49_3, kc_st ha, st_r0 ha, kc_25, List.getD_cons_zero, List.getD_cons_succ, List.set_cons_zero, List.set_cons_succ, List.length_cons, List.length_nil, pk_I, pk_A, pr_A, pi_I, st_s, st_n, if_true, if_false, eq_self, d_if, d_ju, d_re, d_ca, cat0, cat1, cat2, cat3, fr_z, fr_s, cc_I, cc_A, cc_N, Nat.reduceAdd, Nat.reduceLT, Nat.reduceLeDiff, Nat.reduceEqDiff, not_true, not_false_iff, z1_0, z1_1, Bool.and_self, Bool.true_and, Bool.and_true, nI_add, pk_mul, nI_clamp, decide_true, Nat.le_refl, bI_eq, bI_z1, vb_0, vb_1, am_u_at, am_u_ne, upd_at, upd_ne, k1, nI_leI, hni, b1, b2, b3, b4, b5, b6]
    refine go_at (blk := b_Stair_copyFrom_13) rfl ?_
    simp (disch := omega) only [b_Stair_copyFrom_13, be_6, be_34, be_4, be_38, be_43, be_40, be_45, be_10, be_51, kc_st ha, st_r1 ha, kc_st hb, st_r1 hb, ka_st1 hb, ka_st1 ha, st_r2 ha, st_r2 hb, ka_st2 hb, ka_st2 ha, st_r3 ha, st_r3 hb, ka_st3 hb, ka_st3 ha, st_r4 ha, st_r4 hb, ka_st4 hb, ka_st4 ha, st_r5 ha, st_r5 hb, ka_st5 hb, ka_st5 ha, List.getD_cons_zero, List.getD_cons_succ, List.set_cons_zero, List.set_cons_succ, List.length_cons, List.length_nil, pk_I, pk_A, pr_A, pi_I, st_s, st_n, if_true, if_false, eq_self, d_if, d_ju, d_re, d_ca, cat0, cat1, cat2, cat3, fr_z, fr_s, cc_I, cc_A, cc_N, Nat.reduceAdd, Nat.reduceLT, Nat.reduceLeDiff, Nat.reduceEqDiff, not_true, not_false_iff, z1_0, z1_1, Bool.and_self, Bool.true_and, Bool.and_true, nI_add, pk_mul, nI_clamp, decide_true, Nat.le_refl, bI_eq, bI_z1, vb_0, vb_1, am_u_at, am_u_ne, upd_at, upd_ne, k1, nI_leI, hni, b1, b2, b3, b4, b5, b6]
    refine ih (am_u (am_u (am_u (am_u (am_u x (a + 1) i _) (a + 2) i _) (a + 3) i _) (a + 4) i _) (a + 5) i _) ⟨?_, ?_⟩
    · intro c hc
      simp (disch := omega) only [am_u_ne]
      exact i1 c hc
    · intro q hq
      rcases Nat.lt_or_eq_of_le (Nat.le_of_lt_succ hq) with h | h
      · exact PX_w (i2 q h) (fun k _ _ => TP_u (p := i) (by omega) (TP_u (by omega) (TP_u (by omega) (TP_u (by omega) (TP_u (by omega) TP_r)))) _ _ (by omega))
      · subst h
        refine ⟨fun _ => ⟨?_, ?_, ?_, ?_, ?_⟩, fun h => absurd h (nI_m (by omega))⟩ <;> simp (disch := omega) only [am_u_at, am_u_ne, upd_at, upd_ne]
  · intro x ⟨i1, i2⟩
    try dsimp only at *
    have k1 : x 25 2 = nI (tN T) := by rw [i1 25 (by omega)]; exact k1'
    have c6 : x b 6 = f 40 := by rw [i1 b (by omega)]; exact hr.2.1
    have c7 : x b 7 = f 41 := by rw [i1 b (by omega)]; exact hr.2.2.1
    have c8 : x b 8 = f 42 := by rw [i1 b (by omega)]; exact hr.2.2.2.1
    have c9 : x b 9 = md := by rw [i1 b (by omega)]; exact hr.2.2.2.2
    refine go_at (blk := b_Stair_copyFrom_2) rfl ?_
    simp (disch := omega) only [b_Stair_copyFrom_2, be_4, be_6, be_34, be_33, be_49_3, kc_st ha, st_r0 ha, kc_25, List.getD_cons_zero, List.getD_cons_succ, List.set_cons_zero, List.set_cons_succ, List.length_cons, List.length_nil, pk_I, pk_A, pr_A, pi_I, st_s, st_n, if_true, if_false, eq_self, d_if, d_ju, d_re, d_ca, cat0, cat1, cat2, cat3, fr_z, fr_s, cc_I, cc_A, cc_N, Nat.reduceAdd, Nat.reduceLT, Nat.reduceLeDiff, Nat.reduceEqDiff, not_true, not_false_iff, z1_0, z1_1, Bool.and_self, Bool.true_and, Bool.and_true, nI_add, pk_mul, nI_clamp, decide_true, Nat.le_refl, bI_eq, bI_z1, vb_0, vb_1, am_u_at, am_u_ne, upd_at, upd_ne, k1, nI_leI, c6, c7, c8, c9]
    refine go_at (blk := b_Stair_copyFrom_79) rfl ?_
    simp (disch := omega) only [b_Stair_copyFrom_79, be_6, be_33, be_35, be_56, kc_st hb, kc_st ha, List.getD_cons_zero, List.getD_cons_succ, List.set_cons_zero, List.set_cons_succ, List.length_cons, List.length_nil, pk_I, pk_A, pr_A, pi_I, st_s, st_n, if_true, if_false, eq_self, d_if, d_ju, d_re, d_ca, cat0, cat1, cat2, cat3, fr_z, fr_s, cc_I, cc_A, cc_N, Nat.reduceAdd, Nat.reduceLT, Nat.reduceLeDiff, Nat.reduceEqDiff, not_true, not_false_iff, z1_0, z1_1, Bool.and_self, Bool.true_and, Bool.and_true, nI_add, pk_mul, nI_clamp, decide_true, Nat.le_refl, bI_eq, bI_z1, vb_0, vb_1, am_u_at, am_u_ne, upd_at, upd_ne, k1, nI_leI, c6, c7, c8, c9]
    refine hQ _ ?_ ⟨fun p hp => PX_w (i2 p hp) (fun k _ _ => by simp (disch := omega) only [am_u_ne]), ?_, ?_, ?_, ?_⟩
    · intro c hc
      simp (disch := omega) only [am_u_ne]
      exact i1 c (by omega)
    all_goals simp (disch := omega) only [am_u_at, upd_at, upd_ne]
set_option maxHeartbeats 1000000 in
theorem k_begin {d : Nat} {v : Nat → Nat → Int32} {w : Nat → Nat → Int64} {Q : Option Value → am_H → Prop} {a : Nat} (ha : ST a) {T : TXT} (hk : KX v T) (ht : GT T) (hQ : ∀ v', FC v v' a → RX v' a (tN T) (-1) 0 (bgT T) → Q none (428, 26053, KD, RF, v', w)) : am_Ca (d + 2) M_Stair_begin [.ref a] (428, 26053, KD, RF, v, w) Q := by
  obtain ⟨hlo, hhi⟩ := st_lo ha
  have hk0 := hk
  obtain ⟨k0, k1', k2', k3', k4, _⟩ := hk0
  refine ca_in (k := k_Stair_begin) (nL := 2) rfl (Nat.le_of_ble_eq_true rfl) ?_
  show am_Go am_X0 _ k_Stair_begin 0 ([.ref a, .null], [], _) _
  refine go_at (blk := b_Stair_begin_0) rfl ?_
  simp (disch := omega) only [b_Stair_begin_0, be_1, be_7, be_0, List.getD_cons_zero, List.getD_cons_succ, List.set_cons_zero, List.set_cons_succ, List.length_cons, List.length_nil, pk_I, pk_A, pr_A, pi_I, st_s, st_n, if_true, if_false, eq_self, d_if, d_ju, d_re, d_ca, cat0, cat1, cat2, cat3, fr_z, fr_s, cc_I, cc_A, cc_N, Nat.reduceAdd, Nat.reduceLT, Nat.reduceLeDiff, Nat.reduceEqDiff, not_true, not_false_iff, z1_0, z1_1, Bool.and_self, Bool.true_and, Bool.and_true, nI_add, pk_mul, nI_clamp, decide_true, Nat.le_refl, bI_eq, bI_z1]
  refine go_loopA (α := (Nat → Nat → Int32)) (fun i x => ([.ref a, .int (nI i)], [], (428, 26053, KD, RF, x, w))) (fun i x => (∀ c, (c < a + 1 ∨ a + 5 < c) → x c = v c) ∧ ∀ q, q < i → PX x a (-1) (bgT T) q) (tN T) ?_ ?_ v ⟨fun _ _ => rfl, fun q h => absurd h (by omega)⟩
  · intro i x hi ⟨i1, i2⟩ ih
    try dsimp only at *
    have hni : ¬ tN T ≤ i := by omega
    obtain ⟨k0, k1, k2, k3, k4, _⟩ := KX_c hk hlo i1
    obtain ⟨e0, _, _, _, _, e5⟩ := k4 i hi
    have b6 := vb_01 (ht.2.2.2.1 i hi).2.2.2.2.2
    refine go_at (blk := b_Stair_begin_2) rfl ?_
    simp (disch := omega) only [b_Stair_begin_2, be_4, be_6, be_34, be_33, be_49_3, kc_st ha, st_r0 ha, kc_25, List.getD_cons_zero, List.getD_cons_succ, List.set_cons_zero, List.set_cons_succ, List.length_cons, List.length_nil, pk_I, pk_A, pr_A, pi_I, st_s, st_n, if_true, if_false, eq_self, d_if, d_ju, d_re, d_ca, cat0, cat1, cat2, cat3, fr_z, fr_s, cc_I, cc_A, cc_N, Nat.reduceAdd, Nat.reduceLT, Nat.reduceLeDiff, Nat.reduceEqDiff, not_true, not_false_iff, z1_0, z1_1, Bool.and_self, Bool.true_and, Bool.and_true, nI_add, pk_mul, nI_clamp, decide_true, Nat.le_refl, bI_eq, bI_z1, vb_0, vb_1, am_u_at, am_u_ne, upd_at, upd_ne, k1, nI_leI, hni, e0, e5, b6, k2]
    refine go_at (blk := b_Stair_begin_13) rfl ?_
    simp (disch := omega) only [b_Stair_begin_13, be_6, be_34, be_4, be_38, be_43, be_40, be_45, be_1, be_2, be_33, be_49_2, kc_st ha, st_r1 ha, st_r0 ha, kc_25, rf_25_3, ka_26, ka_st1 ha, st_r2 ha, rf_25_8, ka_31, ka_st2 ha, st_r3 ha, ka_st3 ha, st_r4 ha, ka_st4 ha, st_r5 ha, ka_st5 ha, List.getD_cons_zero, List.getD_cons_succ, List.set_cons_zero, List.set_cons_succ, List.length_cons, List.length_nil, pk_I, pk_A, pr_A, pi_I, st_s, st_n, if_true, if_false, eq_self, d_if, d_ju, d_re, d_ca, cat0, cat1, cat2, cat3, fr_z, fr_s, cc_I, cc_A, cc_N, Nat.reduceAdd, Nat.reduceLT, Nat.reduceLeDiff, Nat.reduceEqDiff, not_true, not_false_iff, z1_0, z1_1, Bool.and_self, Bool.true_and, Bool.and_true, nI_add, pk_mul, nI_clamp, decide_true, Nat.le_refl, bI_eq, bI_z1, vb_0, vb_1, am_u_at, am_u_ne, upd_at, upd_ne, k1, nI_leI, hni, e0, e5, b6, k2]
    split
    · rename_i hs
      refine go_at (blk := b_Stair_begin_87) rfl ?_
      simp (disch := omega) only [b_Stair_begin_87, be_10, be_51, List.getD_cons_zero, List.getD_cons_succ, List.set_cons_zero, List.set_cons_succ, List.length_cons, List.length_nil, pk_I, pk_A, pr_A, pi_I, st_s, st_n, if_true, if_false, eq_self, d_if, d_ju, d_re, d_ca, cat0, cat1, cat2, cat3, fr_z, fr_s, cc_I, cc_A, cc_N, Nat.reduceAdd, Nat.reduceLT, Nat.reduceLeDiff, Nat.reduceEqDiff, not_true, not_false_iff, z1_0, z1_1, Bool.and_self, Bool.true_and, Bool.and_true, nI_add, pk_mul, nI_clamp, decide_true, Nat.le_refl, bI_eq, bI_z1, vb_0, vb_1, am_u_at, am_u_ne, upd_at, upd_ne, k1, nI_leI, hni, e0, e5, b6, k2]
      refine ih (am_u (am_u (am_u (am_u (am_u x (a + 1) i _) (a + 2) i _) (a + 3) i _) (a + 4) i _) (a + 5) i _) ⟨?_, ?_⟩
      · intro c hc
        simp (disch := omega) only [am_u_ne]
        exact i1 c hc
      · intro q hq
        rcases Nat.lt_or_eq_of_le (Nat.le_of_lt_succ hq) with h | h
        · exact PX_w (i2 q h) (fun k _ _ => (TP_u (by omega) (TP_u (by omega) (TP_u (by omega) (TP_u (by omega) (TP_u (by omega) (TP_r))))) : TP x _ a i) _ _ (by omega))
        · subst h
          refine ⟨fun _ => ⟨?_, ?_, ?_, ?_, ?_⟩, fun h => absurd h (nI_m (by omega))⟩
          · rw [bg_0 hi (by omega), if_pos hs]; simp (disch := omega) only [am_u_at, am_u_ne, upd_at, upd_ne, e0, k2]
          · rw [bg_1 hi (by omega), if_pos hs]; simp (disch := omega) only [am_u_at, am_u_ne, upd_at, upd_ne, nI_z]
          · rw [bg_2 (by omega)]; simp (disch := omega) only [am_u_at, am_u_ne, upd_at, upd_ne, nI_z]
          · rw [bg_3 (by omega)]; simp (disch := omega) only [am_u_at, am_u_ne, upd_at, upd_ne, nI_z]
          · rw [bg_4 hi (by omega), if_pos hs]; simp (disch := omega) only [am_u_at, am_u_ne, upd_at, upd_ne, nI_z]; rfl
    · rename_i hs
      refine go_at (blk := b_Stair_begin_81) rfl ?_
      simp (disch := omega) only [b_Stair_begin_81, be_6, be_4, be_1, be_57_2, kc_st ha, List.getD_cons_zero, List.getD_cons_succ, List.set_cons_zero, List.set_cons_succ, List.length_cons, List.length_nil, pk_I, pk_A, pr_A, pi_I, st_s, st_n, if_true, if_false, eq_self, d_if, d_ju, d_re, d_ca, cat0, cat1, cat2, cat3, fr_z, fr_s, cc_I, cc_A, cc_N, Nat.reduceAdd, Nat.reduceLT, Nat.reduceLeDiff, Nat.reduceEqDiff, not_true, not_false_iff, z1_0, z1_1, Bool.and_self, Bool.true_and, Bool.and_true, nI_add, pk_mul, nI_clamp, decide_true, Nat.le_refl, bI_eq, bI_z1, vb_0, vb_1, am_u_at, am_u_ne, upd_at, upd_ne, k1, nI_leI, hni, e0, e5, b6, k2]
      refine k_arriveIn ha (by omega) ?_
      refine go_at (blk := b_Stair_begin_87) rfl ?_
      simp (disch := omega) only [b_Stair_begin_87, be_10, be_51, List.getD_cons_zero, List.getD_cons_succ, List.set_cons_zero, List.set_cons_succ, List.length_cons, List.length_nil, pk_I, pk_A, pr_A, pi_I, st_s, st_n, if_true, if_false, eq_self, d_if, d_ju, d_re, d_ca, cat0, cat1, cat2, cat3, fr_z, fr_s, cc_I, cc_A, cc_N, Nat.reduceAdd, Nat.reduceLT, Nat.reduceLeDiff, Nat.reduceEqDiff, not_true, not_false_iff, z1_0, z1_1, Bool.and_self, Bool.true_and, Bool.and_true, nI_add, pk_mul, nI_clamp, decide_true, Nat.le_refl, bI_eq, bI_z1, vb_0, vb_1, am_u_at, am_u_ne, upd_at, upd_ne, k1, nI_leI, hni, e0, e5, b6, k2]
      refine ih (am_u (am_u (am_u (am_u (am_u (am_u (am_u (am_u x (a + 1) i _) (a + 2) i _) (a + 3) i _) (a + 4) i _) (a + 5) i _) (a + 1) i _) (a + 5) i _) (a + 2) i _) ⟨?_, ?_⟩
      · intro c hc
        simp (disch := omega) only [am_u_ne]
        exact i1 c hc
      · intro q hq
        rcases Nat.lt_or_eq_of_le (Nat.le_of_lt_succ hq) with h | h
        · exact PX_w (i2 q h) (fun k _ _ => (TP_u (by omega) (TP_u (by omega) (TP_u (by omega) (TP_u (by omega) (TP_u (by omega) (TP_u (by omega) (TP_u (by omega) (TP_u (by omega) (TP_r)))))))) : TP x _ a i) _ _ (by omega))
        · subst h
          refine ⟨fun _ => ⟨?_, ?_, ?_, ?_, ?_⟩, fun h => absurd h (nI_m (by omega))⟩
          · rw [bg_0 hi (by omega), if_neg hs]; simp (disch := omega) only [am_u_at, am_u_ne, upd_at, upd_ne, e0, k2]
          · rw [bg_1 hi (by omega), if_neg hs]; simp (disch := omega) only [am_u_at, am_u_ne, upd_at, upd_ne, nI_z]
          · rw [bg_2 (by omega)]; simp (disch := omega) only [am_u_at, am_u_ne, upd_at, upd_ne, nI_z]
          · rw [bg_3 (by omega)]; simp (disch := omega) only [am_u_at, am_u_ne, upd_at, upd_ne, nI_z]
          · rw [bg_4 hi (by omega), if_neg hs]; simp (disch := omega) only [am_u_at, am_u_ne, upd_at, upd_ne, nI_z]; rfl
  · intro x ⟨i1, i2⟩
    try dsimp only at *
    obtain ⟨k0, k1, k2, k3, k4, _⟩ := KX_c hk hlo i1
    refine go_at (blk := b_Stair_begin_2) rfl ?_
    simp (disch := omega) only [b_Stair_begin_2, be_4, be_6, be_34, be_33, be_49_3, kc_st ha, st_r0 ha, kc_25, List.getD_cons_zero, List.getD_cons_succ, List.set_cons_zero, List.set_cons_succ, List.length_cons, List.length_nil, pk_I, pk_A, pr_A, pi_I, st_s, st_n, if_true, if_false, eq_self, d_if, d_ju, d_re, d_ca, cat0, cat1, cat2, cat3, fr_z, fr_s, cc_I, cc_A, cc_N, Nat.reduceAdd, Nat.reduceLT, Nat.reduceLeDiff, Nat.reduceEqDiff, not_true, not_false_iff, z1_0, z1_1, Bool.and_self, Bool.true_and, Bool.and_true, nI_add, pk_mul, nI_clamp, decide_true, Nat.le_refl, bI_eq, bI_z1, vb_0, vb_1, am_u_at, am_u_ne, upd_at, upd_ne, k1, k3, nI_leI]
    refine go_at (blk := b_Stair_begin_93) rfl ?_
    simp (disch := omega) only [b_Stair_begin_93, be_6, be_34, be_33, be_35, be_1, be_56, kc_st ha, st_r0 ha, kc_25, List.getD_cons_zero, List.getD_cons_succ, List.set_cons_zero, List.set_cons_succ, List.length_cons, List.length_nil, pk_I, pk_A, pr_A, pi_I, st_s, st_n, if_true, if_false, eq_self, d_if, d_ju, d_re, d_ca, cat0, cat1, cat2, cat3, fr_z, fr_s, cc_I, cc_A, cc_N, Nat.reduceAdd, Nat.reduceLT, Nat.reduceLeDiff, Nat.reduceEqDiff, not_true, not_false_iff, z1_0, z1_1, Bool.and_self, Bool.true_and, Bool.and_true, nI_add, pk_mul, nI_clamp, decide_true, Nat.le_refl, bI_eq, bI_z1, vb_0, vb_1, am_u_at, am_u_ne, upd_at, upd_ne, k1, k3, nI_leI]
    refine hQ _ ?_ ⟨fun p hp => PX_w (i2 p hp) (fun k _ _ => by simp (disch := omega) only [am_u_ne]), ?_, ?_, ?_, ?_⟩
    · intro c hc
      simp (disch := omega) only [am_u_ne]
      exact i1 c (by omega)
    all_goals simp (disch := omega) only [am_u_at, upd_at, upd_ne]
    all_goals rfl
/-- those of a set kneel, no others -/
def knS (s : Nat) (f : Nat → Int32) (j : Nat) : Int32 := if j < 8 then f j else if j < 16 then (if s.testBit (j - 8) then 1 else 0) else f j
theorem kn_1 {s p : Nat} {f : Nat → Int32} (h : p < 8) : knS s f (8 + p) = if s.testBit p then 1 else 0 := by
  unfold knS
  rw [if_neg (by omega), if_pos (by omega), show 8 + p - 8 = p by omega]
theorem kn_o {s j : Nat} {f : Nat → Int32} (h : j < 8 ∨ 16 ≤ j) : knS s f j = f j := by
  unfold knS
  by_cases h1 : j < 8
  · rw [if_pos h1]
  · rw [if_neg h1, if_neg (by omega)]
theorem GR_kn {B : Int} {n s : Nat} {f : Nat → Int32} (hn : n ≤ 8) (g : GR B n f) : GR B n (knS s f) := by
  obtain ⟨g0, g1⟩ := g
  refine ⟨?_, by rw [kn_o (by omega), kn_o (by omega)]; exact g1⟩
  intro p hp
  rw [kn_1 (by omega), kn_o (j := 16 + p) (by omega), kn_o (j := 32 + p) (by omega), kn_o (j := 24 + p) (by omega), kn_o (j := p) (by omega), kn_o (j := 41) (by omega)]
  refine ⟨?_, (g0 p hp).2⟩
  split
  · exact Or.inr rfl
  · exact Or.inl rfl
set_option maxHeartbeats 1000000 in
theorem k_letKneelJust {d : Nat} {v : Nat → Nat → Int32} {w : Nat → Nat → Int64} {Q : Option Value → am_H → Prop} {a : Nat} (ha : ST a) {T : TXT} {no md : Int32} {f : Nat → Int32} (hk : KX v T) (hr : RX v a (tN T) no md f) {s : Nat} (hs : s < 256) (hQ : ∀ v', FC v v' a → RX v' a (tN T) no md (knS s f) → Q none (428, 26053, KD, RF, v', w)) : am_Ca (d + 1) M_Stair_letKneelJust [.ref a, .int (nI s)] (428, 26053, KD, RF, v, w) Q := by
  obtain ⟨hlo, hhi⟩ := st_lo ha
  have hk0 := hk
  obtain ⟨k0, k1', k2', k3', k4, _⟩ := hk0
  refine ca_in (k := k_Stair_letKneelJust) (nL := 3) rfl (Nat.le_of_ble_eq_true rfl) ?_
  show am_Go am_X0 _ k_Stair_letKneelJust 0 ([.ref a, .int (nI s), .null], [], _) _
  refine go_at (blk := b_Stair_letKneelJust_0) rfl ?_
  simp (disch := omega) only [b_Stair_letKneelJust_0, be_1, be_7, be_0, List.getD_cons_zero, List.getD_cons_succ, List.set_cons_zero, List.set_cons_succ, List.length_cons, List.length_nil, pk_I, pk_A, pr_A, pi_I, st_s, st_n, if_true, if_false, eq_self, d_if, d_ju, d_re, d_ca, cat0, cat1, cat2, cat3, fr_z, fr_s, cc_I, cc_A, cc_N, Nat.reduceAdd, Nat.reduceLT, Nat.reduceLeDiff, Nat.reduceEqDiff, not_true, not_false_iff, z1_0, z1_1, Bool.and_self, Bool.true_and, Bool.and_true, nI_add, pk_mul, nI_clamp, decide_true, Nat.le_refl, bI_eq, bI_z1]
  refine go_loopA (α := (Nat → Nat → Int32)) (fun i x => ([.ref a, .int (nI s), .int (nI i)], [], (428, 26053, KD, RF, x, w))) (fun i x => (∀ c, (c < a + 1 ∨ a + 5 < c) → x c = v c) ∧ (∀ q, q < i → PX x a no (knS s f) q) ∧ ∀ q, i ≤ q → q < tN T → PX x a no f q) (tN T) ?_ ?_ v ⟨fun _ _ => rfl, fun q h => absurd h (by omega), fun q _ h => hr.1 q h⟩
  · intro i x hi ⟨i1, i2, i3⟩ ih
    try dsimp only at *
    have hni : ¬ tN T ≤ i := by omega
    obtain ⟨k0, k1, k2, k3, k4, _⟩ := KX_c hk hlo i1
    have hbt := bt_1 s hs i (by omega)
    refine go_at (blk := b_Stair_letKneelJust_2) rfl ?_
    simp (disch := omega) only [b_Stair_letKneelJust_2, be_4, be_6, be_34, be_33, be_49_3, kc_st ha, st_r0 ha, kc_25, List.getD_cons_zero, List.getD_cons_succ, List.set_cons_zero, List.set_cons_succ, List.length_cons, List.length_nil, pk_I, pk_A, pr_A, pi_I, st_s, st_n, if_true, if_false, eq_self, d_if, d_ju, d_re, d_ca, cat0, cat1, cat2, cat3, fr_z, fr_s, cc_I, cc_A, cc_N, Nat.reduceAdd, Nat.reduceLT, Nat.reduceLeDiff, Nat.reduceEqDiff, not_true, not_false_iff, z1_0, z1_1, Bool.and_self, Bool.true_and, Bool.and_true, nI_add, pk_mul, nI_clamp, decide_true, Nat.le_refl, bI_eq, bI_z1, vb_0, vb_1, am_u_at, am_u_ne, upd_at, upd_ne, k1, nI_leI, hni, hbt]
    refine go_at (blk := b_Stair_letKneelJust_13) rfl ?_
    simp (disch := omega) only [b_Stair_letKneelJust_13, be_6, be_34, be_4, be_22, be_1, be_18, be_49_1, kc_st ha, st_r2 ha, List.getD_cons_zero, List.getD_cons_succ, List.set_cons_zero, List.set_cons_succ, List.length_cons, List.length_nil, pk_I, pk_A, pr_A, pi_I, st_s, st_n, if_true, if_false, eq_self, d_if, d_ju, d_re, d_ca, cat0, cat1, cat2, cat3, fr_z, fr_s, cc_I, cc_A, cc_N, Nat.reduceAdd, Nat.reduceLT, Nat.reduceLeDiff, Nat.reduceEqDiff, not_true, not_false_iff, z1_0, z1_1, Bool.and_self, Bool.true_and, Bool.and_true, nI_add, pk_mul, nI_clamp, decide_true, Nat.le_refl, bI_eq, bI_z1, vb_0, vb_1, am_u_at, am_u_ne, upd_at, upd_ne, k1, nI_leI, hni, hbt]
    split
    · rename_i hc
      refine go_at (blk := b_Stair_letKneelJust_31) rfl ?_
      simp (disch := omega) only [b_Stair_letKneelJust_31, be_1, be_0, List.getD_cons_zero, List.getD_cons_succ, List.set_cons_zero, List.set_cons_succ, List.length_cons, List.length_nil, pk_I, pk_A, pr_A, pi_I, st_s, st_n, if_true, if_false, eq_self, d_if, d_ju, d_re, d_ca, cat0, cat1, cat2, cat3, fr_z, fr_s, cc_I, cc_A, cc_N, Nat.reduceAdd, Nat.reduceLT, Nat.reduceLeDiff, Nat.reduceEqDiff, not_true, not_false_iff, z1_0, z1_1, Bool.and_self, Bool.true_and, Bool.and_true, nI_add, pk_mul, nI_clamp, decide_true, Nat.le_refl, bI_eq, bI_z1, vb_0, vb_1, am_u_at, am_u_ne, upd_at, upd_ne, k1, nI_leI, hni, hbt]
      refine go_at (blk := b_Stair_letKneelJust_32) rfl ?_
      simp (disch := omega) only [b_Stair_letKneelJust_32, be_45, be_10, be_51, ka_st2 ha, List.getD_cons_zero, List.getD_cons_succ, List.set_cons_zero, List.set_cons_succ, List.length_cons, List.length_nil, pk_I, pk_A, pr_A, pi_I, st_s, st_n, if_true, if_false, eq_self, d_if, d_ju, d_re, d_ca, cat0, cat1, cat2, cat3, fr_z, fr_s, cc_I, cc_A, cc_N, Nat.reduceAdd, Nat.reduceLT, Nat.reduceLeDiff, Nat.reduceEqDiff, not_true, not_false_iff, z1_0, z1_1, Bool.and_self, Bool.true_and, Bool.and_true, nI_add, pk_mul, nI_clamp, decide_true, Nat.le_refl, bI_eq, bI_z1, vb_0, vb_1, am_u_at, am_u_ne, upd_at, upd_ne, k1, nI_leI, hni, hbt]
      refine ih (am_u x (a + 2) i _) ⟨?_, ?_, ?_⟩
      · intro c hc
        rw [am_u_ne (by omega)]
        exact i1 c hc
      · intro q hq
        rcases Nat.lt_or_eq_of_le (Nat.le_of_lt_succ hq) with h | h
        · exact PX_w (i2 q h) (fun k _ _ => (TP_u (by omega) TP_r : TP x _ a i) _ _ (by omega))
        · subst h
          refine ⟨fun hh => ?_, fun hh => ?_⟩
          · obtain ⟨e1, e2, e3, e4, e5⟩ := (i3 q (Nat.le_refl _) hi).1 hh
            rw [kn_1 (by omega), kn_o (j := 16 + q) (by omega), kn_o (j := 32 + q) (by omega), kn_o (j := 24 + q) (by omega), kn_o (j := q) (by omega)]
            refine ⟨?_, ?_, ?_, ?_, ?_⟩ <;> simp (disch := omega) only [am_u_at, am_u_ne, upd_at, upd_ne, e1, e3, e4, e5]
            rw [if_neg hc]; rfl
          · rw [am_u_ne (by omega)]; exact (i3 q (Nat.le_refl _) hi).2 hh
      · intro q h1 h2
        exact PX_w (i3 q (by omega) h2) (fun k _ _ => (TP_u (by omega) TP_r : TP x _ a i) _ _ (by omega))
    · rename_i hc
      have hc : s.testBit i = true := by simpa using hc
      refine go_at (blk := b_Stair_letKneelJust_27) rfl ?_
      simp (disch := omega) only [b_Stair_letKneelJust_27, be_1, be_51, List.getD_cons_zero, List.getD_cons_succ, List.set_cons_zero, List.set_cons_succ, List.length_cons, List.length_nil, pk_I, pk_A, pr_A, pi_I, st_s, st_n, if_true, if_false, eq_self, d_if, d_ju, d_re, d_ca, cat0, cat1, cat2, cat3, fr_z, fr_s, cc_I, cc_A, cc_N, Nat.reduceAdd, Nat.reduceLT, Nat.reduceLeDiff, Nat.reduceEqDiff, not_true, not_false_iff, z1_0, z1_1, Bool.and_self, Bool.true_and, Bool.and_true, nI_add, pk_mul, nI_clamp, decide_true, Nat.le_refl, bI_eq, bI_z1, vb_0, vb_1, am_u_at, am_u_ne, upd_at, upd_ne, k1, nI_leI, hni, hbt]
      refine go_at (blk := b_Stair_letKneelJust_32) rfl ?_
      simp (disch := omega) only [b_Stair_letKneelJust_32, be_45, be_10, be_51, ka_st2 ha, List.getD_cons_zero, List.getD_cons_succ, List.set_cons_zero, List.set_cons_succ, List.length_cons, List.length_nil, pk_I, pk_A, pr_A, pi_I, st_s, st_n, if_true, if_false, eq_self, d_if, d_ju, d_re, d_ca, cat0, cat1, cat2, cat3, fr_z, fr_s, cc_I, cc_A, cc_N, Nat.reduceAdd, Nat.reduceLT, Nat.reduceLeDiff, Nat.reduceEqDiff, not_true, not_false_iff, z1_0, z1_1, Bool.and_self, Bool.true_and, Bool.and_true, nI_add, pk_mul, nI_clamp, decide_true, Nat.le_refl, bI_eq, bI_z1, vb_0, vb_1, am_u_at, am_u_ne, upd_at, upd_ne, k1, nI_leI, hni, hbt]
      refine ih (am_u x (a + 2) i _) ⟨?_, ?_, ?_⟩
      · intro c hc
        rw [am_u_ne (by omega)]
        exact i1 c hc
      · intro q hq
        rcases Nat.lt_or_eq_of_le (Nat.le_of_lt_succ hq) with h | h
        · exact PX_w (i2 q h) (fun k _ _ => (TP_u (by omega) TP_r : TP x _ a i) _ _ (by omega))
        · subst h
          refine ⟨fun hh => ?_, fun hh => ?_⟩
          · obtain ⟨e1, e2, e3, e4, e5⟩ := (i3 q (Nat.le_refl _) hi).1 hh
            rw [kn_1 (by omega), kn_o (j := 16 + q) (by omega), kn_o (j := 32 + q) (by omega), kn_o (j := 24 + q) (by omega), kn_o (j := q) (by omega)]
            refine ⟨?_, ?_, ?_, ?_, ?_⟩ <;> simp (disch := omega) only [am_u_at, am_u_ne, upd_at, upd_ne, e1, e3, e4, e5]
            rw [if_pos hc]; rfl
          · rw [am_u_ne (by omega)]; exact (i3 q (Nat.le_refl _) hi).2 hh
      · intro q h1 h2
        exact PX_w (i3 q (by omega) h2) (fun k _ _ => (TP_u (by omega) TP_r : TP x _ a i) _ _ (by omega))
  · intro x ⟨i1, i2, i3⟩
    try dsimp only at *
    obtain ⟨k0, k1, k2, k3, k4, _⟩ := KX_c hk hlo i1
    refine go_at (blk := b_Stair_letKneelJust_2) rfl ?_
    simp (disch := omega) only [b_Stair_letKneelJust_2, be_4, be_6, be_34, be_33, be_49_3, kc_st ha, st_r0 ha, kc_25, List.getD_cons_zero, List.getD_cons_succ, List.set_cons_zero, List.set_cons_succ, List.length_cons, List.length_nil, pk_I, pk_A, pr_A, pi_I, st_s, st_n, if_true, if_false, eq_self, d_if, d_ju, d_re, d_ca, cat0, cat1, cat2, cat3, fr_z, fr_s, cc_I, cc_A, cc_N, Nat.reduceAdd, Nat.reduceLT, Nat.reduceLeDiff, Nat.reduceEqDiff, not_true, not_false_iff, z1_0, z1_1, Bool.and_self, Bool.true_and, Bool.and_true, nI_add, pk_mul, nI_clamp, decide_true, Nat.le_refl, bI_eq, bI_z1, vb_0, vb_1, am_u_at, am_u_ne, upd_at, upd_ne, k1, nI_leI]
    refine go_at (blk := b_Stair_letKneelJust_39) rfl ?_
    simp (disch := omega) only [b_Stair_letKneelJust_39, be_56, List.getD_cons_zero, List.getD_cons_succ, List.set_cons_zero, List.set_cons_succ, List.length_cons, List.length_nil, pk_I, pk_A, pr_A, pi_I, st_s, st_n, if_true, if_false, eq_self, d_if, d_ju, d_re, d_ca, cat0, cat1, cat2, cat3, fr_z, fr_s, cc_I, cc_A, cc_N, Nat.reduceAdd, Nat.reduceLT, Nat.reduceLeDiff, Nat.reduceEqDiff, not_true, not_false_iff, z1_0, z1_1, Bool.and_self, Bool.true_and, Bool.and_true, nI_add, pk_mul, nI_clamp, decide_true, Nat.le_refl, bI_eq, bI_z1, vb_0, vb_1, am_u_at, am_u_ne, upd_at, upd_ne, k1, nI_leI]
    refine hQ x (fun c hc => i1 c (by omega)) ⟨i2, ?_⟩
    rw [i1 a (by omega), kn_o (by omega), kn_o (by omega), kn_o (by omega)]
    exact hr.2
