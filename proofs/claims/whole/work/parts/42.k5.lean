/-! laid by wip/whole/k5.py: the class: its trial stair; searches over minutes -/
/-- what the class keeps of now, but for what is done and undone -/
def KI (B : Int) (v : Nat → Nat → Int32) (T : TXT) (f : Nat → Int32) : Prop := KX v T ∧ RX v 42 (tN T) (-1) 0 f ∧ GR B (tN T) f ∧ GT T ∧ (f 40).toInt ≤ 999 ∧ B ≤ 200000
/-- nothing has changed but what is written anew ahead of each use -/
def QF (v v' : Nat → Nat → Int32) : Prop := ∀ c, c ≠ 35 → c ≠ 36 → c ≠ 40 → c ≠ 41 → (c < 352 ∨ 357 < c) → (c < 362 ∨ 367 < c) → v' c = v c
theorem QF_r {v : Nat → Nat → Int32} : QF v v := fun _ _ _ _ _ _ _ => rfl
theorem QF_t {v v' v'' : Nat → Nat → Int32} (h : QF v v') (h' : QF v' v'') : QF v v'' := fun c a1 a2 a3 a4 a5 a6 => (h' c a1 a2 a3 a4 a5 a6).trans (h c a1 a2 a3 a4 a5 a6)
theorem QF_s {v v' : Nat → Nat → Int32} (h : FS v v' 352) : QF v v' := fun c a1 a2 a3 a4 a5 a6 => h c (by omega) a1 a2 a3 a4
theorem QF_c {v v' : Nat → Nat → Int32} (h : FC v v' 352) : QF v v' := QF_s (FC_s h)
theorem QF_s2 {v v' : Nat → Nat → Int32} (h : FS v v' 362) : QF v v' := fun c a1 a2 a3 a4 a5 a6 => h c (by omega) a1 a2 a3 a4
theorem QF_c2 {v v' : Nat → Nat → Int32} (h : FC v v' 362) : QF v v' := QF_s2 (FC_s h)
theorem QF_m {v v' : Nat → Nat → Int32} (h : ∀ c, c ≠ 35 → c ≠ 36 → v' c = v c) : QF v v' := fun c a1 a2 _ _ _ _ => h c a1 a2
theorem QF_h {v v' : Nat → Nat → Int32} (h : ∀ c, c ≠ 40 → c ≠ 41 → v' c = v c) : QF v v' := fun c _ _ a3 a4 _ _ => h c a3 a4
theorem KI_q {B : Int} {v v' : Nat → Nat → Int32} {T : TXT} {f : Nat → Int32} (h : KI B v T f) (e : QF v v') : KI B v' T f := by
  obtain ⟨h1, h2, h3⟩ := h
  exact ⟨KX_w h1 (fun c _ _ c3 c4 => e c c3 c4 (by omega) (by omega) (by omega) (by omega)), RX_w h2 (fun c c1 c2 => e c (by omega) (by omega) (by omega) (by omega) (by omega) (by omega)), h3⟩
theorem st_42 : ST 42 := Or.inl rfl
theorem st_352 : ST 352 := Or.inr (Or.inl rfl)
theorem st_362 : ST 362 := Or.inr (Or.inr (Or.inl rfl))
theorem nI_e {a b : Nat} (h : a = b) : nI a = nI b := congrArg nI h
/-- the first of m minutes from k on of which something holds -/
def srS (P : Nat → Bool) : Nat → Nat → Int32
  | 0, _ => -2
  | m + 1, k => if P k = true then nI k else srS P m (k + 1)
theorem sr_t {P : Nat → Bool} {N i : Nat} (h : i < N) (hp : P i = true) : srS P (N - i) i = nI i := by
  rw [show N - i = (N - i - 1) + 1 by omega]
  unfold srS
  rw [if_pos hp]
theorem sr_f {P : Nat → Bool} {N i : Nat} (h : i < N) (hp : P i = false) : srS P (N - i) i = srS P (N - (i + 1)) (i + 1) := by
  rw [show N - i = (N - (i + 1)) + 1 by omega]
  show (if P i = true then nI i else srS P (N - (i + 1)) (i + 1)) = _
  rw [if_neg (by rw [hp]; decide)]
theorem sr_e {P : Nat → Bool} {N : Nat} : srS P (N - N) N = -2 := by
  rw [Nat.sub_self]
  rfl
theorem kf_copy {d : Nat} {v : Nat → Nat → Int32} {w : Nat → Nat → Int64} {Q : Option Value → am_H → Prop} {T : TXT} {f : Nat → Int32} {B : Int} (hK : KI B v T f) (hQ : ∀ v', QF v v' → RX v' 352 (tN T) (-1) 0 f → Q none (428, 26053, KD, RF, v', w)) : am_Ca (d + 1) M_Stair_copyFrom [.ref 352, .ref 42] (428, 26053, KD, RF, v, w) Q := by
  exact k_copyFrom st_352 st_42 (by omega) hK.1 hK.2.1 hK.2.2.1 (fun v' h1 h2 => hQ v' (QF_c h1) h2)
theorem kf_pass {d : Nat} {v : Nat → Nat → Int32} {w : Nat → Nat → Int64} {Q : Option Value → am_H → Prop} {T : TXT} {f : Nat → Int32} {B : Int} (hK : KI B v T f) {no md : Int32} {g : Nat → Int32} {C : Int} (hr : RX v 352 (tN T) no md g) (hg : GR C (tN T) g) {k : Nat} (hk : k ≤ 1000) (hC : C ≤ 300000) (hQ : ∀ v', QF v v' → RX v' 352 (tN T) no md (itT T no md k g) → GR (C + k) (tN T) (itT T no md k g) → Q none (428, 26053, KD, RF, v', w)) : am_Ca (d + 4) M_Stair_pass [.ref 352, .int (nI k)] (428, 26053, KD, RF, v, w) Q := by
  exact k_pass st_352 hK.1 hr hg hk hK.2.2.2.1 (by omega) (fun v' h1 h2 => hQ v' (QF_s h1) h2 (GR_it hK.2.2.2.1 hg k (by omega)))
theorem kf_moves {d : Nat} {v : Nat → Nat → Int32} {w : Nat → Nat → Int64} {Q : Option Value → am_H → Prop} {T : TXT} {f : Nat → Int32} {B : Int} (hK : KI B v T f) {no md : Int32} {g : Nat → Int32} {C : Int} (hr : RX v 352 (tN T) no md g) (hg : GR C (tN T) g) (hQ : ∀ v', QF v v' → RX v' 352 (tN T) no md g → Q (some (.int (mvT T no md g))) (428, 26053, KD, RF, v', w)) : am_Ca (d + 3) M_Stair_movesNow [.ref 352] (428, 26053, KD, RF, v, w) Q := by
  exact k_movesNow st_352 hK.1 hr hg (fun v' h1 => hQ v' (QF_m h1) (RX_w hr (fun c c1 c2 => h1 c (by omega) (by omega))))
theorem kf_isOn {d : Nat} {v : Nat → Nat → Int32} {w : Nat → Nat → Int64} {Q : Option Value → am_H → Prop} {T : TXT} {f : Nat → Int32} {B : Int} (hK : KI B v T f) {no md : Int32} {g : Nat → Int32} {C : Int} (hr : RX v 352 (tN T) no md g) (hg : GR C (tN T) g) {p : Nat} (hp : p < tN T) (hQ : Q (some (.int (bI (onB g no p)))) (428, 26053, KD, RF, v, w)) : am_Ca (d + 1) M_Stair_isOn [.ref 352, .int (nI p)] (428, 26053, KD, RF, v, w) Q := by
  refine k_isOn st_352 (by have := hK.1.1; omega) ?_
  rw [RX_on hr hg hp]
  exact hQ
theorem kf_nowOn {d : Nat} {v : Nat → Nat → Int32} {w : Nat → Nat → Int64} {Q : Option Value → am_H → Prop} {T : TXT} {f : Nat → Int32} {B : Int} (hK : KI B v T f) {p : Nat} (hp : p < tN T) (hQ : Q (some (.int (bI (onB f (-1) p)))) (428, 26053, KD, RF, v, w)) : am_Ca (d + 1) M_Stair_isOn [.ref 42, .int (nI p)] (428, 26053, KD, RF, v, w) Q := by
  refine k_isOn st_42 (by have := hK.1.1; omega) ?_
  rw [RX_on hK.2.1 hK.2.2.1 hp]
  exact hQ
theorem RX_st {v : Nat → Nat → Int32} {a n p : Nat} {no md : Int32} {g : Nat → Int32} (h : RX v a n no md g) (hp : p < n) (hn : nI p ≠ no) : v (a + 1) p = g p := ((h.1 p hp).1 hn).1
theorem GR_s {B : Int} {i n : Nat} {f : Nat → Int32} (h : GR (B + (i : Int) + ((1 : Nat) : Int)) n f) : GR (B + ((i + 1 : Nat) : Int)) n f := by
  rw [show B + ((i + 1 : Nat) : Int) = B + (i : Int) + ((1 : Nat) : Int) by omega]
  exact h
/-- has one arrived within n minutes -/
def arS (T : TXT) (no md : Int32) (f : Nat → Int32) (p n : Nat) : Int32 := srS (fun k => !onB (itT T no md k f) no p) (n + 1) 0
theorem GR_oil {B : Int} {n : Nat} {f : Nat → Int32} {x : Int32} (g : GR B n f) (hn : n ≤ 8) (hx : 0 ≤ x.toInt) : GR B n (upd f 40 x) := by
  obtain ⟨g0, g1, g2⟩ := g
  refine ⟨?_, by rw [upd_at]; exact hx, by rw [upd_ne (by omega)]; exact g2⟩
  intro p hp
  rw [upd_ne (by omega), upd_ne (by omega), upd_ne (by omega), upd_ne (by omega), upd_ne (by omega), upd_ne (by omega)]
  exact g0 p hp
set_option maxHeartbeats 1000000 in
theorem k_arrival {d : Nat} {v : Nat → Nat → Int32} {w : Nat → Nat → Int64} {Q : Option Value → am_H → Prop} {T : TXT} {f : Nat → Int32} {B : Int} (hK : KI B v T f) {p n : Nat} {ox dx : Int32} (hp : p < tN T) (hn : n ≤ 300) (ho : 0 ≤ (f 40 + ox).toInt) (hQ : ∀ v', QF v v' → Q (some (.int (arS T (-1) dx (upd f 40 (f 40 + ox)) p n))) (428, 26053, KD, RF, v', w)) : am_Ca (d + 5) M_Forecast_arrivalBehind [.ref 350, .int (nI p), .int ox, .int dx, .int (nI n)] (428, 26053, KD, RF, v, w) Q := by
  refine ca_in (k := k_Forecast_arrivalBehind) (nL := 6) rfl (Nat.le_of_ble_eq_true rfl) ?_
  show am_Go am_X0 _ k_Forecast_arrivalBehind 0 ([.ref 350, .int (nI p), .int ox, .int dx, .int (nI n), .null], [], _) _
  refine go_at (blk := b_Forecast_arrivalBehind_0) rfl ?_
  simp (disch := omega) only [b_Forecast_arrivalBehind_0, be_6, be_34, be_57_1, kc_350, rf_350_2, rf_350_1, kc_352, List.getD_cons_zero, List.getD_cons_succ, List.set_cons_zero, List.set_cons_succ, List.length_cons, List.length_nil, pk_I, pk_A, pr_A, pi_I, st_s, st_n, if_true, if_false, eq_self, d_if, d_ju, d_re, d_ca, cat0, cat1, cat2, cat3, fr_z, fr_s, cc_I, cc_A, cc_N, Nat.reduceAdd, Nat.reduceLT, Nat.reduceLeDiff, Nat.reduceEqDiff, not_true, not_false_iff, z1_0, z1_1, Bool.and_self, Bool.true_and, Bool.and_true, nI_add, pk_mul, nI_clamp, decide_true, Nat.le_refl, bI_eq, bI_z1, vb_0, vb_1, am_u_at, am_u_ne, upd_at, upd_ne]
  refine kf_copy hK ?_
  intro v1 q1 r1
  have a6 : v1 352 6 = f 40 := r1.2.1
  refine go_at (blk := b_Forecast_arrivalBehind_11) rfl ?_
  simp (disch := omega) only [b_Forecast_arrivalBehind_11, be_6, be_34, be_30I, be_30A, be_33, be_4, be_12, be_35, be_1, be_7, be_0, kc_350, rf_350_2, kc_352, List.getD_cons_zero, List.getD_cons_succ, List.set_cons_zero, List.set_cons_succ, List.length_cons, List.length_nil, pk_I, pk_A, pr_A, pi_I, st_s, st_n, if_true, if_false, eq_self, d_if, d_ju, d_re, d_ca, cat0, cat1, cat2, cat3, fr_z, fr_s, cc_I, cc_A, cc_N, Nat.reduceAdd, Nat.reduceLT, Nat.reduceLeDiff, Nat.reduceEqDiff, not_true, not_false_iff, z1_0, z1_1, Bool.and_self, Bool.true_and, Bool.and_true, nI_add, pk_mul, nI_clamp, decide_true, Nat.le_refl, bI_eq, bI_z1, vb_0, vb_1, am_u_at, am_u_ne, upd_at, upd_ne, a6]
  have hK1 : KI B (am_u (am_u v1 352 6 (f 40 + ox)) 352 9 dx) T f := KI_q hK (QF_t q1 (fun c _ _ _ _ c5 _ => by rw [am_u_ne (by omega), am_u_ne (by omega)]))
  have r2 : RX (am_u (am_u v1 352 6 (f 40 + ox)) 352 9 dx) 352 (tN T) (-1) dx (upd f 40 (f 40 + ox)) := by
    refine ⟨fun p hp => ?_, ?_, ?_, ?_, ?_⟩
    · have := PX_w (v' := am_u (am_u v1 352 6 (f 40 + ox)) 352 9 dx) (r1.1 p hp) (fun k _ _ => by rw [am_u_ne (by omega), am_u_ne (by omega)])
      unfold PX at *
      have h8 := hK.1.1
      rw [upd_ne (by omega), upd_ne (by omega), upd_ne (by omega), upd_ne (by omega), upd_ne (by omega)]
      exact this
    · simp (disch := omega) only [am_u_at, upd_at, upd_ne]
    · simp (disch := omega) only [am_u_at, upd_at, upd_ne]; exact r1.2.2.1
    · simp (disch := omega) only [am_u_at, upd_at, upd_ne]; exact r1.2.2.2.1
    · simp (disch := omega) only [am_u_at, upd_at, upd_ne]
  refine go_loopA (α := (Nat → Nat → Int32)) (fun i x => ([.ref 350, .int (nI p), .int ox, .int dx, .int (nI n), .int (nI i)], [], (428, 26053, KD, RF, x, w))) (fun i x => QF v x ∧ RX x 352 (tN T) (-1) dx (itT T (-1) dx i (upd f 40 (f 40 + ox))) ∧ GR (B + i) (tN T) (itT T (-1) dx i (upd f 40 (f 40 + ox))) ∧ arS T (-1) dx (upd f 40 (f 40 + ox)) p n = srS (fun k => !onB (itT T (-1) dx k (upd f 40 (f 40 + ox))) (-1) p) (n + 1 - i) i) (n + 1) ?_ ?_ _ ⟨QF_t q1 (fun c _ _ _ _ c5 _ => by rw [am_u_ne (by omega), am_u_ne (by omega)]), r2, by rw [show B + ((0 : Nat) : Int) = B by omega]; exact GR_oil hK.2.2.1 hK.1.1 ho, rfl⟩
  · intro i x hi ⟨i1, i2, i3, i4⟩ ih
    try dsimp only at *
    have hni : ¬ n + 1 ≤ i := by omega
    have hKx : KI B x T f := KI_q hK i1
    have hBB := hK.2.2.2.2.2
    have hni : ¬ n < i := by omega
    refine go_at (blk := b_Forecast_arrivalBehind_35) rfl ?_
    simp (disch := omega) only [b_Forecast_arrivalBehind_35, be_4, be_49_4, List.getD_cons_zero, List.getD_cons_succ, List.set_cons_zero, List.set_cons_succ, List.length_cons, List.length_nil, pk_I, pk_A, pr_A, pi_I, st_s, st_n, if_true, if_false, eq_self, d_if, d_ju, d_re, d_ca, cat0, cat1, cat2, cat3, fr_z, fr_s, cc_I, cc_A, cc_N, Nat.reduceAdd, Nat.reduceLT, Nat.reduceLeDiff, Nat.reduceEqDiff, not_true, not_false_iff, z1_0, z1_1, Bool.and_self, Bool.true_and, Bool.and_true, nI_add, pk_mul, nI_clamp, decide_true, Nat.le_refl, bI_eq, bI_z1, vb_0, vb_1, am_u_at, am_u_ne, upd_at, upd_ne, nI_ltI, nI_leI, hni]
    refine go_at (blk := b_Forecast_arrivalBehind_42) rfl ?_
    simp (disch := omega) only [b_Forecast_arrivalBehind_42, be_6, be_34, be_4, be_57_1, kc_350, rf_350_2, kc_352, List.getD_cons_zero, List.getD_cons_succ, List.set_cons_zero, List.set_cons_succ, List.length_cons, List.length_nil, pk_I, pk_A, pr_A, pi_I, st_s, st_n, if_true, if_false, eq_self, d_if, d_ju, d_re, d_ca, cat0, cat1, cat2, cat3, fr_z, fr_s, cc_I, cc_A, cc_N, Nat.reduceAdd, Nat.reduceLT, Nat.reduceLeDiff, Nat.reduceEqDiff, not_true, not_false_iff, z1_0, z1_1, Bool.and_self, Bool.true_and, Bool.and_true, nI_add, pk_mul, nI_clamp, decide_true, Nat.le_refl, bI_eq, bI_z1, vb_0, vb_1, am_u_at, am_u_ne, upd_at, upd_ne, nI_ltI, nI_leI, hni]
    refine kf_isOn hKx i2 i3 hp ?_
    refine go_at (blk := b_Forecast_arrivalBehind_50) rfl ?_
    simp (disch := omega) only [b_Forecast_arrivalBehind_50, be_50_1, List.getD_cons_zero, List.getD_cons_succ, List.set_cons_zero, List.set_cons_succ, List.length_cons, List.length_nil, pk_I, pk_A, pr_A, pi_I, st_s, st_n, if_true, if_false, eq_self, d_if, d_ju, d_re, d_ca, cat0, cat1, cat2, cat3, fr_z, fr_s, cc_I, cc_A, cc_N, Nat.reduceAdd, Nat.reduceLT, Nat.reduceLeDiff, Nat.reduceEqDiff, not_true, not_false_iff, z1_0, z1_1, Bool.and_self, Bool.true_and, Bool.and_true, nI_add, pk_mul, nI_clamp, decide_true, Nat.le_refl, bI_eq, bI_z1, vb_0, vb_1, am_u_at, am_u_ne, upd_at, upd_ne, nI_ltI, nI_leI, hni]
    split
    · rename_i hb
      refine go_at (blk := b_Forecast_arrivalBehind_56) rfl ?_
      simp (disch := omega) only [b_Forecast_arrivalBehind_56, be_6, be_34, be_1, be_57_1, kc_350, rf_350_2, kc_352, List.getD_cons_zero, List.getD_cons_succ, List.set_cons_zero, List.set_cons_succ, List.length_cons, List.length_nil, pk_I, pk_A, pr_A, pi_I, st_s, st_n, if_true, if_false, eq_self, d_if, d_ju, d_re, d_ca, cat0, cat1, cat2, cat3, fr_z, fr_s, cc_I, cc_A, cc_N, Nat.reduceAdd, Nat.reduceLT, Nat.reduceLeDiff, Nat.reduceEqDiff, not_true, not_false_iff, z1_0, z1_1, Bool.and_self, Bool.true_and, Bool.and_true, nI_add, pk_mul, nI_clamp, decide_true, Nat.le_refl, bI_eq, bI_z1, vb_0, vb_1, am_u_at, am_u_ne, upd_at, upd_ne, nI_ltI, nI_leI, hni]
      refine kf_pass (k := 1) hKx i2 i3 (by omega) (by omega) ?_
      intro v2 q2 r2 g2
      refine go_at (blk := b_Forecast_arrivalBehind_64) rfl ?_
      simp (disch := omega) only [b_Forecast_arrivalBehind_64, be_10, be_51, List.getD_cons_zero, List.getD_cons_succ, List.set_cons_zero, List.set_cons_succ, List.length_cons, List.length_nil, pk_I, pk_A, pr_A, pi_I, st_s, st_n, if_true, if_false, eq_self, d_if, d_ju, d_re, d_ca, cat0, cat1, cat2, cat3, fr_z, fr_s, cc_I, cc_A, cc_N, Nat.reduceAdd, Nat.reduceLT, Nat.reduceLeDiff, Nat.reduceEqDiff, not_true, not_false_iff, z1_0, z1_1, Bool.and_self, Bool.true_and, Bool.and_true, nI_add, pk_mul, nI_clamp, decide_true, Nat.le_refl, bI_eq, bI_z1, vb_0, vb_1, am_u_at, am_u_ne, upd_at, upd_ne, nI_ltI, nI_leI, hni]
      refine ih v2 ⟨QF_t i1 q2, r2, GR_s g2, ?_⟩
      rw [i4, sr_f (by omega) (by simpa using hb)]
    · rename_i hb
      refine go_at (blk := b_Forecast_arrivalBehind_53) rfl ?_
      simp (disch := omega) only [b_Forecast_arrivalBehind_53, be_4, be_54, List.getD_cons_zero, List.getD_cons_succ, List.set_cons_zero, List.set_cons_succ, List.length_cons, List.length_nil, pk_I, pk_A, pr_A, pi_I, st_s, st_n, if_true, if_false, eq_self, d_if, d_ju, d_re, d_ca, cat0, cat1, cat2, cat3, fr_z, fr_s, cc_I, cc_A, cc_N, Nat.reduceAdd, Nat.reduceLT, Nat.reduceLeDiff, Nat.reduceEqDiff, not_true, not_false_iff, z1_0, z1_1, Bool.and_self, Bool.true_and, Bool.and_true, nI_add, pk_mul, nI_clamp, decide_true, Nat.le_refl, bI_eq, bI_z1, vb_0, vb_1, am_u_at, am_u_ne, upd_at, upd_ne, nI_ltI, nI_leI, hni]
      have hb : onB (itT T (-1) dx i (upd f 40 (f 40 + ox))) (-1) p = false := by simpa using hb
      rw [i4, sr_t (by omega) (by simpa using hb)] at hQ
      exact hQ x i1
  · intro x ⟨i1, i2, i3, i4⟩
    try dsimp only at *
    refine go_at (blk := b_Forecast_arrivalBehind_35) rfl ?_
    simp (disch := omega) only [b_Forecast_arrivalBehind_35, be_4, be_49_4, List.getD_cons_zero, List.getD_cons_succ, List.set_cons_zero, List.set_cons_succ, List.length_cons, List.length_nil, pk_I, pk_A, pr_A, pi_I, st_s, st_n, if_true, if_false, eq_self, d_if, d_ju, d_re, d_ca, cat0, cat1, cat2, cat3, fr_z, fr_s, cc_I, cc_A, cc_N, Nat.reduceAdd, Nat.reduceLT, Nat.reduceLeDiff, Nat.reduceEqDiff, not_true, not_false_iff, z1_0, z1_1, Bool.and_self, Bool.true_and, Bool.and_true, nI_add, pk_mul, nI_clamp, decide_true, Nat.le_refl, bI_eq, bI_z1, vb_0, vb_1, am_u_at, am_u_ne, upd_at, upd_ne, nI_ltI, nI_leI, Nat.lt_add_one]
    refine go_at (blk := b_Forecast_arrivalBehind_70) rfl ?_
    simp (disch := omega) only [b_Forecast_arrivalBehind_70, be_2, be_54, List.getD_cons_zero, List.getD_cons_succ, List.set_cons_zero, List.set_cons_succ, List.length_cons, List.length_nil, pk_I, pk_A, pr_A, pi_I, st_s, st_n, if_true, if_false, eq_self, d_if, d_ju, d_re, d_ca, cat0, cat1, cat2, cat3, fr_z, fr_s, cc_I, cc_A, cc_N, Nat.reduceAdd, Nat.reduceLT, Nat.reduceLeDiff, Nat.reduceEqDiff, not_true, not_false_iff, z1_0, z1_1, Bool.and_self, Bool.true_and, Bool.and_true, nI_add, pk_mul, nI_clamp, decide_true, Nat.le_refl, bI_eq, bI_z1, vb_0, vb_1, am_u_at, am_u_ne, upd_at, upd_ne, nI_ltI, nI_leI, Nat.lt_add_one]
    rw [i4, sr_e] at hQ
    exact hQ x i1
