/-! laid by wip/whole/m15.py: the reference: rests -/
/-- as MF; and the rows for sets at rest -/
def MW (v v' : Nat → Nat → Int32) : Prop := (∀ c, c ≠ 416 → c ≠ 417 → c ≠ 419 → c ≠ 388 → c ≠ 421 → c ≠ 422 → v' c = v c) ∧ (∀ k, k ≠ 46 → k ≠ 49 → k ≠ 50 → v' 388 k = v 388 k) ∧ ∀ j, 50 ≤ j → v' 419 j = v 419 j
theorem MW_r {v : Nat → Nat → Int32} : MW v v := ⟨fun _ _ _ _ _ _ _ => rfl, fun _ _ _ _ => rfl, fun _ _ => rfl⟩
theorem MW_t {v v' v'' : Nat → Nat → Int32} (h : MW v v') (h' : MW v' v'') : MW v v'' := ⟨fun c a1 a2 a3 a4 a5 a6 => (h'.1 c a1 a2 a3 a4 a5 a6).trans (h.1 c a1 a2 a3 a4 a5 a6), fun k a1 a2 a3 => (h'.2.1 k a1 a2 a3).trans (h.2.1 k a1 a2 a3), fun j hj => (h'.2.2 j hj).trans (h.2.2 j hj)⟩
theorem MW_f {v v' : Nat → Nat → Int32} (h : MF v v') : MW v v' := ⟨fun c a1 a2 a3 a4 _ _ => h.1 c a1 a2 a3 a4, h.2.1, h.2.2⟩
theorem MW_a {v : Nat → Nat → Int32} {c k : Nat} {x : Int32} (h : c = 421 ∨ c = 422) : MW v (am_u v c k x) := ⟨fun b _ _ _ _ a5 a6 => am_u_ne (by omega), fun b _ _ _ => by rw [am_u_ne (by omega)], fun j _ => by rw [am_u_ne (by omega)]⟩
theorem MI_w {B : Int} {v v' : Nat → Nat → Int32} {T : TXT} {lv : Nat} {f : Nat → Int32} (h : MI B v T lv f) (e : MW v v') : MI B v' T lv f := by
  obtain ⟨h1, h2, h3, h4⟩ := h
  exact ⟨MX_w h1 (fun c _ _ => e.1 c (by omega) (by omega) (by omega) (by omega) (by omega) (by omega)) (e.2.1 18 (by omega) (by omega) (by omega)), (e.1 418 (by omega) (by omega) (by omega) (by omega) (by omega) (by omega)).trans h2, fun j hj => (e.2.2 j hj).trans (h3 j hj), h4⟩
/-- what has been filled in of the sets -/
def RS (T : TXT) (f : Nat → Int32) (n : Nat) (v : Nat → Nat → Int32) (i : Nat) : Prop := ∀ s, s < i → v 422 s = bI (sbB s (mayM T f)) ∧ (sbB s (mayM T f) = true → ∀ p, p < tN T → v 421 (8 * s + p) = gnS T f n s p)
theorem RS_w {T : TXT} {f : Nat → Int32} {n i : Nat} {v v' : Nat → Nat → Int32} (h : RS T f n v i) (e1 : v' 421 = v 421) (e2 : v' 422 = v 422) : RS T f n v' i := by
  unfold RS at *
  rw [e1, e2]
  exact h
theorem sb_one {T : TXT} {f : Nat → Int32} {p : Nat} (h8 : tN T ≤ 8) (hp : p < tN T) : sbB (2 ^ p) (mayM T f) = (mayM T f).testBit p := by
  have hs : 2 ^ p < 256 := Nat.lt_of_lt_of_le (Nat.pow_lt_pow_right (a := 2) (by omega) hp) (p2_8 h8)
  have e : (mayM T f).testBit p = (decide (p < tN T) && mayB f (-1) (tS T) p) := wb_bit _
  rw [e, decide_eq_true hp, Bool.true_and, Bool.eq_iff_iff, sb_bit hs h8]
  constructor
  · intro h
    exact (h p (by omega) (by rw [Nat.testBit_two_pow]; simp)).2
  · intro h q hq hb
    rw [Nat.testBit_two_pow] at hb
    have : p = q := by simpa using hb
    subst this
    exact ⟨hp, h⟩
theorem rt_up {T : TXT} {f : Nat → Int32} {n c : Nat} {ii : Int32} (h8 : tN T ≤ 8) : ∀ m s, 2 ^ tN T ≤ s → s + m = 256 → rtS T f n ii m s c = if ii = -1 then nI c else -1 := by
  intro m
  induction m with
  | zero => intro s _ _; rfl
  | succ m ih =>
    intro s h1 h2
    have hr : rsB T f n s = false := by
      unfold rsB
      rw [sb_up (by omega) h8 h1]
      rfl
    exact (if_neg (by rw [hr]; decide)).trans (ih (s + 1) (by omega) (by omega))
set_option maxHeartbeats 1000000 in
theorem r_fills {d : Nat} {v : Nat → Nat → Int32} {w : Nat → Nat → Int64} {Q : Option Value → am_H → Prop} {T : TXT} {lv : Nat} {f : Nat → Int32} {B : Int} (hM : MI B v T lv f) {n N : Nat} (hn : n ≤ 300) (h8' : N = 2 ^ tN T) (hN2 : N ≤ 256) (hbp : nI 1 <<< (nI (tN T) &&& 31) = nI N) (hQ : ∀ v', MW v v' → RS T f n v' N → Q none (428, 26053, KD, RF, v', w)) : am_Ca (d + 7) M_Model_fillsRests [.ref 388, .int (nI n)] (428, 26053, KD, RF, v, w) Q := by
  have h8 := hM.2.2.2.2.1.1
  refine ca_in (k := k_Model_fillsRests) (nL := 4) rfl (Nat.le_of_ble_eq_true rfl) ?_
  show am_Go am_X0 _ k_Model_fillsRests 0 ([.ref 388, .int (nI n), .null, .null], [], _) _
  refine go_at (blk := b_Model_fillsRests_0) rfl ?_
  simp (disch := omega) only [b_Model_fillsRests_0, be_1, be_7, be_0, List.getD_cons_zero, List.getD_cons_succ, List.set_cons_zero, List.set_cons_succ, List.length_cons, List.length_nil, pk_I, pk_A, pr_A, pi_I, st_s, st_n, if_true, if_false, eq_self, d_if, d_ju, d_re, d_ca, cat0, cat1, cat2, cat3, fr_z, fr_s, cc_I, cc_A, cc_N, Nat.reduceAdd, Nat.reduceLT, Nat.reduceLeDiff, Nat.reduceEqDiff, not_true, not_false_iff, z1_0, z1_1, Bool.and_self, Bool.true_and, Bool.and_true, nI_add, pk_mul, nI_clamp, decide_true, Nat.le_refl, bI_eq, bI_z1]
  refine go_loopA (α := (Nat → Nat → Int32) × Value) (fun i x => ([.ref 388, .int (nI n), .int (nI i), x.2], [], (428, 26053, KD, RF, x.1, w))) (fun i x => MW v x.1 ∧ RS T f n x.1 i ∧ am_cc x.2 = true) (N) ?_ ?_ (v, .null) ⟨MW_r, fun s hs => absurd hs (by omega), rfl⟩
  · intro i x hi ⟨i1, i2, i3⟩ ih
    try dsimp only at *
    have hni : ¬ N ≤ i := by omega
    have hMx : MI B x.1 T lv f := MI_w hM i1
    obtain ⟨k18, hlv, k398, _⟩ := hMx.1.1
    have k418 : x.1 418 = f := hMx.2.1
    refine go_at (blk := b_Model_fillsRests_2) rfl ?_
    simp (disch := omega) only [b_Model_fillsRests_2, be_4, be_1, be_6, be_34, be_33, be_38, be_21, be_49_3, kc_388, rf_388_23, ka_398, List.getD_cons_zero, List.getD_cons_succ, List.set_cons_zero, List.set_cons_succ, List.length_cons, List.length_nil, pk_I, pk_A, pr_A, pi_I, st_s, st_n, if_true, if_false, eq_self, d_if, d_ju, d_re, d_ca, cat0, cat1, cat2, cat3, fr_z, fr_s, cc_I, cc_A, cc_N, Nat.reduceAdd, Nat.reduceLT, Nat.reduceLeDiff, Nat.reduceEqDiff, not_true, not_false_iff, z1_0, z1_1, Bool.and_self, Bool.true_and, Bool.and_true, nI_add, pk_mul, nI_clamp, decide_true, Nat.le_refl, bI_eq, bI_z1, nI_ltI, nI_leI, k18, k398, hbp, i3, hni]
    refine go_at (blk := b_Model_fillsRests_17) rfl ?_
    simp (disch := omega) only [b_Model_fillsRests_17, be_6, be_34, be_4, be_57_1, kc_388, rf_388_54, List.getD_cons_zero, List.getD_cons_succ, List.set_cons_zero, List.set_cons_succ, List.length_cons, List.length_nil, pk_I, pk_A, pr_A, pi_I, st_s, st_n, if_true, if_false, eq_self, d_if, d_ju, d_re, d_ca, cat0, cat1, cat2, cat3, fr_z, fr_s, cc_I, cc_A, cc_N, Nat.reduceAdd, Nat.reduceLT, Nat.reduceLeDiff, Nat.reduceEqDiff, not_true, not_false_iff, z1_0, z1_1, Bool.and_self, Bool.true_and, Bool.and_true, nI_add, pk_mul, nI_clamp, decide_true, Nat.le_refl, bI_eq, bI_z1, nI_ltI, nI_leI, k18, k398, hbp, i3, hni]
    refine r_kneelsBy hMx (by omega) ?_
    intro v2 q2 r2
    have f2 := MW_t i1 (MW_f q2)
    have g1 : v2 421 = x.1 421 := q2.1 421 (by omega) (by omega) (by omega) (by omega)
    have g2 : v2 422 = x.1 422 := q2.1 422 (by omega) (by omega) (by omega) (by omega)
    refine go_at (blk := b_Model_fillsRests_27) rfl ?_
    simp (disch := omega) only [b_Model_fillsRests_27, be_45, be_6, be_34, be_4, be_40, be_50_1, ka_422, kc_388, rf_388_54, List.getD_cons_zero, List.getD_cons_succ, List.set_cons_zero, List.set_cons_succ, List.length_cons, List.length_nil, pk_I, pk_A, pr_A, pi_I, st_s, st_n, if_true, if_false, eq_self, d_if, d_ju, d_re, d_ca, cat0, cat1, cat2, cat3, fr_z, fr_s, cc_I, cc_A, cc_N, Nat.reduceAdd, Nat.reduceLT, Nat.reduceLeDiff, Nat.reduceEqDiff, not_true, not_false_iff, z1_0, z1_1, Bool.and_self, Bool.true_and, Bool.and_true, nI_add, pk_mul, nI_clamp, decide_true, Nat.le_refl, bI_eq, bI_z1, nI_ltI, nI_leI, k18, k398, hbp, i3, hni, vb_b, am_u_at, upd_at, am_u_ne]
    split
    · rename_i hb
      have hs1 : sbB i (mayM T f) = true := by simpa using hb
      rw [hs1]
      have f3 : MW v (am_u v2 422 i (bI true)) := MW_t f2 (MW_a (Or.inr rfl))
      have r3 : MR (am_u v2 422 i (bI true)) (knS i f) (-1) 0 := ⟨by rw [am_u_ne (by omega)]; exact (r2 hs1).1, by rw [am_u_ne (by omega)]; exact (r2 hs1).2.1, by rw [am_u_ne (by omega)]; exact (r2 hs1).2.2⟩
      refine go_at (blk := b_Model_fillsRests_40) rfl ?_
      simp (disch := omega) only [b_Model_fillsRests_40, be_6, be_4, be_57_1, kc_388, List.getD_cons_zero, List.getD_cons_succ, List.set_cons_zero, List.set_cons_succ, List.length_cons, List.length_nil, pk_I, pk_A, pr_A, pi_I, st_s, st_n, if_true, if_false, eq_self, d_if, d_ju, d_re, d_ca, cat0, cat1, cat2, cat3, fr_z, fr_s, cc_I, cc_A, cc_N, Nat.reduceAdd, Nat.reduceLT, Nat.reduceLeDiff, Nat.reduceEqDiff, not_true, not_false_iff, z1_0, z1_1, Bool.and_self, Bool.true_and, Bool.and_true, nI_add, pk_mul, nI_clamp, decide_true, Nat.le_refl, bI_eq, bI_z1, nI_ltI, nI_leI, k18, k398, hbp, i3, hni, vb_b, am_u_at, upd_at, am_u_ne]
      refine r_goes (k := n) (by omega) (MI_w hM f3).1 r3 ?_
      intro v4 q4 r4
      have f4 := MW_t f3 (MW_f q4)
      have e422i : v4 422 i = bI true := by rw [q4.1 422 (by omega) (by omega) (by omega) (by omega), am_u_at, upd_at]
      have e421 : v4 421 = x.1 421 := by rw [q4.1 421 (by omega) (by omega) (by omega) (by omega), am_u_ne (by omega), g1]
      have i2' : RS T f n v4 i := by
        intro s hs
        obtain ⟨a1, a2⟩ := i2 s hs
        refine ⟨by rw [q4.1 422 (by omega) (by omega) (by omega) (by omega), am_u_at, upd_ne (by omega), g2]; exact a1, fun hb p hp => by rw [e421]; exact a2 hb p hp⟩
      refine go_at (blk := b_Model_fillsRests_45) rfl ?_
      simp (disch := omega) only [b_Model_fillsRests_45, be_1, be_7, be_0, List.getD_cons_zero, List.getD_cons_succ, List.set_cons_zero, List.set_cons_succ, List.length_cons, List.length_nil, pk_I, pk_A, pr_A, pi_I, st_s, st_n, if_true, if_false, eq_self, d_if, d_ju, d_re, d_ca, cat0, cat1, cat2, cat3, fr_z, fr_s, cc_I, cc_A, cc_N, Nat.reduceAdd, Nat.reduceLT, Nat.reduceLeDiff, Nat.reduceEqDiff, not_true, not_false_iff, z1_0, z1_1, Bool.and_self, Bool.true_and, Bool.and_true, nI_add, pk_mul, nI_clamp, decide_true, Nat.le_refl, bI_eq, bI_z1, nI_ltI, nI_leI, k18, k398, hbp, i3, hni, vb_b, am_u_at, upd_at, am_u_ne]
      refine go_loopA (α := (Nat → Nat → Int32)) (fun j y => ([.ref 388, .int (nI n), .int (nI i), .int (nI j)], [], (428, 26053, KD, RF, y, w))) (fun j y => MW v y ∧ MR y (itT T (-1) 0 n (knS i f)) (-1) 0 ∧ RS T f n y i ∧ y 422 i = bI true ∧ ∀ p, p < j → y 421 (8 * i + p) = gnS T f n i p) (tN T) ?_ ?_ v4 ⟨f4, r4, i2', e422i, fun p hp => absurd hp (by omega)⟩
      · intro j y hj ⟨y1, y2, y3, y4, y5⟩ jh
        try dsimp only at *
        have hnj : ¬ tN T ≤ j := by omega
        have hMx : MI B y T lv f := MI_w hM y1
        obtain ⟨k18, hlv, k398, _⟩ := hMx.1.1
        have k418 : y 418 = f := hMx.2.1
        refine go_at (blk := b_Model_fillsRests_47) rfl ?_
        simp (disch := omega) only [b_Model_fillsRests_47, be_4, be_6, be_34, be_33, be_38, be_49_3, kc_388, rf_388_23, ka_398, List.getD_cons_zero, List.getD_cons_succ, List.set_cons_zero, List.set_cons_succ, List.length_cons, List.length_nil, pk_I, pk_A, pr_A, pi_I, st_s, st_n, if_true, if_false, eq_self, d_if, d_ju, d_re, d_ca, cat0, cat1, cat2, cat3, fr_z, fr_s, cc_I, cc_A, cc_N, Nat.reduceAdd, Nat.reduceLT, Nat.reduceLeDiff, Nat.reduceEqDiff, not_true, not_false_iff, z1_0, z1_1, Bool.and_self, Bool.true_and, Bool.and_true, nI_add, pk_mul, nI_clamp, decide_true, Nat.le_refl, bI_eq, bI_z1, nI_ltI, nI_leI, k18, k398, hnj]
        refine go_at (blk := b_Model_fillsRests_60) rfl ?_
        simp (disch := omega) only [b_Model_fillsRests_60, be_6, be_34, be_1, be_4, be_14, be_12, be_57_1, kc_388, rf_388_53, List.getD_cons_zero, List.getD_cons_succ, List.set_cons_zero, List.set_cons_succ, List.length_cons, List.length_nil, pk_I, pk_A, pr_A, pi_I, st_s, st_n, if_true, if_false, eq_self, d_if, d_ju, d_re, d_ca, cat0, cat1, cat2, cat3, fr_z, fr_s, cc_I, cc_A, cc_N, Nat.reduceAdd, Nat.reduceLT, Nat.reduceLeDiff, Nat.reduceEqDiff, not_true, not_false_iff, z1_0, z1_1, Bool.and_self, Bool.true_and, Bool.and_true, nI_add, pk_mul, nI_clamp, decide_true, Nat.le_refl, bI_eq, bI_z1, nI_ltI, nI_leI, k18, k398, hnj]
        refine r_has (by omega) hMx.1 y2 ?_
        intro v5 q5 r5
        have g5 : v5 421 = y 421 := q5.1 421 (by omega) (by omega) (by omega) (by omega)
        have g6 : v5 422 = y 422 := q5.1 422 (by omega) (by omega) (by omega) (by omega)
        refine go_at (blk := b_Model_fillsRests_75) rfl ?_
        simp (disch := omega) only [b_Model_fillsRests_75, be_43, be_10, be_51, ka_421, List.getD_cons_zero, List.getD_cons_succ, List.set_cons_zero, List.set_cons_succ, List.length_cons, List.length_nil, pk_I, pk_A, pr_A, pi_I, st_s, st_n, if_true, if_false, eq_self, d_if, d_ju, d_re, d_ca, cat0, cat1, cat2, cat3, fr_z, fr_s, cc_I, cc_A, cc_N, Nat.reduceAdd, Nat.reduceLT, Nat.reduceLeDiff, Nat.reduceEqDiff, not_true, not_false_iff, z1_0, z1_1, Bool.and_self, Bool.true_and, Bool.and_true, nI_add, pk_mul, nI_clamp, decide_true, Nat.le_refl, bI_eq, bI_z1, nI_ltI, nI_leI, k18, k398, hnj]
        refine jh (am_u v5 421 (8 * i + j) (gnS T f n i j)) ⟨MW_t y1 (MW_t (MW_f q5) (MW_a (Or.inl rfl))), ⟨by rw [am_u_ne (by omega)]; exact r5.1, by rw [am_u_ne (by omega)]; exact r5.2.1, by rw [am_u_ne (by omega)]; exact r5.2.2⟩, ?_, by rw [am_u_ne (by omega), g6]; exact y4, ?_⟩
        · intro s hs
          obtain ⟨a1, a2⟩ := y3 s hs
          refine ⟨by rw [am_u_ne (by omega), g6]; exact a1, fun hb p hp => ?_⟩
          rw [am_u_at, upd_ne (by omega), g5]
          exact a2 hb p hp
        · intro p hp
          by_cases hpj : p = j
          · subst hpj
            rw [am_u_at, upd_at]
          · rw [am_u_at, upd_ne (by omega), g5]
            exact y5 p (by omega)
      · intro y ⟨y1, y2, y3, y4, y5⟩
        try dsimp only at *
        have hMx : MI B y T lv f := MI_w hM y1
        obtain ⟨k18, hlv, k398, _⟩ := hMx.1.1
        have k418 : y 418 = f := hMx.2.1
        refine go_at (blk := b_Model_fillsRests_47) rfl ?_
        simp (disch := omega) only [b_Model_fillsRests_47, be_4, be_6, be_34, be_33, be_38, be_49_3, kc_388, rf_388_23, ka_398, List.getD_cons_zero, List.getD_cons_succ, List.set_cons_zero, List.set_cons_succ, List.length_cons, List.length_nil, pk_I, pk_A, pr_A, pi_I, st_s, st_n, if_true, if_false, eq_self, d_if, d_ju, d_re, d_ca, cat0, cat1, cat2, cat3, fr_z, fr_s, cc_I, cc_A, cc_N, Nat.reduceAdd, Nat.reduceLT, Nat.reduceLeDiff, Nat.reduceEqDiff, not_true, not_false_iff, z1_0, z1_1, Bool.and_self, Bool.true_and, Bool.and_true, nI_add, pk_mul, nI_clamp, decide_true, Nat.le_refl, bI_eq, bI_z1, nI_ltI, nI_leI, k18, k398]
        refine go_at (blk := b_Model_fillsRests_82) rfl ?_
        simp (disch := omega) only [b_Model_fillsRests_82, be_10, be_51, List.getD_cons_zero, List.getD_cons_succ, List.set_cons_zero, List.set_cons_succ, List.length_cons, List.length_nil, pk_I, pk_A, pr_A, pi_I, st_s, st_n, if_true, if_false, eq_self, d_if, d_ju, d_re, d_ca, cat0, cat1, cat2, cat3, fr_z, fr_s, cc_I, cc_A, cc_N, Nat.reduceAdd, Nat.reduceLT, Nat.reduceLeDiff, Nat.reduceEqDiff, not_true, not_false_iff, z1_0, z1_1, Bool.and_self, Bool.true_and, Bool.and_true, nI_add, pk_mul, nI_clamp, decide_true, Nat.le_refl, bI_eq, bI_z1, nI_ltI, nI_leI, k18, k398]
        refine ih (y, .int _) ⟨y1, ?_, rfl⟩
        intro s hs
        dsimp only
        by_cases hsi : s = i
        · subst hsi
          refine ⟨by rw [y4, hs1], fun _ p hp => y5 p hp⟩
        · exact y3 s (by omega)
    · rename_i hb
      have hs1 : sbB i (mayM T f) = false := by simpa using hb
      refine go_at (blk := b_Model_fillsRests_37) rfl ?_
      simp (disch := omega) only [b_Model_fillsRests_37, be_51, List.getD_cons_zero, List.getD_cons_succ, List.set_cons_zero, List.set_cons_succ, List.length_cons, List.length_nil, pk_I, pk_A, pr_A, pi_I, st_s, st_n, if_true, if_false, eq_self, d_if, d_ju, d_re, d_ca, cat0, cat1, cat2, cat3, fr_z, fr_s, cc_I, cc_A, cc_N, Nat.reduceAdd, Nat.reduceLT, Nat.reduceLeDiff, Nat.reduceEqDiff, not_true, not_false_iff, z1_0, z1_1, Bool.and_self, Bool.true_and, Bool.and_true, nI_add, pk_mul, nI_clamp, decide_true, Nat.le_refl, bI_eq, bI_z1, nI_ltI, nI_leI, k18, k398, hbp, i3, hni, vb_b, am_u_at, upd_at, am_u_ne]
      refine go_at (blk := b_Model_fillsRests_82) rfl ?_
      simp (disch := omega) only [b_Model_fillsRests_82, be_10, be_51, List.getD_cons_zero, List.getD_cons_succ, List.set_cons_zero, List.set_cons_succ, List.length_cons, List.length_nil, pk_I, pk_A, pr_A, pi_I, st_s, st_n, if_true, if_false, eq_self, d_if, d_ju, d_re, d_ca, cat0, cat1, cat2, cat3, fr_z, fr_s, cc_I, cc_A, cc_N, Nat.reduceAdd, Nat.reduceLT, Nat.reduceLeDiff, Nat.reduceEqDiff, not_true, not_false_iff, z1_0, z1_1, Bool.and_self, Bool.true_and, Bool.and_true, nI_add, pk_mul, nI_clamp, decide_true, Nat.le_refl, bI_eq, bI_z1, nI_ltI, nI_leI, k18, k398, hbp, i3, hni, vb_b, am_u_at, upd_at, am_u_ne]
      refine ih (am_u v2 422 i (bI (sbB i (mayM T f))), x.2) ⟨MW_t f2 (MW_a (Or.inr rfl)), ?_, i3⟩
      intro s hs
      dsimp only
      by_cases hsi : s = i
      · subst hsi
        refine ⟨by rw [am_u_at, upd_at], fun z => by rw [hs1] at z; cases z⟩
      · obtain ⟨a1, a2⟩ := i2 s (by omega)
        exact ⟨by rw [am_u_at, upd_ne hsi, g2]; exact a1, fun hb p hp => by rw [am_u_ne (by omega), g1]; exact a2 hb p hp⟩
  · intro x ⟨i1, i2, i3⟩
    try dsimp only at *
    have hMx : MI B x.1 T lv f := MI_w hM i1
    obtain ⟨k18, hlv, k398, _⟩ := hMx.1.1
    have k418 : x.1 418 = f := hMx.2.1
    refine go_at (blk := b_Model_fillsRests_2) rfl ?_
    simp (disch := omega) only [b_Model_fillsRests_2, be_4, be_1, be_6, be_34, be_33, be_38, be_21, be_49_3, kc_388, rf_388_23, ka_398, List.getD_cons_zero, List.getD_cons_succ, List.set_cons_zero, List.set_cons_succ, List.length_cons, List.length_nil, pk_I, pk_A, pr_A, pi_I, st_s, st_n, if_true, if_false, eq_self, d_if, d_ju, d_re, d_ca, cat0, cat1, cat2, cat3, fr_z, fr_s, cc_I, cc_A, cc_N, Nat.reduceAdd, Nat.reduceLT, Nat.reduceLeDiff, Nat.reduceEqDiff, not_true, not_false_iff, z1_0, z1_1, Bool.and_self, Bool.true_and, Bool.and_true, nI_add, pk_mul, nI_clamp, decide_true, Nat.le_refl, bI_eq, bI_z1, nI_ltI, nI_leI, k18, k398, hbp]
    refine go_at (blk := b_Model_fillsRests_88) rfl ?_
    simp (disch := omega) only [b_Model_fillsRests_88, be_56, List.getD_cons_zero, List.getD_cons_succ, List.set_cons_zero, List.set_cons_succ, List.length_cons, List.length_nil, pk_I, pk_A, pr_A, pi_I, st_s, st_n, if_true, if_false, eq_self, d_if, d_ju, d_re, d_ca, cat0, cat1, cat2, cat3, fr_z, fr_s, cc_I, cc_A, cc_N, Nat.reduceAdd, Nat.reduceLT, Nat.reduceLeDiff, Nat.reduceEqDiff, not_true, not_false_iff, z1_0, z1_1, Bool.and_self, Bool.true_and, Bool.and_true, nI_add, pk_mul, nI_clamp, decide_true, Nat.le_refl, bI_eq, bI_z1, nI_ltI, nI_leI, k18, k398, hbp]
    exact hQ x.1 i1 i2
set_option maxHeartbeats 1000000 in
theorem r_isRest {d : Nat} {v : Nat → Nat → Int32} {w : Nat → Nat → Int64} {Q : Option Value → am_H → Prop} {T : TXT} {lv : Nat} {f : Nat → Int32} {B : Int} (hM : MI B v T lv f) {n N s : Nat} (h8' : N = 2 ^ tN T) (hN2 : N ≤ 256) (hbp : nI 1 <<< (nI (tN T) &&& 31) = nI N) (hs : s < N) (hR : RS T f n v N) (hQ : Q (some (.int (bI (rsB T f n s)))) (428, 26053, KD, RF, v, w)) : am_Ca (d + 1) M_Model_isResting [.ref 388, .int (nI s)] (428, 26053, KD, RF, v, w) Q := by
  have h8 := hM.2.2.2.2.1.1
  obtain ⟨k18, hlv, k398, _⟩ := hM.1.1
  have e1 : v 422 s = bI (sbB s (mayM T f)) := (hR s hs).1
  refine ca_in (k := k_Model_isResting) (nL := 4) rfl (Nat.le_of_ble_eq_true rfl) ?_
  show am_Go am_X0 _ k_Model_isResting 0 ([.ref 388, .int (nI s), .null, .null], [], _) _
  refine go_at (blk := b_Model_isResting_0) rfl ?_
  simp (disch := omega) only [b_Model_isResting_0, be_6, be_34, be_4, be_40, be_50_1, kc_388, rf_388_54, ka_422, List.getD_cons_zero, List.getD_cons_succ, List.set_cons_zero, List.set_cons_succ, List.length_cons, List.length_nil, pk_I, pk_A, pr_A, pi_I, st_s, st_n, if_true, if_false, eq_self, d_if, d_ju, d_re, d_ca, cat0, cat1, cat2, cat3, fr_z, fr_s, cc_I, cc_A, cc_N, Nat.reduceAdd, Nat.reduceLT, Nat.reduceLeDiff, Nat.reduceEqDiff, not_true, not_false_iff, z1_0, z1_1, Bool.and_self, Bool.true_and, Bool.and_true, nI_add, pk_mul, nI_clamp, decide_true, Nat.le_refl, bI_eq, bI_z1, e1]
  split
  · rename_i ha
    have hs1 : sbB s (mayM T f) = true := by simpa using ha
    refine go_at (blk := b_Model_isResting_11) rfl ?_
    simp (disch := omega) only [b_Model_isResting_11, be_1, be_7, be_0, List.getD_cons_zero, List.getD_cons_succ, List.set_cons_zero, List.set_cons_succ, List.length_cons, List.length_nil, pk_I, pk_A, pr_A, pi_I, st_s, st_n, if_true, if_false, eq_self, d_if, d_ju, d_re, d_ca, cat0, cat1, cat2, cat3, fr_z, fr_s, cc_I, cc_A, cc_N, Nat.reduceAdd, Nat.reduceLT, Nat.reduceLeDiff, Nat.reduceEqDiff, not_true, not_false_iff, z1_0, z1_1, Bool.and_self, Bool.true_and, Bool.and_true, nI_add, pk_mul, nI_clamp, decide_true, Nat.le_refl, bI_eq, bI_z1, e1]
    refine go_loopA (α := Value) (fun i x => ([.ref 388, .int (nI s), .int (nI i), x], [], (428, 26053, KD, RF, v, w))) (fun i x => pF (rvB T f n s) (tN T) 0 = pF (rvB T f n s) (tN T - i) i ∧ am_cc x = true) (tN T) ?_ ?_ .null ⟨rfl, rfl⟩
    · intro i x hi ⟨x1, x2⟩ ih
      try dsimp only at *
      have hni : ¬ tN T ≤ i := by omega
      have hbp1 := bt_p i (by omega)
      obtain ⟨hbx0, hx2⟩ := bt_x s (by omega) i (by omega)
      have hbx : nI s ^^^ nI (2 ^ i) = nI (s ^^^ 2 ^ i) := by rw [← hbp1]; exact hbx0
      have hpi : 2 ^ i < N := by rw [h8']; exact Nat.pow_lt_pow_right (by omega) hi
      have hxo : s ^^^ 2 ^ i < N := by rw [h8'] at hs hpi ⊢; exact Nat.xor_lt_two_pow hs hpi
      have e3 : v 422 (2 ^ i) = bI ((mayM T f).testBit i) := by rw [← sb_one h8 hi]; exact (hR _ hpi).1
      refine go_at (blk := b_Model_isResting_13) rfl ?_
      simp (disch := omega) only [b_Model_isResting_13, be_4, be_6, be_34, be_33, be_38, be_49_3, kc_388, rf_388_23, ka_398, List.getD_cons_zero, List.getD_cons_succ, List.set_cons_zero, List.set_cons_succ, List.length_cons, List.length_nil, pk_I, pk_A, pr_A, pi_I, st_s, st_n, if_true, if_false, eq_self, d_if, d_ju, d_re, d_ca, cat0, cat1, cat2, cat3, fr_z, fr_s, cc_I, cc_A, cc_N, Nat.reduceAdd, Nat.reduceLT, Nat.reduceLeDiff, Nat.reduceEqDiff, not_true, not_false_iff, z1_0, z1_1, Bool.and_self, Bool.true_and, Bool.and_true, nI_add, pk_mul, nI_clamp, decide_true, Nat.le_refl, bI_eq, bI_z1, nI_ltI, nI_leI, k18, k398, hbp1, hbx, e3, x2, hni]
      refine go_at (blk := b_Model_isResting_26) rfl ?_
      simp (disch := omega) only [b_Model_isResting_26, be_4, be_1, be_21, be_20, be_7, be_6, be_34, be_40, be_50_0, kc_388, rf_388_54, ka_422, List.getD_cons_zero, List.getD_cons_succ, List.set_cons_zero, List.set_cons_succ, List.length_cons, List.length_nil, pk_I, pk_A, pr_A, pi_I, st_s, st_n, if_true, if_false, eq_self, d_if, d_ju, d_re, d_ca, cat0, cat1, cat2, cat3, fr_z, fr_s, cc_I, cc_A, cc_N, Nat.reduceAdd, Nat.reduceLT, Nat.reduceLeDiff, Nat.reduceEqDiff, not_true, not_false_iff, z1_0, z1_1, Bool.and_self, Bool.true_and, Bool.and_true, nI_add, pk_mul, nI_clamp, decide_true, Nat.le_refl, bI_eq, bI_z1, nI_ltI, nI_leI, k18, k398, hbp1, hbx, e3, x2, hni]
      split
      · rename_i hb
        refine go_at (blk := b_Model_isResting_70) rfl ?_
        simp (disch := omega) only [b_Model_isResting_70, be_10, be_51, List.getD_cons_zero, List.getD_cons_succ, List.set_cons_zero, List.set_cons_succ, List.length_cons, List.length_nil, pk_I, pk_A, pr_A, pi_I, st_s, st_n, if_true, if_false, eq_self, d_if, d_ju, d_re, d_ca, cat0, cat1, cat2, cat3, fr_z, fr_s, cc_I, cc_A, cc_N, Nat.reduceAdd, Nat.reduceLT, Nat.reduceLeDiff, Nat.reduceEqDiff, not_true, not_false_iff, z1_0, z1_1, Bool.and_self, Bool.true_and, Bool.and_true, nI_add, pk_mul, nI_clamp, decide_true, Nat.le_refl, bI_eq, bI_z1, nI_ltI, nI_leI, k18, k398, hbp1, hbx, e3, x2, hni]
        have hb : (mayM T f).testBit i = false := by simpa using hb
        exact ih (.int _) ⟨by rw [x1, pF_f hi (by unfold rvB; rw [hb]; rfl)], rfl⟩
      · rename_i hb
        have hb : (mayM T f).testBit i = true := by simpa using hb
        have e4 : v 421 (8 * (s ^^^ 2 ^ i) + i) = gnS T f n (s ^^^ 2 ^ i) i := (hR _ hxo).2 (sb_x (by omega) (may_lt h8) (by omega) hs1 hb hx2) i hi
        have e5 : v 421 (8 * s + i) = gnS T f n s i := (hR s hs).2 hs1 i hi
        refine go_at (blk := b_Model_isResting_43) rfl ?_
        simp (disch := omega) only [b_Model_isResting_43, be_6, be_34, be_1, be_4, be_14, be_12, be_38, be_49_5, kc_388, rf_388_53, ka_421, List.getD_cons_zero, List.getD_cons_succ, List.set_cons_zero, List.set_cons_succ, List.length_cons, List.length_nil, pk_I, pk_A, pr_A, pi_I, st_s, st_n, if_true, if_false, eq_self, d_if, d_ju, d_re, d_ca, cat0, cat1, cat2, cat3, fr_z, fr_s, cc_I, cc_A, cc_N, Nat.reduceAdd, Nat.reduceLT, Nat.reduceLeDiff, Nat.reduceEqDiff, not_true, not_false_iff, z1_0, z1_1, Bool.and_self, Bool.true_and, Bool.and_true, nI_add, pk_mul, nI_clamp, decide_true, Nat.le_refl, bI_eq, bI_z1, nI_ltI, nI_leI, k18, k398, hbp1, hbx, e3, x2, hni, e4, e5]
        split
        · rename_i hc
          refine go_at (blk := b_Model_isResting_70) rfl ?_
          simp (disch := omega) only [b_Model_isResting_70, be_10, be_51, List.getD_cons_zero, List.getD_cons_succ, List.set_cons_zero, List.set_cons_succ, List.length_cons, List.length_nil, pk_I, pk_A, pr_A, pi_I, st_s, st_n, if_true, if_false, eq_self, d_if, d_ju, d_re, d_ca, cat0, cat1, cat2, cat3, fr_z, fr_s, cc_I, cc_A, cc_N, Nat.reduceAdd, Nat.reduceLT, Nat.reduceLeDiff, Nat.reduceEqDiff, not_true, not_false_iff, z1_0, z1_1, Bool.and_self, Bool.true_and, Bool.and_true, nI_add, pk_mul, nI_clamp, decide_true, Nat.le_refl, bI_eq, bI_z1, nI_ltI, nI_leI, k18, k398, hbp1, hbx, e3, x2, hni, e4, e5]
          have hc : ¬ gnS T f n s i < gnS T f n (s ^^^ 2 ^ i) i := Int32.not_lt.mpr hc
          exact ih (.int _) ⟨by rw [x1, pF_f hi (by unfold rvB; rw [decide_eq_false hc]; simp)], rfl⟩
        · rename_i hc
          have hc : gnS T f n s i < gnS T f n (s ^^^ 2 ^ i) i := Int32.not_le.mp hc
          refine go_at (blk := b_Model_isResting_68) rfl ?_
          simp (disch := omega) only [b_Model_isResting_68, be_1, be_73, List.getD_cons_zero, List.getD_cons_succ, List.set_cons_zero, List.set_cons_succ, List.length_cons, List.length_nil, pk_I, pk_A, pr_A, pi_I, st_s, st_n, if_true, if_false, eq_self, d_if, d_ju, d_re, d_ca, cat0, cat1, cat2, cat3, fr_z, fr_s, cc_I, cc_A, cc_N, Nat.reduceAdd, Nat.reduceLT, Nat.reduceLeDiff, Nat.reduceEqDiff, not_true, not_false_iff, z1_0, z1_1, Bool.and_self, Bool.true_and, Bool.and_true, nI_add, pk_mul, nI_clamp, decide_true, Nat.le_refl, bI_eq, bI_z1, nI_ltI, nI_leI, k18, k398, hbp1, hbx, e3, x2, hni, e4, e5]
          have hr : rsB T f n s = false := by unfold rsB; rw [x1, pF_t hi (by unfold rvB; rw [hb, decide_eq_true hc]; rfl)]; simp
          rw [hr] at hQ
          exact hQ
    · intro x ⟨x1, x2⟩
      try dsimp only at *
      refine go_at (blk := b_Model_isResting_13) rfl ?_
      simp (disch := omega) only [b_Model_isResting_13, be_4, be_6, be_34, be_33, be_38, be_49_3, kc_388, rf_388_23, ka_398, List.getD_cons_zero, List.getD_cons_succ, List.set_cons_zero, List.set_cons_succ, List.length_cons, List.length_nil, pk_I, pk_A, pr_A, pi_I, st_s, st_n, if_true, if_false, eq_self, d_if, d_ju, d_re, d_ca, cat0, cat1, cat2, cat3, fr_z, fr_s, cc_I, cc_A, cc_N, Nat.reduceAdd, Nat.reduceLT, Nat.reduceLeDiff, Nat.reduceEqDiff, not_true, not_false_iff, z1_0, z1_1, Bool.and_self, Bool.true_and, Bool.and_true, nI_add, pk_mul, nI_clamp, decide_true, Nat.le_refl, bI_eq, bI_z1, nI_ltI, nI_leI, k18, k398]
      refine go_at (blk := b_Model_isResting_76) rfl ?_
      simp (disch := omega) only [b_Model_isResting_76, be_1, be_73, List.getD_cons_zero, List.getD_cons_succ, List.set_cons_zero, List.set_cons_succ, List.length_cons, List.length_nil, pk_I, pk_A, pr_A, pi_I, st_s, st_n, if_true, if_false, eq_self, d_if, d_ju, d_re, d_ca, cat0, cat1, cat2, cat3, fr_z, fr_s, cc_I, cc_A, cc_N, Nat.reduceAdd, Nat.reduceLT, Nat.reduceLeDiff, Nat.reduceEqDiff, not_true, not_false_iff, z1_0, z1_1, Bool.and_self, Bool.true_and, Bool.and_true, nI_add, pk_mul, nI_clamp, decide_true, Nat.le_refl, bI_eq, bI_z1, nI_ltI, nI_leI, k18, k398]
      have hr : rsB T f n s = true := by unfold rsB; rw [x1, pF_e, hs1]; rfl
      rw [hr] at hQ
      exact hQ
  · rename_i ha
    have hs1 : sbB s (mayM T f) = false := by simpa using ha
    refine go_at (blk := b_Model_isResting_9) rfl ?_
    simp (disch := omega) only [b_Model_isResting_9, be_1, be_73, List.getD_cons_zero, List.getD_cons_succ, List.set_cons_zero, List.set_cons_succ, List.length_cons, List.length_nil, pk_I, pk_A, pr_A, pi_I, st_s, st_n, if_true, if_false, eq_self, d_if, d_ju, d_re, d_ca, cat0, cat1, cat2, cat3, fr_z, fr_s, cc_I, cc_A, cc_N, Nat.reduceAdd, Nat.reduceLT, Nat.reduceLeDiff, Nat.reduceEqDiff, not_true, not_false_iff, z1_0, z1_1, Bool.and_self, Bool.true_and, Bool.and_true, nI_add, pk_mul, nI_clamp, decide_true, Nat.le_refl, bI_eq, bI_z1, e1]
    have hr : rsB T f n s = false := by unfold rsB; rw [hs1]; rfl
    rw [hr] at hQ
    exact hQ
set_option maxHeartbeats 1000000 in
theorem r_rests {d : Nat} {v : Nat → Nat → Int32} {w : Nat → Nat → Int64} {Q : Option Value → am_H → Prop} {T : TXT} {lv : Nat} {f : Nat → Int32} {B : Int} (hM : MI B v T lv f) {x z : Int32} (hQ : ∀ v', MW v v' → Q (some (.int (rtA T f x z))) (428, 26053, KD, RF, v', w)) : am_Ca (d + 8) M_Model_rests [.ref 388, .int x, .int z] (428, 26053, KD, RF, v, w) Q := by
  have h8 := hM.2.2.2.2.1.1
  refine ca_in (k := k_Model_rests) (nL := 5) rfl (Nat.le_of_ble_eq_true rfl) ?_
  show am_Go am_X0 _ k_Model_rests 0 ([.ref 388, .int x, .int z, .null, .null], [], _) _
  refine go_at (blk := b_Model_rests_0) rfl ?_
  simp (disch := omega) only [b_Model_rests_0, be_4, be_1, be_58_3, List.getD_cons_zero, List.getD_cons_succ, List.set_cons_zero, List.set_cons_succ, List.length_cons, List.length_nil, pk_I, pk_A, pr_A, pi_I, st_s, st_n, if_true, if_false, eq_self, d_if, d_ju, d_re, d_ca, cat0, cat1, cat2, cat3, fr_z, fr_s, cc_I, cc_A, cc_N, Nat.reduceAdd, Nat.reduceLT, Nat.reduceLeDiff, Nat.reduceEqDiff, not_true, not_false_iff, z1_0, z1_1, Bool.and_self, Bool.true_and, Bool.and_true, nI_add, pk_mul, nI_clamp, decide_true, Nat.le_refl, bI_eq, bI_z1]
  refine m_in ?_
  rw [show inB x (nI 1) (nI 100) = (!decide (x < nI 1) && !decide (nI 100 < x)) from rfl]
  refine go_at (blk := b_Model_rests_7) rfl ?_
  simp (disch := omega) only [b_Model_rests_7, be_50_0, List.getD_cons_zero, List.getD_cons_succ, List.set_cons_zero, List.set_cons_succ, List.length_cons, List.length_nil, pk_I, pk_A, pr_A, pi_I, st_s, st_n, if_true, if_false, eq_self, d_if, d_ju, d_re, d_ca, cat0, cat1, cat2, cat3, fr_z, fr_s, cc_I, cc_A, cc_N, Nat.reduceAdd, Nat.reduceLT, Nat.reduceLeDiff, Nat.reduceEqDiff, not_true, not_false_iff, z1_0, z1_1, Bool.and_self, Bool.true_and, Bool.and_true, nI_add, pk_mul, nI_clamp, decide_true, Nat.le_refl, bI_eq, bI_z1]
  split
  · rename_i h0
    have h0 : (!decide (x < nI 1) && !decide (nI 100 < x)) = false := by simpa using h0
    refine go_at (blk := b_Model_rests_15) rfl ?_
    simp (disch := omega) only [b_Model_rests_15, be_2, be_54, List.getD_cons_zero, List.getD_cons_succ, List.set_cons_zero, List.set_cons_succ, List.length_cons, List.length_nil, pk_I, pk_A, pr_A, pi_I, st_s, st_n, if_true, if_false, eq_self, d_if, d_ju, d_re, d_ca, cat0, cat1, cat2, cat3, fr_z, fr_s, cc_I, cc_A, cc_N, Nat.reduceAdd, Nat.reduceLT, Nat.reduceLeDiff, Nat.reduceEqDiff, not_true, not_false_iff, z1_0, z1_1, Bool.and_self, Bool.true_and, Bool.and_true, nI_add, pk_mul, nI_clamp, decide_true, Nat.le_refl, bI_eq, bI_z1]
    unfold rtA at hQ
    rw [if_neg (by rw [h0]; simp)] at hQ
    exact hQ v MW_r
  · rename_i h0
    have h0 : (!decide (x < nI 1) && !decide (nI 100 < x)) = true := by simpa using h0
    refine go_at (blk := b_Model_rests_10) rfl ?_
    simp (disch := omega) only [b_Model_rests_10, be_4, be_2, be_49_3, List.getD_cons_zero, List.getD_cons_succ, List.set_cons_zero, List.set_cons_succ, List.length_cons, List.length_nil, pk_I, pk_A, pr_A, pi_I, st_s, st_n, if_true, if_false, eq_self, d_if, d_ju, d_re, d_ca, cat0, cat1, cat2, cat3, fr_z, fr_s, cc_I, cc_A, cc_N, Nat.reduceAdd, Nat.reduceLT, Nat.reduceLeDiff, Nat.reduceEqDiff, not_true, not_false_iff, z1_0, z1_1, Bool.and_self, Bool.true_and, Bool.and_true, nI_add, pk_mul, nI_clamp, decide_true, Nat.le_refl, bI_eq, bI_z1]
    split
    · rename_i h1
      have h1 : (!decide (z < -1)) = true := by rw [decide_eq_false (Int32.not_lt.mpr h1)]; rfl
      unfold rtA at hQ
      rw [if_pos (by rw [h0, h1]; rfl)] at hQ
      obtain ⟨n, _, hn, rfl, e⟩ := lim1_of (m := 100) (by omega) (nd_f (Bool.and_eq_true_iff.mp h0).1) (nd_f (Bool.and_eq_true_iff.mp h0).2)
      rw [e] at hQ
      obtain ⟨N, h8', hN2, hbp⟩ : ∃ N, N = 2 ^ tN T ∧ N ≤ 256 ∧ nI 1 <<< (nI (tN T) &&& 31) = nI N := ⟨_, rfl, p2_8 h8, bt_p _ h8⟩
      refine go_at (blk := b_Model_rests_17) rfl ?_
      simp (disch := omega) only [b_Model_rests_17, be_6, be_4, be_57_1, kc_388, List.getD_cons_zero, List.getD_cons_succ, List.set_cons_zero, List.set_cons_succ, List.length_cons, List.length_nil, pk_I, pk_A, pr_A, pi_I, st_s, st_n, if_true, if_false, eq_self, d_if, d_ju, d_re, d_ca, cat0, cat1, cat2, cat3, fr_z, fr_s, cc_I, cc_A, cc_N, Nat.reduceAdd, Nat.reduceLT, Nat.reduceLeDiff, Nat.reduceEqDiff, not_true, not_false_iff, z1_0, z1_1, Bool.and_self, Bool.true_and, Bool.and_true, nI_add, pk_mul, nI_clamp, decide_true, Nat.le_refl, bI_eq, bI_z1]
      refine r_fills hM (by omega) h8' hN2 hbp ?_
      intro v2 q2 r2
      have hM2 := MI_w hM q2
      obtain ⟨k18, _, k398, _⟩ := hM2.1.1
      refine go_at (blk := b_Model_rests_22) rfl ?_
      simp (disch := omega) only [b_Model_rests_22, be_1, be_7, be_0, List.getD_cons_zero, List.getD_cons_succ, List.set_cons_zero, List.set_cons_succ, List.length_cons, List.length_nil, pk_I, pk_A, pr_A, pi_I, st_s, st_n, if_true, if_false, eq_self, d_if, d_ju, d_re, d_ca, cat0, cat1, cat2, cat3, fr_z, fr_s, cc_I, cc_A, cc_N, Nat.reduceAdd, Nat.reduceLT, Nat.reduceLeDiff, Nat.reduceEqDiff, not_true, not_false_iff, z1_0, z1_1, Bool.and_self, Bool.true_and, Bool.and_true, nI_add, pk_mul, nI_clamp, decide_true, Nat.le_refl, bI_eq, bI_z1]
      refine go_loopA (α := Nat) (fun i x => ([.ref 388, .int (nI n), .int z, .int (nI x), .int (nI i)], [], (428, 26053, KD, RF, v2, w))) (fun i x => rtS T f n z 256 0 0 = rtS T f n z (256 - i) i x) (N) ?_ ?_ 0 rfl
      · intro i x hi x1 ih
        try dsimp only at *
        have hni : ¬ N ≤ i := by omega
        refine go_at (blk := b_Model_rests_27) rfl ?_
        simp (disch := omega) only [b_Model_rests_27, be_4, be_1, be_6, be_34, be_33, be_38, be_21, be_49_3, kc_388, rf_388_23, ka_398, List.getD_cons_zero, List.getD_cons_succ, List.set_cons_zero, List.set_cons_succ, List.length_cons, List.length_nil, pk_I, pk_A, pr_A, pi_I, st_s, st_n, if_true, if_false, eq_self, d_if, d_ju, d_re, d_ca, cat0, cat1, cat2, cat3, fr_z, fr_s, cc_I, cc_A, cc_N, Nat.reduceAdd, Nat.reduceLT, Nat.reduceLeDiff, Nat.reduceEqDiff, not_true, not_false_iff, z1_0, z1_1, Bool.and_self, Bool.true_and, Bool.and_true, nI_add, pk_mul, nI_clamp, decide_true, Nat.le_refl, bI_eq, bI_z1, nI_ltI, nI_leI, k18, k398, hbp, hni]
        refine go_at (blk := b_Model_rests_43) rfl ?_
        simp (disch := omega) only [b_Model_rests_43, be_6, be_4, be_57_1, kc_388, List.getD_cons_zero, List.getD_cons_succ, List.set_cons_zero, List.set_cons_succ, List.length_cons, List.length_nil, pk_I, pk_A, pr_A, pi_I, st_s, st_n, if_true, if_false, eq_self, d_if, d_ju, d_re, d_ca, cat0, cat1, cat2, cat3, fr_z, fr_s, cc_I, cc_A, cc_N, Nat.reduceAdd, Nat.reduceLT, Nat.reduceLeDiff, Nat.reduceEqDiff, not_true, not_false_iff, z1_0, z1_1, Bool.and_self, Bool.true_and, Bool.and_true, nI_add, pk_mul, nI_clamp, decide_true, Nat.le_refl, bI_eq, bI_z1, nI_ltI, nI_leI, k18, k398, hbp, hni]
        refine r_isRest hM2 h8' hN2 hbp hi r2 ?_
        refine go_at (blk := b_Model_rests_49) rfl ?_
        simp (disch := omega) only [b_Model_rests_49, be_50_1, List.getD_cons_zero, List.getD_cons_succ, List.set_cons_zero, List.set_cons_succ, List.length_cons, List.length_nil, pk_I, pk_A, pr_A, pi_I, st_s, st_n, if_true, if_false, eq_self, d_if, d_ju, d_re, d_ca, cat0, cat1, cat2, cat3, fr_z, fr_s, cc_I, cc_A, cc_N, Nat.reduceAdd, Nat.reduceLT, Nat.reduceLeDiff, Nat.reduceEqDiff, not_true, not_false_iff, z1_0, z1_1, Bool.and_self, Bool.true_and, Bool.and_true, nI_add, pk_mul, nI_clamp, decide_true, Nat.le_refl, bI_eq, bI_z1, nI_ltI, nI_leI, k18, k398, hbp, hni]
        split
        · rename_i hb
          have hb : rsB T f n i = true := by simpa using hb
          refine go_at (blk := b_Model_rests_55) rfl ?_
          simp (disch := omega) only [b_Model_rests_55, be_4, be_49_1, List.getD_cons_zero, List.getD_cons_succ, List.set_cons_zero, List.set_cons_succ, List.length_cons, List.length_nil, pk_I, pk_A, pr_A, pi_I, st_s, st_n, if_true, if_false, eq_self, d_if, d_ju, d_re, d_ca, cat0, cat1, cat2, cat3, fr_z, fr_s, cc_I, cc_A, cc_N, Nat.reduceAdd, Nat.reduceLT, Nat.reduceLeDiff, Nat.reduceEqDiff, not_true, not_false_iff, z1_0, z1_1, Bool.and_self, Bool.true_and, Bool.and_true, nI_add, pk_mul, nI_clamp, decide_true, Nat.le_refl, bI_eq, bI_z1, nI_ltI, nI_leI, k18, k398, hbp, hni]
          split
          · rename_i hc
            rw [rt_1 (by omega) hb hc] at x1
            refine go_at (blk := b_Model_rests_63) rfl ?_
            simp (disch := omega) only [b_Model_rests_63, be_10, be_0, List.getD_cons_zero, List.getD_cons_succ, List.set_cons_zero, List.set_cons_succ, List.length_cons, List.length_nil, pk_I, pk_A, pr_A, pi_I, st_s, st_n, if_true, if_false, eq_self, d_if, d_ju, d_re, d_ca, cat0, cat1, cat2, cat3, fr_z, fr_s, cc_I, cc_A, cc_N, Nat.reduceAdd, Nat.reduceLT, Nat.reduceLeDiff, Nat.reduceEqDiff, not_true, not_false_iff, z1_0, z1_1, Bool.and_self, Bool.true_and, Bool.and_true, nI_add, pk_mul, nI_clamp, decide_true, Nat.le_refl, bI_eq, bI_z1, nI_ltI, nI_leI, k18, k398, hbp, hni]
            refine go_at (blk := b_Model_rests_66) rfl ?_
            simp (disch := omega) only [b_Model_rests_66, be_10, be_51, List.getD_cons_zero, List.getD_cons_succ, List.set_cons_zero, List.set_cons_succ, List.length_cons, List.length_nil, pk_I, pk_A, pr_A, pi_I, st_s, st_n, if_true, if_false, eq_self, d_if, d_ju, d_re, d_ca, cat0, cat1, cat2, cat3, fr_z, fr_s, cc_I, cc_A, cc_N, Nat.reduceAdd, Nat.reduceLT, Nat.reduceLeDiff, Nat.reduceEqDiff, not_true, not_false_iff, z1_0, z1_1, Bool.and_self, Bool.true_and, Bool.and_true, nI_add, pk_mul, nI_clamp, decide_true, Nat.le_refl, bI_eq, bI_z1, nI_ltI, nI_leI, k18, k398, hbp, hni]
            exact ih _ x1
          · rename_i hc
            have hc := Decidable.not_not.mp hc
            rw [x1, rt_2 (by omega) hb hc] at hQ
            refine go_at (blk := b_Model_rests_60) rfl ?_
            simp (disch := omega) only [b_Model_rests_60, be_4, be_54, List.getD_cons_zero, List.getD_cons_succ, List.set_cons_zero, List.set_cons_succ, List.length_cons, List.length_nil, pk_I, pk_A, pr_A, pi_I, st_s, st_n, if_true, if_false, eq_self, d_if, d_ju, d_re, d_ca, cat0, cat1, cat2, cat3, fr_z, fr_s, cc_I, cc_A, cc_N, Nat.reduceAdd, Nat.reduceLT, Nat.reduceLeDiff, Nat.reduceEqDiff, not_true, not_false_iff, z1_0, z1_1, Bool.and_self, Bool.true_and, Bool.and_true, nI_add, pk_mul, nI_clamp, decide_true, Nat.le_refl, bI_eq, bI_z1, nI_ltI, nI_leI, k18, k398, hbp, hni]
            exact hQ v2 q2
        · rename_i hb
          have hb : rsB T f n i = false := by simpa using hb
          rw [rt_0 (by omega) hb] at x1
          refine go_at (blk := b_Model_rests_52) rfl ?_
          simp (disch := omega) only [b_Model_rests_52, be_51, List.getD_cons_zero, List.getD_cons_succ, List.set_cons_zero, List.set_cons_succ, List.length_cons, List.length_nil, pk_I, pk_A, pr_A, pi_I, st_s, st_n, if_true, if_false, eq_self, d_if, d_ju, d_re, d_ca, cat0, cat1, cat2, cat3, fr_z, fr_s, cc_I, cc_A, cc_N, Nat.reduceAdd, Nat.reduceLT, Nat.reduceLeDiff, Nat.reduceEqDiff, not_true, not_false_iff, z1_0, z1_1, Bool.and_self, Bool.true_and, Bool.and_true, nI_add, pk_mul, nI_clamp, decide_true, Nat.le_refl, bI_eq, bI_z1, nI_ltI, nI_leI, k18, k398, hbp, hni]
          refine go_at (blk := b_Model_rests_66) rfl ?_
          simp (disch := omega) only [b_Model_rests_66, be_10, be_51, List.getD_cons_zero, List.getD_cons_succ, List.set_cons_zero, List.set_cons_succ, List.length_cons, List.length_nil, pk_I, pk_A, pr_A, pi_I, st_s, st_n, if_true, if_false, eq_self, d_if, d_ju, d_re, d_ca, cat0, cat1, cat2, cat3, fr_z, fr_s, cc_I, cc_A, cc_N, Nat.reduceAdd, Nat.reduceLT, Nat.reduceLeDiff, Nat.reduceEqDiff, not_true, not_false_iff, z1_0, z1_1, Bool.and_self, Bool.true_and, Bool.and_true, nI_add, pk_mul, nI_clamp, decide_true, Nat.le_refl, bI_eq, bI_z1, nI_ltI, nI_leI, k18, k398, hbp, hni]
          exact ih _ x1
      · intro x x1
        try dsimp only at *
        refine go_at (blk := b_Model_rests_27) rfl ?_
        simp (disch := omega) only [b_Model_rests_27, be_4, be_1, be_6, be_34, be_33, be_38, be_21, be_49_3, kc_388, rf_388_23, ka_398, List.getD_cons_zero, List.getD_cons_succ, List.set_cons_zero, List.set_cons_succ, List.length_cons, List.length_nil, pk_I, pk_A, pr_A, pi_I, st_s, st_n, if_true, if_false, eq_self, d_if, d_ju, d_re, d_ca, cat0, cat1, cat2, cat3, fr_z, fr_s, cc_I, cc_A, cc_N, Nat.reduceAdd, Nat.reduceLT, Nat.reduceLeDiff, Nat.reduceEqDiff, not_true, not_false_iff, z1_0, z1_1, Bool.and_self, Bool.true_and, Bool.and_true, nI_add, pk_mul, nI_clamp, decide_true, Nat.le_refl, bI_eq, bI_z1, nI_ltI, nI_leI, k18, k398, hbp]
        refine go_at (blk := b_Model_rests_72) rfl ?_
        simp (disch := omega) only [b_Model_rests_72, be_4, be_2, be_49_1, List.getD_cons_zero, List.getD_cons_succ, List.set_cons_zero, List.set_cons_succ, List.length_cons, List.length_nil, pk_I, pk_A, pr_A, pi_I, st_s, st_n, if_true, if_false, eq_self, d_if, d_ju, d_re, d_ca, cat0, cat1, cat2, cat3, fr_z, fr_s, cc_I, cc_A, cc_N, Nat.reduceAdd, Nat.reduceLT, Nat.reduceLeDiff, Nat.reduceEqDiff, not_true, not_false_iff, z1_0, z1_1, Bool.and_self, Bool.true_and, Bool.and_true, nI_add, pk_mul, nI_clamp, decide_true, Nat.le_refl, bI_eq, bI_z1, nI_ltI, nI_leI, k18, k398, hbp]
        split
        · rename_i hw
          rw [x1, rt_up h8 _ N (by omega) (by omega), if_neg hw] at hQ
          refine go_at (blk := b_Model_rests_81) rfl ?_
          simp (disch := omega) only [b_Model_rests_81, be_2, be_0, List.getD_cons_zero, List.getD_cons_succ, List.set_cons_zero, List.set_cons_succ, List.length_cons, List.length_nil, pk_I, pk_A, pr_A, pi_I, st_s, st_n, if_true, if_false, eq_self, d_if, d_ju, d_re, d_ca, cat0, cat1, cat2, cat3, fr_z, fr_s, cc_I, cc_A, cc_N, Nat.reduceAdd, Nat.reduceLT, Nat.reduceLeDiff, Nat.reduceEqDiff, not_true, not_false_iff, z1_0, z1_1, Bool.and_self, Bool.true_and, Bool.and_true, nI_add, pk_mul, nI_clamp, decide_true, Nat.le_refl, bI_eq, bI_z1, nI_ltI, nI_leI, k18, k398, hbp]
          refine go_at (blk := b_Model_rests_82) rfl ?_
          simp (disch := omega) only [b_Model_rests_82, be_54, List.getD_cons_zero, List.getD_cons_succ, List.set_cons_zero, List.set_cons_succ, List.length_cons, List.length_nil, pk_I, pk_A, pr_A, pi_I, st_s, st_n, if_true, if_false, eq_self, d_if, d_ju, d_re, d_ca, cat0, cat1, cat2, cat3, fr_z, fr_s, cc_I, cc_A, cc_N, Nat.reduceAdd, Nat.reduceLT, Nat.reduceLeDiff, Nat.reduceEqDiff, not_true, not_false_iff, z1_0, z1_1, Bool.and_self, Bool.true_and, Bool.and_true, nI_add, pk_mul, nI_clamp, decide_true, Nat.le_refl, bI_eq, bI_z1, nI_ltI, nI_leI, k18, k398, hbp]
          exact hQ v2 q2
        · rename_i hw
          rw [x1, rt_up h8 _ N (by omega) (by omega), if_pos (Decidable.not_not.mp hw)] at hQ
          refine go_at (blk := b_Model_rests_77) rfl ?_
          simp (disch := omega) only [b_Model_rests_77, be_4, be_51, List.getD_cons_zero, List.getD_cons_succ, List.set_cons_zero, List.set_cons_succ, List.length_cons, List.length_nil, pk_I, pk_A, pr_A, pi_I, st_s, st_n, if_true, if_false, eq_self, d_if, d_ju, d_re, d_ca, cat0, cat1, cat2, cat3, fr_z, fr_s, cc_I, cc_A, cc_N, Nat.reduceAdd, Nat.reduceLT, Nat.reduceLeDiff, Nat.reduceEqDiff, not_true, not_false_iff, z1_0, z1_1, Bool.and_self, Bool.true_and, Bool.and_true, nI_add, pk_mul, nI_clamp, decide_true, Nat.le_refl, bI_eq, bI_z1, nI_ltI, nI_leI, k18, k398, hbp]
          refine go_at (blk := b_Model_rests_82) rfl ?_
          simp (disch := omega) only [b_Model_rests_82, be_54, List.getD_cons_zero, List.getD_cons_succ, List.set_cons_zero, List.set_cons_succ, List.length_cons, List.length_nil, pk_I, pk_A, pr_A, pi_I, st_s, st_n, if_true, if_false, eq_self, d_if, d_ju, d_re, d_ca, cat0, cat1, cat2, cat3, fr_z, fr_s, cc_I, cc_A, cc_N, Nat.reduceAdd, Nat.reduceLT, Nat.reduceLeDiff, Nat.reduceEqDiff, not_true, not_false_iff, z1_0, z1_1, Bool.and_self, Bool.true_and, Bool.and_true, nI_add, pk_mul, nI_clamp, decide_true, Nat.le_refl, bI_eq, bI_z1, nI_ltI, nI_leI, k18, k398, hbp]
          exact hQ v2 q2
    · rename_i h1
      have h1 : (!decide (z < -1)) = false := by rw [decide_eq_true (Int32.not_le.mp h1)]; rfl
      refine go_at (blk := b_Model_rests_15) rfl ?_
      simp (disch := omega) only [b_Model_rests_15, be_2, be_54, List.getD_cons_zero, List.getD_cons_succ, List.set_cons_zero, List.set_cons_succ, List.length_cons, List.length_nil, pk_I, pk_A, pr_A, pi_I, st_s, st_n, if_true, if_false, eq_self, d_if, d_ju, d_re, d_ca, cat0, cat1, cat2, cat3, fr_z, fr_s, cc_I, cc_A, cc_N, Nat.reduceAdd, Nat.reduceLT, Nat.reduceLeDiff, Nat.reduceEqDiff, not_true, not_false_iff, z1_0, z1_1, Bool.and_self, Bool.true_and, Bool.and_true, nI_add, pk_mul, nI_clamp, decide_true, Nat.le_refl, bI_eq, bI_z1]
      unfold rtA at hQ
      rw [if_neg (by rw [h1]; simp)] at hQ
      exact hQ v MW_r
