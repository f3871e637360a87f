/-! laid by wip/whole/h3.py: the law: calls that change what is now -/
theorem CK_k {B C : Int} {v v' : Nat → Nat → Int32} {T : TXT} {f : Nat → Int32} {sz : Nat} {h : Nat → Nat → Int32} {m : Nat} {tp tm : Nat → Nat} {ts : Nat → Int32} {hd : Nat → Bool} {hs : Nat → Nat → Int32} {len : Nat} {P : Nat → Int32} {pl : Int32} (hc : CK B v T f sz h m tp tm ts hd hs len P pl) {f' : Nat → Int32} {sz' nx' : Nat} {h' : Nat → Nat → Int32} (e : FM v v') (hr : RX v' 42 (tN T) (-1) 0 f') (hp : PI v' (tN T) nx' sz' h') (hg : RG C (tN T) f') (hC : C ≤ 200000) : CK C v' T f' sz' h' m tp tm ts hd hs len P pl := by
  obtain ⟨⟨k1, k2, k3, k4, k5, k6⟩, _, x, s, t1, t2, t3⟩ := hc
  have e0 : ∀ c, c ≠ 35 → c ≠ 36 → c ≠ 40 → c ≠ 41 → (c < 42 ∨ 48 < c) → (c < 50 ∨ 349 < c) → v' c = v c := e
  refine ⟨⟨KX_w k1 (fun c _ _ _ _ => e0 c (by omega) (by omega) (by omega) (by omega) (by omega) (by omega)), hr, hg.1, k4, hg.2.1, hC⟩, ⟨nx', hp⟩, ?_, fun q hq => ?_, by rw [e0 0 (by omega) (by omega) (by omega) (by omega) (by omega) (by omega)]; exact t1, by rw [e0 1 (by omega) (by omega) (by omega) (by omega) (by omega) (by omega)]; exact t2, by rw [e0 0 (by omega) (by omega) (by omega) (by omega) (by omega) (by omega)]; exact t3⟩
  · unfold WX at *
    rw [e0 358 (by omega) (by omega) (by omega) (by omega) (by omega) (by omega), e0 359 (by omega) (by omega) (by omega) (by omega) (by omega) (by omega), e0 360 (by omega) (by omega) (by omega) (by omega) (by omega) (by omega), e0 361 (by omega) (by omega) (by omega) (by omega) (by omega) (by omega)]
    exact x
  · rw [e0 369 (by omega) (by omega) (by omega) (by omega) (by omega) (by omega)]
    exact ⟨(s q hq).1, fun z => RX_w ((s q hq).2 z) (fun c _ _ => e0 c (by omega) (by omega) (by omega) (by omega) (by omega) (by omega))⟩
theorem FM_8 {v v' : Nat → Nat → Int32} (e : FM v v') : ∀ c, 388 ≤ c → v' c = v c := fun c hc => e c (by omega) (by omega) (by omega) (by omega) (by omega) (by omega)
theorem FM_u {v v' : Nat → Nat → Int32} (e : ∀ c, c ≠ 48 → (c < 42 ∨ 47 < c) → v' c = v c) : FM v v' := fun c _ _ _ _ a _ => e c (by omega) (by omega)
theorem CM_k {B C : Int} {v v' : Nat → Nat → Int32} {w : Nat → Nat → Int64} {T : TXT} {f : Nat → Int32} {sz : Nat} {h : Nat → Nat → Int32} {m : Nat} {tp tm : Nat → Nat} {ts : Nat → Int32} {hd : Nat → Bool} {hs : Nat → Nat → Int32} {len : Nat} {P : Nat → Int32} {pl : Int32} (hc : CM B v w T f sz h m tp tm ts hd hs len P pl) {f' : Nat → Int32} {sz' : Nat} {h' : Nat → Nat → Int32} (e : MK v v') (h8 : v' 418 = f') (h9 : ∀ j, 50 ≤ j → v' 419 j = f' j) (hx : HX v' sz' h') (hg : RG C (tN T) f') (hC : C ≤ 200000) : CM C v' w T f' sz' h' m tp tm ts hd hs len P pl := by
  obtain ⟨lv, o0, o1, k, x, y, s, t1, t2, t3, l0, l1, ky⟩ := hc
  have e0 := e.1
  have e8 := e.2
  refine ⟨lv, o0, o1, ⟨MX_w k.1 (fun c _ _ => e0 c (by omega) (by omega) (by omega) (by omega) (by omega) (by omega)) (e8 18 (by omega) (by omega) (by omega) (by omega)), h8, h9, hg.1, k.2.2.2.2.1, hg.2.1, hC⟩, hx, ?_, fun q hq => ?_, by rw [e8 2 (by omega) (by omega) (by omega) (by omega)]; exact t1, by rw [e0 389 (by omega) (by omega) (by omega) (by omega) (by omega) (by omega)]; exact t2, by rw [e8 17 (by omega) (by omega) (by omega) (by omega)]; exact t3, LWO_w l0 (fun c _ _ => e0 c (by omega) (by omega) (by omega) (by omega) (by omega) (by omega)), LWO_w l1 (fun c _ _ => e0 c (by omega) (by omega) (by omega) (by omega) (by omega) (by omega)), ky⟩
  · unfold WM at *
    rw [e8 55 (by omega) (by omega) (by omega) (by omega), e0 423 (by omega) (by omega) (by omega) (by omega) (by omega) (by omega), e0 424 (by omega) (by omega) (by omega) (by omega) (by omega) (by omega), e0 425 (by omega) (by omega) (by omega) (by omega) (by omega) (by omega)]
    exact y
  · rw [e0 426 (by omega) (by omega) (by omega) (by omega) (by omega) (by omega), e0 427 (by omega) (by omega) (by omega) (by omega) (by omega) (by omega)]
    exact s q hq
theorem MK_8 {v v' : Nat → Nat → Int32} (e : MK v v') : ∀ c, c < 388 → v' c = v c := fun c hc => e.1 c (by omega) (by omega) (by omega) (by omega) (by omega) (by omega)
theorem MK_u {v v' : Nat → Nat → Int32} (e : ∀ c, c ≠ 418 → c ≠ 388 → v' c = v c) (e8 : ∀ k, k ≠ 51 → v' 388 k = v 388 k) : MK v v' := ⟨fun c _ _ a _ _ b => e c a b, fun k _ _ _ a => e8 k a⟩
theorem CP_k {B C : Int} {T : TXT} {f f' : Nat → Int32} {sz : Nat} {h : Nat → Nat → Int32} {hd : Nat → Bool} {hs : Nat → Nat → Int32} {len : Nat} {P : Nat → Int32} (hc : CP B T f sz h hd hs len P) (hs5 : sz ≤ 50) (hg : RG C (tN T) f') (e : B ≤ C) : CP C T f' (if sz < 50 then sz + 1 else 50) (coH f h) hd hs len P := by
  refine ⟨hg, fun j hj => ?_, fun s hs z => RG_le (hc.2.2.1 s hs z) e, hc.2.2.2⟩
  cases j with
  | zero => exact RG_le hc.1 e
  | succ j => exact RG_le (hc.2.1 j (by split at hj <;> omega)) e
theorem cnt_hh {a b : Nat → Int32} (h : ∀ s, s < 3 → a s = b s) : hhN a 3 = hhN b 3 := by
  unfold hhN
  exact cnt_cong (fun p hp => by rw [h p hp])
theorem x_slot {x : Int32} (h : ¬ (x < 0 ∨ nI 3 ≤ x)) : ∃ s, s < 3 ∧ x = nI s := by
  obtain ⟨j, hj, rfl⟩ := nI_of (fun z => h (Or.inl z))
  refine ⟨j, ?_, rfl⟩
  have h2 : ¬ nI 3 ≤ nI j := fun z => h (Or.inr z)
  rw [nI_leI (by omega) hj] at h2
  omega
theorem x_slot0 {x : Int32} : (x < 0 ∨ nI 3 ≤ x) ↔ (x < 0 ∨ nI 2 < x) := by
  by_cases h : x < 0
  · exact ⟨fun _ => Or.inl h, fun _ => Or.inl h⟩
  · obtain ⟨j, hj, rfl⟩ := nI_of h
    rw [nI_leI (by omega) hj, nI_ltI (by omega) hj]
    constructor
    · intro z
      rcases z with z | z
      · exact Or.inl z
      · exact Or.inr (by omega)
    · intro z
      rcases z with z | z
      · exact Or.inl z
      · exact Or.inr (by omega)
theorem x_sne {x : Int32} {s : Nat} (h : x < 0 ∨ nI 3 ≤ x) (hs : s < 3) (e : x = nI s) : False := by
  subst e
  rcases h with h | h
  · exact nn_lt (by omega) h
  · rw [nI_leI (by omega) (by omega)] at h
    omega
theorem x_run {x : Int32} {k : Nat} (h : x < 0 ∨ nI 300 < x) (hk : k ≤ 300) (e : x = nI k) : False := by
  subst e
  rcases h with h | h
  · exact nn_lt (by omega) h
  · rw [nI_ltI (by omega) (by omega)] at h
    omega
theorem nI_ij {a b : Nat} (ha : a ≤ 1000) (hb : b ≤ 1000) (h : nI a = nI b) : a = b := (nI_eq (by omega) (by omega)).mp h
theorem bI_ne {b : Bool} (h : ¬ bI b = 0) : b = true := by
  cases b with
  | true => rfl
  | false => exact absurd rfl h
theorem bI_nt {b : Bool} (h : b = true) : ¬ bI b = 0 := by rw [h]; decide
set_option maxHeartbeats 2000000 in
theorem s_place {d i : Nat} {X : am_X} {u : UInt32} {v : Nat → Nat → Int32} {w : Nat → Nat → Int64} {Q : Option Value → am_H → Prop} {B : Int} (hX : X.1 ≤ 3072) (hi : i + 6 ≤ X.1) (hL : LI B v w) (hB : B + 300 ≤ 200000) (hn : ∀ v' w', LI (B + 300) v' w' → am_Go X (d + 29) k_law 1233 ([.float u, .ref 0, .ref 388, .int (nI i)], [], (428, 26053, KD, RF, v', w')) Q) : am_Go X (d + 29) k_law 295 ([.float u, .ref 0, .ref 388, .int (nI i)], [], (428, 26053, KD, RF, v, w)) Q := by
  obtain ⟨T, f, sz, h, m, tp, tm, ts, hd, hs, len, P, pl, ck, cm, cp⟩ := hL
  have cm0 := cm
  obtain ⟨lv, o0, o1, mi, hx, wm, hh, c2, c9, c17, l0, l1, ky⟩ := cm0
  have ck0 := ck
  obtain ⟨ki, ⟨nx, hP⟩, wx, hk, d1, d2, d3⟩ := ck0
  have e02 := d3
  have e17 := c17
  refine go_at (blk := b_law_295) rfl ?_
  simp (disch := omega) only [b_law_295, be_6, be_57_0, kc_0, List.getD_cons_zero, List.getD_cons_succ, List.set_cons_zero, List.set_cons_succ, List.length_cons, List.length_nil, pk_I, pk_A, pr_A, pi_I, st_s, st_n, if_true, if_false, eq_self, d_if, d_ju, d_re, d_ca, cat0, cat1, cat2, cat3, fr_z, fr_s, cc_I, cc_A, cc_N, Nat.reduceAdd, Nat.reduceLT, Nat.reduceLeDiff, Nat.reduceEqDiff, not_true, not_false_iff, z1_0, z1_1, Bool.and_self, Bool.true_and, Bool.and_true, nI_add, pk_mul, nI_clamp, decide_true, Nat.le_refl, bI_eq, bI_z1, in_nI, pk_F, e02, e17]
  refine p_place ?_
  refine go_at (blk := b_law_299) rfl ?_
  simp (disch := omega) only [b_law_299, be_6, be_57_0, kc_388, List.getD_cons_zero, List.getD_cons_succ, List.set_cons_zero, List.set_cons_succ, List.length_cons, List.length_nil, pk_I, pk_A, pr_A, pi_I, st_s, st_n, if_true, if_false, eq_self, d_if, d_ju, d_re, d_ca, cat0, cat1, cat2, cat3, fr_z, fr_s, cc_I, cc_A, cc_N, Nat.reduceAdd, Nat.reduceLT, Nat.reduceLeDiff, Nat.reduceEqDiff, not_true, not_false_iff, z1_0, z1_1, Bool.and_self, Bool.true_and, Bool.and_true, nI_add, pk_mul, nI_clamp, decide_true, Nat.le_refl, bI_eq, bI_z1, in_nI, pk_F, e02, e17]
  refine r_place ?_
  have ck2 := ck
  have cm2 := cm
  have cp2 := cp
  refine go_at (blk := b_law_303) rfl ?_
  simp (disch := omega) only [b_law_303, be_49_0, List.getD_cons_zero, List.getD_cons_succ, List.set_cons_zero, List.set_cons_succ, List.length_cons, List.length_nil, pk_I, pk_A, pr_A, pi_I, st_s, st_n, if_true, if_false, eq_self, d_if, d_ju, d_re, d_ca, cat0, cat1, cat2, cat3, fr_z, fr_s, cc_I, cc_A, cc_N, Nat.reduceAdd, Nat.reduceLT, Nat.reduceLeDiff, Nat.reduceEqDiff, not_true, not_false_iff, z1_0, z1_1, Bool.and_self, Bool.true_and, Bool.and_true, nI_add, pk_mul, nI_clamp, decide_true, Nat.le_refl, bI_eq, bI_z1, in_nI, pk_F, e02, e17]
  exact hn _ w (LI_le ⟨_, _, _, _, _, _, _, _, _, _, _, _, _, ck2, cm2, cp2⟩ (by omega) hB)
set_option maxHeartbeats 2000000 in
theorem s_count {d i : Nat} {X : am_X} {u : UInt32} {v : Nat → Nat → Int32} {w : Nat → Nat → Int64} {Q : Option Value → am_H → Prop} {B : Int} (hX : X.1 ≤ 3072) (hi : i + 6 ≤ X.1) (hL : LI B v w) (hB : B + 300 ≤ 200000) (hn : ∀ v' w', LI (B + 300) v' w' → am_Go X (d + 29) k_law 1233 ([.float u, .ref 0, .ref 388, .int (nI i)], [], (428, 26053, KD, RF, v', w')) Q) : am_Go X (d + 29) k_law 1210 ([.float u, .ref 0, .ref 388, .int (nI i)], [], (428, 26053, KD, RF, v, w)) Q := by
  obtain ⟨T, f, sz, h, m, tp, tm, ts, hd, hs, len, P, pl, ck, cm, cp⟩ := hL
  have cm0 := cm
  obtain ⟨lv, o0, o1, mi, hx, wm, hh, c2, c9, c17, l0, l1, ky⟩ := cm0
  have ck0 := ck
  obtain ⟨ki, ⟨nx, hP⟩, wx, hk, d1, d2, d3⟩ := ck0
  refine go_at (blk := b_law_1210) rfl ?_
  simp (disch := omega) only [b_law_1210, be_6, be_4, be_1, be_12, be_71, be_57_1, kc_0, List.getD_cons_zero, List.getD_cons_succ, List.set_cons_zero, List.set_cons_succ, List.length_cons, List.length_nil, pk_I, pk_A, pr_A, pi_I, st_s, st_n, if_true, if_false, eq_self, d_if, d_ju, d_re, d_ca, cat0, cat1, cat2, cat3, fr_z, fr_s, cc_I, cc_A, cc_N, Nat.reduceAdd, Nat.reduceLT, Nat.reduceLeDiff, Nat.reduceEqDiff, not_true, not_false_iff, z1_0, z1_1, Bool.and_self, Bool.true_and, Bool.and_true, nI_add, pk_mul, nI_clamp, decide_true, Nat.le_refl, bI_eq, bI_z1, in_nI, pk_F]
  refine p_count ki ?_
  rw [d1, hP.2.2.1, wx.1, cnt_hh (b := v 426) (fun s hs => by rw [(hk s hs).1, (hh s hs).1])]
  refine go_at (blk := b_law_1219) rfl ?_
  simp (disch := omega) only [b_law_1219, be_6, be_4, be_1, be_12, be_71, be_57_1, kc_388, List.getD_cons_zero, List.getD_cons_succ, List.set_cons_zero, List.set_cons_succ, List.length_cons, List.length_nil, pk_I, pk_A, pr_A, pi_I, st_s, st_n, if_true, if_false, eq_self, d_if, d_ju, d_re, d_ca, cat0, cat1, cat2, cat3, fr_z, fr_s, cc_I, cc_A, cc_N, Nat.reduceAdd, Nat.reduceLT, Nat.reduceLeDiff, Nat.reduceEqDiff, not_true, not_false_iff, z1_0, z1_1, Bool.and_self, Bool.true_and, Bool.and_true, nI_add, pk_mul, nI_clamp, decide_true, Nat.le_refl, bI_eq, bI_z1, in_nI, pk_F]
  refine r_count mi ?_
  intro v2 g2
  rw [c2, hx.1, wm.1]
  have ck2 := CK_f ck (MW_8 (MW_f g2))
  have cm2 := CM_w cm (MW_f g2)
  have cp2 := cp
  refine go_at (blk := b_law_1228) rfl ?_
  simp (disch := omega) only [b_law_1228, be_49_0, List.getD_cons_zero, List.getD_cons_succ, List.set_cons_zero, List.set_cons_succ, List.length_cons, List.length_nil, pk_I, pk_A, pr_A, pi_I, st_s, st_n, if_true, if_false, eq_self, d_if, d_ju, d_re, d_ca, cat0, cat1, cat2, cat3, fr_z, fr_s, cc_I, cc_A, cc_N, Nat.reduceAdd, Nat.reduceLT, Nat.reduceLeDiff, Nat.reduceEqDiff, not_true, not_false_iff, z1_0, z1_1, Bool.and_self, Bool.true_and, Bool.and_true, nI_add, pk_mul, nI_clamp, decide_true, Nat.le_refl, bI_eq, bI_z1, in_nI, pk_F]
  exact hn _ w (LI_le ⟨_, _, _, _, _, _, _, _, _, _, _, _, _, ck2, cm2, cp2⟩ (by omega) hB)
set_option maxHeartbeats 2000000 in
theorem s_share {d i : Nat} {X : am_X} {u : UInt32} {v : Nat → Nat → Int32} {w : Nat → Nat → Int64} {Q : Option Value → am_H → Prop} {B : Int} (hX : X.1 ≤ 3072) (hi : i + 6 ≤ X.1) (hL : LI B v w) (hB : B + 300 ≤ 200000) (hn : ∀ v' w', LI (B + 300) v' w' → am_Go X (d + 29) k_law 1233 ([.float u, .ref 0, .ref 388, .int (nI i)], [], (428, 26053, KD, RF, v', w')) Q) : am_Go X (d + 29) k_law 904 ([.float u, .ref 0, .ref 388, .int (nI i)], [], (428, 26053, KD, RF, v, w)) Q := by
  obtain ⟨T, f, sz, h, m, tp, tm, ts, hd, hs, len, P, pl, ck, cm, cp⟩ := hL
  have cm0 := cm
  obtain ⟨lv, o0, o1, mi, hx, wm, hh, c2, c9, c17, l0, l1, ky⟩ := cm0
  have ck0 := ck
  obtain ⟨ki, ⟨nx, hP⟩, wx, hk, d1, d2, d3⟩ := ck0
  by_cases hz : X.2 (i + 2) = 0
  ·
    refine go_at (blk := b_law_904) rfl ?_
    simp (disch := omega) only [b_law_904, be_6, be_4, be_1, be_12, be_71, be_50_0, List.getD_cons_zero, List.getD_cons_succ, List.set_cons_zero, List.set_cons_succ, List.length_cons, List.length_nil, pk_I, pk_A, pr_A, pi_I, st_s, st_n, if_true, if_false, eq_self, d_if, d_ju, d_re, d_ca, cat0, cat1, cat2, cat3, fr_z, fr_s, cc_I, cc_A, cc_N, Nat.reduceAdd, Nat.reduceLT, Nat.reduceLeDiff, Nat.reduceEqDiff, not_true, not_false_iff, z1_0, z1_1, Bool.and_self, Bool.true_and, Bool.and_true, nI_add, pk_mul, nI_clamp, decide_true, Nat.le_refl, bI_eq, bI_z1, in_nI, pk_F, hz]
    refine go_at (blk := b_law_922) rfl ?_
    simp (disch := omega) only [b_law_922, be_1, be_0, List.getD_cons_zero, List.getD_cons_succ, List.set_cons_zero, List.set_cons_succ, List.length_cons, List.length_nil, pk_I, pk_A, pr_A, pi_I, st_s, st_n, if_true, if_false, eq_self, d_if, d_ju, d_re, d_ca, cat0, cat1, cat2, cat3, fr_z, fr_s, cc_I, cc_A, cc_N, Nat.reduceAdd, Nat.reduceLT, Nat.reduceLeDiff, Nat.reduceEqDiff, not_true, not_false_iff, z1_0, z1_1, Bool.and_self, Bool.true_and, Bool.and_true, nI_add, pk_mul, nI_clamp, decide_true, Nat.le_refl, bI_eq, bI_z1, in_nI, pk_F, hz]
    refine go_at (blk := b_law_923) rfl ?_
    simp (disch := omega) only [b_law_923, be_57_2, kc_0, List.getD_cons_zero, List.getD_cons_succ, List.set_cons_zero, List.set_cons_succ, List.length_cons, List.length_nil, pk_I, pk_A, pr_A, pi_I, st_s, st_n, if_true, if_false, eq_self, d_if, d_ju, d_re, d_ca, cat0, cat1, cat2, cat3, fr_z, fr_s, cc_I, cc_A, cc_N, Nat.reduceAdd, Nat.reduceLT, Nat.reduceLeDiff, Nat.reduceEqDiff, not_true, not_false_iff, z1_0, z1_1, Bool.and_self, Bool.true_and, Bool.and_true, nI_add, pk_mul, nI_clamp, decide_true, Nat.le_refl, bI_eq, bI_z1, in_nI, pk_F, hz]
    refine p_share ki ?_
    refine go_at (blk := b_law_926) rfl ?_
    simp (disch := omega) only [b_law_926, be_6, be_4, be_1, be_12, be_71, be_50_0, List.getD_cons_zero, List.getD_cons_succ, List.set_cons_zero, List.set_cons_succ, List.length_cons, List.length_nil, pk_I, pk_A, pr_A, pi_I, st_s, st_n, if_true, if_false, eq_self, d_if, d_ju, d_re, d_ca, cat0, cat1, cat2, cat3, fr_z, fr_s, cc_I, cc_A, cc_N, Nat.reduceAdd, Nat.reduceLT, Nat.reduceLeDiff, Nat.reduceEqDiff, not_true, not_false_iff, z1_0, z1_1, Bool.and_self, Bool.true_and, Bool.and_true, nI_add, pk_mul, nI_clamp, decide_true, Nat.le_refl, bI_eq, bI_z1, in_nI, pk_F, hz]
    refine go_at (blk := b_law_944) rfl ?_
    simp (disch := omega) only [b_law_944, be_1, be_0, List.getD_cons_zero, List.getD_cons_succ, List.set_cons_zero, List.set_cons_succ, List.length_cons, List.length_nil, pk_I, pk_A, pr_A, pi_I, st_s, st_n, if_true, if_false, eq_self, d_if, d_ju, d_re, d_ca, cat0, cat1, cat2, cat3, fr_z, fr_s, cc_I, cc_A, cc_N, Nat.reduceAdd, Nat.reduceLT, Nat.reduceLeDiff, Nat.reduceEqDiff, not_true, not_false_iff, z1_0, z1_1, Bool.and_self, Bool.true_and, Bool.and_true, nI_add, pk_mul, nI_clamp, decide_true, Nat.le_refl, bI_eq, bI_z1, in_nI, pk_F, hz]
    refine go_at (blk := b_law_945) rfl ?_
    simp (disch := omega) only [b_law_945, be_57_2, kc_388, List.getD_cons_zero, List.getD_cons_succ, List.set_cons_zero, List.set_cons_succ, List.length_cons, List.length_nil, pk_I, pk_A, pr_A, pi_I, st_s, st_n, if_true, if_false, eq_self, d_if, d_ju, d_re, d_ca, cat0, cat1, cat2, cat3, fr_z, fr_s, cc_I, cc_A, cc_N, Nat.reduceAdd, Nat.reduceLT, Nat.reduceLeDiff, Nat.reduceEqDiff, not_true, not_false_iff, z1_0, z1_1, Bool.and_self, Bool.true_and, Bool.and_true, nI_add, pk_mul, nI_clamp, decide_true, Nat.le_refl, bI_eq, bI_z1, in_nI, pk_F, hz]
    refine r_share mi ?_
    have ck2 := ck
    have cm2 := cm
    have cp2 := cp
    refine go_at (blk := b_law_948) rfl ?_
    simp (disch := omega) only [b_law_948, be_49_0, List.getD_cons_zero, List.getD_cons_succ, List.set_cons_zero, List.set_cons_succ, List.length_cons, List.length_nil, pk_I, pk_A, pr_A, pi_I, st_s, st_n, if_true, if_false, eq_self, d_if, d_ju, d_re, d_ca, cat0, cat1, cat2, cat3, fr_z, fr_s, cc_I, cc_A, cc_N, Nat.reduceAdd, Nat.reduceLT, Nat.reduceLeDiff, Nat.reduceEqDiff, not_true, not_false_iff, z1_0, z1_1, Bool.and_self, Bool.true_and, Bool.and_true, nI_add, pk_mul, nI_clamp, decide_true, Nat.le_refl, bI_eq, bI_z1, in_nI, pk_F, hz]
    exact hn _ w (LI_le ⟨_, _, _, _, _, _, _, _, _, _, _, _, _, ck2, cm2, cp2⟩ (by omega) hB)
  ·
    refine go_at (blk := b_law_904) rfl ?_
    simp (disch := omega) only [b_law_904, be_6, be_4, be_1, be_12, be_71, be_50_0, List.getD_cons_zero, List.getD_cons_succ, List.set_cons_zero, List.set_cons_succ, List.length_cons, List.length_nil, pk_I, pk_A, pr_A, pi_I, st_s, st_n, if_true, if_false, eq_self, d_if, d_ju, d_re, d_ca, cat0, cat1, cat2, cat3, fr_z, fr_s, cc_I, cc_A, cc_N, Nat.reduceAdd, Nat.reduceLT, Nat.reduceLeDiff, Nat.reduceEqDiff, not_true, not_false_iff, z1_0, z1_1, Bool.and_self, Bool.true_and, Bool.and_true, nI_add, pk_mul, nI_clamp, decide_true, Nat.le_refl, bI_eq, bI_z1, in_nI, pk_F, hz]
    refine go_at (blk := b_law_918) rfl ?_
    simp (disch := omega) only [b_law_918, be_1, be_51, List.getD_cons_zero, List.getD_cons_succ, List.set_cons_zero, List.set_cons_succ, List.length_cons, List.length_nil, pk_I, pk_A, pr_A, pi_I, st_s, st_n, if_true, if_false, eq_self, d_if, d_ju, d_re, d_ca, cat0, cat1, cat2, cat3, fr_z, fr_s, cc_I, cc_A, cc_N, Nat.reduceAdd, Nat.reduceLT, Nat.reduceLeDiff, Nat.reduceEqDiff, not_true, not_false_iff, z1_0, z1_1, Bool.and_self, Bool.true_and, Bool.and_true, nI_add, pk_mul, nI_clamp, decide_true, Nat.le_refl, bI_eq, bI_z1, in_nI, pk_F, hz]
    refine go_at (blk := b_law_923) rfl ?_
    simp (disch := omega) only [b_law_923, be_57_2, kc_0, List.getD_cons_zero, List.getD_cons_succ, List.set_cons_zero, List.set_cons_succ, List.length_cons, List.length_nil, pk_I, pk_A, pr_A, pi_I, st_s, st_n, if_true, if_false, eq_self, d_if, d_ju, d_re, d_ca, cat0, cat1, cat2, cat3, fr_z, fr_s, cc_I, cc_A, cc_N, Nat.reduceAdd, Nat.reduceLT, Nat.reduceLeDiff, Nat.reduceEqDiff, not_true, not_false_iff, z1_0, z1_1, Bool.and_self, Bool.true_and, Bool.and_true, nI_add, pk_mul, nI_clamp, decide_true, Nat.le_refl, bI_eq, bI_z1, in_nI, pk_F, hz]
    refine p_share ki ?_
    refine go_at (blk := b_law_926) rfl ?_
    simp (disch := omega) only [b_law_926, be_6, be_4, be_1, be_12, be_71, be_50_0, List.getD_cons_zero, List.getD_cons_succ, List.set_cons_zero, List.set_cons_succ, List.length_cons, List.length_nil, pk_I, pk_A, pr_A, pi_I, st_s, st_n, if_true, if_false, eq_self, d_if, d_ju, d_re, d_ca, cat0, cat1, cat2, cat3, fr_z, fr_s, cc_I, cc_A, cc_N, Nat.reduceAdd, Nat.reduceLT, Nat.reduceLeDiff, Nat.reduceEqDiff, not_true, not_false_iff, z1_0, z1_1, Bool.and_self, Bool.true_and, Bool.and_true, nI_add, pk_mul, nI_clamp, decide_true, Nat.le_refl, bI_eq, bI_z1, in_nI, pk_F, hz]
    refine go_at (blk := b_law_940) rfl ?_
    simp (disch := omega) only [b_law_940, be_1, be_51, List.getD_cons_zero, List.getD_cons_succ, List.set_cons_zero, List.set_cons_succ, List.length_cons, List.length_nil, pk_I, pk_A, pr_A, pi_I, st_s, st_n, if_true, if_false, eq_self, d_if, d_ju, d_re, d_ca, cat0, cat1, cat2, cat3, fr_z, fr_s, cc_I, cc_A, cc_N, Nat.reduceAdd, Nat.reduceLT, Nat.reduceLeDiff, Nat.reduceEqDiff, not_true, not_false_iff, z1_0, z1_1, Bool.and_self, Bool.true_and, Bool.and_true, nI_add, pk_mul, nI_clamp, decide_true, Nat.le_refl, bI_eq, bI_z1, in_nI, pk_F, hz]
    refine go_at (blk := b_law_945) rfl ?_
    simp (disch := omega) only [b_law_945, be_57_2, kc_388, List.getD_cons_zero, List.getD_cons_succ, List.set_cons_zero, List.set_cons_succ, List.length_cons, List.length_nil, pk_I, pk_A, pr_A, pi_I, st_s, st_n, if_true, if_false, eq_self, d_if, d_ju, d_re, d_ca, cat0, cat1, cat2, cat3, fr_z, fr_s, cc_I, cc_A, cc_N, Nat.reduceAdd, Nat.reduceLT, Nat.reduceLeDiff, Nat.reduceEqDiff, not_true, not_false_iff, z1_0, z1_1, Bool.and_self, Bool.true_and, Bool.and_true, nI_add, pk_mul, nI_clamp, decide_true, Nat.le_refl, bI_eq, bI_z1, in_nI, pk_F, hz]
    refine r_share mi ?_
    have ck2 := ck
    have cm2 := cm
    have cp2 := cp
    refine go_at (blk := b_law_948) rfl ?_
    simp (disch := omega) only [b_law_948, be_49_0, List.getD_cons_zero, List.getD_cons_succ, List.set_cons_zero, List.set_cons_succ, List.length_cons, List.length_nil, pk_I, pk_A, pr_A, pi_I, st_s, st_n, if_true, if_false, eq_self, d_if, d_ju, d_re, d_ca, cat0, cat1, cat2, cat3, fr_z, fr_s, cc_I, cc_A, cc_N, Nat.reduceAdd, Nat.reduceLT, Nat.reduceLeDiff, Nat.reduceEqDiff, not_true, not_false_iff, z1_0, z1_1, Bool.and_self, Bool.true_and, Bool.and_true, nI_add, pk_mul, nI_clamp, decide_true, Nat.le_refl, bI_eq, bI_z1, in_nI, pk_F, hz]
    exact hn _ w (LI_le ⟨_, _, _, _, _, _, _, _, _, _, _, _, _, ck2, cm2, cp2⟩ (by omega) hB)
set_option maxHeartbeats 2000000 in
theorem s_kneel {d i : Nat} {X : am_X} {u : UInt32} {v : Nat → Nat → Int32} {w : Nat → Nat → Int64} {Q : Option Value → am_H → Prop} {B : Int} (hX : X.1 ≤ 3072) (hi : i + 6 ≤ X.1) (hL : LI B v w) (hB : B + 300 ≤ 200000) (hn : ∀ v' w', LI (B + 300) v' w' → am_Go X (d + 29) k_law 1233 ([.float u, .ref 0, .ref 388, .int (nI i)], [], (428, 26053, KD, RF, v', w')) Q) : am_Go X (d + 29) k_law 354 ([.float u, .ref 0, .ref 388, .int (nI i)], [], (428, 26053, KD, RF, v, w)) Q := by
  obtain ⟨T, f, sz, h, m, tp, tm, ts, hd, hs, len, P, pl, ck, cm, cp⟩ := hL
  have cm0 := cm
  obtain ⟨lv, o0, o1, mi, hx, wm, hh, c2, c9, c17, l0, l1, ky⟩ := cm0
  have ck0 := ck
  obtain ⟨ki, ⟨nx, hP⟩, wx, hk, d1, d2, d3⟩ := ck0
  cases hko : knO T f (X.2 (i + 1)) with
  | none =>
    refine go_at (blk := b_law_354) rfl ?_
    simp (disch := omega) only [b_law_354, be_6, be_4, be_1, be_12, be_71, be_57_1, kc_0, List.getD_cons_zero, List.getD_cons_succ, List.set_cons_zero, List.set_cons_succ, List.length_cons, List.length_nil, pk_I, pk_A, pr_A, pi_I, st_s, st_n, if_true, if_false, eq_self, d_if, d_ju, d_re, d_ca, cat0, cat1, cat2, cat3, fr_z, fr_s, cc_I, cc_A, cc_N, Nat.reduceAdd, Nat.reduceLT, Nat.reduceLeDiff, Nat.reduceEqDiff, not_true, not_false_iff, z1_0, z1_1, Bool.and_self, Bool.true_and, Bool.and_true, nI_add, pk_mul, nI_clamp, decide_true, Nat.le_refl, bI_eq, bI_z1, in_nI, pk_F]
    refine p_kneel ki hP (fun _ => ?_) (fun f2 v1 z => by rw [hko] at z; cases z)
    refine go_at (blk := b_law_363) rfl ?_
    simp (disch := omega) only [b_law_363, be_6, be_4, be_1, be_12, be_71, be_57_1, kc_388, List.getD_cons_zero, List.getD_cons_succ, List.set_cons_zero, List.set_cons_succ, List.length_cons, List.length_nil, pk_I, pk_A, pr_A, pi_I, st_s, st_n, if_true, if_false, eq_self, d_if, d_ju, d_re, d_ca, cat0, cat1, cat2, cat3, fr_z, fr_s, cc_I, cc_A, cc_N, Nat.reduceAdd, Nat.reduceLT, Nat.reduceLeDiff, Nat.reduceEqDiff, not_true, not_false_iff, z1_0, z1_1, Bool.and_self, Bool.true_and, Bool.and_true, nI_add, pk_mul, nI_clamp, decide_true, Nat.le_refl, bI_eq, bI_z1, in_nI, pk_F]
    refine r_kneel mi hx cp.1.2.2.2 (fun v2 _ g2 => ?_) (fun f2 v1 z => by rw [hko] at z; cases z)
    have ck2 := CK_f ck (MW_8 (MW_f g2))
    have cm2 := CM_w cm (MW_f g2)
    have cp2 := cp
    refine go_at (blk := b_law_372) rfl ?_
    simp (disch := omega) only [b_law_372, be_49_0, List.getD_cons_zero, List.getD_cons_succ, List.set_cons_zero, List.set_cons_succ, List.length_cons, List.length_nil, pk_I, pk_A, pr_A, pi_I, st_s, st_n, if_true, if_false, eq_self, d_if, d_ju, d_re, d_ca, cat0, cat1, cat2, cat3, fr_z, fr_s, cc_I, cc_A, cc_N, Nat.reduceAdd, Nat.reduceLT, Nat.reduceLeDiff, Nat.reduceEqDiff, not_true, not_false_iff, z1_0, z1_1, Bool.and_self, Bool.true_and, Bool.and_true, nI_add, pk_mul, nI_clamp, decide_true, Nat.le_refl, bI_eq, bI_z1, in_nI, pk_F]
    exact hn _ w (LI_le ⟨_, _, _, _, _, _, _, _, _, _, _, _, _, ck2, cm2, cp2⟩ (by omega) hB)
  | some f' =>
    refine go_at (blk := b_law_354) rfl ?_
    simp (disch := omega) only [b_law_354, be_6, be_4, be_1, be_12, be_71, be_57_1, kc_0, List.getD_cons_zero, List.getD_cons_succ, List.set_cons_zero, List.set_cons_succ, List.length_cons, List.length_nil, pk_I, pk_A, pr_A, pi_I, st_s, st_n, if_true, if_false, eq_self, d_if, d_ju, d_re, d_ca, cat0, cat1, cat2, cat3, fr_z, fr_s, cc_I, cc_A, cc_N, Nat.reduceAdd, Nat.reduceLT, Nat.reduceLeDiff, Nat.reduceEqDiff, not_true, not_false_iff, z1_0, z1_1, Bool.and_self, Bool.true_and, Bool.and_true, nI_add, pk_mul, nI_clamp, decide_true, Nat.le_refl, bI_eq, bI_z1, in_nI, pk_F]
    refine p_kneel ki hP (fun z => by rw [hko] at z; cases z) (fun f2 v1 z q1 r1 p1 => ?_)
    rw [hko] at z
    cases z
    have hg := RG_kn ki.2.2.2.1 cp.1 hko
    have ck1 := CK_k ck q1 r1 p1 hg (by omega)
    have cm1 := CM_f (w' := w) cm (FM_8 q1) rfl
    obtain ⟨lv, o0, o1, mi, hx, _⟩ := cm1
    refine go_at (blk := b_law_363) rfl ?_
    simp (disch := omega) only [b_law_363, be_6, be_4, be_1, be_12, be_71, be_57_1, kc_388, List.getD_cons_zero, List.getD_cons_succ, List.set_cons_zero, List.set_cons_succ, List.length_cons, List.length_nil, pk_I, pk_A, pr_A, pi_I, st_s, st_n, if_true, if_false, eq_self, d_if, d_ju, d_re, d_ca, cat0, cat1, cat2, cat3, fr_z, fr_s, cc_I, cc_A, cc_N, Nat.reduceAdd, Nat.reduceLT, Nat.reduceLeDiff, Nat.reduceEqDiff, not_true, not_false_iff, z1_0, z1_1, Bool.and_self, Bool.true_and, Bool.and_true, nI_add, pk_mul, nI_clamp, decide_true, Nat.le_refl, bI_eq, bI_z1, in_nI, pk_F]
    refine r_kneel mi hx cp.1.2.2.2 (fun v2 z => by rw [hko] at z; cases z) (fun f3 v2 z g2 h8 h9 x2 => ?_)
    rw [hko] at z
    cases z
    have ck2 := CK_f ck1 (MK_8 g2)
    have cm2 := CM_k (CM_f (w' := w) cm (FM_8 q1) rfl) g2 h8 (fun j _ => by rw [h9]) x2 hg (by omega)
    have cp2 := CP_k cp hP.2.2.2.1 hg (Int.le_refl _)
    refine go_at (blk := b_law_372) rfl ?_
    simp (disch := omega) only [b_law_372, be_49_0, List.getD_cons_zero, List.getD_cons_succ, List.set_cons_zero, List.set_cons_succ, List.length_cons, List.length_nil, pk_I, pk_A, pr_A, pi_I, st_s, st_n, if_true, if_false, eq_self, d_if, d_ju, d_re, d_ca, cat0, cat1, cat2, cat3, fr_z, fr_s, cc_I, cc_A, cc_N, Nat.reduceAdd, Nat.reduceLT, Nat.reduceLeDiff, Nat.reduceEqDiff, not_true, not_false_iff, z1_0, z1_1, Bool.and_self, Bool.true_and, Bool.and_true, nI_add, pk_mul, nI_clamp, decide_true, Nat.le_refl, bI_eq, bI_z1, in_nI, pk_F]
    exact hn _ w (LI_le ⟨_, _, _, _, _, _, _, _, _, _, _, _, _, ck2, cm2, cp2⟩ (by omega) hB)
set_option maxHeartbeats 2000000 in
theorem s_rise {d i : Nat} {X : am_X} {u : UInt32} {v : Nat → Nat → Int32} {w : Nat → Nat → Int64} {Q : Option Value → am_H → Prop} {B : Int} (hX : X.1 ≤ 3072) (hi : i + 6 ≤ X.1) (hL : LI B v w) (hB : B + 300 ≤ 200000) (hn : ∀ v' w', LI (B + 300) v' w' → am_Go X (d + 29) k_law 1233 ([.float u, .ref 0, .ref 388, .int (nI i)], [], (428, 26053, KD, RF, v', w')) Q) : am_Go X (d + 29) k_law 377 ([.float u, .ref 0, .ref 388, .int (nI i)], [], (428, 26053, KD, RF, v, w)) Q := by
  obtain ⟨T, f, sz, h, m, tp, tm, ts, hd, hs, len, P, pl, ck, cm, cp⟩ := hL
  have cm0 := cm
  obtain ⟨lv, o0, o1, mi, hx, wm, hh, c2, c9, c17, l0, l1, ky⟩ := cm0
  have ck0 := ck
  obtain ⟨ki, ⟨nx, hP⟩, wx, hk, d1, d2, d3⟩ := ck0
  cases hko : riO T f (X.2 (i + 1)) with
  | none =>
    refine go_at (blk := b_law_377) rfl ?_
    simp (disch := omega) only [b_law_377, be_6, be_4, be_1, be_12, be_71, be_57_1, kc_0, List.getD_cons_zero, List.getD_cons_succ, List.set_cons_zero, List.set_cons_succ, List.length_cons, List.length_nil, pk_I, pk_A, pr_A, pi_I, st_s, st_n, if_true, if_false, eq_self, d_if, d_ju, d_re, d_ca, cat0, cat1, cat2, cat3, fr_z, fr_s, cc_I, cc_A, cc_N, Nat.reduceAdd, Nat.reduceLT, Nat.reduceLeDiff, Nat.reduceEqDiff, not_true, not_false_iff, z1_0, z1_1, Bool.and_self, Bool.true_and, Bool.and_true, nI_add, pk_mul, nI_clamp, decide_true, Nat.le_refl, bI_eq, bI_z1, in_nI, pk_F]
    refine p_rise ki hP (fun _ => ?_) (fun f2 v1 z => by rw [hko] at z; cases z)
    refine go_at (blk := b_law_386) rfl ?_
    simp (disch := omega) only [b_law_386, be_6, be_4, be_1, be_12, be_71, be_57_1, kc_388, List.getD_cons_zero, List.getD_cons_succ, List.set_cons_zero, List.set_cons_succ, List.length_cons, List.length_nil, pk_I, pk_A, pr_A, pi_I, st_s, st_n, if_true, if_false, eq_self, d_if, d_ju, d_re, d_ca, cat0, cat1, cat2, cat3, fr_z, fr_s, cc_I, cc_A, cc_N, Nat.reduceAdd, Nat.reduceLT, Nat.reduceLeDiff, Nat.reduceEqDiff, not_true, not_false_iff, z1_0, z1_1, Bool.and_self, Bool.true_and, Bool.and_true, nI_add, pk_mul, nI_clamp, decide_true, Nat.le_refl, bI_eq, bI_z1, in_nI, pk_F]
    refine r_rise mi hx cp.1.2.2.2 (fun v2 _ g2 => ?_) (fun f2 v1 z => by rw [hko] at z; cases z)
    have ck2 := CK_f ck (MW_8 (MW_f g2))
    have cm2 := CM_w cm (MW_f g2)
    have cp2 := cp
    refine go_at (blk := b_law_395) rfl ?_
    simp (disch := omega) only [b_law_395, be_49_0, List.getD_cons_zero, List.getD_cons_succ, List.set_cons_zero, List.set_cons_succ, List.length_cons, List.length_nil, pk_I, pk_A, pr_A, pi_I, st_s, st_n, if_true, if_false, eq_self, d_if, d_ju, d_re, d_ca, cat0, cat1, cat2, cat3, fr_z, fr_s, cc_I, cc_A, cc_N, Nat.reduceAdd, Nat.reduceLT, Nat.reduceLeDiff, Nat.reduceEqDiff, not_true, not_false_iff, z1_0, z1_1, Bool.and_self, Bool.true_and, Bool.and_true, nI_add, pk_mul, nI_clamp, decide_true, Nat.le_refl, bI_eq, bI_z1, in_nI, pk_F]
    exact hn _ w (LI_le ⟨_, _, _, _, _, _, _, _, _, _, _, _, _, ck2, cm2, cp2⟩ (by omega) hB)
  | some f' =>
    refine go_at (blk := b_law_377) rfl ?_
    simp (disch := omega) only [b_law_377, be_6, be_4, be_1, be_12, be_71, be_57_1, kc_0, List.getD_cons_zero, List.getD_cons_succ, List.set_cons_zero, List.set_cons_succ, List.length_cons, List.length_nil, pk_I, pk_A, pr_A, pi_I, st_s, st_n, if_true, if_false, eq_self, d_if, d_ju, d_re, d_ca, cat0, cat1, cat2, cat3, fr_z, fr_s, cc_I, cc_A, cc_N, Nat.reduceAdd, Nat.reduceLT, Nat.reduceLeDiff, Nat.reduceEqDiff, not_true, not_false_iff, z1_0, z1_1, Bool.and_self, Bool.true_and, Bool.and_true, nI_add, pk_mul, nI_clamp, decide_true, Nat.le_refl, bI_eq, bI_z1, in_nI, pk_F]
    refine p_rise ki hP (fun z => by rw [hko] at z; cases z) (fun f2 v1 z q1 r1 p1 => ?_)
    rw [hko] at z
    cases z
    have hg := RG_ri ki.2.2.2.1 cp.1 hko
    have ck1 := CK_k ck q1 r1 p1 hg (by omega)
    have cm1 := CM_f (w' := w) cm (FM_8 q1) rfl
    obtain ⟨lv, o0, o1, mi, hx, _⟩ := cm1
    refine go_at (blk := b_law_386) rfl ?_
    simp (disch := omega) only [b_law_386, be_6, be_4, be_1, be_12, be_71, be_57_1, kc_388, List.getD_cons_zero, List.getD_cons_succ, List.set_cons_zero, List.set_cons_succ, List.length_cons, List.length_nil, pk_I, pk_A, pr_A, pi_I, st_s, st_n, if_true, if_false, eq_self, d_if, d_ju, d_re, d_ca, cat0, cat1, cat2, cat3, fr_z, fr_s, cc_I, cc_A, cc_N, Nat.reduceAdd, Nat.reduceLT, Nat.reduceLeDiff, Nat.reduceEqDiff, not_true, not_false_iff, z1_0, z1_1, Bool.and_self, Bool.true_and, Bool.and_true, nI_add, pk_mul, nI_clamp, decide_true, Nat.le_refl, bI_eq, bI_z1, in_nI, pk_F]
    refine r_rise mi hx cp.1.2.2.2 (fun v2 z => by rw [hko] at z; cases z) (fun f3 v2 z g2 h8 h9 x2 => ?_)
    rw [hko] at z
    cases z
    have ck2 := CK_f ck1 (MK_8 g2)
    have cm2 := CM_k (CM_f (w' := w) cm (FM_8 q1) rfl) g2 h8 (fun j _ => by rw [h9]) x2 hg (by omega)
    have cp2 := CP_k cp hP.2.2.2.1 hg (Int.le_refl _)
    refine go_at (blk := b_law_395) rfl ?_
    simp (disch := omega) only [b_law_395, be_49_0, List.getD_cons_zero, List.getD_cons_succ, List.set_cons_zero, List.set_cons_succ, List.length_cons, List.length_nil, pk_I, pk_A, pr_A, pi_I, st_s, st_n, if_true, if_false, eq_self, d_if, d_ju, d_re, d_ca, cat0, cat1, cat2, cat3, fr_z, fr_s, cc_I, cc_A, cc_N, Nat.reduceAdd, Nat.reduceLT, Nat.reduceLeDiff, Nat.reduceEqDiff, not_true, not_false_iff, z1_0, z1_1, Bool.and_self, Bool.true_and, Bool.and_true, nI_add, pk_mul, nI_clamp, decide_true, Nat.le_refl, bI_eq, bI_z1, in_nI, pk_F]
    exact hn _ w (LI_le ⟨_, _, _, _, _, _, _, _, _, _, _, _, _, ck2, cm2, cp2⟩ (by omega) hB)
set_option maxHeartbeats 2000000 in
theorem s_board {d i : Nat} {X : am_X} {u : UInt32} {v : Nat → Nat → Int32} {w : Nat → Nat → Int64} {Q : Option Value → am_H → Prop} {B : Int} (hX : X.1 ≤ 3072) (hi : i + 6 ≤ X.1) (hL : LI B v w) (hB : B + 300 ≤ 200000) (hn : ∀ v' w', LI (B + 300) v' w' → am_Go X (d + 29) k_law 1233 ([.float u, .ref 0, .ref 388, .int (nI i)], [], (428, 26053, KD, RF, v', w')) Q) : am_Go X (d + 29) k_law 400 ([.float u, .ref 0, .ref 388, .int (nI i)], [], (428, 26053, KD, RF, v, w)) Q := by
  obtain ⟨T, f, sz, h, m, tp, tm, ts, hd, hs, len, P, pl, ck, cm, cp⟩ := hL
  have cm0 := cm
  obtain ⟨lv, o0, o1, mi, hx, wm, hh, c2, c9, c17, l0, l1, ky⟩ := cm0
  have ck0 := ck
  obtain ⟨ki, ⟨nx, hP⟩, wx, hk, d1, d2, d3⟩ := ck0
  cases hko : boO T f (X.2 (i + 1)) with
  | none =>
    refine go_at (blk := b_law_400) rfl ?_
    simp (disch := omega) only [b_law_400, be_6, be_4, be_1, be_12, be_71, be_57_1, kc_0, List.getD_cons_zero, List.getD_cons_succ, List.set_cons_zero, List.set_cons_succ, List.length_cons, List.length_nil, pk_I, pk_A, pr_A, pi_I, st_s, st_n, if_true, if_false, eq_self, d_if, d_ju, d_re, d_ca, cat0, cat1, cat2, cat3, fr_z, fr_s, cc_I, cc_A, cc_N, Nat.reduceAdd, Nat.reduceLT, Nat.reduceLeDiff, Nat.reduceEqDiff, not_true, not_false_iff, z1_0, z1_1, Bool.and_self, Bool.true_and, Bool.and_true, nI_add, pk_mul, nI_clamp, decide_true, Nat.le_refl, bI_eq, bI_z1, in_nI, pk_F]
    refine p_board ki hP cp.1.2.2.1 (fun _ => ?_) (fun f2 v1 z => by rw [hko] at z; cases z)
    refine go_at (blk := b_law_409) rfl ?_
    simp (disch := omega) only [b_law_409, be_6, be_4, be_1, be_12, be_71, be_57_1, kc_388, List.getD_cons_zero, List.getD_cons_succ, List.set_cons_zero, List.set_cons_succ, List.length_cons, List.length_nil, pk_I, pk_A, pr_A, pi_I, st_s, st_n, if_true, if_false, eq_self, d_if, d_ju, d_re, d_ca, cat0, cat1, cat2, cat3, fr_z, fr_s, cc_I, cc_A, cc_N, Nat.reduceAdd, Nat.reduceLT, Nat.reduceLeDiff, Nat.reduceEqDiff, not_true, not_false_iff, z1_0, z1_1, Bool.and_self, Bool.true_and, Bool.and_true, nI_add, pk_mul, nI_clamp, decide_true, Nat.le_refl, bI_eq, bI_z1, in_nI, pk_F]
    refine r_board mi hx cp.1.2.2.2 (fun v2 _ g2 => ?_) (fun f2 v1 z => by rw [hko] at z; cases z)
    have ck2 := CK_f ck (MW_8 (MW_f g2))
    have cm2 := CM_w cm (MW_f g2)
    have cp2 := cp
    refine go_at (blk := b_law_418) rfl ?_
    simp (disch := omega) only [b_law_418, be_49_0, List.getD_cons_zero, List.getD_cons_succ, List.set_cons_zero, List.set_cons_succ, List.length_cons, List.length_nil, pk_I, pk_A, pr_A, pi_I, st_s, st_n, if_true, if_false, eq_self, d_if, d_ju, d_re, d_ca, cat0, cat1, cat2, cat3, fr_z, fr_s, cc_I, cc_A, cc_N, Nat.reduceAdd, Nat.reduceLT, Nat.reduceLeDiff, Nat.reduceEqDiff, not_true, not_false_iff, z1_0, z1_1, Bool.and_self, Bool.true_and, Bool.and_true, nI_add, pk_mul, nI_clamp, decide_true, Nat.le_refl, bI_eq, bI_z1, in_nI, pk_F]
    exact hn _ w (LI_le ⟨_, _, _, _, _, _, _, _, _, _, _, _, _, ck2, cm2, cp2⟩ (by omega) hB)
  | some f' =>
    refine go_at (blk := b_law_400) rfl ?_
    simp (disch := omega) only [b_law_400, be_6, be_4, be_1, be_12, be_71, be_57_1, kc_0, List.getD_cons_zero, List.getD_cons_succ, List.set_cons_zero, List.set_cons_succ, List.length_cons, List.length_nil, pk_I, pk_A, pr_A, pi_I, st_s, st_n, if_true, if_false, eq_self, d_if, d_ju, d_re, d_ca, cat0, cat1, cat2, cat3, fr_z, fr_s, cc_I, cc_A, cc_N, Nat.reduceAdd, Nat.reduceLT, Nat.reduceLeDiff, Nat.reduceEqDiff, not_true, not_false_iff, z1_0, z1_1, Bool.and_self, Bool.true_and, Bool.and_true, nI_add, pk_mul, nI_clamp, decide_true, Nat.le_refl, bI_eq, bI_z1, in_nI, pk_F]
    refine p_board ki hP cp.1.2.2.1 (fun z => by rw [hko] at z; cases z) (fun f2 v1 z q1 r1 p1 => ?_)
    rw [hko] at z
    cases z
    have hg := RG_bo ki.2.2.2.1 cp.1 hko
    have ck1 := CK_k ck q1 r1 p1 hg (by omega)
    have cm1 := CM_f (w' := w) cm (FM_8 q1) rfl
    obtain ⟨lv, o0, o1, mi, hx, _⟩ := cm1
    refine go_at (blk := b_law_409) rfl ?_
    simp (disch := omega) only [b_law_409, be_6, be_4, be_1, be_12, be_71, be_57_1, kc_388, List.getD_cons_zero, List.getD_cons_succ, List.set_cons_zero, List.set_cons_succ, List.length_cons, List.length_nil, pk_I, pk_A, pr_A, pi_I, st_s, st_n, if_true, if_false, eq_self, d_if, d_ju, d_re, d_ca, cat0, cat1, cat2, cat3, fr_z, fr_s, cc_I, cc_A, cc_N, Nat.reduceAdd, Nat.reduceLT, Nat.reduceLeDiff, Nat.reduceEqDiff, not_true, not_false_iff, z1_0, z1_1, Bool.and_self, Bool.true_and, Bool.and_true, nI_add, pk_mul, nI_clamp, decide_true, Nat.le_refl, bI_eq, bI_z1, in_nI, pk_F]
    refine r_board mi hx cp.1.2.2.2 (fun v2 z => by rw [hko] at z; cases z) (fun f3 v2 z g2 h8 h9 x2 => ?_)
    rw [hko] at z
    cases z
    have ck2 := CK_f ck1 (MK_8 g2)
    have cm2 := CM_k (CM_f (w' := w) cm (FM_8 q1) rfl) g2 h8 (fun j _ => by rw [h9]) x2 hg (by omega)
    have cp2 := CP_k cp hP.2.2.2.1 hg (Int.le_refl _)
    refine go_at (blk := b_law_418) rfl ?_
    simp (disch := omega) only [b_law_418, be_49_0, List.getD_cons_zero, List.getD_cons_succ, List.set_cons_zero, List.set_cons_succ, List.length_cons, List.length_nil, pk_I, pk_A, pr_A, pi_I, st_s, st_n, if_true, if_false, eq_self, d_if, d_ju, d_re, d_ca, cat0, cat1, cat2, cat3, fr_z, fr_s, cc_I, cc_A, cc_N, Nat.reduceAdd, Nat.reduceLT, Nat.reduceLeDiff, Nat.reduceEqDiff, not_true, not_false_iff, z1_0, z1_1, Bool.and_self, Bool.true_and, Bool.and_true, nI_add, pk_mul, nI_clamp, decide_true, Nat.le_refl, bI_eq, bI_z1, in_nI, pk_F]
    exact hn _ w (LI_le ⟨_, _, _, _, _, _, _, _, _, _, _, _, _, ck2, cm2, cp2⟩ (by omega) hB)
set_option maxHeartbeats 2000000 in
theorem s_oil {d i : Nat} {X : am_X} {u : UInt32} {v : Nat → Nat → Int32} {w : Nat → Nat → Int64} {Q : Option Value → am_H → Prop} {B : Int} (hX : X.1 ≤ 3072) (hi : i + 6 ≤ X.1) (hL : LI B v w) (hB : B + 300 ≤ 200000) (hn : ∀ v' w', LI (B + 300) v' w' → am_Go X (d + 29) k_law 1233 ([.float u, .ref 0, .ref 388, .int (nI i)], [], (428, 26053, KD, RF, v', w')) Q) : am_Go X (d + 29) k_law 423 ([.float u, .ref 0, .ref 388, .int (nI i)], [], (428, 26053, KD, RF, v, w)) Q := by
  obtain ⟨T, f, sz, h, m, tp, tm, ts, hd, hs, len, P, pl, ck, cm, cp⟩ := hL
  have cm0 := cm
  obtain ⟨lv, o0, o1, mi, hx, wm, hh, c2, c9, c17, l0, l1, ky⟩ := cm0
  have ck0 := ck
  obtain ⟨ki, ⟨nx, hP⟩, wx, hk, d1, d2, d3⟩ := ck0
  cases hko : oiO f (X.2 (i + 1)) with
  | none =>
    refine go_at (blk := b_law_423) rfl ?_
    simp (disch := omega) only [b_law_423, be_6, be_4, be_1, be_12, be_71, be_57_1, kc_0, List.getD_cons_zero, List.getD_cons_succ, List.set_cons_zero, List.set_cons_succ, List.length_cons, List.length_nil, pk_I, pk_A, pr_A, pi_I, st_s, st_n, if_true, if_false, eq_self, d_if, d_ju, d_re, d_ca, cat0, cat1, cat2, cat3, fr_z, fr_s, cc_I, cc_A, cc_N, Nat.reduceAdd, Nat.reduceLT, Nat.reduceLeDiff, Nat.reduceEqDiff, not_true, not_false_iff, z1_0, z1_1, Bool.and_self, Bool.true_and, Bool.and_true, nI_add, pk_mul, nI_clamp, decide_true, Nat.le_refl, bI_eq, bI_z1, in_nI, pk_F]
    refine p_oil ki hP (fun _ => ?_) (fun f2 v1 z => by rw [hko] at z; cases z)
    refine go_at (blk := b_law_432) rfl ?_
    simp (disch := omega) only [b_law_432, be_6, be_4, be_1, be_12, be_71, be_57_1, kc_388, List.getD_cons_zero, List.getD_cons_succ, List.set_cons_zero, List.set_cons_succ, List.length_cons, List.length_nil, pk_I, pk_A, pr_A, pi_I, st_s, st_n, if_true, if_false, eq_self, d_if, d_ju, d_re, d_ca, cat0, cat1, cat2, cat3, fr_z, fr_s, cc_I, cc_A, cc_N, Nat.reduceAdd, Nat.reduceLT, Nat.reduceLeDiff, Nat.reduceEqDiff, not_true, not_false_iff, z1_0, z1_1, Bool.and_self, Bool.true_and, Bool.and_true, nI_add, pk_mul, nI_clamp, decide_true, Nat.le_refl, bI_eq, bI_z1, in_nI, pk_F]
    refine r_oil mi hx cp.1.2.2.2 (fun v2 _ g2 => ?_) (fun f2 v1 z => by rw [hko] at z; cases z)
    have ck2 := CK_f ck (MW_8 (MW_f g2))
    have cm2 := CM_w cm (MW_f g2)
    have cp2 := cp
    refine go_at (blk := b_law_441) rfl ?_
    simp (disch := omega) only [b_law_441, be_49_0, List.getD_cons_zero, List.getD_cons_succ, List.set_cons_zero, List.set_cons_succ, List.length_cons, List.length_nil, pk_I, pk_A, pr_A, pi_I, st_s, st_n, if_true, if_false, eq_self, d_if, d_ju, d_re, d_ca, cat0, cat1, cat2, cat3, fr_z, fr_s, cc_I, cc_A, cc_N, Nat.reduceAdd, Nat.reduceLT, Nat.reduceLeDiff, Nat.reduceEqDiff, not_true, not_false_iff, z1_0, z1_1, Bool.and_self, Bool.true_and, Bool.and_true, nI_add, pk_mul, nI_clamp, decide_true, Nat.le_refl, bI_eq, bI_z1, in_nI, pk_F]
    exact hn _ w (LI_le ⟨_, _, _, _, _, _, _, _, _, _, _, _, _, ck2, cm2, cp2⟩ (by omega) hB)
  | some f' =>
    refine go_at (blk := b_law_423) rfl ?_
    simp (disch := omega) only [b_law_423, be_6, be_4, be_1, be_12, be_71, be_57_1, kc_0, List.getD_cons_zero, List.getD_cons_succ, List.set_cons_zero, List.set_cons_succ, List.length_cons, List.length_nil, pk_I, pk_A, pr_A, pi_I, st_s, st_n, if_true, if_false, eq_self, d_if, d_ju, d_re, d_ca, cat0, cat1, cat2, cat3, fr_z, fr_s, cc_I, cc_A, cc_N, Nat.reduceAdd, Nat.reduceLT, Nat.reduceLeDiff, Nat.reduceEqDiff, not_true, not_false_iff, z1_0, z1_1, Bool.and_self, Bool.true_and, Bool.and_true, nI_add, pk_mul, nI_clamp, decide_true, Nat.le_refl, bI_eq, bI_z1, in_nI, pk_F]
    refine p_oil ki hP (fun z => by rw [hko] at z; cases z) (fun f2 v1 z q1 r1 p1 => ?_)
    rw [hko] at z
    cases z
    have hg := RG_oi ki.1.1 cp.1 hko
    have ck1 := CK_k ck q1 r1 p1 hg (by omega)
    have cm1 := CM_f (w' := w) cm (FM_8 q1) rfl
    obtain ⟨lv, o0, o1, mi, hx, _⟩ := cm1
    refine go_at (blk := b_law_432) rfl ?_
    simp (disch := omega) only [b_law_432, be_6, be_4, be_1, be_12, be_71, be_57_1, kc_388, List.getD_cons_zero, List.getD_cons_succ, List.set_cons_zero, List.set_cons_succ, List.length_cons, List.length_nil, pk_I, pk_A, pr_A, pi_I, st_s, st_n, if_true, if_false, eq_self, d_if, d_ju, d_re, d_ca, cat0, cat1, cat2, cat3, fr_z, fr_s, cc_I, cc_A, cc_N, Nat.reduceAdd, Nat.reduceLT, Nat.reduceLeDiff, Nat.reduceEqDiff, not_true, not_false_iff, z1_0, z1_1, Bool.and_self, Bool.true_and, Bool.and_true, nI_add, pk_mul, nI_clamp, decide_true, Nat.le_refl, bI_eq, bI_z1, in_nI, pk_F]
    refine r_oil mi hx cp.1.2.2.2 (fun v2 z => by rw [hko] at z; cases z) (fun f3 v2 z g2 h8 h9 x2 => ?_)
    rw [hko] at z
    cases z
    have ck2 := CK_f ck1 (MK_8 g2)
    have cm2 := CM_k (CM_f (w' := w) cm (FM_8 q1) rfl) g2 h8 (fun j _ => by rw [h9]) x2 hg (by omega)
    have cp2 := CP_k cp hP.2.2.2.1 hg (Int.le_refl _)
    refine go_at (blk := b_law_441) rfl ?_
    simp (disch := omega) only [b_law_441, be_49_0, List.getD_cons_zero, List.getD_cons_succ, List.set_cons_zero, List.set_cons_succ, List.length_cons, List.length_nil, pk_I, pk_A, pr_A, pi_I, st_s, st_n, if_true, if_false, eq_self, d_if, d_ju, d_re, d_ca, cat0, cat1, cat2, cat3, fr_z, fr_s, cc_I, cc_A, cc_N, Nat.reduceAdd, Nat.reduceLT, Nat.reduceLeDiff, Nat.reduceEqDiff, not_true, not_false_iff, z1_0, z1_1, Bool.and_self, Bool.true_and, Bool.and_true, nI_add, pk_mul, nI_clamp, decide_true, Nat.le_refl, bI_eq, bI_z1, in_nI, pk_F]
    exact hn _ w (LI_le ⟨_, _, _, _, _, _, _, _, _, _, _, _, _, ck2, cm2, cp2⟩ (by omega) hB)
set_option maxHeartbeats 2000000 in
theorem s_run {d i : Nat} {X : am_X} {u : UInt32} {v : Nat → Nat → Int32} {w : Nat → Nat → Int64} {Q : Option Value → am_H → Prop} {B : Int} (hX : X.1 ≤ 3072) (hi : i + 6 ≤ X.1) (hL : LI B v w) (hB : B + 300 ≤ 200000) (hn : ∀ v' w', LI (B + 300) v' w' → am_Go X (d + 29) k_law 1233 ([.float u, .ref 0, .ref 388, .int (nI i)], [], (428, 26053, KD, RF, v', w')) Q) : am_Go X (d + 29) k_law 446 ([.float u, .ref 0, .ref 388, .int (nI i)], [], (428, 26053, KD, RF, v, w)) Q := by
  obtain ⟨T, f, sz, h, m, tp, tm, ts, hd, hs, len, P, pl, ck, cm, cp⟩ := hL
  have cm0 := cm
  obtain ⟨lv, o0, o1, mi, hx, wm, hh, c2, c9, c17, l0, l1, ky⟩ := cm0
  have ck0 := ck
  obtain ⟨ki, ⟨nx, hP⟩, wx, hk, d1, d2, d3⟩ := ck0
  by_cases hc : X.2 (i + 1) < 0 ∨ nI 300 < X.2 (i + 1)
  ·
    refine go_at (blk := b_law_446) rfl ?_
    simp (disch := omega) only [b_law_446, be_6, be_4, be_1, be_12, be_71, be_57_1, kc_0, List.getD_cons_zero, List.getD_cons_succ, List.set_cons_zero, List.set_cons_succ, List.length_cons, List.length_nil, pk_I, pk_A, pr_A, pi_I, st_s, st_n, if_true, if_false, eq_self, d_if, d_ju, d_re, d_ca, cat0, cat1, cat2, cat3, fr_z, fr_s, cc_I, cc_A, cc_N, Nat.reduceAdd, Nat.reduceLT, Nat.reduceLeDiff, Nat.reduceEqDiff, not_true, not_false_iff, z1_0, z1_1, Bool.and_self, Bool.true_and, Bool.and_true, nI_add, pk_mul, nI_clamp, decide_true, Nat.le_refl, bI_eq, bI_z1, in_nI, pk_F]
    refine p_run ki hP (fun _ => ?_) (fun z => absurd hc (by rw [z]; decide)) (fun k v' _ k2 e => absurd e (fun e => x_run hc k2 e))
    refine go_at (blk := b_law_455) rfl ?_
    simp (disch := omega) only [b_law_455, be_6, be_4, be_1, be_12, be_71, be_57_1, kc_388, List.getD_cons_zero, List.getD_cons_succ, List.set_cons_zero, List.set_cons_succ, List.length_cons, List.length_nil, pk_I, pk_A, pr_A, pi_I, st_s, st_n, if_true, if_false, eq_self, d_if, d_ju, d_re, d_ca, cat0, cat1, cat2, cat3, fr_z, fr_s, cc_I, cc_A, cc_N, Nat.reduceAdd, Nat.reduceLT, Nat.reduceLeDiff, Nat.reduceEqDiff, not_true, not_false_iff, z1_0, z1_1, Bool.and_self, Bool.true_and, Bool.and_true, nI_add, pk_mul, nI_clamp, decide_true, Nat.le_refl, bI_eq, bI_z1, in_nI, pk_F]
    refine r_run mi hx cp.1.2.2.2 (fun _ => ?_) (fun z => absurd hc (by rw [z]; decide)) (fun k v' _ k2 e => absurd e (fun e => x_run hc k2 e))
    have ck2 := ck
    have cm2 := cm
    have cp2 := cp
    refine go_at (blk := b_law_464) rfl ?_
    simp (disch := omega) only [b_law_464, be_49_0, List.getD_cons_zero, List.getD_cons_succ, List.set_cons_zero, List.set_cons_succ, List.length_cons, List.length_nil, pk_I, pk_A, pr_A, pi_I, st_s, st_n, if_true, if_false, eq_self, d_if, d_ju, d_re, d_ca, cat0, cat1, cat2, cat3, fr_z, fr_s, cc_I, cc_A, cc_N, Nat.reduceAdd, Nat.reduceLT, Nat.reduceLeDiff, Nat.reduceEqDiff, not_true, not_false_iff, z1_0, z1_1, Bool.and_self, Bool.true_and, Bool.and_true, nI_add, pk_mul, nI_clamp, decide_true, Nat.le_refl, bI_eq, bI_z1, in_nI, pk_F]
    exact hn _ w (LI_le ⟨_, _, _, _, _, _, _, _, _, _, _, _, _, ck2, cm2, cp2⟩ (by omega) hB)
  · by_cases hz : X.2 (i + 1) = 0
    ·
      refine go_at (blk := b_law_446) rfl ?_
      simp (disch := omega) only [b_law_446, be_6, be_4, be_1, be_12, be_71, be_57_1, kc_0, List.getD_cons_zero, List.getD_cons_succ, List.set_cons_zero, List.set_cons_succ, List.length_cons, List.length_nil, pk_I, pk_A, pr_A, pi_I, st_s, st_n, if_true, if_false, eq_self, d_if, d_ju, d_re, d_ca, cat0, cat1, cat2, cat3, fr_z, fr_s, cc_I, cc_A, cc_N, Nat.reduceAdd, Nat.reduceLT, Nat.reduceLeDiff, Nat.reduceEqDiff, not_true, not_false_iff, z1_0, z1_1, Bool.and_self, Bool.true_and, Bool.and_true, nI_add, pk_mul, nI_clamp, decide_true, Nat.le_refl, bI_eq, bI_z1, in_nI, pk_F]
      refine p_run ki hP (fun z => absurd z hc) (fun _ => ?_) (fun k v' k1 k2 e => absurd (nI_ij (a := 0) (by omega) (by omega) (show nI 0 = nI k from hz.symm.trans e)) (by omega))
      refine go_at (blk := b_law_455) rfl ?_
      simp (disch := omega) only [b_law_455, be_6, be_4, be_1, be_12, be_71, be_57_1, kc_388, List.getD_cons_zero, List.getD_cons_succ, List.set_cons_zero, List.set_cons_succ, List.length_cons, List.length_nil, pk_I, pk_A, pr_A, pi_I, st_s, st_n, if_true, if_false, eq_self, d_if, d_ju, d_re, d_ca, cat0, cat1, cat2, cat3, fr_z, fr_s, cc_I, cc_A, cc_N, Nat.reduceAdd, Nat.reduceLT, Nat.reduceLeDiff, Nat.reduceEqDiff, not_true, not_false_iff, z1_0, z1_1, Bool.and_self, Bool.true_and, Bool.and_true, nI_add, pk_mul, nI_clamp, decide_true, Nat.le_refl, bI_eq, bI_z1, in_nI, pk_F]
      refine r_run mi hx cp.1.2.2.2 (fun z => absurd z hc) (fun _ => ?_) (fun k v' k1 k2 e => absurd (nI_ij (a := 0) (by omega) (by omega) (show nI 0 = nI k from hz.symm.trans e)) (by omega))
      have ck2 := ck
      have cm2 := cm
      have cp2 := cp
      refine go_at (blk := b_law_464) rfl ?_
      simp (disch := omega) only [b_law_464, be_49_0, List.getD_cons_zero, List.getD_cons_succ, List.set_cons_zero, List.set_cons_succ, List.length_cons, List.length_nil, pk_I, pk_A, pr_A, pi_I, st_s, st_n, if_true, if_false, eq_self, d_if, d_ju, d_re, d_ca, cat0, cat1, cat2, cat3, fr_z, fr_s, cc_I, cc_A, cc_N, Nat.reduceAdd, Nat.reduceLT, Nat.reduceLeDiff, Nat.reduceEqDiff, not_true, not_false_iff, z1_0, z1_1, Bool.and_self, Bool.true_and, Bool.and_true, nI_add, pk_mul, nI_clamp, decide_true, Nat.le_refl, bI_eq, bI_z1, in_nI, pk_F]
      exact hn _ w (LI_le ⟨_, _, _, _, _, _, _, _, _, _, _, _, _, ck2, cm2, cp2⟩ (by omega) hB)
    ·
      refine go_at (blk := b_law_446) rfl ?_
      simp (disch := omega) only [b_law_446, be_6, be_4, be_1, be_12, be_71, be_57_1, kc_0, List.getD_cons_zero, List.getD_cons_succ, List.set_cons_zero, List.set_cons_succ, List.length_cons, List.length_nil, pk_I, pk_A, pr_A, pi_I, st_s, st_n, if_true, if_false, eq_self, d_if, d_ju, d_re, d_ca, cat0, cat1, cat2, cat3, fr_z, fr_s, cc_I, cc_A, cc_N, Nat.reduceAdd, Nat.reduceLT, Nat.reduceLeDiff, Nat.reduceEqDiff, not_true, not_false_iff, z1_0, z1_1, Bool.and_self, Bool.true_and, Bool.and_true, nI_add, pk_mul, nI_clamp, decide_true, Nat.le_refl, bI_eq, bI_z1, in_nI, pk_F]
      refine p_run ki hP (fun z => absurd z hc) (fun z => absurd z hz) (fun k v1 k1 k2 ek q1 r1 p1 => ?_)
      have hg := RG_le (RG_it ki.2.2.2.1 cp.1 k (by omega)) (show B + (k : Int) ≤ B + 300 by omega)
      have ck1 := CK_k ck q1 r1 p1 hg hB
      have cm1 := CM_f (w' := w) cm (FM_8 q1) rfl
      obtain ⟨lv, o0, o1, mi, hx, _⟩ := cm1
      refine go_at (blk := b_law_455) rfl ?_
      simp (disch := omega) only [b_law_455, be_6, be_4, be_1, be_12, be_71, be_57_1, kc_388, List.getD_cons_zero, List.getD_cons_succ, List.set_cons_zero, List.set_cons_succ, List.length_cons, List.length_nil, pk_I, pk_A, pr_A, pi_I, st_s, st_n, if_true, if_false, eq_self, d_if, d_ju, d_re, d_ca, cat0, cat1, cat2, cat3, fr_z, fr_s, cc_I, cc_A, cc_N, Nat.reduceAdd, Nat.reduceLT, Nat.reduceLeDiff, Nat.reduceEqDiff, not_true, not_false_iff, z1_0, z1_1, Bool.and_self, Bool.true_and, Bool.and_true, nI_add, pk_mul, nI_clamp, decide_true, Nat.le_refl, bI_eq, bI_z1, in_nI, pk_F]
      refine r_run mi hx cp.1.2.2.2 (fun z => absurd z hc) (fun z => absurd z hz) (fun k' v2 k1' k2' ek' g2 h8 h9 x2 => ?_)
      have ekk : k' = k := nI_ij (by omega) (by omega) (ek'.symm.trans ek)
      subst ekk
      have ck2 := CK_f ck1 (MK_8 g2)
      have cm2 := CM_k (CM_f (w' := w) cm (FM_8 q1) rfl) g2 h8 (fun j _ => by rw [h9]) x2 hg hB
      have cp2 := CP_k cp hP.2.2.2.1 hg (show B ≤ B + 300 by omega)
      refine go_at (blk := b_law_464) rfl ?_
      simp (disch := omega) only [b_law_464, be_49_0, List.getD_cons_zero, List.getD_cons_succ, List.set_cons_zero, List.set_cons_succ, List.length_cons, List.length_nil, pk_I, pk_A, pr_A, pi_I, st_s, st_n, if_true, if_false, eq_self, d_if, d_ju, d_re, d_ca, cat0, cat1, cat2, cat3, fr_z, fr_s, cc_I, cc_A, cc_N, Nat.reduceAdd, Nat.reduceLT, Nat.reduceLeDiff, Nat.reduceEqDiff, not_true, not_false_iff, z1_0, z1_1, Bool.and_self, Bool.true_and, Bool.and_true, nI_add, pk_mul, nI_clamp, decide_true, Nat.le_refl, bI_eq, bI_z1, in_nI, pk_F]
      exact hn _ w ⟨_, _, _, _, _, _, _, _, _, _, _, _, _, ck2, cm2, cp2⟩
set_option maxHeartbeats 2000000 in
theorem s_undo {d i : Nat} {X : am_X} {u : UInt32} {v : Nat → Nat → Int32} {w : Nat → Nat → Int64} {Q : Option Value → am_H → Prop} {B : Int} (hX : X.1 ≤ 3072) (hi : i + 6 ≤ X.1) (hL : LI B v w) (hB : B + 300 ≤ 200000) (hn : ∀ v' w', LI (B + 300) v' w' → am_Go X (d + 29) k_law 1233 ([.float u, .ref 0, .ref 388, .int (nI i)], [], (428, 26053, KD, RF, v', w')) Q) : am_Go X (d + 29) k_law 469 ([.float u, .ref 0, .ref 388, .int (nI i)], [], (428, 26053, KD, RF, v, w)) Q := by
  obtain ⟨T, f, sz, h, m, tp, tm, ts, hd, hs, len, P, pl, ck, cm, cp⟩ := hL
  have cm0 := cm
  obtain ⟨lv, o0, o1, mi, hx, wm, hh, c2, c9, c17, l0, l1, ky⟩ := cm0
  have ck0 := ck
  obtain ⟨ki, ⟨nx, hP⟩, wx, hk, d1, d2, d3⟩ := ck0
  cases sz with
  | zero =>
    refine go_at (blk := b_law_469) rfl ?_
    simp (disch := omega) only [b_law_469, be_6, be_57_0, kc_0, List.getD_cons_zero, List.getD_cons_succ, List.set_cons_zero, List.set_cons_succ, List.length_cons, List.length_nil, pk_I, pk_A, pr_A, pi_I, st_s, st_n, if_true, if_false, eq_self, d_if, d_ju, d_re, d_ca, cat0, cat1, cat2, cat3, fr_z, fr_s, cc_I, cc_A, cc_N, Nat.reduceAdd, Nat.reduceLT, Nat.reduceLeDiff, Nat.reduceEqDiff, not_true, not_false_iff, z1_0, z1_1, Bool.and_self, Bool.true_and, Bool.and_true, nI_add, pk_mul, nI_clamp, decide_true, Nat.le_refl, bI_eq, bI_z1, in_nI, pk_F]
    refine p_undo0 ki hP ?_
    refine go_at (blk := b_law_473) rfl ?_
    simp (disch := omega) only [b_law_473, be_6, be_57_0, kc_388, List.getD_cons_zero, List.getD_cons_succ, List.set_cons_zero, List.set_cons_succ, List.length_cons, List.length_nil, pk_I, pk_A, pr_A, pi_I, st_s, st_n, if_true, if_false, eq_self, d_if, d_ju, d_re, d_ca, cat0, cat1, cat2, cat3, fr_z, fr_s, cc_I, cc_A, cc_N, Nat.reduceAdd, Nat.reduceLT, Nat.reduceLeDiff, Nat.reduceEqDiff, not_true, not_false_iff, z1_0, z1_1, Bool.and_self, Bool.true_and, Bool.and_true, nI_add, pk_mul, nI_clamp, decide_true, Nat.le_refl, bI_eq, bI_z1, in_nI, pk_F]
    refine r_undo0 hx ?_
    have ck2 := ck
    have cm2 := cm
    have cp2 := cp
    refine go_at (blk := b_law_477) rfl ?_
    simp (disch := omega) only [b_law_477, be_49_0, List.getD_cons_zero, List.getD_cons_succ, List.set_cons_zero, List.set_cons_succ, List.length_cons, List.length_nil, pk_I, pk_A, pr_A, pi_I, st_s, st_n, if_true, if_false, eq_self, d_if, d_ju, d_re, d_ca, cat0, cat1, cat2, cat3, fr_z, fr_s, cc_I, cc_A, cc_N, Nat.reduceAdd, Nat.reduceLT, Nat.reduceLeDiff, Nat.reduceEqDiff, not_true, not_false_iff, z1_0, z1_1, Bool.and_self, Bool.true_and, Bool.and_true, nI_add, pk_mul, nI_clamp, decide_true, Nat.le_refl, bI_eq, bI_z1, in_nI, pk_F]
    exact hn _ w (LI_le ⟨_, _, _, _, _, _, _, _, _, _, _, _, _, ck2, cm2, cp2⟩ (by omega) hB)
  | succ sz =>
    refine go_at (blk := b_law_469) rfl ?_
    simp (disch := omega) only [b_law_469, be_6, be_57_0, kc_0, List.getD_cons_zero, List.getD_cons_succ, List.set_cons_zero, List.set_cons_succ, List.length_cons, List.length_nil, pk_I, pk_A, pr_A, pi_I, st_s, st_n, if_true, if_false, eq_self, d_if, d_ju, d_re, d_ca, cat0, cat1, cat2, cat3, fr_z, fr_s, cc_I, cc_A, cc_N, Nat.reduceAdd, Nat.reduceLT, Nat.reduceLeDiff, Nat.reduceEqDiff, not_true, not_false_iff, z1_0, z1_1, Bool.and_self, Bool.true_and, Bool.and_true, nI_add, pk_mul, nI_clamp, decide_true, Nat.le_refl, bI_eq, bI_z1, in_nI, pk_F]
    refine p_undo1 ki hP (cp.2.1 0 (by omega)).1 ?_
    intro v1 q1 p1 r1
    have hg := cp.2.1 0 (by omega)
    have ck1 := CK_k ck (FM_u q1) r1 p1 hg (by omega)
    have cm1 := CM_f (w' := w) cm (FM_8 (FM_u q1)) rfl
    obtain ⟨lv, o0, o1, mi, hx, _⟩ := cm1
    refine go_at (blk := b_law_473) rfl ?_
    simp (disch := omega) only [b_law_473, be_6, be_57_0, kc_388, List.getD_cons_zero, List.getD_cons_succ, List.set_cons_zero, List.set_cons_succ, List.length_cons, List.length_nil, pk_I, pk_A, pr_A, pi_I, st_s, st_n, if_true, if_false, eq_self, d_if, d_ju, d_re, d_ca, cat0, cat1, cat2, cat3, fr_z, fr_s, cc_I, cc_A, cc_N, Nat.reduceAdd, Nat.reduceLT, Nat.reduceLeDiff, Nat.reduceEqDiff, not_true, not_false_iff, z1_0, z1_1, Bool.and_self, Bool.true_and, Bool.and_true, nI_add, pk_mul, nI_clamp, decide_true, Nat.le_refl, bI_eq, bI_z1, in_nI, pk_F]
    refine r_undo1 hx (fun j hj => ?_) ?_
    · rw [mi.2.1, cp.1.2.2.2 j hj, hg.2.2.2 j hj]
    intro v2 g2 g3 h8 x2
    have ck2 := CK_f ck1 (MK_8 (MK_u g2 g3))
    have cm2 := CM_k (CM_f (w' := w) cm (FM_8 (FM_u q1)) rfl) (MK_u g2 g3) h8 (fun j hj => by rw [g2 419 (by omega) (by omega), mi.2.2.1 j hj, cp.1.2.2.2 j hj, hg.2.2.2 j hj]) x2 hg (by omega)
    have cp2 : CP B T (h 0) sz (fun j => h (j + 1)) hd hs len P := ⟨hg, fun j hj => cp.2.1 (j + 1) (by omega), cp.2.2⟩
    refine go_at (blk := b_law_477) rfl ?_
    simp (disch := omega) only [b_law_477, be_49_0, List.getD_cons_zero, List.getD_cons_succ, List.set_cons_zero, List.set_cons_succ, List.length_cons, List.length_nil, pk_I, pk_A, pr_A, pi_I, st_s, st_n, if_true, if_false, eq_self, d_if, d_ju, d_re, d_ca, cat0, cat1, cat2, cat3, fr_z, fr_s, cc_I, cc_A, cc_N, Nat.reduceAdd, Nat.reduceLT, Nat.reduceLeDiff, Nat.reduceEqDiff, not_true, not_false_iff, z1_0, z1_1, Bool.and_self, Bool.true_and, Bool.and_true, nI_add, pk_mul, nI_clamp, decide_true, Nat.le_refl, bI_eq, bI_z1, in_nI, pk_F]
    exact hn _ w (LI_le ⟨_, _, _, _, _, _, _, _, _, _, _, _, _, ck2, cm2, cp2⟩ (by omega) hB)
