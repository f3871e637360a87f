/-! laid by wip/whole/h5.py: the law: read -/
theorem CK_r {B : Int} {v v' : Nat → Nat → Int32} {T : TXT} {f : Nat → Int32} {sz : Nat} {h : Nat → Nat → Int32} {m : Nat} {tp tm : Nat → Nat} {ts : Nat → Int32} {hd : Nat → Bool} {hs : Nat → Nat → Int32} {len : Nat} {P : Nat → Int32} {pl : Int32} (hc : CK B v T f sz h m tp tm ts hd hs len P pl) {pl' : Int32} (e : ∀ c, (c = 1 ∨ 22 < c) → v' c = v c) (e0 : v' 0 1 = nI 0) (e2 : v' 0 2 = pl') : CK B v' T f sz h m tp tm ts hd hs 0 P pl' := by
  obtain ⟨⟨k1, k2, k3⟩, ⟨nx, p⟩, x, s, t1, t2, t3⟩ := hc
  refine ⟨⟨KX_w k1 (fun c _ _ _ _ => e c (by omega)), RX_w k2 (fun c _ _ => e c (by omega)), k3⟩, ⟨nx, PI_w p (fun c _ _ => e c (by omega))⟩, ?_, fun q hq => ?_, e0, by rw [e 1 (by omega)]; exact t2, e2⟩
  · unfold WX at *
    rw [e 358 (by omega), e 359 (by omega), e 360 (by omega), e 361 (by omega)]
    exact x
  · rw [e 369 (by omega)]
    exact ⟨(s q hq).1, fun z => RX_w ((s q hq).2 z) (fun c _ _ => e c (by omega))⟩
theorem GQ_c {sd : Nat} {v v' : Nat → Nat → Int32} (e : GQ sd v v') {c : Nat} (h : c ≠ 388 ∧ (c < 390 ∨ 415 < c)) : v' c = v c := funext (fun k => e c k (Or.inl h))
theorem CM_Q {B : Int} {v v' : Nat → Nat → Int32} {w w' : Nat → Nat → Int64} {T : TXT} {f : Nat → Int32} {sz : Nat} {h : Nat → Nat → Int32} {m : Nat} {tp tm : Nat → Nat} {ts : Nat → Int32} {hd : Nat → Bool} {hs : Nat → Nat → Int32} {P : Nat → Int32} {lv : Nat} {o0 o1 : Option LAWD} {pl' : Int32} (k : MI B v T lv f) (x : HX v sz h) (y : WM v (tN T) m tp tm ts) (s : ∀ s, s < 3 → v 426 s = bI (hd s) ∧ (hd s = true → ∀ k, k < 50 → v 427 (50 * s + k) = hs s k)) (t2 : v 389 = P) (l0 : LWO v lv 0 o0) (l1 : LWO v lv 1 o1) (ky : ∀ k, k < 17 → w 395 k = lN (keyN k)) (e : GQ (1 - lv) v v') (ew : w' 395 = w 395) (e17 : v' 388 17 = pl') (e2 : v' 388 2 = nI 0) : CM B v' w' T f sz h m tp tm ts hd hs 0 P pl' := by
  have hlv := k.1.1.2.1
  refine ⟨lv, o0, o1, ⟨MX_Q k.1 l0 l1 e, by rw [GQ_c e (by omega)]; exact k.2.1, by rw [GQ_c e (by omega)]; exact k.2.2.1, k.2.2.2⟩, ?_, ?_, fun q hq => ?_, e2, by rw [GQ_c e (by omega)]; exact t2, e17, LWO_Q hlv (by omega) l0 e, LWO_Q hlv (by omega) l1 e, by rw [ew]; exact ky⟩
  · unfold HX at *
    rw [e 388 51 (by unfold KPT; omega), GQ_c e (c := 420) (by omega)]
    exact x
  · unfold WM at *
    rw [e 388 55 (by unfold KPT; omega), GQ_c e (c := 423) (by omega), GQ_c e (c := 424) (by omega), GQ_c e (c := 425) (by omega)]
    exact y
  · rw [GQ_c e (c := 426) (by omega), GQ_c e (c := 427) (by omega)]
    exact s q hq
theorem LI_new {B : Int} {v v1 v2 : Nat → Nat → Int32} {w2 : Nat → Nat → Int64} {P : Nat → Int32} {sd nx : Nat} {D : DRF} {T : TXT} (hB0 : 0 ≤ B) (hB : B ≤ 200000) (hsd : sd < 2) (o0 : LOK D.2.2.2.2.1) (o1 : LOK D.2.2.2.2.2) (hX : TXD v1 D) (l0 : (lwc dM D.2.2.2.2.1).length ≤ 400) (l1 : (lwc dH D.2.2.2.2.2).length ≤ 400) (hr : RX v1 42 D.2.2.1 (-1) 0 (bgT (mkT0 D))) (h481 : v1 48 1 = nI nx) (hnx : nx < 50) (h482 : v1 48 2 = nI 0) (h358 : v1 358 5 = nI 0) (h369 : ∀ s, s < 3 → v1 369 s = 0) (h01 : v1 0 1 = nI 0) (h02 : v1 0 2 = -1) (h1 : v1 1 = P) (e : ∀ c, c < 388 → v2 c = v1 c) (h389 : v2 389 = P) (h17 : v2 388 17 = -1) (h2 : v2 388 2 = nI 0) (h51 : v2 388 51 = nI 0) (h55 : v2 388 55 = nI 0) (h426 : ∀ s, s < 3 → v2 426 s = 0) (hMX : MX v2 T sd) (hTD : TD T D) (hGT : GT T) (h418 : v2 418 = bgT T) (h419 : v2 419 = bgT T) (w0 : LWO v2 sd 0 D.2.2.2.2.1) (w1 : LWO v2 sd 1 D.2.2.2.2.2) (ky : ∀ k, k < 17 → w2 395 k = lN (keyN k)) (hy : BYA P) : LI B v2 w2 := by
  have hg := RG_le (RG_bg hGT) hB0
  have hn8 : D.2.2.1 ≤ 8 := by rw [← hTD.1]; exact hGT.1
  refine ⟨T, bgT T, 0, fun _ _ => 0, 0, fun _ => 0, fun _ => 0, fun _ => 0, fun _ => false, fun _ _ => 0, 0, P, -1, ⟨⟨KX_w (mk_KX hX hTD hn8 l0 l1 o0 o1) (fun c _ _ _ _ => e c (by omega)), ?_, hg.1, hGT, hg.2.1, hB⟩, ⟨nx, by rw [e 48 (by omega)]; exact h481, hnx, by rw [e 48 (by omega)]; exact h482, by omega, fun j hj => absurd hj (Nat.not_lt_zero _)⟩, ⟨by rw [e 358 (by omega)]; exact h358, by omega, fun j hj => absurd hj (Nat.not_lt_zero _)⟩, fun s hs => ⟨by rw [e 369 (by omega)]; exact h369 s hs, fun z => by cases z⟩, by rw [e 0 (by omega)]; exact h01, by rw [e 1 (by omega)]; exact h1, by rw [e 0 (by omega)]; exact h02⟩, ⟨sd, _, _, ⟨hMX, h418, fun j _ => by rw [h419], hg.1, hGT, hg.2.1, hB⟩, ⟨h51, by omega, fun j hj => absurd hj (Nat.not_lt_zero _)⟩, ⟨h55, by omega, fun j hj => absurd hj (Nat.not_lt_zero _)⟩, fun s hs => ⟨h426 s hs, fun z => by cases z⟩, h2, h389, h17, w0, w1, ky⟩, ⟨hg, fun j hj => absurd hj (Nat.not_lt_zero _), (fun s _ z => by cases z), by omega, hy⟩⟩
  rw [hTD.1, bg_TD hTD mkT0_TD]
  exact RX_w hr (fun c _ _ => e c (by omega))
set_option maxHeartbeats 4000000 in
theorem s_read {d i : Nat} {X : am_X} {u : UInt32} {v : Nat → Nat → Int32} {w : Nat → Nat → Int64} {Q : Option Value → am_H → Prop} {B : Int} (hX : X.1 ≤ 3072) (hi : i + 6 ≤ X.1) (hL : LI B v w) (hB : B + 300 ≤ 200000) (hn : ∀ v' w', LI (B + 300) v' w' → am_Go X (d + 29) k_law 1233 ([.float u, .ref 0, .ref 388, .int (nI i)], [], (428, 26053, KD, RF, v', w')) Q) : am_Go X (d + 29) k_law 282 ([.float u, .ref 0, .ref 388, .int (nI i)], [], (428, 26053, KD, RF, v, w)) Q := by
  obtain ⟨T, f, sz, h, m, tp, tm, ts, hd, hs, len, P, pl, ck, cm, cp⟩ := hL
  have cm0 := cm
  obtain ⟨lv, o0, o1, mi, hx, wm, hh, c2, c9, c17, l0, l1, ky⟩ := cm0
  have ck0 := ck
  obtain ⟨ki, ⟨nx, hP⟩, wx, hk, d1, d2, d3⟩ := ck0
  have hby : BY P len := fun j _ => cp.2.2.2.2 j
  have hB0 : 0 ≤ B := by
    have h3 := cp.1.1.2.2.1
    have h4 := cp.1.1.2.2.2
    omega
  refine go_at (blk := b_law_282) rfl ?_
  simp (disch := omega) only [b_law_282, be_6, be_57_0, kc_0, List.getD_cons_zero, List.getD_cons_succ, List.set_cons_zero, List.set_cons_succ, List.length_cons, List.length_nil, pk_I, pk_A, pr_A, pi_I, st_s, st_n, if_true, if_false, eq_self, d_if, d_ju, d_re, d_ca, cat0, cat1, cat2, cat3, fr_z, fr_s, cc_I, cc_A, cc_N, Nat.reduceAdd, Nat.reduceLT, Nat.reduceLeDiff, Nat.reduceEqDiff, not_true, not_false_iff, z1_0, z1_1, Bool.and_self, Bool.true_and, Bool.and_true, nI_add, pk_mul, nI_clamp, decide_true, Nat.le_refl, bI_eq, bI_z1, in_nI, pk_F]
  refine p_read (b := P) (len := len) d1 d2 hby cp.2.2.2.1 ?_ ?_
  · intro v1 w1 L R r pl' hLX hF hR f1 z1 z2 e1
    have ck1 := CK_r ck f1 z1 z2
    have cm1 := CM_f (w' := w1) cm (fun c hc => f1 c (by omega)) (e1 395 (by omega) (by omega))
    obtain ⟨lv, o0, o1, mi, hx, wm, hh, c2, c9, c17, l0, l1, ky⟩ := cm1
    have hlv := mi.1.1.2.1
    rcases hR with ⟨f8, rfl, rfl, rfl⟩ | ⟨l8, p8, D8, rfl, hl8, rfl, rfl⟩
    ·
      refine go_at (blk := b_law_286) rfl ?_
      simp (disch := omega) only [b_law_286, be_6, be_57_0, kc_388, List.getD_cons_zero, List.getD_cons_succ, List.set_cons_zero, List.set_cons_succ, List.length_cons, List.length_nil, pk_I, pk_A, pr_A, pi_I, st_s, st_n, if_true, if_false, eq_self, d_if, d_ju, d_re, d_ca, cat0, cat1, cat2, cat3, fr_z, fr_s, cc_I, cc_A, cc_N, Nat.reduceAdd, Nat.reduceLT, Nat.reduceLeDiff, Nat.reduceEqDiff, not_true, not_false_iff, z1_0, z1_1, Bool.and_self, Bool.true_and, Bool.and_true, nI_add, pk_mul, nI_clamp, decide_true, Nat.le_refl, bI_eq, bI_z1, in_nI, pk_F]
      refine r_read (b := P) (len := len) (lv := lv) (sd := 1 - lv) c2 cp.2.2.2.1 c9 hby mi.1.1.1 (pk_sub (by omega)) (by omega) ky (fun j hj => by rw [mi.2.2.1 j hj, cp.1.2.2.2 j hj]) (fun j hj => by rw [mi.2.1, cp.1.2.2.2 j hj]) hLX hF (fun v2 w2 f9 e g2 ew i17 i2 => ?_) (fun v2 w2 l9 p9 D9 e => by cases e) (fun v2 w2 p9 D9 T9 e => by cases e)
      cases e
      have cm2 := CM_Q (pl' := nI f8.2) mi hx wm hh c9 l0 l1 ky g2 (ew 395 (by omega) (by omega)) i17 i2
      have ck2 := CK_f (ck1) (v' := v2) (fun c hc => GQ_c g2 (by omega))
      have cp2 : CP B T f sz h hd hs 0 P := ⟨cp.1, cp.2.1, cp.2.2.1, by omega, cp.2.2.2.2⟩
      refine go_at (blk := b_law_290) rfl ?_
      simp (disch := omega) only [b_law_290, be_49_0, List.getD_cons_zero, List.getD_cons_succ, List.set_cons_zero, List.set_cons_succ, List.length_cons, List.length_nil, pk_I, pk_A, pr_A, pi_I, st_s, st_n, if_true, if_false, eq_self, d_if, d_ju, d_re, d_ca, cat0, cat1, cat2, cat3, fr_z, fr_s, cc_I, cc_A, cc_N, Nat.reduceAdd, Nat.reduceLT, Nat.reduceLeDiff, Nat.reduceEqDiff, not_true, not_false_iff, z1_0, z1_1, Bool.and_self, Bool.true_and, Bool.and_true, nI_add, pk_mul, nI_clamp, decide_true, Nat.le_refl, bI_eq, bI_z1, in_nI, pk_F]
      exact hn _ _ (LI_le ⟨_, _, _, _, _, _, _, _, _, _, _, _, _, ck2, cm2, cp2⟩ (by omega) hB)
    ·
      refine go_at (blk := b_law_286) rfl ?_
      simp (disch := omega) only [b_law_286, be_6, be_57_0, kc_388, List.getD_cons_zero, List.getD_cons_succ, List.set_cons_zero, List.set_cons_succ, List.length_cons, List.length_nil, pk_I, pk_A, pr_A, pi_I, st_s, st_n, if_true, if_false, eq_self, d_if, d_ju, d_re, d_ca, cat0, cat1, cat2, cat3, fr_z, fr_s, cc_I, cc_A, cc_N, Nat.reduceAdd, Nat.reduceLT, Nat.reduceLeDiff, Nat.reduceEqDiff, not_true, not_false_iff, z1_0, z1_1, Bool.and_self, Bool.true_and, Bool.and_true, nI_add, pk_mul, nI_clamp, decide_true, Nat.le_refl, bI_eq, bI_z1, in_nI, pk_F]
      refine r_read (b := P) (len := len) (lv := lv) (sd := 1 - lv) c2 cp.2.2.2.1 c9 hby mi.1.1.1 (pk_sub (by omega)) (by omega) ky (fun j hj => by rw [mi.2.2.1 j hj, cp.1.2.2.2 j hj]) (fun j hj => by rw [mi.2.1, cp.1.2.2.2 j hj]) hLX hF (fun v2 w2 f9 e => by cases e) (fun v2 w2 l9 p9 D9 e _ g2 ew i17 i2 => ?_) (fun v2 w2 p9 D9 T9 e => by cases e; exact absurd rfl hl8)
      cases e
      have cm2 := CM_Q (pl' := nI p8) mi hx wm hh c9 l0 l1 ky g2 (ew 395 (by omega) (by omega)) i17 i2
      have ck2 := CK_f (ck1) (v' := v2) (fun c hc => GQ_c g2 (by omega))
      have cp2 : CP B T f sz h hd hs 0 P := ⟨cp.1, cp.2.1, cp.2.2.1, by omega, cp.2.2.2.2⟩
      refine go_at (blk := b_law_290) rfl ?_
      simp (disch := omega) only [b_law_290, be_49_0, List.getD_cons_zero, List.getD_cons_succ, List.set_cons_zero, List.set_cons_succ, List.length_cons, List.length_nil, pk_I, pk_A, pr_A, pi_I, st_s, st_n, if_true, if_false, eq_self, d_if, d_ju, d_re, d_ca, cat0, cat1, cat2, cat3, fr_z, fr_s, cc_I, cc_A, cc_N, Nat.reduceAdd, Nat.reduceLT, Nat.reduceLeDiff, Nat.reduceEqDiff, not_true, not_false_iff, z1_0, z1_1, Bool.and_self, Bool.true_and, Bool.and_true, nI_add, pk_mul, nI_clamp, decide_true, Nat.le_refl, bI_eq, bI_z1, in_nI, pk_F]
      exact hn _ _ (LI_le ⟨_, _, _, _, _, _, _, _, _, _, _, _, _, ck2, cm2, cp2⟩ (by omega) hB)
  · intro v1 w1 L p D hLX hF hX b0 b1 hr h481 h482 h358 h369 h01 h02 f1 e1
    have cm1 := CM_f (w' := w1) cm (fun c hc => f1 c (by omega)) (e1 395 (by omega) (by omega))
    obtain ⟨lv, o0, o1, mi, hx, wm, hh, c2, c9, c17, l0, l1, ky⟩ := cm1
    have hlv := mi.1.1.2.1
    refine go_at (blk := b_law_286) rfl ?_
    simp (disch := omega) only [b_law_286, be_6, be_57_0, kc_388, List.getD_cons_zero, List.getD_cons_succ, List.set_cons_zero, List.set_cons_succ, List.length_cons, List.length_nil, pk_I, pk_A, pr_A, pi_I, st_s, st_n, if_true, if_false, eq_self, d_if, d_ju, d_re, d_ca, cat0, cat1, cat2, cat3, fr_z, fr_s, cc_I, cc_A, cc_N, Nat.reduceAdd, Nat.reduceLT, Nat.reduceLeDiff, Nat.reduceEqDiff, not_true, not_false_iff, z1_0, z1_1, Bool.and_self, Bool.true_and, Bool.and_true, nI_add, pk_mul, nI_clamp, decide_true, Nat.le_refl, bI_eq, bI_z1, in_nI, pk_F]
    refine r_read (b := P) (len := len) (lv := lv) (sd := 1 - lv) c2 cp.2.2.2.1 c9 hby mi.1.1.1 (pk_sub (by omega)) (by omega) ky (fun j hj => by rw [mi.2.2.1 j hj, cp.1.2.2.2 j hj]) (fun j hj => by rw [mi.2.1, cp.1.2.2.2 j hj]) hLX hF (fun v2 w2 f9 e => by cases e) (fun v2 w2 l9 p9 D9 e z => by cases e; exact absurd rfl z) (fun v2 w2 p9 D9 T9 e fr ew i389 i17 i2 i51 i55 i426 hMX hTD hGT i418 i419 w0 w1 => ?_)
    cases e
    obtain ⟨q0, q1, _⟩ := fin_0 (mkE_ok cp.2.2.2.1 hLX) hF
    have hli := LI_new (B := B) (v := v) (w2 := w2) (nx := nx) (P := P) hB0 (by omega) (by omega) q0 q1 hX b0 b1 hr (h481.trans hP.1) hP.2.1 h482 h358 h369 h01 h02 (by rw [f1 1 (by omega)]; exact d2) fr (i389.trans c9) i17 i2 i51 i55 i426 hMX hTD hGT i418 i419 w0 w1 (by rw [ew 395 (by omega) (by omega)]; exact ky) cp.2.2.2.2
    refine go_at (blk := b_law_290) rfl ?_
    simp (disch := omega) only [b_law_290, be_49_0, List.getD_cons_zero, List.getD_cons_succ, List.set_cons_zero, List.set_cons_succ, List.length_cons, List.length_nil, pk_I, pk_A, pr_A, pi_I, st_s, st_n, if_true, if_false, eq_self, d_if, d_ju, d_re, d_ca, cat0, cat1, cat2, cat3, fr_z, fr_s, cc_I, cc_A, cc_N, Nat.reduceAdd, Nat.reduceLT, Nat.reduceLeDiff, Nat.reduceEqDiff, not_true, not_false_iff, z1_0, z1_1, Bool.and_self, Bool.true_and, Bool.and_true, nI_add, pk_mul, nI_clamp, decide_true, Nat.le_refl, bI_eq, bI_z1, in_nI, pk_F]
    exact hn _ _ (LI_le hli (by omega) hB)
