/-! laid by wip/whole/h4.py: the law: what was seen, held, fed -/
theorem CK_t {B : Int} {v v' : Nat → Nat → Int32} {T : TXT} {f : Nat → Int32} {sz : Nat} {h : Nat → Nat → Int32} {m : Nat} {tp tm : Nat → Nat} {ts : Nat → Int32} {hd : Nat → Bool} {hs : Nat → Nat → Int32} {len : Nat} {P : Nat → Int32} {pl : Int32} (hc : CK B v T f sz h m tp tm ts hd hs len P pl) {m' : Nat} {tp' tm' : Nat → Nat} {ts' : Nat → Int32} (e : ∀ c, (c < 358 ∨ 361 < c) → v' c = v c) (hw : WX v' (tN T) m' tp' tm' ts') : CK B v' T f sz h m' tp' tm' ts' hd hs len P pl := by
  obtain ⟨⟨k1, k2, k3⟩, ⟨nx, p⟩, x, s, t1, t2, t3⟩ := hc
  refine ⟨⟨KX_w k1 (fun c _ _ _ _ => e c (by omega)), RX_w k2 (fun c _ _ => e c (by omega)), k3⟩, ⟨nx, PI_w p (fun c _ _ => e c (by omega))⟩, hw, fun q hq => ?_, by rw [e 0 (by omega)]; exact t1, by rw [e 1 (by omega)]; exact t2, by rw [e 0 (by omega)]; exact t3⟩
  rw [e 369 (by omega)]
  exact ⟨(s q hq).1, fun z => RX_w ((s q hq).2 z) (fun c _ _ => e c (by omega))⟩
theorem CM_t {B : Int} {v v' : Nat → Nat → Int32} {w : Nat → Nat → Int64} {T : TXT} {f : Nat → Int32} {sz : Nat} {h : Nat → Nat → Int32} {m : Nat} {tp tm : Nat → Nat} {ts : Nat → Int32} {hd : Nat → Bool} {hs : Nat → Nat → Int32} {len : Nat} {P : Nat → Int32} {pl : Int32} (hc : CM B v w T f sz h m tp tm ts hd hs len P pl) {m' : Nat} {tp' tm' : Nat → Nat} {ts' : Nat → Int32} (e : ∀ c, c ≠ 388 → (c < 423 ∨ 425 < c) → v' c = v c) (e8 : ∀ k, k ≠ 55 → v' 388 k = v 388 k) (hw : WM v' (tN T) m' tp' tm' ts') : CM B v' w T f sz h m' tp' tm' ts' hd hs len P pl := by
  obtain ⟨lv, o0, o1, k, x, y, s, t1, t2, t3, l0, l1, ky⟩ := hc
  refine ⟨lv, o0, o1, ⟨MX_w k.1 (fun c _ _ => e c (by omega) (by omega)) (e8 18 (by omega)), by rw [e 418 (by omega) (by omega)]; exact k.2.1, by rw [e 419 (by omega) (by omega)]; exact k.2.2.1, k.2.2.2⟩, ?_, hw, fun q hq => ?_, by rw [e8 2 (by omega)]; exact t1, by rw [e 389 (by omega) (by omega)]; exact t2, by rw [e8 17 (by omega)]; exact t3, LWO_w l0 (fun c _ _ => e c (by omega) (by omega)), LWO_w l1 (fun c _ _ => e c (by omega) (by omega)), ky⟩
  · unfold HX at *
    rw [e8 51 (by omega), e 420 (by omega) (by omega)]
    exact x
  · rw [e 426 (by omega) (by omega), e 427 (by omega) (by omega)]
    exact s q hq
theorem CK_h {B : Int} {v v' : Nat → Nat → Int32} {T : TXT} {f : Nat → Int32} {sz : Nat} {h : Nat → Nat → Int32} {m : Nat} {tp tm : Nat → Nat} {ts : Nat → Int32} {hd : Nat → Bool} {hs : Nat → Nat → Int32} {len : Nat} {P : Nat → Int32} {pl : Int32} (hc : CK B v T f sz h m tp tm ts hd hs len P pl) {q : Nat} (hq : q < 3) (e : ∀ c, c ≠ 369 → (c < 370 + 6 * q ∨ 370 + 6 * q + 5 < c) → v' c = v c) (e9 : v' 369 = upd (v 369) q (nI 1)) (hr : RX v' (370 + 6 * q) (tN T) (-1) 0 f) : CK B v' T f sz h m tp tm ts (fun s => if s = q then true else hd s) (fun s => if s = q then f else hs s) len P pl := by
  obtain ⟨⟨k1, k2, k3⟩, ⟨nx, p⟩, x, s, t1, t2, t3⟩ := hc
  refine ⟨⟨KX_w k1 (fun c _ _ _ _ => e c (by omega) (by omega)), RX_w k2 (fun c _ _ => e c (by omega) (by omega)), k3⟩, ⟨nx, PI_w p (fun c _ _ => e c (by omega) (by omega))⟩, ?_, fun r hr' => ?_, by rw [e 0 (by omega) (by omega)]; exact t1, by rw [e 1 (by omega) (by omega)]; exact t2, by rw [e 0 (by omega) (by omega)]; exact t3⟩
  · unfold WX at *
    rw [e 358 (by omega) (by omega), e 359 (by omega) (by omega), e 360 (by omega) (by omega), e 361 (by omega) (by omega)]
    exact x
  · rw [e9]
    dsimp only
    by_cases z : r = q
    · subst z
      rw [upd_at, if_pos rfl, if_pos rfl]
      exact ⟨rfl, fun _ => hr⟩
    · rw [upd_ne z, if_neg z, if_neg z]
      exact ⟨(s r hr').1, fun y => RX_w ((s r hr').2 y) (fun c _ _ => e c (by omega) (by omega))⟩
theorem CM_h {B : Int} {v v' : Nat → Nat → Int32} {w : Nat → Nat → Int64} {T : TXT} {f : Nat → Int32} {sz : Nat} {h : Nat → Nat → Int32} {m : Nat} {tp tm : Nat → Nat} {ts : Nat → Int32} {hd : Nat → Bool} {hs : Nat → Nat → Int32} {len : Nat} {P : Nat → Int32} {pl : Int32} (hc : CM B v w T f sz h m tp tm ts hd hs len P pl) {q : Nat} (hq : q < 3) (e : ∀ c, c ≠ 426 → c ≠ 427 → v' c = v c) (e6 : v' 426 = upd (v 426) q (nI 1)) (e7 : v' 427 = plR f (v 427) (50 * q) 50) : CM B v' w T f sz h m tp tm ts (fun s => if s = q then true else hd s) (fun s => if s = q then f else hs s) len P pl := by
  obtain ⟨lv, o0, o1, k, x, y, s, t1, t2, t3, l0, l1, ky⟩ := hc
  refine ⟨lv, o0, o1, ⟨MX_w k.1 (fun c _ _ => e c (by omega) (by omega)) (by rw [e 388 (by omega) (by omega)]), by rw [e 418 (by omega) (by omega)]; exact k.2.1, by rw [e 419 (by omega) (by omega)]; exact k.2.2.1, k.2.2.2⟩, ?_, ?_, fun r hr => ?_, by rw [e 388 (by omega) (by omega)]; exact t1, by rw [e 389 (by omega) (by omega)]; exact t2, by rw [e 388 (by omega) (by omega)]; exact t3, LWO_w l0 (fun c _ _ => e c (by omega) (by omega)), LWO_w l1 (fun c _ _ => e c (by omega) (by omega)), ky⟩
  · unfold HX at *
    rw [e 388 (by omega) (by omega), e 420 (by omega) (by omega)]
    exact x
  · unfold WM at *
    rw [e 388 (by omega) (by omega), e 423 (by omega) (by omega), e 424 (by omega) (by omega), e 425 (by omega) (by omega)]
    exact y
  · rw [e6, e7]
    dsimp only
    by_cases z : r = q
    · subst z
      rw [upd_at, if_pos rfl, if_pos rfl]
      refine ⟨rfl, fun _ j hj => ?_⟩
      unfold plR
      rw [if_pos ⟨by omega, by omega⟩, show 50 * r + j - 50 * r = j by omega]
    · rw [upd_ne z, if_neg z, if_neg z]
      refine ⟨(s r hr).1, fun y j hj => ?_⟩
      unfold plR
      rw [if_neg (by omega)]
      exact (s r hr).2 y j hj
theorem WX_a {v : Nat → Nat → Int32} {n m : Nat} {tp tm : Nat → Nat} {ts : Nat → Int32} {y a b : Int32} {p t : Nat} (wx : WX v n m tp tm ts) (hm : m < 20) (ep : y = nI p) (hp : p < n) (et : a = nI t) (ht : t ≤ 99) : WX (am_u (am_u (am_u (am_u v 359 m y) 360 m a) 361 m b) 358 5 (nI (m + 1))) n (m + 1) (fun j => if j = m then p else tp j) (fun j => if j = m then t else tm j) (fun j => if j = m then b else ts j) := by
  have r1 : (am_u (am_u (am_u (am_u v 359 m y) 360 m a) 361 m b) 358 5 (nI (m + 1))) 359 = upd (v 359) m y := by rw [am_u_ne (by omega), am_u_ne (by omega), am_u_ne (by omega), am_u_at]
  have r2 : (am_u (am_u (am_u (am_u v 359 m y) 360 m a) 361 m b) 358 5 (nI (m + 1))) 360 = upd (v 360) m a := by rw [am_u_ne (by omega), am_u_ne (by omega), am_u_at, am_u_ne (by omega)]
  have r3 : (am_u (am_u (am_u (am_u v 359 m y) 360 m a) 361 m b) 358 5 (nI (m + 1))) 361 = upd (v 361) m b := by rw [am_u_ne (by omega), am_u_at, am_u_ne (by omega), am_u_ne (by omega)]
  refine ⟨by rw [am_u_at, upd_at], by omega, fun j hj => ?_⟩
  rw [r1, r2, r3]
  dsimp only
  by_cases z : j = m
  · rw [z, upd_at, upd_at, upd_at, if_pos rfl, if_pos rfl, if_pos rfl]
    exact ⟨ep, hp, et, ht, rfl⟩
  · rw [upd_ne z, upd_ne z, upd_ne z, if_neg z, if_neg z, if_neg z]
    exact wx.2.2 j (by omega)
theorem WM_a {v : Nat → Nat → Int32} {n m : Nat} {tp tm : Nat → Nat} {ts : Nat → Int32} {y a b : Int32} {p t : Nat} (wx : WM v n m tp tm ts) (hm : m < 20) (ep : y = nI p) (hp : p < n) (et : a = nI t) (ht : t ≤ 99) : WM (am_u (am_u (am_u (am_u v 423 m y) 424 m a) 425 m b) 388 55 (nI (m + 1))) n (m + 1) (fun j => if j = m then p else tp j) (fun j => if j = m then t else tm j) (fun j => if j = m then b else ts j) := by
  have r1 : (am_u (am_u (am_u (am_u v 423 m y) 424 m a) 425 m b) 388 55 (nI (m + 1))) 423 = upd (v 423) m y := by rw [am_u_ne (by omega), am_u_ne (by omega), am_u_ne (by omega), am_u_at]
  have r2 : (am_u (am_u (am_u (am_u v 423 m y) 424 m a) 425 m b) 388 55 (nI (m + 1))) 424 = upd (v 424) m a := by rw [am_u_ne (by omega), am_u_ne (by omega), am_u_at, am_u_ne (by omega)]
  have r3 : (am_u (am_u (am_u (am_u v 423 m y) 424 m a) 425 m b) 388 55 (nI (m + 1))) 425 = upd (v 425) m b := by rw [am_u_ne (by omega), am_u_at, am_u_ne (by omega), am_u_ne (by omega)]
  refine ⟨by rw [am_u_at, upd_at], by omega, fun j hj => ?_⟩
  rw [r1, r2, r3]
  dsimp only
  by_cases z : j = m
  · rw [z, upd_at, upd_at, upd_at, if_pos rfl, if_pos rfl, if_pos rfl]
    exact ⟨ep, hp, et, ht, rfl⟩
  · rw [upd_ne z, upd_ne z, upd_ne z, if_neg z, if_neg z, if_neg z]
    exact wx.2.2 j (by omega)
theorem te_of {n : Nat} {y a b : Int32} (hn : n ≤ 8) (h : teB n y a b = true) : ∃ p t, p < n ∧ y = nI p ∧ t ≤ 99 ∧ a = nI t := by
  unfold teB at h
  simp only [Bool.and_eq_true, Bool.not_eq_true', decide_eq_false_iff_not] at h
  obtain ⟨⟨h1, h2, h3⟩, _⟩ := h
  obtain ⟨p, hp, e1, _⟩ := pil_of hn h1
  obtain ⟨j, hj, rfl⟩ := nI_of h2
  rw [nI_ltI (by omega) hj] at h3
  exact ⟨p, j, hp, e1, by omega, rfl⟩
theorem CK_p {B : Int} {v v' : Nat → Nat → Int32} {T : TXT} {f : Nat → Int32} {sz : Nat} {h : Nat → Nat → Int32} {m : Nat} {tp tm : Nat → Nat} {ts : Nat → Int32} {hd : Nat → Bool} {hs : Nat → Nat → Int32} {len : Nat} {P : Nat → Int32} {pl : Int32} (hc : CK B v T f sz h m tp tm ts hd hs len P pl) {len' : Nat} {P' : Nat → Int32} (e : ∀ c, c ≠ 0 → c ≠ 1 → v' c = v c) (e0 : v' 0 1 = nI len') (e1 : v' 1 = P') (e2 : v' 0 2 = v 0 2) : CK B v' T f sz h m tp tm ts hd hs len' P' pl := by
  obtain ⟨⟨k1, k2, k3⟩, ⟨nx, p⟩, x, s, t1, t2, t3⟩ := hc
  refine ⟨⟨KX_w k1 (fun c _ _ _ _ => e c (by omega) (by omega)), RX_w k2 (fun c _ _ => e c (by omega) (by omega)), k3⟩, ⟨nx, PI_w p (fun c _ _ => e c (by omega) (by omega))⟩, ?_, fun q hq => ?_, e0, e1, e2.trans t3⟩
  · unfold WX at *
    rw [e 358 (by omega) (by omega), e 359 (by omega) (by omega), e 360 (by omega) (by omega), e 361 (by omega) (by omega)]
    exact x
  · rw [e 369 (by omega) (by omega)]
    exact ⟨(s q hq).1, fun z => RX_w ((s q hq).2 z) (fun c _ _ => e c (by omega) (by omega))⟩
theorem CM_p {B : Int} {v v' : Nat → Nat → Int32} {w : Nat → Nat → Int64} {T : TXT} {f : Nat → Int32} {sz : Nat} {h : Nat → Nat → Int32} {m : Nat} {tp tm : Nat → Nat} {ts : Nat → Int32} {hd : Nat → Bool} {hs : Nat → Nat → Int32} {len : Nat} {P : Nat → Int32} {pl : Int32} (hc : CM B v w T f sz h m tp tm ts hd hs len P pl) {len' : Nat} {P' : Nat → Int32} (e : ∀ c, c ≠ 388 → c ≠ 389 → v' c = v c) (e8 : ∀ k, k ≠ 2 → v' 388 k = v 388 k) (e0 : v' 388 2 = nI len') (e1 : v' 389 = P') : CM B v' w T f sz h m tp tm ts hd hs len' P' pl := by
  obtain ⟨lv, o0, o1, k, x, y, s, t1, t2, t3, l0, l1, ky⟩ := hc
  refine ⟨lv, o0, o1, ⟨MX_w k.1 (fun c _ _ => e c (by omega) (by omega)) (e8 18 (by omega)), by rw [e 418 (by omega) (by omega)]; exact k.2.1, by rw [e 419 (by omega) (by omega)]; exact k.2.2.1, k.2.2.2⟩, ?_, ?_, fun q hq => ?_, e0, e1, by rw [e8 17 (by omega)]; exact t3, LWO_w l0 (fun c _ _ => e c (by omega) (by omega)), LWO_w l1 (fun c _ _ => e c (by omega) (by omega)), ky⟩
  · unfold HX at *
    rw [e8 51 (by omega), e 420 (by omega) (by omega)]
    exact x
  · unfold WM at *
    rw [e8 55 (by omega), e 423 (by omega) (by omega), e 424 (by omega) (by omega), e 425 (by omega) (by omega)]
    exact y
  · rw [e 426 (by omega) (by omega), e 427 (by omega) (by omega)]
    exact s q hq
theorem p_feed2 {d : Nat} {v : Nat → Nat → Int32} {w : Nat → Nat → Int64} {Q : Option Value → am_H → Prop} {P : Nat → Int32} {t : Nat} {a b c e g : Int32} (h1 : v 1 = P) (h0 : v 0 1 = nI t) (ht : t ≤ 2000) (q0 : 2000 < t + 20 → Q (some (.int (-1))) (428, 26053, KD, RF, v, w)) (q1 : t + 20 ≤ 2000 → Q (some (.int (nI (t + 4 + 4 + 4 + 4 + 4)))) (428, 26053, KD, RF, twS v (fdS t a b c e g P) (nI (t + 4 + 4 + 4 + 4 + 4)), w)) : am_Ca (d + 2) M_KneeStair_feed [.ref 0, .int a, .int b, .int c, .int e, .int g] (428, 26053, KD, RF, v, w) Q := by
  have ev : twS v P (nI t) = v := by
    funext c
    unfold twS
    by_cases z : c = 1
    · rw [if_pos z, z, h1]
    · rw [if_neg z]
      by_cases z0 : c = 0
      · rw [if_pos z0, z0]
        funext k
        by_cases zk : k = 1
        · rw [zk, upd_at, h0]
        · rw [upd_ne zk]
      · rw [if_neg z0]
  have hp := p_feed (d := d) (v := v) (w := w) (Q := Q) (P := P) (t := t) (a := a) (b := b) (c := c) (e := e) (g := g) ht (fun z => by rw [ev]; exact q0 z) q1
  rw [ev] at hp
  exact hp
theorem r_feed2 {d : Nat} {v : Nat → Nat → Int32} {w : Nat → Nat → Int64} {Q : Option Value → am_H → Prop} {P : Nat → Int32} {t : Nat} {a b c e g : Int32} (h1 : v 389 = P) (h0 : v 388 2 = nI t) (ht : t ≤ 2000) (q0 : 2000 < t + 20 → Q (some (.int (-1))) (428, 26053, KD, RF, v, w)) (q1 : t + 20 ≤ 2000 → Q (some (.int (nI (t + 4 + 4 + 4 + 4 + 4)))) (428, 26053, KD, RF, mtS v (fdS t a b c e g P) (nI (t + 4 + 4 + 4 + 4 + 4)), w)) : am_Ca (d + 2) M_Model_feed [.ref 388, .int a, .int b, .int c, .int e, .int g] (428, 26053, KD, RF, v, w) Q := by
  have ev : mtS v P (nI t) = v := by
    funext c
    unfold mtS
    by_cases z : c = 389
    · rw [if_pos z, z, h1]
    · rw [if_neg z]
      by_cases z0 : c = 388
      · rw [if_pos z0, z0]
        funext k
        by_cases zk : k = 2
        · rw [zk, upd_at, h0]
        · rw [upd_ne zk]
      · rw [if_neg z0]
  have hp := r_feed (d := d) (v := v) (w := w) (Q := Q) (P := P) (t := t) (a := a) (b := b) (c := c) (e := e) (g := g) ht (fun z => by rw [ev]; exact q0 z) q1
  rw [ev] at hp
  exact hp
set_option maxHeartbeats 2000000 in
theorem s_tell {d i : Nat} {X : am_X} {u : UInt32} {v : Nat → Nat → Int32} {w : Nat → Nat → Int64} {Q : Option Value → am_H → Prop} {B : Int} (hX : X.1 ≤ 3072) (hi : i + 6 ≤ X.1) (hL : LI B v w) (hB : B + 300 ≤ 200000) (hn : ∀ v' w', LI (B + 300) v' w' → am_Go X (d + 29) k_law 1233 ([.float u, .ref 0, .ref 388, .int (nI i)], [], (428, 26053, KD, RF, v', w')) Q) : am_Go X (d + 29) k_law 1052 ([.float u, .ref 0, .ref 388, .int (nI i)], [], (428, 26053, KD, RF, v, w)) Q := by
  obtain ⟨T, f, sz, h, m, tp, tm, ts, hd, hs, len, P, pl, ck, cm, cp⟩ := hL
  have cm0 := cm
  obtain ⟨lv, o0, o1, mi, hx, wm, hh, c2, c9, c17, l0, l1, ky⟩ := cm0
  have ck0 := ck
  obtain ⟨ki, ⟨nx, hP⟩, wx, hk, d1, d2, d3⟩ := ck0
  cases hte : teB (tN T) (X.2 (i + 1)) (X.2 (i + 2)) (X.2 (i + 3)) with
  | false =>
    refine go_at (blk := b_law_1052) rfl ?_
    simp (disch := omega) only [b_law_1052, be_6, be_4, be_1, be_12, be_71, be_57_3, kc_0, List.getD_cons_zero, List.getD_cons_succ, List.set_cons_zero, List.set_cons_succ, List.length_cons, List.length_nil, pk_I, pk_A, pr_A, pi_I, st_s, st_n, if_true, if_false, eq_self, d_if, d_ju, d_re, d_ca, cat0, cat1, cat2, cat3, fr_z, fr_s, cc_I, cc_A, cc_N, Nat.reduceAdd, Nat.reduceLT, Nat.reduceLeDiff, Nat.reduceEqDiff, not_true, not_false_iff, z1_0, z1_1, Bool.and_self, Bool.true_and, Bool.and_true, nI_add, pk_mul, nI_clamp, decide_true, Nat.le_refl, bI_eq, bI_z1, in_nI, pk_F]
    refine p_tell ki (fun _ => ?_) (fun z => by rw [hte] at z; cases z)
    refine go_at (blk := b_law_1071) rfl ?_
    simp (disch := omega) only [b_law_1071, be_6, be_4, be_1, be_12, be_71, be_57_3, kc_388, List.getD_cons_zero, List.getD_cons_succ, List.set_cons_zero, List.set_cons_succ, List.length_cons, List.length_nil, pk_I, pk_A, pr_A, pi_I, st_s, st_n, if_true, if_false, eq_self, d_if, d_ju, d_re, d_ca, cat0, cat1, cat2, cat3, fr_z, fr_s, cc_I, cc_A, cc_N, Nat.reduceAdd, Nat.reduceLT, Nat.reduceLeDiff, Nat.reduceEqDiff, not_true, not_false_iff, z1_0, z1_1, Bool.and_self, Bool.true_and, Bool.and_true, nI_add, pk_mul, nI_clamp, decide_true, Nat.le_refl, bI_eq, bI_z1, in_nI, pk_F]
    refine r_tell mi wm (fun _ => ?_) (fun _ z => by rw [hte] at z; cases z)
    have ck2 := ck
    have cm2 := cm
    have cp2 := cp
    refine go_at (blk := b_law_1090) rfl ?_
    simp (disch := omega) only [b_law_1090, be_49_0, List.getD_cons_zero, List.getD_cons_succ, List.set_cons_zero, List.set_cons_succ, List.length_cons, List.length_nil, pk_I, pk_A, pr_A, pi_I, st_s, st_n, if_true, if_false, eq_self, d_if, d_ju, d_re, d_ca, cat0, cat1, cat2, cat3, fr_z, fr_s, cc_I, cc_A, cc_N, Nat.reduceAdd, Nat.reduceLT, Nat.reduceLeDiff, Nat.reduceEqDiff, not_true, not_false_iff, z1_0, z1_1, Bool.and_self, Bool.true_and, Bool.and_true, nI_add, pk_mul, nI_clamp, decide_true, Nat.le_refl, bI_eq, bI_z1, in_nI, pk_F]
    exact hn _ w (LI_le ⟨_, _, _, _, _, _, _, _, _, _, _, _, _, ck2, cm2, cp2⟩ (by omega) hB)
  | true =>
    by_cases hm : m = 20
    ·
      refine go_at (blk := b_law_1052) rfl ?_
      simp (disch := omega) only [b_law_1052, be_6, be_4, be_1, be_12, be_71, be_57_3, kc_0, List.getD_cons_zero, List.getD_cons_succ, List.set_cons_zero, List.set_cons_succ, List.length_cons, List.length_nil, pk_I, pk_A, pr_A, pi_I, st_s, st_n, if_true, if_false, eq_self, d_if, d_ju, d_re, d_ca, cat0, cat1, cat2, cat3, fr_z, fr_s, cc_I, cc_A, cc_N, Nat.reduceAdd, Nat.reduceLT, Nat.reduceLeDiff, Nat.reduceEqDiff, not_true, not_false_iff, z1_0, z1_1, Bool.and_self, Bool.true_and, Bool.and_true, nI_add, pk_mul, nI_clamp, decide_true, Nat.le_refl, bI_eq, bI_z1, in_nI, pk_F]
      refine p_tell ki (fun z => by rw [hte] at z; cases z) (fun _ => k_add0 (d := 0) (by rw [← hm]; exact wx.1) ⟨_, rfl, ?_⟩)
      refine go_at (blk := b_law_1071) rfl ?_
      simp (disch := omega) only [b_law_1071, be_6, be_4, be_1, be_12, be_71, be_57_3, kc_388, List.getD_cons_zero, List.getD_cons_succ, List.set_cons_zero, List.set_cons_succ, List.length_cons, List.length_nil, pk_I, pk_A, pr_A, pi_I, st_s, st_n, if_true, if_false, eq_self, d_if, d_ju, d_re, d_ca, cat0, cat1, cat2, cat3, fr_z, fr_s, cc_I, cc_A, cc_N, Nat.reduceAdd, Nat.reduceLT, Nat.reduceLeDiff, Nat.reduceEqDiff, not_true, not_false_iff, z1_0, z1_1, Bool.and_self, Bool.true_and, Bool.and_true, nI_add, pk_mul, nI_clamp, decide_true, Nat.le_refl, bI_eq, bI_z1, in_nI, pk_F]
      refine r_tell mi wm (fun _ => ?_) (fun z _ => absurd z (by omega))
      have ck2 := ck
      have cm2 := cm
      have cp2 := cp
      refine go_at (blk := b_law_1090) rfl ?_
      simp (disch := omega) only [b_law_1090, be_49_0, List.getD_cons_zero, List.getD_cons_succ, List.set_cons_zero, List.set_cons_succ, List.length_cons, List.length_nil, pk_I, pk_A, pr_A, pi_I, st_s, st_n, if_true, if_false, eq_self, d_if, d_ju, d_re, d_ca, cat0, cat1, cat2, cat3, fr_z, fr_s, cc_I, cc_A, cc_N, Nat.reduceAdd, Nat.reduceLT, Nat.reduceLeDiff, Nat.reduceEqDiff, not_true, not_false_iff, z1_0, z1_1, Bool.and_self, Bool.true_and, Bool.and_true, nI_add, pk_mul, nI_clamp, decide_true, Nat.le_refl, bI_eq, bI_z1, in_nI, pk_F]
      exact hn _ w (LI_le ⟨_, _, _, _, _, _, _, _, _, _, _, _, _, ck2, cm2, cp2⟩ (by omega) hB)
    · have hm2 : m < 20 := by have := wx.2.1; omega
      obtain ⟨p9, t9, hp9, ep, ht9, et⟩ := te_of ki.1.1 hte
      refine go_at (blk := b_law_1052) rfl ?_
      simp (disch := omega) only [b_law_1052, be_6, be_4, be_1, be_12, be_71, be_57_3, kc_0, List.getD_cons_zero, List.getD_cons_succ, List.set_cons_zero, List.set_cons_succ, List.length_cons, List.length_nil, pk_I, pk_A, pr_A, pi_I, st_s, st_n, if_true, if_false, eq_self, d_if, d_ju, d_re, d_ca, cat0, cat1, cat2, cat3, fr_z, fr_s, cc_I, cc_A, cc_N, Nat.reduceAdd, Nat.reduceLT, Nat.reduceLeDiff, Nat.reduceEqDiff, not_true, not_false_iff, z1_0, z1_1, Bool.and_self, Bool.true_and, Bool.and_true, nI_add, pk_mul, nI_clamp, decide_true, Nat.le_refl, bI_eq, bI_z1, in_nI, pk_F]
      refine p_tell ki (fun z => by rw [hte] at z; cases z) (fun _ => k_add1 (d := 0) wx.1 hm2 ⟨_, rfl, ?_⟩)
      have e1 : ∀ c, (c < 358 ∨ 361 < c) → (am_u (am_u (am_u (am_u v 359 m (X.2 (i + 1))) 360 m (X.2 (i + 2))) 361 m (X.2 (i + 3))) 358 5 (nI (m + 1))) c = v c := by
        intro c hc
        rw [am_u_ne (by omega), am_u_ne (by omega), am_u_ne (by omega), am_u_ne (by omega)]
      have ck1 := CK_t ck e1 (WX_a (b := X.2 (i + 3)) wx hm2 ep hp9 et ht9)
      have cm1 := CM_f (w' := w) cm (fun c hc => e1 c (by omega)) rfl
      have cm0 := cm1
      obtain ⟨lv, o0, o1, mi, hx, wm, _⟩ := cm0
      refine go_at (blk := b_law_1071) rfl ?_
      simp (disch := omega) only [b_law_1071, be_6, be_4, be_1, be_12, be_71, be_57_3, kc_388, List.getD_cons_zero, List.getD_cons_succ, List.set_cons_zero, List.set_cons_succ, List.length_cons, List.length_nil, pk_I, pk_A, pr_A, pi_I, st_s, st_n, if_true, if_false, eq_self, d_if, d_ju, d_re, d_ca, cat0, cat1, cat2, cat3, fr_z, fr_s, cc_I, cc_A, cc_N, Nat.reduceAdd, Nat.reduceLT, Nat.reduceLeDiff, Nat.reduceEqDiff, not_true, not_false_iff, z1_0, z1_1, Bool.and_self, Bool.true_and, Bool.and_true, nI_add, pk_mul, nI_clamp, decide_true, Nat.le_refl, bI_eq, bI_z1, in_nI, pk_F]
      refine r_tell mi wm (fun z => by rcases z with z | z; · omega
                                       · rw [hte] at z; cases z) (fun _ _ => ?_)
      have ck2 := CK_f ck1 (v' := (am_u (am_u (am_u (am_u (am_u (am_u (am_u (am_u v 359 m (X.2 (i + 1))) 360 m (X.2 (i + 2))) 361 m (X.2 (i + 3))) 358 5 (nI (m + 1))) 423 m (X.2 (i + 1))) 424 m (X.2 (i + 2))) 425 m (X.2 (i + 3))) 388 55 (nI (m + 1)))) (fun c hc => by rw [am_u_ne (by omega), am_u_ne (by omega), am_u_ne (by omega), am_u_ne (by omega)])
      have cm2 := CM_t cm1 (v' := (am_u (am_u (am_u (am_u (am_u (am_u (am_u (am_u v 359 m (X.2 (i + 1))) 360 m (X.2 (i + 2))) 361 m (X.2 (i + 3))) 358 5 (nI (m + 1))) 423 m (X.2 (i + 1))) 424 m (X.2 (i + 2))) 425 m (X.2 (i + 3))) 388 55 (nI (m + 1)))) (fun c c1 c2 => by rw [am_u_ne (by omega), am_u_ne (by omega), am_u_ne (by omega), am_u_ne (by omega)]) (fun k hk => by rw [am_u_at, upd_ne hk, am_u_ne (by omega), am_u_ne (by omega), am_u_ne (by omega)]) (WM_a (b := X.2 (i + 3)) wm hm2 ep hp9 et ht9)
      have cp2 := cp
      refine go_at (blk := b_law_1090) rfl ?_
      simp (disch := omega) only [b_law_1090, be_49_0, List.getD_cons_zero, List.getD_cons_succ, List.set_cons_zero, List.set_cons_succ, List.length_cons, List.length_nil, pk_I, pk_A, pr_A, pi_I, st_s, st_n, if_true, if_false, eq_self, d_if, d_ju, d_re, d_ca, cat0, cat1, cat2, cat3, fr_z, fr_s, cc_I, cc_A, cc_N, Nat.reduceAdd, Nat.reduceLT, Nat.reduceLeDiff, Nat.reduceEqDiff, not_true, not_false_iff, z1_0, z1_1, Bool.and_self, Bool.true_and, Bool.and_true, nI_add, pk_mul, nI_clamp, decide_true, Nat.le_refl, bI_eq, bI_z1, in_nI, pk_F]
      exact hn _ w (LI_le ⟨_, _, _, _, _, _, _, _, _, _, _, _, _, ck2, cm2, cp2⟩ (by omega) hB)
set_option maxHeartbeats 2000000 in
theorem s_forget {d i : Nat} {X : am_X} {u : UInt32} {v : Nat → Nat → Int32} {w : Nat → Nat → Int64} {Q : Option Value → am_H → Prop} {B : Int} (hX : X.1 ≤ 3072) (hi : i + 6 ≤ X.1) (hL : LI B v w) (hB : B + 300 ≤ 200000) (hn : ∀ v' w', LI (B + 300) v' w' → am_Go X (d + 29) k_law 1233 ([.float u, .ref 0, .ref 388, .int (nI i)], [], (428, 26053, KD, RF, v', w')) Q) : am_Go X (d + 29) k_law 1095 ([.float u, .ref 0, .ref 388, .int (nI i)], [], (428, 26053, KD, RF, v, w)) Q := by
  obtain ⟨T, f, sz, h, m, tp, tm, ts, hd, hs, len, P, pl, ck, cm, cp⟩ := hL
  have cm0 := cm
  obtain ⟨lv, o0, o1, mi, hx, wm, hh, c2, c9, c17, l0, l1, ky⟩ := cm0
  have ck0 := ck
  obtain ⟨ki, ⟨nx, hP⟩, wx, hk, d1, d2, d3⟩ := ck0
  refine go_at (blk := b_law_1095) rfl ?_
  simp (disch := omega) only [b_law_1095, be_6, be_57_0, kc_0, List.getD_cons_zero, List.getD_cons_succ, List.set_cons_zero, List.set_cons_succ, List.length_cons, List.length_nil, pk_I, pk_A, pr_A, pi_I, st_s, st_n, if_true, if_false, eq_self, d_if, d_ju, d_re, d_ca, cat0, cat1, cat2, cat3, fr_z, fr_s, cc_I, cc_A, cc_N, Nat.reduceAdd, Nat.reduceLT, Nat.reduceLeDiff, Nat.reduceEqDiff, not_true, not_false_iff, z1_0, z1_1, Bool.and_self, Bool.true_and, Bool.and_true, nI_add, pk_mul, nI_clamp, decide_true, Nat.le_refl, bI_eq, bI_z1, in_nI, pk_F]
  refine p_forget ?_
  rw [wx.1]
  have e1 : ∀ c, (c < 358 ∨ 361 < c) → (am_u v 358 5 (nI 0)) c = v c := fun c hc => am_u_ne (by omega)
  have ck1 := CK_t ck e1 (m' := 0) (tp' := tp) (tm' := tm) (ts' := ts) ⟨by rw [am_u_at, upd_at], by omega, fun j hj => absurd hj (Nat.not_lt_zero _)⟩
  have cm1 := CM_f (w' := w) cm (fun c hc => e1 c (by omega)) rfl
  have cm0 := cm1
  obtain ⟨lv, o0, o1, mi, hx, wm, _⟩ := cm0
  refine go_at (blk := b_law_1099) rfl ?_
  simp (disch := omega) only [b_law_1099, be_6, be_57_0, kc_388, List.getD_cons_zero, List.getD_cons_succ, List.set_cons_zero, List.set_cons_succ, List.length_cons, List.length_nil, pk_I, pk_A, pr_A, pi_I, st_s, st_n, if_true, if_false, eq_self, d_if, d_ju, d_re, d_ca, cat0, cat1, cat2, cat3, fr_z, fr_s, cc_I, cc_A, cc_N, Nat.reduceAdd, Nat.reduceLT, Nat.reduceLeDiff, Nat.reduceEqDiff, not_true, not_false_iff, z1_0, z1_1, Bool.and_self, Bool.true_and, Bool.and_true, nI_add, pk_mul, nI_clamp, decide_true, Nat.le_refl, bI_eq, bI_z1, in_nI, pk_F]
  refine r_forget ?_
  rw [wm.1]
  have ck2 := CK_f ck1 (v' := am_u (am_u v 358 5 (nI 0)) 388 55 (nI 0)) (fun c hc => am_u_ne (by omega))
  have cm2 := CM_t cm1 (v' := am_u (am_u v 358 5 (nI 0)) 388 55 (nI 0)) (m' := 0) (tp' := tp) (tm' := tm) (ts' := ts) (fun c c1 c2 => am_u_ne (by omega)) (fun k hk => by rw [am_u_at, upd_ne hk]) ⟨by rw [am_u_at, upd_at], by omega, fun j hj => absurd hj (Nat.not_lt_zero _)⟩
  have cp2 := cp
  refine go_at (blk := b_law_1103) rfl ?_
  simp (disch := omega) only [b_law_1103, be_49_0, List.getD_cons_zero, List.getD_cons_succ, List.set_cons_zero, List.set_cons_succ, List.length_cons, List.length_nil, pk_I, pk_A, pr_A, pi_I, st_s, st_n, if_true, if_false, eq_self, d_if, d_ju, d_re, d_ca, cat0, cat1, cat2, cat3, fr_z, fr_s, cc_I, cc_A, cc_N, Nat.reduceAdd, Nat.reduceLT, Nat.reduceLeDiff, Nat.reduceEqDiff, not_true, not_false_iff, z1_0, z1_1, Bool.and_self, Bool.true_and, Bool.and_true, nI_add, pk_mul, nI_clamp, decide_true, Nat.le_refl, bI_eq, bI_z1, in_nI, pk_F]
  exact hn _ w (LI_le ⟨_, _, _, _, _, _, _, _, _, _, _, _, _, ck2, cm2, cp2⟩ (by omega) hB)
set_option maxHeartbeats 2000000 in
theorem s_hold {d i : Nat} {X : am_X} {u : UInt32} {v : Nat → Nat → Int32} {w : Nat → Nat → Int64} {Q : Option Value → am_H → Prop} {B : Int} (hX : X.1 ≤ 3072) (hi : i + 6 ≤ X.1) (hL : LI B v w) (hB : B + 300 ≤ 200000) (hn : ∀ v' w', LI (B + 300) v' w' → am_Go X (d + 29) k_law 1233 ([.float u, .ref 0, .ref 388, .int (nI i)], [], (428, 26053, KD, RF, v', w')) Q) : am_Go X (d + 29) k_law 1164 ([.float u, .ref 0, .ref 388, .int (nI i)], [], (428, 26053, KD, RF, v, w)) Q := by
  obtain ⟨T, f, sz, h, m, tp, tm, ts, hd, hs, len, P, pl, ck, cm, cp⟩ := hL
  have cm0 := cm
  obtain ⟨lv, o0, o1, mi, hx, wm, hh, c2, c9, c17, l0, l1, ky⟩ := cm0
  have ck0 := ck
  obtain ⟨ki, ⟨nx, hP⟩, wx, hk, d1, d2, d3⟩ := ck0
  by_cases hc : X.2 (i + 1) < 0 ∨ nI 3 ≤ X.2 (i + 1)
  ·
    refine go_at (blk := b_law_1164) rfl ?_
    simp (disch := omega) only [b_law_1164, be_6, be_4, be_1, be_12, be_71, be_57_1, kc_0, List.getD_cons_zero, List.getD_cons_succ, List.set_cons_zero, List.set_cons_succ, List.length_cons, List.length_nil, pk_I, pk_A, pr_A, pi_I, st_s, st_n, if_true, if_false, eq_self, d_if, d_ju, d_re, d_ca, cat0, cat1, cat2, cat3, fr_z, fr_s, cc_I, cc_A, cc_N, Nat.reduceAdd, Nat.reduceLT, Nat.reduceLeDiff, Nat.reduceEqDiff, not_true, not_false_iff, z1_0, z1_1, Bool.and_self, Bool.true_and, Bool.and_true, nI_add, pk_mul, nI_clamp, decide_true, Nat.le_refl, bI_eq, bI_z1, in_nI, pk_F]
    refine p_hold ki (fun _ => ?_) (fun s v' hs3 e => absurd e (fun e => x_sne hc hs3 e))
    refine go_at (blk := b_law_1173) rfl ?_
    simp (disch := omega) only [b_law_1173, be_6, be_4, be_1, be_12, be_71, be_57_1, kc_388, List.getD_cons_zero, List.getD_cons_succ, List.set_cons_zero, List.set_cons_succ, List.length_cons, List.length_nil, pk_I, pk_A, pr_A, pi_I, st_s, st_n, if_true, if_false, eq_self, d_if, d_ju, d_re, d_ca, cat0, cat1, cat2, cat3, fr_z, fr_s, cc_I, cc_A, cc_N, Nat.reduceAdd, Nat.reduceLT, Nat.reduceLeDiff, Nat.reduceEqDiff, not_true, not_false_iff, z1_0, z1_1, Bool.and_self, Bool.true_and, Bool.and_true, nI_add, pk_mul, nI_clamp, decide_true, Nat.le_refl, bI_eq, bI_z1, in_nI, pk_F]
    refine r_hold mi (fun _ => ?_) (fun s v' hs3 e => absurd e (fun e => x_sne hc hs3 e))
    have ck2 := ck
    have cm2 := cm
    have cp2 := cp
    refine go_at (blk := b_law_1182) rfl ?_
    simp (disch := omega) only [b_law_1182, be_49_0, List.getD_cons_zero, List.getD_cons_succ, List.set_cons_zero, List.set_cons_succ, List.length_cons, List.length_nil, pk_I, pk_A, pr_A, pi_I, st_s, st_n, if_true, if_false, eq_self, d_if, d_ju, d_re, d_ca, cat0, cat1, cat2, cat3, fr_z, fr_s, cc_I, cc_A, cc_N, Nat.reduceAdd, Nat.reduceLT, Nat.reduceLeDiff, Nat.reduceEqDiff, not_true, not_false_iff, z1_0, z1_1, Bool.and_self, Bool.true_and, Bool.and_true, nI_add, pk_mul, nI_clamp, decide_true, Nat.le_refl, bI_eq, bI_z1, in_nI, pk_F]
    exact hn _ w (LI_le ⟨_, _, _, _, _, _, _, _, _, _, _, _, _, ck2, cm2, cp2⟩ (by omega) hB)
  ·
    refine go_at (blk := b_law_1164) rfl ?_
    simp (disch := omega) only [b_law_1164, be_6, be_4, be_1, be_12, be_71, be_57_1, kc_0, List.getD_cons_zero, List.getD_cons_succ, List.set_cons_zero, List.set_cons_succ, List.length_cons, List.length_nil, pk_I, pk_A, pr_A, pi_I, st_s, st_n, if_true, if_false, eq_self, d_if, d_ju, d_re, d_ca, cat0, cat1, cat2, cat3, fr_z, fr_s, cc_I, cc_A, cc_N, Nat.reduceAdd, Nat.reduceLT, Nat.reduceLeDiff, Nat.reduceEqDiff, not_true, not_false_iff, z1_0, z1_1, Bool.and_self, Bool.true_and, Bool.and_true, nI_add, pk_mul, nI_clamp, decide_true, Nat.le_refl, bI_eq, bI_z1, in_nI, pk_F]
    refine p_hold ki (fun z => absurd z hc) (fun s v1 hs3 es q1 q2 r1 => ?_)
    have ck1 := CK_h ck hs3 q1 q2 r1
    have cm1 := CM_f (w' := w) cm (fun c hc => q1 c (by omega) (by omega)) rfl
    have cm0 := cm1
    obtain ⟨lv, o0, o1, mi, _⟩ := cm0
    refine go_at (blk := b_law_1173) rfl ?_
    simp (disch := omega) only [b_law_1173, be_6, be_4, be_1, be_12, be_71, be_57_1, kc_388, List.getD_cons_zero, List.getD_cons_succ, List.set_cons_zero, List.set_cons_succ, List.length_cons, List.length_nil, pk_I, pk_A, pr_A, pi_I, st_s, st_n, if_true, if_false, eq_self, d_if, d_ju, d_re, d_ca, cat0, cat1, cat2, cat3, fr_z, fr_s, cc_I, cc_A, cc_N, Nat.reduceAdd, Nat.reduceLT, Nat.reduceLeDiff, Nat.reduceEqDiff, not_true, not_false_iff, z1_0, z1_1, Bool.and_self, Bool.true_and, Bool.and_true, nI_add, pk_mul, nI_clamp, decide_true, Nat.le_refl, bI_eq, bI_z1, in_nI, pk_F]
    refine r_hold mi (fun z => absurd (x_slot0.mpr z) hc) (fun s' v2 hs3' es' g1 g2 g3 => ?_)
    have ess : s' = s := nI_ij (by omega) (by omega) (es'.symm.trans es)
    subst ess
    have ck2 := CK_f ck1 (fun c hc => g1 c (by omega) (by omega))
    have cm2 := CM_h cm1 hs3 g1 g2 g3
    have cp2 : CP B T f sz h (fun s => if s = s' then true else hd s) (fun s => if s = s' then f else hs s) len P := ⟨cp.1, cp.2.1, fun q hq z => by
      dsimp only at z ⊢
      by_cases y : q = s'
      · rw [if_pos y]; exact cp.1
      · rw [if_neg y] at z ⊢; exact cp.2.2.1 q hq z, cp.2.2.2⟩
    refine go_at (blk := b_law_1182) rfl ?_
    simp (disch := omega) only [b_law_1182, be_49_0, List.getD_cons_zero, List.getD_cons_succ, List.set_cons_zero, List.set_cons_succ, List.length_cons, List.length_nil, pk_I, pk_A, pr_A, pi_I, st_s, st_n, if_true, if_false, eq_self, d_if, d_ju, d_re, d_ca, cat0, cat1, cat2, cat3, fr_z, fr_s, cc_I, cc_A, cc_N, Nat.reduceAdd, Nat.reduceLT, Nat.reduceLeDiff, Nat.reduceEqDiff, not_true, not_false_iff, z1_0, z1_1, Bool.and_self, Bool.true_and, Bool.and_true, nI_add, pk_mul, nI_clamp, decide_true, Nat.le_refl, bI_eq, bI_z1, in_nI, pk_F]
    exact hn _ w (LI_le ⟨_, _, _, _, _, _, _, _, _, _, _, _, _, ck2, cm2, cp2⟩ (by omega) hB)
set_option maxHeartbeats 2000000 in
theorem s_restore {d i : Nat} {X : am_X} {u : UInt32} {v : Nat → Nat → Int32} {w : Nat → Nat → Int64} {Q : Option Value → am_H → Prop} {B : Int} (hX : X.1 ≤ 3072) (hi : i + 6 ≤ X.1) (hL : LI B v w) (hB : B + 300 ≤ 200000) (hn : ∀ v' w', LI (B + 300) v' w' → am_Go X (d + 29) k_law 1233 ([.float u, .ref 0, .ref 388, .int (nI i)], [], (428, 26053, KD, RF, v', w')) Q) : am_Go X (d + 29) k_law 1187 ([.float u, .ref 0, .ref 388, .int (nI i)], [], (428, 26053, KD, RF, v, w)) Q := by
  obtain ⟨T, f, sz, h, m, tp, tm, ts, hd, hs, len, P, pl, ck, cm, cp⟩ := hL
  have cm0 := cm
  obtain ⟨lv, o0, o1, mi, hx, wm, hh, c2, c9, c17, l0, l1, ky⟩ := cm0
  have ck0 := ck
  obtain ⟨ki, ⟨nx, hP⟩, wx, hk, d1, d2, d3⟩ := ck0
  by_cases hc : X.2 (i + 1) < 0 ∨ nI 3 ≤ X.2 (i + 1)
  ·
    refine go_at (blk := b_law_1187) rfl ?_
    simp (disch := omega) only [b_law_1187, be_6, be_4, be_1, be_12, be_71, be_57_1, kc_0, List.getD_cons_zero, List.getD_cons_succ, List.set_cons_zero, List.set_cons_succ, List.length_cons, List.length_nil, pk_I, pk_A, pr_A, pi_I, st_s, st_n, if_true, if_false, eq_self, d_if, d_ju, d_re, d_ca, cat0, cat1, cat2, cat3, fr_z, fr_s, cc_I, cc_A, cc_N, Nat.reduceAdd, Nat.reduceLT, Nat.reduceLeDiff, Nat.reduceEqDiff, not_true, not_false_iff, z1_0, z1_1, Bool.and_self, Bool.true_and, Bool.and_true, nI_add, pk_mul, nI_clamp, decide_true, Nat.le_refl, bI_eq, bI_z1, in_nI, pk_F]
    refine p_restore ki (gs := hs) (fun s hs3 z => by rw [(hk s hs3).1] at z; exact ⟨(hk s hs3).2 (bI_ne z), (cp.2.2.1 s hs3 (bI_ne z)).1⟩) (fun _ => ?_) (fun s hs3 e => absurd e (fun e => x_sne hc hs3 e)) (fun s v' hs3 e => absurd e (fun e => x_sne hc hs3 e))
    refine go_at (blk := b_law_1196) rfl ?_
    simp (disch := omega) only [b_law_1196, be_6, be_4, be_1, be_12, be_71, be_57_1, kc_388, List.getD_cons_zero, List.getD_cons_succ, List.set_cons_zero, List.set_cons_succ, List.length_cons, List.length_nil, pk_I, pk_A, pr_A, pi_I, st_s, st_n, if_true, if_false, eq_self, d_if, d_ju, d_re, d_ca, cat0, cat1, cat2, cat3, fr_z, fr_s, cc_I, cc_A, cc_N, Nat.reduceAdd, Nat.reduceLT, Nat.reduceLeDiff, Nat.reduceEqDiff, not_true, not_false_iff, z1_0, z1_1, Bool.and_self, Bool.true_and, Bool.and_true, nI_add, pk_mul, nI_clamp, decide_true, Nat.le_refl, bI_eq, bI_z1, in_nI, pk_F]
    refine r_restore mi (gs := hs) (fun s hs3 z => by rw [(hh s hs3).1] at z; exact ⟨(hh s hs3).2 (bI_ne z), fun j hj => by rw [mi.2.1, cp.1.2.2.2 j hj, (cp.2.2.1 s hs3 (bI_ne z)).2.2.2 j hj]⟩) (fun _ => ?_) (fun s hs3 e => absurd e (fun e => x_sne hc hs3 e)) (fun s v' hs3 e => absurd e (fun e => x_sne hc hs3 e))
    have ck2 := ck
    have cm2 := cm
    have cp2 := cp
    refine go_at (blk := b_law_1205) rfl ?_
    simp (disch := omega) only [b_law_1205, be_49_0, List.getD_cons_zero, List.getD_cons_succ, List.set_cons_zero, List.set_cons_succ, List.length_cons, List.length_nil, pk_I, pk_A, pr_A, pi_I, st_s, st_n, if_true, if_false, eq_self, d_if, d_ju, d_re, d_ca, cat0, cat1, cat2, cat3, fr_z, fr_s, cc_I, cc_A, cc_N, Nat.reduceAdd, Nat.reduceLT, Nat.reduceLeDiff, Nat.reduceEqDiff, not_true, not_false_iff, z1_0, z1_1, Bool.and_self, Bool.true_and, Bool.and_true, nI_add, pk_mul, nI_clamp, decide_true, Nat.le_refl, bI_eq, bI_z1, in_nI, pk_F]
    exact hn _ w (LI_le ⟨_, _, _, _, _, _, _, _, _, _, _, _, _, ck2, cm2, cp2⟩ (by omega) hB)
  · obtain ⟨s9, hs9, es9⟩ := x_slot hc
    cases hhd : hd s9 with
    | false =>
      refine go_at (blk := b_law_1187) rfl ?_
      simp (disch := omega) only [b_law_1187, be_6, be_4, be_1, be_12, be_71, be_57_1, kc_0, List.getD_cons_zero, List.getD_cons_succ, List.set_cons_zero, List.set_cons_succ, List.length_cons, List.length_nil, pk_I, pk_A, pr_A, pi_I, st_s, st_n, if_true, if_false, eq_self, d_if, d_ju, d_re, d_ca, cat0, cat1, cat2, cat3, fr_z, fr_s, cc_I, cc_A, cc_N, Nat.reduceAdd, Nat.reduceLT, Nat.reduceLeDiff, Nat.reduceEqDiff, not_true, not_false_iff, z1_0, z1_1, Bool.and_self, Bool.true_and, Bool.and_true, nI_add, pk_mul, nI_clamp, decide_true, Nat.le_refl, bI_eq, bI_z1, in_nI, pk_F]
      refine p_restore ki (gs := hs) (fun s hs3 z => by rw [(hk s hs3).1] at z; exact ⟨(hk s hs3).2 (bI_ne z), (cp.2.2.1 s hs3 (bI_ne z)).1⟩) (fun z => absurd z hc) (fun s hs3 e _ => ?_) (fun s v' hs3 e z => absurd ((hk s hs3).1.trans (by rw [nI_ij (a := s) (b := s9) (by omega) (by omega) (e.symm.trans es9), hhd]; rfl)) z)
      refine go_at (blk := b_law_1196) rfl ?_
      simp (disch := omega) only [b_law_1196, be_6, be_4, be_1, be_12, be_71, be_57_1, kc_388, List.getD_cons_zero, List.getD_cons_succ, List.set_cons_zero, List.set_cons_succ, List.length_cons, List.length_nil, pk_I, pk_A, pr_A, pi_I, st_s, st_n, if_true, if_false, eq_self, d_if, d_ju, d_re, d_ca, cat0, cat1, cat2, cat3, fr_z, fr_s, cc_I, cc_A, cc_N, Nat.reduceAdd, Nat.reduceLT, Nat.reduceLeDiff, Nat.reduceEqDiff, not_true, not_false_iff, z1_0, z1_1, Bool.and_self, Bool.true_and, Bool.and_true, nI_add, pk_mul, nI_clamp, decide_true, Nat.le_refl, bI_eq, bI_z1, in_nI, pk_F]
      refine r_restore mi (gs := hs) (fun s hs3 z => by rw [(hh s hs3).1] at z; exact ⟨(hh s hs3).2 (bI_ne z), fun j hj => by rw [mi.2.1, cp.1.2.2.2 j hj, (cp.2.2.1 s hs3 (bI_ne z)).2.2.2 j hj]⟩) (fun z => absurd (x_slot0.mpr z) hc) (fun s hs3 e _ => ?_) (fun s v' hs3 e z => absurd ((hh s hs3).1.trans (by rw [nI_ij (a := s) (b := s9) (by omega) (by omega) (e.symm.trans es9), hhd]; rfl)) z)
      have ck2 := ck
      have cm2 := cm
      have cp2 := cp
      refine go_at (blk := b_law_1205) rfl ?_
      simp (disch := omega) only [b_law_1205, be_49_0, List.getD_cons_zero, List.getD_cons_succ, List.set_cons_zero, List.set_cons_succ, List.length_cons, List.length_nil, pk_I, pk_A, pr_A, pi_I, st_s, st_n, if_true, if_false, eq_self, d_if, d_ju, d_re, d_ca, cat0, cat1, cat2, cat3, fr_z, fr_s, cc_I, cc_A, cc_N, Nat.reduceAdd, Nat.reduceLT, Nat.reduceLeDiff, Nat.reduceEqDiff, not_true, not_false_iff, z1_0, z1_1, Bool.and_self, Bool.true_and, Bool.and_true, nI_add, pk_mul, nI_clamp, decide_true, Nat.le_refl, bI_eq, bI_z1, in_nI, pk_F]
      exact hn _ w (LI_le ⟨_, _, _, _, _, _, _, _, _, _, _, _, _, ck2, cm2, cp2⟩ (by omega) hB)
    | true =>
      refine go_at (blk := b_law_1187) rfl ?_
      simp (disch := omega) only [b_law_1187, be_6, be_4, be_1, be_12, be_71, be_57_1, kc_0, List.getD_cons_zero, List.getD_cons_succ, List.set_cons_zero, List.set_cons_succ, List.length_cons, List.length_nil, pk_I, pk_A, pr_A, pi_I, st_s, st_n, if_true, if_false, eq_self, d_if, d_ju, d_re, d_ca, cat0, cat1, cat2, cat3, fr_z, fr_s, cc_I, cc_A, cc_N, Nat.reduceAdd, Nat.reduceLT, Nat.reduceLeDiff, Nat.reduceEqDiff, not_true, not_false_iff, z1_0, z1_1, Bool.and_self, Bool.true_and, Bool.and_true, nI_add, pk_mul, nI_clamp, decide_true, Nat.le_refl, bI_eq, bI_z1, in_nI, pk_F]
      refine p_restore ki (gs := hs) (fun s hs3 z => by rw [(hk s hs3).1] at z; exact ⟨(hk s hs3).2 (bI_ne z), (cp.2.2.1 s hs3 (bI_ne z)).1⟩) (fun z => absurd z hc) (fun s hs3 e z => absurd z (by rw [(hk s hs3).1, nI_ij (a := s) (b := s9) (by omega) (by omega) (e.symm.trans es9)]; exact bI_nt hhd)) (fun s v1 hs3 e _ q1 q2 r1 => ?_)
      have ess : s = s9 := nI_ij (by omega) (by omega) (e.symm.trans es9)
      subst ess
      have hg := cp.2.2.1 s hs3 hhd
      have ck1 := CK_k (sz' := 0) (nx' := nx) (h' := h) ck (FM_u q1) r1 ⟨by rw [q2, upd_ne (by omega)]; exact hP.1, hP.2.1, by rw [q2, upd_at], by omega, fun j hj => absurd hj (Nat.not_lt_zero _)⟩ hg (by omega)
      have cm1 := CM_f (w' := w) cm (FM_8 (FM_u q1)) rfl
      have cm0 := cm1
      obtain ⟨lv, o0, o1, mi, hx, wm, hh, _⟩ := cm0
      refine go_at (blk := b_law_1196) rfl ?_
      simp (disch := omega) only [b_law_1196, be_6, be_4, be_1, be_12, be_71, be_57_1, kc_388, List.getD_cons_zero, List.getD_cons_succ, List.set_cons_zero, List.set_cons_succ, List.length_cons, List.length_nil, pk_I, pk_A, pr_A, pi_I, st_s, st_n, if_true, if_false, eq_self, d_if, d_ju, d_re, d_ca, cat0, cat1, cat2, cat3, fr_z, fr_s, cc_I, cc_A, cc_N, Nat.reduceAdd, Nat.reduceLT, Nat.reduceLeDiff, Nat.reduceEqDiff, not_true, not_false_iff, z1_0, z1_1, Bool.and_self, Bool.true_and, Bool.and_true, nI_add, pk_mul, nI_clamp, decide_true, Nat.le_refl, bI_eq, bI_z1, in_nI, pk_F]
      refine r_restore mi (gs := hs) (fun s hs3 z => by rw [(hh s hs3).1] at z; exact ⟨(hh s hs3).2 (bI_ne z), fun j hj => by rw [mi.2.1, cp.1.2.2.2 j hj, (cp.2.2.1 s hs3 (bI_ne z)).2.2.2 j hj]⟩) (fun z => absurd (x_slot0.mpr z) hc) (fun s' hs3 e z => absurd z (by rw [(hh s' hs3).1, nI_ij (a := s') (b := s) (by omega) (by omega) (e.symm.trans es9)]; exact bI_nt hhd)) (fun s' v2 hs3' e' _ g2 g3 g4 h8 => ?_)
      have ess : s' = s := nI_ij (by omega) (by omega) (e'.symm.trans es9)
      subst ess
      have ck2 := CK_f ck1 (MK_8 (MK_u g2 g3))
      have cm2 := CM_k (sz' := 0) (h' := h) cm1 (MK_u g2 g3) h8 (fun j hj => by rw [g2 419 (by omega) (by omega), mi.2.2.1 j hj, cp.1.2.2.2 j hj, hg.2.2.2 j hj]) ⟨g4, by omega, fun j hj => absurd hj (Nat.not_lt_zero _)⟩ hg (by omega)
      have cp2 : CP B T (hs s') 0 h hd hs len P := ⟨hg, fun j hj => absurd hj (Nat.not_lt_zero _), cp.2.2⟩
      refine go_at (blk := b_law_1205) rfl ?_
      simp (disch := omega) only [b_law_1205, be_49_0, List.getD_cons_zero, List.getD_cons_succ, List.set_cons_zero, List.set_cons_succ, List.length_cons, List.length_nil, pk_I, pk_A, pr_A, pi_I, st_s, st_n, if_true, if_false, eq_self, d_if, d_ju, d_re, d_ca, cat0, cat1, cat2, cat3, fr_z, fr_s, cc_I, cc_A, cc_N, Nat.reduceAdd, Nat.reduceLT, Nat.reduceLeDiff, Nat.reduceEqDiff, not_true, not_false_iff, z1_0, z1_1, Bool.and_self, Bool.true_and, Bool.and_true, nI_add, pk_mul, nI_clamp, decide_true, Nat.le_refl, bI_eq, bI_z1, in_nI, pk_F]
      exact hn _ w (LI_le ⟨_, _, _, _, _, _, _, _, _, _, _, _, _, ck2, cm2, cp2⟩ (by omega) hB)
set_option maxHeartbeats 4000000 in
theorem s_feed {d i : Nat} {X : am_X} {u : UInt32} {v : Nat → Nat → Int32} {w : Nat → Nat → Int64} {Q : Option Value → am_H → Prop} {B : Int} (hX : X.1 ≤ 3072) (hi : i + 6 ≤ X.1) (hL : LI B v w) (hB : B + 300 ≤ 200000) (hn : ∀ v' w', LI (B + 300) v' w' → am_Go X (d + 29) k_law 1233 ([.float u, .ref 0, .ref 388, .int (nI i)], [], (428, 26053, KD, RF, v', w')) Q) : am_Go X (d + 29) k_law 196 ([.float u, .ref 0, .ref 388, .int (nI i)], [], (428, 26053, KD, RF, v, w)) Q := by
  obtain ⟨T, f, sz, h, m, tp, tm, ts, hd, hs, len, P, pl, ck, cm, cp⟩ := hL
  have cm0 := cm
  obtain ⟨lv, o0, o1, mi, hx, wm, hh, c2, c9, c17, l0, l1, ky⟩ := cm0
  have ck0 := ck
  obtain ⟨ki, ⟨nx, hP⟩, wx, hk, d1, d2, d3⟩ := ck0
  by_cases hc : 2000 < len + 20
  ·
    refine go_at (blk := b_law_196) rfl ?_
    simp (disch := omega) only [b_law_196, be_6, be_4, be_1, be_12, be_71, be_57_5, kc_0, List.getD_cons_zero, List.getD_cons_succ, List.set_cons_zero, List.set_cons_succ, List.length_cons, List.length_nil, pk_I, pk_A, pr_A, pi_I, st_s, st_n, if_true, if_false, eq_self, d_if, d_ju, d_re, d_ca, cat0, cat1, cat2, cat3, fr_z, fr_s, cc_I, cc_A, cc_N, Nat.reduceAdd, Nat.reduceLT, Nat.reduceLeDiff, Nat.reduceEqDiff, not_true, not_false_iff, z1_0, z1_1, Bool.and_self, Bool.true_and, Bool.and_true, nI_add, pk_mul, nI_clamp, decide_true, Nat.le_refl, bI_eq, bI_z1, in_nI, pk_F]
    refine p_feed2 (a := X.2 (i + 1)) (b := X.2 (i + 2)) (c := X.2 (i + 3)) (e := X.2 (i + 4)) (g := X.2 (i + 5)) d2 d1 cp.2.2.2.1 (fun _ => ?_) (fun z => absurd z (by omega))
    refine go_at (blk := b_law_225) rfl ?_
    simp (disch := omega) only [b_law_225, be_6, be_4, be_1, be_12, be_71, be_57_5, kc_388, List.getD_cons_zero, List.getD_cons_succ, List.set_cons_zero, List.set_cons_succ, List.length_cons, List.length_nil, pk_I, pk_A, pr_A, pi_I, st_s, st_n, if_true, if_false, eq_self, d_if, d_ju, d_re, d_ca, cat0, cat1, cat2, cat3, fr_z, fr_s, cc_I, cc_A, cc_N, Nat.reduceAdd, Nat.reduceLT, Nat.reduceLeDiff, Nat.reduceEqDiff, not_true, not_false_iff, z1_0, z1_1, Bool.and_self, Bool.true_and, Bool.and_true, nI_add, pk_mul, nI_clamp, decide_true, Nat.le_refl, bI_eq, bI_z1, in_nI, pk_F]
    refine r_feed2 (a := X.2 (i + 1)) (b := X.2 (i + 2)) (c := X.2 (i + 3)) (e := X.2 (i + 4)) (g := X.2 (i + 5)) c9 c2 cp.2.2.2.1 (fun _ => ?_) (fun z => absurd z (by omega))
    have ck2 := ck
    have cm2 := cm
    have cp2 := cp
    refine go_at (blk := b_law_254) rfl ?_
    simp (disch := omega) only [b_law_254, be_49_0, List.getD_cons_zero, List.getD_cons_succ, List.set_cons_zero, List.set_cons_succ, List.length_cons, List.length_nil, pk_I, pk_A, pr_A, pi_I, st_s, st_n, if_true, if_false, eq_self, d_if, d_ju, d_re, d_ca, cat0, cat1, cat2, cat3, fr_z, fr_s, cc_I, cc_A, cc_N, Nat.reduceAdd, Nat.reduceLT, Nat.reduceLeDiff, Nat.reduceEqDiff, not_true, not_false_iff, z1_0, z1_1, Bool.and_self, Bool.true_and, Bool.and_true, nI_add, pk_mul, nI_clamp, decide_true, Nat.le_refl, bI_eq, bI_z1, in_nI, pk_F]
    exact hn _ w (LI_le ⟨_, _, _, _, _, _, _, _, _, _, _, _, _, ck2, cm2, cp2⟩ (by omega) hB)
  ·
    refine go_at (blk := b_law_196) rfl ?_
    simp (disch := omega) only [b_law_196, be_6, be_4, be_1, be_12, be_71, be_57_5, kc_0, List.getD_cons_zero, List.getD_cons_succ, List.set_cons_zero, List.set_cons_succ, List.length_cons, List.length_nil, pk_I, pk_A, pr_A, pi_I, st_s, st_n, if_true, if_false, eq_self, d_if, d_ju, d_re, d_ca, cat0, cat1, cat2, cat3, fr_z, fr_s, cc_I, cc_A, cc_N, Nat.reduceAdd, Nat.reduceLT, Nat.reduceLeDiff, Nat.reduceEqDiff, not_true, not_false_iff, z1_0, z1_1, Bool.and_self, Bool.true_and, Bool.and_true, nI_add, pk_mul, nI_clamp, decide_true, Nat.le_refl, bI_eq, bI_z1, in_nI, pk_F]
    refine p_feed2 (a := X.2 (i + 1)) (b := X.2 (i + 2)) (c := X.2 (i + 3)) (e := X.2 (i + 4)) (g := X.2 (i + 5)) d2 d1 cp.2.2.2.1 (fun z => absurd z (by omega)) (fun _ => ?_)
    have ck1 := CK_p ck (v' := twS v (fdS len (X.2 (i + 1)) (X.2 (i + 2)) (X.2 (i + 3)) (X.2 (i + 4)) (X.2 (i + 5)) P) (nI (len + 4 + 4 + 4 + 4 + 4))) (fun c c1 c2 => tw_o c1 c2) tw_01 tw_1 (by unfold twS; rw [if_neg (by omega), if_pos rfl, upd_ne (by omega)])
    have cm1 := CM_f (w' := w) (v' := twS v (fdS len (X.2 (i + 1)) (X.2 (i + 2)) (X.2 (i + 3)) (X.2 (i + 4)) (X.2 (i + 5)) P) (nI (len + 4 + 4 + 4 + 4 + 4))) cm (fun c hc => tw_o (by omega) (by omega)) rfl
    have cm0 := cm1
    obtain ⟨lv, o0, o1, mi, hx, wm, hh, c2, c9, c17, _⟩ := cm0
    refine go_at (blk := b_law_225) rfl ?_
    simp (disch := omega) only [b_law_225, be_6, be_4, be_1, be_12, be_71, be_57_5, kc_388, List.getD_cons_zero, List.getD_cons_succ, List.set_cons_zero, List.set_cons_succ, List.length_cons, List.length_nil, pk_I, pk_A, pr_A, pi_I, st_s, st_n, if_true, if_false, eq_self, d_if, d_ju, d_re, d_ca, cat0, cat1, cat2, cat3, fr_z, fr_s, cc_I, cc_A, cc_N, Nat.reduceAdd, Nat.reduceLT, Nat.reduceLeDiff, Nat.reduceEqDiff, not_true, not_false_iff, z1_0, z1_1, Bool.and_self, Bool.true_and, Bool.and_true, nI_add, pk_mul, nI_clamp, decide_true, Nat.le_refl, bI_eq, bI_z1, in_nI, pk_F]
    refine r_feed2 (a := X.2 (i + 1)) (b := X.2 (i + 2)) (c := X.2 (i + 3)) (e := X.2 (i + 4)) (g := X.2 (i + 5)) c9 c2 cp.2.2.2.1 (fun z => absurd z (by omega)) (fun _ => ?_)
    have ck2 := CK_f ck1 (v' := mtS (twS v (fdS len (X.2 (i + 1)) (X.2 (i + 2)) (X.2 (i + 3)) (X.2 (i + 4)) (X.2 (i + 5)) P) (nI (len + 4 + 4 + 4 + 4 + 4))) (fdS len (X.2 (i + 1)) (X.2 (i + 2)) (X.2 (i + 3)) (X.2 (i + 4)) (X.2 (i + 5)) P) (nI (len + 4 + 4 + 4 + 4 + 4))) (fun c hc => by unfold mtS; rw [if_neg (by omega), if_neg (by omega)])
    have cm2 := CM_p cm1 (v' := mtS (twS v (fdS len (X.2 (i + 1)) (X.2 (i + 2)) (X.2 (i + 3)) (X.2 (i + 4)) (X.2 (i + 5)) P) (nI (len + 4 + 4 + 4 + 4 + 4))) (fdS len (X.2 (i + 1)) (X.2 (i + 2)) (X.2 (i + 3)) (X.2 (i + 4)) (X.2 (i + 5)) P) (nI (len + 4 + 4 + 4 + 4 + 4))) (len' := len + 4 + 4 + 4 + 4 + 4) (P' := fdS len (X.2 (i + 1)) (X.2 (i + 2)) (X.2 (i + 3)) (X.2 (i + 4)) (X.2 (i + 5)) P) (fun c c1 c2 => by unfold mtS; rw [if_neg c2, if_neg c1]) (fun k hk => by unfold mtS; rw [if_neg (by omega), if_pos rfl, upd_ne hk]) (by unfold mtS; rw [if_neg (by omega), if_pos rfl, upd_at]) (by unfold mtS; rw [if_pos rfl])
    have cp2 : CP B T f sz h hd hs (len + 4 + 4 + 4 + 4 + 4) (fdS len (X.2 (i + 1)) (X.2 (i + 2)) (X.2 (i + 3)) (X.2 (i + 4)) (X.2 (i + 5)) P) := ⟨cp.1, cp.2.1, cp.2.2.1, by omega, BYA_f cp.2.2.2.2⟩
    refine go_at (blk := b_law_254) rfl ?_
    simp (disch := omega) only [b_law_254, be_49_0, List.getD_cons_zero, List.getD_cons_succ, List.set_cons_zero, List.set_cons_succ, List.length_cons, List.length_nil, pk_I, pk_A, pr_A, pi_I, st_s, st_n, if_true, if_false, eq_self, d_if, d_ju, d_re, d_ca, cat0, cat1, cat2, cat3, fr_z, fr_s, cc_I, cc_A, cc_N, Nat.reduceAdd, Nat.reduceLT, Nat.reduceLeDiff, Nat.reduceEqDiff, not_true, not_false_iff, z1_0, z1_1, Bool.and_self, Bool.true_and, Bool.and_true, nI_add, pk_mul, nI_clamp, decide_true, Nat.le_refl, bI_eq, bI_z1, in_nI, pk_F]
    exact hn _ w (LI_le ⟨_, _, _, _, _, _, _, _, _, _, _, _, _, ck2, cm2, cp2⟩ (by omega) hB)
set_option maxHeartbeats 2000000 in
theorem s_back {d i : Nat} {X : am_X} {u : UInt32} {v : Nat → Nat → Int32} {w : Nat → Nat → Int64} {Q : Option Value → am_H → Prop} {B : Int} (hX : X.1 ≤ 3072) (hi : i + 6 ≤ X.1) (hL : LI B v w) (hB : B + 300 ≤ 200000) (hn : ∀ v' w', LI (B + 300) v' w' → am_Go X (d + 29) k_law 1233 ([.float u, .ref 0, .ref 388, .int (nI i)], [], (428, 26053, KD, RF, v', w')) Q) : am_Go X (d + 29) k_law 259 ([.float u, .ref 0, .ref 388, .int (nI i)], [], (428, 26053, KD, RF, v, w)) Q := by
  obtain ⟨T, f, sz, h, m, tp, tm, ts, hd, hs, len, P, pl, ck, cm, cp⟩ := hL
  have cm0 := cm
  obtain ⟨lv, o0, o1, mi, hx, wm, hh, c2, c9, c17, l0, l1, ky⟩ := cm0
  have ck0 := ck
  obtain ⟨ki, ⟨nx, hP⟩, wx, hk, d1, d2, d3⟩ := ck0
  by_cases hc : X.2 (i + 1) < 0 ∨ nI len < X.2 (i + 1)
  ·
    refine go_at (blk := b_law_259) rfl ?_
    simp (disch := omega) only [b_law_259, be_6, be_4, be_1, be_12, be_71, be_57_1, kc_0, List.getD_cons_zero, List.getD_cons_succ, List.set_cons_zero, List.set_cons_succ, List.length_cons, List.length_nil, pk_I, pk_A, pr_A, pi_I, st_s, st_n, if_true, if_false, eq_self, d_if, d_ju, d_re, d_ca, cat0, cat1, cat2, cat3, fr_z, fr_s, cc_I, cc_A, cc_N, Nat.reduceAdd, Nat.reduceLT, Nat.reduceLeDiff, Nat.reduceEqDiff, not_true, not_false_iff, z1_0, z1_1, Bool.and_self, Bool.true_and, Bool.and_true, nI_add, pk_mul, nI_clamp, decide_true, Nat.le_refl, bI_eq, bI_z1, in_nI, pk_F]
    refine p_back d1 (fun _ => ?_) (fun a b => absurd hc (by rw [not_or]; exact ⟨a, Int32.not_lt.mpr b⟩))
    refine go_at (blk := b_law_268) rfl ?_
    simp (disch := omega) only [b_law_268, be_6, be_4, be_1, be_12, be_71, be_57_1, kc_388, List.getD_cons_zero, List.getD_cons_succ, List.set_cons_zero, List.set_cons_succ, List.length_cons, List.length_nil, pk_I, pk_A, pr_A, pi_I, st_s, st_n, if_true, if_false, eq_self, d_if, d_ju, d_re, d_ca, cat0, cat1, cat2, cat3, fr_z, fr_s, cc_I, cc_A, cc_N, Nat.reduceAdd, Nat.reduceLT, Nat.reduceLeDiff, Nat.reduceEqDiff, not_true, not_false_iff, z1_0, z1_1, Bool.and_self, Bool.true_and, Bool.and_true, nI_add, pk_mul, nI_clamp, decide_true, Nat.le_refl, bI_eq, bI_z1, in_nI, pk_F]
    refine r_back c2 (fun _ => ?_) (fun a b => absurd hc (by rw [not_or]; exact ⟨a, Int32.not_lt.mpr b⟩))
    have ck2 := ck
    have cm2 := cm
    have cp2 := cp
    refine go_at (blk := b_law_277) rfl ?_
    simp (disch := omega) only [b_law_277, be_49_0, List.getD_cons_zero, List.getD_cons_succ, List.set_cons_zero, List.set_cons_succ, List.length_cons, List.length_nil, pk_I, pk_A, pr_A, pi_I, st_s, st_n, if_true, if_false, eq_self, d_if, d_ju, d_re, d_ca, cat0, cat1, cat2, cat3, fr_z, fr_s, cc_I, cc_A, cc_N, Nat.reduceAdd, Nat.reduceLT, Nat.reduceLeDiff, Nat.reduceEqDiff, not_true, not_false_iff, z1_0, z1_1, Bool.and_self, Bool.true_and, Bool.and_true, nI_add, pk_mul, nI_clamp, decide_true, Nat.le_refl, bI_eq, bI_z1, in_nI, pk_F]
    exact hn _ w (LI_le ⟨_, _, _, _, _, _, _, _, _, _, _, _, _, ck2, cm2, cp2⟩ (by omega) hB)
  · obtain ⟨k, hk31, ek⟩ := nI_of (fun z => hc (Or.inl z))
    have hkl : k ≤ len := by
      have h2 : ¬ nI len < X.2 (i + 1) := fun z => hc (Or.inr z)
      rw [ek, nI_ltI (by have := cp.2.2.2.1; omega) hk31] at h2
      omega
    have esub : nI len - nI k = nI (len - k) := pk_sub hkl
    refine go_at (blk := b_law_259) rfl ?_
    simp (disch := omega) only [b_law_259, be_6, be_4, be_1, be_12, be_71, be_57_1, kc_0, List.getD_cons_zero, List.getD_cons_succ, List.set_cons_zero, List.set_cons_succ, List.length_cons, List.length_nil, pk_I, pk_A, pr_A, pi_I, st_s, st_n, if_true, if_false, eq_self, d_if, d_ju, d_re, d_ca, cat0, cat1, cat2, cat3, fr_z, fr_s, cc_I, cc_A, cc_N, Nat.reduceAdd, Nat.reduceLT, Nat.reduceLeDiff, Nat.reduceEqDiff, not_true, not_false_iff, z1_0, z1_1, Bool.and_self, Bool.true_and, Bool.and_true, nI_add, pk_mul, nI_clamp, decide_true, Nat.le_refl, bI_eq, bI_z1, in_nI, pk_F]
    refine p_back d1 (fun z => absurd z hc) (fun _ _ => ?_)
    rw [ek, esub]
    have ck1 := CK_p ck (v' := am_u v 0 1 (nI (len - k))) (len' := len - k) (P' := P) (fun c c1 _ => am_u_ne c1) (by rw [am_u_at, upd_at]) (by rw [am_u_ne (by omega)]; exact d2) (by rw [am_u_at, upd_ne (by omega)])
    have cm1 := CM_f (w' := w) (v' := am_u v 0 1 (nI (len - k))) cm (fun c hc => am_u_ne (by omega)) rfl
    have cm0 := cm1
    obtain ⟨lv, o0, o1, mi, hx, wm, hh, c2, c9, c17, _⟩ := cm0
    refine go_at (blk := b_law_268) rfl ?_
    simp (disch := omega) only [b_law_268, be_6, be_4, be_1, be_12, be_71, be_57_1, kc_388, List.getD_cons_zero, List.getD_cons_succ, List.set_cons_zero, List.set_cons_succ, List.length_cons, List.length_nil, pk_I, pk_A, pr_A, pi_I, st_s, st_n, if_true, if_false, eq_self, d_if, d_ju, d_re, d_ca, cat0, cat1, cat2, cat3, fr_z, fr_s, cc_I, cc_A, cc_N, Nat.reduceAdd, Nat.reduceLT, Nat.reduceLeDiff, Nat.reduceEqDiff, not_true, not_false_iff, z1_0, z1_1, Bool.and_self, Bool.true_and, Bool.and_true, nI_add, pk_mul, nI_clamp, decide_true, Nat.le_refl, bI_eq, bI_z1, in_nI, pk_F]
    refine r_back c2 (fun z => absurd z hc) (fun _ _ => ?_)
    rw [ek, esub]
    have ck2 := CK_f ck1 (v' := am_u (am_u v 0 1 (nI (len - k))) 388 2 (nI (len - k))) (fun c hc => am_u_ne (by omega))
    have cm2 := CM_p cm1 (v' := am_u (am_u v 0 1 (nI (len - k))) 388 2 (nI (len - k))) (len' := len - k) (P' := P) (fun c c1 _ => am_u_ne c1) (fun k hk => by rw [am_u_at, upd_ne hk]) (by rw [am_u_at, upd_at]) (by rw [am_u_ne (by omega)]; exact c9)
    have cp2 : CP B T f sz h hd hs (len - k) P := ⟨cp.1, cp.2.1, cp.2.2.1, by have := cp.2.2.2.1; omega, cp.2.2.2.2⟩
    refine go_at (blk := b_law_277) rfl ?_
    simp (disch := omega) only [b_law_277, be_49_0, List.getD_cons_zero, List.getD_cons_succ, List.set_cons_zero, List.set_cons_succ, List.length_cons, List.length_nil, pk_I, pk_A, pr_A, pi_I, st_s, st_n, if_true, if_false, eq_self, d_if, d_ju, d_re, d_ca, cat0, cat1, cat2, cat3, fr_z, fr_s, cc_I, cc_A, cc_N, Nat.reduceAdd, Nat.reduceLT, Nat.reduceLeDiff, Nat.reduceEqDiff, not_true, not_false_iff, z1_0, z1_1, Bool.and_self, Bool.true_and, Bool.and_true, nI_add, pk_mul, nI_clamp, decide_true, Nat.le_refl, bI_eq, bI_z1, in_nI, pk_F]
    exact hn _ w (LI_le ⟨_, _, _, _, _, _, _, _, _, _, _, _, _, ck2, cm2, cp2⟩ (by omega) hB)
