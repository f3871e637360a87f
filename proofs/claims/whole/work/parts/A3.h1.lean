/-! laid by wip/whole/h1.py: rows in order; both objects side by side -/
def RG (B : Int) (n : Nat) (f : Nat → Int32) : Prop := GR B n f ∧ (f 40).toInt ≤ 999 ∧ ON n f ∧ Z50 f
theorem RG_le {B C : Int} {n : Nat} {f : Nat → Int32} (g : RG B n f) (hB : B ≤ C) : RG C n f := by
  obtain ⟨⟨g1, g2, g3, g4⟩, g5⟩ := g
  exact ⟨⟨g1, g2, g3, by omega⟩, g5⟩
theorem RG_u8 {B : Int} {n p : Nat} {f : Nat → Int32} {x : Int32} (hn : n ≤ 8) (hp : p < n) (hx : x = 0 ∨ (x = 1 ∧ f (32 + p) = -1)) (g : RG B n f) : RG B n (upd f (8 + p) x) := by
  obtain ⟨⟨g1, g2, g3, g4⟩, g5, g6, g7⟩ := g
  refine ⟨⟨fun q hq => ?_, ?_, ?_, ?_⟩, ?_, fun q hq z => ?_, Z_u g7 (by omega)⟩
  · obtain ⟨a1, a2, a3, a4, a5, a6, a7⟩ := g1 q hq
    rw [upd_ne (show 16 + q ≠ 8 + p by omega), upd_ne (show 41 ≠ 8 + p by omega), upd_ne (show 32 + q ≠ 8 + p by omega), upd_ne (show q ≠ 8 + p by omega), upd_ne (show 24 + q ≠ 8 + p by omega)]
    refine ⟨?_, a2, a3, a4, a5, a6, a7⟩
    by_cases e : q = p
    · rw [e, upd_at]
      rcases hx with h | h
      · exact Or.inl h
      · exact Or.inr h.1
    · rw [upd_ne (by omega)]
      exact a1
  · rw [upd_ne (by omega)]; exact g2
  · rw [upd_ne (by omega)]; exact g3
  · rw [upd_ne (by omega)]; exact g4
  · rw [upd_ne (by omega)]; exact g5
  · rw [upd_ne (by omega)] at z
    by_cases e : q = p
    · subst e
      rw [upd_at]
      rcases hx with h | h
      · exact h
      · exact absurd h.2 z
    · rw [upd_ne (by omega)]
      exact g6 q hq z
theorem RG_kn {B : Int} {T : TXT} {f f' : Nat → Int32} {y : Int32} (hG : GT T) (g : RG B (tN T) f) (h : knO T f y = some f') : RG B (tN T) f' := by
  unfold knO at h
  split at h
  · rename_i hc
    simp only [Bool.and_eq_true, decide_eq_true_eq] at hc
    obtain ⟨⟨h1, h2⟩, h3⟩ := hc
    obtain ⟨p, hp, e1, e2⟩ := pil_of hG.1 h1
    rw [e2] at h3 h
    cases h
    unfold mayB onB at h3
    simp only [Bool.and_eq_true, decide_eq_true_eq] at h3
    exact RG_u8 hG.1 hp (Or.inr ⟨rfl, h3.1.1⟩) g
  · cases h
theorem RG_ri {B : Int} {T : TXT} {f f' : Nat → Int32} {y : Int32} (hG : GT T) (g : RG B (tN T) f) (h : riO T f y = some f') : RG B (tN T) f' := by
  unfold riO at h
  split at h
  · rename_i hc
    simp only [Bool.and_eq_true] at hc
    obtain ⟨p, hp, e1, e2⟩ := pil_of hG.1 hc.1
    rw [e2] at h
    cases h
    exact RG_u8 hG.1 hp (Or.inl rfl) g
  · cases h
theorem RG_bo {B : Int} {T : TXT} {f f' : Nat → Int32} {y : Int32} (hG : GT T) (g : RG B (tN T) f) (h : boO T f y = some f') : RG B (tN T) f' := by
  unfold boO at h
  split at h
  · rename_i hc
    simp only [Bool.and_eq_true] at hc
    obtain ⟨p, hp, e1, e2⟩ := pil_of hG.1 hc.1
    have hn := hG.1
    rw [e2] at h
    cases h
    obtain ⟨⟨g1, g2, g3, g4⟩, g5, g6, g7⟩ := g
    have z0 : (0 : Int32).toInt = 0 := rfl
    refine ⟨⟨fun q hq => ?_, ?_, ?_, ?_⟩, ?_, fun q hq z => ?_, Z_u (Z_u (Z_u g7 (by omega)) (by omega)) (by omega)⟩
    · obtain ⟨a1, a2, a3, a4, a5, a6, a7⟩ := g1 q hq
      by_cases e : q = p
      · subst e
        simp (disch := omega) only [upd_at, upd_ne]
        exact ⟨Or.inl trivial, a2, a3, Or.inl trivial, by decide, a6, a7⟩
      · simp (disch := omega) only [upd_ne]
        exact ⟨a1, a2, a3, a4, a5, a6, a7⟩
    · simp (disch := omega) only [upd_ne]; exact g2
    · simp (disch := omega) only [upd_ne]; exact g3
    · simp (disch := omega) only [upd_ne]; exact g4
    · simp (disch := omega) only [upd_ne]; exact g5
    · by_cases e : q = p
      · subst e
        rw [upd_at] at z
        exact absurd rfl z
      · rw [upd_ne (by omega), upd_ne (by omega), upd_ne (by omega)] at z
        rw [upd_ne (by omega), upd_ne (by omega), upd_ne (by omega)]
        exact g6 q hq z
  · cases h
theorem RG_oi {B : Int} {n : Nat} {f f' : Nat → Int32} {x : Int32} (hn : n ≤ 8) (g : RG B n f) (h : oiO f x = some f') : RG B n f' := by
  unfold oiO at h
  split at h
  · rename_i hc
    simp only [Bool.and_eq_true, Bool.not_eq_true', decide_eq_false_iff_not] at hc
    cases h
    obtain ⟨⟨g1, g2, g3, g4⟩, g5, g6, g7⟩ := g
    obtain ⟨⟨h1, h2⟩, h3⟩ := hc
    have i1 := Int32.le_iff_toInt_le.mp (Int32.not_lt.mp h1)
    have i2 := Int32.le_iff_toInt_le.mp (Int32.not_lt.mp h2)
    have i3 := Int32.le_iff_toInt_le.mp (Int32.not_lt.mp h3)
    rw [nI_toInt (by omega)] at i1 i2 i3
    have hs : (f 40 + x).toInt = (f 40).toInt + x.toInt := by
      rw [Int32.toInt_add]
      exact Int.bmod_eq_of_le (by omega) (by omega)
    refine ⟨⟨fun q hq => ?_, ?_, ?_, ?_⟩, ?_, fun q hq z => ?_, Z_u g7 (by omega)⟩
    · simp (disch := omega) only [upd_ne]
      exact g1 q hq
    · rw [upd_at, hs]; omega
    · rw [upd_ne (by omega)]; exact g3
    · rw [upd_ne (by omega)]; exact g4
    · rw [upd_at]; exact i3
    · rw [upd_ne (by omega)] at z
      rw [upd_ne (by omega)]
      exact g6 q hq z
  · cases h
theorem RG_mn {B : Int} {T : TXT} {f : Nat → Int32} (hG : GT T) (g : RG B (tN T) f) (hB : 36 * (B + 1) < 2 ^ 31) : RG (B + 1) (tN T) (mnT T (-1) 0 f) := by
  have g0 := GR_mn (no := -1) (md := 0) hG g.1 hB
  obtain ⟨⟨g1, g2, g3, g4⟩, g5, g6, g7⟩ := g
  have hn := hG.1
  refine ⟨g0, ?_, fun p hp z => ?_, Z_m g7⟩
  · unfold mnT
    rw [minR_40]
    split
    · rename_i h0
      rw [Int32.lt_iff_toInt_lt] at h0
      rw [toI_s1 h0]
      omega
    · exact g5
  · unfold mnT at z ⊢
    have h41 : f 41 ≠ -1 := by
      intro e
      rw [e] at g3
      exact absurd g3 (by decide)
    cases ho : onB f (-1) p with
    | false =>
      rw [minR_off (p := p) (by omega) ho (by omega) (by omega)] at z ⊢
      exact g6 p hp z
    | true =>
      have h32 := (onB_no ho).2
      by_cases hs : spS (mvT T (-1) 0 f) (f p) < tT T
      · obtain ⟨_, _, _, _, e4⟩ := minR_stay (n := tN T) (kn := tK T) (so := tS T) hp (by omega) ho hs
        rw [e4, h32] at z
        exact absurd rfl z
      · obtain ⟨_, e1, _, _, _⟩ := minR_top (n := tN T) (kn := tK T) (so := tS T) hp (by omega) ho hs h41
        exact e1
theorem RG_it {B : Int} {T : TXT} {f : Nat → Int32} (hG : GT T) (g : RG B (tN T) f) (k : Nat) (hk : 36 * (B + k) < 2 ^ 31) : RG (B + k) (tN T) (itT T (-1) 0 k f) := by
  induction k with
  | zero => rw [show B + ((0 : Nat) : Int) = B by omega]; exact g
  | succ k ih =>
    have h1 := RG_mn hG (ih (by omega)) (by omega)
    rw [show B + ((k + 1 : Nat) : Int) = B + (k : Int) + 1 by omega]
    exact h1
theorem RG_bg {T : TXT} (hG : GT T) : RG 0 (tN T) (bgT T) := by
  have hn := hG.1
  refine ⟨GR_bg hG, ?_, fun p hp z => ?_, fun j hj => ?_⟩
  · have := hG.2.2.1
    show (bgT T 40).toInt ≤ 999
    rw [show bgT T 40 = tO T from rfl]
    omega
  · rw [bg_4 hp (by omega)] at z
    rw [bg_1 hp (by omega)]
    split
    · rename_i h1
      rw [if_pos h1] at z
      exact absurd rfl z
    · rfl
  · unfold bgT
    rw [if_neg (by omega), if_neg (by omega), if_neg (by omega), if_neg (by omega), if_neg (by omega)]
def BYA (P : Nat → Int32) : Prop := ∀ i, -128 ≤ (P i).toInt ∧ (P i).toInt ≤ 127
theorem BYA_p {P : Nat → Int32} {t : Nat} {x : Int32} (h : BYA P) : ∀ i, BYA (ptS t x P i) := by
  intro i
  induction i with
  | zero => exact h
  | succ i ih =>
    intro j
    show -128 ≤ (upd (ptS t x P i) (t + i) (vp_nar FieldType.byte (byt x i)) j).toInt ∧ (upd (ptS t x P i) (t + i) (vp_nar FieldType.byte (byt x i)) j).toInt ≤ 127
    by_cases e : j = t + i
    · rw [e, upd_at]
      show -128 ≤ ((byt x i).toInt8.toInt32).toInt ∧ ((byt x i).toInt8.toInt32).toInt ≤ 127
      rw [Int8.toInt_toInt32]
      have h1 := Int8.le_toInt (byt x i).toInt8
      have h2 := Int8.toInt_le (byt x i).toInt8
      have h3 : Int8.maxValue.toInt = 127 := by decide
      omega
    · rw [upd_ne e]
      exact ih j
theorem BYA_f {P : Nat → Int32} {t : Nat} {a b c e g : Int32} (h : BYA P) : BYA (fdS t a b c e g P) := BYA_p (BYA_p (BYA_p (BYA_p (BYA_p h 4) 4) 4) 4) 4
/-- the class's side -/
def CK (B : Int) (v : Nat → Nat → Int32) (T : TXT) (f : Nat → Int32) (sz : Nat) (h : Nat → Nat → Int32) (m : Nat) (tp tm : Nat → Nat) (ts : Nat → Int32) (hd : Nat → Bool) (hs : Nat → Nat → Int32) (len : Nat) (P : Nat → Int32) (pl : Int32) : Prop := KI B v T f ∧ (∃ nx, PI v (tN T) nx sz h) ∧ WX v (tN T) m tp tm ts ∧ (∀ s, s < 3 → v 369 s = bI (hd s) ∧ (hd s = true → RX v (370 + 6 * s) (tN T) (-1) 0 (hs s))) ∧ v 0 1 = nI len ∧ v 1 = P ∧ v 0 2 = pl
/-- the reference's side -/
def CM (B : Int) (v : Nat → Nat → Int32) (w : Nat → Nat → Int64) (T : TXT) (f : Nat → Int32) (sz : Nat) (h : Nat → Nat → Int32) (m : Nat) (tp tm : Nat → Nat) (ts : Nat → Int32) (hd : Nat → Bool) (hs : Nat → Nat → Int32) (len : Nat) (P : Nat → Int32) (pl : Int32) : Prop := ∃ lv o0 o1, MI B v T lv f ∧ HX v sz h ∧ WM v (tN T) m tp tm ts ∧ (∀ s, s < 3 → v 426 s = bI (hd s) ∧ (hd s = true → ∀ k, k < 50 → v 427 (50 * s + k) = hs s k)) ∧ v 388 2 = nI len ∧ v 389 = P ∧ v 388 17 = pl ∧ LWO v lv 0 o0 ∧ LWO v lv 1 o1 ∧ ∀ k, k < 17 → w 395 k = lN (keyN k)
/-- what both stand for -/
def CP (B : Int) (T : TXT) (f : Nat → Int32) (sz : Nat) (h : Nat → Nat → Int32) (hd : Nat → Bool) (hs : Nat → Nat → Int32) (len : Nat) (P : Nat → Int32) : Prop := RG B (tN T) f ∧ (∀ j, j < sz → RG B (tN T) (h j)) ∧ (∀ s, s < 3 → hd s = true → RG B (tN T) (hs s)) ∧ len ≤ 2000 ∧ BYA P
def LI (B : Int) (v : Nat → Nat → Int32) (w : Nat → Nat → Int64) : Prop := ∃ T f sz h m tp tm ts hd hs len P pl, CK B v T f sz h m tp tm ts hd hs len P pl ∧ CM B v w T f sz h m tp tm ts hd hs len P pl ∧ CP B T f sz h hd hs len P
theorem CK_f {B : Int} {v v' : Nat → Nat → Int32} {T : TXT} {f : Nat → Int32} {sz : Nat} {h : Nat → Nat → Int32} {m : Nat} {tp tm : Nat → Nat} {ts : Nat → Int32} {hd : Nat → Bool} {hs : Nat → Nat → Int32} {len : Nat} {P : Nat → Int32} {pl : Int32} (hc : CK B v T f sz h m tp tm ts hd hs len P pl) (e : ∀ c, c < 388 → v' c = v c) : CK B v' T f sz h m tp tm ts hd hs len P pl := by
  obtain ⟨⟨k1, k2, k3⟩, ⟨nx, p⟩, x, s, t1, t2, t3⟩ := hc
  refine ⟨⟨KX_w k1 (fun c _ _ _ _ => e c (by omega)), RX_w k2 (fun c _ _ => e c (by omega)), k3⟩, ⟨nx, PI_w p (fun c _ _ => e c (by omega))⟩, ?_, fun q hq => ?_, by rw [e 0 (by omega)]; exact t1, by rw [e 1 (by omega)]; exact t2, by rw [e 0 (by omega)]; exact t3⟩
  · unfold WX at *
    rw [e 358 (by omega), e 359 (by omega), e 360 (by omega), e 361 (by omega)]
    exact x
  · rw [e 369 (by omega)]
    exact ⟨(s q hq).1, fun z => RX_w ((s q hq).2 z) (fun c _ _ => e c (by omega))⟩
theorem CK_w {B : Int} {v v' : Nat → Nat → Int32} {T : TXT} {f : Nat → Int32} {sz : Nat} {h : Nat → Nat → Int32} {m : Nat} {tp tm : Nat → Nat} {ts : Nat → Int32} {hd : Nat → Bool} {hs : Nat → Nat → Int32} {len : Nat} {P : Nat → Int32} {pl : Int32} (hc : CK B v T f sz h m tp tm ts hd hs len P pl) (e : QW v v') : CK B v' T f sz h m tp tm ts hd hs len P pl := by
  obtain ⟨k, ⟨nx, p⟩, x, s, t1, t2, t3⟩ := hc
  have e0 : ∀ c, c ≠ 35 → c ≠ 36 → c ≠ 40 → c ≠ 41 → (c < 351 ∨ 357 < c) → (c < 362 ∨ 367 < c) → v' c = v c := e
  refine ⟨KI_w k e, ⟨nx, PI_w p (fun c _ _ => e0 c (by omega) (by omega) (by omega) (by omega) (by omega) (by omega))⟩, ?_, fun q hq => ?_, by rw [e0 0 (by omega) (by omega) (by omega) (by omega) (by omega) (by omega)]; exact t1, by rw [e0 1 (by omega) (by omega) (by omega) (by omega) (by omega) (by omega)]; exact t2, by rw [e0 0 (by omega) (by omega) (by omega) (by omega) (by omega) (by omega)]; exact t3⟩
  · unfold WX at *
    rw [e0 358 (by omega) (by omega) (by omega) (by omega) (by omega) (by omega), e0 359 (by omega) (by omega) (by omega) (by omega) (by omega) (by omega), e0 360 (by omega) (by omega) (by omega) (by omega) (by omega) (by omega), e0 361 (by omega) (by omega) (by omega) (by omega) (by omega) (by omega)]
    exact x
  · rw [e0 369 (by omega) (by omega) (by omega) (by omega) (by omega) (by omega)]
    exact ⟨(s q hq).1, fun z => RX_w ((s q hq).2 z) (fun c _ _ => e0 c (by omega) (by omega) (by omega) (by omega) (by omega) (by omega))⟩
theorem QW_8 {v v' : Nat → Nat → Int32} (e : QW v v') : ∀ c, 388 ≤ c → v' c = v c := fun c hc => e c (by omega) (by omega) (by omega) (by omega) (by omega) (by omega)
theorem LWO_w {v v' : Nat → Nat → Int32} {lv k : Nat} {o : Option LAWD} (h : LWO v lv k o) (e : ∀ c, 406 ≤ c → c ≤ 414 → v' c = v c) : LWO v' lv k o := ⟨LWX_f h.1 ⟨by rw [e 406 (by omega) (by omega)], by rw [e 407 (by omega) (by omega)]⟩ (fun j _ _ => ⟨by rw [e 413 (by omega) (by omega)], by rw [e 414 (by omega) (by omega)]⟩) (fun j _ _ => ⟨by rw [e 408 (by omega) (by omega)], by rw [e 409 (by omega) (by omega)], by rw [e 410 (by omega) (by omega)], by rw [e 411 (by omega) (by omega)], by rw [e 412 (by omega) (by omega)]⟩) (Nat.le_refl _) (Nat.le_refl _), h.2⟩
theorem CM_f {B : Int} {v v' : Nat → Nat → Int32} {w w' : Nat → Nat → Int64} {T : TXT} {f : Nat → Int32} {sz : Nat} {h : Nat → Nat → Int32} {m : Nat} {tp tm : Nat → Nat} {ts : Nat → Int32} {hd : Nat → Bool} {hs : Nat → Nat → Int32} {len : Nat} {P : Nat → Int32} {pl : Int32} (hc : CM B v w T f sz h m tp tm ts hd hs len P pl) (e : ∀ c, 388 ≤ c → v' c = v c) (ew : w' 395 = w 395) : CM B v' w' T f sz h m tp tm ts hd hs len P pl := by
  obtain ⟨lv, o0, o1, k, x, y, s, t1, t2, t3, l0, l1, ky⟩ := hc
  refine ⟨lv, o0, o1, ?_, ?_, ?_, fun q hq => ?_, by rw [e 388 (by omega)]; exact t1, by rw [e 389 (by omega)]; exact t2, by rw [e 388 (by omega)]; exact t3, LWO_w l0 (fun c _ _ => e c (by omega)), LWO_w l1 (fun c _ _ => e c (by omega)), by rw [ew]; exact ky⟩
  · obtain ⟨k1, k2, k3, k4⟩ := k
    exact ⟨MX_w k1 (fun c _ _ => e c (by omega)) (by rw [e 388 (by omega)]), by rw [e 418 (by omega)]; exact k2, by rw [e 419 (by omega)]; exact k3, k4⟩
  · unfold HX at *
    rw [e 388 (by omega), e 420 (by omega)]
    exact x
  · unfold WM at *
    rw [e 388 (by omega), e 423 (by omega), e 424 (by omega), e 425 (by omega)]
    exact y
  · rw [e 426 (by omega), e 427 (by omega)]
    exact s q hq
theorem CM_w {B : Int} {v v' : Nat → Nat → Int32} {w : Nat → Nat → Int64} {T : TXT} {f : Nat → Int32} {sz : Nat} {h : Nat → Nat → Int32} {m : Nat} {tp tm : Nat → Nat} {ts : Nat → Int32} {hd : Nat → Bool} {hs : Nat → Nat → Int32} {len : Nat} {P : Nat → Int32} {pl : Int32} (hc : CM B v w T f sz h m tp tm ts hd hs len P pl) (e : MW v v') : CM B v' w T f sz h m tp tm ts hd hs len P pl := by
  obtain ⟨lv, o0, o1, k, x, y, s, t1, t2, t3, l0, l1, ky⟩ := hc
  have e0 := e.1
  have e8 := e.2.1
  refine ⟨lv, o0, o1, MI_w k e, ?_, ?_, fun q hq => ?_, by rw [e8 2 (by omega) (by omega) (by omega)]; exact t1, by rw [e0 389 (by omega) (by omega) (by omega) (by omega) (by omega) (by omega)]; exact t2, by rw [e8 17 (by omega) (by omega) (by omega)]; exact t3, LWO_w l0 (fun c _ _ => e0 c (by omega) (by omega) (by omega) (by omega) (by omega) (by omega)), LWO_w l1 (fun c _ _ => e0 c (by omega) (by omega) (by omega) (by omega) (by omega) (by omega)), ky⟩
  · unfold HX at *
    rw [e8 51 (by omega) (by omega) (by omega), e0 420 (by omega) (by omega) (by omega) (by omega) (by omega) (by omega)]
    exact x
  · unfold WM at *
    rw [e8 55 (by omega) (by omega) (by omega), e0 423 (by omega) (by omega) (by omega) (by omega) (by omega) (by omega), e0 424 (by omega) (by omega) (by omega) (by omega) (by omega) (by omega), e0 425 (by omega) (by omega) (by omega) (by omega) (by omega) (by omega)]
    exact y
  · rw [e0 426 (by omega) (by omega) (by omega) (by omega) (by omega) (by omega), e0 427 (by omega) (by omega) (by omega) (by omega) (by omega) (by omega)]
    exact s q hq
theorem MW_8 {v v' : Nat → Nat → Int32} (e : MW v v') : ∀ c, c < 388 → v' c = v c := fun c hc => e.1 c (by omega) (by omega) (by omega) (by omega) (by omega) (by omega)
theorem CP_le {B C : Int} {T : TXT} {f : Nat → Int32} {sz : Nat} {h : Nat → Nat → Int32} {hd : Nat → Bool} {hs : Nat → Nat → Int32} {len : Nat} {P : Nat → Int32} (hc : CP B T f sz h hd hs len P) (e : B ≤ C) : CP C T f sz h hd hs len P := ⟨RG_le hc.1 e, fun j hj => RG_le (hc.2.1 j hj) e, fun s hs z => RG_le (hc.2.2.1 s hs z) e, hc.2.2.2⟩
/-- more minutes may have gone by -/
theorem LI_le {B C : Int} {v : Nat → Nat → Int32} {w : Nat → Nat → Int64} (hl : LI B v w) (e : B ≤ C) (hC : C ≤ 200000) : LI C v w := by
  obtain ⟨T, f, sz, h, m, tp, tm, ts, hd, hs, len, P, pl, ⟨k, c⟩, ⟨lv, o0, o1, mi, d⟩, p⟩ := hl
  refine ⟨T, f, sz, h, m, tp, tm, ts, hd, hs, len, P, pl, ⟨⟨k.1, k.2.1, (RG_le p.1 e).1, k.2.2.2.1, k.2.2.2.2.1, hC⟩, c⟩, ⟨lv, o0, o1, ⟨mi.1, mi.2.1, mi.2.2.1, (RG_le p.1 e).1, mi.2.2.2.2.1, mi.2.2.2.2.2.1, hC⟩, d⟩, CP_le p e⟩
