/-! laid by wip/whole/gV.py: the text that a draft is -/
def lwV (lo hi : Int32) (pl : (Nat → Int32) → Int32) (o : Option LAWD) (x : Nat → Int32) : Int32 := match o with
  | none => clS lo hi (pl x)
  | some L => match brV x L.1 L.2 with
    | none => 0
    | some y => clS lo hi y
def plM (x : Nat → Int32) : Int32 := x 0 - x 1
def plH (x : Nat → Int32) : Int32 := x 5
/-- T is the draft's text, as far as its pilgrims go -/
def TD (T : TXT) (D : DRF) : Prop := tN T = D.2.2.1 ∧ tT T = nI D.1 ∧ tO T = nI D.2.1 ∧ (∀ p, p < D.2.2.1 → tP T p = nI (D.2.2.2.1 1 p) ∧ tK T p = nI (D.2.2.2.1 2 p) ∧ tD T p = nI (D.2.2.2.1 3 p) ∧ tS T p = nI (D.2.2.2.1 4 p) ∧ tW T p = nI (D.2.2.2.1 5 p) ∧ tL T p = nI (D.2.2.2.1 6 p)) ∧ tM T = lwV (-9) (nI 9) plM D.2.2.2.2.1 ∧ tH T = lwV (-9999) (nI 9999) plH D.2.2.2.2.2
def mkT (v : Nat → Nat → Int32) (lv : Nat) (D : DRF) : TXT := (D.2.2.1, nI D.1, fun p => v 400 (8 * lv + p), fun p => v 401 (8 * lv + p), fun p => v 402 (8 * lv + p), fun p => v 403 (8 * lv + p), lwV (-9) (nI 9) plM D.2.2.2.2.1, lwV (-9999) (nI 9999) plH D.2.2.2.2.2, nI D.2.1, fun p => v 399 (8 * lv + p), fun p => v 404 (8 * lv + p))
def mkT0 (D : DRF) : TXT := (D.2.2.1, nI D.1, fun p => nI (D.2.2.2.1 2 p), fun p => nI (D.2.2.2.1 3 p), fun p => nI (D.2.2.2.1 4 p), fun p => nI (D.2.2.2.1 5 p), lwV (-9) (nI 9) plM D.2.2.2.2.1, lwV (-9999) (nI 9999) plH D.2.2.2.2.2, nI D.2.1, fun p => nI (D.2.2.2.1 1 p), fun p => nI (D.2.2.2.1 6 p))
theorem mkT0_TD {D : DRF} : TD (mkT0 D) D := ⟨rfl, rfl, rfl, fun _ _ => ⟨rfl, rfl, rfl, rfl, rfl, rfl⟩, rfl, rfl⟩
theorem mkT_TD {v : Nat → Nat → Int32} {lv : Nat} {D : DRF} (h : PDX v lv D) : TD (mkT v lv D) D := ⟨rfl, rfl, rfl, fun p hp => ⟨h.2.2.2.2 1 (by omega) (by omega) p hp, h.2.2.2.2 2 (by omega) (by omega) p hp, h.2.2.2.2 3 (by omega) (by omega) p hp, h.2.2.2.2 4 (by omega) (by omega) p hp, h.2.2.2.2 5 (by omega) (by omega) p hp, h.2.2.2.2 6 (by omega) (by omega) p hp⟩, rfl, rfl⟩
theorem bg_TD {T T' : TXT} {D : DRF} (h : TD T D) (h' : TD T' D) : bgT T = bgT T' := by
  obtain ⟨a1, a2, a3, a4, a5, a6⟩ := h
  obtain ⟨b1, b2, b3, b4, b5, b6⟩ := h'
  funext j
  unfold bgT
  rw [a1, b1, a2, b2, a3, b3]
  by_cases h8 : j < 8
  · rw [if_pos h8, if_pos h8]
    by_cases hn : j < D.2.2.1
    · rw [if_pos hn, if_pos hn, (a4 j hn).1, (b4 j hn).1]
    · rw [if_neg hn, if_neg hn]
  · rw [if_neg h8, if_neg h8]
    by_cases h16 : j < 16
    · rw [if_pos h16, if_pos h16]
      by_cases hn : j - 8 < D.2.2.1
      · rw [if_pos hn, if_pos hn, (a4 _ hn).1, (b4 _ hn).1, (a4 _ hn).2.2.2.2.2, (b4 _ hn).2.2.2.2.2]
      · rw [if_neg hn, if_neg hn]
    · rw [if_neg h16, if_neg h16]
      by_cases h32 : j < 32
      · rw [if_pos h32, if_pos h32]
      · rw [if_neg h32, if_neg h32]
        by_cases h40 : j < 40
        · rw [if_pos h40, if_pos h40]
          by_cases hn : j - 32 < D.2.2.1
          · rw [if_pos hn, if_pos hn, (a4 _ hn).1, (b4 _ hn).1]
          · rw [if_neg hn, if_neg hn]
        · rw [if_neg h40, if_neg h40]
/-- the class's LAW -/
def CWx (N off : Nat) (l : CL) : Prop := ∀ j, j < l.length → (l.getD j (0, 0)).1 ≤ 7 ∧ ((l.getD j (0, 0)).1 = 6 → ∃ t, t ≤ N ∧ (l.getD j (0, 0)).2 = nI t ∧ off + j < t)
theorem CW_a {N off : Nat} {l1 l2 : CL} (h1 : CWx N off l1) (h2 : CWx N (off + l1.length) l2) : CWx N off (l1 ++ l2) := by
  intro j hj
  rw [List.length_append] at hj
  by_cases h : j < l1.length
  · rw [gdA_l h]
    exact h1 j h
  · have e : j = l1.length + (j - l1.length) := by omega
    have h3 := h2 (j - l1.length) (by omega)
    rw [e, gdA_r]
    refine ⟨h3.1, fun z => ?_⟩
    obtain ⟨t, t1, t2, t3⟩ := h3.2 z
    exact ⟨t, t1, t2, by omega⟩
theorem CW_w {N off m h h' : Nat} {l : CL} (hw : WL m l h h') : CWx N off l := fun j hj => ⟨by have := WL_5 l h h' hw j hj; omega, fun z => by have := WL_5 l h h' hw j hj; omega⟩
theorem CW_6 {N off t : Nat} (h : t ≤ N) (h2 : off < t) : CWx N off [(6, nI t)] := by
  intro j hj
  have hj : j < 1 := hj
  have e : j = 0 := by omega
  subst e
  exact ⟨by show 6 ≤ 7; omega, fun _ => ⟨t, h, rfl, by omega⟩⟩
theorem CW_7 {N off : Nat} : CWx N off [(7, nI 0)] := by
  intro j hj
  have hj : j < 1 := hj
  have e : j = 0 := by omega
  subst e
  exact ⟨by show 7 ≤ 7; omega, fun z => by have z : 7 = 6 := z; omega⟩
theorem CW_lc {N : Nat} : ∀ (bs : List BRD) (D : CL) (off : Nat), WLB bs D → off + (lcode off bs D).length ≤ N → CWx N off (lcode off bs D) := by
  intro bs
  induction bs with
  | nil => intro D off hw _; exact CW_w hw.2
  | cons b bs ih =>
    intro D off hw hN
    have hN : off + (brc off b ++ lcode (off + brn b) bs D).length ≤ N := hN
    rw [List.length_append, brc_len] at hN
    obtain ⟨w1, w2, w3⟩ := hw.1 b (List.mem_cons_self)
    have hb : brn b = b.1.length + b.2.1.length + b.2.2.length + 2 := rfl
    show CWx N off (brc off b ++ lcode (off + brn b) bs D)
    refine CW_a ?_ ?_
    · unfold brc
      refine CW_a (CW_a (CW_a (CW_a (CW_w w1) (CW_w w2)) ?_) (CW_w w3)) CW_7
      exact CW_6 (by omega) (by rw [List.length_append]; omega)
    · rw [brc_len]
      exact ih D (off + brn b) ⟨fun c hc => hw.1 c (List.mem_cons_of_mem _ hc), hw.2⟩ (by omega)
theorem ct_W {v : Nat → Nat → Int32} {q : Nat} {lo hi : Int32} {pl : (Nat → Int32) → Int32} {dd : CL} {o : Option LAWD} (hC : LC v q (lwc dd o)) (hl : (lwc dd o).length ≤ 400) (ho : LOK o) (hd : WL 20 dd 0 1) (hp : ∀ x, tvL x dd = some (pl x)) (h0 : clS lo hi 0 = 0) : ∃ k, v q 2 = nI k ∧ cW (v (q + 1)) (v (q + 2)) k ∧ ∀ x, clS lo hi (ctS v q k x) = lwV lo hi pl o x := by
  have key : ∃ bs D, lwc dd o = lcode 0 bs D ∧ WLB bs D ∧ ∀ x, lwV lo hi pl o x = match brV x bs D with
      | none => 0
      | some y => clS lo hi y := by
    cases o with
    | none =>
      refine ⟨[], dd, rfl, ⟨fun b hb => absurd hb (List.not_mem_nil), hd⟩, fun x => ?_⟩
      show clS lo hi (pl x) = match tvL x dd with
        | none => 0
        | some y => clS lo hi y
      rw [hp]
    | some L => exact ⟨L.1, L.2, rfl, ho, fun x => rfl⟩
  obtain ⟨bs, D, e1, hw, e2⟩ := key
  rw [e1] at hC hl
  have hs : sgx (v (q + 1)) (v (q + 2)) 0 (lcode 0 bs D) := by
    intro j hj
    rw [Nat.zero_add]
    exact hC.2 j hj
  refine ⟨(lcode 0 bs D).length, hC.1, ⟨hl, ?_, ?_⟩, fun x => ?_⟩
  · intro a ha h6
    have h7 := CW_lc (N := 400) bs D 0 hw (by omega) a ha
    have h8 := (hC.2 a ha).1
    rw [h8, nI_eq (by omega) (by omega)] at h6
    obtain ⟨t, t1, t2, t3⟩ := h7.2 h6
    exact ⟨t, t1, by rw [(hC.2 a ha).2, t2], by omega⟩
  · intro a ha
    have h7 := CW_lc (N := 400) bs D 0 hw (by omega) a ha
    exact ⟨_, h7.1, (hC.2 a ha).1⟩
  · rw [e2]
    unfold ctS
    rw [ct_L hl bs D 0 401 hs hw (by omega) (by omega)]
    cases brV x bs D with
    | none => exact h0
    | some y => rfl
theorem wl_dM : WL 20 dM 0 1 := Or.inr (Or.inl ⟨rfl, ⟨0, by omega, rfl⟩, by omega, Or.inr (Or.inl ⟨rfl, ⟨1, by omega, rfl⟩, by omega, Or.inr (Or.inr ⟨by show 2 ≤ 3; omega, by show 3 ≤ 5; omega, by omega, rfl⟩)⟩)⟩)
theorem wl_dH : WL 20 dH 0 1 := Or.inr (Or.inl ⟨rfl, ⟨5, by omega, rfl⟩, by omega, rfl⟩)
theorem tv_dM (x : Nat → Int32) : tvL x dM = some (plM x) := rfl
theorem tv_dH (x : Nat → Int32) : tvL x dH = some (plH x) := rfl
theorem mk_KX {v : Nat → Nat → Int32} {D : DRF} {T : TXT} (hX : TXD v D) (hT : TD T D) (hn : D.2.2.1 ≤ 8) (l0 : (lwc dM D.2.2.2.2.1).length ≤ 400) (l1 : (lwc dH D.2.2.2.2.2).length ≤ 400) (o0 : LOK D.2.2.2.2.1) (o1 : LOK D.2.2.2.2.2) : KX v T := by
  obtain ⟨a1, a2, a3, a4, a5, a6⟩ := hT
  obtain ⟨b1, b2, b3, b4, b5, b6⟩ := hX
  refine ⟨by rw [a1]; exact hn, by rw [a1]; exact b3, by rw [a2]; exact b1, by rw [a3]; exact b2, fun p hp => ?_, ?_, ?_⟩
  · rw [a1] at hp
    obtain ⟨c1, c2, c3, c4, c5, c6⟩ := a4 p hp
    rw [c1, c2, c3, c4, c5, c6]
    exact b4 p hp
  · rw [a5]
    exact ct_W b5 l0 o0 wl_dM tv_dM (by decide)
  · rw [a6]
    exact ct_W b6 l1 o1 wl_dH tv_dH (by decide)
/-- the reference's LAW -/
theorem sg_W {v : Nat → Nat → Int32} {a : Nat} {C : CL} (h : sgm v a C) (hw : WL 20 C 0 1) (h1 : a + C.length ≤ 840) (h2 : C.length ≤ 400) : sgW (v 413) (v 414) a (a + C.length) := ⟨by omega, h1, by omega, by rw [show a + C.length - a = C.length by omega]; exact htS_L C a 0 1 h hw⟩
theorem bn_W {v : Nat → Nat → Int32} : ∀ (bs : List BRD) (D : CL) (br a : Nat), LBX v br a bs D → WLB bs D → a + lbl bs D ≤ 840 → lbl bs D ≤ 400 → ∀ b, br ≤ b → b < br + bs.length + 1 → bnW v b (br + bs.length + 1) := by
  intro bs
  induction bs with
  | nil =>
    intro D br a h hw h1 h2 b b1 b2
    obtain ⟨g1, g2, g3, g4⟩ := h
    have h1 : a + D.length ≤ 840 := h1
    have h2 : D.length ≤ 400 := h2
    have b2 : b < br + 0 + 1 := b2
    have e : b = br := by omega
    subst e
    exact ⟨0, 0, a, a + D.length, g2, g3, sg_W g4 hw.2 h1 h2, Or.inl g1, fun _ => g1, fun z => by rw [g1] at z; exact absurd z (by decide)⟩
  | cons x bs ih =>
    intro D br a h hw h1 h2 b b1 b2
    obtain ⟨⟨g1, g2, g3, g4, g5, g6, g7, g8⟩, g9⟩ := h
    have h1 : a + (bl x + lbl bs D) ≤ 840 := h1
    have h2 : bl x + lbl bs D ≤ 400 := h2
    have hb : bl x = x.1.length + x.2.1.length + x.2.2.length := rfl
    obtain ⟨w1, w2, w3⟩ := hw.1 x (List.mem_cons_self)
    rw [List.length_cons] at b2 ⊢
    by_cases e : b = br
    · subst e
      exact ⟨a, a + x.1.length, a + x.1.length + x.2.1.length, a + x.1.length + x.2.1.length + x.2.2.length, g4, g5, sg_W g8 w3 (by omega) (by omega), Or.inr g1, fun z => by omega, fun _ => ⟨g2, g3, sg_W g6 w1 (by omega) (by omega), sg_W g7 w2 (by omega) (by omega)⟩⟩
    · have := ih D (br + 1) (a + bl x) g9 ⟨fun c hc => hw.1 c (List.mem_cons_of_mem _ hc), hw.2⟩ (by omega) (by omega) b (by omega) (by omega)
      rw [show br + 1 + bs.length + 1 = br + (bs.length + 1) + 1 by omega] at this
      exact this
def LWO (v : Nat → Nat → Int32) (lv k : Nat) (o : Option LAWD) : Prop := LWX v (2 * lv + k) (420 * lv) (420 * lv + 400) (130 * lv) (130 * lv + 130) o ∧ LOK o
theorem lw_W {v : Nat → Nat → Int32} {lv k : Nat} {o : Option LAWD} (hlv : lv < 2) (h : LWO v lv k o) : lwW v lv k := by
  obtain ⟨h, ho⟩ := h
  cases o with
  | none => exact ⟨0, 0, h.1, h.2, Nat.le_refl _, by omega, fun b b1 b2 => absurd b2 (by omega)⟩
  | some L =>
    obtain ⟨b0, a0, h1, h2, h3, h4, h5, h6, h7, h8⟩ := h
    exact ⟨b0, b0 + L.1.length + 1, h1, h2, by omega, by omega, bn_W L.1 L.2 b0 a0 h3 ho (by omega) (by omega)⟩
theorem tl_W {v : Nat → Nat → Int32} {lv k : Nat} {o : Option LAWD} {lo hi : Int32} {pl : (Nat → Int32) → Int32} (hlv : lv < 2) (h : LWO v lv k o) (x : Nat → Int32) : tlS v lv k x (pl x) lo hi = lwV lo hi pl o x := by
  obtain ⟨h, ho⟩ := h
  unfold tlS
  cases o with
  | none =>
    rw [if_pos (by rw [h.1, h.2])]
    rfl
  | some L =>
    obtain ⟨b0, a0, h1, h2, h3, h4, h5, h6, h7, h8⟩ := h
    rw [h1, h2, if_neg (by rw [nI_eq (by omega) (by omega)]; omega), nI_clamp (by omega), nI_clamp (by omega), show b0 + L.1.length + 1 - b0 = L.1.length + 1 by omega, br_L L.1 L.2 b0 a0 (by omega) (by omega) h3 ho]
    rfl
theorem mk_MX {v : Nat → Nat → Int32} {lv : Nat} {D : DRF} {T : TXT} (h18 : v 388 18 = nI lv) (hlv : lv < 2) (hP : PDX v lv D) (h0 : LWO v lv 0 D.2.2.2.2.1) (h1 : LWO v lv 1 D.2.2.2.2.2) (hT : TD T D) (hr : ∀ p, p < 8 → tP T p = v 399 (8 * lv + p) ∧ tK T p = v 400 (8 * lv + p) ∧ tD T p = v 401 (8 * lv + p) ∧ tS T p = v 402 (8 * lv + p) ∧ tW T p = v 403 (8 * lv + p) ∧ tL T p = v 404 (8 * lv + p)) : MX v T lv := by
  obtain ⟨a1, a2, a3, a4, a5, a6⟩ := hT
  obtain ⟨b1, b2, b3, b4, b5⟩ := hP
  refine ⟨⟨h18, hlv, by rw [a1]; exact b3, by rw [a1]; exact b4⟩, by rw [a2]; exact b1, by rw [a3]; exact b2, fun p hp => (hr p hp).1, fun p hp => (hr p hp).2.1, fun p hp => (hr p hp).2.2.1, fun p hp => (hr p hp).2.2.2.1, fun p hp => (hr p hp).2.2.2.2.1, fun p hp => (hr p hp).2.2.2.2.2, lw_W hlv h0, lw_W hlv h1, fun x => ?_, fun x => ?_⟩
  · rw [a5]
    exact tl_W (pl := plM) hlv h0 x
  · rw [a6]
    exact tl_W (pl := plH) hlv h1 x
theorem cl_9 (y : Int32) : -9 ≤ (clS (-9) (nI 9) y).toInt ∧ (clS (-9) (nI 9) y).toInt ≤ 9 := by
  unfold clS
  split
  · exact ⟨by decide, by decide⟩
  · rename_i h1
    have h1 := Int32.le_iff_toInt_le.mp (Int32.not_lt.mp h1)
    split
    · exact ⟨by decide, by decide⟩
    · rename_i h2
      have h2 := Int32.le_iff_toInt_le.mp (Int32.not_lt.mp h2)
      exact ⟨h1, h2⟩
theorem mk_GT {D : DRF} {T : TXT} (hT : TD T D) (h : R0 D) : GT T := by
  obtain ⟨a1, a2, a3, a4, a5, a6⟩ := hT
  obtain ⟨b1, b2, b3, b4⟩ := h
  refine ⟨by rw [a1]; exact b3, ?_, ?_, fun p hp => ?_, fun x => ?_⟩
  · rw [a2, nI_toInt (by omega)]
    omega
  · rw [a3, nI_toInt (by omega)]
    omega
  · rw [a1] at hp
    obtain ⟨c1, c2, c3, c4, c5, c6⟩ := a4 p hp
    obtain ⟨d1, d2, d3, d4, d5, d6⟩ := b4 p hp
    rw [c1, c2, c3, c4, c5, c6, nI_toInt (by omega), nI_toInt (by omega), nI_toInt (by omega), nI_toInt (by omega), nI_toInt (by omega)]
    refine ⟨by omega, by omega, by omega, by omega, by omega, ?_⟩
    rcases (show D.2.2.2.1 6 p = 0 ∨ D.2.2.2.1 6 p = 1 by omega) with e | e
    · exact Or.inl (by rw [e]; rfl)
    · exact Or.inr (by rw [e]; rfl)
  · rw [a5]
    unfold lwV
    split
    · exact cl_9 _
    · split
      · exact ⟨by decide, by decide⟩
      · exact cl_9 _
