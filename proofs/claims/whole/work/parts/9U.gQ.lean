/-! laid by wip/whole/gQ.py: how far a LAW's TOKENS go; the reference's draft on one side, by itself -/
theorem st_in {E : ENV} {s s' : XS} (h : stX E s = .inl s') : s'.2.1 = s.2.1 + 1 := by
  unfold stX at h
  repeat' split at h
  all_goals first
    | cases h; rfl
    | cases h
theorem st_ou {E : ENV} {s : XS} {t' : Nat} {C : CL} (h : stX E s = .inr (.inr (t', C))) : s.1 = true ∧ t' = s.2.1 := by
  obtain ⟨b, t, W, C0⟩ := s
  cases b with
  | true =>
    unfold stX at h
    rw [if_neg tf0] at h
    repeat' split at h
    all_goals first
      | cases h; exact ⟨rfl, rfl⟩
      | cases h
  | false =>
    unfold stX at h
    rw [if_pos rfl] at h
    repeat' split at h
    all_goals cases h
theorem x_ge {E : ENV} : ∀ (n : Nat) (s : XS) (t' : Nat) (C : CL), xrun E n s = some (.inr (t', C)) → s.2.1 ≤ t' ∧ (s.1 = false → s.2.1 < t') := by
  intro n
  induction n with
  | zero => intro s t' C h; cases h
  | succ n ih =>
    intro s t' C h
    have h : (match stX E s with
      | .inr r => some r
      | .inl s' => xrun E n s') = some (.inr (t', C)) := h
    cases hs : stX E s with
    | inl s' =>
      rw [hs] at h
      have h1 := (ih s' t' C h).1
      have h2 := st_in hs
      exact ⟨by omega, fun _ => by omega⟩
    | inr r =>
      rw [hs] at h
      cases h
      obtain ⟨h1, h2⟩ := st_ou hs
      exact ⟨by omega, fun z => by rw [z] at h1; cases h1⟩
theorem X_gt {E : ENV} {t t' : Nat} {C : CL} (h : XX E (false, t, [], []) (.inr (t', C))) : t < t' := by
  obtain ⟨n, hn⟩ := h
  exact (x_ge n _ _ _ hn).2 rfl
theorem wn_1 {E : ENV} {j t t' : Nat} (h : wnt E j t = .inr t') : t' = t + 1 := by
  unfold wnt at h
  split at h
  · exact (tk_lt h).1
  · cases h
/-- how many TOKENS a LAW has at least -/
theorem lw_t {E : ENV} : ∀ (n t : Nat) (R : RL), LWR E n t R → ∀ t' bs D, R = .inr (t', bs, D) → t + 1 + 4 * bs.length ≤ t' := by
  intro n
  induction n with
  | zero =>
    intro t R h t' bs D e
    unfold LWR at h
    split at h
    · rw [h] at e; cases e
    · rcases h with ⟨f, _, h⟩ | ⟨t2, C, hx, h⟩
      · rw [h] at e; cases e
      · rw [h] at e; cases e; have := X_gt hx; show t + 1 + 4 * 0 ≤ t'; omega
  | succ n ih =>
    intro t R h t' bs D e
    unfold LWR at h
    split at h
    · have bTx : ∀ {j t0 : Nat} {k : Nat → Prop}, bT (wnt E j t0) k (fun f => R = .inl f) → k (t0 + 1) := by
        intro j t0 k hb
        cases hr : wnt E j t0 with
        | inl f =>
          rw [hr] at hb
          have hb : R = .inl f := hb
          rw [hb] at e
          cases e
        | inr t =>
          rw [hr] at hb
          rw [wn_1 hr] at hb
          exact hb
      have bTk : ∀ {t0 : Nat} {k : Nat → Prop}, bT (tkR E t0) k (fun f => R = .inl f) → k (t0 + 1) := by
        intro t0 k hb
        cases hr : tkR E t0 with
        | inl f =>
          rw [hr] at hb
          have hb : R = .inl f := hb
          rw [hb] at e
          cases e
        | inr t =>
          rw [hr] at hb
          rw [(tk_lt hr).1] at hb
          exact hb
      have bXx : ∀ {t : Nat} {k : Nat → CL → Prop}, bX E t k (fun f => R = .inl f) → ∃ t' C, t < t' ∧ k t' C := by
        intro t k hb
        rcases hb with ⟨f, _, hb⟩ | ⟨t2, C, hx, hb⟩
        · rw [hb] at e
          cases e
        · exact ⟨t2, C, X_gt hx, hb⟩
      unfold BR1 at h
      have h := bTk h
      obtain ⟨_, _, g1, h⟩ := bXx h
      have h := bTx h
      obtain ⟨_, _, g2, h⟩ := bXx h
      have h := bTx h
      obtain ⟨_, _, g3, h⟩ := bXx h
      have h := bTx h
      obtain ⟨R', h1, h2⟩ := h
      cases R' with
      | inl f =>
        rw [h2] at e
        cases e
      | inr x =>
        obtain ⟨t3, bs3, D3⟩ := x
        rw [h2] at e
        have h3 := ih _ _ h1 t3 bs3 D3 rfl
        cases e
        rw [List.length_cons]
        omega
    · rcases h with ⟨f, _, h⟩ | ⟨t2, C, hx, h⟩
      · rw [h] at e; cases e
      · rw [h] at e; cases e; have := X_gt hx; show t + 1 + 4 * 0 ≤ t'; omega
theorem lw_law {E : ENV} {t t' : Nat} {bs : List BRD} {D : CL} (h : LAWR E t (.inr (t', bs, D))) : t + 2 + 4 * bs.length ≤ t' ∧ bs.length ≤ 4 := by
  unfold LAWR at h
  cases hr : wnt E 5 t with
  | inl f =>
    rw [hr] at h
    cases h
  | inr t1 =>
    rw [hr] at h
    rw [wn_1 hr] at h
    have := lw_t 4 (t + 1) _ h t' bs D rfl
    exact ⟨by omega, lw_n 4 (t + 1) _ h t' bs D rfl⟩
theorem sgm_f {v v' : Nat → Nat → Int32} {A A' a : Nat} {l : CL} (e : ∀ k, A ≤ k → k < A' → v' 413 k = v 413 k ∧ v' 414 k = v 414 k) (h : sgm v a l) (h1 : A ≤ a) (h2 : a + l.length ≤ A') : sgm v' a l := by
  intro j hj
  rw [(e (a + j) (by omega) (by omega)).1, (e (a + j) (by omega) (by omega)).2]
  exact h j hj
theorem LB_f {v v' : Nat → Nat → Int32} {A A' R R' : Nat} (e1 : ∀ k, A ≤ k → k < A' → v' 413 k = v 413 k ∧ v' 414 k = v 414 k) (e2 : ∀ k, R ≤ k → k < R' → v' 408 k = v 408 k ∧ v' 409 k = v 409 k ∧ v' 410 k = v 410 k ∧ v' 411 k = v 411 k ∧ v' 412 k = v 412 k) : ∀ (bs : List BRD) (D : CL) (br a : Nat), A ≤ a → a + lbl bs D ≤ A' → R ≤ br → br + bs.length + 1 ≤ R' → LBX v br a bs D → LBX v' br a bs D := by
  intro bs
  induction bs with
  | nil =>
    intro D br a h1 h2 h3 h4 h
    obtain ⟨g1, g2, g3, g4⟩ := h
    have h4 : br + 0 + 1 ≤ R' := h4
    obtain ⟨q1, q2, q3, q4, q5⟩ := e2 br h3 (by omega)
    exact ⟨by rw [q1]; exact g1, by rw [q4]; exact g2, by rw [q5]; exact g3, sgm_f e1 g4 h1 h2⟩
  | cons b bs ih =>
    intro D br a h1 h2 h3 h4 h
    obtain ⟨⟨g1, g2, g3, g4, g5, g6, g7, g8⟩, g9⟩ := h
    rw [List.length_cons] at h4
    have h2 : a + (bl b + lbl bs D) ≤ A' := h2
    have hb : bl b = b.1.length + b.2.1.length + b.2.2.length := rfl
    obtain ⟨q1, q2, q3, q4, q5⟩ := e2 br h3 (by omega)
    exact ⟨⟨by rw [q1]; exact g1, by rw [q2]; exact g2, by rw [q3]; exact g3, by rw [q4]; exact g4, by rw [q5]; exact g5, sgm_f e1 g6 h1 (by omega), sgm_f e1 g7 (by omega) (by omega), sgm_f e1 g8 (by omega) (by omega)⟩, ih D (br + 1) (a + bl b) (by omega) (by omega) (by omega) (by omega) g9⟩
/-- a LAW of the reference at place x: codes within K .. K', branches within J .. J' -/
def LWX (v : Nat → Nat → Int32) (x K K' J J' : Nat) : Option LAWD → Prop
  | none => v 406 x = nI 0 ∧ v 407 x = nI 0
  | some L => ∃ b0 a0, v 406 x = nI b0 ∧ v 407 x = nI (b0 + L.1.length + 1) ∧ LBX v b0 a0 L.1 L.2 ∧ J ≤ b0 ∧ b0 + L.1.length + 1 ≤ J' ∧ K ≤ a0 ∧ a0 + lbl L.1 L.2 ≤ K' ∧ L.1.length ≤ 4
theorem LWX_f {v v' : Nat → Nat → Int32} {x K K' J J' K2 J2 : Nat} {o : Option LAWD} (h : LWX v x K K' J J' o) (e0 : v' 406 x = v 406 x ∧ v' 407 x = v 407 x) (e1 : ∀ k, K ≤ k → k < K' → v' 413 k = v 413 k ∧ v' 414 k = v 414 k) (e2 : ∀ k, J ≤ k → k < J' → v' 408 k = v 408 k ∧ v' 409 k = v 409 k ∧ v' 410 k = v 410 k ∧ v' 411 k = v 411 k ∧ v' 412 k = v 412 k) (hK : K' ≤ K2) (hJ : J' ≤ J2) : LWX v' x K K2 J J2 o := by
  cases o with
  | none => exact ⟨by rw [e0.1]; exact h.1, by rw [e0.2]; exact h.2⟩
  | some L =>
    obtain ⟨b0, a0, h1, h2, h3, h4, h5, h6, h7, h8⟩ := h
    exact ⟨b0, a0, by rw [e0.1]; exact h1, by rw [e0.2]; exact h2, LB_f e1 e2 L.1 L.2 b0 a0 h6 h7 h4 h5 h3, h4, by omega, h6, by omega, h8⟩
/-- the text of one side, but its LAWS -/
def PDX (v : Nat → Nat → Int32) (lv : Nat) (D : DRF) : Prop := v 397 lv = nI D.1 ∧ v 405 lv = nI D.2.1 ∧ v 398 lv = nI D.2.2.1 ∧ D.2.2.1 ≤ 8 ∧ ∀ k, 1 ≤ k → k ≤ 6 → ∀ p, p < D.2.2.1 → v (398 + k) (8 * lv + p) = nI (D.2.2.2.1 k p)
/-- the draft that is read -/
def MDX (sd : Nat) (v : Nat → Nat → Int32) (w : Nat → Nat → Int64) (D : DRF) (t : Nat) : Prop := PDX v sd D ∧ v 388 12 = nI 0 ∧ v 388 19 = nI sd ∧ v 388 20 = nI D.2.2.1 ∧ (∀ i, i < D.2.2.1 → w 396 i = lN (D.2.2.2.1 0 i) ∧ D.2.2.2.1 0 i < 2 ^ 63) ∧ ∃ a br, v 388 39 = nI a ∧ v 388 33 = nI br ∧ 420 * sd ≤ a ∧ a ≤ 420 * sd + t ∧ 130 * sd ≤ br ∧ 4 * br ≤ 4 * (130 * sd) + t ∧ LWX v (2 * sd + 0) (420 * sd) a (130 * sd) br D.2.2.2.2.1 ∧ LWX v (2 * sd + 1) (420 * sd) a (130 * sd) br D.2.2.2.2.2
theorem PDX_w {v v' : Nat → Nat → Int32} {lv : Nat} {D : DRF} (h : PDX v lv D) (e : ∀ c, 397 ≤ c → c ≤ 405 → v' c = v c) : PDX v' lv D := by
  obtain ⟨h1, h2, h3, h4, h5⟩ := h
  refine ⟨by rw [e 397 (by omega) (by omega)]; exact h1, by rw [e 405 (by omega) (by omega)]; exact h2, by rw [e 398 (by omega) (by omega)]; exact h3, h4, fun k k1 k6 p hp => ?_⟩
  rw [e (398 + k) (by omega) (by omega)]
  exact h5 k k1 k6 p hp
theorem MDX_w {sd : Nat} {v v' : Nat → Nat → Int32} {w : Nat → Nat → Int64} {D : DRF} {t t' : Nat} (h : MDX sd v w D t) (e : ∀ c, 397 ≤ c → c ≤ 414 → v' c = v c) (e12 : v' 388 12 = v 388 12) (e19 : v' 388 19 = v 388 19) (e20 : v' 388 20 = v 388 20) (e39 : v' 388 39 = v 388 39) (e33 : v' 388 33 = v 388 33) (ht : t ≤ t') : MDX sd v' w D t' := by
  obtain ⟨h1, h2, h3, h4, h5, a, br, h6, h7, h8, h9, h10, h11, h12, h13⟩ := h
  have f0 : ∀ x, v' 406 x = v 406 x ∧ v' 407 x = v 407 x := fun x => ⟨by rw [e 406 (by omega) (by omega)], by rw [e 407 (by omega) (by omega)]⟩
  have f1 : ∀ k, v' 413 k = v 413 k ∧ v' 414 k = v 414 k := fun x => ⟨by rw [e 413 (by omega) (by omega)], by rw [e 414 (by omega) (by omega)]⟩
  have f2 : ∀ k, v' 408 k = v 408 k ∧ v' 409 k = v 409 k ∧ v' 410 k = v 410 k ∧ v' 411 k = v 411 k ∧ v' 412 k = v 412 k := fun k => ⟨by rw [e 408 (by omega) (by omega)], by rw [e 409 (by omega) (by omega)], by rw [e 410 (by omega) (by omega)], by rw [e 411 (by omega) (by omega)], by rw [e 412 (by omega) (by omega)]⟩
  exact ⟨PDX_w h1 (fun c c1 c2 => e c c1 (by omega)), by rw [e12]; exact h2, by rw [e19]; exact h3, by rw [e20]; exact h4, h5, a, br, by rw [e39]; exact h6, by rw [e33]; exact h7, h8, by omega, h10, by omega, LWX_f h12 (f0 _) (fun k _ _ => f1 k) (fun k _ _ => f2 k) (Nat.le_refl _) (Nat.le_refl _), LWX_f h13 (f0 _) (fun k _ _ => f1 k) (fun k _ _ => f2 k) (Nat.le_refl _) (Nat.le_refl _)⟩
theorem MDX_8 {sd : Nat} {v v' : Nat → Nat → Int32} {w : Nat → Nat → Int64} {D : DRF} {t t' : Nat} (h : MDX sd v w D t) (e : G8 v v') (ht : t ≤ t') : MDX sd v' w D t' := MDX_w h (fun c c1 c2 => e.1 c (by omega)) (e.2 12 (by omega) (by omega) (by omega) (by omega) (by omega)) (e.2 19 (by omega) (by omega) (by omega) (by omega) (by omega)) (e.2 20 (by omega) (by omega) (by omega) (by omega) (by omega)) (e.2 39 (by omega) (by omega) (by omega) (by omega) (by omega)) (e.2 33 (by omega) (by omega) (by omega) (by omega) (by omega)) ht
/-- what reading changes: one side -/
def GS (sd : Nat) (v v' : Nat → Nat → Int32) : Prop := (∀ c, c ≠ 388 → (c < 397 ∨ 415 < c) → v' c = v c) ∧ (∀ k, k ≠ 11 → k ≠ 12 → k ≠ 13 → k ≠ 14 → k ≠ 15 → k ≠ 16 → k ≠ 20 → k ≠ 33 → k ≠ 39 → k ≠ 43 → v' 388 k = v 388 k) ∧ (∀ k, k ≠ sd → v' 397 k = v 397 k ∧ v' 398 k = v 398 k ∧ v' 405 k = v 405 k) ∧ (∀ j, 1 ≤ j → j ≤ 6 → ∀ k, (k < 8 * sd ∨ 8 * sd + 8 ≤ k) → v' (398 + j) k = v (398 + j) k) ∧ (∀ k, k ≠ 2 * sd → k ≠ 2 * sd + 1 → v' 406 k = v 406 k ∧ v' 407 k = v 407 k) ∧ (∀ k, (k < 130 * sd ∨ 130 * sd + 130 ≤ k) → v' 408 k = v 408 k ∧ v' 409 k = v 409 k ∧ v' 410 k = v 410 k ∧ v' 411 k = v 411 k ∧ v' 412 k = v 412 k) ∧ (∀ k, (k < 420 * sd ∨ 420 * sd + 420 ≤ k) → v' 413 k = v 413 k ∧ v' 414 k = v 414 k)
theorem GS_r {sd : Nat} {v : Nat → Nat → Int32} : GS sd v v := ⟨fun _ _ _ => rfl, fun _ _ _ _ _ _ _ _ _ _ _ => rfl, fun _ _ => ⟨rfl, rfl, rfl⟩, fun _ _ _ _ _ => rfl, fun _ _ _ => ⟨rfl, rfl⟩, fun _ _ => ⟨rfl, rfl, rfl, rfl, rfl⟩, fun _ _ => ⟨rfl, rfl⟩⟩
theorem GS_t {sd : Nat} {v v' v'' : Nat → Nat → Int32} (h : GS sd v v') (h' : GS sd v' v'') : GS sd v v'' := ⟨fun c b1 b2 => (h'.1 c b1 b2).trans (h.1 c b1 b2), fun k a0 a1 a2 a3 a4 a5 a6 a7 a8 a9 => (h'.2.1 k a0 a1 a2 a3 a4 a5 a6 a7 a8 a9).trans (h.2.1 k a0 a1 a2 a3 a4 a5 a6 a7 a8 a9), fun k hk => ⟨(h'.2.2.1 k hk).1.trans (h.2.2.1 k hk).1, (h'.2.2.1 k hk).2.1.trans (h.2.2.1 k hk).2.1, (h'.2.2.1 k hk).2.2.trans (h.2.2.1 k hk).2.2⟩, fun j j1 j2 k hk => (h'.2.2.2.1 j j1 j2 k hk).trans (h.2.2.2.1 j j1 j2 k hk), fun k k1 k2 => ⟨(h'.2.2.2.2.1 k k1 k2).1.trans (h.2.2.2.2.1 k k1 k2).1, (h'.2.2.2.2.1 k k1 k2).2.trans (h.2.2.2.2.1 k k1 k2).2⟩, fun k hk => ⟨(h'.2.2.2.2.2.1 k hk).1.trans (h.2.2.2.2.2.1 k hk).1, (h'.2.2.2.2.2.1 k hk).2.1.trans (h.2.2.2.2.2.1 k hk).2.1, (h'.2.2.2.2.2.1 k hk).2.2.1.trans (h.2.2.2.2.2.1 k hk).2.2.1, (h'.2.2.2.2.2.1 k hk).2.2.2.1.trans (h.2.2.2.2.2.1 k hk).2.2.2.1, (h'.2.2.2.2.2.1 k hk).2.2.2.2.trans (h.2.2.2.2.2.1 k hk).2.2.2.2⟩, fun k hk => ⟨(h'.2.2.2.2.2.2 k hk).1.trans (h.2.2.2.2.2.2 k hk).1, (h'.2.2.2.2.2.2 k hk).2.trans (h.2.2.2.2.2.2 k hk).2⟩⟩
theorem GS_8 {sd : Nat} {v v' : Nat → Nat → Int32} (h : G8 v v') : GS sd v v' := ⟨fun c b1 _ => h.1 c b1, fun k a0 a1 a2 a3 a4 a5 a6 a7 a8 a9 => h.2 k a0 a2 a3 a4 a5, fun k _ => ⟨by rw [h.1 397 (by omega)], by rw [h.1 398 (by omega)], by rw [h.1 405 (by omega)]⟩, fun j j1 j2 k _ => by rw [h.1 (398 + j) (by omega)], fun k _ _ => ⟨by rw [h.1 406 (by omega)], by rw [h.1 407 (by omega)]⟩, fun k _ => ⟨by rw [h.1 408 (by omega)], by rw [h.1 409 (by omega)], by rw [h.1 410 (by omega)], by rw [h.1 411 (by omega)], by rw [h.1 412 (by omega)]⟩, fun k _ => ⟨by rw [h.1 413 (by omega)], by rw [h.1 414 (by omega)]⟩⟩
theorem GS_L {sd kk B br : Nat} {v v' : Nat → Nat → Int32} (h : GL (420 * sd) (130 * sd) B br (2 * sd + kk) v v') (hk : kk < 2) (hB : 420 * sd ≤ B) (hbr : 130 * sd ≤ br) : GS sd v v' := ⟨fun c b1 b2 => h.1 c b1 (by omega), fun k a0 a1 a2 a3 a4 a5 a6 a7 a8 a9 => h.2.1 k a0 a2 a3 a4 a5 a8 a9 a1 a7, fun k _ => ⟨by rw [h.1 397 (by omega) (by omega)], by rw [h.1 398 (by omega) (by omega)], by rw [h.1 405 (by omega) (by omega)]⟩, fun j j1 j2 k _ => by rw [h.1 (398 + j) (by omega) (by omega)], fun k k1 k2 => h.2.2.2.2 k (by omega), fun k hk => h.2.2.2.1 k (by omega), fun k hk => h.2.2.1 k (by omega)⟩
theorem GS_u {sd c0 k0 : Nat} {v : Nat → Nat → Int32} {x : Int32} (h : (c0 = 388 ∧ k0 = 20) ∨ ((c0 = 397 ∨ c0 = 398 ∨ c0 = 405) ∧ k0 = sd) ∨ (399 ≤ c0 ∧ c0 ≤ 404 ∧ 8 * sd ≤ k0 ∧ k0 < 8 * sd + 8) ∨ ((c0 = 406 ∨ c0 = 407) ∧ (k0 = 2 * sd ∨ k0 = 2 * sd + 1))) : GS sd v (am_u v c0 k0 x) := by
  have at' : ∀ c k, (c ≠ c0 ∨ k ≠ k0) → am_u v c0 k0 x c k = v c k := by
    intro c k z
    by_cases e : c = c0
    · subst e
      rw [am_u_at, upd_ne (by omega)]
    · rw [am_u_ne e]
  refine ⟨fun c b1 b2 => am_u_ne (by omega), fun k a0 a1 a2 a3 a4 a5 a6 a7 a8 a9 => at' _ _ (by omega), fun k hk => ⟨at' _ _ (by omega), at' _ _ (by omega), at' _ _ (by omega)⟩, fun j j1 j2 k hk => at' _ _ (by omega), fun k k1 k2 => ⟨at' _ _ (by omega), at' _ _ (by omega)⟩, fun k hk => ⟨at' _ _ (by omega), at' _ _ (by omega), at' _ _ (by omega), at' _ _ (by omega), at' _ _ (by omega)⟩, fun k hk => ⟨at' _ _ (by omega), at' _ _ (by omega)⟩⟩
theorem ME_S {E : ENV} {sd : Nat} {v v' : Nat → Nat → Int32} {w w' : Nat → Nat → Int64} (h : ME E v w) (e : GS sd v v') (ew : ∀ c, c ≠ 396 → w' c = w c) : ME E v' w' := by
  have h2 : ME E v' w := ME_w h (e.1 391 (by omega) (by omega)) (e.1 392 (by omega) (by omega)) (e.1 393 (by omega) (by omega))
  unfold ME MT at *
  rw [ew 394 (by omega)]
  exact h2
