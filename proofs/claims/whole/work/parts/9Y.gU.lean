/-! laid by wip/whole/gU.py: what a read text is, by itself -/
theorem tf1 : ¬ false = true := fun z => Bool.noConfusion z
theorem ops_n : ∀ W : List Nat, opsN W + opn W = W.length := by
  intro W
  induction W with
  | nil => rfl
  | cons x W ih =>
    show (if x = 6 then 0 else 1) + opsN W + ((if x = 6 then 1 else 0) + opn W) = W.length + 1
    split <;> omega
theorem opc_25 (x : Nat) : 2 ≤ opc x ∧ opc x ≤ 5 := by
  unfold opc
  split
  · omega
  · split
    · omega
    · split <;> omega
theorem WL_op {m x h : Nat} {C : CL} (hw : WL m C 0 (h + 2)) : WL m (C ++ [(opc x, nI 0)]) 0 (h + 1) := by
  refine WL_app C _ 0 (h + 2) (h + 1) hw ?_
  exact Or.inr (Or.inr ⟨(opc_25 x).1, (opc_25 x).2, by omega, by show h + 2 - 1 = h + 1; omega⟩)
theorem pf_wl {m : Nat} : ∀ (W : List Nat) (C : CL), WL m C 0 (opsN W + 1) → WL m (popF W C).2 0 (opsN (popF W C).1 + 1) := by
  intro W
  induction W with
  | nil => intro C h; exact h
  | cons x W ih =>
    intro C h
    by_cases e : x = 6
    · rw [show popF (x :: W) C = (x :: W, C) from if_pos e]
      exact h
    · rw [pop_x e]
      refine ih _ (WL_op ?_)
      have h : WL m C 0 ((if x = 6 then 0 else 1) + opsN W + 1) := h
      rw [if_neg e, show 1 + opsN W + 1 = opsN W + 2 by omega] at h
      exact h
theorem ps_wl {m : Nat} : ∀ (W : List Nat) (C : CL), WL m C 0 (opsN W + 1) → WL m (popS W C).2 0 (opsN (popS W C).1 + 1) := by
  intro W
  induction W with
  | nil => intro C h; exact h
  | cons x W ih =>
    intro C h
    by_cases e : x = 6 ∨ x = 8 ∨ x = 9
    · rw [show popS (x :: W) C = (x :: W, C) from if_pos e]
      exact h
    · rw [pops_x (by omega)]
      refine ih _ (WL_op ?_)
      have h : WL m C 0 ((if x = 6 then 0 else 1) + opsN W + 1) := h
      rw [if_neg (by omega), show 1 + opsN W + 1 = opsN W + 2 by omega] at h
      exact h
theorem x_wl {E : ENV} (hE : EV E) : ∀ (n : Nat) (b : Bool) (t : Nat) (W : List Nat) (C : CL) (t' : Nat) (C' : CL), xrun E n (b, t, W, C) = some (.inr (t', C')) → wfW W → opn W ≤ 6 → WL 20 C 0 (opsN W + (if b = true then 1 else 0)) → WL 20 C' 0 1 := by
  intro n
  induction n with
  | zero => intro b t W C t' C' h; cases h
  | succ n ih =>
    intro b t W C t' C' h wf ho hw
    have h : (match stX E (b, t, W, C) with
      | .inr r => some r
      | .inl s' => xrun E n s') = some (.inr (t', C')) := h
    have h20 : opsN W < 20 := by
      have := (wf_len W wf).1
      have := ops_n W
      omega
    cases b with
    | false =>
      rw [if_neg tf1] at hw
      have hw : WL 20 C 0 (opsN W) := hw
      unfold stX at h
      rw [if_pos rfl] at h
      dsimp only at h
      by_cases h6 : eK E t = 6
      · rw [if_pos h6] at h
        by_cases ho6 : 6 ≤ opn W
        · rw [if_pos ho6] at h; cases h
        · rw [if_neg ho6] at h
          by_cases ht : t < 400
          · rw [if_pos ht] at h
            refine ih _ _ _ _ _ _ h ⟨Or.inl rfl, wf⟩ (by rw [opn_6]; omega) ?_
            rw [if_neg tf1]
            show WL 20 C 0 (0 + opsN W)
            rw [Nat.zero_add]
            exact hw
          · rw [if_neg ht] at h; cases h
      · rw [if_neg h6] at h
        by_cases h2 : eK E t = 2
        · rw [if_pos h2] at h
          by_cases ht : t < 400
          · rw [if_pos ht] at h
            refine ih _ _ _ _ _ _ h wf ho ?_
            rw [if_pos rfl]
            exact WL_app C _ 0 (opsN W) (opsN W + 1) hw (Or.inl ⟨rfl, h20, rfl⟩)
          · rw [if_neg ht] at h; cases h
        · rw [if_neg h2] at h
          by_cases h29 : 29 ≤ eK E t
          · rw [if_pos h29] at h
            by_cases ht : t < 400
            · rw [if_pos ht] at h
              refine ih _ _ _ _ _ _ h wf ho ?_
              rw [if_pos rfl]
              refine WL_app C _ 0 (opsN W) (opsN W + 1) hw (Or.inr (Or.inl ⟨rfl, ⟨eK E t - 29, ?_, rfl⟩, h20, rfl⟩))
              have := (hE.2.2.2.1 t).1
              omega
            · rw [if_neg ht] at h; cases h
          · rw [if_neg h29] at h; cases h
    | true =>
      rw [if_pos rfl] at hw
      obtain ⟨f1, f2, f3, _⟩ := pf_wf W C wf
      obtain ⟨g1, g2, g3, _⟩ := ps_wf W C wf
      have fw := pf_wl W C hw
      have gw := ps_wl W C hw
      unfold stX at h
      rw [if_neg tf0] at h
      dsimp only at h
      by_cases h7 : eK E t = 7 ∧ 0 < opn W
      · rw [if_pos h7] at h
        by_cases ht : t < 400
        · rw [if_pos ht] at h
          rcases f2 with e | ⟨W2, e⟩
          · rw [e] at f3
            have f3 : 0 = opn W := f3
            omega
          · rw [e] at h f1 f3 fw
            have h : xrun E n (true, t + 1, W2, (popF W C).2) = some (.inr (t', C')) := h
            rw [opn_6] at f3
            refine ih _ _ _ _ _ _ h f1.2 (by omega) ?_
            rw [if_pos rfl]
            have fw : WL 20 (popF W C).2 0 (0 + opsN W2 + 1) := fw
            rw [Nat.zero_add] at fw
            exact fw
        · rw [if_neg ht] at h; cases h
      · rw [if_neg h7] at h
        by_cases h8 : eK E t = 8 ∨ eK E t = 9
        · rw [if_pos h8] at h
          by_cases ht : t < 400
          · rw [if_pos ht] at h
            refine ih _ _ _ _ _ _ h ⟨Or.inr (Or.inl ⟨h8, f2⟩), f1⟩ (by rw [opn_x (by omega), f3]; exact ho) ?_
            rw [if_neg tf1]
            show WL 20 (popF W C).2 0 ((if eK E t = 6 then 0 else 1) + opsN (popF W C).1)
            rw [if_neg (by omega), Nat.add_comm]
            exact fw
          · rw [if_neg ht] at h; cases h
        · rw [if_neg h8] at h
          by_cases h10 : eK E t = 10 ∨ eK E t = 15
          · rw [if_pos h10] at h
            by_cases ht : t < 400
            · rw [if_pos ht] at h
              refine ih _ _ _ _ _ _ h ⟨Or.inr (Or.inr ⟨h10, g2⟩), g1⟩ (by rw [opn_x (by omega), g3]; exact ho) ?_
              rw [if_neg tf1]
              show WL 20 (popS W C).2 0 ((if eK E t = 6 then 0 else 1) + opsN (popS W C).1)
              rw [if_neg (by omega), Nat.add_comm]
              exact gw
            · rw [if_neg ht] at h; cases h
          · rw [if_neg h10] at h
            by_cases hz : 0 < opn W
            · rw [if_pos hz] at h; cases h
            · rw [if_neg hz] at h
              have h : some (Sum.inr (t, (popF W C).2) : RXr) = some (.inr (t', C')) := h
              cases h
              rcases f2 with e | ⟨W2, e⟩
              · rw [e] at fw
                exact fw
              · rw [e, opn_6] at f3
                omega
theorem X_wl {E : ENV} (hE : EV E) {t t' : Nat} {C : CL} (h : XX E (false, t, [], []) (.inr (t', C))) : WL 20 C 0 1 := by
  obtain ⟨n, hn⟩ := h
  exact x_wl hE n _ _ _ _ _ _ hn trivial (by show 0 ≤ 6; omega) rfl
theorem lw_wl {E : ENV} (hE : EV E) : ∀ (n t : Nat) (R : RL), LWR E n t R → ∀ t' bs D, R = .inr (t', bs, D) → WLB bs D := by
  have nil' : ∀ {C : CL}, WL 20 C 0 1 → WLB [] C := fun h => ⟨fun b hb => absurd hb (List.not_mem_nil), h⟩
  intro n
  induction n with
  | zero =>
    intro t R h t' bs D e
    unfold LWR at h
    split at h
    · rw [h] at e; cases e
    · rcases h with ⟨f, _, h⟩ | ⟨t2, C, hx, h⟩
      · rw [h] at e; cases e
      · rw [h] at e; cases e; exact nil' (X_wl hE hx)
  | succ n ih =>
    intro t R h t' bs D e
    unfold LWR at h
    split at h
    · have bTx : ∀ {r : RT} {k : Nat → Prop}, bT r k (fun f => R = .inl f) → ∃ t, k t := by
        intro r k hb
        cases r with
        | inl f =>
          have hb : R = .inl f := hb
          rw [hb] at e
          cases e
        | inr t => exact ⟨t, hb⟩
      have bXx : ∀ {t : Nat} {k : Nat → CL → Prop}, bX E t k (fun f => R = .inl f) → ∃ t' C, WL 20 C 0 1 ∧ k t' C := by
        intro t k hb
        rcases hb with ⟨f, _, hb⟩ | ⟨t2, C, hx, hb⟩
        · rw [hb] at e
          cases e
        · exact ⟨t2, C, X_wl hE hx, hb⟩
      unfold BR1 at h
      obtain ⟨_, h⟩ := bTx h
      obtain ⟨_, A1, g1, h⟩ := bXx h
      obtain ⟨_, h⟩ := bTx h
      obtain ⟨_, A2, g2, h⟩ := bXx h
      obtain ⟨_, h⟩ := bTx h
      obtain ⟨_, A3, g3, h⟩ := bXx h
      obtain ⟨_, h⟩ := bTx h
      obtain ⟨R', h1, h2⟩ := h
      cases R' with
      | inl f =>
        rw [h2] at e
        cases e
      | inr x =>
        obtain ⟨t3, bs3, D3⟩ := x
        rw [h2] at e
        have h3 := ih _ _ h1 t3 bs3 D3 rfl
        cases e
        refine ⟨fun b hb => ?_, h3.2⟩
        rcases List.mem_cons.mp hb with rfl | hb
        · exact ⟨g1, g2, g3⟩
        · exact h3.1 b hb
    · rcases h with ⟨f, _, h⟩ | ⟨t2, C, hx, h⟩
      · rw [h] at e; cases e
      · rw [h] at e; cases e; exact nil' (X_wl hE hx)
theorem law_wl {E : ENV} (hE : EV E) {t t' : Nat} {bs : List BRD} {D : CL} (h : LAWR E t (.inr (t', bs, D))) : WLB bs D := by
  unfold LAWR at h
  cases hr : wnt E 5 t with
  | inl f =>
    rw [hr] at h
    cases h
  | inr t1 =>
    rw [hr] at h
    exact lw_wl hE 4 t1 _ h t' bs D rfl
/-- a text's LAWS are well made -/
def LOK : Option LAWD → Prop
  | none => True
  | some L => WLB L.1 L.2
/-- what the pilgrim's numbers are when nothing came late -/
def R0 (D : DRF) : Prop := (1 ≤ D.1 ∧ D.1 ≤ 99) ∧ D.2.1 ≤ 99 ∧ D.2.2.1 ≤ 8 ∧ ∀ p, p < D.2.2.1 → D.2.2.2.1 1 p ≤ 99 ∧ D.2.2.2.1 2 p ≤ 4 ∧ D.2.2.2.1 3 p ≤ 9 ∧ (1 ≤ D.2.2.2.1 4 p ∧ D.2.2.2.1 4 p ≤ 99) ∧ D.2.2.2.1 5 p ≤ 99 ∧ D.2.2.2.1 6 p ≤ 1
theorem num_0 {E : ENV} {lo hi t' : Nat} {s : SG} (h : (numS E lo hi s).1 = .inr t') (h0 : (numS E lo hi s).2.1 = 0) : s.2.1 = 0 ∧ lo ≤ numV E lo s ∧ numV E lo s ≤ hi := by
  obtain ⟨r, l, p⟩ := s
  cases r with
  | inl f => cases h
  | inr t =>
    unfold numS numV at *
    dsimp only at *
    by_cases hk : eK E t = 2
    · rw [if_pos hk] at h0
      rw [if_pos hk]
      unfold takeS lateS at h0
      dsimp only at h0
      by_cases hr : eV E t < lo ∨ hi < eV E t
      · rw [if_pos hr] at h0
        split at h0
        · cases h0
        · rename_i hl
          exact absurd h0 hl
      · rw [if_neg hr] at h0
        exact ⟨h0, by omega, by omega⟩
    · rw [if_neg hk] at h
      cases h
theorem name_0 {E : ENV} {told : Nat → Bool} {s : SG} (h0 : (nameS E told s).2.1 = 0) : s.2.1 = 0 := by
  obtain ⟨r, l, p⟩ := s
  cases r with
  | inl f => exact h0
  | inr t =>
    unfold nameS at h0
    dsimp only at h0
    split at h0
    · split at h0
      · unfold takeS lateS at h0
        dsimp only at h0
        split at h0
        · cases h0
        · exact h0
      · exact h0
    · exact h0
theorem pl_z {E : ENV} {nm : Nat → Nat} {n t' : Nat} {s : SG} (h : (pl8 E nm n s).1 = .inr t') (h0 : (pl8 E nm n s).2.1 = 0) : s.2.1 = 0 ∧ plF E nm n s 1 ≤ 99 ∧ plF E nm n s 2 ≤ 4 ∧ plF E nm n s 3 ≤ 9 ∧ (1 ≤ plF E nm n s 4 ∧ plF E nm n s 4 ≤ 99) ∧ plF E nm n s 5 ≤ 99 := by
  have h7 : ∃ t7, (pl7 E nm n s).1 = .inr t7 ∧ (pl7 E nm n s).2.1 = 0 := by
    unfold pl8 at h h0
    split at h
    · rename_i hk
      rw [if_pos hk] at h0
      obtain ⟨t7, h7, _⟩ := mo_take h
      exact ⟨t7, h7, h0⟩
    · rename_i hk
      rw [if_neg hk] at h0
      exact ⟨t', h, h0⟩
  obtain ⟨t7, h7, z7⟩ := h7
  obtain ⟨t6, h6, _⟩ := mo_num h7
  obtain ⟨t5, h5, _⟩ := mo_num h6
  obtain ⟨t4, h4, _⟩ := mo_num h5
  obtain ⟨t3, h3, _⟩ := mo_num h4
  obtain ⟨z6, a5, b5⟩ := num_0 h7 z7
  obtain ⟨z5, a4, b4⟩ := num_0 h6 z6
  obtain ⟨z4, a3, b3⟩ := num_0 h5 z5
  obtain ⟨z3, a2, b2⟩ := num_0 h4 z4
  obtain ⟨z2, a1, b1⟩ := num_0 h3 z3
  exact ⟨name_0 (s := pl1 E s) z2, b1, b2, b3, ⟨a4, b4⟩, b5⟩
/-- one TELL -/
theorem tl_0 {E : ENV} (hE : EV E) {t l p t' : Nat} {D D' : DRF} {s' : SG} (h : TLR E t l p D s' D') (hr : s'.1 = .inr t') : (LOK D.2.2.2.2.1 → LOK D.2.2.2.2.2 → LOK D'.2.2.2.2.1 ∧ LOK D'.2.2.2.2.2) ∧ (s'.2.1 = 0 → l = 0 ∧ (R0 D → R0 D')) := by
  have law : ∀ {k : LAWD → Prop}, LTL E t l p s' k → ∃ x, WLB x.1 x.2 ∧ k x ∧ (s'.2.1 = 0 → l = 0) := by
    intro k hx
    rcases hx with ⟨f, _, rfl⟩ | ⟨_, ⟨f, _, rfl⟩ | ⟨t2, bs, C, hR, rfl, hk⟩⟩
    · cases hr
    · cases hr
    · exact ⟨(bs, C), law_wl hE hR, hk, fun z => z⟩
  rcases h with ⟨hK, rfl, rfl⟩ | ⟨hK, h8, rfl⟩ | ⟨hK, h8, rfl, rfl⟩ | ⟨hK, hx⟩ | ⟨hK, hx⟩ | ⟨hK, rfl, rfl⟩ | ⟨h20, h21, h22, h23, h24, rfl⟩
  · refine ⟨fun a b => ⟨a, b⟩, fun z => ?_⟩
    obtain ⟨t1, h1, _⟩ := mo_want hr
    obtain ⟨z1, a1, b1⟩ := num_0 h1 z
    exact ⟨z1, fun g => ⟨⟨a1, b1⟩, g.2⟩⟩
  · cases hr
  · refine ⟨fun a b => ⟨a, b⟩, fun z => ?_⟩
    obtain ⟨t1, h1, _⟩ := mo_want hr
    obtain ⟨z1, b1, b2, b3, b4, b5⟩ := pl_z h1 z
    refine ⟨z1, fun g => ⟨g.1, g.2.1, by show D.2.2.1 + 1 ≤ 8; omega, fun q hq => ?_⟩⟩
    have hq : q < D.2.2.1 + 1 := hq
    dsimp only
    unfold updR
    by_cases e : q = D.2.2.1
    · simp only [if_pos e]
      refine ⟨b1, b2, b3, b4, b5, ?_⟩
      unfold plF
      rw [if_neg (by omega), if_neg (by omega), if_neg (by omega), if_neg (by omega), if_neg (by omega), if_neg (by omega)]
      split <;> omega
    · simp only [if_neg e]
      exact g.2.2.2 q (by omega)
  · obtain ⟨x, w, rfl, z⟩ := law hx
    exact ⟨fun a b => ⟨w, b⟩, fun y => ⟨z y, fun g => g⟩⟩
  · obtain ⟨x, w, rfl, z⟩ := law hx
    exact ⟨fun a b => ⟨a, w⟩, fun y => ⟨z y, fun g => g⟩⟩
  · refine ⟨fun a b => ⟨a, b⟩, fun z => ?_⟩
    obtain ⟨t1, h1, _⟩ := mo_want hr
    obtain ⟨z1, a1, b1⟩ := num_0 h1 z
    exact ⟨z1, fun g => ⟨g.1, b1, g.2.2⟩⟩
  · cases hr
theorem fn_0 {E : ENV} (hE : EV E) : ∀ (n t l p : Nat) (D : DRF) (l' p' : Nat) (D' : DRF), FINn E n t l p D (.inr (l', p', D')) → (LOK D.2.2.2.2.1 → LOK D.2.2.2.2.2 → LOK D'.2.2.2.2.1 ∧ LOK D'.2.2.2.2.2) ∧ (l' = 0 → l = 0 ∧ (R0 D → R0 D')) := by
  intro n
  induction n with
  | zero => intro t l p D l' p' D' h; cases h
  | succ n ih =>
    intro t l p D l' p' D' h
    unfold FINn at h
    split at h
    · cases h
      exact ⟨fun a b => ⟨a, b⟩, fun z => ⟨z, fun g => g⟩⟩
    · obtain ⟨s', D2, hT, h⟩ := h
      rcases h with ⟨f, _, h⟩ | ⟨t2, hr, h⟩
      · cases h
      · obtain ⟨a1, a2⟩ := tl_0 hE hT hr
        obtain ⟨b1, b2⟩ := ih _ _ _ _ _ _ _ h
        refine ⟨fun x y => b1 (a1 x y).1 (a1 x y).2, fun z => ?_⟩
        obtain ⟨z1, g1⟩ := b2 z
        obtain ⟨z2, g2⟩ := a2 z1
        exact ⟨z2, fun g => g1 (g2 g)⟩
theorem fin_0 {E : ENV} (hE : EV E) {l' p' : Nat} {D' : DRF} (h : FIN E 0 0 0 D0 (.inr (l', p', D'))) : LOK D'.2.2.2.2.1 ∧ LOK D'.2.2.2.2.2 ∧ (l' = 0 → R0 D') := by
  obtain ⟨n, h⟩ := h
  obtain ⟨a, b⟩ := fn_0 hE n _ _ _ _ _ _ _ h
  obtain ⟨a1, a2⟩ := a trivial trivial
  refine ⟨a1, a2, fun z => (b z).2 ?_⟩
  refine ⟨⟨by show 1 ≤ 20; omega, by show 20 ≤ 99; omega⟩, by show 0 ≤ 99; omega, by show 0 ≤ 8; omega, fun p hp => absurd hp (Nat.not_lt_zero _)⟩
