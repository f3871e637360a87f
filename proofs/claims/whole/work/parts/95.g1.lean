/-! laid by wip/whole/g1.py: the grammar, by itself -/
/-- TOKENS: kinds, places, numbers, names, the last that is looked at -/
def ENV : Type := (Nat → Nat) × (Nat → Nat) × (Nat → Nat) × (Nat → Nat) × Nat
def eK (E : ENV) : Nat → Nat := E.1
def eP (E : ENV) : Nat → Nat := E.2.1
def eV (E : ENV) : Nat → Nat := E.2.2.1
def eM (E : ENV) : Nat → Nat := E.2.2.2.1
def eL (E : ENV) : Nat := E.2.2.2.2
def EV (E : ENV) : Prop := eL E ≤ 400 ∧ (∀ j, j < eL E → eK E j ≠ 0 ∧ eK E j ≠ 3) ∧ (eL E = 400 ∨ eK E (eL E) = 0 ∨ eK E (eL E) = 3) ∧ (∀ j, eK E j < 37 ∧ okK (eK E j) = true) ∧ (∀ j, j ≤ eL E → eP E j ≤ 2000 ∧ (eK E j = 2 → eV E j ≤ 9999) ∧ (eK E j = 1 → eM E j < 2 ^ 63)) ∧ ∀ i j, i < j → j ≤ eL E → eP E i < eP E j
/-- behind a TOKEN that may be taken there is one more that may be looked at -/
theorem ev_s {E : ENV} (h : EV E) {t : Nat} (ht : t ≤ eL E) (h0 : eK E t ≠ 0) (h3 : eK E t ≠ 3) (h4 : t < 400) : t + 1 ≤ eL E := by
  rcases h.2.2.1 with h | h | h
  · omega
  · by_cases e : t = eL E
    · rw [e] at h0; exact absurd h h0
    · omega
  · by_cases e : t = eL E
    · rw [e] at h3; exact absurd h h3
    · omega
abbrev CL : Type := List (Nat × Int32)
abbrev RXr : Type := (Nat × Nat) ⊕ (Nat × CL)
abbrev XS : Type := Bool × Nat × List Nat × CL
def opc (k : Nat) : Nat := if k = 8 then 2 else if k = 9 then 3 else if k = 10 then 4 else 5
def popF : List Nat → CL → List Nat × CL
  | [], C => ([], C)
  | x :: W, C => if x = 6 then (x :: W, C) else popF W (C ++ [(opc x, nI 0)])
def popS : List Nat → CL → List Nat × CL
  | [], C => ([], C)
  | x :: W, C => if x = 6 ∨ x = 8 ∨ x = 9 then (x :: W, C) else popS W (C ++ [(opc x, nI 0)])
def opn : List Nat → Nat
  | [] => 0
  | x :: W => (if x = 6 then 1 else 0) + opn W
/-- one step of an E with what waits -/
def stX (E : ENV) (s : XS) : XS ⊕ RXr :=
  if s.1 = false then
    (if eK E s.2.1 = 6 then (if 6 ≤ opn s.2.2.1 then .inr (.inl (2, eP E s.2.1)) else if s.2.1 < 400 then .inl (false, s.2.1 + 1, 6 :: s.2.2.1, s.2.2.2) else .inr (.inl (2, eP E s.2.1)))
     else if eK E s.2.1 = 2 then (if s.2.1 < 400 then .inl (true, s.2.1 + 1, s.2.2.1, s.2.2.2 ++ [(0, nI (eV E s.2.1))]) else .inr (.inl (2, eP E s.2.1)))
     else if 29 ≤ eK E s.2.1 then (if s.2.1 < 400 then .inl (true, s.2.1 + 1, s.2.2.1, s.2.2.2 ++ [(1, nI (eK E s.2.1 - 29))]) else .inr (.inl (2, eP E s.2.1)))
     else .inr (.inl (1, eP E s.2.1)))
  else
    (if eK E s.2.1 = 7 ∧ 0 < opn s.2.2.1 then (if s.2.1 < 400 then .inl (true, s.2.1 + 1, (popF s.2.2.1 s.2.2.2).1.tail, (popF s.2.2.1 s.2.2.2).2) else .inr (.inl (2, eP E s.2.1)))
     else if eK E s.2.1 = 8 ∨ eK E s.2.1 = 9 then (if s.2.1 < 400 then .inl (false, s.2.1 + 1, eK E s.2.1 :: (popF s.2.2.1 s.2.2.2).1, (popF s.2.2.1 s.2.2.2).2) else .inr (.inl (2, eP E s.2.1)))
     else if eK E s.2.1 = 10 ∨ eK E s.2.1 = 15 then (if s.2.1 < 400 then .inl (false, s.2.1 + 1, eK E s.2.1 :: (popS s.2.2.1 s.2.2.2).1, (popS s.2.2.1 s.2.2.2).2) else .inr (.inl (2, eP E s.2.1)))
     else if 0 < opn s.2.2.1 then .inr (.inl (1, eP E s.2.1)) else .inr (.inr (s.2.1, (popF s.2.2.1 s.2.2.2).2)))
def xrun (E : ENV) : Nat → XS → Option RXr
  | 0, _ => none
  | n + 1, s => match stX E s with
    | .inr r => some r
    | .inl s' => xrun E n s'
/-- from a state an E comes out so -/
def XX (E : ENV) (s : XS) (R : RXr) : Prop := ∃ n, xrun E n s = some R
theorem X_s {E : ENV} {s s' : XS} {R : RXr} (h : stX E s = .inl s') (h2 : XX E s' R) : XX E s R := by
  obtain ⟨n, hn⟩ := h2
  refine ⟨n + 1, ?_⟩
  show (match stX E s with
    | .inr r => some r
    | .inl s' => xrun E n s') = some R
  rw [h]
  exact hn
theorem X_d {E : ENV} {s : XS} {R : RXr} (h : stX E s = .inr R) : XX E s R := by
  refine ⟨1, ?_⟩
  show (match stX E s with
    | .inr r => some r
    | .inl s' => xrun E 0 s') = some R
  rw [h]
theorem X_e {E : ENV} {s s' : XS} {R : RXr} (h : stX E s = stX E s') (h2 : XX E s' R) : XX E s R := by
  obtain ⟨n, hn⟩ := h2
  cases n with
  | zero => cases hn
  | succ n =>
    refine ⟨n + 1, ?_⟩
    show (match stX E s with
      | .inr r => some r
      | .inl s' => xrun E n s') = some R
    rw [h]
    exact hn
section
variable {E : ENV} {t x : Nat} {W : List Nat} {C : CL}
theorem tfT : ¬ ((true, t, W, C) : XS).1 = false := fun z => Bool.noConfusion z
theorem tf0 : ¬ true = false := fun z => Bool.noConfusion z
theorem st_open (h : eK E t = 6) (ho : opn W < 6) (ht : t < 400) : stX E (false, t, W, C) = .inl (false, t + 1, 6 :: W, C) := by
  unfold stX
  rw [if_pos rfl, if_pos h, if_neg (show ¬ 6 ≤ opn W by omega), if_pos ht]
theorem st_open6 (h : eK E t = 6) (ho : 6 ≤ opn W) : stX E (false, t, W, C) = .inr (.inl (2, eP E t)) := by
  unfold stX
  rw [if_pos rfl, if_pos h, if_pos ho]
theorem st_open4 (h : eK E t = 6) (ht : ¬ t < 400) : stX E (false, t, W, C) = .inr (.inl (2, eP E t)) := by
  unfold stX
  by_cases ho : 6 ≤ opn W
  · rw [if_pos rfl, if_pos h, if_pos ho]
  · rw [if_pos rfl, if_pos h, if_neg ho, if_neg ht]
theorem st_int (h : eK E t = 2) (ht : t < 400) : stX E (false, t, W, C) = .inl (true, t + 1, W, C ++ [(0, nI (eV E t))]) := by
  unfold stX
  rw [if_pos rfl, if_neg (by dsimp only; omega), if_pos h, if_pos ht]
theorem st_int4 (h : eK E t = 2) (ht : ¬ t < 400) : stX E (false, t, W, C) = .inr (.inl (2, eP E t)) := by
  unfold stX
  rw [if_pos rfl, if_neg (by dsimp only; omega), if_pos h, if_neg ht]
theorem st_var (h : 29 ≤ eK E t) (ht : t < 400) : stX E (false, t, W, C) = .inl (true, t + 1, W, C ++ [(1, nI (eK E t - 29))]) := by
  unfold stX
  rw [if_pos rfl, if_neg (by dsimp only; omega), if_neg (by dsimp only; omega), if_pos h, if_pos ht]
theorem st_var4 (h : 29 ≤ eK E t) (ht : ¬ t < 400) : stX E (false, t, W, C) = .inr (.inl (2, eP E t)) := by
  unfold stX
  rw [if_pos rfl, if_neg (by dsimp only; omega), if_neg (by dsimp only; omega), if_pos h, if_neg ht]
theorem st_no (h6 : eK E t ≠ 6) (h2 : eK E t ≠ 2) (h : eK E t < 29) : stX E (false, t, W, C) = .inr (.inl (1, eP E t)) := by
  unfold stX
  rw [if_pos rfl, if_neg h6, if_neg h2, if_neg (by dsimp only; omega)]
theorem st_close (h : eK E t = 7) (ho : 0 < opn W) (ht : t < 400) : stX E (true, t, W, C) = .inl (true, t + 1, (popF W C).1.tail, (popF W C).2) := by
  unfold stX
  rw [if_neg tfT, if_pos ⟨h, ho⟩, if_pos ht]
theorem st_close4 (h : eK E t = 7) (ho : 0 < opn W) (ht : ¬ t < 400) : stX E (true, t, W, C) = .inr (.inl (2, eP E t)) := by
  unfold stX
  rw [if_neg tfT, if_pos ⟨h, ho⟩, if_neg ht]
theorem st_pm (h : eK E t = 8 ∨ eK E t = 9) (ht : t < 400) : stX E (true, t, W, C) = .inl (false, t + 1, eK E t :: (popF W C).1, (popF W C).2) := by
  unfold stX
  rw [if_neg tfT, if_neg (by dsimp only; omega), if_pos h, if_pos ht]
theorem st_pm4 (h : eK E t = 8 ∨ eK E t = 9) (ht : ¬ t < 400) : stX E (true, t, W, C) = .inr (.inl (2, eP E t)) := by
  unfold stX
  rw [if_neg tfT, if_neg (by dsimp only; omega), if_pos h, if_neg ht]
theorem st_md (h : eK E t = 10 ∨ eK E t = 15) (ht : t < 400) : stX E (true, t, W, C) = .inl (false, t + 1, eK E t :: (popS W C).1, (popS W C).2) := by
  unfold stX
  rw [if_neg tfT, if_neg (by dsimp only; omega), if_neg (by dsimp only; omega), if_pos h, if_pos ht]
theorem st_md4 (h : eK E t = 10 ∨ eK E t = 15) (ht : ¬ t < 400) : stX E (true, t, W, C) = .inr (.inl (2, eP E t)) := by
  unfold stX
  rw [if_neg tfT, if_neg (by dsimp only; omega), if_neg (by dsimp only; omega), if_pos h, if_neg ht]
def opK (k : Nat) : Prop := k = 8 ∨ k = 9 ∨ k = 10 ∨ k = 15
theorem st_un (h : ¬ opK (eK E t)) (h7 : eK E t ≠ 7) (ho : 0 < opn W) : stX E (true, t, W, C) = .inr (.inl (1, eP E t)) := by
  unfold opK at h
  unfold stX
  rw [if_neg tfT, if_neg (by dsimp only; omega), if_neg (by dsimp only; omega), if_neg (by dsimp only; omega), if_pos ho]
theorem st_end (h : ¬ opK (eK E t)) (ho : ¬ 0 < opn W) : stX E (true, t, W, C) = .inr (.inr (t, (popF W C).2)) := by
  unfold opK at h
  unfold stX
  rw [if_neg tfT, if_neg (by dsimp only; omega), if_neg (by dsimp only; omega), if_neg (by dsimp only; omega), if_neg ho]
theorem pop_x (h : x ≠ 6) : popF (x :: W) C = popF W (C ++ [(opc x, nI 0)]) := if_neg h
theorem pops_x (h : x ≠ 6 ∧ x ≠ 8 ∧ x ≠ 9) : popS (x :: W) C = popS W (C ++ [(opc x, nI 0)]) := if_neg (by omega)
theorem opn_x (h : x ≠ 6) : opn (x :: W) = opn W := by
  show (if x = 6 then 1 else 0) + opn W = opn W
  rw [if_neg h, Nat.zero_add]
theorem opn_6 : opn (6 :: W) = 1 + opn W := rfl
theorem st_mul (hx : x = 10 ∨ x = 15) : stX E (true, t, x :: W, C) = stX E (true, t, W, C ++ [(opc x, nI 0)]) := by
  unfold stX
  dsimp only
  rw [if_neg tf0, if_neg tf0, pop_x (by omega), pops_x (by omega), opn_x (by omega)]
theorem st_add (hx : x = 8 ∨ x = 9) (hk : eK E t ≠ 10 ∧ eK E t ≠ 15) : stX E (true, t, x :: W, C) = stX E (true, t, W, C ++ [(opc x, nI 0)]) := by
  have hk2 : ¬ (eK E t = 10 ∨ eK E t = 15) := by omega
  unfold stX
  dsimp only
  rw [if_neg tf0, if_neg tf0, pop_x (by omega), opn_x (by omega), if_neg hk2, if_neg hk2]
/-- nothing waits since the last ( ; no product waits -/
def WS (W : List Nat) : Prop := W = [] ∨ ∃ W', W = 6 :: W'
def WP (W : List Nat) : Prop := W = [] ∨ ∃ x W', W = x :: W' ∧ (x = 6 ∨ x = 8 ∨ x = 9)
theorem ws_pop (h : WS W) : popF W C = (W, C) := by
  rcases h with h | ⟨W', h⟩
  · rw [h]; rfl
  · rw [h]; exact if_pos rfl
theorem wp_pop (h : WP W) : popS W C = (W, C) := by
  rcases h with h | ⟨x, W', h, hx⟩
  · rw [h]; rfl
  · rw [h]; exact if_pos hx
theorem ws_wp (h : WS W) : WP W := by
  rcases h with h | ⟨W', h⟩
  · exact Or.inl h
  · exact Or.inr ⟨6, W', h, Or.inl rfl⟩
end
