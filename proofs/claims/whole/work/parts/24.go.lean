/-! how a walk of our own machine is written down -/
/-- from here the method comes to its end, with Q -/
def am_Go (X : am_X) (d : Nat) (k : Nat → List am_I) (pc : Nat) (S : am_S) (Q : Option Value → am_H → Prop) : Prop := ∃ n r h', am_go X (am_call am_Pr d n) k n pc S = some (r, h') ∧ Q r h'
def am_Ca (d m : Nat) (as : List Value) (h : am_H) (Q : Option Value → am_H → Prop) : Prop := ∃ n r h', am_call am_Pr d n m as h = some (r, h') ∧ Q r h'
theorem am_go_fuel {X : am_X} {k : Nat → List am_I} {c1 c2 : Nat → List Value → am_H → am_A} (hc : ∀ m as h x, c1 m as h = some x → c2 m as h = some x) : ∀ (n n' pc : Nat) (S : am_S) (x : Option Value × am_H), n ≤ n' → am_go X c1 k n pc S = some x → am_go X c2 k n' pc S = some x := by
  intro n
  induction n with
  | zero => intro n' pc S x _ h; cases h
  | succ n ih =>
    intro n' pc S x hn h
    obtain ⟨n', rfl⟩ : ∃ j, n' = j + 1 := ⟨n' - 1, by omega⟩
    unfold am_go at h ⊢
    cases hb : am_b X (k pc) S with
    | none => rw [hb] at h; cases h
    | some y =>
      rw [hb] at h
      match y, h with
      | .inl _, h => cases h
      | .inr (.inl (t, S')), h => exact ih n' t S' x (by omega) h
      | .inr (.inr (.inl _)), h => exact h
      | .inr (.inr (.inr (m, as, t, (ls, st, h0)))), h =>
        dsimp only at h ⊢
        cases hcl : c1 m as h0 with
        | none => rw [hcl] at h; cases h
        | some y =>
          obtain ⟨r, h1⟩ := y
          rw [hcl] at h
          rw [hc _ _ _ _ hcl]
          exact ih n' t _ x (by omega) h
theorem am_call_fuel {P : am_P} : ∀ (d d' n n' m : Nat) (as : List Value) (h : am_H) (x : Option Value × am_H), d ≤ d' → n ≤ n' → am_call P d n m as h = some x → am_call P d' n' m as h = some x := by
  intro d
  induction d with
  | zero => intro d' n n' m as h x _ _ hx; cases hx
  | succ d ih =>
    intro d' n n' m as h x hd hn hx
    obtain ⟨d', rfl⟩ : ∃ j, d' = j + 1 := ⟨d' - 1, by omega⟩
    unfold am_call at hx ⊢
    split at hx
    · rename_i hl
      rw [if_pos hl]
      exact am_go_fuel (fun m as h x hx => ih d' n n' m as h x (by omega) hn hx) n n' 0 _ x hn hx
    · cases hx
/-- what is left behind a stretch -/
def am_D (X : am_X) (d : Nat) (k : Nat → List am_I) (Q : Option Value → am_H → Prop) : am_R → Prop
  | some (.inr (.inl (t, S))) => am_Go X d k t S Q
  | some (.inr (.inr (.inl (r, h)))) => Q r h
  | some (.inr (.inr (.inr (m, as, t, (ls, st, h))))) => am_Ca d m as h (fun r h' => am_Go X d k t (ls, am_st r st, h') Q)
  | _ => False
theorem go_step {X : am_X} {d : Nat} {k : Nat → List am_I} {pc : Nat} {S : am_S} {Q : Option Value → am_H → Prop} (h : am_D X d k Q (am_b X (k pc) S)) : am_Go X d k pc S Q := by
  cases hb : am_b X (k pc) S with
  | none => rw [hb] at h; exact h.elim
  | some y =>
    rw [hb] at h
    match y, hb, h with
    | .inl _, _, h => exact h.elim
    | .inr (.inl (t, S')), hb, ⟨n, r, h', h1, h2⟩ =>
      refine ⟨n + 1, r, h', ?_, h2⟩
      unfold am_go
      rw [hb]
      exact am_go_fuel (fun m as h x hx => am_call_fuel d d n (n + 1) m as h x (Nat.le_refl _) (Nat.le_succ _) hx) n n t S' _ (Nat.le_refl _) h1
    | .inr (.inr (.inl (r, h'))), hb, h =>
      refine ⟨1, r, h', ?_, h⟩
      unfold am_go
      rw [hb]
    | .inr (.inr (.inr (m, as, t, (ls, st, h0)))), hb, ⟨n1, r1, h1, e1, n2, r, h', e2, h2⟩ =>
      refine ⟨n1 + n2 + 1, r, h', ?_, h2⟩
      unfold am_go
      rw [hb]
      dsimp only
      rw [am_call_fuel d d n1 (n1 + n2 + 1) m as h0 _ (Nat.le_refl _) (by omega) e1]
      exact am_go_fuel (fun m as h x hx => am_call_fuel d d n2 (n1 + n2 + 1) m as h x (Nat.le_refl _) (by omega) hx) n2 (n1 + n2) t _ _ (by omega) e2
theorem ca_in {d m nL : Nat} {k : Nat → List am_I} {as : List Value} {h : am_H} {Q : Option Value → am_H → Prop} (hP : am_Pr m = (nL, k)) (hl : (am_ent as).length ≤ nL) (hg : am_Go am_X0 d k 0 (am_ls as nL, [], h) Q) : am_Ca (d + 1) m as h Q := by
  obtain ⟨n, r, h', e, hq⟩ := hg
  refine ⟨n, r, h', ?_, hq⟩
  unfold am_call
  rw [hP, if_pos hl]
  exact e
theorem ca_w {d d' m : Nat} {as : List Value} {h : am_H} {Q Q' : Option Value → am_H → Prop} (hc : am_Ca d m as h Q) (hd : d ≤ d') (hq : ∀ r h', Q r h' → Q' r h') : am_Ca d' m as h Q' := by
  obtain ⟨n, r, h', e, q⟩ := hc
  exact ⟨n, r, h', am_call_fuel d d' n n m as h _ hd (Nat.le_refl _) e, hq r h' q⟩
theorem go_w {X : am_X} {d : Nat} {k : Nat → List am_I} {pc : Nat} {S : am_S} {Q Q' : Option Value → am_H → Prop} (hc : am_Go X d k pc S Q) (hq : ∀ r h', Q r h' → Q' r h') : am_Go X d k pc S Q' := by
  obtain ⟨n, r, h', e, q⟩ := hc
  exact ⟨n, r, h', e, hq r h' q⟩
