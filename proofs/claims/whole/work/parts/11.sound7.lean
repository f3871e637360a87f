/-! from an instruction to a stretch -/
abbrev am_RR : Type := am_S ⊕ ((Nat × am_S) ⊕ ((Option Value × am_H) ⊕ (Nat × List Value × Nat × am_S)))
def am_rn : am_RR → Nat × Nat
  | .inl S => (S.2.2.1, S.2.2.2.1)
  | .inr (.inl (_, S)) => (S.2.2.1, S.2.2.2.1)
  | .inr (.inr (.inl (_, h))) => (h.1, h.2.1)
  | .inr (.inr (.inr (_, _, _, S))) => (S.2.2.1, S.2.2.2.1)
def am_rk : am_RR → Nat
  | .inl _ => 0
  | .inr (.inl _) => 1
  | .inr (.inr (.inl _)) => 2
  | .inr (.inr (.inr _)) => 3
/-- of which sort what comes out is; cells are only made, never lost -/
def am_kl (k : Nat) (S : am_S) (r : am_RR) : Prop := am_rk r = k ∧ S.2.2.1 ≤ (am_rn r).1 ∧ S.2.2.2.1 ≤ (am_rn r).2
theorem kl_push {x : Value} {S : am_S} {r : am_RR} (hx : am_push x S = some r) : am_kl 0 S r := by
  obtain ⟨ls, st, n, sl, kd, rr, v, w⟩ := S
  unfold am_push at hx
  dsimp only at hx
  cases hx
  exact ⟨rfl, by first | exact Nat.le_refl _ | exact Nat.le_succ _, by first | exact Nat.le_refl _ | exact Nat.le_add_right _ _⟩
theorem kl_lo {k : Nat} {ok : Value → Bool} {S : am_S} {r : am_RR} (hx : am_lo k S ok = some r) : am_kl 0 S r := by
  obtain ⟨ls, st, n, sl, kd, rr, v, w⟩ := S
  unfold am_lo at hx
  dsimp only at hx
  (repeat' split at hx) <;> first | (cases hx; done) | (cases hx; exact ⟨rfl, by first | exact Nat.le_refl _ | exact Nat.le_succ _, by first | exact Nat.le_refl _ | exact Nat.le_add_right _ _⟩)
theorem kl_st1 {k : Nat} {ok : Value → Bool} {S : am_S} {r : am_RR} (hx : am_st1 k S ok = some r) : am_kl 0 S r := by
  unfold am_st1 at hx
  (repeat' split at hx) <;> first | (cases hx; done) | (cases hx; exact ⟨rfl, by first | exact Nat.le_refl _ | exact Nat.le_succ _, by first | exact Nat.le_refl _ | exact Nat.le_add_right _ _⟩)
theorem kl_st2 {k : Nat} {S : am_S} {r : am_RR} (hx : am_st2 k S = some r) : am_kl 0 S r := by
  unfold am_st2 at hx
  (repeat' split at hx) <;> first | (cases hx; done) | (cases hx; exact ⟨rfl, by first | exact Nat.le_refl _ | exact Nat.le_succ _, by first | exact Nat.le_refl _ | exact Nat.le_add_right _ _⟩)
theorem kl_inc {k : Nat} {x : Int32} {S : am_S} {r : am_RR} (hx : am_inc k x S = some r) : am_kl 0 S r := by
  obtain ⟨ls, st, n, sl, kd, rr, v, w⟩ := S
  unfold am_inc at hx
  dsimp only at hx
  (repeat' split at hx) <;> first | (cases hx; done) | (cases hx; exact ⟨rfl, by first | exact Nat.le_refl _ | exact Nat.le_succ _, by first | exact Nat.le_refl _ | exact Nat.le_add_right _ _⟩)
theorem kl_i2 {f : Int32 → Int32 → Int32} {S : am_S} {r : am_RR} (hx : am_i2 f S = some r) : am_kl 0 S r := by
  unfold am_i2 at hx
  (repeat' split at hx) <;> first | (cases hx; done) | (cases hx; exact ⟨rfl, by first | exact Nat.le_refl _ | exact Nat.le_succ _, by first | exact Nat.le_refl _ | exact Nat.le_add_right _ _⟩)
theorem kl_i2z {f : Int32 → Int32 → Int32} {S : am_S} {r : am_RR} (hx : am_i2z f S = some r) : am_kl 0 S r := by
  unfold am_i2z at hx
  (repeat' split at hx) <;> first | (cases hx; done) | (cases hx; exact ⟨rfl, by first | exact Nat.le_refl _ | exact Nat.le_succ _, by first | exact Nat.le_refl _ | exact Nat.le_add_right _ _⟩)
theorem kl_i1 {f : Int32 → Int32} {S : am_S} {r : am_RR} (hx : am_i1 f S = some r) : am_kl 0 S r := by
  unfold am_i1 at hx
  (repeat' split at hx) <;> first | (cases hx; done) | (cases hx; exact ⟨rfl, by first | exact Nat.le_refl _ | exact Nat.le_succ _, by first | exact Nat.le_refl _ | exact Nat.le_add_right _ _⟩)
theorem kl_l2 {f : Int64 → Int64 → Int64} {S : am_S} {r : am_RR} (hx : am_l2 f S = some r) : am_kl 0 S r := by
  unfold am_l2 at hx
  (repeat' split at hx) <;> first | (cases hx; done) | (cases hx; exact ⟨rfl, by first | exact Nat.le_refl _ | exact Nat.le_succ _, by first | exact Nat.le_refl _ | exact Nat.le_add_right _ _⟩)
theorem kl_lc  {S : am_S} {r : am_RR} (hx : am_lc S = some r) : am_kl 0 S r := by
  unfold am_lc at hx
  (repeat' split at hx) <;> first | (cases hx; done) | (cases hx; exact ⟨rfl, by first | exact Nat.le_refl _ | exact Nat.le_succ _, by first | exact Nat.le_refl _ | exact Nat.le_add_right _ _⟩)
theorem kl_il  {S : am_S} {r : am_RR} (hx : am_il S = some r) : am_kl 0 S r := by
  unfold am_il at hx
  (repeat' split at hx) <;> first | (cases hx; done) | (cases hx; exact ⟨rfl, by first | exact Nat.le_refl _ | exact Nat.le_succ _, by first | exact Nat.le_refl _ | exact Nat.le_add_right _ _⟩)
theorem kl_li  {S : am_S} {r : am_RR} (hx : am_li S = some r) : am_kl 0 S r := by
  unfold am_li at hx
  (repeat' split at hx) <;> first | (cases hx; done) | (cases hx; exact ⟨rfl, by first | exact Nat.le_refl _ | exact Nat.le_succ _, by first | exact Nat.le_refl _ | exact Nat.le_add_right _ _⟩)
theorem kl_dup  {S : am_S} {r : am_RR} (hx : am_dup S = some r) : am_kl 0 S r := by
  unfold am_dup at hx
  (repeat' split at hx) <;> first | (cases hx; done) | (cases hx; exact ⟨rfl, by first | exact Nat.le_refl _ | exact Nat.le_succ _, by first | exact Nat.le_refl _ | exact Nat.le_add_right _ _⟩)
theorem kl_pop  {S : am_S} {r : am_RR} (hx : am_pop S = some r) : am_kl 0 S r := by
  unfold am_pop at hx
  (repeat' split at hx) <;> first | (cases hx; done) | (cases hx; exact ⟨rfl, by first | exact Nat.le_refl _ | exact Nat.le_succ _, by first | exact Nat.le_refl _ | exact Nat.le_add_right _ _⟩)
theorem kl_dup2  {S : am_S} {r : am_RR} (hx : am_dup2 S = some r) : am_kl 0 S r := by
  unfold am_dup2 at hx
  (repeat' split at hx) <;> first | (cases hx; done) | (cases hx; exact ⟨rfl, by first | exact Nat.le_refl _ | exact Nat.le_succ _, by first | exact Nat.le_refl _ | exact Nat.le_add_right _ _⟩)
theorem kl_get {c k : Nat} {f : am_H → Nat → Option Value} {S : am_S} {r : am_RR} (hx : am_get c k S f = some r) : am_kl 0 S r := by
  unfold am_get at hx
  split at hx
  · split at hx
    · rw [Option.bind_eq_some_iff] at hx
      obtain ⟨y, -, hx⟩ := hx
      cases hx
      exact ⟨rfl, Nat.le_refl _, Nat.le_refl _⟩
    · cases hx
  · cases hx
theorem kl_putI {c k : Nat} {ok : Int32 → Bool} {S : am_S} {r : am_RR} (hx : am_putI c k S ok = some r) : am_kl 0 S r := by
  unfold am_putI at hx
  (repeat' split at hx) <;> first | (cases hx; done) | (cases hx; exact ⟨rfl, by first | exact Nat.le_refl _ | exact Nat.le_succ _, by first | exact Nat.le_refl _ | exact Nat.le_add_right _ _⟩)
theorem kl_putR {c k : Nat} {S : am_S} {r : am_RR} (hx : am_putR c k S = some r) : am_kl 0 S r := by
  unfold am_putR at hx
  (repeat' split at hx) <;> first | (cases hx; done) | (cases hx; exact ⟨rfl, by first | exact Nat.le_refl _ | exact Nat.le_succ _, by first | exact Nat.le_refl _ | exact Nat.le_add_right _ _⟩)
theorem kl_ald {t : Nat} {f : am_H → Nat → Nat → Option Value} {S : am_S} {r : am_RR} (hx : am_ald t S f = some r) : am_kl 0 S r := by
  unfold am_ald at hx
  split at hx
  · split at hx
    · rw [Option.bind_eq_some_iff] at hx
      obtain ⟨y, -, hx⟩ := hx
      cases hx
      exact ⟨rfl, Nat.le_refl _, Nat.le_refl _⟩
    · cases hx
  · cases hx
theorem kl_ast {t : Nat} {f : Int32 → Int32} {S : am_S} {r : am_RR} (hx : am_ast t S f = some r) : am_kl 0 S r := by
  unfold am_ast at hx
  (repeat' split at hx) <;> first | (cases hx; done) | (cases hx; exact ⟨rfl, by first | exact Nat.le_refl _ | exact Nat.le_succ _, by first | exact Nat.le_refl _ | exact Nat.le_add_right _ _⟩)
theorem kl_lst  {S : am_S} {r : am_RR} (hx : am_lst S = some r) : am_kl 0 S r := by
  unfold am_lst at hx
  (repeat' split at hx) <;> first | (cases hx; done) | (cases hx; exact ⟨rfl, by first | exact Nat.le_refl _ | exact Nat.le_succ _, by first | exact Nat.le_refl _ | exact Nat.le_add_right _ _⟩)
theorem kl_rst {c : Nat} {S : am_S} {r : am_RR} (hx : am_rst c S = some r) : am_kl 0 S r := by
  unfold am_rst at hx
  (repeat' split at hx) <;> first | (cases hx; done) | (cases hx; exact ⟨rfl, by first | exact Nat.le_refl _ | exact Nat.le_succ _, by first | exact Nat.le_refl _ | exact Nat.le_add_right _ _⟩)
theorem kl_if2 {b t f : Nat} {S : am_S} {r : am_RR} (hx : am_if2 b t f S = some r) : am_kl 1 S r := by
  unfold am_if2 at hx
  (repeat' split at hx) <;> first | (cases hx; done) | (cases hx; exact ⟨rfl, by first | exact Nat.le_refl _ | exact Nat.le_succ _, by first | exact Nat.le_refl _ | exact Nat.le_add_right _ _⟩)
theorem kl_if1 {b t f : Nat} {S : am_S} {r : am_RR} (hx : am_if1 b t f S = some r) : am_kl 1 S r := by
  unfold am_if1 at hx
  (repeat' split at hx) <;> first | (cases hx; done) | (cases hx; exact ⟨rfl, by first | exact Nat.le_refl _ | exact Nat.le_succ _, by first | exact Nat.le_refl _ | exact Nat.le_add_right _ _⟩)
theorem kl_sw {lo d : Nat} {ts : List Nat} {S : am_S} {r : am_RR} (hx : am_sw lo d ts S = some r) : am_kl 1 S r := by
  unfold am_sw at hx
  (repeat' split at hx) <;> first | (cases hx; done) | (cases hx; exact ⟨rfl, by first | exact Nat.le_refl _ | exact Nat.le_succ _, by first | exact Nat.le_refl _ | exact Nat.le_add_right _ _⟩)
theorem kl_ri {ok : Int32 → Bool} {S : am_S} {r : am_RR} (hx : am_ri S ok = some r) : am_kl 2 S r := by
  unfold am_ri at hx
  (repeat' split at hx) <;> first | (cases hx; done) | (cases hx; exact ⟨rfl, by first | exact Nat.le_refl _ | exact Nat.le_succ _, by first | exact Nat.le_refl _ | exact Nat.le_add_right _ _⟩)
theorem kl_rl  {S : am_S} {r : am_RR} (hx : am_rl S = some r) : am_kl 2 S r := by
  unfold am_rl at hx
  (repeat' split at hx) <;> first | (cases hx; done) | (cases hx; exact ⟨rfl, by first | exact Nat.le_refl _ | exact Nat.le_succ _, by first | exact Nat.le_refl _ | exact Nat.le_add_right _ _⟩)
theorem kl_rv  {S : am_S} {r : am_RR} (hx : am_rv S = some r) : am_kl 2 S r := by
  unfold am_rv at hx
  (repeat' split at hx) <;> first | (cases hx; done) | (cases hx; exact ⟨rfl, by first | exact Nat.le_refl _ | exact Nat.le_succ _, by first | exact Nat.le_refl _ | exact Nat.le_add_right _ _⟩)
theorem kl_cv {m n c pc : Nat} {S : am_S} {r : am_RR} (hx : am_cv m n c pc S = some r) : am_kl 3 S r := by
  obtain ⟨ls, st, n, sl, kd, rr, v, w⟩ := S
  unfold am_cv at hx
  dsimp only at hx
  (repeat' split at hx) <;> first | (cases hx; done) | (cases hx; exact ⟨rfl, by first | exact Nat.le_refl _ | exact Nat.le_succ _, by first | exact Nat.le_refl _ | exact Nat.le_add_right _ _⟩)
theorem kl_cs {m n pc : Nat} {S : am_S} {r : am_RR} (hx : am_cs m n pc S = some r) : am_kl 3 S r := by
  obtain ⟨ls, st, n, sl, kd, rr, v, w⟩ := S
  unfold am_cs at hx
  dsimp only at hx
  (repeat' split at hx) <;> first | (cases hx; done) | (cases hx; exact ⟨rfl, by first | exact Nat.le_refl _ | exact Nat.le_succ _, by first | exact Nat.le_refl _ | exact Nat.le_add_right _ _⟩)
theorem kl_new {c f : Nat} {S : am_S} {r : am_RR} (hx : am_new c f S = some r) : am_kl 0 S r := by
  obtain ⟨ls, st, n, sl, kd, rr, v, w⟩ := S
  unfold am_new at hx
  dsimp only at hx
  cases hx
  exact ⟨rfl, by first | exact Nat.le_refl _ | exact Nat.le_succ _, by first | exact Nat.le_refl _ | exact Nat.le_add_right _ _⟩
theorem kl_nar {t : Nat} {S : am_S} {r : am_RR} (hx : am_nar t S = some r) : am_kl 0 S r := by
  unfold am_nar at hx
  (repeat' split at hx) <;> first | (cases hx; done) | (cases hx; exact ⟨rfl, by first | exact Nat.le_refl _ | exact Nat.le_succ _, by first | exact Nat.le_refl _ | exact Nat.le_add_right _ _⟩)
theorem kl_oin  {S : am_S} {r : am_RR} (hx : am_oin S = some r) : am_kl 0 S r := by
  unfold am_oin at hx
  (repeat' split at hx) <;> first | (cases hx; done) | (cases hx; exact ⟨rfl, by first | exact Nat.le_refl _ | exact Nat.le_succ _, by first | exact Nat.le_refl _ | exact Nat.le_add_right _ _⟩)
theorem kl_mm {f : Int32 → Int32 → Int32} {S : am_S} {r : am_RR} (hx : am_mm f S = some r) : am_kl 0 S r := by
  unfold am_mm at hx
  (repeat' split at hx) <;> first | (cases hx; done) | (cases hx; exact ⟨rfl, by first | exact Nat.le_refl _ | exact Nat.le_succ _, by first | exact Nat.le_refl _ | exact Nat.le_add_right _ _⟩)
theorem kl_cp  {S : am_S} {r : am_RR} (hx : am_cp S = some r) : am_kl 0 S r := by
  unfold am_cp at hx
  (repeat' split at hx) <;> first | (cases hx; done) | (cases hx; exact ⟨rfl, by first | exact Nat.le_refl _ | exact Nat.le_succ _, by first | exact Nat.le_refl _ | exact Nat.le_add_right _ _⟩)
theorem kl_sl  {S : am_S} {r : am_RR} (hx : am_sl S = some r) : am_kl 0 S r := by
  unfold am_sl at hx
  (repeat' split at hx) <;> first | (cases hx; done) | (cases hx; exact ⟨rfl, by first | exact Nat.le_refl _ | exact Nat.le_succ _, by first | exact Nat.le_refl _ | exact Nat.le_add_right _ _⟩)
theorem kl_sc  {S : am_S} {r : am_RR} (hx : am_sc S = some r) : am_kl 0 S r := by
  unfold am_sc at hx
  (repeat' split at hx) <;> first | (cases hx; done) | (cases hx; exact ⟨rfl, by first | exact Nat.le_refl _ | exact Nat.le_succ _, by first | exact Nat.le_refl _ | exact Nat.le_add_right _ _⟩)
theorem kl_si  {S : am_S} {r : am_RR} (hx : am_si S = some r) : am_kl 0 S r := by
  unfold am_si at hx
  (repeat' split at hx) <;> first | (cases hx; done) | (cases hx; exact ⟨rfl, by first | exact Nat.le_refl _ | exact Nat.le_succ _, by first | exact Nat.le_refl _ | exact Nat.le_add_right _ _⟩)
theorem kl_xa {X : am_X} {S : am_S} {r : am_RR} (hx : am_xa X S = some r) : am_kl 0 S r := by
  unfold am_xa at hx
  (repeat' split at hx) <;> first | (cases hx; done) | (cases hx; exact ⟨rfl, by first | exact Nat.le_refl _ | exact Nat.le_succ _, by first | exact Nat.le_refl _ | exact Nat.le_add_right _ _⟩)
theorem kl_xl {X : am_X} {S : am_S} {r : am_RR} (hx : am_xl X S = some r) : am_kl 0 S r := by
  unfold am_xl at hx
  (repeat' split at hx) <;> first | (cases hx; done) | (cases hx; exact ⟨rfl, by first | exact Nat.le_refl _ | exact Nat.le_succ _, by first | exact Nat.le_refl _ | exact Nat.le_add_right _ _⟩)
theorem kl_ju {t : Nat} {S : am_S} {r : am_RR} (hx : am_ju t S = some r) : am_kl 1 S r := by
  cases hx
  exact ⟨rfl, Nat.le_refl _, Nat.le_refl _⟩
theorem kh_0 {os : List Nat} {c : Int32} {X : am_X} {S : am_S} {r : am_RR} (hx : ah_0 os c X S = some r) : ∃ k, am_kl k S r := by
  unfold ah_0 at hx
  split at hx
  · exact ⟨_, kl_ju hx⟩
  · cases hx
theorem kh_1 {os : List Nat} {c : Int32} {X : am_X} {S : am_S} {r : am_RR} (hx : ah_1 os c X S = some r) : ∃ k, am_kl k S r := by
  unfold ah_1 at hx
  split at hx
  · exact ⟨_, kl_push hx⟩
  · cases hx
theorem kh_2 {os : List Nat} {c : Int32} {X : am_X} {S : am_S} {r : am_RR} (hx : ah_2 os c X S = some r) : ∃ k, am_kl k S r := by
  unfold ah_2 at hx
  split at hx
  · exact ⟨_, kl_push hx⟩
  · cases hx
theorem kh_3 {os : List Nat} {c : Int32} {X : am_X} {S : am_S} {r : am_RR} (hx : ah_3 os c X S = some r) : ∃ k, am_kl k S r := by
  unfold ah_3 at hx
  split at hx
  · exact ⟨_, kl_push hx⟩
  · cases hx
theorem kh_4 {os : List Nat} {c : Int32} {X : am_X} {S : am_S} {r : am_RR} (hx : ah_4 os c X S = some r) : ∃ k, am_kl k S r := by
  unfold ah_4 at hx
  split at hx
  · exact ⟨_, kl_lo hx⟩
  · cases hx
theorem kh_5 {os : List Nat} {c : Int32} {X : am_X} {S : am_S} {r : am_RR} (hx : ah_5 os c X S = some r) : ∃ k, am_kl k S r := by
  unfold ah_5 at hx
  split at hx
  · exact ⟨_, kl_lo hx⟩
  · cases hx
theorem kh_6 {os : List Nat} {c : Int32} {X : am_X} {S : am_S} {r : am_RR} (hx : ah_6 os c X S = some r) : ∃ k, am_kl k S r := by
  unfold ah_6 at hx
  split at hx
  · exact ⟨_, kl_lo hx⟩
  · cases hx
theorem kh_7 {os : List Nat} {c : Int32} {X : am_X} {S : am_S} {r : am_RR} (hx : ah_7 os c X S = some r) : ∃ k, am_kl k S r := by
  unfold ah_7 at hx
  split at hx
  · exact ⟨_, kl_st1 hx⟩
  · cases hx
theorem kh_8 {os : List Nat} {c : Int32} {X : am_X} {S : am_S} {r : am_RR} (hx : ah_8 os c X S = some r) : ∃ k, am_kl k S r := by
  unfold ah_8 at hx
  split at hx
  · exact ⟨_, kl_st2 hx⟩
  · cases hx
theorem kh_9 {os : List Nat} {c : Int32} {X : am_X} {S : am_S} {r : am_RR} (hx : ah_9 os c X S = some r) : ∃ k, am_kl k S r := by
  unfold ah_9 at hx
  split at hx
  · exact ⟨_, kl_st1 hx⟩
  · cases hx
theorem kh_10 {os : List Nat} {c : Int32} {X : am_X} {S : am_S} {r : am_RR} (hx : ah_10 os c X S = some r) : ∃ k, am_kl k S r := by
  unfold ah_10 at hx
  split at hx
  · exact ⟨_, kl_inc hx⟩
  · cases hx
theorem kh_11 {os : List Nat} {c : Int32} {X : am_X} {S : am_S} {r : am_RR} (hx : ah_11 os c X S = some r) : ∃ k, am_kl k S r := by
  unfold ah_11 at hx
  split at hx
  · exact ⟨_, kl_inc hx⟩
  · cases hx
theorem kh_12 {os : List Nat} {c : Int32} {X : am_X} {S : am_S} {r : am_RR} (hx : ah_12 os c X S = some r) : ∃ k, am_kl k S r := by
  unfold ah_12 at hx
  split at hx
  · exact ⟨_, kl_i2 hx⟩
  · cases hx
theorem kh_13 {os : List Nat} {c : Int32} {X : am_X} {S : am_S} {r : am_RR} (hx : ah_13 os c X S = some r) : ∃ k, am_kl k S r := by
  unfold ah_13 at hx
  split at hx
  · exact ⟨_, kl_i2 hx⟩
  · cases hx
theorem kh_14 {os : List Nat} {c : Int32} {X : am_X} {S : am_S} {r : am_RR} (hx : ah_14 os c X S = some r) : ∃ k, am_kl k S r := by
  unfold ah_14 at hx
  split at hx
  · exact ⟨_, kl_i2 hx⟩
  · cases hx
theorem kh_15 {os : List Nat} {c : Int32} {X : am_X} {S : am_S} {r : am_RR} (hx : ah_15 os c X S = some r) : ∃ k, am_kl k S r := by
  unfold ah_15 at hx
  split at hx
  · exact ⟨_, kl_i2z hx⟩
  · cases hx
theorem kh_16 {os : List Nat} {c : Int32} {X : am_X} {S : am_S} {r : am_RR} (hx : ah_16 os c X S = some r) : ∃ k, am_kl k S r := by
  unfold ah_16 at hx
  split at hx
  · exact ⟨_, kl_i2z hx⟩
  · cases hx
theorem kh_17 {os : List Nat} {c : Int32} {X : am_X} {S : am_S} {r : am_RR} (hx : ah_17 os c X S = some r) : ∃ k, am_kl k S r := by
  unfold ah_17 at hx
  split at hx
  · exact ⟨_, kl_i1 hx⟩
  · cases hx
theorem kh_18 {os : List Nat} {c : Int32} {X : am_X} {S : am_S} {r : am_RR} (hx : ah_18 os c X S = some r) : ∃ k, am_kl k S r := by
  unfold ah_18 at hx
  split at hx
  · exact ⟨_, kl_i2 hx⟩
  · cases hx
theorem kh_19 {os : List Nat} {c : Int32} {X : am_X} {S : am_S} {r : am_RR} (hx : ah_19 os c X S = some r) : ∃ k, am_kl k S r := by
  unfold ah_19 at hx
  split at hx
  · exact ⟨_, kl_i2 hx⟩
  · cases hx
theorem kh_20 {os : List Nat} {c : Int32} {X : am_X} {S : am_S} {r : am_RR} (hx : ah_20 os c X S = some r) : ∃ k, am_kl k S r := by
  unfold ah_20 at hx
  split at hx
  · exact ⟨_, kl_i2 hx⟩
  · cases hx
theorem kh_21 {os : List Nat} {c : Int32} {X : am_X} {S : am_S} {r : am_RR} (hx : ah_21 os c X S = some r) : ∃ k, am_kl k S r := by
  unfold ah_21 at hx
  split at hx
  · exact ⟨_, kl_i2 hx⟩
  · cases hx
theorem kh_22 {os : List Nat} {c : Int32} {X : am_X} {S : am_S} {r : am_RR} (hx : ah_22 os c X S = some r) : ∃ k, am_kl k S r := by
  unfold ah_22 at hx
  split at hx
  · exact ⟨_, kl_i2 hx⟩
  · cases hx
theorem kh_23 {os : List Nat} {c : Int32} {X : am_X} {S : am_S} {r : am_RR} (hx : ah_23 os c X S = some r) : ∃ k, am_kl k S r := by
  unfold ah_23 at hx
  split at hx
  · exact ⟨_, kl_l2 hx⟩
  · cases hx
theorem kh_24 {os : List Nat} {c : Int32} {X : am_X} {S : am_S} {r : am_RR} (hx : ah_24 os c X S = some r) : ∃ k, am_kl k S r := by
  unfold ah_24 at hx
  split at hx
  · exact ⟨_, kl_l2 hx⟩
  · cases hx
theorem kh_25 {os : List Nat} {c : Int32} {X : am_X} {S : am_S} {r : am_RR} (hx : ah_25 os c X S = some r) : ∃ k, am_kl k S r := by
  unfold ah_25 at hx
  split at hx
  · exact ⟨_, kl_lc hx⟩
  · cases hx
theorem kh_26 {os : List Nat} {c : Int32} {X : am_X} {S : am_S} {r : am_RR} (hx : ah_26 os c X S = some r) : ∃ k, am_kl k S r := by
  unfold ah_26 at hx
  split at hx
  · exact ⟨_, kl_il hx⟩
  · cases hx
theorem kh_27 {os : List Nat} {c : Int32} {X : am_X} {S : am_S} {r : am_RR} (hx : ah_27 os c X S = some r) : ∃ k, am_kl k S r := by
  unfold ah_27 at hx
  split at hx
  · exact ⟨_, kl_li hx⟩
  · cases hx
theorem kh_28 {os : List Nat} {c : Int32} {X : am_X} {S : am_S} {r : am_RR} (hx : ah_28 os c X S = some r) : ∃ k, am_kl k S r := by
  unfold ah_28 at hx
  split at hx
  · exact ⟨_, kl_i1 hx⟩
  · cases hx
theorem kh_29 {os : List Nat} {c : Int32} {X : am_X} {S : am_S} {r : am_RR} (hx : ah_29 os c X S = some r) : ∃ k, am_kl k S r := by
  unfold ah_29 at hx
  split at hx
  · exact ⟨_, kl_i1 hx⟩
  · cases hx
theorem kh_30 {os : List Nat} {c : Int32} {X : am_X} {S : am_S} {r : am_RR} (hx : ah_30 os c X S = some r) : ∃ k, am_kl k S r := by
  unfold ah_30 at hx
  split at hx
  · exact ⟨_, kl_dup hx⟩
  · cases hx
theorem kh_31 {os : List Nat} {c : Int32} {X : am_X} {S : am_S} {r : am_RR} (hx : ah_31 os c X S = some r) : ∃ k, am_kl k S r := by
  unfold ah_31 at hx
  split at hx
  · exact ⟨_, kl_pop hx⟩
  · cases hx
theorem kh_32 {os : List Nat} {c : Int32} {X : am_X} {S : am_S} {r : am_RR} (hx : ah_32 os c X S = some r) : ∃ k, am_kl k S r := by
  unfold ah_32 at hx
  split at hx
  · exact ⟨_, kl_dup2 hx⟩
  · cases hx
theorem kh_33 {os : List Nat} {c : Int32} {X : am_X} {S : am_S} {r : am_RR} (hx : ah_33 os c X S = some r) : ∃ k, am_kl k S r := by
  unfold ah_33 at hx
  split at hx
  · exact ⟨_, kl_get hx⟩
  · cases hx
theorem kh_34 {os : List Nat} {c : Int32} {X : am_X} {S : am_S} {r : am_RR} (hx : ah_34 os c X S = some r) : ∃ k, am_kl k S r := by
  unfold ah_34 at hx
  split at hx
  · exact ⟨_, kl_get hx⟩
  · cases hx
theorem kh_35 {os : List Nat} {c : Int32} {X : am_X} {S : am_S} {r : am_RR} (hx : ah_35 os c X S = some r) : ∃ k, am_kl k S r := by
  unfold ah_35 at hx
  split at hx
  · exact ⟨_, kl_putI hx⟩
  · cases hx
theorem kh_36 {os : List Nat} {c : Int32} {X : am_X} {S : am_S} {r : am_RR} (hx : ah_36 os c X S = some r) : ∃ k, am_kl k S r := by
  unfold ah_36 at hx
  split at hx
  · exact ⟨_, kl_putI hx⟩
  · cases hx
theorem kh_37 {os : List Nat} {c : Int32} {X : am_X} {S : am_S} {r : am_RR} (hx : ah_37 os c X S = some r) : ∃ k, am_kl k S r := by
  unfold ah_37 at hx
  split at hx
  · exact ⟨_, kl_putR hx⟩
  · cases hx
theorem kh_38 {os : List Nat} {c : Int32} {X : am_X} {S : am_S} {r : am_RR} (hx : ah_38 os c X S = some r) : ∃ k, am_kl k S r := by
  unfold ah_38 at hx
  split at hx
  · exact ⟨_, kl_ald hx⟩
  · cases hx
theorem kh_39 {os : List Nat} {c : Int32} {X : am_X} {S : am_S} {r : am_RR} (hx : ah_39 os c X S = some r) : ∃ k, am_kl k S r := by
  unfold ah_39 at hx
  split at hx
  · exact ⟨_, kl_ald hx⟩
  · cases hx
theorem kh_40 {os : List Nat} {c : Int32} {X : am_X} {S : am_S} {r : am_RR} (hx : ah_40 os c X S = some r) : ∃ k, am_kl k S r := by
  unfold ah_40 at hx
  split at hx
  · exact ⟨_, kl_ald hx⟩
  · cases hx
theorem kh_41 {os : List Nat} {c : Int32} {X : am_X} {S : am_S} {r : am_RR} (hx : ah_41 os c X S = some r) : ∃ k, am_kl k S r := by
  unfold ah_41 at hx
  split at hx
  · exact ⟨_, kl_ald hx⟩
  · cases hx
theorem kh_42 {os : List Nat} {c : Int32} {X : am_X} {S : am_S} {r : am_RR} (hx : ah_42 os c X S = some r) : ∃ k, am_kl k S r := by
  unfold ah_42 at hx
  split at hx
  · exact ⟨_, kl_ald hx⟩
  · cases hx
theorem kh_43 {os : List Nat} {c : Int32} {X : am_X} {S : am_S} {r : am_RR} (hx : ah_43 os c X S = some r) : ∃ k, am_kl k S r := by
  unfold ah_43 at hx
  split at hx
  · exact ⟨_, kl_ast hx⟩
  · cases hx
theorem kh_44 {os : List Nat} {c : Int32} {X : am_X} {S : am_S} {r : am_RR} (hx : ah_44 os c X S = some r) : ∃ k, am_kl k S r := by
  unfold ah_44 at hx
  split at hx
  · exact ⟨_, kl_ast hx⟩
  · cases hx
theorem kh_45 {os : List Nat} {c : Int32} {X : am_X} {S : am_S} {r : am_RR} (hx : ah_45 os c X S = some r) : ∃ k, am_kl k S r := by
  unfold ah_45 at hx
  split at hx
  · exact ⟨_, kl_ast hx⟩
  · cases hx
theorem kh_46 {os : List Nat} {c : Int32} {X : am_X} {S : am_S} {r : am_RR} (hx : ah_46 os c X S = some r) : ∃ k, am_kl k S r := by
  unfold ah_46 at hx
  split at hx
  · exact ⟨_, kl_lst hx⟩
  · cases hx
theorem kh_47 {os : List Nat} {c : Int32} {X : am_X} {S : am_S} {r : am_RR} (hx : ah_47 os c X S = some r) : ∃ k, am_kl k S r := by
  unfold ah_47 at hx
  split at hx
  · exact ⟨_, kl_rst hx⟩
  · cases hx
theorem kh_49 {os : List Nat} {c : Int32} {X : am_X} {S : am_S} {r : am_RR} (hx : ah_49 os c X S = some r) : ∃ k, am_kl k S r := by
  unfold ah_49 at hx
  split at hx
  · exact ⟨_, kl_if2 hx⟩
  · cases hx
theorem kh_50 {os : List Nat} {c : Int32} {X : am_X} {S : am_S} {r : am_RR} (hx : ah_50 os c X S = some r) : ∃ k, am_kl k S r := by
  unfold ah_50 at hx
  split at hx
  · exact ⟨_, kl_if1 hx⟩
  · cases hx
theorem kh_51 {os : List Nat} {c : Int32} {X : am_X} {S : am_S} {r : am_RR} (hx : ah_51 os c X S = some r) : ∃ k, am_kl k S r := by
  unfold ah_51 at hx
  split at hx
  · exact ⟨_, kl_ju hx⟩
  · cases hx
theorem kh_52 {os : List Nat} {c : Int32} {X : am_X} {S : am_S} {r : am_RR} (hx : ah_52 os c X S = some r) : ∃ k, am_kl k S r := by
  unfold ah_52 at hx
  split at hx
  · exact ⟨_, kl_sw hx⟩
  · cases hx
theorem kh_53 {os : List Nat} {c : Int32} {X : am_X} {S : am_S} {r : am_RR} (hx : ah_53 os c X S = some r) : ∃ k, am_kl k S r := by
  unfold ah_53 at hx
  split at hx
  · exact ⟨_, kl_push hx⟩
  · cases hx
theorem kh_54 {os : List Nat} {c : Int32} {X : am_X} {S : am_S} {r : am_RR} (hx : ah_54 os c X S = some r) : ∃ k, am_kl k S r := by
  unfold ah_54 at hx
  split at hx
  · exact ⟨_, kl_ri hx⟩
  · cases hx
theorem kh_55 {os : List Nat} {c : Int32} {X : am_X} {S : am_S} {r : am_RR} (hx : ah_55 os c X S = some r) : ∃ k, am_kl k S r := by
  unfold ah_55 at hx
  split at hx
  · exact ⟨_, kl_rl hx⟩
  · cases hx
theorem kh_56 {os : List Nat} {c : Int32} {X : am_X} {S : am_S} {r : am_RR} (hx : ah_56 os c X S = some r) : ∃ k, am_kl k S r := by
  unfold ah_56 at hx
  split at hx
  · exact ⟨_, kl_rv hx⟩
  · cases hx
theorem kh_57 {os : List Nat} {c : Int32} {X : am_X} {S : am_S} {r : am_RR} (hx : ah_57 os c X S = some r) : ∃ k, am_kl k S r := by
  unfold ah_57 at hx
  split at hx
  · exact ⟨_, kl_cv hx⟩
  · cases hx
theorem kh_58 {os : List Nat} {c : Int32} {X : am_X} {S : am_S} {r : am_RR} (hx : ah_58 os c X S = some r) : ∃ k, am_kl k S r := by
  unfold ah_58 at hx
  split at hx
  · exact ⟨_, kl_cs hx⟩
  · cases hx
theorem kh_59 {os : List Nat} {c : Int32} {X : am_X} {S : am_S} {r : am_RR} (hx : ah_59 os c X S = some r) : ∃ k, am_kl k S r := by
  unfold ah_59 at hx
  split at hx
  · exact ⟨_, kl_cv hx⟩
  · cases hx
theorem kh_60 {os : List Nat} {c : Int32} {X : am_X} {S : am_S} {r : am_RR} (hx : ah_60 os c X S = some r) : ∃ k, am_kl k S r := by
  unfold ah_60 at hx
  split at hx
  · exact ⟨_, kl_new hx⟩
  · cases hx
theorem kh_61 {os : List Nat} {c : Int32} {X : am_X} {S : am_S} {r : am_RR} (hx : ah_61 os c X S = some r) : ∃ k, am_kl k S r := by
  unfold ah_61 at hx
  split at hx
  · exact ⟨_, kl_nar hx⟩
  · cases hx
theorem kh_62 {os : List Nat} {c : Int32} {X : am_X} {S : am_S} {r : am_RR} (hx : ah_62 os c X S = some r) : ∃ k, am_kl k S r := by
  unfold ah_62 at hx
  split at hx
  · exact ⟨_, kl_nar hx⟩
  · cases hx
theorem kh_63 {os : List Nat} {c : Int32} {X : am_X} {S : am_S} {r : am_RR} (hx : ah_63 os c X S = some r) : ∃ k, am_kl k S r := by
  unfold ah_63 at hx
  split at hx
  · exact ⟨_, kl_oin hx⟩
  · cases hx
theorem kh_64 {os : List Nat} {c : Int32} {X : am_X} {S : am_S} {r : am_RR} (hx : ah_64 os c X S = some r) : ∃ k, am_kl k S r := by
  unfold ah_64 at hx
  split at hx
  · exact ⟨_, kl_mm hx⟩
  · cases hx
theorem kh_65 {os : List Nat} {c : Int32} {X : am_X} {S : am_S} {r : am_RR} (hx : ah_65 os c X S = some r) : ∃ k, am_kl k S r := by
  unfold ah_65 at hx
  split at hx
  · exact ⟨_, kl_mm hx⟩
  · cases hx
theorem kh_66 {os : List Nat} {c : Int32} {X : am_X} {S : am_S} {r : am_RR} (hx : ah_66 os c X S = some r) : ∃ k, am_kl k S r := by
  unfold ah_66 at hx
  split at hx
  · exact ⟨_, kl_cp hx⟩
  · cases hx
theorem kh_67 {os : List Nat} {c : Int32} {X : am_X} {S : am_S} {r : am_RR} (hx : ah_67 os c X S = some r) : ∃ k, am_kl k S r := by
  unfold ah_67 at hx
  split at hx
  · exact ⟨_, kl_push hx⟩
  · cases hx
theorem kh_68 {os : List Nat} {c : Int32} {X : am_X} {S : am_S} {r : am_RR} (hx : ah_68 os c X S = some r) : ∃ k, am_kl k S r := by
  unfold ah_68 at hx
  split at hx
  · exact ⟨_, kl_sl hx⟩
  · cases hx
theorem kh_69 {os : List Nat} {c : Int32} {X : am_X} {S : am_S} {r : am_RR} (hx : ah_69 os c X S = some r) : ∃ k, am_kl k S r := by
  unfold ah_69 at hx
  split at hx
  · exact ⟨_, kl_sc hx⟩
  · cases hx
theorem kh_70 {os : List Nat} {c : Int32} {X : am_X} {S : am_S} {r : am_RR} (hx : ah_70 os c X S = some r) : ∃ k, am_kl k S r := by
  unfold ah_70 at hx
  split at hx
  · exact ⟨_, kl_si hx⟩
  · cases hx
theorem kh_71 {os : List Nat} {c : Int32} {X : am_X} {S : am_S} {r : am_RR} (hx : ah_71 os c X S = some r) : ∃ k, am_kl k S r := by
  unfold ah_71 at hx
  split at hx
  · exact ⟨_, kl_xa hx⟩
  · cases hx
theorem kh_72 {os : List Nat} {c : Int32} {X : am_X} {S : am_S} {r : am_RR} (hx : ah_72 os c X S = some r) : ∃ k, am_kl k S r := by
  unfold ah_72 at hx
  split at hx
  · exact ⟨_, kl_xl hx⟩
  · cases hx
theorem kh_73 {os : List Nat} {c : Int32} {X : am_X} {S : am_S} {r : am_RR} (hx : ah_73 os c X S = some r) : ∃ k, am_kl k S r := by
  unfold ah_73 at hx
  split at hx
  · exact ⟨_, kl_ri hx⟩
  · cases hx
theorem am_h_cases (op : Nat) : am_h op = ah_no ∨ op = 0 ∨ op = 1 ∨ op = 2 ∨ op = 3 ∨ op = 4 ∨ op = 5 ∨ op = 6 ∨ op = 7 ∨ op = 8 ∨ op = 9 ∨ op = 10 ∨ op = 11 ∨ op = 12 ∨ op = 13 ∨ op = 14 ∨ op = 15 ∨ op = 16 ∨ op = 17 ∨ op = 18 ∨ op = 19 ∨ op = 20 ∨ op = 21 ∨ op = 22 ∨ op = 23 ∨ op = 24 ∨ op = 25 ∨ op = 26 ∨ op = 27 ∨ op = 28 ∨ op = 29 ∨ op = 30 ∨ op = 31 ∨ op = 32 ∨ op = 33 ∨ op = 34 ∨ op = 35 ∨ op = 36 ∨ op = 37 ∨ op = 38 ∨ op = 39 ∨ op = 40 ∨ op = 41 ∨ op = 42 ∨ op = 43 ∨ op = 44 ∨ op = 45 ∨ op = 46 ∨ op = 47 ∨ op = 49 ∨ op = 50 ∨ op = 51 ∨ op = 52 ∨ op = 53 ∨ op = 54 ∨ op = 55 ∨ op = 56 ∨ op = 57 ∨ op = 58 ∨ op = 59 ∨ op = 60 ∨ op = 61 ∨ op = 62 ∨ op = 63 ∨ op = 64 ∨ op = 65 ∨ op = 66 ∨ op = 67 ∨ op = 68 ∨ op = 69 ∨ op = 70 ∨ op = 71 ∨ op = 72 ∨ op = 73 := by
  unfold am_h
  split
  · exact Or.inr (Or.inl rfl)
  · exact Or.inr (Or.inr (Or.inl rfl))
  · exact Or.inr (Or.inr (Or.inr (Or.inl rfl)))
  · exact Or.inr (Or.inr (Or.inr (Or.inr (Or.inl rfl))))
  · exact Or.inr (Or.inr (Or.inr (Or.inr (Or.inr (Or.inl rfl)))))
  · exact Or.inr (Or.inr (Or.inr (Or.inr (Or.inr (Or.inr (Or.inl rfl))))))
  · exact Or.inr (Or.inr (Or.inr (Or.inr (Or.inr (Or.inr (Or.inr (Or.inl rfl)))))))
  · exact Or.inr (Or.inr (Or.inr (Or.inr (Or.inr (Or.inr (Or.inr (Or.inr (Or.inl rfl))))))))
  · exact Or.inr (Or.inr (Or.inr (Or.inr (Or.inr (Or.inr (Or.inr (Or.inr (Or.inr (Or.inl rfl)))))))))
  · exact Or.inr (Or.inr (Or.inr (Or.inr (Or.inr (Or.inr (Or.inr (Or.inr (Or.inr (Or.inr (Or.inl rfl))))))))))
  · exact Or.inr (Or.inr (Or.inr (Or.inr (Or.inr (Or.inr (Or.inr (Or.inr (Or.inr (Or.inr (Or.inr (Or.inl rfl)))))))))))
  · exact Or.inr (Or.inr (Or.inr (Or.inr (Or.inr (Or.inr (Or.inr (Or.inr (Or.inr (Or.inr (Or.inr (Or.inr (Or.inl rfl))))))))))))
  · exact Or.inr (Or.inr (Or.inr (Or.inr (Or.inr (Or.inr (Or.inr (Or.inr (Or.inr (Or.inr (Or.inr (Or.inr (Or.inr (Or.inl rfl)))))))))))))
  · exact Or.inr (Or.inr (Or.inr (Or.inr (Or.inr (Or.inr (Or.inr (Or.inr (Or.inr (Or.inr (Or.inr (Or.inr (Or.inr (Or.inr (Or.inl rfl))))))))))))))
  · exact Or.inr (Or.inr (Or.inr (Or.inr (Or.inr (Or.inr (Or.inr (Or.inr (Or.inr (Or.inr (Or.inr (Or.inr (Or.inr (Or.inr (Or.inr (Or.inl rfl)))))))))))))))
  · exact Or.inr (Or.inr (Or.inr (Or.inr (Or.inr (Or.inr (Or.inr (Or.inr (Or.inr (Or.inr (Or.inr (Or.inr (Or.inr (Or.inr (Or.inr (Or.inr (Or.inl rfl))))))))))))))))
  · exact Or.inr (Or.inr (Or.inr (Or.inr (Or.inr (Or.inr (Or.inr (Or.inr (Or.inr (Or.inr (Or.inr (Or.inr (Or.inr (Or.inr (Or.inr (Or.inr (Or.inr (Or.inl rfl)))))))))))))))))
  · exact Or.inr (Or.inr (Or.inr (Or.inr (Or.inr (Or.inr (Or.inr (Or.inr (Or.inr (Or.inr (Or.inr (Or.inr (Or.inr (Or.inr (Or.inr (Or.inr (Or.inr (Or.inr (Or.inl rfl))))))))))))))))))
  · exact Or.inr (Or.inr (Or.inr (Or.inr (Or.inr (Or.inr (Or.inr (Or.inr (Or.inr (Or.inr (Or.inr (Or.inr (Or.inr (Or.inr (Or.inr (Or.inr (Or.inr (Or.inr (Or.inr (Or.inl rfl)))))))))))))))))))
  · exact Or.inr (Or.inr (Or.inr (Or.inr (Or.inr (Or.inr (Or.inr (Or.inr (Or.inr (Or.inr (Or.inr (Or.inr (Or.inr (Or.inr (Or.inr (Or.inr (Or.inr (Or.inr (Or.inr (Or.inr (Or.inl rfl))))))))))))))))))))
  · exact Or.inr (Or.inr (Or.inr (Or.inr (Or.inr (Or.inr (Or.inr (Or.inr (Or.inr (Or.inr (Or.inr (Or.inr (Or.inr (Or.inr (Or.inr (Or.inr (Or.inr (Or.inr (Or.inr (Or.inr (Or.inr (Or.inl rfl)))))))))))))))))))))
  · exact Or.inr (Or.inr (Or.inr (Or.inr (Or.inr (Or.inr (Or.inr (Or.inr (Or.inr (Or.inr (Or.inr (Or.inr (Or.inr (Or.inr (Or.inr (Or.inr (Or.inr (Or.inr (Or.inr (Or.inr (Or.inr (Or.inr (Or.inl rfl))))))))))))))))))))))
  · exact Or.inr (Or.inr (Or.inr (Or.inr (Or.inr (Or.inr (Or.inr (Or.inr (Or.inr (Or.inr (Or.inr (Or.inr (Or.inr (Or.inr (Or.inr (Or.inr (Or.inr (Or.inr (Or.inr (Or.inr (Or.inr (Or.inr (Or.inr (Or.inl rfl)))))))))))))))))))))))
  · exact Or.inr (Or.inr (Or.inr (Or.inr (Or.inr (Or.inr (Or.inr (Or.inr (Or.inr (Or.inr (Or.inr (Or.inr (Or.inr (Or.inr (Or.inr (Or.inr (Or.inr (Or.inr (Or.inr (Or.inr (Or.inr (Or.inr (Or.inr (Or.inr (Or.inl rfl))))))))))))))))))))))))
  · exact Or.inr (Or.inr (Or.inr (Or.inr (Or.inr (Or.inr (Or.inr (Or.inr (Or.inr (Or.inr (Or.inr (Or.inr (Or.inr (Or.inr (Or.inr (Or.inr (Or.inr (Or.inr (Or.inr (Or.inr (Or.inr (Or.inr (Or.inr (Or.inr (Or.inr (Or.inl rfl)))))))))))))))))))))))))
  · exact Or.inr (Or.inr (Or.inr (Or.inr (Or.inr (Or.inr (Or.inr (Or.inr (Or.inr (Or.inr (Or.inr (Or.inr (Or.inr (Or.inr (Or.inr (Or.inr (Or.inr (Or.inr (Or.inr (Or.inr (Or.inr (Or.inr (Or.inr (Or.inr (Or.inr (Or.inr (Or.inl rfl))))))))))))))))))))))))))
  · exact Or.inr (Or.inr (Or.inr (Or.inr (Or.inr (Or.inr (Or.inr (Or.inr (Or.inr (Or.inr (Or.inr (Or.inr (Or.inr (Or.inr (Or.inr (Or.inr (Or.inr (Or.inr (Or.inr (Or.inr (Or.inr (Or.inr (Or.inr (Or.inr (Or.inr (Or.inr (Or.inr (Or.inl rfl)))))))))))))))))))))))))))
  · exact Or.inr (Or.inr (Or.inr (Or.inr (Or.inr (Or.inr (Or.inr (Or.inr (Or.inr (Or.inr (Or.inr (Or.inr (Or.inr (Or.inr (Or.inr (Or.inr (Or.inr (Or.inr (Or.inr (Or.inr (Or.inr (Or.inr (Or.inr (Or.inr (Or.inr (Or.inr (Or.inr (Or.inr (Or.inl rfl))))))))))))))))))))))))))))
  · exact Or.inr (Or.inr (Or.inr (Or.inr (Or.inr (Or.inr (Or.inr (Or.inr (Or.inr (Or.inr (Or.inr (Or.inr (Or.inr (Or.inr (Or.inr (Or.inr (Or.inr (Or.inr (Or.inr (Or.inr (Or.inr (Or.inr (Or.inr (Or.inr (Or.inr (Or.inr (Or.inr (Or.inr (Or.inr (Or.inl rfl)))))))))))))))))))))))))))))
  · exact Or.inr (Or.inr (Or.inr (Or.inr (Or.inr (Or.inr (Or.inr (Or.inr (Or.inr (Or.inr (Or.inr (Or.inr (Or.inr (Or.inr (Or.inr (Or.inr (Or.inr (Or.inr (Or.inr (Or.inr (Or.inr (Or.inr (Or.inr (Or.inr (Or.inr (Or.inr (Or.inr (Or.inr (Or.inr (Or.inr (Or.inl rfl))))))))))))))))))))))))))))))
  · exact Or.inr (Or.inr (Or.inr (Or.inr (Or.inr (Or.inr (Or.inr (Or.inr (Or.inr (Or.inr (Or.inr (Or.inr (Or.inr (Or.inr (Or.inr (Or.inr (Or.inr (Or.inr (Or.inr (Or.inr (Or.inr (Or.inr (Or.inr (Or.inr (Or.inr (Or.inr (Or.inr (Or.inr (Or.inr (Or.inr (Or.inr (Or.inl rfl)))))))))))))))))))))))))))))))
  · exact Or.inr (Or.inr (Or.inr (Or.inr (Or.inr (Or.inr (Or.inr (Or.inr (Or.inr (Or.inr (Or.inr (Or.inr (Or.inr (Or.inr (Or.inr (Or.inr (Or.inr (Or.inr (Or.inr (Or.inr (Or.inr (Or.inr (Or.inr (Or.inr (Or.inr (Or.inr (Or.inr (Or.inr (Or.inr (Or.inr (Or.inr (Or.inr (Or.inl rfl))))))))))))))))))))))))))))))))
  · exact Or.inr (Or.inr (Or.inr (Or.inr (Or.inr (Or.inr (Or.inr (Or.inr (Or.inr (Or.inr (Or.inr (Or.inr (Or.inr (Or.inr (Or.inr (Or.inr (Or.inr (Or.inr (Or.inr (Or.inr (Or.inr (Or.inr (Or.inr (Or.inr (Or.inr (Or.inr (Or.inr (Or.inr (Or.inr (Or.inr (Or.inr (Or.inr (Or.inr (Or.inl rfl)))))))))))))))))))))))))))))))))
  · exact Or.inr (Or.inr (Or.inr (Or.inr (Or.inr (Or.inr (Or.inr (Or.inr (Or.inr (Or.inr (Or.inr (Or.inr (Or.inr (Or.inr (Or.inr (Or.inr (Or.inr (Or.inr (Or.inr (Or.inr (Or.inr (Or.inr (Or.inr (Or.inr (Or.inr (Or.inr (Or.inr (Or.inr (Or.inr (Or.inr (Or.inr (Or.inr (Or.inr (Or.inr (Or.inl rfl))))))))))))))))))))))))))))))))))
  · exact Or.inr (Or.inr (Or.inr (Or.inr (Or.inr (Or.inr (Or.inr (Or.inr (Or.inr (Or.inr (Or.inr (Or.inr (Or.inr (Or.inr (Or.inr (Or.inr (Or.inr (Or.inr (Or.inr (Or.inr (Or.inr (Or.inr (Or.inr (Or.inr (Or.inr (Or.inr (Or.inr (Or.inr (Or.inr (Or.inr (Or.inr (Or.inr (Or.inr (Or.inr (Or.inr (Or.inl rfl)))))))))))))))))))))))))))))))))))
  · exact Or.inr (Or.inr (Or.inr (Or.inr (Or.inr (Or.inr (Or.inr (Or.inr (Or.inr (Or.inr (Or.inr (Or.inr (Or.inr (Or.inr (Or.inr (Or.inr (Or.inr (Or.inr (Or.inr (Or.inr (Or.inr (Or.inr (Or.inr (Or.inr (Or.inr (Or.inr (Or.inr (Or.inr (Or.inr (Or.inr (Or.inr (Or.inr (Or.inr (Or.inr (Or.inr (Or.inr (Or.inl rfl))))))))))))))))))))))))))))))))))))
  · exact Or.inr (Or.inr (Or.inr (Or.inr (Or.inr (Or.inr (Or.inr (Or.inr (Or.inr (Or.inr (Or.inr (Or.inr (Or.inr (Or.inr (Or.inr (Or.inr (Or.inr (Or.inr (Or.inr (Or.inr (Or.inr (Or.inr (Or.inr (Or.inr (Or.inr (Or.inr (Or.inr (Or.inr (Or.inr (Or.inr (Or.inr (Or.inr (Or.inr (Or.inr (Or.inr (Or.inr (Or.inr (Or.inl rfl)))))))))))))))))))))))))))))))))))))
  · exact Or.inr (Or.inr (Or.inr (Or.inr (Or.inr (Or.inr (Or.inr (Or.inr (Or.inr (Or.inr (Or.inr (Or.inr (Or.inr (Or.inr (Or.inr (Or.inr (Or.inr (Or.inr (Or.inr (Or.inr (Or.inr (Or.inr (Or.inr (Or.inr (Or.inr (Or.inr (Or.inr (Or.inr (Or.inr (Or.inr (Or.inr (Or.inr (Or.inr (Or.inr (Or.inr (Or.inr (Or.inr (Or.inr (Or.inl rfl))))))))))))))))))))))))))))))))))))))
  · exact Or.inr (Or.inr (Or.inr (Or.inr (Or.inr (Or.inr (Or.inr (Or.inr (Or.inr (Or.inr (Or.inr (Or.inr (Or.inr (Or.inr (Or.inr (Or.inr (Or.inr (Or.inr (Or.inr (Or.inr (Or.inr (Or.inr (Or.inr (Or.inr (Or.inr (Or.inr (Or.inr (Or.inr (Or.inr (Or.inr (Or.inr (Or.inr (Or.inr (Or.inr (Or.inr (Or.inr (Or.inr (Or.inr (Or.inr (Or.inl rfl)))))))))))))))))))))))))))))))))))))))
  · exact Or.inr (Or.inr (Or.inr (Or.inr (Or.inr (Or.inr (Or.inr (Or.inr (Or.inr (Or.inr (Or.inr (Or.inr (Or.inr (Or.inr (Or.inr (Or.inr (Or.inr (Or.inr (Or.inr (Or.inr (Or.inr (Or.inr (Or.inr (Or.inr (Or.inr (Or.inr (Or.inr (Or.inr (Or.inr (Or.inr (Or.inr (Or.inr (Or.inr (Or.inr (Or.inr (Or.inr (Or.inr (Or.inr (Or.inr (Or.inr (Or.inl rfl))))))))))))))))))))))))))))))))))))))))
  · exact Or.inr (Or.inr (Or.inr (Or.inr (Or.inr (Or.inr (Or.inr (Or.inr (Or.inr (Or.inr (Or.inr (Or.inr (Or.inr (Or.inr (Or.inr (Or.inr (Or.inr (Or.inr (Or.inr (Or.inr (Or.inr (Or.inr (Or.inr (Or.inr (Or.inr (Or.inr (Or.inr (Or.inr (Or.inr (Or.inr (Or.inr (Or.inr (Or.inr (Or.inr (Or.inr (Or.inr (Or.inr (Or.inr (Or.inr (Or.inr (Or.inr (Or.inl rfl)))))))))))))))))))))))))))))))))))))))))
  · exact Or.inr (Or.inr (Or.inr (Or.inr (Or.inr (Or.inr (Or.inr (Or.inr (Or.inr (Or.inr (Or.inr (Or.inr (Or.inr (Or.inr (Or.inr (Or.inr (Or.inr (Or.inr (Or.inr (Or.inr (Or.inr (Or.inr (Or.inr (Or.inr (Or.inr (Or.inr (Or.inr (Or.inr (Or.inr (Or.inr (Or.inr (Or.inr (Or.inr (Or.inr (Or.inr (Or.inr (Or.inr (Or.inr (Or.inr (Or.inr (Or.inr (Or.inr (Or.inl rfl))))))))))))))))))))))))))))))))))))))))))
  · exact Or.inr (Or.inr (Or.inr (Or.inr (Or.inr (Or.inr (Or.inr (Or.inr (Or.inr (Or.inr (Or.inr (Or.inr (Or.inr (Or.inr (Or.inr (Or.inr (Or.inr (Or.inr (Or.inr (Or.inr (Or.inr (Or.inr (Or.inr (Or.inr (Or.inr (Or.inr (Or.inr (Or.inr (Or.inr (Or.inr (Or.inr (Or.inr (Or.inr (Or.inr (Or.inr (Or.inr (Or.inr (Or.inr (Or.inr (Or.inr (Or.inr (Or.inr (Or.inr (Or.inl rfl)))))))))))))))))))))))))))))))))))))))))))
  · exact Or.inr (Or.inr (Or.inr (Or.inr (Or.inr (Or.inr (Or.inr (Or.inr (Or.inr (Or.inr (Or.inr (Or.inr (Or.inr (Or.inr (Or.inr (Or.inr (Or.inr (Or.inr (Or.inr (Or.inr (Or.inr (Or.inr (Or.inr (Or.inr (Or.inr (Or.inr (Or.inr (Or.inr (Or.inr (Or.inr (Or.inr (Or.inr (Or.inr (Or.inr (Or.inr (Or.inr (Or.inr (Or.inr (Or.inr (Or.inr (Or.inr (Or.inr (Or.inr (Or.inr (Or.inl rfl))))))))))))))))))))))))))))))))))))))))))))
  · exact Or.inr (Or.inr (Or.inr (Or.inr (Or.inr (Or.inr (Or.inr (Or.inr (Or.inr (Or.inr (Or.inr (Or.inr (Or.inr (Or.inr (Or.inr (Or.inr (Or.inr (Or.inr (Or.inr (Or.inr (Or.inr (Or.inr (Or.inr (Or.inr (Or.inr (Or.inr (Or.inr (Or.inr (Or.inr (Or.inr (Or.inr (Or.inr (Or.inr (Or.inr (Or.inr (Or.inr (Or.inr (Or.inr (Or.inr (Or.inr (Or.inr (Or.inr (Or.inr (Or.inr (Or.inr (Or.inl rfl)))))))))))))))))))))))))))))))))))))))))))))
  · exact Or.inr (Or.inr (Or.inr (Or.inr (Or.inr (Or.inr (Or.inr (Or.inr (Or.inr (Or.inr (Or.inr (Or.inr (Or.inr (Or.inr (Or.inr (Or.inr (Or.inr (Or.inr (Or.inr (Or.inr (Or.inr (Or.inr (Or.inr (Or.inr (Or.inr (Or.inr (Or.inr (Or.inr (Or.inr (Or.inr (Or.inr (Or.inr (Or.inr (Or.inr (Or.inr (Or.inr (Or.inr (Or.inr (Or.inr (Or.inr (Or.inr (Or.inr (Or.inr (Or.inr (Or.inr (Or.inr (Or.inl rfl))))))))))))))))))))))))))))))))))))))))))))))
  · exact Or.inr (Or.inr (Or.inr (Or.inr (Or.inr (Or.inr (Or.inr (Or.inr (Or.inr (Or.inr (Or.inr (Or.inr (Or.inr (Or.inr (Or.inr (Or.inr (Or.inr (Or.inr (Or.inr (Or.inr (Or.inr (Or.inr (Or.inr (Or.inr (Or.inr (Or.inr (Or.inr (Or.inr (Or.inr (Or.inr (Or.inr (Or.inr (Or.inr (Or.inr (Or.inr (Or.inr (Or.inr (Or.inr (Or.inr (Or.inr (Or.inr (Or.inr (Or.inr (Or.inr (Or.inr (Or.inr (Or.inr (Or.inl rfl)))))))))))))))))))))))))))))))))))))))))))))))
  · exact Or.inr (Or.inr (Or.inr (Or.inr (Or.inr (Or.inr (Or.inr (Or.inr (Or.inr (Or.inr (Or.inr (Or.inr (Or.inr (Or.inr (Or.inr (Or.inr (Or.inr (Or.inr (Or.inr (Or.inr (Or.inr (Or.inr (Or.inr (Or.inr (Or.inr (Or.inr (Or.inr (Or.inr (Or.inr (Or.inr (Or.inr (Or.inr (Or.inr (Or.inr (Or.inr (Or.inr (Or.inr (Or.inr (Or.inr (Or.inr (Or.inr (Or.inr (Or.inr (Or.inr (Or.inr (Or.inr (Or.inr (Or.inr (Or.inl rfl))))))))))))))))))))))))))))))))))))))))))))))))
  · exact Or.inr (Or.inr (Or.inr (Or.inr (Or.inr (Or.inr (Or.inr (Or.inr (Or.inr (Or.inr (Or.inr (Or.inr (Or.inr (Or.inr (Or.inr (Or.inr (Or.inr (Or.inr (Or.inr (Or.inr (Or.inr (Or.inr (Or.inr (Or.inr (Or.inr (Or.inr (Or.inr (Or.inr (Or.inr (Or.inr (Or.inr (Or.inr (Or.inr (Or.inr (Or.inr (Or.inr (Or.inr (Or.inr (Or.inr (Or.inr (Or.inr (Or.inr (Or.inr (Or.inr (Or.inr (Or.inr (Or.inr (Or.inr (Or.inr (Or.inl rfl)))))))))))))))))))))))))))))))))))))))))))))))))
  · exact Or.inr (Or.inr (Or.inr (Or.inr (Or.inr (Or.inr (Or.inr (Or.inr (Or.inr (Or.inr (Or.inr (Or.inr (Or.inr (Or.inr (Or.inr (Or.inr (Or.inr (Or.inr (Or.inr (Or.inr (Or.inr (Or.inr (Or.inr (Or.inr (Or.inr (Or.inr (Or.inr (Or.inr (Or.inr (Or.inr (Or.inr (Or.inr (Or.inr (Or.inr (Or.inr (Or.inr (Or.inr (Or.inr (Or.inr (Or.inr (Or.inr (Or.inr (Or.inr (Or.inr (Or.inr (Or.inr (Or.inr (Or.inr (Or.inr (Or.inr (Or.inl rfl))))))))))))))))))))))))))))))))))))))))))))))))))
  · exact Or.inr (Or.inr (Or.inr (Or.inr (Or.inr (Or.inr (Or.inr (Or.inr (Or.inr (Or.inr (Or.inr (Or.inr (Or.inr (Or.inr (Or.inr (Or.inr (Or.inr (Or.inr (Or.inr (Or.inr (Or.inr (Or.inr (Or.inr (Or.inr (Or.inr (Or.inr (Or.inr (Or.inr (Or.inr (Or.inr (Or.inr (Or.inr (Or.inr (Or.inr (Or.inr (Or.inr (Or.inr (Or.inr (Or.inr (Or.inr (Or.inr (Or.inr (Or.inr (Or.inr (Or.inr (Or.inr (Or.inr (Or.inr (Or.inr (Or.inr (Or.inr (Or.inl rfl)))))))))))))))))))))))))))))))))))))))))))))))))))
  · exact Or.inr (Or.inr (Or.inr (Or.inr (Or.inr (Or.inr (Or.inr (Or.inr (Or.inr (Or.inr (Or.inr (Or.inr (Or.inr (Or.inr (Or.inr (Or.inr (Or.inr (Or.inr (Or.inr (Or.inr (Or.inr (Or.inr (Or.inr (Or.inr (Or.inr (Or.inr (Or.inr (Or.inr (Or.inr (Or.inr (Or.inr (Or.inr (Or.inr (Or.inr (Or.inr (Or.inr (Or.inr (Or.inr (Or.inr (Or.inr (Or.inr (Or.inr (Or.inr (Or.inr (Or.inr (Or.inr (Or.inr (Or.inr (Or.inr (Or.inr (Or.inr (Or.inr (Or.inl rfl))))))))))))))))))))))))))))))))))))))))))))))))))))
  · exact Or.inr (Or.inr (Or.inr (Or.inr (Or.inr (Or.inr (Or.inr (Or.inr (Or.inr (Or.inr (Or.inr (Or.inr (Or.inr (Or.inr (Or.inr (Or.inr (Or.inr (Or.inr (Or.inr (Or.inr (Or.inr (Or.inr (Or.inr (Or.inr (Or.inr (Or.inr (Or.inr (Or.inr (Or.inr (Or.inr (Or.inr (Or.inr (Or.inr (Or.inr (Or.inr (Or.inr (Or.inr (Or.inr (Or.inr (Or.inr (Or.inr (Or.inr (Or.inr (Or.inr (Or.inr (Or.inr (Or.inr (Or.inr (Or.inr (Or.inr (Or.inr (Or.inr (Or.inr (Or.inl rfl)))))))))))))))))))))))))))))))))))))))))))))))))))))
  · exact Or.inr (Or.inr (Or.inr (Or.inr (Or.inr (Or.inr (Or.inr (Or.inr (Or.inr (Or.inr (Or.inr (Or.inr (Or.inr (Or.inr (Or.inr (Or.inr (Or.inr (Or.inr (Or.inr (Or.inr (Or.inr (Or.inr (Or.inr (Or.inr (Or.inr (Or.inr (Or.inr (Or.inr (Or.inr (Or.inr (Or.inr (Or.inr (Or.inr (Or.inr (Or.inr (Or.inr (Or.inr (Or.inr (Or.inr (Or.inr (Or.inr (Or.inr (Or.inr (Or.inr (Or.inr (Or.inr (Or.inr (Or.inr (Or.inr (Or.inr (Or.inr (Or.inr (Or.inr (Or.inr (Or.inl rfl))))))))))))))))))))))))))))))))))))))))))))))))))))))
  · exact Or.inr (Or.inr (Or.inr (Or.inr (Or.inr (Or.inr (Or.inr (Or.inr (Or.inr (Or.inr (Or.inr (Or.inr (Or.inr (Or.inr (Or.inr (Or.inr (Or.inr (Or.inr (Or.inr (Or.inr (Or.inr (Or.inr (Or.inr (Or.inr (Or.inr (Or.inr (Or.inr (Or.inr (Or.inr (Or.inr (Or.inr (Or.inr (Or.inr (Or.inr (Or.inr (Or.inr (Or.inr (Or.inr (Or.inr (Or.inr (Or.inr (Or.inr (Or.inr (Or.inr (Or.inr (Or.inr (Or.inr (Or.inr (Or.inr (Or.inr (Or.inr (Or.inr (Or.inr (Or.inr (Or.inr (Or.inl rfl)))))))))))))))))))))))))))))))))))))))))))))))))))))))
  · exact Or.inr (Or.inr (Or.inr (Or.inr (Or.inr (Or.inr (Or.inr (Or.inr (Or.inr (Or.inr (Or.inr (Or.inr (Or.inr (Or.inr (Or.inr (Or.inr (Or.inr (Or.inr (Or.inr (Or.inr (Or.inr (Or.inr (Or.inr (Or.inr (Or.inr (Or.inr (Or.inr (Or.inr (Or.inr (Or.inr (Or.inr (Or.inr (Or.inr (Or.inr (Or.inr (Or.inr (Or.inr (Or.inr (Or.inr (Or.inr (Or.inr (Or.inr (Or.inr (Or.inr (Or.inr (Or.inr (Or.inr (Or.inr (Or.inr (Or.inr (Or.inr (Or.inr (Or.inr (Or.inr (Or.inr (Or.inr (Or.inl rfl))))))))))))))))))))))))))))))))))))))))))))))))))))))))
  · exact Or.inr (Or.inr (Or.inr (Or.inr (Or.inr (Or.inr (Or.inr (Or.inr (Or.inr (Or.inr (Or.inr (Or.inr (Or.inr (Or.inr (Or.inr (Or.inr (Or.inr (Or.inr (Or.inr (Or.inr (Or.inr (Or.inr (Or.inr (Or.inr (Or.inr (Or.inr (Or.inr (Or.inr (Or.inr (Or.inr (Or.inr (Or.inr (Or.inr (Or.inr (Or.inr (Or.inr (Or.inr (Or.inr (Or.inr (Or.inr (Or.inr (Or.inr (Or.inr (Or.inr (Or.inr (Or.inr (Or.inr (Or.inr (Or.inr (Or.inr (Or.inr (Or.inr (Or.inr (Or.inr (Or.inr (Or.inr (Or.inr (Or.inl rfl)))))))))))))))))))))))))))))))))))))))))))))))))))))))))
  · exact Or.inr (Or.inr (Or.inr (Or.inr (Or.inr (Or.inr (Or.inr (Or.inr (Or.inr (Or.inr (Or.inr (Or.inr (Or.inr (Or.inr (Or.inr (Or.inr (Or.inr (Or.inr (Or.inr (Or.inr (Or.inr (Or.inr (Or.inr (Or.inr (Or.inr (Or.inr (Or.inr (Or.inr (Or.inr (Or.inr (Or.inr (Or.inr (Or.inr (Or.inr (Or.inr (Or.inr (Or.inr (Or.inr (Or.inr (Or.inr (Or.inr (Or.inr (Or.inr (Or.inr (Or.inr (Or.inr (Or.inr (Or.inr (Or.inr (Or.inr (Or.inr (Or.inr (Or.inr (Or.inr (Or.inr (Or.inr (Or.inr (Or.inr (Or.inl rfl))))))))))))))))))))))))))))))))))))))))))))))))))))))))))
  · exact Or.inr (Or.inr (Or.inr (Or.inr (Or.inr (Or.inr (Or.inr (Or.inr (Or.inr (Or.inr (Or.inr (Or.inr (Or.inr (Or.inr (Or.inr (Or.inr (Or.inr (Or.inr (Or.inr (Or.inr (Or.inr (Or.inr (Or.inr (Or.inr (Or.inr (Or.inr (Or.inr (Or.inr (Or.inr (Or.inr (Or.inr (Or.inr (Or.inr (Or.inr (Or.inr (Or.inr (Or.inr (Or.inr (Or.inr (Or.inr (Or.inr (Or.inr (Or.inr (Or.inr (Or.inr (Or.inr (Or.inr (Or.inr (Or.inr (Or.inr (Or.inr (Or.inr (Or.inr (Or.inr (Or.inr (Or.inr (Or.inr (Or.inr (Or.inr (Or.inl rfl)))))))))))))))))))))))))))))))))))))))))))))))))))))))))))
  · exact Or.inr (Or.inr (Or.inr (Or.inr (Or.inr (Or.inr (Or.inr (Or.inr (Or.inr (Or.inr (Or.inr (Or.inr (Or.inr (Or.inr (Or.inr (Or.inr (Or.inr (Or.inr (Or.inr (Or.inr (Or.inr (Or.inr (Or.inr (Or.inr (Or.inr (Or.inr (Or.inr (Or.inr (Or.inr (Or.inr (Or.inr (Or.inr (Or.inr (Or.inr (Or.inr (Or.inr (Or.inr (Or.inr (Or.inr (Or.inr (Or.inr (Or.inr (Or.inr (Or.inr (Or.inr (Or.inr (Or.inr (Or.inr (Or.inr (Or.inr (Or.inr (Or.inr (Or.inr (Or.inr (Or.inr (Or.inr (Or.inr (Or.inr (Or.inr (Or.inr (Or.inl rfl))))))))))))))))))))))))))))))))))))))))))))))))))))))))))))
  · exact Or.inr (Or.inr (Or.inr (Or.inr (Or.inr (Or.inr (Or.inr (Or.inr (Or.inr (Or.inr (Or.inr (Or.inr (Or.inr (Or.inr (Or.inr (Or.inr (Or.inr (Or.inr (Or.inr (Or.inr (Or.inr (Or.inr (Or.inr (Or.inr (Or.inr (Or.inr (Or.inr (Or.inr (Or.inr (Or.inr (Or.inr (Or.inr (Or.inr (Or.inr (Or.inr (Or.inr (Or.inr (Or.inr (Or.inr (Or.inr (Or.inr (Or.inr (Or.inr (Or.inr (Or.inr (Or.inr (Or.inr (Or.inr (Or.inr (Or.inr (Or.inr (Or.inr (Or.inr (Or.inr (Or.inr (Or.inr (Or.inr (Or.inr (Or.inr (Or.inr (Or.inr (Or.inl rfl)))))))))))))))))))))))))))))))))))))))))))))))))))))))))))))
  · exact Or.inr (Or.inr (Or.inr (Or.inr (Or.inr (Or.inr (Or.inr (Or.inr (Or.inr (Or.inr (Or.inr (Or.inr (Or.inr (Or.inr (Or.inr (Or.inr (Or.inr (Or.inr (Or.inr (Or.inr (Or.inr (Or.inr (Or.inr (Or.inr (Or.inr (Or.inr (Or.inr (Or.inr (Or.inr (Or.inr (Or.inr (Or.inr (Or.inr (Or.inr (Or.inr (Or.inr (Or.inr (Or.inr (Or.inr (Or.inr (Or.inr (Or.inr (Or.inr (Or.inr (Or.inr (Or.inr (Or.inr (Or.inr (Or.inr (Or.inr (Or.inr (Or.inr (Or.inr (Or.inr (Or.inr (Or.inr (Or.inr (Or.inr (Or.inr (Or.inr (Or.inr (Or.inr (Or.inl rfl))))))))))))))))))))))))))))))))))))))))))))))))))))))))))))))
  · exact Or.inr (Or.inr (Or.inr (Or.inr (Or.inr (Or.inr (Or.inr (Or.inr (Or.inr (Or.inr (Or.inr (Or.inr (Or.inr (Or.inr (Or.inr (Or.inr (Or.inr (Or.inr (Or.inr (Or.inr (Or.inr (Or.inr (Or.inr (Or.inr (Or.inr (Or.inr (Or.inr (Or.inr (Or.inr (Or.inr (Or.inr (Or.inr (Or.inr (Or.inr (Or.inr (Or.inr (Or.inr (Or.inr (Or.inr (Or.inr (Or.inr (Or.inr (Or.inr (Or.inr (Or.inr (Or.inr (Or.inr (Or.inr (Or.inr (Or.inr (Or.inr (Or.inr (Or.inr (Or.inr (Or.inr (Or.inr (Or.inr (Or.inr (Or.inr (Or.inr (Or.inr (Or.inr (Or.inr (Or.inl rfl)))))))))))))))))))))))))))))))))))))))))))))))))))))))))))))))
  · exact Or.inr (Or.inr (Or.inr (Or.inr (Or.inr (Or.inr (Or.inr (Or.inr (Or.inr (Or.inr (Or.inr (Or.inr (Or.inr (Or.inr (Or.inr (Or.inr (Or.inr (Or.inr (Or.inr (Or.inr (Or.inr (Or.inr (Or.inr (Or.inr (Or.inr (Or.inr (Or.inr (Or.inr (Or.inr (Or.inr (Or.inr (Or.inr (Or.inr (Or.inr (Or.inr (Or.inr (Or.inr (Or.inr (Or.inr (Or.inr (Or.inr (Or.inr (Or.inr (Or.inr (Or.inr (Or.inr (Or.inr (Or.inr (Or.inr (Or.inr (Or.inr (Or.inr (Or.inr (Or.inr (Or.inr (Or.inr (Or.inr (Or.inr (Or.inr (Or.inr (Or.inr (Or.inr (Or.inr (Or.inr (Or.inl rfl))))))))))))))))))))))))))))))))))))))))))))))))))))))))))))))))
  · exact Or.inr (Or.inr (Or.inr (Or.inr (Or.inr (Or.inr (Or.inr (Or.inr (Or.inr (Or.inr (Or.inr (Or.inr (Or.inr (Or.inr (Or.inr (Or.inr (Or.inr (Or.inr (Or.inr (Or.inr (Or.inr (Or.inr (Or.inr (Or.inr (Or.inr (Or.inr (Or.inr (Or.inr (Or.inr (Or.inr (Or.inr (Or.inr (Or.inr (Or.inr (Or.inr (Or.inr (Or.inr (Or.inr (Or.inr (Or.inr (Or.inr (Or.inr (Or.inr (Or.inr (Or.inr (Or.inr (Or.inr (Or.inr (Or.inr (Or.inr (Or.inr (Or.inr (Or.inr (Or.inr (Or.inr (Or.inr (Or.inr (Or.inr (Or.inr (Or.inr (Or.inr (Or.inr (Or.inr (Or.inr (Or.inr (Or.inl rfl)))))))))))))))))))))))))))))))))))))))))))))))))))))))))))))))))
  · exact Or.inr (Or.inr (Or.inr (Or.inr (Or.inr (Or.inr (Or.inr (Or.inr (Or.inr (Or.inr (Or.inr (Or.inr (Or.inr (Or.inr (Or.inr (Or.inr (Or.inr (Or.inr (Or.inr (Or.inr (Or.inr (Or.inr (Or.inr (Or.inr (Or.inr (Or.inr (Or.inr (Or.inr (Or.inr (Or.inr (Or.inr (Or.inr (Or.inr (Or.inr (Or.inr (Or.inr (Or.inr (Or.inr (Or.inr (Or.inr (Or.inr (Or.inr (Or.inr (Or.inr (Or.inr (Or.inr (Or.inr (Or.inr (Or.inr (Or.inr (Or.inr (Or.inr (Or.inr (Or.inr (Or.inr (Or.inr (Or.inr (Or.inr (Or.inr (Or.inr (Or.inr (Or.inr (Or.inr (Or.inr (Or.inr (Or.inr (Or.inl rfl))))))))))))))))))))))))))))))))))))))))))))))))))))))))))))))))))
  · exact Or.inr (Or.inr (Or.inr (Or.inr (Or.inr (Or.inr (Or.inr (Or.inr (Or.inr (Or.inr (Or.inr (Or.inr (Or.inr (Or.inr (Or.inr (Or.inr (Or.inr (Or.inr (Or.inr (Or.inr (Or.inr (Or.inr (Or.inr (Or.inr (Or.inr (Or.inr (Or.inr (Or.inr (Or.inr (Or.inr (Or.inr (Or.inr (Or.inr (Or.inr (Or.inr (Or.inr (Or.inr (Or.inr (Or.inr (Or.inr (Or.inr (Or.inr (Or.inr (Or.inr (Or.inr (Or.inr (Or.inr (Or.inr (Or.inr (Or.inr (Or.inr (Or.inr (Or.inr (Or.inr (Or.inr (Or.inr (Or.inr (Or.inr (Or.inr (Or.inr (Or.inr (Or.inr (Or.inr (Or.inr (Or.inr (Or.inr (Or.inr (Or.inl rfl)))))))))))))))))))))))))))))))))))))))))))))))))))))))))))))))))))
  · exact Or.inr (Or.inr (Or.inr (Or.inr (Or.inr (Or.inr (Or.inr (Or.inr (Or.inr (Or.inr (Or.inr (Or.inr (Or.inr (Or.inr (Or.inr (Or.inr (Or.inr (Or.inr (Or.inr (Or.inr (Or.inr (Or.inr (Or.inr (Or.inr (Or.inr (Or.inr (Or.inr (Or.inr (Or.inr (Or.inr (Or.inr (Or.inr (Or.inr (Or.inr (Or.inr (Or.inr (Or.inr (Or.inr (Or.inr (Or.inr (Or.inr (Or.inr (Or.inr (Or.inr (Or.inr (Or.inr (Or.inr (Or.inr (Or.inr (Or.inr (Or.inr (Or.inr (Or.inr (Or.inr (Or.inr (Or.inr (Or.inr (Or.inr (Or.inr (Or.inr (Or.inr (Or.inr (Or.inr (Or.inr (Or.inr (Or.inr (Or.inr (Or.inr (Or.inl rfl))))))))))))))))))))))))))))))))))))))))))))))))))))))))))))))))))))
  · exact Or.inr (Or.inr (Or.inr (Or.inr (Or.inr (Or.inr (Or.inr (Or.inr (Or.inr (Or.inr (Or.inr (Or.inr (Or.inr (Or.inr (Or.inr (Or.inr (Or.inr (Or.inr (Or.inr (Or.inr (Or.inr (Or.inr (Or.inr (Or.inr (Or.inr (Or.inr (Or.inr (Or.inr (Or.inr (Or.inr (Or.inr (Or.inr (Or.inr (Or.inr (Or.inr (Or.inr (Or.inr (Or.inr (Or.inr (Or.inr (Or.inr (Or.inr (Or.inr (Or.inr (Or.inr (Or.inr (Or.inr (Or.inr (Or.inr (Or.inr (Or.inr (Or.inr (Or.inr (Or.inr (Or.inr (Or.inr (Or.inr (Or.inr (Or.inr (Or.inr (Or.inr (Or.inr (Or.inr (Or.inr (Or.inr (Or.inr (Or.inr (Or.inr (Or.inr (Or.inl rfl)))))))))))))))))))))))))))))))))))))))))))))))))))))))))))))))))))))
  · exact Or.inr (Or.inr (Or.inr (Or.inr (Or.inr (Or.inr (Or.inr (Or.inr (Or.inr (Or.inr (Or.inr (Or.inr (Or.inr (Or.inr (Or.inr (Or.inr (Or.inr (Or.inr (Or.inr (Or.inr (Or.inr (Or.inr (Or.inr (Or.inr (Or.inr (Or.inr (Or.inr (Or.inr (Or.inr (Or.inr (Or.inr (Or.inr (Or.inr (Or.inr (Or.inr (Or.inr (Or.inr (Or.inr (Or.inr (Or.inr (Or.inr (Or.inr (Or.inr (Or.inr (Or.inr (Or.inr (Or.inr (Or.inr (Or.inr (Or.inr (Or.inr (Or.inr (Or.inr (Or.inr (Or.inr (Or.inr (Or.inr (Or.inr (Or.inr (Or.inr (Or.inr (Or.inr (Or.inr (Or.inr (Or.inr (Or.inr (Or.inr (Or.inr (Or.inr (Or.inr (Or.inl rfl))))))))))))))))))))))))))))))))))))))))))))))))))))))))))))))))))))))
  · exact Or.inr (Or.inr (Or.inr (Or.inr (Or.inr (Or.inr (Or.inr (Or.inr (Or.inr (Or.inr (Or.inr (Or.inr (Or.inr (Or.inr (Or.inr (Or.inr (Or.inr (Or.inr (Or.inr (Or.inr (Or.inr (Or.inr (Or.inr (Or.inr (Or.inr (Or.inr (Or.inr (Or.inr (Or.inr (Or.inr (Or.inr (Or.inr (Or.inr (Or.inr (Or.inr (Or.inr (Or.inr (Or.inr (Or.inr (Or.inr (Or.inr (Or.inr (Or.inr (Or.inr (Or.inr (Or.inr (Or.inr (Or.inr (Or.inr (Or.inr (Or.inr (Or.inr (Or.inr (Or.inr (Or.inr (Or.inr (Or.inr (Or.inr (Or.inr (Or.inr (Or.inr (Or.inr (Or.inr (Or.inr (Or.inr (Or.inr (Or.inr (Or.inr (Or.inr (Or.inr (Or.inr (Or.inl rfl)))))))))))))))))))))))))))))))))))))))))))))))))))))))))))))))))))))))
  · exact Or.inr (Or.inr (Or.inr (Or.inr (Or.inr (Or.inr (Or.inr (Or.inr (Or.inr (Or.inr (Or.inr (Or.inr (Or.inr (Or.inr (Or.inr (Or.inr (Or.inr (Or.inr (Or.inr (Or.inr (Or.inr (Or.inr (Or.inr (Or.inr (Or.inr (Or.inr (Or.inr (Or.inr (Or.inr (Or.inr (Or.inr (Or.inr (Or.inr (Or.inr (Or.inr (Or.inr (Or.inr (Or.inr (Or.inr (Or.inr (Or.inr (Or.inr (Or.inr (Or.inr (Or.inr (Or.inr (Or.inr (Or.inr (Or.inr (Or.inr (Or.inr (Or.inr (Or.inr (Or.inr (Or.inr (Or.inr (Or.inr (Or.inr (Or.inr (Or.inr (Or.inr (Or.inr (Or.inr (Or.inr (Or.inr (Or.inr (Or.inr (Or.inr (Or.inr (Or.inr (Or.inr (Or.inr (Or.inl rfl))))))))))))))))))))))))))))))))))))))))))))))))))))))))))))))))))))))))
  · exact Or.inr (Or.inr (Or.inr (Or.inr (Or.inr (Or.inr (Or.inr (Or.inr (Or.inr (Or.inr (Or.inr (Or.inr (Or.inr (Or.inr (Or.inr (Or.inr (Or.inr (Or.inr (Or.inr (Or.inr (Or.inr (Or.inr (Or.inr (Or.inr (Or.inr (Or.inr (Or.inr (Or.inr (Or.inr (Or.inr (Or.inr (Or.inr (Or.inr (Or.inr (Or.inr (Or.inr (Or.inr (Or.inr (Or.inr (Or.inr (Or.inr (Or.inr (Or.inr (Or.inr (Or.inr (Or.inr (Or.inr (Or.inr (Or.inr (Or.inr (Or.inr (Or.inr (Or.inr (Or.inr (Or.inr (Or.inr (Or.inr (Or.inr (Or.inr (Or.inr (Or.inr (Or.inr (Or.inr (Or.inr (Or.inr (Or.inr (Or.inr (Or.inr (Or.inr (Or.inr (Or.inr (Or.inr (Or.inr (rfl)))))))))))))))))))))))))))))))))))))))))))))))))))))))))))))))))))))))))
  · exact Or.inl rfl
theorem kl_x {X : am_X} {i : am_I} {S : am_S} {r : am_RR} (hx : am_x X i S = some r) : ∃ k, am_kl k S r := by
  obtain ⟨op, os, c⟩ := i
  unfold am_x at hx
  dsimp only at hx
  rcases am_h_cases op with h | rfl | rfl | rfl | rfl | rfl | rfl | rfl | rfl | rfl | rfl | rfl | rfl | rfl | rfl | rfl | rfl | rfl | rfl | rfl | rfl | rfl | rfl | rfl | rfl | rfl | rfl | rfl | rfl | rfl | rfl | rfl | rfl | rfl | rfl | rfl | rfl | rfl | rfl | rfl | rfl | rfl | rfl | rfl | rfl | rfl | rfl | rfl | rfl | rfl | rfl | rfl | rfl | rfl | rfl | rfl | rfl | rfl | rfl | rfl | rfl | rfl | rfl | rfl | rfl | rfl | rfl | rfl | rfl | rfl | rfl | rfl | rfl | rfl
  · rw [h] at hx
    cases hx
  · exact @kh_0 os c X S r hx
  · exact @kh_1 os c X S r hx
  · exact @kh_2 os c X S r hx
  · exact @kh_3 os c X S r hx
  · exact @kh_4 os c X S r hx
  · exact @kh_5 os c X S r hx
  · exact @kh_6 os c X S r hx
  · exact @kh_7 os c X S r hx
  · exact @kh_8 os c X S r hx
  · exact @kh_9 os c X S r hx
  · exact @kh_10 os c X S r hx
  · exact @kh_11 os c X S r hx
  · exact @kh_12 os c X S r hx
  · exact @kh_13 os c X S r hx
  · exact @kh_14 os c X S r hx
  · exact @kh_15 os c X S r hx
  · exact @kh_16 os c X S r hx
  · exact @kh_17 os c X S r hx
  · exact @kh_18 os c X S r hx
  · exact @kh_19 os c X S r hx
  · exact @kh_20 os c X S r hx
  · exact @kh_21 os c X S r hx
  · exact @kh_22 os c X S r hx
  · exact @kh_23 os c X S r hx
  · exact @kh_24 os c X S r hx
  · exact @kh_25 os c X S r hx
  · exact @kh_26 os c X S r hx
  · exact @kh_27 os c X S r hx
  · exact @kh_28 os c X S r hx
  · exact @kh_29 os c X S r hx
  · exact @kh_30 os c X S r hx
  · exact @kh_31 os c X S r hx
  · exact @kh_32 os c X S r hx
  · exact @kh_33 os c X S r hx
  · exact @kh_34 os c X S r hx
  · exact @kh_35 os c X S r hx
  · exact @kh_36 os c X S r hx
  · exact @kh_37 os c X S r hx
  · exact @kh_38 os c X S r hx
  · exact @kh_39 os c X S r hx
  · exact @kh_40 os c X S r hx
  · exact @kh_41 os c X S r hx
  · exact @kh_42 os c X S r hx
  · exact @kh_43 os c X S r hx
  · exact @kh_44 os c X S r hx
  · exact @kh_45 os c X S r hx
  · exact @kh_46 os c X S r hx
  · exact @kh_47 os c X S r hx
  · exact @kh_49 os c X S r hx
  · exact @kh_50 os c X S r hx
  · exact @kh_51 os c X S r hx
  · exact @kh_52 os c X S r hx
  · exact @kh_53 os c X S r hx
  · exact @kh_54 os c X S r hx
  · exact @kh_55 os c X S r hx
  · exact @kh_56 os c X S r hx
  · exact @kh_57 os c X S r hx
  · exact @kh_58 os c X S r hx
  · exact @kh_59 os c X S r hx
  · exact @kh_60 os c X S r hx
  · exact @kh_61 os c X S r hx
  · exact @kh_62 os c X S r hx
  · exact @kh_63 os c X S r hx
  · exact @kh_64 os c X S r hx
  · exact @kh_65 os c X S r hx
  · exact @kh_66 os c X S r hx
  · exact @kh_67 os c X S r hx
  · exact @kh_68 os c X S r hx
  · exact @kh_69 os c X S r hx
  · exact @kh_70 os c X S r hx
  · exact @kh_71 os c X S r hx
  · exact @kh_72 os c X S r hx
  · exact @kh_73 os c X S r hx
