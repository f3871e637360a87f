/-! what every walk uses -/
theorem go_at {X : am_X} {d : Nat} {k : Nat → List am_I} {pc : Nat} {blk : List am_I} {S : am_S} {Q : Option Value → am_H → Prop} (e : k pc = blk) (h : am_D X d k Q (am_b X blk S)) : am_Go X d k pc S Q := by
  subst e
  exact go_step h
theorem st_s {x : Value} {st : List Value} : am_st (some x) st = x :: st := rfl
theorem st_n {st : List Value} : am_st none st = st := rfl
theorem cat0 : am_cat [] ≤ 8 ↔ True := by simp [am_cat]
theorem cat1 {x : Value} : am_cat [x] ≤ 8 ↔ True := by cases x <;> simp [am_cat, Value.category]
theorem cat2 {x y : Value} : am_cat [x, y] ≤ 8 ↔ True := by cases x <;> cases y <;> simp [am_cat, Value.category]
theorem cat3 {x y z : Value} : am_cat [x, y, z] ≤ 8 ↔ True := by cases x <;> cases y <;> cases z <;> simp [am_cat, Value.category]
theorem am_u_at {v : Nat → Nat → Int32} {a k : Nat} {x : Int32} : am_u v a k x a = upd (v a) k x := by
  unfold am_u
  rw [if_pos rfl]
theorem am_u_ne {v : Nat → Nat → Int32} {a b k : Nat} {x : Int32} (h : b ≠ a) : am_u v a k x b = v b := by
  unfold am_u
  rw [if_neg h]
theorem upd_at {f : Nat → Int32} {k : Nat} {x : Int32} : upd f k x k = x := by simp [upd]
theorem upd_ne {f : Nat → Int32} {k j : Nat} {x : Int32} (h : j ≠ k) : upd f k x j = f j := by simp [upd, h]
/-- a loop whose states are known beforehand -/
theorem go_loop {X : am_X} {d : Nat} {k : Nat → List am_I} {pc : Nat} {Q : Option Value → am_H → Prop} (s : Nat → am_S) (N : Nat) (body : ∀ i, i < N → am_Go X d k pc (s (i + 1)) Q → am_Go X d k pc (s i) Q) (fin : am_Go X d k pc (s N) Q) : am_Go X d k pc (s 0) Q := by
  have h : ∀ j, j ≤ N → am_Go X d k pc (s (N - j)) Q := by
    intro j
    induction j with
    | zero => intro _; exact fin
    | succ j ih =>
      intro hj
      refine body (N - (j + 1)) (by omega) ?_
      rw [show N - (j + 1) + 1 = N - j by omega]
      exact ih (by omega)
  have := h N (Nat.le_refl _)
  rwa [Nat.sub_self] at this
def am_cc (x : Value) : Bool := decide (x.category = 1)
theorem fr_z {ls : List Value} : am_fr ls 0 = true := rfl
theorem fr_s {ls : List Value} {k : Nat} : am_fr ls (k + 1) = am_cc (ls.getD k .null) := rfl
theorem cc_I {x : Int32} : am_cc (.int x) = true := rfl
theorem cc_A {x : Nat} : am_cc (.ref x) = true := rfl
theorem cc_N : am_cc .null = true := rfl
theorem cc_F {x : UInt32} : am_cc (.float x) = true := rfl
theorem z1_0 : am_z1 (nI 0) = true := rfl
theorem z1_1 : am_z1 (nI 1) = true := rfl
