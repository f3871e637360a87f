/-! laid by wip/whole/h7.py: cells that are not made, slots that are not there -/
def bdR : am_K → Nat
  | .inl c => if c = 9 then 64 else 12
  | .inr q => if q.1 = 4 then q.2 else 0
def bdV : am_K → Nat
  | .inl _ => 64
  | .inr q => q.2
def HU (h : am_H) : Prop := (∀ a, h.1 ≤ a → h.2.2.1 a = .inl 0) ∧ (∀ a k, (h.1 ≤ a ∨ bdR (h.2.2.1 a) ≤ k) → h.2.2.2.1 a k = none) ∧ ∀ a k, (h.1 ≤ a ∨ bdV (h.2.2.1 a) ≤ k) → h.2.2.2.2.1 a k = 0
def am_rh : am_RR → am_H
  | .inl S => S.2.2
  | .inr (.inl (_, S)) => S.2.2
  | .inr (.inr (.inl (_, h))) => h
  | .inr (.inr (.inr (_, _, _, S))) => S.2.2
def slB (i : am_I) : Bool := [0, 1, 2, 3, 4, 5, 6, 7, 10, 12, 13, 14, 23, 24, 26, 30, 31, 33, 34, 35, 37, 38, 40, 43, 45, 46, 47, 49, 50, 51, 53, 54, 55, 56, 57, 58, 59, 60, 61, 62, 63].contains i.1 && (!decide (i.1 = 35) || decide (i.2.1.getD 2 0 < 64)) && (!decide (i.1 = 37) || decide (i.2.1.getD 2 0 < (if i.2.1.getD 1 0 = 9 then 64 else 12)))
theorem hu_putI {c k : Nat} {ok : Int32 → Bool} {S : am_S} {r : am_RR} (hk : k < 64) (hx : am_putI c k S ok = some r) (hu : HU S.2.2) : HU (am_rh r) := by
  unfold am_putI at hx
  split at hx
  · rename_i ls x a st n sl kd r0 v w
    split at hx
    · rename_i hc
      cases hx
      rw [Bool.and_eq_true] at hc
      have ho := hc.1
      unfold am_ob at ho
      simp only [Bool.and_eq_true, decide_eq_true_eq] at ho
      obtain ⟨u1, u2, u3⟩ := hu
      refine ⟨u1, u2, fun b j hj => ?_⟩
      show am_u v a k x b j = 0
      by_cases e : b = a
      · subst e
        have hb : bdV (kd b) = 64 := by rw [ho.2]; rfl
        have hj : n ≤ b ∨ bdV (kd b) ≤ j := hj
        rw [am_u_at, upd_ne (by omega)]
        exact u3 b j hj
      · rw [am_u_ne e]
        exact u3 b j hj
    · cases hx
  · cases hx
theorem uR_at {r : Nat → Nat → Option Nat} {a k : Nat} {x : Option Nat} : am_uR r a k x a k = x := by unfold am_uR va_up; rw [if_pos rfl, if_pos rfl]
theorem uR_ne {r : Nat → Nat → Option Nat} {a k b j : Nat} {x : Option Nat} (h : b ≠ a ∨ j ≠ k) : am_uR r a k x b j = r b j := by
  unfold am_uR
  by_cases e : b = a
  · subst e
    rw [if_pos rfl]
    unfold va_up
    rw [if_neg (by omega)]
  · rw [if_neg e]
theorem hu_putR {c k : Nat} {S : am_S} {r : am_RR} (hk : k < (if c = 9 then 64 else 12)) (hx : am_putR c k S = some r) (hu : HU S.2.2) : HU (am_rh r) := by
  unfold am_putR at hx
  split at hx
  · rename_i ls x a st n sl kd r0 v w
    split at hx
    · rename_i ho
      cases hx
      unfold am_ob at ho
      simp only [Bool.and_eq_true, decide_eq_true_eq] at ho
      obtain ⟨u1, u2, u3⟩ := hu
      refine ⟨u1, fun b j hj => ?_, u3⟩
      show am_uR r0 a k (some x) b j = none
      have hj2 : b ≠ a ∨ j ≠ k := by
        by_cases e : b = a
        · subst e
          have hb : bdR (kd b) = (if c = 9 then 64 else 12) := by rw [ho.2]; rfl
          have hj : n ≤ b ∨ bdR (kd b) ≤ j := hj
          rw [hb] at hj
          right
          omega
        · exact Or.inl e
      rw [uR_ne hj2]
      exact u2 b j hj
    · cases hx
  · cases hx
theorem hu_ar {n sl : Nat} {kd : Nat → am_K} {r : Nat → Nat → Option Nat} {v : Nat → Nat → Int32} {w : Nat → Nat → Int64} {a t : Nat} {i : Int32} (h : am_ar (n, sl, kd, r, v, w) a t i = true) : a < n ∧ ∃ m, kd a = .inr (t, m) ∧ i.toNatClampNeg < m := by
  unfold am_ar at h
  rw [Bool.and_eq_true, decide_eq_true_eq] at h
  obtain ⟨h1, h2⟩ := h
  refine ⟨h1, ?_⟩
  dsimp only at h2
  split at h2
  · cases h2
  · rename_i q hq
    rw [Bool.and_eq_true, decide_eq_true_eq] at h2
    have h3 := am_in_of h2.2
    exact ⟨q.2, by rw [hq, ← h2.1], by
      have h4 : ¬ (i < 0 ∨ q.2 ≤ i.toNatClampNeg) := h3
      omega⟩
theorem hu_ast {t : Nat} {f : Int32 → Int32} {S : am_S} {r : am_RR} (hx : am_ast t S f = some r) (hu : HU S.2.2) : HU (am_rh r) := by
  unfold am_ast at hx
  split at hx
  · rename_i ls x i a st n sl kd r0 v w
    split at hx
    · rename_i ho
      cases hx
      obtain ⟨h1, m, h2, h3⟩ := hu_ar ho
      obtain ⟨u1, u2, u3⟩ := hu
      refine ⟨u1, u2, fun b j hj => ?_⟩
      show am_u v a i.toNatClampNeg (f x) b j = 0
      by_cases e : b = a
      · subst e
        have hb : bdV (kd b) = m := by rw [h2]; rfl
        have hj : n ≤ b ∨ bdV (kd b) ≤ j := hj
        rw [am_u_at, upd_ne (by omega)]
        exact u3 b j hj
      · rw [am_u_ne e]
        exact u3 b j hj
    · cases hx
  · cases hx
theorem hu_rst {c : Nat} {S : am_S} {r : am_RR} (hx : am_rst c S = some r) (hu : HU S.2.2) : HU (am_rh r) := by
  unfold am_rst at hx
  split at hx
  · rename_i ls x i a st n sl kd r0 v w
    split at hx
    · rename_i ho
      cases hx
      rw [Bool.and_eq_true] at ho
      obtain ⟨h1, m, h2, h3⟩ := hu_ar ho.1
      obtain ⟨u1, u2, u3⟩ := hu
      refine ⟨u1, fun b j hj => ?_, u3⟩
      show am_uR r0 a i.toNatClampNeg (some x) b j = none
      have hj2 : b ≠ a ∨ j ≠ i.toNatClampNeg := by
        by_cases e : b = a
        · subst e
          have hb : bdR (kd b) = m := by rw [h2]; rfl
          have hj : n ≤ b ∨ bdR (kd b) ≤ j := hj
          right
          omega
        · exact Or.inl e
      rw [uR_ne hj2]
      exact u2 b j hj
    · cases hx
  · cases hx
theorem hu_mk {n sl sl' : Nat} {kd : Nat → am_K} {r : Nat → Nat → Option Nat} {v : Nat → Nat → Int32} {w w' : Nat → Nat → Int64} {x : am_K} (hu : HU (n, sl, kd, r, v, w)) : HU (n + 1, sl', am_uK kd n x, (fun b => if b = n then fun _ => none else r b), (fun b => if b = n then fun _ => 0 else v b), w') := by
  obtain ⟨u1, u2, u3⟩ := hu
  have hk : ∀ b, b ≠ n → am_uK kd n x b = kd b := fun b e => if_neg e
  refine ⟨fun a ha => ?_, fun a k h => ?_, fun a k h => ?_⟩
  · have ha : n + 1 ≤ a := ha
    show am_uK kd n x a = .inl 0
    rw [hk a (by omega)]
    exact u1 a (show n ≤ a by omega)
  · have h : n + 1 ≤ a ∨ bdR (am_uK kd n x a) ≤ k := h
    show (if a = n then (fun _ => none : Nat → Option Nat) else r a) k = none
    by_cases e : a = n
    · rw [if_pos e]
    · rw [if_neg e]
      rw [hk a e] at h
      exact u2 a k (show n ≤ a ∨ bdR (kd a) ≤ k by omega)
  · have h : n + 1 ≤ a ∨ bdV (am_uK kd n x a) ≤ k := h
    show (if a = n then (fun _ => 0 : Nat → Int32) else v a) k = 0
    by_cases e : a = n
    · rw [if_pos e]
    · rw [if_neg e]
      rw [hk a e] at h
      exact u3 a k (show n ≤ a ∨ bdV (kd a) ≤ k by omega)
theorem hu_new {c f : Nat} {S : am_S} {r : am_RR} (hx : am_new c f S = some r) (hu : HU S.2.2) : HU (am_rh r) := by
  obtain ⟨ls, st, n, sl, kd, r0, v, w⟩ := S
  cases hx
  exact hu_mk hu
theorem hu_nar {t : Nat} {S : am_S} {r : am_RR} (hx : am_nar t S = some r) (hu : HU S.2.2) : HU (am_rh r) := by
  unfold am_nar at hx
  split at hx
  · split at hx
    · cases hx
    · cases hx
      exact hu_mk hu
  · cases hx
theorem hu_0 {os : List Nat} {c0 : Int32} {X : am_X} {S : am_S} {r : am_RR} (hx : ah_0 os c0 X S = some r) (hu : HU S.2.2) : HU (am_rh r) := by
  unfold ah_0 at hx
  split at hx
  · cases hx
    exact hu
  · cases hx
theorem hu_1 {os : List Nat} {c0 : Int32} {X : am_X} {S : am_S} {r : am_RR} (hx : ah_1 os c0 X S = some r) (hu : HU S.2.2) : HU (am_rh r) := by
  unfold ah_1 at hx
  split at hx
  · unfold am_push at hx
    (repeat' split at hx) <;> first | (cases hx; done) | (cases hx; exact hu)
  · cases hx
theorem hu_2 {os : List Nat} {c0 : Int32} {X : am_X} {S : am_S} {r : am_RR} (hx : ah_2 os c0 X S = some r) (hu : HU S.2.2) : HU (am_rh r) := by
  unfold ah_2 at hx
  split at hx
  · unfold am_push at hx
    (repeat' split at hx) <;> first | (cases hx; done) | (cases hx; exact hu)
  · cases hx
theorem hu_3 {os : List Nat} {c0 : Int32} {X : am_X} {S : am_S} {r : am_RR} (hx : ah_3 os c0 X S = some r) (hu : HU S.2.2) : HU (am_rh r) := by
  unfold ah_3 at hx
  split at hx
  · unfold am_push at hx
    (repeat' split at hx) <;> first | (cases hx; done) | (cases hx; exact hu)
  · cases hx
theorem hu_4 {os : List Nat} {c0 : Int32} {X : am_X} {S : am_S} {r : am_RR} (hx : ah_4 os c0 X S = some r) (hu : HU S.2.2) : HU (am_rh r) := by
  unfold ah_4 at hx
  split at hx
  · unfold am_lo at hx
    (repeat' split at hx) <;> first | (cases hx; done) | (cases hx; exact hu)
  · cases hx
theorem hu_5 {os : List Nat} {c0 : Int32} {X : am_X} {S : am_S} {r : am_RR} (hx : ah_5 os c0 X S = some r) (hu : HU S.2.2) : HU (am_rh r) := by
  unfold ah_5 at hx
  split at hx
  · unfold am_lo at hx
    (repeat' split at hx) <;> first | (cases hx; done) | (cases hx; exact hu)
  · cases hx
theorem hu_6 {os : List Nat} {c0 : Int32} {X : am_X} {S : am_S} {r : am_RR} (hx : ah_6 os c0 X S = some r) (hu : HU S.2.2) : HU (am_rh r) := by
  unfold ah_6 at hx
  split at hx
  · unfold am_lo at hx
    (repeat' split at hx) <;> first | (cases hx; done) | (cases hx; exact hu)
  · cases hx
theorem hu_7 {os : List Nat} {c0 : Int32} {X : am_X} {S : am_S} {r : am_RR} (hx : ah_7 os c0 X S = some r) (hu : HU S.2.2) : HU (am_rh r) := by
  unfold ah_7 at hx
  split at hx
  · unfold am_st1 at hx
    (repeat' split at hx) <;> first | (cases hx; done) | (cases hx; exact hu)
  · cases hx
theorem hu_10 {os : List Nat} {c0 : Int32} {X : am_X} {S : am_S} {r : am_RR} (hx : ah_10 os c0 X S = some r) (hu : HU S.2.2) : HU (am_rh r) := by
  unfold ah_10 at hx
  split at hx
  · unfold am_inc at hx
    (repeat' split at hx) <;> first | (cases hx; done) | (cases hx; exact hu)
  · cases hx
theorem hu_12 {os : List Nat} {c0 : Int32} {X : am_X} {S : am_S} {r : am_RR} (hx : ah_12 os c0 X S = some r) (hu : HU S.2.2) : HU (am_rh r) := by
  unfold ah_12 at hx
  split at hx
  · unfold am_i2 at hx
    (repeat' split at hx) <;> first | (cases hx; done) | (cases hx; exact hu)
  · cases hx
theorem hu_13 {os : List Nat} {c0 : Int32} {X : am_X} {S : am_S} {r : am_RR} (hx : ah_13 os c0 X S = some r) (hu : HU S.2.2) : HU (am_rh r) := by
  unfold ah_13 at hx
  split at hx
  · unfold am_i2 at hx
    (repeat' split at hx) <;> first | (cases hx; done) | (cases hx; exact hu)
  · cases hx
theorem hu_14 {os : List Nat} {c0 : Int32} {X : am_X} {S : am_S} {r : am_RR} (hx : ah_14 os c0 X S = some r) (hu : HU S.2.2) : HU (am_rh r) := by
  unfold ah_14 at hx
  split at hx
  · unfold am_i2 at hx
    (repeat' split at hx) <;> first | (cases hx; done) | (cases hx; exact hu)
  · cases hx
theorem hu_23 {os : List Nat} {c0 : Int32} {X : am_X} {S : am_S} {r : am_RR} (hx : ah_23 os c0 X S = some r) (hu : HU S.2.2) : HU (am_rh r) := by
  unfold ah_23 at hx
  split at hx
  · unfold am_l2 at hx
    (repeat' split at hx) <;> first | (cases hx; done) | (cases hx; exact hu)
  · cases hx
theorem hu_24 {os : List Nat} {c0 : Int32} {X : am_X} {S : am_S} {r : am_RR} (hx : ah_24 os c0 X S = some r) (hu : HU S.2.2) : HU (am_rh r) := by
  unfold ah_24 at hx
  split at hx
  · unfold am_l2 at hx
    (repeat' split at hx) <;> first | (cases hx; done) | (cases hx; exact hu)
  · cases hx
theorem hu_26 {os : List Nat} {c0 : Int32} {X : am_X} {S : am_S} {r : am_RR} (hx : ah_26 os c0 X S = some r) (hu : HU S.2.2) : HU (am_rh r) := by
  unfold ah_26 at hx
  split at hx
  · unfold am_il at hx
    (repeat' split at hx) <;> first | (cases hx; done) | (cases hx; exact hu)
  · cases hx
theorem hu_30 {os : List Nat} {c0 : Int32} {X : am_X} {S : am_S} {r : am_RR} (hx : ah_30 os c0 X S = some r) (hu : HU S.2.2) : HU (am_rh r) := by
  unfold ah_30 at hx
  split at hx
  · unfold am_dup at hx
    (repeat' split at hx) <;> first | (cases hx; done) | (cases hx; exact hu)
  · cases hx
theorem hu_31 {os : List Nat} {c0 : Int32} {X : am_X} {S : am_S} {r : am_RR} (hx : ah_31 os c0 X S = some r) (hu : HU S.2.2) : HU (am_rh r) := by
  unfold ah_31 at hx
  split at hx
  · unfold am_pop at hx
    (repeat' split at hx) <;> first | (cases hx; done) | (cases hx; exact hu)
  · cases hx
theorem hu_33 {os : List Nat} {c0 : Int32} {X : am_X} {S : am_S} {r : am_RR} (hx : ah_33 os c0 X S = some r) (hu : HU S.2.2) : HU (am_rh r) := by
  unfold ah_33 at hx
  split at hx
  · unfold am_get at hx
    split at hx
    · split at hx
      · rw [Option.bind_eq_some_iff] at hx
        obtain ⟨y, -, hx⟩ := hx
        cases hx
        exact hu
      · cases hx
    · cases hx
  · cases hx
theorem hu_34 {os : List Nat} {c0 : Int32} {X : am_X} {S : am_S} {r : am_RR} (hx : ah_34 os c0 X S = some r) (hu : HU S.2.2) : HU (am_rh r) := by
  unfold ah_34 at hx
  split at hx
  · unfold am_get at hx
    split at hx
    · split at hx
      · rw [Option.bind_eq_some_iff] at hx
        obtain ⟨y, -, hx⟩ := hx
        cases hx
        exact hu
      · cases hx
    · cases hx
  · cases hx
theorem hu_35 {os : List Nat} {c0 : Int32} {X : am_X} {S : am_S} {r : am_RR} (hk : os.getD 2 0 < 64) (hx : ah_35 os c0 X S = some r) (hu : HU S.2.2) : HU (am_rh r) := by
  unfold ah_35 at hx
  split at hx
  · exact hu_putI hk hx hu
  · cases hx
theorem hu_37 {os : List Nat} {c0 : Int32} {X : am_X} {S : am_S} {r : am_RR} (hk : os.getD 2 0 < (if os.getD 1 0 = 9 then 64 else 12)) (hx : ah_37 os c0 X S = some r) (hu : HU S.2.2) : HU (am_rh r) := by
  unfold ah_37 at hx
  split at hx
  · exact hu_putR hk hx hu
  · cases hx
theorem hu_38 {os : List Nat} {c0 : Int32} {X : am_X} {S : am_S} {r : am_RR} (hx : ah_38 os c0 X S = some r) (hu : HU S.2.2) : HU (am_rh r) := by
  unfold ah_38 at hx
  split at hx
  · unfold am_ald at hx
    split at hx
    · split at hx
      · rw [Option.bind_eq_some_iff] at hx
        obtain ⟨y, -, hx⟩ := hx
        cases hx
        exact hu
      · cases hx
    · cases hx
  · cases hx
theorem hu_40 {os : List Nat} {c0 : Int32} {X : am_X} {S : am_S} {r : am_RR} (hx : ah_40 os c0 X S = some r) (hu : HU S.2.2) : HU (am_rh r) := by
  unfold ah_40 at hx
  split at hx
  · unfold am_ald at hx
    split at hx
    · split at hx
      · rw [Option.bind_eq_some_iff] at hx
        obtain ⟨y, -, hx⟩ := hx
        cases hx
        exact hu
      · cases hx
    · cases hx
  · cases hx
theorem hu_43 {os : List Nat} {c0 : Int32} {X : am_X} {S : am_S} {r : am_RR} (hx : ah_43 os c0 X S = some r) (hu : HU S.2.2) : HU (am_rh r) := by
  unfold ah_43 at hx
  split at hx
  · exact hu_ast hx hu
  · cases hx
theorem hu_45 {os : List Nat} {c0 : Int32} {X : am_X} {S : am_S} {r : am_RR} (hx : ah_45 os c0 X S = some r) (hu : HU S.2.2) : HU (am_rh r) := by
  unfold ah_45 at hx
  split at hx
  · exact hu_ast hx hu
  · cases hx
theorem hu_46 {os : List Nat} {c0 : Int32} {X : am_X} {S : am_S} {r : am_RR} (hx : ah_46 os c0 X S = some r) (hu : HU S.2.2) : HU (am_rh r) := by
  unfold ah_46 at hx
  split at hx
  · unfold am_lst at hx
    (repeat' split at hx) <;> first | (cases hx; done) | (cases hx; exact hu)
  · cases hx
theorem hu_47 {os : List Nat} {c0 : Int32} {X : am_X} {S : am_S} {r : am_RR} (hx : ah_47 os c0 X S = some r) (hu : HU S.2.2) : HU (am_rh r) := by
  unfold ah_47 at hx
  split at hx
  · exact hu_rst hx hu
  · cases hx
theorem hu_49 {os : List Nat} {c0 : Int32} {X : am_X} {S : am_S} {r : am_RR} (hx : ah_49 os c0 X S = some r) (hu : HU S.2.2) : HU (am_rh r) := by
  unfold ah_49 at hx
  split at hx
  · unfold am_if2 at hx
    (repeat' split at hx) <;> first | (cases hx; done) | (cases hx; exact hu)
  · cases hx
theorem hu_50 {os : List Nat} {c0 : Int32} {X : am_X} {S : am_S} {r : am_RR} (hx : ah_50 os c0 X S = some r) (hu : HU S.2.2) : HU (am_rh r) := by
  unfold ah_50 at hx
  split at hx
  · unfold am_if1 at hx
    (repeat' split at hx) <;> first | (cases hx; done) | (cases hx; exact hu)
  · cases hx
theorem hu_51 {os : List Nat} {c0 : Int32} {X : am_X} {S : am_S} {r : am_RR} (hx : ah_51 os c0 X S = some r) (hu : HU S.2.2) : HU (am_rh r) := by
  unfold ah_51 at hx
  split at hx
  · cases hx
    exact hu
  · cases hx
theorem hu_53 {os : List Nat} {c0 : Int32} {X : am_X} {S : am_S} {r : am_RR} (hx : ah_53 os c0 X S = some r) (hu : HU S.2.2) : HU (am_rh r) := by
  unfold ah_53 at hx
  split at hx
  · unfold am_push at hx
    (repeat' split at hx) <;> first | (cases hx; done) | (cases hx; exact hu)
  · cases hx
theorem hu_54 {os : List Nat} {c0 : Int32} {X : am_X} {S : am_S} {r : am_RR} (hx : ah_54 os c0 X S = some r) (hu : HU S.2.2) : HU (am_rh r) := by
  unfold ah_54 at hx
  split at hx
  · unfold am_ri at hx
    (repeat' split at hx) <;> first | (cases hx; done) | (cases hx; exact hu)
  · cases hx
theorem hu_55 {os : List Nat} {c0 : Int32} {X : am_X} {S : am_S} {r : am_RR} (hx : ah_55 os c0 X S = some r) (hu : HU S.2.2) : HU (am_rh r) := by
  unfold ah_55 at hx
  split at hx
  · unfold am_rl at hx
    (repeat' split at hx) <;> first | (cases hx; done) | (cases hx; exact hu)
  · cases hx
theorem hu_56 {os : List Nat} {c0 : Int32} {X : am_X} {S : am_S} {r : am_RR} (hx : ah_56 os c0 X S = some r) (hu : HU S.2.2) : HU (am_rh r) := by
  unfold ah_56 at hx
  split at hx
  · unfold am_rv at hx
    (repeat' split at hx) <;> first | (cases hx; done) | (cases hx; exact hu)
  · cases hx
theorem hu_57 {os : List Nat} {c0 : Int32} {X : am_X} {S : am_S} {r : am_RR} (hx : ah_57 os c0 X S = some r) (hu : HU S.2.2) : HU (am_rh r) := by
  unfold ah_57 at hx
  split at hx
  · unfold am_cv at hx
    (repeat' split at hx) <;> first | (cases hx; done) | (cases hx; exact hu)
  · cases hx
theorem hu_58 {os : List Nat} {c0 : Int32} {X : am_X} {S : am_S} {r : am_RR} (hx : ah_58 os c0 X S = some r) (hu : HU S.2.2) : HU (am_rh r) := by
  unfold ah_58 at hx
  split at hx
  · unfold am_cs at hx
    (repeat' split at hx) <;> first | (cases hx; done) | (cases hx; exact hu)
  · cases hx
theorem hu_59 {os : List Nat} {c0 : Int32} {X : am_X} {S : am_S} {r : am_RR} (hx : ah_59 os c0 X S = some r) (hu : HU S.2.2) : HU (am_rh r) := by
  unfold ah_59 at hx
  split at hx
  · unfold am_cv at hx
    (repeat' split at hx) <;> first | (cases hx; done) | (cases hx; exact hu)
  · cases hx
theorem hu_60 {os : List Nat} {c0 : Int32} {X : am_X} {S : am_S} {r : am_RR} (hx : ah_60 os c0 X S = some r) (hu : HU S.2.2) : HU (am_rh r) := by
  unfold ah_60 at hx
  split at hx
  · exact hu_new hx hu
  · cases hx
theorem hu_61 {os : List Nat} {c0 : Int32} {X : am_X} {S : am_S} {r : am_RR} (hx : ah_61 os c0 X S = some r) (hu : HU S.2.2) : HU (am_rh r) := by
  unfold ah_61 at hx
  split at hx
  · exact hu_nar hx hu
  · cases hx
theorem hu_62 {os : List Nat} {c0 : Int32} {X : am_X} {S : am_S} {r : am_RR} (hx : ah_62 os c0 X S = some r) (hu : HU S.2.2) : HU (am_rh r) := by
  unfold ah_62 at hx
  split at hx
  · exact hu_nar hx hu
  · cases hx
theorem hu_63 {os : List Nat} {c0 : Int32} {X : am_X} {S : am_S} {r : am_RR} (hx : ah_63 os c0 X S = some r) (hu : HU S.2.2) : HU (am_rh r) := by
  unfold ah_63 at hx
  split at hx
  · unfold am_oin at hx
    (repeat' split at hx) <;> first | (cases hx; done) | (cases hx; exact hu)
  · cases hx
theorem hu_x {X : am_X} {i : am_I} {S : am_S} {r : am_RR} (hs : slB i = true) (hx : am_x X i S = some r) (hu : HU S.2.2) : HU (am_rh r) := by
  obtain ⟨op, os, c0⟩ := i
  unfold am_x at hx
  unfold slB at hs
  simp only [Bool.and_eq_true, List.contains_eq_mem, List.mem_cons, List.not_mem_nil, or_false, decide_eq_true_eq, Bool.or_eq_true, Bool.not_eq_true', decide_eq_false_iff_not] at hs
  obtain ⟨⟨hs, h35⟩, h37⟩ := hs
  dsimp only at hx
  rcases hs with rfl | rfl | rfl | rfl | rfl | rfl | rfl | rfl | rfl | rfl | rfl | rfl | rfl | rfl | rfl | rfl | rfl | rfl | rfl | rfl | rfl | rfl | rfl | rfl | rfl | rfl | rfl | rfl | rfl | rfl | rfl | rfl | rfl | rfl | rfl | rfl | rfl | rfl | rfl | rfl | rfl
  · exact @hu_0 os c0 X S r hx hu
  · exact @hu_1 os c0 X S r hx hu
  · exact @hu_2 os c0 X S r hx hu
  · exact @hu_3 os c0 X S r hx hu
  · exact @hu_4 os c0 X S r hx hu
  · exact @hu_5 os c0 X S r hx hu
  · exact @hu_6 os c0 X S r hx hu
  · exact @hu_7 os c0 X S r hx hu
  · exact @hu_10 os c0 X S r hx hu
  · exact @hu_12 os c0 X S r hx hu
  · exact @hu_13 os c0 X S r hx hu
  · exact @hu_14 os c0 X S r hx hu
  · exact @hu_23 os c0 X S r hx hu
  · exact @hu_24 os c0 X S r hx hu
  · exact @hu_26 os c0 X S r hx hu
  · exact @hu_30 os c0 X S r hx hu
  · exact @hu_31 os c0 X S r hx hu
  · exact @hu_33 os c0 X S r hx hu
  · exact @hu_34 os c0 X S r hx hu
  · exact @hu_35 os c0 X S r (h35.resolve_left (fun z => z rfl)) hx hu
  · exact @hu_37 os c0 X S r (h37.resolve_left (fun z => z rfl)) hx hu
  · exact @hu_38 os c0 X S r hx hu
  · exact @hu_40 os c0 X S r hx hu
  · exact @hu_43 os c0 X S r hx hu
  · exact @hu_45 os c0 X S r hx hu
  · exact @hu_46 os c0 X S r hx hu
  · exact @hu_47 os c0 X S r hx hu
  · exact @hu_49 os c0 X S r hx hu
  · exact @hu_50 os c0 X S r hx hu
  · exact @hu_51 os c0 X S r hx hu
  · exact @hu_53 os c0 X S r hx hu
  · exact @hu_54 os c0 X S r hx hu
  · exact @hu_55 os c0 X S r hx hu
  · exact @hu_56 os c0 X S r hx hu
  · exact @hu_57 os c0 X S r hx hu
  · exact @hu_58 os c0 X S r hx hu
  · exact @hu_59 os c0 X S r hx hu
  · exact @hu_60 os c0 X S r hx hu
  · exact @hu_61 os c0 X S r hx hu
  · exact @hu_62 os c0 X S r hx hu
  · exact @hu_63 os c0 X S r hx hu
theorem hu_b {X : am_X} : ∀ (is : List am_I) (S : am_S) (r : am_RR), is.all slB = true → am_b X is S = some r → HU S.2.2 → HU (am_rh r) := by
  intro is
  induction is with
  | nil => intro S r _ hx; cases hx
  | cons i is ih =>
    intro S r hs hx hu
    rw [List.all_cons, Bool.and_eq_true] at hs
    unfold am_b at hx
    cases h : am_x X i S with
    | none => rw [h] at hx; cases hx
    | some y =>
      rw [h] at hx
      have h1 := hu_x hs.1 h hu
      match y, h1, hx with
      | .inl S', h1, hx => exact ih S' r hs.2 hx h1
      | .inr (.inl _), h1, hx => cases hx; exact h1
      | .inr (.inr (.inl _)), h1, hx => cases hx; exact h1
      | .inr (.inr (.inr _)), h1, hx => cases hx; exact h1
theorem hu_go {X : am_X} {call : Nat → List Value → am_H → am_A} (hc : ∀ m as h r h', call m as h = some (r, h') → HU h → HU h') {k : Nat → List am_I} (hk : ∀ pc, (k pc).all slB = true) : ∀ (n pc : Nat) (S : am_S) (r : Option Value) (h' : am_H), am_go X call k n pc S = some (r, h') → HU S.2.2 → HU h' := by
  intro n
  induction n with
  | zero => intro pc S r h' hx; cases hx
  | succ n ih =>
    intro pc S r h' hx hu
    unfold am_go at hx
    cases hb : am_b X (k pc) S with
    | none => rw [hb] at hx; cases hx
    | some y =>
      rw [hb] at hx
      have hm := hu_b (k pc) S y (hk pc) hb hu
      match y, hm, hx with
      | .inl _, hm, hx => cases hx
      | .inr (.inl (t, S')), hm, hx => exact ih t S' r h' hx hm
      | .inr (.inr (.inl _)), hm, hx => cases hx; exact hm
      | .inr (.inr (.inr (mx, as, t, (ls, st, h)))), hm, hx =>
        dsimp only at hx
        cases hcl : call mx as h with
        | none => rw [hcl] at hx; cases hx
        | some y =>
          obtain ⟨r1, h1⟩ := y
          rw [hcl] at hx
          exact ih t _ r h' hx (hc _ _ _ _ _ hcl hm)
theorem hu_call {P : am_P} (hP : ∀ m pc, ((P m).2 pc).all slB = true) : ∀ (d n m : Nat) (as : List Value) (h : am_H) (r : Option Value) (h' : am_H), am_call P d n m as h = some (r, h') → HU h → HU h' := by
  intro d
  induction d with
  | zero => intro n m as h r h' hx; cases hx
  | succ d ih =>
    intro n m as h r h' hx hu
    unfold am_call at hx
    split at hx
    · exact hu_go (fun m as h r h' => ih n m as h r h') (hP m) n 0 _ r h' hx hu
    · cases hx
/-- the methods that the two constructors come to -/
def am_Pq : am_P := fun m => if [0, 23, 24, 25, 32, 36, 52, 53, 68, 69, 70, 72, 83, 91, 136, 143, 144, 153].contains m then am_Pr m else (0, fun _ => [])
theorem sl_Forecast_init (pc : Nat) : (k_Forecast_init pc).all slB = true := by
  unfold k_Forecast_init
  split <;> decide
theorem sl_Law_init (pc : Nat) : (k_Law_init pc).all slB = true := by
  unfold k_Law_init
  split <;> decide
theorem sl_Law_clear (pc : Nat) : (k_Law_clear pc).all slB = true := by
  unfold k_Law_clear
  split <;> decide
theorem sl_Law_put (pc : Nat) : (k_Law_put pc).all slB = true := by
  unfold k_Law_put
  split <;> decide
theorem sl_Past_init (pc : Nat) : (k_Past_init pc).all slB = true := by
  unfold k_Past_init
  split <;> decide
theorem sl_Reader_init (pc : Nat) : (k_Reader_init pc).all slB = true := by
  unfold k_Reader_init
  split <;> decide
theorem sl_Stair_init (pc : Nat) : (k_Stair_init pc).all slB = true := by
  unfold k_Stair_init
  split <;> decide
theorem sl_Stair_begin (pc : Nat) : (k_Stair_begin pc).all slB = true := by
  unfold k_Stair_begin
  split <;> decide
theorem sl_Stair_arriveIn (pc : Nat) : (k_Stair_arriveIn pc).all slB = true := by
  unfold k_Stair_arriveIn
  split <;> decide
theorem sl_Text_init (pc : Nat) : (k_Text_init pc).all slB = true := by
  unfold k_Text_init
  split <;> decide
theorem sl_Text_clear (pc : Nat) : (k_Text_clear pc).all slB = true := by
  unfold k_Text_clear
  split <;> decide
theorem sl_Tokens_init (pc : Nat) : (k_Tokens_init pc).all slB = true := by
  unfold k_Tokens_init
  split <;> decide
theorem sl_Witness_init (pc : Nat) : (k_Witness_init pc).all slB = true := by
  unfold k_Witness_init
  split <;> decide
theorem sl_KneeStair_init (pc : Nat) : (k_KneeStair_init pc).all slB = true := by
  unfold k_KneeStair_init
  split <;> decide
theorem sl_Model_init (pc : Nat) : (k_Model_init pc).all slB = true := by
  unfold k_Model_init
  split <;> decide
theorem sl_Model_appends (pc : Nat) : (k_Model_appends pc).all slB = true := by
  unfold k_Model_appends
  split <;> decide
theorem sl_Model_word (pc : Nat) : (k_Model_word pc).all slB = true := by
  unfold k_Model_word
  split <;> decide
theorem sl_Model_plain (pc : Nat) : (k_Model_plain pc).all slB = true := by
  unfold k_Model_plain
  split <;> decide
theorem sl_Pc (m pc : Nat) : ((am_Pq m).2 pc).all slB = true := by
  unfold am_Pq
  split
  · rename_i h
    simp only [List.contains_eq_mem, List.mem_cons, List.not_mem_nil, or_false, decide_eq_true_eq] at h
    rcases h with rfl | rfl | rfl | rfl | rfl | rfl | rfl | rfl | rfl | rfl | rfl | rfl | rfl | rfl | rfl | rfl | rfl | rfl
    · exact sl_Forecast_init pc
    · exact sl_Law_init pc
    · exact sl_Law_clear pc
    · exact sl_Law_put pc
    · exact sl_Past_init pc
    · exact sl_Reader_init pc
    · exact sl_Stair_init pc
    · exact sl_Stair_begin pc
    · exact sl_Stair_arriveIn pc
    · exact sl_Text_init pc
    · exact sl_Text_clear pc
    · exact sl_Tokens_init pc
    · exact sl_Witness_init pc
    · exact sl_KneeStair_init pc
    · exact sl_Model_init pc
    · exact sl_Model_appends pc
    · exact sl_Model_word pc
    · exact sl_Model_plain pc
  · rfl
theorem Pc_le : ∀ (d n m : Nat) (as : List Value) (h : am_H) (x : Option Value × am_H), am_call am_Pq d n m as h = some x → am_call am_Pr d n m as h = some x := by
  intro d
  induction d with
  | zero => intro n m as h x hx; cases hx
  | succ d ih =>
    intro n m as h x hx
    unfold am_call at hx ⊢
    by_cases hm : [0, 23, 24, 25, 32, 36, 52, 53, 68, 69, 70, 72, 83, 91, 136, 143, 144, 153].contains m = true
    · rw [show am_Pq m = am_Pr m from if_pos hm] at hx
      split at hx
      · rename_i hl
        rw [if_pos hl]
        exact am_go_fuel (fun m as h x hx => ih n m as h x hx) n n 0 _ x (Nat.le_refl _) hx
      · cases hx
    · rw [show am_Pq m = (0, fun _ => []) from if_neg hm] at hx
      split at hx
      · rw [am_go_nil rfl] at hx
        cases hx
      · cases hx
