/-! the instructions that neither call nor make, one by one -/
theorem iv_lo {k : Nat} {S S' : am_S} {ok : Value → Bool} (hx : am_lo k S ok = am_on S') : ok (S.1.getD k .null) = true ∧ S' = (S.1, S.1.getD k .null :: S.2.1, S.2.2) := by
  obtain ⟨ls, st, h⟩ := S
  unfold am_lo at hx
  dsimp only at hx
  split at hx
  · rename_i e
    cases hx
    exact ⟨e, rfl⟩
  · cases hx
theorem iv_st1 {k : Nat} {S S' : am_S} {ok : Value → Bool} (hx : am_st1 k S ok = am_on S') : ∃ ls x st h, S = (ls, x :: st, h) ∧ S' = (ls.set k x, st, h) ∧ ok x = true ∧ k < ls.length ∧ am_fr ls k = true := by
  obtain ⟨ls, st, h⟩ := S
  unfold am_st1 at hx
  split at hx
  · rename_i ls x st h e
    split at hx
    · rename_i e2
      cases hx
      simp only [Bool.and_eq_true, decide_eq_true_eq] at e2
      exact ⟨ls, x, st, h, e, rfl, e2.1.1, e2.1.2, e2.2⟩
    · cases hx
  · cases hx
theorem iv_st2 {k : Nat} {S S' : am_S} (hx : am_st2 k S = am_on S') : ∃ ls x st h, S = (ls, .long x :: st, h) ∧ S' = ((ls.set k (.long x)).set (k + 1) .null, st, h) ∧ k + 1 < ls.length ∧ am_fr ls k = true := by
  obtain ⟨ls, st, h⟩ := S
  unfold am_st2 at hx
  split at hx
  · rename_i ls x st h e
    split at hx
    · rename_i e2
      cases hx
      simp only [Bool.and_eq_true, decide_eq_true_eq] at e2
      exact ⟨ls, x, st, h, e, rfl, e2.1, e2.2⟩
    · cases hx
  · cases hx
theorem iv_i2 {f : Int32 → Int32 → Int32} {S S' : am_S} (hx : am_i2 f S = am_on S') : ∃ ls x y st h, S = (ls, .int y :: .int x :: st, h) ∧ S' = (ls, .int (f x y) :: st, h) := by
  unfold am_i2 at hx
  split at hx
  · rename_i ls y x st h
    cases hx
    exact ⟨ls, x, y, st, h, rfl, rfl⟩
  · cases hx
theorem iv_i2z {f : Int32 → Int32 → Int32} {S S' : am_S} (hx : am_i2z f S = am_on S') : ∃ ls x y st h, S = (ls, .int y :: .int x :: st, h) ∧ S' = (ls, .int (f x y) :: st, h) ∧ ¬ y = 0 := by
  unfold am_i2z at hx
  split at hx
  · rename_i ls y x st h
    split at hx
    · cases hx
    · rename_i e
      cases hx
      exact ⟨ls, x, y, st, h, rfl, rfl, e⟩
  · cases hx
theorem iv_i1 {f : Int32 → Int32} {S S' : am_S} (hx : am_i1 f S = am_on S') : ∃ ls x st h, S = (ls, .int x :: st, h) ∧ S' = (ls, .int (f x) :: st, h) := by
  unfold am_i1 at hx
  split at hx
  · rename_i ls x st h
    cases hx
    exact ⟨ls, x, st, h, rfl, rfl⟩
  · cases hx
theorem iv_l2 {f : Int64 → Int64 → Int64} {S S' : am_S} (hx : am_l2 f S = am_on S') : ∃ ls x y st h, S = (ls, .long y :: .long x :: st, h) ∧ S' = (ls, .long (f x y) :: st, h) := by
  unfold am_l2 at hx
  split at hx
  · rename_i ls y x st h
    cases hx
    exact ⟨ls, x, y, st, h, rfl, rfl⟩
  · cases hx
theorem iv_lc {S S' : am_S} (hx : am_lc S = am_on S') : ∃ ls x y st h, S = (ls, .long y :: .long x :: st, h) ∧ S' = (ls, .int (lg_cmp x y) :: st, h) := by
  unfold am_lc at hx
  split at hx
  · rename_i ls y x st h
    cases hx
    exact ⟨ls, x, y, st, h, rfl, rfl⟩
  · cases hx
theorem iv_il {S S' : am_S} (hx : am_il S = am_on S') : ∃ ls x st h, S = (ls, .int x :: st, h) ∧ S' = (ls, .long x.toInt64 :: st, h) := by
  unfold am_il at hx
  split at hx
  · rename_i ls x st h
    cases hx
    exact ⟨ls, x, st, h, rfl, rfl⟩
  · cases hx
theorem iv_li {S S' : am_S} (hx : am_li S = am_on S') : ∃ ls x st h, S = (ls, .long x :: st, h) ∧ S' = (ls, .int x.toInt32 :: st, h) := by
  unfold am_li at hx
  split at hx
  · rename_i ls x st h
    cases hx
    exact ⟨ls, x, st, h, rfl, rfl⟩
  · cases hx
theorem am_c1_of {q : am_Q} {x : Value} (h : am_c1 x = true) : (am_v q x).category = 1 := by
  cases x <;> first | rfl | cases h
theorem iv_dup {S S' : am_S} (hx : am_dup S = am_on S') : ∃ ls x st h, S = (ls, x :: st, h) ∧ S' = (ls, x :: x :: st, h) ∧ am_c1 x = true := by
  unfold am_dup at hx
  split at hx
  · rename_i ls x st h
    split at hx
    · rename_i e
      cases hx
      exact ⟨ls, x, st, h, rfl, rfl, e⟩
    · cases hx
  · cases hx
theorem iv_pop {S S' : am_S} (hx : am_pop S = am_on S') : ∃ ls x st h, S = (ls, x :: st, h) ∧ S' = (ls, st, h) ∧ am_c1 x = true := by
  unfold am_pop at hx
  split at hx
  · rename_i ls x st h
    split at hx
    · rename_i e
      cases hx
      exact ⟨ls, x, st, h, rfl, rfl, e⟩
    · cases hx
  · cases hx
theorem iv_dup2 {S S' : am_S} (hx : am_dup2 S = am_on S') : ∃ ls x y st h, S = (ls, x :: y :: st, h) ∧ S' = (ls, x :: y :: x :: y :: st, h) ∧ am_c1 x = true ∧ am_c1 y = true := by
  unfold am_dup2 at hx
  split at hx
  · rename_i ls x y st h
    split at hx
    · rename_i e
      cases hx
      rw [Bool.and_eq_true] at e
      exact ⟨ls, x, y, st, h, rfl, rfl, e.1, e.2⟩
    · cases hx
  · cases hx
theorem iv_get {c k : Nat} {S S' : am_S} {f : am_H → Nat → Option Value} (hx : am_get c k S f = am_on S') : ∃ ls a st h x, S = (ls, .ref a :: st, h) ∧ S' = (ls, x :: st, h) ∧ am_ob h a c = true ∧ f h a = some x := by
  unfold am_get at hx
  split at hx
  · rename_i ls a st h
    split at hx
    · rename_i e
      cases hf : f h a with
      | none => rw [hf] at hx; cases hx
      | some x =>
        rw [hf] at hx
        cases hx
        exact ⟨ls, a, st, h, x, rfl, rfl, e, hf⟩
    · cases hx
  · cases hx
theorem iv_putI {c k : Nat} {S S' : am_S} {ok : Int32 → Bool} (hx : am_putI c k S ok = am_on S') : ∃ ls x a st n sl kd r v w, S = (ls, .int x :: .ref a :: st, (n, sl, kd, r, v, w)) ∧ S' = (ls, st, (n, sl, kd, r, am_u v a k x, w)) ∧ am_ob (n, sl, kd, r, v, w) a c = true ∧ ok x = true := by
  unfold am_putI at hx
  split at hx
  · rename_i ls x a st n sl kd r v w
    split at hx
    · rename_i e
      cases hx
      rw [Bool.and_eq_true] at e
      exact ⟨ls, x, a, st, n, sl, kd, r, v, w, rfl, rfl, e.1, e.2⟩
    · cases hx
  · cases hx
theorem iv_putR {c k : Nat} {S S' : am_S} (hx : am_putR c k S = am_on S') : ∃ ls b a st n sl kd r v w, S = (ls, .ref b :: .ref a :: st, (n, sl, kd, r, v, w)) ∧ S' = (ls, st, (n, sl, kd, am_uR r a k (some b), v, w)) ∧ am_ob (n, sl, kd, r, v, w) a c = true := by
  unfold am_putR at hx
  split at hx
  · rename_i ls b a st n sl kd r v w
    split at hx
    · rename_i e
      cases hx
      exact ⟨ls, b, a, st, n, sl, kd, r, v, w, rfl, rfl, e⟩
    · cases hx
  · cases hx
theorem iv_ald {t : Nat} {S S' : am_S} {f : am_H → Nat → Nat → Option Value} (hx : am_ald t S f = am_on S') : ∃ ls i a st h x, S = (ls, .int i :: .ref a :: st, h) ∧ S' = (ls, x :: st, h) ∧ am_ar h a t i = true ∧ f h a i.toNatClampNeg = some x := by
  unfold am_ald at hx
  split at hx
  · rename_i ls i a st h
    split at hx
    · rename_i e
      cases hf : f h a i.toNatClampNeg with
      | none => rw [hf] at hx; cases hx
      | some x =>
        rw [hf] at hx
        cases hx
        exact ⟨ls, i, a, st, h, x, rfl, rfl, e, hf⟩
    · cases hx
  · cases hx
theorem iv_ast {t : Nat} {S S' : am_S} {f : Int32 → Int32} (hx : am_ast t S f = am_on S') : ∃ ls x i a st n sl kd r v w, S = (ls, .int x :: .int i :: .ref a :: st, (n, sl, kd, r, v, w)) ∧ S' = (ls, st, (n, sl, kd, r, am_u v a i.toNatClampNeg (f x), w)) ∧ am_ar (n, sl, kd, r, v, w) a t i = true := by
  unfold am_ast at hx
  split at hx
  · rename_i ls x i a st n sl kd r v w
    split at hx
    · rename_i e
      cases hx
      exact ⟨ls, x, i, a, st, n, sl, kd, r, v, w, rfl, rfl, e⟩
    · cases hx
  · cases hx
theorem iv_lst {S S' : am_S} (hx : am_lst S = am_on S') : ∃ ls x i a st n sl kd r v w, S = (ls, .long x :: .int i :: .ref a :: st, (n, sl, kd, r, v, w)) ∧ S' = (ls, st, (n, sl, kd, r, v, am_uL w a i.toNatClampNeg x)) ∧ am_ar (n, sl, kd, r, v, w) a 3 i = true := by
  unfold am_lst at hx
  split at hx
  · rename_i ls x i a st n sl kd r v w
    split at hx
    · rename_i e
      cases hx
      exact ⟨ls, x, i, a, st, n, sl, kd, r, v, w, rfl, rfl, e⟩
    · cases hx
  · cases hx
theorem iv_rst {c : Nat} {S S' : am_S} (hx : am_rst c S = am_on S') : ∃ ls b i a st n sl kd r v w, S = (ls, .ref b :: .int i :: .ref a :: st, (n, sl, kd, r, v, w)) ∧ S' = (ls, st, (n, sl, kd, am_uR r a i.toNatClampNeg (some b), v, w)) ∧ am_ar (n, sl, kd, r, v, w) a 4 i = true ∧ am_ob (n, sl, kd, r, v, w) b c = true := by
  unfold am_rst at hx
  split at hx
  · rename_i ls b i a st n sl kd r v w
    split at hx
    · rename_i e
      cases hx
      rw [Bool.and_eq_true] at e
      exact ⟨ls, b, i, a, st, n, sl, kd, r, v, w, rfl, rfl, e.1, e.2⟩
    · cases hx
  · cases hx
theorem iv_oin {S S' : am_S} (hx : am_oin S = am_on S') : ∃ ls a st h, S = (ls, .ref a :: st, h) ∧ S' = (ls, st, h) ∧ am_cat st ≤ 8 := by
  unfold am_oin at hx
  split at hx
  · rename_i ls a st h
    split at hx
    · rename_i e
      cases hx
      exact ⟨ls, a, st, h, rfl, rfl, by simpa using e⟩
    · cases hx
  · cases hx
theorem iv_mm {f : Int32 → Int32 → Int32} {S S' : am_S} (hx : am_mm f S = am_on S') : ∃ ls x y st h, S = (ls, .int y :: .int x :: st, h) ∧ S' = (ls, .int (f x y) :: st, h) ∧ am_cat st ≤ 8 := by
  unfold am_mm at hx
  split at hx
  · rename_i ls y x st h
    split at hx
    · rename_i e
      cases hx
      exact ⟨ls, x, y, st, h, rfl, rfl, by simpa using e⟩
    · cases hx
  · cases hx
theorem iv_cp {S S' : am_S} (hx : am_cp S = am_on S') : ∃ ls n dp b sp a st nn sl kd r v w na nb, S = (ls, .int n :: .int dp :: .ref b :: .int sp :: .ref a :: st, (nn, sl, kd, r, v, w)) ∧ S' = (ls, st, (nn, sl, kd, r, am_cpf v a b sp.toNatClampNeg dp.toNatClampNeg n.toNatClampNeg, w)) ∧ kd a = .inr (0, na) ∧ kd b = .inr (0, nb) ∧ a < nn ∧ b < nn ∧ am_cat st ≤ 8 ∧ ¬ n < 0 ∧ ¬ dp < 0 ∧ ¬ sp < 0 ∧ sp.toNatClampNeg + n.toNatClampNeg ≤ na ∧ dp.toNatClampNeg + n.toNatClampNeg ≤ nb := by
  unfold am_cp at hx
  split at hx
  · rename_i ls n dp b sp a st nn sl kd r v w
    split at hx
    · rename_i na nb e1 e2
      split at hx
      · rename_i e
        cases hx
        simp only [Bool.and_eq_true, decide_eq_true_eq, Bool.not_eq_true', decide_eq_false_iff_not] at e
        exact ⟨ls, n, dp, b, sp, a, st, nn, sl, kd, r, v, w, na, nb, rfl, rfl, e1, e2, e.1.1.1.1.1.1.1, e.1.1.1.1.1.1.2, e.1.1.1.1.1.2, e.1.1.1.1.2, e.1.1.1.2, e.1.1.2, e.1.2, e.2⟩
      · cases hx
    · cases hx
  · cases hx
theorem iv_inc {k : Nat} {x : Int32} {S S' : am_S} (hx : am_inc k x S = am_on S') : ∃ ls st h y, S = (ls, st, h) ∧ S' = (ls.set k (.int (y + x)), st, h) ∧ ls.getD k .null = .int y ∧ am_fr ls k = true := by
  obtain ⟨ls, st, h⟩ := S
  unfold am_inc at hx
  dsimp only at hx
  split at hx
  · rename_i y e
    split at hx
    · rename_i e2
      cases hx
      exact ⟨ls, st, h, y, rfl, rfl, e, e2⟩
    · cases hx
  · cases hx
theorem iv_xa {X : am_X} {S S' : am_S} (hx : am_xa X S = am_on S') : ∃ ls i u st h, S = (ls, .int i :: .float u :: st, h) ∧ S' = (ls, .int (X.2 i.toNatClampNeg) :: st, h) ∧ am_in i X.1 = true := by
  unfold am_xa at hx
  split at hx
  · rename_i ls i u st h
    split at hx
    · rename_i e
      cases hx
      exact ⟨ls, i, u, st, h, rfl, rfl, e⟩
    · cases hx
  · cases hx
theorem iv_xl {X : am_X} {S S' : am_S} (hx : am_xl X S = am_on S') : ∃ ls u st h, S = (ls, .float u :: st, h) ∧ S' = (ls, .int (nI X.1) :: st, h) := by
  unfold am_xl at hx
  split at hx
  · rename_i ls u st h
    cases hx
    exact ⟨ls, u, st, h, rfl, rfl⟩
  · cases hx
theorem am_isI_of {x : Value} (h : am_isI x = true) : ∃ y, x = .int y := by
  cases x <;> first | exact ⟨_, rfl⟩ | cases h
theorem am_isL_of {x : Value} (h : am_isL x = true) : ∃ y, x = .long y := by
  cases x <;> first | exact ⟨_, rfl⟩ | cases h
theorem am_isA_of {q : am_Q} {x : Value} (h : am_isA x = true) : x ≠ .null ∧ ∃ y, am_v q x = .ref y := by
  cases x with
  | ref a => exact ⟨by simp, q.2.1 + a, rfl⟩
  | float a => exact ⟨by simp, q.1, rfl⟩
  | retAddr i => exact ⟨by simp, q.2.2 i, rfl⟩
  | _ => cases h
