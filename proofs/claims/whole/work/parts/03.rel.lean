/-! the real machine's values and cells out of ours -/
/-- where the script lies, where the first cell made lies, where the text constants lie -/
abbrev am_Q : Type := Nat × Nat × (Nat → Nat)
def am_v (q : am_Q) : Value → Value
  | .ref a => .ref (q.2.1 + a)
  | .float _ => .ref q.1
  | .retAddr i => .ref (q.2.2 i)
  | x => x
theorem am_v_cat (q : am_Q) (x : Value) : (am_v q x).category = x.category := by cases x <;> rfl
theorem am_v_int (q : am_Q) (x : Int32) : am_v q (.int x) = .int x := rfl
theorem am_v_long (q : am_Q) (x : Int64) : am_v q (.long x) = .long x := rfl
theorem am_v_ref (q : am_Q) (a : Nat) : am_v q (.ref a) = .ref (q.2.1 + a) := rfl
/-- fields of a kind, their types, the array types' own numbers, where the first cell lies -/
abbrev am_Z : Type := (Nat → Nat) × (Nat → Nat → FieldType) × (Nat → ClassId) × Nat
def am_isR : FieldType → Bool
  | .object _ => true
  | .array _ => true
  | _ => false
def am_fv (z : am_Z) (h : am_H) (a c k : Nat) : Value := if am_isR (z.2.1 c k) then va_rf ((h.2.2.2.1 a k).map (fun b => z.2.2.2 + b)) else .int (h.2.2.2.2.1 a k)
def am_arr (z : am_Z) (h : am_H) (a t n : Nat) : vp_A := (n, match t with
  | 3 => .inr (.inl (h.2.2.2.2.2 a))
  | 4 => .inr (.inr (.inr (.inr (fun i => (h.2.2.2.1 a i).map (fun b => z.2.2.2 + b)))))
  | _ => .inl (h.2.2.2.2.1 a))
def am_ce (z : am_Z) (h : am_H) (a : Nat) : va_E := match h.2.2.1 a with
  | .inl c => .inr (c, (List.range (z.1 c)).map (am_fv z h a c))
  | .inr (t, n) => .inl (z.2.2.1 t, am_arr z h a t n)
def am_ws (z : am_Z) (h : am_H) : va_W := (List.range h.1).map (fun a => (z.2.2.2 + a, am_ce z h a))
theorem am_ws_get {z : am_Z} {h : am_H} {a : Nat} (ha : a < h.1) : (am_ws z h)[a]? = some (z.2.2.2 + a, am_ce z h a) := by
  simp [am_ws, ha]
theorem am_ws_at {z : am_Z} {h : am_H} {k : Nat} {q : Nat × va_E} (hq : (am_ws z h)[k]? = some q) : k < h.1 ∧ q = (z.2.2.2 + k, am_ce z h k) := by
  have hl : k < h.1 := by
    have := (List.getElem?_eq_some_iff.mp hq).1
    simpa [am_ws] using this
  rw [am_ws_get hl] at hq
  exact ⟨hl, (Option.some.inj hq).symm⟩
theorem am_ws_D (z : am_Z) (h : am_H) : va_D (fun q => z.2.2.2 ≤ q) (am_ws z h) := by
  refine ⟨fun i j x y hx hy hxy => ?_, fun k q hq => ?_⟩
  · obtain ⟨-, rfl⟩ := am_ws_at hx
    obtain ⟨-, rfl⟩ := am_ws_at hy
    dsimp only at hxy
    omega
  · obtain ⟨-, rfl⟩ := am_ws_at hq
    exact Nat.le_add_right _ _
theorem am_ws_set {z : am_Z} {h h' : am_H} {a : Nat} {e : va_E} (hn : h'.1 = h.1) (he : am_ce z h' a = e) (ho : ∀ b, b ≠ a → am_ce z h' b = am_ce z h b) : (am_ws z h).set a (z.2.2.2 + a, e) = am_ws z h' := by
  apply List.ext_getElem?
  intro k
  by_cases hk : k < h.1
  · rw [am_ws_get (h := h') (by rw [hn]; exact hk)]
    by_cases hka : k = a
    · subst hka
      rw [List.getElem?_set_self (by simpa [am_ws] using hk), he]
    · rw [List.getElem?_set_ne (Ne.symm hka), am_ws_get hk, ho k hka]
  · rw [List.getElem?_eq_none (by simp [am_ws]; omega), List.getElem?_eq_none (by simp [am_ws, hn]; omega)]
theorem am_ws_push {z : am_Z} {h h' : am_H} {e : va_E} (hn : h'.1 = h.1 + 1) (he : am_ce z h' h.1 = e) (ho : ∀ b, b < h.1 → am_ce z h' b = am_ce z h b) : am_ws z h ++ [(z.2.2.2 + h.1, e)] = am_ws z h' := by
  unfold am_ws
  rw [hn, List.range_succ, List.map_append]
  congr 1
  · apply List.map_congr_left
    intro b hb
    rw [ho b (List.mem_range.mp hb)]
  · simp [he]
theorem am_ce_ob {z : am_Z} {h : am_H} {a c : Nat} (e : h.2.2.1 a = .inl c) : am_ce z h a = .inr (c, (List.range (z.1 c)).map (am_fv z h a c)) := by
  unfold am_ce
  rw [e]
theorem am_ce_ar {z : am_Z} {h : am_H} {a t n : Nat} (e : h.2.2.1 a = .inr (t, n)) : am_ce z h a = .inl (z.2.2.1 t, am_arr z h a t n) := by
  unfold am_ce
  rw [e]
theorem am_ob_of {h : am_H} {a c : Nat} (e : am_ob h a c = true) : a < h.1 ∧ h.2.2.1 a = .inl c := by
  unfold am_ob at e
  simpa using e
theorem am_in_of {i : Int32} {n : Nat} (e : am_in i n = true) : vp_in i n := by
  unfold am_in at e
  unfold vp_in
  simpa using e
theorem am_ar_of {h : am_H} {a t : Nat} {i : Int32} (e : am_ar h a t i = true) : ∃ n, a < h.1 ∧ h.2.2.1 a = .inr (t, n) ∧ vp_in i n := by
  unfold am_ar at e
  rw [Bool.and_eq_true] at e
  obtain ⟨e1, e2⟩ := e
  cases hk : h.2.2.1 a with
  | inl c => rw [hk] at e2; cases e2
  | inr q =>
    rw [hk] at e2
    obtain ⟨t', n⟩ := q
    dsimp only at e2
    rw [Bool.and_eq_true, decide_eq_true_eq] at e2
    obtain ⟨e3, e4⟩ := e2
    exact ⟨n, by simpa using e1, by rw [e3], am_in_of e4⟩
/-- the variables -/
def am_lv (q : am_Q) (lsC : Array Slot) (nL : Nat) (ls : List Value) : Prop := ls.length = nL ∧ lsC.size = nL ∧ lv_wf lsC ∧ ∀ (k : Nat) (x : Value), ls[k]? = some x → x ≠ .null → lsC[k]? = some (.val (am_v q x))
def am_kn (lsC : Array Slot) (nL : Nat) : List (Nat × Value) := (List.range nL).filterMap (fun (k : Nat) => match (lsC[k]? : Option Slot) with
  | some (.val y) => some (k, y)
  | _ => none)
theorem am_kn_in {lsC : Array Slot} {nL k : Nat} {y : Value} : (k, y) ∈ am_kn lsC nL ↔ k < nL ∧ lsC[k]? = some (.val y) := by
  unfold am_kn
  rw [List.mem_filterMap]
  constructor
  · rintro ⟨j, hj, e⟩
    cases hs : lsC[j]? with
    | none => rw [hs] at e; cases e
    | some x =>
      rw [hs] at e
      cases x with
      | val z =>
        cases e
        exact ⟨List.mem_range.mp hj, hs⟩
      | _ => cases e
  · rintro ⟨h1, h2⟩
    exact ⟨k, List.mem_range.mpr h1, by rw [h2]⟩
theorem am_kn_has {q : am_Q} {lsC : Array Slot} {nL : Nat} {ls : List Value} (h : am_lv q lsC nL ls) : lv_has lsC nL (am_kn lsC nL) := by
  refine ⟨h.2.1, h.2.2.1, fun x hx => ?_⟩
  obtain ⟨k, y⟩ := x
  exact (am_kn_in.mp hx).2
theorem am_lv_at {q : am_Q} {lsC : Array Slot} {nL k : Nat} {ls : List Value} {x : Value} (h : am_lv q lsC nL ls) (hx : ls.getD k .null = x) (hn : x ≠ .null) : lsC[k]? = some (.val (am_v q x)) := by
  refine h.2.2.2 k x ?_ hn
  rw [List.getD_eq_getElem?_getD] at hx
  cases hk : ls[k]? with
  | none => rw [hk] at hx; exact absurd hx.symm hn
  | some y => rw [hk] at hx; exact congrArg some hx
theorem am_fr_of {ls : List Value} {k j : Nat} {x : Value} (h : am_fr ls k = true) (hj : j + 1 = k) (hx : ls[j]? = some x) : x.category = 1 := by
  subst hj
  unfold am_fr at h
  rw [decide_eq_true_eq, List.getD_eq_getElem?_getD, hx] at h
  exact h
theorem am_lv_set1 {q : am_Q} {lsC ls' : Array Slot} {nL k : Nat} {ls : List Value} {x : Value} (h : am_lv q lsC nL ls) (hk : k < ls.length) (hf : am_fr ls k = true) (h' : lv_has ls' nL ((k, am_v q x) :: (am_kn lsC nL).filter (fun q => !(q.1 == k) && !(q.1 + 1 == k && q.2.category == 2)))) : am_lv q ls' nL (ls.set k x) := by
  refine ⟨by rw [List.length_set]; exact h.1, h'.1, h'.2.1, fun j y hy hn => ?_⟩
  by_cases hj : j = k
  · subst hj
    rw [List.getElem?_set_self hk] at hy
    cases hy
    exact h'.2.2 (j, am_v q x) List.mem_cons_self
  · rw [List.getElem?_set_ne (Ne.symm hj)] at hy
    refine h'.2.2 (j, am_v q y) (List.mem_cons_of_mem _ (List.mem_filter.mpr ⟨am_kn_in.mpr ⟨?_, h.2.2.2 j y hy hn⟩, ?_⟩))
    · rw [← h.1]; exact (List.getElem?_eq_some_iff.mp hy).1
    · have h1 : (j == k) = false := by simpa using hj
      simp only [h1, Bool.not_false, Bool.true_and, Bool.not_eq_true', Bool.and_eq_false_iff]
      by_cases hjk : j + 1 = k
      · right
        have := am_fr_of hf hjk hy
        rw [am_v_cat, this]; rfl
      · left
        simpa using hjk
theorem am_lv_set2 {q : am_Q} {lsC ls' : Array Slot} {nL k : Nat} {ls : List Value} {x : Int64} (h : am_lv q lsC nL ls) (hk : k + 1 < ls.length) (hf : am_fr ls k = true) (h' : lv_has ls' nL ((k, .long x) :: (am_kn lsC nL).filter (fun q => !(q.1 == k) && (!(q.1 == k + 1) && !(q.1 + 1 == k && q.2.category == 2))))) : am_lv q ls' nL ((ls.set k (.long x)).set (k + 1) .null) := by
  refine ⟨by rw [List.length_set, List.length_set]; exact h.1, h'.1, h'.2.1, fun j y hy hn => ?_⟩
  by_cases hj1 : j = k + 1
  · subst hj1
    rw [List.getElem?_set_self (by rw [List.length_set]; exact hk)] at hy
    exact absurd (Option.some.inj hy).symm hn
  rw [List.getElem?_set_ne (Ne.symm hj1)] at hy
  by_cases hj : j = k
  · subst hj
    rw [List.getElem?_set_self (by omega)] at hy
    cases hy
    exact h'.2.2 (j, .long x) List.mem_cons_self
  · rw [List.getElem?_set_ne (Ne.symm hj)] at hy
    refine h'.2.2 (j, am_v q y) (List.mem_cons_of_mem _ (List.mem_filter.mpr ⟨am_kn_in.mpr ⟨?_, h.2.2.2 j y hy hn⟩, ?_⟩))
    · rw [← h.1]; exact (List.getElem?_eq_some_iff.mp hy).1
    · have h1 : (j == k) = false := by simpa using hj
      have h2 : (j == k + 1) = false := by simpa using hj1
      simp only [h1, h2, Bool.not_false, Bool.true_and, Bool.not_eq_true', Bool.and_eq_false_iff]
      by_cases hjk : j + 1 = k
      · right
        have := am_fr_of hf hjk hy
        rw [am_v_cat, this]; rfl
      · left
        simpa using hjk
theorem am_cat_map (q : am_Q) (st : List Value) : ((st.map (am_v q)).map fun v => v.category).sum = am_cat st := by
  unfold am_cat
  rw [List.map_map]
  congr 2
  funext x
  exact am_v_cat q x
