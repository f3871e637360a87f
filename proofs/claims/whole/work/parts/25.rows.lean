/-! a stretch, instruction by instruction: rows to rewrite with -/
section
variable {X : am_X} {is : List am_I} {c : Int32} {ls st : List Value} {n sl : Nat} {kd : Nat → am_K} {r : Nat → Nat → Option Nat} {v : Nat → Nat → Int32} {w : Nat → Nat → Int64} {h : am_H}
/-- how it goes on behind an instruction -/
def am_k (X : am_X) (is : List am_I) : am_R → am_R
  | some (.inl S') => am_b X is S'
  | r => r
theorem am_k_if {b : Prop} [Decidable b] {x y : am_R} : am_k X is (if b then x else y) = if b then am_k X is x else am_k X is y := by split <;> rfl
theorem be_if {α : Type} (b : Prop) [Decidable b] (f : am_R → α) (x y : am_R) : f (if b then x else y) = if b then f x else f y := by split <;> rfl
theorem be_0 {t : Nat} : am_b X [(0, [t], c)] (ls, st, h) = am_ju t (ls, st, h) := rfl
theorem be_1 {k : Nat} : am_b X ((1, [k], c) :: is) (ls, st, h) = am_b X is (ls, .int (nI k) :: st, h) := rfl
theorem be_2 : am_b X ((2, [], c) :: is) (ls, st, h) = am_b X is (ls, .int c :: st, h) := rfl
theorem be_3 {k : Nat} : am_b X ((3, [k], c) :: is) (ls, st, h) = am_b X is (ls, .long (lN k) :: st, h) := rfl
theorem be_53 {i k : Nat} : am_b X ((53, [i, k], c) :: is) (ls, st, h) = am_b X is (ls, .long (lN k) :: st, h) := rfl
theorem be_67 {i k : Nat} : am_b X ((67, [i, k], c) :: is) (ls, st, h) = am_b X is (ls, .retAddr k :: st, h) := rfl
/-- what stands in a variable comes onto the stack -/
def am_pk (X : am_X) (ok : Value → Bool) (x : Value) (is : List am_I) (ls st : List Value) (h : am_H) : am_R := if ok x then am_b X is (ls, x :: st, h) else none
theorem pk_I {x : Int32} : am_pk X am_isI (.int x) is ls st h = am_b X is (ls, .int x :: st, h) := rfl
theorem pk_L {x : Int64} : am_pk X am_isL (.long x) is ls st h = am_b X is (ls, .long x :: st, h) := rfl
theorem pk_A {x : Nat} : am_pk X am_isA (.ref x) is ls st h = am_b X is (ls, .ref x :: st, h) := rfl
theorem pk_F {x : UInt32} : am_pk X am_isA (.float x) is ls st h = am_b X is (ls, .float x :: st, h) := rfl
theorem be_4 {k : Nat} : am_b X ((4, [k], c) :: is) (ls, st, h) = am_pk X am_isI (ls.getD k .null) is ls st h := by
  show am_k X is (if am_isI (ls.getD k .null) then am_on (ls, ls.getD k .null :: st, h) else none) = _
  rw [am_k_if]
  rfl
theorem be_5 {k : Nat} : am_b X ((5, [k], c) :: is) (ls, st, h) = am_pk X am_isL (ls.getD k .null) is ls st h := by
  show am_k X is (if am_isL (ls.getD k .null) then am_on (ls, ls.getD k .null :: st, h) else none) = _
  rw [am_k_if]
  rfl
theorem be_6 {k : Nat} : am_b X ((6, [k], c) :: is) (ls, st, h) = am_pk X am_isA (ls.getD k .null) is ls st h := by
  show am_k X is (if am_isA (ls.getD k .null) then am_on (ls, ls.getD k .null :: st, h) else none) = _
  rw [am_k_if]
  rfl
theorem be_7 {k : Nat} {x : Int32} : am_b X ((7, [k], c) :: is) (ls, .int x :: st, h) = if (decide (k < ls.length) && am_fr ls k) = true then am_b X is (ls.set k (.int x), st, h) else none := by
  show am_k X is (if (am_isI (.int x) && decide (k < ls.length) && am_fr ls k) = true then am_on (ls.set k (.int x), st, h) else none) = _
  simp only [am_isI, Bool.true_and]
  rw [am_k_if]
  rfl
theorem be_9 {k x : Nat} : am_b X ((9, [k], c) :: is) (ls, .ref x :: st, h) = if (decide (k < ls.length) && am_fr ls k) = true then am_b X is (ls.set k (.ref x), st, h) else none := by
  show am_k X is (if (am_isA (.ref x) && decide (k < ls.length) && am_fr ls k) = true then am_on (ls.set k (.ref x), st, h) else none) = _
  simp only [am_isA, Bool.true_and]
  rw [am_k_if]
  rfl
theorem be_8 {k : Nat} {x : Int64} : am_b X ((8, [k], c) :: is) (ls, .long x :: st, h) = if (decide (k + 1 < ls.length) && am_fr ls k) = true then am_b X is ((ls.set k (.long x)).set (k + 1) .null, st, h) else none := by
  show am_k X is (if (decide (k + 1 < ls.length) && am_fr ls k) = true then am_on ((ls.set k (.long x)).set (k + 1) .null, st, h) else none) = _
  rw [am_k_if]
  rfl
/-- a variable is added to -/
def am_pi (X : am_X) (y : Value) (k : Nat) (x : Int32) (is : List am_I) (ls st : List Value) (h : am_H) : am_R := match y with
  | .int y => if am_fr ls k = true then am_b X is (ls.set k (.int (y + x)), st, h) else none
  | _ => none
theorem pi_I {y x : Int32} {k : Nat} : am_pi X (.int y) k x is ls st h = if am_fr ls k = true then am_b X is (ls.set k (.int (y + x)), st, h) else none := rfl
theorem am_inc_b {k : Nat} {x : Int32} : am_k X is (am_inc k x (ls, st, h)) = am_pi X (ls.getD k .null) k x is ls st h := by
  unfold am_inc am_pi
  dsimp only
  cases ls.getD k .null with
  | int y => dsimp only; rw [am_k_if]; rfl
  | _ => rfl
theorem be_10 {k j : Nat} : am_b X ((10, [k, j], c) :: is) (ls, st, h) = am_pi X (ls.getD k .null) k (nI j) is ls st h := am_inc_b
theorem be_11 {k : Nat} : am_b X ((11, [k], c) :: is) (ls, st, h) = am_pi X (ls.getD k .null) k c is ls st h := am_inc_b
theorem be_12 {x y : Int32} : am_b X ((12, [], c) :: is) (ls, .int y :: .int x :: st, h) = am_b X is (ls, .int (x + y) :: st, h) := rfl
theorem be_13 {x y : Int32} : am_b X ((13, [], c) :: is) (ls, .int y :: .int x :: st, h) = am_b X is (ls, .int (x - y) :: st, h) := rfl
theorem be_14 {x y : Int32} : am_b X ((14, [], c) :: is) (ls, .int y :: .int x :: st, h) = am_b X is (ls, .int (x * y) :: st, h) := rfl
theorem be_18 {x y : Int32} : am_b X ((18, [], c) :: is) (ls, .int y :: .int x :: st, h) = am_b X is (ls, .int (x &&& y) :: st, h) := rfl
theorem be_19 {x y : Int32} : am_b X ((19, [], c) :: is) (ls, .int y :: .int x :: st, h) = am_b X is (ls, .int (x ||| y) :: st, h) := rfl
theorem be_20 {x y : Int32} : am_b X ((20, [], c) :: is) (ls, .int y :: .int x :: st, h) = am_b X is (ls, .int (x ^^^ y) :: st, h) := rfl
theorem be_21 {x y : Int32} : am_b X ((21, [], c) :: is) (ls, .int y :: .int x :: st, h) = am_b X is (ls, .int (x <<< (y &&& 31)) :: st, h) := rfl
theorem be_22 {x y : Int32} : am_b X ((22, [], c) :: is) (ls, .int y :: .int x :: st, h) = am_b X is (ls, .int (x >>> (y &&& 31)) :: st, h) := rfl
theorem be_15 {x y : Int32} : am_b X ((15, [], c) :: is) (ls, .int y :: .int x :: st, h) = if y = 0 then none else am_b X is (ls, .int (x / y) :: st, h) := by
  show am_k X is (if y = 0 then none else am_on (ls, .int (x / y) :: st, h)) = _
  rw [am_k_if]
  rfl
theorem be_16 {x y : Int32} : am_b X ((16, [], c) :: is) (ls, .int y :: .int x :: st, h) = if y = 0 then none else am_b X is (ls, .int (x - x / y * y) :: st, h) := by
  show am_k X is (if y = 0 then none else am_on (ls, .int (x - x / y * y) :: st, h)) = _
  rw [am_k_if]
  rfl
theorem be_17 {x : Int32} : am_b X ((17, [], c) :: is) (ls, .int x :: st, h) = am_b X is (ls, .int (-x) :: st, h) := rfl
theorem be_28 {x : Int32} : am_b X ((28, [], c) :: is) (ls, .int x :: st, h) = am_b X is (ls, .int (x.toInt8.toInt32) :: st, h) := rfl
theorem be_29 {x : Int32} : am_b X ((29, [], c) :: is) (ls, .int x :: st, h) = am_b X is (ls, .int ((x.toUInt32 % 65536).toInt32) :: st, h) := rfl
theorem be_23 {x y : Int64} : am_b X ((23, [], c) :: is) (ls, .long y :: .long x :: st, h) = am_b X is (ls, .long (x + y) :: st, h) := rfl
theorem be_24 {x y : Int64} : am_b X ((24, [], c) :: is) (ls, .long y :: .long x :: st, h) = am_b X is (ls, .long (x * y) :: st, h) := rfl
theorem be_25 {x y : Int64} : am_b X ((25, [], c) :: is) (ls, .long y :: .long x :: st, h) = am_b X is (ls, .int (lg_cmp x y) :: st, h) := rfl
theorem be_26 {x : Int32} : am_b X ((26, [], c) :: is) (ls, .int x :: st, h) = am_b X is (ls, .long x.toInt64 :: st, h) := rfl
theorem be_27 {x : Int64} : am_b X ((27, [], c) :: is) (ls, .long x :: st, h) = am_b X is (ls, .int x.toInt32 :: st, h) := rfl
theorem be_30I {x : Int32} : am_b X ((30, [], c) :: is) (ls, .int x :: st, h) = am_b X is (ls, .int x :: .int x :: st, h) := rfl
theorem be_30A {x : Nat} : am_b X ((30, [], c) :: is) (ls, .ref x :: st, h) = am_b X is (ls, .ref x :: .ref x :: st, h) := rfl
theorem be_31I {x : Int32} : am_b X ((31, [], c) :: is) (ls, .int x :: st, h) = am_b X is (ls, st, h) := rfl
theorem be_32 {x : Int32} {a : Nat} : am_b X ((32, [], c) :: is) (ls, .int x :: .ref a :: st, h) = am_b X is (ls, .int x :: .ref a :: .int x :: .ref a :: st, h) := rfl
/-- is the cell of this kind -/
def am_kc (n : Nat) (kd : Nat → am_K) (a q : Nat) : Bool := decide (a < n) && decide (kd a = .inl q)
theorem kc_of {a q : Nat} (h1 : a < n) (h2 : kd a = .inl q) : am_kc n kd a q = true := by
  unfold am_kc
  simp [h1, h2]
theorem be_33 {i q k a : Nat} : am_b X ((33, [i, q, k], c) :: is) (ls, .ref a :: st, (n, sl, kd, r, v, w)) = if am_kc n kd a q = true then am_b X is (ls, .int (v a k) :: st, (n, sl, kd, r, v, w)) else none := by
  show am_k X is (if am_kc n kd a q = true then am_on (ls, .int (v a k) :: st, (n, sl, kd, r, v, w)) else none) = _
  rw [am_k_if]
  rfl
/-- a reference comes onto the stack -/
def am_pr (X : am_X) (y : Option Nat) (is : List am_I) (ls st : List Value) (h : am_H) : am_R := match y with
  | some a => am_b X is (ls, .ref a :: st, h)
  | none => none
theorem pr_A {a : Nat} : am_pr X (some a) is ls st h = am_b X is (ls, .ref a :: st, h) := rfl
theorem be_34 {i q k a : Nat} : am_b X ((34, [i, q, k], c) :: is) (ls, .ref a :: st, (n, sl, kd, r, v, w)) = if am_kc n kd a q = true then am_pr X (r a k) is ls st (n, sl, kd, r, v, w) else none := by
  show am_k X is (if am_kc n kd a q = true then ((r a k).map Value.ref).bind (fun x => am_on (ls, x :: st, (n, sl, kd, r, v, w))) else none) = _
  rw [am_k_if]
  cases r a k <;> rfl
theorem be_35 {i q k a : Nat} {x : Int32} : am_b X ((35, [i, q, k], c) :: is) (ls, .int x :: .ref a :: st, (n, sl, kd, r, v, w)) = if am_kc n kd a q = true then am_b X is (ls, st, (n, sl, kd, r, am_u v a k x, w)) else none := by
  show am_k X is (if (am_kc n kd a q && true) = true then am_on (ls, st, (n, sl, kd, r, am_u v a k x, w)) else none) = _
  rw [Bool.and_true, am_k_if]
  rfl
theorem be_36 {i q k a : Nat} {x : Int32} : am_b X ((36, [i, q, k], c) :: is) (ls, .int x :: .ref a :: st, (n, sl, kd, r, v, w)) = if (am_kc n kd a q && am_z1 x) = true then am_b X is (ls, st, (n, sl, kd, r, am_u v a k x, w)) else none := by
  show am_k X is (if (am_kc n kd a q && am_z1 x) = true then am_on (ls, st, (n, sl, kd, r, am_u v a k x, w)) else none) = _
  rw [am_k_if]
  rfl
/-- is the cell an array of this type, the index within -/
def am_ka (n : Nat) (kd : Nat → am_K) (a t : Nat) (i : Int32) : Bool := decide (a < n) && (match kd a with
  | .inl _ => false
  | .inr q => decide (q.1 = t) && am_in i q.2)
theorem in_nI {p m : Nat} (h : p < m) (hm : m < 2 ^ 31) : am_in (nI p) m = true := by
  unfold am_in
  rw [nI_clamp (by omega)]
  have := nI_pos (n := p) (by omega)
  simp [this, h]
theorem ka_of {a t m : Nat} {i : Int32} (h1 : a < n) (h2 : kd a = .inr (t, m)) (h3 : am_in i m = true) : am_ka n kd a t i = true := by
  unfold am_ka
  rw [h2]
  simp [h1, h3]
theorem be_38 {a : Nat} {i : Int32} : am_b X ((38, [], c) :: is) (ls, .int i :: .ref a :: st, (n, sl, kd, r, v, w)) = if am_ka n kd a 0 i = true then am_b X is (ls, .int (v a i.toNatClampNeg) :: st, (n, sl, kd, r, v, w)) else none := by
  show am_k X is (if am_ka n kd a 0 i = true then am_on (ls, .int (v a i.toNatClampNeg) :: st, (n, sl, kd, r, v, w)) else none) = _
  rw [am_k_if]
  rfl
theorem be_39 {a : Nat} {i : Int32} : am_b X ((39, [], c) :: is) (ls, .int i :: .ref a :: st, (n, sl, kd, r, v, w)) = if am_ka n kd a 1 i = true then am_b X is (ls, .int (v a i.toNatClampNeg) :: st, (n, sl, kd, r, v, w)) else none := by
  show am_k X is (if am_ka n kd a 1 i = true then am_on (ls, .int (v a i.toNatClampNeg) :: st, (n, sl, kd, r, v, w)) else none) = _
  rw [am_k_if]
  rfl
theorem be_40 {a : Nat} {i : Int32} : am_b X ((40, [], c) :: is) (ls, .int i :: .ref a :: st, (n, sl, kd, r, v, w)) = if am_ka n kd a 2 i = true then am_b X is (ls, .int (v a i.toNatClampNeg) :: st, (n, sl, kd, r, v, w)) else none := by
  show am_k X is (if am_ka n kd a 2 i = true then am_on (ls, .int (v a i.toNatClampNeg) :: st, (n, sl, kd, r, v, w)) else none) = _
  rw [am_k_if]
  rfl
theorem be_41 {a : Nat} {i : Int32} : am_b X ((41, [], c) :: is) (ls, .int i :: .ref a :: st, (n, sl, kd, r, v, w)) = if am_ka n kd a 3 i = true then am_b X is (ls, .long (w a i.toNatClampNeg) :: st, (n, sl, kd, r, v, w)) else none := by
  show am_k X is (if am_ka n kd a 3 i = true then am_on (ls, .long (w a i.toNatClampNeg) :: st, (n, sl, kd, r, v, w)) else none) = _
  rw [am_k_if]
  rfl
theorem be_42 {a : Nat} {i : Int32} : am_b X ((42, [], c) :: is) (ls, .int i :: .ref a :: st, (n, sl, kd, r, v, w)) = if am_ka n kd a 4 i = true then am_pr X (r a i.toNatClampNeg) is ls st (n, sl, kd, r, v, w) else none := by
  show am_k X is (if am_ka n kd a 4 i = true then ((r a i.toNatClampNeg).map Value.ref).bind (fun x => am_on (ls, x :: st, (n, sl, kd, r, v, w))) else none) = _
  rw [am_k_if]
  cases r a i.toNatClampNeg <;> rfl
theorem be_43 {a : Nat} {i x : Int32} : am_b X ((43, [], c) :: is) (ls, .int x :: .int i :: .ref a :: st, (n, sl, kd, r, v, w)) = if am_ka n kd a 0 i = true then am_b X is (ls, st, (n, sl, kd, r, am_u v a i.toNatClampNeg (x), w)) else none := by
  show am_k X is (if am_ka n kd a 0 i = true then am_on (ls, st, (n, sl, kd, r, am_u v a i.toNatClampNeg (x), w)) else none) = _
  rw [am_k_if]
  rfl
theorem be_44 {a : Nat} {i x : Int32} : am_b X ((44, [], c) :: is) (ls, .int x :: .int i :: .ref a :: st, (n, sl, kd, r, v, w)) = if am_ka n kd a 1 i = true then am_b X is (ls, st, (n, sl, kd, r, am_u v a i.toNatClampNeg (vp_nar .byte x), w)) else none := by
  show am_k X is (if am_ka n kd a 1 i = true then am_on (ls, st, (n, sl, kd, r, am_u v a i.toNatClampNeg (vp_nar .byte x), w)) else none) = _
  rw [am_k_if]
  rfl
theorem be_45 {a : Nat} {i x : Int32} : am_b X ((45, [], c) :: is) (ls, .int x :: .int i :: .ref a :: st, (n, sl, kd, r, v, w)) = if am_ka n kd a 2 i = true then am_b X is (ls, st, (n, sl, kd, r, am_u v a i.toNatClampNeg (vp_nar .boolean x), w)) else none := by
  show am_k X is (if am_ka n kd a 2 i = true then am_on (ls, st, (n, sl, kd, r, am_u v a i.toNatClampNeg (vp_nar .boolean x), w)) else none) = _
  rw [am_k_if]
  rfl
theorem be_46 {a : Nat} {i : Int32} {x : Int64} : am_b X ((46, [], c) :: is) (ls, .long x :: .int i :: .ref a :: st, (n, sl, kd, r, v, w)) = if am_ka n kd a 3 i = true then am_b X is (ls, st, (n, sl, kd, r, v, am_uL w a i.toNatClampNeg x)) else none := by
  show am_k X is (if am_ka n kd a 3 i = true then am_on (ls, st, (n, sl, kd, r, v, am_uL w a i.toNatClampNeg x)) else none) = _
  rw [am_k_if]
  rfl
theorem be_49_0 {t f : Nat} {x y : Int32} : am_b X [(49, [0, t, f], c)] (ls, .int y :: .int x :: st, h) = if x = y then am_ju t (ls, st, h) else am_ju f (ls, st, h) := by
  show am_k X [] (if decide (x = y) = true then am_ju t (ls, st, h) else am_ju f (ls, st, h)) = _
  by_cases hc : x = y
  · rw [if_pos hc, if_pos (decide_eq_true hc)]; rfl
  · rw [if_neg hc, if_neg (fun z => hc (of_decide_eq_true z))]; rfl
theorem be_50_0 {t f : Nat} {x : Int32} : am_b X [(50, [0, t, f], c)] (ls, .int x :: st, h) = if x = 0 then am_ju t (ls, st, h) else am_ju f (ls, st, h) := by
  show am_k X [] (if decide (x = 0) = true then am_ju t (ls, st, h) else am_ju f (ls, st, h)) = _
  by_cases hc : x = 0
  · rw [if_pos hc, if_pos (decide_eq_true hc)]; rfl
  · rw [if_neg hc, if_neg (fun z => hc (of_decide_eq_true z))]; rfl
theorem be_49_1 {t f : Nat} {x y : Int32} : am_b X [(49, [1, t, f], c)] (ls, .int y :: .int x :: st, h) = if ¬ x = y then am_ju t (ls, st, h) else am_ju f (ls, st, h) := by
  show am_k X [] (if decide (¬ x = y) = true then am_ju t (ls, st, h) else am_ju f (ls, st, h)) = _
  by_cases hc : ¬ x = y
  · rw [if_pos hc, if_pos (decide_eq_true hc)]; rfl
  · rw [if_neg hc, if_neg (fun z => hc (of_decide_eq_true z))]; rfl
theorem be_50_1 {t f : Nat} {x : Int32} : am_b X [(50, [1, t, f], c)] (ls, .int x :: st, h) = if ¬ x = 0 then am_ju t (ls, st, h) else am_ju f (ls, st, h) := by
  show am_k X [] (if decide (¬ x = 0) = true then am_ju t (ls, st, h) else am_ju f (ls, st, h)) = _
  by_cases hc : ¬ x = 0
  · rw [if_pos hc, if_pos (decide_eq_true hc)]; rfl
  · rw [if_neg hc, if_neg (fun z => hc (of_decide_eq_true z))]; rfl
theorem be_49_2 {t f : Nat} {x y : Int32} : am_b X [(49, [2, t, f], c)] (ls, .int y :: .int x :: st, h) = if x < y then am_ju t (ls, st, h) else am_ju f (ls, st, h) := by
  show am_k X [] (if decide (x < y) = true then am_ju t (ls, st, h) else am_ju f (ls, st, h)) = _
  by_cases hc : x < y
  · rw [if_pos hc, if_pos (decide_eq_true hc)]; rfl
  · rw [if_neg hc, if_neg (fun z => hc (of_decide_eq_true z))]; rfl
theorem be_50_2 {t f : Nat} {x : Int32} : am_b X [(50, [2, t, f], c)] (ls, .int x :: st, h) = if x < 0 then am_ju t (ls, st, h) else am_ju f (ls, st, h) := by
  show am_k X [] (if decide (x < 0) = true then am_ju t (ls, st, h) else am_ju f (ls, st, h)) = _
  by_cases hc : x < 0
  · rw [if_pos hc, if_pos (decide_eq_true hc)]; rfl
  · rw [if_neg hc, if_neg (fun z => hc (of_decide_eq_true z))]; rfl
theorem be_49_3 {t f : Nat} {x y : Int32} : am_b X [(49, [3, t, f], c)] (ls, .int y :: .int x :: st, h) = if y ≤ x then am_ju t (ls, st, h) else am_ju f (ls, st, h) := by
  show am_k X [] (if decide (y ≤ x) = true then am_ju t (ls, st, h) else am_ju f (ls, st, h)) = _
  by_cases hc : y ≤ x
  · rw [if_pos hc, if_pos (decide_eq_true hc)]; rfl
  · rw [if_neg hc, if_neg (fun z => hc (of_decide_eq_true z))]; rfl
theorem be_50_3 {t f : Nat} {x : Int32} : am_b X [(50, [3, t, f], c)] (ls, .int x :: st, h) = if 0 ≤ x then am_ju t (ls, st, h) else am_ju f (ls, st, h) := by
  show am_k X [] (if decide (0 ≤ x) = true then am_ju t (ls, st, h) else am_ju f (ls, st, h)) = _
  by_cases hc : 0 ≤ x
  · rw [if_pos hc, if_pos (decide_eq_true hc)]; rfl
  · rw [if_neg hc, if_neg (fun z => hc (of_decide_eq_true z))]; rfl
theorem be_49_4 {t f : Nat} {x y : Int32} : am_b X [(49, [4, t, f], c)] (ls, .int y :: .int x :: st, h) = if y < x then am_ju t (ls, st, h) else am_ju f (ls, st, h) := by
  show am_k X [] (if decide (y < x) = true then am_ju t (ls, st, h) else am_ju f (ls, st, h)) = _
  by_cases hc : y < x
  · rw [if_pos hc, if_pos (decide_eq_true hc)]; rfl
  · rw [if_neg hc, if_neg (fun z => hc (of_decide_eq_true z))]; rfl
theorem be_50_4 {t f : Nat} {x : Int32} : am_b X [(50, [4, t, f], c)] (ls, .int x :: st, h) = if 0 < x then am_ju t (ls, st, h) else am_ju f (ls, st, h) := by
  show am_k X [] (if decide (0 < x) = true then am_ju t (ls, st, h) else am_ju f (ls, st, h)) = _
  by_cases hc : 0 < x
  · rw [if_pos hc, if_pos (decide_eq_true hc)]; rfl
  · rw [if_neg hc, if_neg (fun z => hc (of_decide_eq_true z))]; rfl
theorem be_49_5 {t f : Nat} {x y : Int32} : am_b X [(49, [5, t, f], c)] (ls, .int y :: .int x :: st, h) = if x ≤ y then am_ju t (ls, st, h) else am_ju f (ls, st, h) := by
  show am_k X [] (if decide (x ≤ y) = true then am_ju t (ls, st, h) else am_ju f (ls, st, h)) = _
  by_cases hc : x ≤ y
  · rw [if_pos hc, if_pos (decide_eq_true hc)]; rfl
  · rw [if_neg hc, if_neg (fun z => hc (of_decide_eq_true z))]; rfl
theorem be_50_5 {t f : Nat} {x : Int32} : am_b X [(50, [5, t, f], c)] (ls, .int x :: st, h) = if x ≤ 0 then am_ju t (ls, st, h) else am_ju f (ls, st, h) := by
  show am_k X [] (if decide (x ≤ 0) = true then am_ju t (ls, st, h) else am_ju f (ls, st, h)) = _
  by_cases hc : x ≤ 0
  · rw [if_pos hc, if_pos (decide_eq_true hc)]; rfl
  · rw [if_neg hc, if_neg (fun z => hc (of_decide_eq_true z))]; rfl
theorem be_51 {t : Nat} : am_b X [(51, [t], c)] (ls, st, h) = am_ju t (ls, st, h) := rfl
theorem be_52 {lo d : Nat} {ts : List Nat} {x : Int32} : am_b X [(52, lo :: d :: ts, c)] (ls, .int x :: st, h) = am_ju (am_swt lo d ts x) (ls, st, h) := rfl
theorem be_54 {x : Int32} : am_b X [(54, [], c)] (ls, [.int x], h) = am_re (some (.int x)) h := rfl
theorem be_73 {x : Int32} : am_b X [(73, [], c)] (ls, [.int x], h) = if am_z1 x = true then am_re (some (.int x)) h else none := by
  show am_k X [] (if am_z1 x = true then am_re (some (.int x)) h else none) = _
  rw [am_k_if]
  rfl
theorem be_55 {x : Int64} : am_b X [(55, [], c)] (ls, [.long x], h) = am_re (some (.long x)) h := rfl
theorem be_56 : am_b X [(56, [], c)] (ls, [], h) = am_re none h := rfl
theorem be_64 {i : Nat} {x y : Int32} : am_b X ((64, [i], c) :: is) (ls, .int y :: .int x :: st, h) = if am_cat st ≤ 8 then am_b X is (ls, .int (if x < y then y else x) :: st, h) else none := by
  show am_k X is (if decide (am_cat st ≤ 8) = true then am_on (ls, .int (if x < y then y else x) :: st, h) else none) = _
  by_cases hc : am_cat st ≤ 8
  · rw [if_pos hc, if_pos (decide_eq_true hc)]; rfl
  · rw [if_neg hc, if_neg (fun z => hc (of_decide_eq_true z))]; rfl
theorem be_65 {i : Nat} {x y : Int32} : am_b X ((65, [i], c) :: is) (ls, .int y :: .int x :: st, h) = if am_cat st ≤ 8 then am_b X is (ls, .int (if y < x then y else x) :: st, h) else none := by
  show am_k X is (if decide (am_cat st ≤ 8) = true then am_on (ls, .int (if y < x then y else x) :: st, h) else none) = _
  by_cases hc : am_cat st ≤ 8
  · rw [if_pos hc, if_pos (decide_eq_true hc)]; rfl
  · rw [if_neg hc, if_neg (fun z => hc (of_decide_eq_true z))]; rfl
theorem be_68 {i k : Nat} : am_b X ((68, [i], c) :: is) (ls, .retAddr k :: st, h) = if am_cat st ≤ 8 then am_b X is (ls, .int (nI (am_tx k).length) :: st, h) else none := by
  show am_k X is (if decide (am_cat st ≤ 8) = true then am_on (ls, .int (nI (am_tx k).length) :: st, h) else none) = _
  by_cases hc : am_cat st ≤ 8
  · rw [if_pos hc, if_pos (decide_eq_true hc)]; rfl
  · rw [if_neg hc, if_neg (fun z => hc (of_decide_eq_true z))]; rfl
theorem be_69 {i k : Nat} {x : Int32} : am_b X ((69, [i], c) :: is) (ls, .int x :: .retAddr k :: st, h) = if (decide (am_cat st ≤ 8) && am_in x (am_tx k).length) = true then am_b X is (ls, .int (nI ((am_tx k).getD x.toNatClampNeg 0)) :: st, h) else none := by
  show am_k X is (if (decide (am_cat st ≤ 8) && am_in x (am_tx k).length) = true then am_on (ls, .int (nI ((am_tx k).getD x.toNatClampNeg 0)) :: st, h) else none) = _
  rw [am_k_if]
  rfl
theorem be_70 {i k : Nat} {x : Int32} : am_b X ((70, [i], c) :: is) (ls, .int x :: .retAddr k :: st, h) = if am_cat st ≤ 8 then am_b X is (ls, .int (am_ix x (am_tx k) 0) :: st, h) else none := by
  show am_k X is (if decide (am_cat st ≤ 8) = true then am_on (ls, .int (am_ix x (am_tx k) 0) :: st, h) else none) = _
  by_cases hc : am_cat st ≤ 8
  · rw [if_pos hc, if_pos (decide_eq_true hc)]; rfl
  · rw [if_neg hc, if_neg (fun z => hc (of_decide_eq_true z))]; rfl
theorem be_71 {i : Int32} {u : UInt32} : am_b X ((71, [], c) :: is) (ls, .int i :: .float u :: st, h) = if am_in i X.1 = true then am_b X is (ls, .int (X.2 i.toNatClampNeg) :: st, h) else none := by
  show am_k X is (if am_in i X.1 = true then am_on (ls, .int (X.2 i.toNatClampNeg) :: st, h) else none) = _
  rw [am_k_if]
  rfl
theorem be_72 {u : UInt32} : am_b X ((72, [], c) :: is) (ls, .float u :: st, h) = am_b X is (ls, .int (nI X.1) :: st, h) := rfl
theorem be_66 {i a b na nb : Nat} {k dp sp : Int32} (ha : a < n) (hb : b < n) (hka : kd a = .inr (0, na)) (hkb : kd b = .inr (0, nb)) (hc : am_cat st ≤ 8) (h1 : ¬ k < 0) (h2 : ¬ dp < 0) (h3 : ¬ sp < 0) (h4 : sp.toNatClampNeg + k.toNatClampNeg ≤ na) (h5 : dp.toNatClampNeg + k.toNatClampNeg ≤ nb) : am_b X ((66, [i], c) :: is) (ls, .int k :: .int dp :: .ref b :: .int sp :: .ref a :: st, (n, sl, kd, r, v, w)) = am_b X is (ls, st, (n, sl, kd, r, am_cpf v a b sp.toNatClampNeg dp.toNatClampNeg k.toNatClampNeg, w)) := by
  have e : am_cp (ls, .int k :: .int dp :: .ref b :: .int sp :: .ref a :: st, (n, sl, kd, r, v, w)) = am_on (ls, st, (n, sl, kd, r, am_cpf v a b sp.toNatClampNeg dp.toNatClampNeg k.toNatClampNeg, w)) := by
    unfold am_cp
    dsimp only
    rw [hka, hkb]
    simp [ha, hb, hc, h1, h2, h3, h4, h5]
  show am_k X is (am_cp (ls, .int k :: .int dp :: .ref b :: .int sp :: .ref a :: st, (n, sl, kd, r, v, w))) = _
  rw [e]
  rfl
theorem be_57_0 {i m q t a : Nat} : am_b X [(57, [i, m, 0, q, t], c)] (ls, .ref a :: st, (n, sl, kd, r, v, w)) = if (decide (am_cat st ≤ 8) && am_kc n kd a q) = true then am_ca m (.ref a :: []) t (ls, st, (n, sl, kd, r, v, w)) else none := by
  show am_k X [] (if (decide (0 ≤ (.ref a :: st).length) && decide (am_cat st ≤ 8) && am_kc n kd a q) = true then am_ca m (.ref a :: []) t (ls, st, (n, sl, kd, r, v, w)) else none) = _
  have e : decide (0 ≤ (.ref a :: st).length) = true := by simp
  rw [e, Bool.true_and]
  rw [am_k_if]
  rfl
theorem be_57_1 {i m q t a : Nat} {x1 : Value} : am_b X [(57, [i, m, 1, q, t], c)] (ls, x1 :: .ref a :: st, (n, sl, kd, r, v, w)) = if (decide (am_cat st ≤ 8) && am_kc n kd a q) = true then am_ca m (.ref a :: [x1]) t (ls, st, (n, sl, kd, r, v, w)) else none := by
  show am_k X [] (if (decide (1 ≤ (x1 :: .ref a :: st).length) && decide (am_cat st ≤ 8) && am_kc n kd a q) = true then am_ca m (.ref a :: [x1]) t (ls, st, (n, sl, kd, r, v, w)) else none) = _
  have e : decide (1 ≤ (x1 :: .ref a :: st).length) = true := by simp
  rw [e, Bool.true_and]
  rw [am_k_if]
  rfl
theorem be_57_2 {i m q t a : Nat} {x1 x2 : Value} : am_b X [(57, [i, m, 2, q, t], c)] (ls, x2 :: x1 :: .ref a :: st, (n, sl, kd, r, v, w)) = if (decide (am_cat st ≤ 8) && am_kc n kd a q) = true then am_ca m (.ref a :: [x1, x2]) t (ls, st, (n, sl, kd, r, v, w)) else none := by
  show am_k X [] (if (decide (2 ≤ (x2 :: x1 :: .ref a :: st).length) && decide (am_cat st ≤ 8) && am_kc n kd a q) = true then am_ca m (.ref a :: [x1, x2]) t (ls, st, (n, sl, kd, r, v, w)) else none) = _
  have e : decide (2 ≤ (x2 :: x1 :: .ref a :: st).length) = true := by simp
  rw [e, Bool.true_and]
  rw [am_k_if]
  rfl
theorem be_57_3 {i m q t a : Nat} {x1 x2 x3 : Value} : am_b X [(57, [i, m, 3, q, t], c)] (ls, x3 :: x2 :: x1 :: .ref a :: st, (n, sl, kd, r, v, w)) = if (decide (am_cat st ≤ 8) && am_kc n kd a q) = true then am_ca m (.ref a :: [x1, x2, x3]) t (ls, st, (n, sl, kd, r, v, w)) else none := by
  show am_k X [] (if (decide (3 ≤ (x3 :: x2 :: x1 :: .ref a :: st).length) && decide (am_cat st ≤ 8) && am_kc n kd a q) = true then am_ca m (.ref a :: [x1, x2, x3]) t (ls, st, (n, sl, kd, r, v, w)) else none) = _
  have e : decide (3 ≤ (x3 :: x2 :: x1 :: .ref a :: st).length) = true := by simp
  rw [e, Bool.true_and]
  rw [am_k_if]
  rfl
theorem be_57_4 {i m q t a : Nat} {x1 x2 x3 x4 : Value} : am_b X [(57, [i, m, 4, q, t], c)] (ls, x4 :: x3 :: x2 :: x1 :: .ref a :: st, (n, sl, kd, r, v, w)) = if (decide (am_cat st ≤ 8) && am_kc n kd a q) = true then am_ca m (.ref a :: [x1, x2, x3, x4]) t (ls, st, (n, sl, kd, r, v, w)) else none := by
  show am_k X [] (if (decide (4 ≤ (x4 :: x3 :: x2 :: x1 :: .ref a :: st).length) && decide (am_cat st ≤ 8) && am_kc n kd a q) = true then am_ca m (.ref a :: [x1, x2, x3, x4]) t (ls, st, (n, sl, kd, r, v, w)) else none) = _
  have e : decide (4 ≤ (x4 :: x3 :: x2 :: x1 :: .ref a :: st).length) = true := by simp
  rw [e, Bool.true_and]
  rw [am_k_if]
  rfl
theorem be_57_5 {i m q t a : Nat} {x1 x2 x3 x4 x5 : Value} : am_b X [(57, [i, m, 5, q, t], c)] (ls, x5 :: x4 :: x3 :: x2 :: x1 :: .ref a :: st, (n, sl, kd, r, v, w)) = if (decide (am_cat st ≤ 8) && am_kc n kd a q) = true then am_ca m (.ref a :: [x1, x2, x3, x4, x5]) t (ls, st, (n, sl, kd, r, v, w)) else none := by
  show am_k X [] (if (decide (5 ≤ (x5 :: x4 :: x3 :: x2 :: x1 :: .ref a :: st).length) && decide (am_cat st ≤ 8) && am_kc n kd a q) = true then am_ca m (.ref a :: [x1, x2, x3, x4, x5]) t (ls, st, (n, sl, kd, r, v, w)) else none) = _
  have e : decide (5 ≤ (x5 :: x4 :: x3 :: x2 :: x1 :: .ref a :: st).length) = true := by simp
  rw [e, Bool.true_and]
  rw [am_k_if]
  rfl
theorem be_58_1 {i m t : Nat} {x1 : Value} : am_b X [(58, [i, m, 1, t], c)] (ls, x1 :: st, h) = if am_cat st ≤ 8 then am_ca m [x1] t (ls, st, h) else none := by
  show am_k X [] (if (decide (1 ≤ (x1 :: st).length) && decide (am_cat st ≤ 8)) = true then am_ca m [x1] t (ls, st, h) else none) = _
  have e : decide (1 ≤ (x1 :: st).length) = true := by simp
  rw [e, Bool.true_and]
  by_cases hc : am_cat st ≤ 8
  · rw [if_pos hc, if_pos (decide_eq_true hc)]; rfl
  · rw [if_neg hc, if_neg (fun z => hc (of_decide_eq_true z))]; rfl
theorem be_58_2 {i m t : Nat} {x1 x2 : Value} : am_b X [(58, [i, m, 2, t], c)] (ls, x2 :: x1 :: st, h) = if am_cat st ≤ 8 then am_ca m [x1, x2] t (ls, st, h) else none := by
  show am_k X [] (if (decide (2 ≤ (x2 :: x1 :: st).length) && decide (am_cat st ≤ 8)) = true then am_ca m [x1, x2] t (ls, st, h) else none) = _
  have e : decide (2 ≤ (x2 :: x1 :: st).length) = true := by simp
  rw [e, Bool.true_and]
  by_cases hc : am_cat st ≤ 8
  · rw [if_pos hc, if_pos (decide_eq_true hc)]; rfl
  · rw [if_neg hc, if_neg (fun z => hc (of_decide_eq_true z))]; rfl
theorem be_58_3 {i m t : Nat} {x1 x2 x3 : Value} : am_b X [(58, [i, m, 3, t], c)] (ls, x3 :: x2 :: x1 :: st, h) = if am_cat st ≤ 8 then am_ca m [x1, x2, x3] t (ls, st, h) else none := by
  show am_k X [] (if (decide (3 ≤ (x3 :: x2 :: x1 :: st).length) && decide (am_cat st ≤ 8)) = true then am_ca m [x1, x2, x3] t (ls, st, h) else none) = _
  have e : decide (3 ≤ (x3 :: x2 :: x1 :: st).length) = true := by simp
  rw [e, Bool.true_and]
  by_cases hc : am_cat st ≤ 8
  · rw [if_pos hc, if_pos (decide_eq_true hc)]; rfl
  · rw [if_neg hc, if_neg (fun z => hc (of_decide_eq_true z))]; rfl
theorem be_58_4 {i m t : Nat} {x1 x2 x3 x4 : Value} : am_b X [(58, [i, m, 4, t], c)] (ls, x4 :: x3 :: x2 :: x1 :: st, h) = if am_cat st ≤ 8 then am_ca m [x1, x2, x3, x4] t (ls, st, h) else none := by
  show am_k X [] (if (decide (4 ≤ (x4 :: x3 :: x2 :: x1 :: st).length) && decide (am_cat st ≤ 8)) = true then am_ca m [x1, x2, x3, x4] t (ls, st, h) else none) = _
  have e : decide (4 ≤ (x4 :: x3 :: x2 :: x1 :: st).length) = true := by simp
  rw [e, Bool.true_and]
  by_cases hc : am_cat st ≤ 8
  · rw [if_pos hc, if_pos (decide_eq_true hc)]; rfl
  · rw [if_neg hc, if_neg (fun z => hc (of_decide_eq_true z))]; rfl
theorem be_58_5 {i m t : Nat} {x1 x2 x3 x4 x5 : Value} : am_b X [(58, [i, m, 5, t], c)] (ls, x5 :: x4 :: x3 :: x2 :: x1 :: st, h) = if am_cat st ≤ 8 then am_ca m [x1, x2, x3, x4, x5] t (ls, st, h) else none := by
  show am_k X [] (if (decide (5 ≤ (x5 :: x4 :: x3 :: x2 :: x1 :: st).length) && decide (am_cat st ≤ 8)) = true then am_ca m [x1, x2, x3, x4, x5] t (ls, st, h) else none) = _
  have e : decide (5 ≤ (x5 :: x4 :: x3 :: x2 :: x1 :: st).length) = true := by simp
  rw [e, Bool.true_and]
  by_cases hc : am_cat st ≤ 8
  · rw [if_pos hc, if_pos (decide_eq_true hc)]; rfl
  · rw [if_neg hc, if_neg (fun z => hc (of_decide_eq_true z))]; rfl
theorem be_58_6 {i m t : Nat} {x1 x2 x3 x4 x5 x6 : Value} : am_b X [(58, [i, m, 6, t], c)] (ls, x6 :: x5 :: x4 :: x3 :: x2 :: x1 :: st, h) = if am_cat st ≤ 8 then am_ca m [x1, x2, x3, x4, x5, x6] t (ls, st, h) else none := by
  show am_k X [] (if (decide (6 ≤ (x6 :: x5 :: x4 :: x3 :: x2 :: x1 :: st).length) && decide (am_cat st ≤ 8)) = true then am_ca m [x1, x2, x3, x4, x5, x6] t (ls, st, h) else none) = _
  have e : decide (6 ≤ (x6 :: x5 :: x4 :: x3 :: x2 :: x1 :: st).length) = true := by simp
  rw [e, Bool.true_and]
  by_cases hc : am_cat st ≤ 8
  · rw [if_pos hc, if_pos (decide_eq_true hc)]; rfl
  · rw [if_neg hc, if_neg (fun z => hc (of_decide_eq_true z))]; rfl
theorem be_58_7 {i m t : Nat} {x1 x2 x3 x4 x5 x6 x7 : Value} : am_b X [(58, [i, m, 7, t], c)] (ls, x7 :: x6 :: x5 :: x4 :: x3 :: x2 :: x1 :: st, h) = if am_cat st ≤ 8 then am_ca m [x1, x2, x3, x4, x5, x6, x7] t (ls, st, h) else none := by
  show am_k X [] (if (decide (7 ≤ (x7 :: x6 :: x5 :: x4 :: x3 :: x2 :: x1 :: st).length) && decide (am_cat st ≤ 8)) = true then am_ca m [x1, x2, x3, x4, x5, x6, x7] t (ls, st, h) else none) = _
  have e : decide (7 ≤ (x7 :: x6 :: x5 :: x4 :: x3 :: x2 :: x1 :: st).length) = true := by simp
  rw [e, Bool.true_and]
  by_cases hc : am_cat st ≤ 8
  · rw [if_pos hc, if_pos (decide_eq_true hc)]; rfl
  · rw [if_neg hc, if_neg (fun z => hc (of_decide_eq_true z))]; rfl
theorem d_ju {d t : Nat} {k : Nat → List am_I} {S : am_S} {Q : Option Value → am_H → Prop} : am_D X d k Q (am_ju t S) = am_Go X d k t S Q := rfl
theorem d_re {d : Nat} {k : Nat → List am_I} {x : Option Value} {Q : Option Value → am_H → Prop} : am_D X d k Q (am_re x h) = Q x h := rfl
theorem d_ca {d m t : Nat} {k : Nat → List am_I} {as : List Value} {Q : Option Value → am_H → Prop} : am_D X d k Q (am_ca m as t (ls, st, h)) = am_Ca d m as h (fun x h' => am_Go X d k t (ls, am_st x st, h') Q) := rfl
theorem d_if {d : Nat} {k : Nat → List am_I} {Q : Option Value → am_H → Prop} {b : Prop} [Decidable b] {x y : am_R} : am_D X d k Q (if b then x else y) = if b then am_D X d k Q x else am_D X d k Q y := by split <;> rfl
end
