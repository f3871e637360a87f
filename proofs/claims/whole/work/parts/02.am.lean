/-! A MACHINE OF OUR OWN for the part of the bytecode that the class, the reference and the law use: a pure function over cells that are numbered in the order in which they are made. Part 03 shows that the real machine does what it does; all later parts speak of it alone.
A value is a Value; '.ref a' is the a-th cell made; '.float _' is the law's script; '.retAddr i' is the i-th text constant; '.null' among the variables is 'nothing known'. -/
/-- what a cell is: .inl c an object of the c-th kind; .inr (t, n) an array of n of the t-th type (0 int, 1 byte, 2 boolean, 3 long, 4 references) -/
abbrev am_K : Type := Nat ⊕ (Nat × Nat)
/-- cells made, slots made, what each is, references in it, ints in it, longs in it -/
abbrev am_H : Type := Nat × Nat × (Nat → am_K) × (Nat → Nat → Option Nat) × (Nat → Nat → Int32) × (Nat → Nat → Int64)
/-- variables, stack, cells -/
abbrev am_S : Type := List Value × List Value × am_H
/-- an instruction: its number, its operands, its constant -/
abbrev am_I : Type := Nat × List Nat × Int32
/-- on; a jump; an answer; a call (which method, of what, where it goes on) -/
abbrev am_R : Type := Option (am_S ⊕ ((Nat × am_S) ⊕ ((Option Value × am_H) ⊕ (Nat × List Value × Nat × am_S))))
abbrev am_on (S : am_S) : am_R := some (.inl S)
abbrev am_ju (pc : Nat) (S : am_S) : am_R := some (.inr (.inl (pc, S)))
abbrev am_re (v : Option Value) (h : am_H) : am_R := some (.inr (.inr (.inl (v, h))))
abbrev am_ca (m : Nat) (as : List Value) (pc : Nat) (S : am_S) : am_R := some (.inr (.inr (.inr (m, as, pc, S))))
def am_u (v : Nat → Nat → Int32) (a k : Nat) (x : Int32) : Nat → Nat → Int32 := fun b => if b = a then upd (v a) k x else v b
def am_uL (w : Nat → Nat → Int64) (a k : Nat) (x : Int64) : Nat → Nat → Int64 := fun b => if b = a then vp_updL (w a) k x else w b
def am_uR (r : Nat → Nat → Option Nat) (a k : Nat) (x : Option Nat) : Nat → Nat → Option Nat := fun b => if b = a then va_up (r a) k x else r b
def am_uK (kd : Nat → am_K) (a : Nat) (x : am_K) : Nat → am_K := fun b => if b = a then x else kd b
/-- an index within -/
def am_in (i : Int32) (n : Nat) : Bool := !(decide (i < 0) || decide (n ≤ i.toNatClampNeg))
/-- may a value be kept in a variable at k: no long begins just ahead of it -/
def am_fr (ls : List Value) : Nat → Bool
  | 0 => true
  | k + 1 => decide ((ls.getD k .null).category = 1)
/-- how wide what waits below a call's arguments is -/
def am_cat (st : List Value) : Nat := (st.map fun v => v.category).sum
def am_refs : Value → Option Nat
  | .ref a => some a
  | _ => none
/-- the cell that the topmost value is, if it is an object of this kind -/
def am_ob (h : am_H) (a c : Nat) : Bool := decide (a < h.1) && decide (h.2.2.1 a = .inl c)
/-- is it an array of this type, and the index within it -/
def am_ar (h : am_H) (a t : Nat) (i : Int32) : Bool := decide (a < h.1) && (match h.2.2.1 a with
  | .inl _ => false
  | .inr q => decide (q.1 = t) && am_in i q.2)
def am_lo (k : Nat) (S : am_S) (ok : Value → Bool) : am_R := match S with
  | (ls, st, h) => if ok (ls.getD k .null) then am_on (ls, ls.getD k .null :: st, h) else none
def am_isI : Value → Bool
  | .int _ => true
  | _ => false
def am_isL : Value → Bool
  | .long _ => true
  | _ => false
def am_isA : Value → Bool
  | .ref _ => true
  | .float _ => true
  | .retAddr _ => true
  | _ => false
def am_c1 : Value → Bool
  | .int _ => true
  | .ref _ => true
  | .float _ => true
  | _ => false
def am_st1 (k : Nat) (S : am_S) (ok : Value → Bool) : am_R := match S with
  | (ls, x :: st, h) => if ok x && decide (k < ls.length) && am_fr ls k then am_on (ls.set k x, st, h) else none
  | _ => none
def am_st2 (k : Nat) (S : am_S) : am_R := match S with
  | (ls, .long x :: st, h) => if decide (k + 1 < ls.length) && am_fr ls k then am_on ((ls.set k (.long x)).set (k + 1) .null, st, h) else none
  | _ => none
def am_i2 (f : Int32 → Int32 → Int32) (S : am_S) : am_R := match S with
  | (ls, .int y :: .int x :: st, h) => am_on (ls, .int (f x y) :: st, h)
  | _ => none
def am_i2z (f : Int32 → Int32 → Int32) (S : am_S) : am_R := match S with
  | (ls, .int y :: .int x :: st, h) => if y = 0 then none else am_on (ls, .int (f x y) :: st, h)
  | _ => none
def am_i1 (f : Int32 → Int32) (S : am_S) : am_R := match S with
  | (ls, .int x :: st, h) => am_on (ls, .int (f x) :: st, h)
  | _ => none
def am_l2 (f : Int64 → Int64 → Int64) (S : am_S) : am_R := match S with
  | (ls, .long y :: .long x :: st, h) => am_on (ls, .long (f x y) :: st, h)
  | _ => none
def am_lc (S : am_S) : am_R := match S with
  | (ls, .long y :: .long x :: st, h) => am_on (ls, .int (lg_cmp x y) :: st, h)
  | _ => none
def am_il (S : am_S) : am_R := match S with
  | (ls, .int x :: st, h) => am_on (ls, .long x.toInt64 :: st, h)
  | _ => none
def am_li (S : am_S) : am_R := match S with
  | (ls, .long x :: st, h) => am_on (ls, .int x.toInt32 :: st, h)
  | _ => none
def am_dup (S : am_S) : am_R := match S with
  | (ls, x :: st, h) => if am_c1 x then am_on (ls, x :: x :: st, h) else none
  | _ => none
def am_pop (S : am_S) : am_R := match S with
  | (ls, x :: st, h) => if am_c1 x then am_on (ls, st, h) else none
  | _ => none
def am_dup2 (S : am_S) : am_R := match S with
  | (ls, x :: y :: st, h) => if am_c1 x && am_c1 y then am_on (ls, x :: y :: x :: y :: st, h) else none
  | _ => none
def am_get (c k : Nat) (S : am_S) (f : am_H → Nat → Option Value) : am_R := match S with
  | (ls, .ref a :: st, h) => if am_ob h a c then (f h a).bind (fun x => am_on (ls, x :: st, h)) else none
  | _ => none
def am_putI (c k : Nat) (S : am_S) (ok : Int32 → Bool) : am_R := match S with
  | (ls, .int x :: .ref a :: st, (n, sl, kd, r, v, w)) => if am_ob (n, sl, kd, r, v, w) a c && ok x then am_on (ls, st, (n, sl, kd, r, am_u v a k x, w)) else none
  | _ => none
def am_putR (c k : Nat) (S : am_S) : am_R := match S with
  | (ls, .ref b :: .ref a :: st, (n, sl, kd, r, v, w)) => if am_ob (n, sl, kd, r, v, w) a c then am_on (ls, st, (n, sl, kd, am_uR r a k (some b), v, w)) else none
  | _ => none
def am_ald (t : Nat) (S : am_S) (f : am_H → Nat → Nat → Option Value) : am_R := match S with
  | (ls, .int i :: .ref a :: st, h) => if am_ar h a t i then (f h a i.toNatClampNeg).bind (fun x => am_on (ls, x :: st, h)) else none
  | _ => none
def am_ast (t : Nat) (S : am_S) (f : Int32 → Int32) : am_R := match S with
  | (ls, .int x :: .int i :: .ref a :: st, (n, sl, kd, r, v, w)) => if am_ar (n, sl, kd, r, v, w) a t i then am_on (ls, st, (n, sl, kd, r, am_u v a i.toNatClampNeg (f x), w)) else none
  | _ => none
def am_lst (S : am_S) : am_R := match S with
  | (ls, .long x :: .int i :: .ref a :: st, (n, sl, kd, r, v, w)) => if am_ar (n, sl, kd, r, v, w) a 3 i then am_on (ls, st, (n, sl, kd, r, v, am_uL w a i.toNatClampNeg x)) else none
  | _ => none
def am_rst (c : Nat) (S : am_S) : am_R := match S with
  | (ls, .ref b :: .int i :: .ref a :: st, (n, sl, kd, r, v, w)) => if am_ar (n, sl, kd, r, v, w) a 4 i && am_ob (n, sl, kd, r, v, w) b c then am_on (ls, st, (n, sl, kd, am_uR r a i.toNatClampNeg (some b), v, w)) else none
  | _ => none
/-- the six conditions -/
def am_cn (c : Nat) (x y : Int32) : Bool := match c with
  | 0 => decide (x = y)
  | 1 => decide (¬ x = y)
  | 2 => decide (x < y)
  | 3 => decide (y ≤ x)
  | 4 => decide (y < x)
  | _ => decide (x ≤ y)
def am_if2 (c t f : Nat) (S : am_S) : am_R := match S with
  | (ls, .int y :: .int x :: st, h) => if am_cn c x y then am_ju t (ls, st, h) else am_ju f (ls, st, h)
  | _ => none
def am_if1 (c t f : Nat) (S : am_S) : am_R := match S with
  | (ls, .int x :: st, h) => if am_cn c x 0 then am_ju t (ls, st, h) else am_ju f (ls, st, h)
  | _ => none
/-- where a switch goes: its lowest number, its default, its places -/
def am_swt (lo d : Nat) (ts : List Nat) (x : Int32) : Nat := if x.toInt < (lo : Int) ∨ ((lo + ts.length : Nat) : Int) ≤ x.toInt then d else ts.getD (x.toInt - (lo : Int)).toNat d
def am_sw (lo d : Nat) (ts : List Nat) (S : am_S) : am_R := match S with
  | (ls, .int x :: st, h) => am_ju (am_swt lo d ts x) (ls, st, h)
  | _ => none
def am_ri (S : am_S) (ok : Int32 → Bool) : am_R := match S with
  | (_, [.int x], h) => if ok x then am_re (some (.int x)) h else none
  | _ => none
def am_rl (S : am_S) : am_R := match S with
  | (_, [.long x], h) => am_re (some (.long x)) h
  | _ => none
def am_rv (S : am_S) : am_R := match S with
  | (_, [], h) => am_re none h
  | _ => none
/-- a call of n arguments, the receiver (an object of kind c) beside them where there is one -/
def am_cs (m n pc : Nat) (S : am_S) : am_R := match S with
  | (ls, st, h) => if decide (n ≤ st.length) && decide (am_cat (st.drop n) ≤ 8) then am_ca m (st.take n).reverse pc (ls, st.drop n, h) else none
def am_cv (m n c pc : Nat) (S : am_S) : am_R := match S with
  | (ls, st, h) => match st.drop n with
    | .ref a :: rest => if decide (n ≤ st.length) && decide (am_cat rest ≤ 8) && am_ob h a c then am_ca m (.ref a :: (st.take n).reverse) pc (ls, rest, h) else none
    | _ => none
def am_new (c f : Nat) (S : am_S) : am_R := match S with
  | (ls, st, (n, sl, kd, r, v, w)) => am_on (ls, .ref n :: st, (n + 1, sl + f, am_uK kd n (.inl c), (fun b => if b = n then fun _ => none else r b), (fun b => if b = n then fun _ => 0 else v b), w))
def am_nar (t : Nat) (S : am_S) : am_R := match S with
  | (ls, .int x :: st, (n, sl, kd, r, v, w)) => if decide (x < 0) || decide (100000 < x.toNatClampNeg) then none else am_on (ls, .ref n :: st, (n + 1, sl + x.toNatClampNeg, am_uK kd n (.inr (t, x.toNatClampNeg)), (fun b => if b = n then fun _ => none else r b), (fun b => if b = n then fun _ => 0 else v b), (fun b => if b = n then fun _ => 0 else w b)))
  | _ => none
/-- Object's constructor -/
def am_oin (S : am_S) : am_R := match S with
  | (ls, .ref _ :: st, h) => if decide (am_cat st ≤ 8) then am_on (ls, st, h) else none
  | _ => none
def am_mm (f : Int32 → Int32 → Int32) (S : am_S) : am_R := match S with
  | (ls, .int y :: .int x :: st, h) => if decide (am_cat st ≤ 8) then am_on (ls, .int (f x y) :: st, h) else none
  | _ => none
def am_cpf (v : Nat → Nat → Int32) (a b sp dp n : Nat) : Nat → Nat → Int32 := fun q => if q = b then va_cpy (v a) (v b) sp dp n else v q
def am_cp (S : am_S) : am_R := match S with
  | (ls, .int n :: .int dp :: .ref b :: .int sp :: .ref a :: st, (nn, sl, kd, r, v, w)) => match kd a, kd b with
    | .inr (0, na), .inr (0, nb) => if decide (a < nn) && decide (b < nn) && decide (am_cat st ≤ 8) && !decide (n < 0) && !decide (dp < 0) && !decide (sp < 0) && decide (sp.toNatClampNeg + n.toNatClampNeg ≤ na) && decide (dp.toNatClampNeg + n.toNatClampNeg ≤ nb) then am_on (ls, st, (nn, sl, kd, r, am_cpf v a b sp.toNatClampNeg dp.toNatClampNeg n.toNatClampNeg, w)) else none
    | _, _ => none
  | _ => none

/-- the text constants of the class -/
def am_tx : Nat → List Nat
  | 0 => [59, 61, 43, 45, 42, 47, 60, 40, 41]
  | _ => [115, 116, 97, 105, 114, 32, 32, 32, 112, 105, 108, 103, 114, 105, 109, 32, 107, 110, 101, 101, 108, 115, 32, 32, 109, 111, 118, 101, 115, 32, 32, 32, 104, 97, 115, 32, 32, 32, 32, 32, 111, 105, 108, 32, 32, 32, 32, 32, 105, 102, 32, 32, 32, 32, 32, 32, 116, 104, 101, 110, 32, 32, 32, 32, 101, 108, 115, 101, 32, 32, 32, 32, 107, 110, 101, 101, 115, 32, 32, 32, 100, 111, 117, 98, 116, 32, 32, 32, 111, 105, 108, 101, 100, 32, 32, 32, 109, 105, 110, 117, 116, 101, 32, 32, 111, 110, 32, 32, 32, 32, 32, 32, 115, 116, 101, 112, 32, 32, 32, 32, 115, 111, 114, 101, 32, 32, 32, 32, 98, 111, 114, 110, 101, 32, 32, 32]
def am_ix (c : Int32) : List Nat → Nat → Int32
  | [], _ => -1
  | b :: l, k => if nI b = c then nI k else am_ix c l (k + 1)
def am_sl (S : am_S) : am_R := match S with
  | (ls, .retAddr i :: st, h) => if decide (am_cat st ≤ 8) then am_on (ls, .int (nI (am_tx i).length) :: st, h) else none
  | _ => none
def am_sc (S : am_S) : am_R := match S with
  | (ls, .int k :: .retAddr i :: st, h) => if decide (am_cat st ≤ 8) && am_in k (am_tx i).length then am_on (ls, .int (nI ((am_tx i).getD k.toNatClampNeg 0)) :: st, h) else none
  | _ => none
def am_si (S : am_S) : am_R := match S with
  | (ls, .int c :: .retAddr i :: st, h) => if decide (am_cat st ≤ 8) then am_on (ls, .int (am_ix c (am_tx i) 0) :: st, h) else none
  | _ => none
/-- the law's script: how long, its ints -/
abbrev am_X : Type := Nat × (Nat → Int32)
def am_xl (X : am_X) (S : am_S) : am_R := match S with
  | (ls, .float _ :: st, h) => am_on (ls, .int (nI X.1) :: st, h)
  | _ => none
def am_xa (X : am_X) (S : am_S) : am_R := match S with
  | (ls, .int i :: .float _ :: st, h) => if am_in i X.1 then am_on (ls, .int (X.2 i.toNatClampNeg) :: st, h) else none
  | _ => none
def am_z1 (x : Int32) : Bool := decide (x = 0) || decide (x = 1)
def am_push (x : Value) (S : am_S) : am_R := match S with
  | (ls, st, h) => am_on (ls, x :: st, h)
def am_inc (k : Nat) (x : Int32) (S : am_S) : am_R := match S with
  | (ls, st, h) => match ls.getD k .null with
    | .int y => if am_fr ls k then am_on (ls.set k (.int (y + x)), st, h) else none
    | _ => none
/-! an instruction's work: by its number, then by its operands -/
def ah_0 (os : List Nat) (c : Int32) (X : am_X) (S : am_S) : am_R := match os with
  | [t] => am_ju t S
  | _ => none
def ah_1 (os : List Nat) (c : Int32) (X : am_X) (S : am_S) : am_R := match os with
  | [n] => am_push (.int (nI n)) S
  | _ => none
def ah_2 (os : List Nat) (c : Int32) (X : am_X) (S : am_S) : am_R := match os with
  | [] => am_push (.int c) S
  | _ => none
def ah_3 (os : List Nat) (c : Int32) (X : am_X) (S : am_S) : am_R := match os with
  | [n] => am_push (.long (lN n)) S
  | _ => none
def ah_4 (os : List Nat) (c : Int32) (X : am_X) (S : am_S) : am_R := match os with
  | [k] => am_lo k S am_isI
  | _ => none
def ah_5 (os : List Nat) (c : Int32) (X : am_X) (S : am_S) : am_R := match os with
  | [k] => am_lo k S am_isL
  | _ => none
def ah_6 (os : List Nat) (c : Int32) (X : am_X) (S : am_S) : am_R := match os with
  | [k] => am_lo k S am_isA
  | _ => none
def ah_7 (os : List Nat) (c : Int32) (X : am_X) (S : am_S) : am_R := match os with
  | [k] => am_st1 k S am_isI
  | _ => none
def ah_8 (os : List Nat) (c : Int32) (X : am_X) (S : am_S) : am_R := match os with
  | [k] => am_st2 k S
  | _ => none
def ah_9 (os : List Nat) (c : Int32) (X : am_X) (S : am_S) : am_R := match os with
  | [k] => am_st1 k S am_isA
  | _ => none
def ah_10 (os : List Nat) (c : Int32) (X : am_X) (S : am_S) : am_R := match os with
  | [k, n] => am_inc k (nI n) S
  | _ => none
def ah_11 (os : List Nat) (c : Int32) (X : am_X) (S : am_S) : am_R := match os with
  | [k] => am_inc k c S
  | _ => none
def ah_12 (os : List Nat) (c : Int32) (X : am_X) (S : am_S) : am_R := match os with
  | [] => am_i2 (fun x y => x + y) S
  | _ => none
def ah_13 (os : List Nat) (c : Int32) (X : am_X) (S : am_S) : am_R := match os with
  | [] => am_i2 (fun x y => x - y) S
  | _ => none
def ah_14 (os : List Nat) (c : Int32) (X : am_X) (S : am_S) : am_R := match os with
  | [] => am_i2 (fun x y => x * y) S
  | _ => none
def ah_15 (os : List Nat) (c : Int32) (X : am_X) (S : am_S) : am_R := match os with
  | [] => am_i2z (fun x y => x / y) S
  | _ => none
def ah_16 (os : List Nat) (c : Int32) (X : am_X) (S : am_S) : am_R := match os with
  | [] => am_i2z (fun x y => x - x / y * y) S
  | _ => none
def ah_17 (os : List Nat) (c : Int32) (X : am_X) (S : am_S) : am_R := match os with
  | [] => am_i1 (fun x => -x) S
  | _ => none
def ah_18 (os : List Nat) (c : Int32) (X : am_X) (S : am_S) : am_R := match os with
  | [] => am_i2 (fun x y => x &&& y) S
  | _ => none
def ah_19 (os : List Nat) (c : Int32) (X : am_X) (S : am_S) : am_R := match os with
  | [] => am_i2 (fun x y => x ||| y) S
  | _ => none
def ah_20 (os : List Nat) (c : Int32) (X : am_X) (S : am_S) : am_R := match os with
  | [] => am_i2 (fun x y => x ^^^ y) S
  | _ => none
def ah_21 (os : List Nat) (c : Int32) (X : am_X) (S : am_S) : am_R := match os with
  | [] => am_i2 (fun x y => x <<< (y &&& 31)) S
  | _ => none
def ah_22 (os : List Nat) (c : Int32) (X : am_X) (S : am_S) : am_R := match os with
  | [] => am_i2 (fun x y => x >>> (y &&& 31)) S
  | _ => none
def ah_23 (os : List Nat) (c : Int32) (X : am_X) (S : am_S) : am_R := match os with
  | [] => am_l2 (fun x y => x + y) S
  | _ => none
def ah_24 (os : List Nat) (c : Int32) (X : am_X) (S : am_S) : am_R := match os with
  | [] => am_l2 (fun x y => x * y) S
  | _ => none
def ah_25 (os : List Nat) (c : Int32) (X : am_X) (S : am_S) : am_R := match os with
  | [] => am_lc S
  | _ => none
def ah_26 (os : List Nat) (c : Int32) (X : am_X) (S : am_S) : am_R := match os with
  | [] => am_il S
  | _ => none
def ah_27 (os : List Nat) (c : Int32) (X : am_X) (S : am_S) : am_R := match os with
  | [] => am_li S
  | _ => none
def ah_28 (os : List Nat) (c : Int32) (X : am_X) (S : am_S) : am_R := match os with
  | [] => am_i1 (fun x => x.toInt8.toInt32) S
  | _ => none
def ah_29 (os : List Nat) (c : Int32) (X : am_X) (S : am_S) : am_R := match os with
  | [] => am_i1 (fun x => (x.toUInt32 % 65536).toInt32) S
  | _ => none
def ah_30 (os : List Nat) (c : Int32) (X : am_X) (S : am_S) : am_R := match os with
  | [] => am_dup S
  | _ => none
def ah_31 (os : List Nat) (c : Int32) (X : am_X) (S : am_S) : am_R := match os with
  | [] => am_pop S
  | _ => none
def ah_32 (os : List Nat) (c : Int32) (X : am_X) (S : am_S) : am_R := match os with
  | [] => am_dup2 S
  | _ => none
def ah_33 (os : List Nat) (c : Int32) (X : am_X) (S : am_S) : am_R := match os with
  | [_, q, k] => am_get q k S (fun h a => some (.int (h.2.2.2.2.1 a k)))
  | _ => none
def ah_34 (os : List Nat) (c : Int32) (X : am_X) (S : am_S) : am_R := match os with
  | [_, q, k] => am_get q k S (fun h a => (h.2.2.2.1 a k).map .ref)
  | _ => none
def ah_35 (os : List Nat) (c : Int32) (X : am_X) (S : am_S) : am_R := match os with
  | [_, q, k] => am_putI q k S (fun _ => true)
  | _ => none
def ah_36 (os : List Nat) (c : Int32) (X : am_X) (S : am_S) : am_R := match os with
  | [_, q, k] => am_putI q k S am_z1
  | _ => none
def ah_37 (os : List Nat) (c : Int32) (X : am_X) (S : am_S) : am_R := match os with
  | [_, q, k] => am_putR q k S
  | _ => none
def ah_38 (os : List Nat) (c : Int32) (X : am_X) (S : am_S) : am_R := match os with
  | [] => am_ald 0 S (fun h a k => some (.int (h.2.2.2.2.1 a k)))
  | _ => none
def ah_39 (os : List Nat) (c : Int32) (X : am_X) (S : am_S) : am_R := match os with
  | [] => am_ald 1 S (fun h a k => some (.int (h.2.2.2.2.1 a k)))
  | _ => none
def ah_40 (os : List Nat) (c : Int32) (X : am_X) (S : am_S) : am_R := match os with
  | [] => am_ald 2 S (fun h a k => some (.int (h.2.2.2.2.1 a k)))
  | _ => none
def ah_41 (os : List Nat) (c : Int32) (X : am_X) (S : am_S) : am_R := match os with
  | [] => am_ald 3 S (fun h a k => some (.long (h.2.2.2.2.2 a k)))
  | _ => none
def ah_42 (os : List Nat) (c : Int32) (X : am_X) (S : am_S) : am_R := match os with
  | [] => am_ald 4 S (fun h a k => (h.2.2.2.1 a k).map .ref)
  | _ => none
def ah_43 (os : List Nat) (c : Int32) (X : am_X) (S : am_S) : am_R := match os with
  | [] => am_ast 0 S (fun x => x)
  | _ => none
def ah_44 (os : List Nat) (c : Int32) (X : am_X) (S : am_S) : am_R := match os with
  | [] => am_ast 1 S (vp_nar .byte)
  | _ => none
def ah_45 (os : List Nat) (c : Int32) (X : am_X) (S : am_S) : am_R := match os with
  | [] => am_ast 2 S (vp_nar .boolean)
  | _ => none
def ah_46 (os : List Nat) (c : Int32) (X : am_X) (S : am_S) : am_R := match os with
  | [] => am_lst S
  | _ => none
def ah_47 (os : List Nat) (c : Int32) (X : am_X) (S : am_S) : am_R := match os with
  | [q] => am_rst q S
  | _ => none
def ah_49 (os : List Nat) (c : Int32) (X : am_X) (S : am_S) : am_R := match os with
  | [q, t, f] => am_if2 q t f S
  | _ => none
def ah_50 (os : List Nat) (c : Int32) (X : am_X) (S : am_S) : am_R := match os with
  | [q, t, f] => am_if1 q t f S
  | _ => none
def ah_51 (os : List Nat) (c : Int32) (X : am_X) (S : am_S) : am_R := match os with
  | [t] => am_ju t S
  | _ => none
def ah_52 (os : List Nat) (c : Int32) (X : am_X) (S : am_S) : am_R := match os with
  | lo :: d :: ts => am_sw lo d ts S
  | _ => none
def ah_53 (os : List Nat) (c : Int32) (X : am_X) (S : am_S) : am_R := match os with
  | [_, n] => am_push (.long (lN n)) S
  | _ => none
def ah_54 (os : List Nat) (c : Int32) (X : am_X) (S : am_S) : am_R := match os with
  | [] => am_ri S (fun _ => true)
  | _ => none
def ah_55 (os : List Nat) (c : Int32) (X : am_X) (S : am_S) : am_R := match os with
  | [] => am_rl S
  | _ => none
def ah_56 (os : List Nat) (c : Int32) (X : am_X) (S : am_S) : am_R := match os with
  | [] => am_rv S
  | _ => none
def ah_57 (os : List Nat) (c : Int32) (X : am_X) (S : am_S) : am_R := match os with
  | [_, m, n, q, pc] => am_cv m n q pc S
  | _ => none
def ah_58 (os : List Nat) (c : Int32) (X : am_X) (S : am_S) : am_R := match os with
  | [_, m, n, pc] => am_cs m n pc S
  | _ => none
def ah_59 (os : List Nat) (c : Int32) (X : am_X) (S : am_S) : am_R := match os with
  | [_, m, n, q, pc] => am_cv m n q pc S
  | _ => none
def ah_60 (os : List Nat) (c : Int32) (X : am_X) (S : am_S) : am_R := match os with
  | [_, q, f] => am_new q f S
  | _ => none
def ah_61 (os : List Nat) (c : Int32) (X : am_X) (S : am_S) : am_R := match os with
  | [t] => am_nar t S
  | _ => none
def ah_62 (os : List Nat) (c : Int32) (X : am_X) (S : am_S) : am_R := match os with
  | [_] => am_nar 4 S
  | _ => none
def ah_63 (os : List Nat) (c : Int32) (X : am_X) (S : am_S) : am_R := match os with
  | [_] => am_oin S
  | _ => none
def ah_64 (os : List Nat) (c : Int32) (X : am_X) (S : am_S) : am_R := match os with
  | [_] => am_mm (fun x y => if x < y then y else x) S
  | _ => none
def ah_65 (os : List Nat) (c : Int32) (X : am_X) (S : am_S) : am_R := match os with
  | [_] => am_mm (fun x y => if y < x then y else x) S
  | _ => none
def ah_66 (os : List Nat) (c : Int32) (X : am_X) (S : am_S) : am_R := match os with
  | [_] => am_cp S
  | _ => none
def ah_67 (os : List Nat) (c : Int32) (X : am_X) (S : am_S) : am_R := match os with
  | [_, i] => am_push (.retAddr i) S
  | _ => none
def ah_68 (os : List Nat) (c : Int32) (X : am_X) (S : am_S) : am_R := match os with
  | [_] => am_sl S
  | _ => none
def ah_69 (os : List Nat) (c : Int32) (X : am_X) (S : am_S) : am_R := match os with
  | [_] => am_sc S
  | _ => none
def ah_70 (os : List Nat) (c : Int32) (X : am_X) (S : am_S) : am_R := match os with
  | [_] => am_si S
  | _ => none
def ah_71 (os : List Nat) (c : Int32) (X : am_X) (S : am_S) : am_R := match os with
  | [] => am_xa X S
  | _ => none
def ah_72 (os : List Nat) (c : Int32) (X : am_X) (S : am_S) : am_R := match os with
  | [] => am_xl X S
  | _ => none
def ah_73 (os : List Nat) (c : Int32) (X : am_X) (S : am_S) : am_R := match os with
  | [] => am_ri S am_z1
  | _ => none
def ah_no (_ : List Nat) (_ : Int32) (_ : am_X) (_ : am_S) : am_R := none
def am_h (op : Nat) : List Nat → Int32 → am_X → am_S → am_R := match op with
  | 0 => ah_0
  | 1 => ah_1
  | 2 => ah_2
  | 3 => ah_3
  | 4 => ah_4
  | 5 => ah_5
  | 6 => ah_6
  | 7 => ah_7
  | 8 => ah_8
  | 9 => ah_9
  | 10 => ah_10
  | 11 => ah_11
  | 12 => ah_12
  | 13 => ah_13
  | 14 => ah_14
  | 15 => ah_15
  | 16 => ah_16
  | 17 => ah_17
  | 18 => ah_18
  | 19 => ah_19
  | 20 => ah_20
  | 21 => ah_21
  | 22 => ah_22
  | 23 => ah_23
  | 24 => ah_24
  | 25 => ah_25
  | 26 => ah_26
  | 27 => ah_27
  | 28 => ah_28
  | 29 => ah_29
  | 30 => ah_30
  | 31 => ah_31
  | 32 => ah_32
  | 33 => ah_33
  | 34 => ah_34
  | 35 => ah_35
  | 36 => ah_36
  | 37 => ah_37
  | 38 => ah_38
  | 39 => ah_39
  | 40 => ah_40
  | 41 => ah_41
  | 42 => ah_42
  | 43 => ah_43
  | 44 => ah_44
  | 45 => ah_45
  | 46 => ah_46
  | 47 => ah_47
  | 49 => ah_49
  | 50 => ah_50
  | 51 => ah_51
  | 52 => ah_52
  | 53 => ah_53
  | 54 => ah_54
  | 55 => ah_55
  | 56 => ah_56
  | 57 => ah_57
  | 58 => ah_58
  | 59 => ah_59
  | 60 => ah_60
  | 61 => ah_61
  | 62 => ah_62
  | 63 => ah_63
  | 64 => ah_64
  | 65 => ah_65
  | 66 => ah_66
  | 67 => ah_67
  | 68 => ah_68
  | 69 => ah_69
  | 70 => ah_70
  | 71 => ah_71
  | 72 => ah_72
  | 73 => ah_73
  | _ => ah_no
def am_x (X : am_X) (i : am_I) (S : am_S) : am_R := am_h i.1 i.2.1 i.2.2 X S
/-- a stretch of instructions -/
def am_b (X : am_X) : List am_I → am_S → am_R
  | [], _ => none
  | i :: is, S => match am_x X i S with
    | some (.inl S') => am_b X is S'
    | r => r
/-- the variables at a method's start: the arguments, a long in two places -/
def am_ent : List Value → List Value
  | [] => []
  | .long x :: l => .long x :: .null :: am_ent l
  | .double x :: l => .double x :: .null :: am_ent l
  | x :: l => x :: am_ent l
def am_ls (as : List Value) (n : Nat) : List Value := am_ent as ++ List.replicate (n - (am_ent as).length) .null
abbrev am_A : Type := Option (Option Value × am_H)
def am_st (r : Option Value) (st : List Value) : List Value := match r with
  | none => st
  | some x => x :: st
/-- n stretches of a method whose stretches are k -/
def am_go (X : am_X) (call : Nat → List Value → am_H → am_A) (k : Nat → List am_I) : Nat → Nat → am_S → am_A
  | 0, _, _ => none
  | n + 1, pc, S => match am_b X (k pc) S with
    | some (.inr (.inl (t, S'))) => am_go X call k n t S'
    | some (.inr (.inr (.inl q))) => some q
    | some (.inr (.inr (.inr (m, as, t, (ls, st, h))))) => match call m as h with
      | some (r, h') => am_go X call k n t (ls, am_st r st, h')
      | none => none
    | _ => none
/-- a program: of a method how many variables, its stretches by where they begin -/
abbrev am_P : Type := Nat → Nat × (Nat → List am_I)
/-- methods other than the law's know no script -/
def am_X0 : am_X := (0, fun _ => 0)
/-- a call of depth d, of n stretches at most at each level -/
def am_call (P : am_P) : Nat → Nat → Nat → List Value → am_H → am_A
  | 0, _, _, _, _ => none
  | d + 1, n, m, as, h => if (am_ent as).length ≤ (P m).1 then am_go am_X0 (am_call P d n) (P m).2 n 0 (am_ls as (P m).1, [], h) else none
