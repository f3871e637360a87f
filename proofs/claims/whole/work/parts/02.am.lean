/-! A MACHINE OF OUR OWN for the part of the bytecode that the class, the reference and the law use: a pure function over cells that are numbered in the order in which they are made. Part 03 shows that the real machine does what it does; all later parts speak of it alone.
A value is a Value; '.ref a' is the a-th cell made; '.float _' is the law's script; '.retAddr i' is the i-th text constant; '.null' among the variables is 'nothing known'. -/
/-- what a cell is: .inl c an object of the c-th kind; .inr (t, n) an array of n of the t-th type (0 int, 1 byte, 2 boolean, 3 long, 4 references) -/
abbrev am_K : Type := Nat ⊕ (Nat × Nat)
/-- cells made, slots made, what each is, references in it, ints in it, longs in it -/
abbrev am_H : Type := Nat × Nat × (Nat → am_K) × (Nat → Nat → Option Nat) × (Nat → Nat → Int32) × (Nat → Nat → Int64)
/-- variables, stack, cells -/
abbrev am_S : Type := List Value × List Value × am_H
/-- an instruction: its number, its operands, its constant -/
abbrev am_I : Type := Nat × List Nat × Int32
/-- on; a jump; an answer; a call (which method, of what, where it goes on) -/
abbrev am_R : Type := Option (am_S ⊕ ((Nat × am_S) ⊕ ((Option Value × am_H) ⊕ (Nat × List Value × Nat × am_S))))
abbrev am_on (S : am_S) : am_R := some (.inl S)
abbrev am_ju (pc : Nat) (S : am_S) : am_R := some (.inr (.inl (pc, S)))
abbrev am_re (v : Option Value) (h : am_H) : am_R := some (.inr (.inr (.inl (v, h))))
abbrev am_ca (m : Nat) (as : List Value) (pc : Nat) (S : am_S) : am_R := some (.inr (.inr (.inr (m, as, pc, S))))
def am_u (v : Nat → Nat → Int32) (a k : Nat) (x : Int32) : Nat → Nat → Int32 := fun b => if b = a then upd (v a) k x else v b
def am_uL (w : Nat → Nat → Int64) (a k : Nat) (x : Int64) : Nat → Nat → Int64 := fun b => if b = a then vp_updL (w a) k x else w b
def am_uR (r : Nat → Nat → Option Nat) (a k : Nat) (x : Option Nat) : Nat → Nat → Option Nat := fun b => if b = a then va_up (r a) k x else r b
def am_uK (kd : Nat → am_K) (a : Nat) (x : am_K) : Nat → am_K := fun b => if b = a then x else kd b
/-- an index within -/
def am_in (i : Int32) (n : Nat) : Bool := !(decide (i < 0) || decide (n ≤ i.toNatClampNeg))
/-- may a value be kept in a variable at k: no long begins just ahead of it -/
def am_fr (ls : List Value) : Nat → Bool
  | 0 => true
  | k + 1 => decide ((ls.getD k .null).category = 1)
/-- how wide what waits below a call's arguments is -/
def am_cat (st : List Value) : Nat := (st.map fun v => v.category).sum
def am_refs : Value → Option Nat
  | .ref a => some a
  | _ => none
/-- the cell that the topmost value is, if it is an object of this kind -/
def am_ob (h : am_H) (a c : Nat) : Bool := decide (a < h.1) && decide (h.2.2.1 a = .inl c)
/-- is it an array of this type, and the index within it -/
def am_ar (h : am_H) (a t : Nat) (i : Int32) : Bool := decide (a < h.1) && (match h.2.2.1 a with
  | .inl _ => false
  | .inr q => decide (q.1 = t) && am_in i q.2)
def am_lo (k : Nat) (S : am_S) (ok : Value → Bool) : am_R := match S with
  | (ls, st, h) => if ok (ls.getD k .null) then am_on (ls, ls.getD k .null :: st, h) else none
def am_isI : Value → Bool
  | .int _ => true
  | _ => false
def am_isL : Value → Bool
  | .long _ => true
  | _ => false
def am_isA : Value → Bool
  | .ref _ => true
  | .float _ => true
  | .retAddr _ => true
  | _ => false
def am_c1 : Value → Bool
  | .int _ => true
  | .ref _ => true
  | .float _ => true
  | _ => false
def am_st1 (k : Nat) (S : am_S) (ok : Value → Bool) : am_R := match S with
  | (ls, x :: st, h) => if ok x && decide (k < ls.length) && am_fr ls k then am_on (ls.set k x, st, h) else none
  | _ => none
def am_st2 (k : Nat) (S : am_S) : am_R := match S with
  | (ls, .long x :: st, h) => if decide (k + 1 < ls.length) && am_fr ls k then am_on ((ls.set k (.long x)).set (k + 1) .null, st, h) else none
  | _ => none
def am_i2 (f : Int32 → Int32 → Int32) (S : am_S) : am_R := match S with
  | (ls, .int y :: .int x :: st, h) => am_on (ls, .int (f x y) :: st, h)
  | _ => none
def am_i2z (f : Int32 → Int32 → Int32) (S : am_S) : am_R := match S with
  | (ls, .int y :: .int x :: st, h) => if y = 0 then none else am_on (ls, .int (f x y) :: st, h)
  | _ => none
def am_i1 (f : Int32 → Int32) (S : am_S) : am_R := match S with
  | (ls, .int x :: st, h) => am_on (ls, .int (f x) :: st, h)
  | _ => none
def am_l2 (f : Int64 → Int64 → Int64) (S : am_S) : am_R := match S with
  | (ls, .long y :: .long x :: st, h) => am_on (ls, .long (f x y) :: st, h)
  | _ => none
def am_lc (S : am_S) : am_R := match S with
  | (ls, .long y :: .long x :: st, h) => am_on (ls, .int (lg_cmp x y) :: st, h)
  | _ => none
def am_il (S : am_S) : am_R := match S with
  | (ls, .int x :: st, h) => am_on (ls, .long x.toInt64 :: st, h)
  | _ => none
def am_li (S : am_S) : am_R := match S with
  | (ls, .long x :: st, h) => am_on (ls, .int x.toInt32 :: st, h)
  | _ => none
def am_dup (S : am_S) : am_R := match S with
  | (ls, x :: st, h) => if am_c1 x then am_on (ls, x :: x :: st, h) else none
  | _ => none
def am_pop (S : am_S) : am_R := match S with
  | (ls, x :: st, h) => if am_c1 x then am_on (ls, st, h) else none
  | _ => none
def am_dup2 (S : am_S) : am_R := match S with
  | (ls, x :: y :: st, h) => if am_c1 x && am_c1 y then am_on (ls, x :: y :: x :: y :: st, h) else none
  | _ => none
def am_get (c k : Nat) (S : am_S) (f : am_H → Nat → Option Value) : am_R := match S with
  | (ls, .ref a :: st, h) => if am_ob h a c then (f h a).bind (fun x => am_on (ls, x :: st, h)) else none
  | _ => none
def am_putI (c k : Nat) (S : am_S) (ok : Int32 → Bool) : am_R := match S with
  | (ls, .int x :: .ref a :: st, (n, sl, kd, r, v, w)) => if am_ob (n, sl, kd, r, v, w) a c && ok x then am_on (ls, st, (n, sl, kd, r, am_u v a k x, w)) else none
  | _ => none
def am_putR (c k : Nat) (S : am_S) : am_R := match S with
  | (ls, .ref b :: .ref a :: st, (n, sl, kd, r, v, w)) => if am_ob (n, sl, kd, r, v, w) a c then am_on (ls, st, (n, sl, kd, am_uR r a k (some b), v, w)) else none
  | _ => none
def am_ald (t : Nat) (S : am_S) (f : am_H → Nat → Nat → Option Value) : am_R := match S with
  | (ls, .int i :: .ref a :: st, h) => if am_ar h a t i then (f h a i.toNatClampNeg).bind (fun x => am_on (ls, x :: st, h)) else none
  | _ => none
def am_ast (t : Nat) (S : am_S) (f : Int32 → Int32) : am_R := match S with
  | (ls, .int x :: .int i :: .ref a :: st, (n, sl, kd, r, v, w)) => if am_ar (n, sl, kd, r, v, w) a t i then am_on (ls, st, (n, sl, kd, r, am_u v a i.toNatClampNeg (f x), w)) else none
  | _ => none
def am_lst (S : am_S) : am_R := match S with
  | (ls, .long x :: .int i :: .ref a :: st, (n, sl, kd, r, v, w)) => if am_ar (n, sl, kd, r, v, w) a 3 i then am_on (ls, st, (n, sl, kd, r, v, am_uL w a i.toNatClampNeg x)) else none
  | _ => none
def am_rst (c : Nat) (S : am_S) : am_R := match S with
  | (ls, .ref b :: .int i :: .ref a :: st, (n, sl, kd, r, v, w)) => if am_ar (n, sl, kd, r, v, w) a 4 i && am_ob (n, sl, kd, r, v, w) b c then am_on (ls, st, (n, sl, kd, am_uR r a i.toNatClampNeg (some b), v, w)) else none
  | _ => none
/-- the six conditions -/
def am_cn (c : Nat) (x y : Int32) : Bool := match c with
  | 0 => decide (x = y)
  | 1 => decide (¬ x = y)
  | 2 => decide (x < y)
  | 3 => decide (y ≤ x)
  | 4 => decide (y < x)
  | _ => decide (x ≤ y)
def am_if2 (c t f : Nat) (S : am_S) : am_R := match S with
  | (ls, .int y :: .int x :: st, h) => if am_cn c x y then am_ju t (ls, st, h) else am_ju f (ls, st, h)
  | _ => none
def am_if1 (c t f : Nat) (S : am_S) : am_R := match S with
  | (ls, .int x :: st, h) => if am_cn c x 0 then am_ju t (ls, st, h) else am_ju f (ls, st, h)
  | _ => none
/-- where a switch goes: its lowest number, its default, its places -/
def am_swt (lo d : Nat) (ts : List Nat) (x : Int32) : Nat := if x.toInt < (lo : Int) ∨ ((lo + ts.length : Nat) : Int) ≤ x.toInt then d else ts.getD (x.toInt - (lo : Int)).toNat d
def am_sw (lo d : Nat) (ts : List Nat) (S : am_S) : am_R := match S with
  | (ls, .int x :: st, h) => am_ju (am_swt lo d ts x) (ls, st, h)
  | _ => none
def am_ri (S : am_S) (ok : Int32 → Bool) : am_R := match S with
  | (_, [.int x], h) => if ok x then am_re (some (.int x)) h else none
  | _ => none
def am_rl (S : am_S) : am_R := match S with
  | (_, [.long x], h) => am_re (some (.long x)) h
  | _ => none
def am_rv (S : am_S) : am_R := match S with
  | (_, [], h) => am_re none h
  | _ => none
/-- a call of n arguments, the receiver (an object of kind c) beside them where there is one -/
def am_cs (m n pc : Nat) (S : am_S) : am_R := match S with
  | (ls, st, h) => if decide (n ≤ st.length) && decide (am_cat (st.drop n) ≤ 8) then am_ca m (st.take n).reverse pc (ls, st.drop n, h) else none
def am_cv (m n c pc : Nat) (S : am_S) : am_R := match S with
  | (ls, st, h) => match st.drop n with
    | .ref a :: rest => if decide (n ≤ st.length) && decide (am_cat rest ≤ 8) && am_ob h a c then am_ca m (.ref a :: (st.take n).reverse) pc (ls, rest, h) else none
    | _ => none
def am_new (c f : Nat) (S : am_S) : am_R := match S with
  | (ls, st, (n, sl, kd, r, v, w)) => am_on (ls, .ref n :: st, (n + 1, sl + f, am_uK kd n (.inl c), (fun b => if b = n then fun _ => none else r b), (fun b => if b = n then fun _ => 0 else v b), w))
def am_nar (t : Nat) (S : am_S) : am_R := match S with
  | (ls, .int x :: st, (n, sl, kd, r, v, w)) => if decide (x < 0) || decide (100000 < x.toNatClampNeg) then none else am_on (ls, .ref n :: st, (n + 1, sl + x.toNatClampNeg, am_uK kd n (.inr (t, x.toNatClampNeg)), (fun b => if b = n then fun _ => none else r b), (fun b => if b = n then fun _ => 0 else v b), (fun b => if b = n then fun _ => 0 else w b)))
  | _ => none
/-- Object's constructor -/
def am_oin (S : am_S) : am_R := match S with
  | (ls, .ref _ :: st, h) => if decide (am_cat st ≤ 8) then am_on (ls, st, h) else none
  | _ => none
def am_mm (f : Int32 → Int32 → Int32) (S : am_S) : am_R := match S with
  | (ls, .int y :: .int x :: st, h) => if decide (am_cat st ≤ 8) then am_on (ls, .int (f x y) :: st, h) else none
  | _ => none
def am_cpf (v : Nat → Nat → Int32) (a b sp dp n : Nat) : Nat → Nat → Int32 := fun q => if q = b then va_cpy (v a) (v b) sp dp n else v q
def am_cp (S : am_S) : am_R := match S with
  | (ls, .int n :: .int dp :: .ref b :: .int sp :: .ref a :: st, (nn, sl, kd, r, v, w)) => match kd a, kd b with
    | .inr (0, na), .inr (0, nb) => if decide (a < nn) && decide (b < nn) && decide (am_cat st ≤ 8) && !decide (n < 0) && !decide (dp < 0) && !decide (sp < 0) && decide (sp.toNatClampNeg + n.toNatClampNeg ≤ na) && decide (dp.toNatClampNeg + n.toNatClampNeg ≤ nb) then am_on (ls, st, (nn, sl, kd, r, am_cpf v a b sp.toNatClampNeg dp.toNatClampNeg n.toNatClampNeg, w)) else none
    | _, _ => none
  | _ => none

/-- the text constants of the class -/
def am_tx : Nat → List Nat
  | 0 => [59, 61, 43, 45, 42, 47, 60, 40, 41]
  | _ => [115, 116, 97, 105, 114, 32, 32, 32, 112, 105, 108, 103, 114, 105, 109, 32, 107, 110, 101, 101, 108, 115, 32, 32, 109, 111, 118, 101, 115, 32, 32, 32, 104, 97, 115, 32, 32, 32, 32, 32, 111, 105, 108, 32, 32, 32, 32, 32, 105, 102, 32, 32, 32, 32, 32, 32, 116, 104, 101, 110, 32, 32, 32, 32, 101, 108, 115, 101, 32, 32, 32, 32, 107, 110, 101, 101, 115, 32, 32, 32, 100, 111, 117, 98, 116, 32, 32, 32, 111, 105, 108, 101, 100, 32, 32, 32, 109, 105, 110, 117, 116, 101, 32, 32, 111, 110, 32, 32, 32, 32, 32, 32, 115, 116, 101, 112, 32, 32, 32, 32, 115, 111, 114, 101, 32, 32, 32, 32, 98, 111, 114, 110, 101, 32, 32, 32]
def am_ix (c : Int32) : List Nat → Nat → Int32
  | [], _ => -1
  | b :: l, k => if nI b = c then nI k else am_ix c l (k + 1)
def am_sl (S : am_S) : am_R := match S with
  | (ls, .retAddr i :: st, h) => if decide (am_cat st ≤ 8) then am_on (ls, .int (nI (am_tx i).length) :: st, h) else none
  | _ => none
def am_sc (S : am_S) : am_R := match S with
  | (ls, .int k :: .retAddr i :: st, h) => if decide (am_cat st ≤ 8) && am_in k (am_tx i).length then am_on (ls, .int (nI ((am_tx i).getD k.toNatClampNeg 0)) :: st, h) else none
  | _ => none
def am_si (S : am_S) : am_R := match S with
  | (ls, .int c :: .retAddr i :: st, h) => if decide (am_cat st ≤ 8) then am_on (ls, .int (am_ix c (am_tx i) 0) :: st, h) else none
  | _ => none
/-- the law's script: how long, its ints -/
abbrev am_X : Type := Nat × (Nat → Int32)
def am_xl (X : am_X) (S : am_S) : am_R := match S with
  | (ls, .float _ :: st, h) => am_on (ls, .int (nI X.1) :: st, h)
  | _ => none
def am_xa (X : am_X) (S : am_S) : am_R := match S with
  | (ls, .int i :: .float _ :: st, h) => if am_in i X.1 then am_on (ls, .int (X.2 i.toNatClampNeg) :: st, h) else none
  | _ => none
def am_z1 (x : Int32) : Bool := decide (x = 0) || decide (x = 1)
def am_push (x : Value) (S : am_S) : am_R := match S with
  | (ls, st, h) => am_on (ls, x :: st, h)
def am_inc (k : Nat) (x : Int32) (S : am_S) : am_R := match S with
  | (ls, st, h) => match ls.getD k .null with
    | .int y => if am_fr ls k then am_on (ls.set k (.int (y + x)), st, h) else none
    | _ => none
/-- an instruction's work -/
def am_x (X : am_X) (i : am_I) (S : am_S) : am_R := match i with
  | (op, os, c) => match op, os with
    | 0, [t] => am_ju t S
    | 1, [n] => am_push (.int (nI n)) S
    | 2, [] => am_push (.int c) S
    | 3, [n] => am_push (.long (lN n)) S
    | 4, [k] => am_lo k S am_isI
    | 5, [k] => am_lo k S am_isL
    | 6, [k] => am_lo k S am_isA
    | 7, [k] => am_st1 k S am_isI
    | 8, [k] => am_st2 k S
    | 9, [k] => am_st1 k S am_isA
    | 10, [k, n] => am_inc k (nI n) S
    | 11, [k] => am_inc k c S
    | 12, [] => am_i2 (fun x y => x + y) S
    | 13, [] => am_i2 (fun x y => x - y) S
    | 14, [] => am_i2 (fun x y => x * y) S
    | 15, [] => am_i2z (fun x y => x / y) S
    | 16, [] => am_i2z (fun x y => x - x / y * y) S
    | 17, [] => am_i1 (fun x => -x) S
    | 18, [] => am_i2 (fun x y => x &&& y) S
    | 19, [] => am_i2 (fun x y => x ||| y) S
    | 20, [] => am_i2 (fun x y => x ^^^ y) S
    | 21, [] => am_i2 (fun x y => x <<< (y &&& 31)) S
    | 22, [] => am_i2 (fun x y => x >>> (y &&& 31)) S
    | 23, [] => am_l2 (fun x y => x + y) S
    | 24, [] => am_l2 (fun x y => x * y) S
    | 25, [] => am_lc S
    | 26, [] => am_il S
    | 27, [] => am_li S
    | 28, [] => am_i1 (fun x => x.toInt8.toInt32) S
    | 29, [] => am_i1 (fun x => (x.toUInt32 % 65536).toInt32) S
    | 30, [] => am_dup S
    | 31, [] => am_pop S
    | 32, [] => am_dup2 S
    | 33, [_, q, k] => am_get q k S (fun h a => some (.int (h.2.2.2.2.1 a k)))
    | 34, [_, q, k] => am_get q k S (fun h a => (h.2.2.2.1 a k).map .ref)
    | 35, [_, q, k] => am_putI q k S (fun _ => true)
    | 36, [_, q, k] => am_putI q k S am_z1
    | 37, [_, q, k] => am_putR q k S
    | 38, [] => am_ald 0 S (fun h a k => some (.int (h.2.2.2.2.1 a k)))
    | 39, [] => am_ald 1 S (fun h a k => some (.int (h.2.2.2.2.1 a k)))
    | 40, [] => am_ald 2 S (fun h a k => some (.int (h.2.2.2.2.1 a k)))
    | 41, [] => am_ald 3 S (fun h a k => some (.long (h.2.2.2.2.2 a k)))
    | 42, [] => am_ald 4 S (fun h a k => (h.2.2.2.1 a k).map .ref)
    | 43, [] => am_ast 0 S (fun x => x)
    | 44, [] => am_ast 1 S (vp_nar .byte)
    | 45, [] => am_ast 2 S (vp_nar .boolean)
    | 46, [] => am_lst S
    | 47, [q] => am_rst q S
    | 49, [q, t, f] => am_if2 q t f S
    | 50, [q, t, f] => am_if1 q t f S
    | 51, [t] => am_ju t S
    | 52, lo :: d :: ts => am_sw lo d ts S
    | 53, [_, n] => am_push (.long (lN n)) S
    | 54, [] => am_ri S (fun _ => true)
    | 55, [] => am_rl S
    | 56, [] => am_rv S
    | 57, [_, m, n, q, pc] => am_cv m n q pc S
    | 58, [_, m, n, pc] => am_cs m n pc S
    | 59, [_, m, n, q, pc] => am_cv m n q pc S
    | 60, [_, q, f] => am_new q f S
    | 61, [t] => am_nar t S
    | 62, [_] => am_nar 4 S
    | 63, [_] => am_oin S
    | 64, [_] => am_mm (fun x y => if x < y then y else x) S
    | 65, [_] => am_mm (fun x y => if y < x then y else x) S
    | 66, [_] => am_cp S
    | 67, [_, i] => am_push (.retAddr i) S
    | 68, [_] => am_sl S
    | 69, [_] => am_sc S
    | 70, [_] => am_si S
    | 71, [] => am_xa X S
    | 72, [] => am_xl X S
    | 73, [] => am_ri S am_z1
    | _, _ => none
/-- a stretch of instructions -/
def am_b (X : am_X) : List am_I → am_S → am_R
  | [], _ => none
  | i :: is, S => match am_x X i S with
    | some (.inl S') => am_b X is S'
    | r => r
/-- the variables at a method's start: the arguments, a long in two places -/
def am_ent : List Value → List Value
  | [] => []
  | .long x :: l => .long x :: .null :: am_ent l
  | x :: l => x :: am_ent l
def am_ls (as : List Value) (n : Nat) : List Value := am_ent as ++ List.replicate (n - (am_ent as).length) .null
abbrev am_A : Type := Option (Option Value × am_H)
def am_st (r : Option Value) (st : List Value) : List Value := match r with
  | none => st
  | some x => x :: st
/-- n stretches of a method whose stretches are k -/
def am_go (X : am_X) (call : Nat → List Value → am_H → am_A) (k : Nat → List am_I) : Nat → Nat → am_S → am_A
  | 0, _, _ => none
  | n + 1, pc, S => match am_b X (k pc) S with
    | some (.inr (.inl (t, S'))) => am_go X call k n t S'
    | some (.inr (.inr (.inl q))) => some q
    | some (.inr (.inr (.inr (m, as, t, (ls, st, h))))) => match call m as h with
      | some (r, h') => am_go X call k n t (ls, am_st r st, h')
      | none => none
    | _ => none
/-- a program: of a method how many variables, its stretches by where they begin -/
abbrev am_P : Type := Nat → Nat × (Nat → List am_I)
/-- a call of depth d, of n stretches at most at each level -/
def am_call (P : am_P) (X : am_X) : Nat → Nat → Nat → List Value → am_H → am_A
  | 0, _, _, _, _ => none
  | d + 1, n, m, as, h => am_go X (am_call P X d n) (P m).2 n 0 (am_ls as (P m).1, [], h)
