/-! LAWS, as the reference keeps them: rows of codes in segments, branches of segments -/
/-- a stretch of k codes from c on, over a stack; none: something is divided by 0 -/
def evS (cd vl x : Nat → Int32) : Nat → Nat → List Int32 → Option (List Int32)
  | 0, _, st => some st
  | k + 1, c, st => if cd c = nI 0 then evS cd vl x k (c + 1) (vl c :: st) else if cd c = nI 1 then evS cd vl x k (c + 1) (x (vl c).toNatClampNeg :: st) else match st with
    | y :: z :: st' => if cd c = nI 5 ∧ y = 0 then none else evS cd vl x k (c + 1) ((if cd c = nI 2 then z + y else if cd c = nI 3 then z - y else if cd c = nI 4 then z * y else z / y) :: st')
    | _ => none
def tmS (cd vl x : Nat → Int32) (a b : Nat) : Option Int32 := (evS cd vl x (b - a) a []).bind (fun st => st.head?)
/-- how high the stack is behind k codes; none: too little on it, or no code -/
def htS (cd vl : Nat → Int32) : Nat → Nat → Nat → Option Nat
  | 0, _, h => some h
  | k + 1, c, h => if cd c = nI 0 then htS cd vl k (c + 1) (h + 1) else if cd c = nI 1 ∧ (vl c).toNatClampNeg < 8 ∧ ¬ vl c < 0 then htS cd vl k (c + 1) (h + 1) else if (cd c = nI 2 ∨ cd c = nI 3 ∨ cd c = nI 4 ∨ cd c = nI 5) ∧ 2 ≤ h then htS cd vl k (c + 1) (h - 1) else none
/-- a segment is one expression -/
def sgW (cd vl : Nat → Int32) (a b : Nat) : Prop := a ≤ b ∧ b ≤ 840 ∧ b - a ≤ 400 ∧ htS cd vl (b - a) a 0 = some 1
/-- the branches from b on: none: broken -/
def brS (ts tf tm tt te cd vl x : Nat → Int32) : Nat → Nat → Option Int32
  | 0, _ => none
  | k + 1, b => if ts b = nI 0 then tmS cd vl x (tt b).toNatClampNeg (te b).toNatClampNeg else (tmS cd vl x (tf b).toNatClampNeg (tm b).toNatClampNeg).bind (fun u => (tmS cd vl x (tm b).toNatClampNeg (tt b).toNatClampNeg).bind (fun y => if y ≤ u then brS ts tf tm tt te cd vl x k (b + 1) else tmS cd vl x (tt b).toNatClampNeg (te b).toNatClampNeg))
def clS (lo hi x : Int32) : Int32 := if x < lo then lo else if hi < x then hi else x
/-- what a LAW tells: k 0 MOVES, 1 HAS -/
def tlS (v : Nat → Nat → Int32) (lv k : Nat) (x : Nat → Int32) (plain lo hi : Int32) : Int32 := if v 406 (2 * lv + k) = v 407 (2 * lv + k) then clS lo hi plain else match brS (v 408) (v 409) (v 410) (v 411) (v 412) (v 413) (v 414) x ((v 407 (2 * lv + k)).toNatClampNeg - (v 406 (2 * lv + k)).toNatClampNeg) (v 406 (2 * lv + k)).toNatClampNeg with
  | none => 0
  | some y => clS lo hi y
/-- a branch is well made; the last one has no test -/
def bnW (v : Nat → Nat → Int32) (b last : Nat) : Prop := ∃ f m t e : Nat, v 411 b = nI t ∧ v 412 b = nI e ∧ sgW (v 413) (v 414) t e ∧ (v 408 b = nI 0 ∨ v 408 b = nI 1) ∧ (b + 1 = last → v 408 b = nI 0) ∧ (v 408 b = nI 1 → v 409 b = nI f ∧ v 410 b = nI m ∧ sgW (v 413) (v 414) f m ∧ sgW (v 413) (v 414) m t)
/-- a LAW is well made -/
def lwW (v : Nat → Nat → Int32) (lv k : Nat) : Prop := ∃ a z : Nat, v 406 (2 * lv + k) = nI a ∧ v 407 (2 * lv + k) = nI z ∧ a ≤ z ∧ z ≤ 260 ∧ ∀ b, a ≤ b → b < z → bnW v b z
