/-! what a method's walk stands on: the links of its class, its code, the tables' words -/
/-- the array types -/
def am_tys (z : am_Z) (C4 : String) : List (ClassId × FieldType) := [(z.2.2.1 0, .int), (z.2.2.1 1, .byte), (z.2.2.1 2, .boolean), (z.2.2.1 3, .long), (z.2.2.1 4, .object C4)]
/-- of a method: its name, its code, its variables, what it answers; how many arguments; of which kind its receiver is -/
abbrev am_M : Type := MethodName × ByteArray × Nat × Option FieldType × Nat × Nat
/-- a link of a pool: what it is, its place, two numbers -/
abbrev am_L : Type := Nat × Nat × Nat × Nat
/-- a method is in the tables -/
def am_mo (Ts : List Cond) (x : am_M) : Prop := Cond.code x.1 x.2.1 x.2.2.1 x.2.2.2.1 ∈ Ts ∧ Cond.initialized x.1.cls ∈ Ts ∧ (x.1.cls ≠ "java/lang/invoke/MethodHandle" ∧ x.1.cls ≠ "java/lang/invoke/VarHandle") ∧ (parseMethodDescriptor x.1.desc).map (fun d => d.parameters.length) = some x.2.2.2.2.1 ∧ x.2.2.1 ≤ 40
/-- a link is what it says -/
def am_lk (cl : List vw_C) (Ts : List Cond) (own : String) (Ms : Nat → am_M) (t : am_L) : Prop := match t with
  | (0, i, c, k) => ∃ r, cl[c]? = some r ∧ k < r.2.2 ∧ Cond.fieldLink own i (r.2.1 k).1 (r.2.1 k).2.1 (r.2.1 k).2.2.1 ∈ Ts
  | (1, i, c, f) => ∃ r, cl[c]? = some r ∧ f = r.2.2 ∧ Cond.classLink own i r.1 ∈ Ts
  | (2, i, m, _) => Cond.methodLink own i (Ms m).1 ∈ Ts ∧ am_mo Ts (Ms m) ∧ Cond.instanceMethod (Ms m).1 ∈ Ts ∧ Cond.selects (Ms m).1.cls (Ms m).1 (Ms m).1 ∈ Ts ∧ ∃ r, cl[(Ms m).2.2.2.2.2]? = some r ∧ r.1 = (Ms m).1.cls
  | (15, i, m, _) => Cond.methodLink own i (Ms m).1 ∈ Ts ∧ am_mo Ts (Ms m) ∧ Cond.static (Ms m).1 ∈ Ts
  | (16, i, m, _) => Cond.methodLink own i (Ms m).1 ∈ Ts ∧ am_mo Ts (Ms m) ∧ Cond.instanceMethod (Ms m).1 ∈ Ts ∧ (Ms m).1.name = "<init>" ∧ (Ms m).2.2.2.1 = none
  | (3, i, _, _) => Cond.methodLink own i objectInit ∈ Ts ∧ Cond.instanceMethod objectInit ∈ Ts ∧ Cond.code objectInit ⟨#[0xb1]⟩ 1 none ∈ Ts
  | (4, i, _, _) => Cond.methodLink own i Lib.Math.max.name ∈ Ts ∧ Cond.static Lib.Math.max.name ∈ Ts ∧ Cond.initialized "java/lang/Math" ∈ Ts ∧ Cond.code Lib.Math.max.name Lib.Math.max.code 2 (some .int) ∈ Ts
  | (5, i, _, _) => Cond.methodLink own i Lib.Math.min.name ∈ Ts ∧ Cond.static Lib.Math.min.name ∈ Ts ∧ Cond.initialized "java/lang/Math" ∈ Ts ∧ Cond.code Lib.Math.min.name Lib.Math.min.code 2 (some .int) ∈ Ts
  | (6, i, _, _) => Cond.methodLink own i arraycopyName ∈ Ts ∧ Cond.native arraycopyName ∈ Ts ∧ Cond.static arraycopyName ∈ Ts ∧ Cond.initialized "java/lang/System" ∈ Ts
  | (7, i, c, _) => ∃ r, cl[c]? = some r ∧ Cond.classLink own i r.1 ∈ Ts
  | (8, i, _, _) => own = "KneeStair$Tokens" ∧ i = 63
  | (9, i, _, _) => own = "KneeStair$Tokens" ∧ i = 71
  | (10, i, _, _) => own = "KneeStair$Tokens" ∧ i = 48
  | (11, i, k, _) => own = "KneeStair$Tokens" ∧ ((i = 46 ∧ k = 0) ∨ (i = 61 ∧ k = 1))
  | (12, i, n, _) => Cond.constantLong own i (lN n) ∈ Ts
  | (13, i, c, k) => ∃ r, cl[c]? = some r ∧ k < r.2.2 ∧ Cond.fieldLink own i (r.2.1 k).1 (r.2.1 k).2.1 (r.2.1 k).2.2.1 ∈ Ts ∧ (r.2.1 k).2.2.2 = false
  | (14, i, c, k) => ∃ r, cl[c]? = some r ∧ k < r.2.2 ∧ Cond.fieldLink own i (r.2.1 k).1 (r.2.1 k).2.1 (r.2.1 k).2.2.1 ∈ Ts ∧ (r.2.1 k).2.2.2 = true ∧ (r.2.1 k).1 = own
  | _ => True
/-- a field's type: neither long nor float nor double -/
def am_okT : FieldType → Bool
  | .long => false
  | .float => false
  | .double => false
  | _ => true
/-- the kinds' own words -/
def am_tb (cl : List vw_C) (z : am_Z) (Ts : List Cond) : Prop := ∀ (c : Nat) (r : vw_C), cl[c]? = some r → z.1 c = r.2.2 ∧ (∀ w ∈ u_ws r.1 r.2.1 r.2.2, w ∈ Ts) ∧ (∀ k, k < r.2.2 → parseFieldDescriptor (r.2.1 k).2.2.1 = some (z.2.1 c k)) ∧ (∀ a, a < r.2.2 → ∀ b, b < r.2.2 → a ≠ b → (r.2.1 a).2.1 ≠ (r.2.1 b).2.1) ∧ Cond.instantiable r.1 r.2.2 ∈ Ts ∧ Cond.initialized r.1 ∈ Ts ∧ ∀ k, k < r.2.2 → am_okT (z.2.1 c k) = true
/-- what stays the same through a method -/
def am_Fx (p : Program) (R : Room) (s : State) (m : MethodId) (args : Array Value) (meth : Method) (c : Code) (cc : ByteArray) (nL : Nat) (ret : Option FieldType) (ini : Bool) (D : va_G) (cl : List vw_C) (z : am_Z) (C4 : String) (q : am_Q) (Ts : List Cond) (own : String) (Ms : Nat → am_M) (LK : List am_L) (n0 : Nat) : Prop :=
  (p.tables.exec = Jvm.exec ∧ c.code = cc ∧ c.maxLocals = nL ∧ s.vm.findClass own = some m.cls) ∧ (∀ w ∈ Ts, w.before args s = true) ∧ va_K D cl (am_tys z C4) s ∧ q.2.1 = z.2.2.2 ∧ am_tb cl z Ts ∧ (∀ t ∈ LK, am_lk cl Ts own Ms t) ∧ s.heap.size = z.2.2.2 + n0 ∧ meth.sig.returnType = ret ∧ meth.locks = false ∧ (ini = true → meth.name = "<init>") ∧ (8 ≤ R.frames ∧ 500 ≤ R.locals)
/-- from here on it ends as it should, whatever cells and variables are as ours are -/
def am_Nx (p : Program) (l : Launch) (e : Env) (R : Room) (s : State) (m : MethodId) (args : Array Value) (below : List Frame) (meth : Method) (c : Code) (Q : State → Prop) (nL : Nat) (D : va_G) (cl : List vw_C) (z : am_Z) (q : am_Q) (n0 s0 : Nat) (pc : Nat) (S : am_S) : Prop :=
  ∀ (H : Heap) (locs : List Loc) (lsC : Array Slot), am_lv q lsC nL S.1 → va_P D cl (am_ws z S.2.2) H → va_S (fun a => z.2.2.2 ≤ a) s.heap H locs → n0 ≤ S.2.2.1 → s0 ≤ S.2.2.2.1 → W p l e R s m args below meth c H locs (S.2.2.1 - n0) (S.2.2.2.1 - s0) Q (F0 m pc lsC (S.2.1.map (am_v q)))
/-- the six conditions, as the bytecode names them -/
def am_cnd : Nat → ClassFile.Cond
  | 0 => .eq
  | 1 => .ne
  | 2 => .lt
  | 3 => .ge
  | 4 => .gt
  | _ => .le
/-- the kind whose references the arrays of references hold -/
def am_c4 : Nat := 4
/-! is an instruction of ours the bytecode's at this place -/
def at_1 (LK : List am_L) (ini : Bool) (ret : Option FieldType) (tf : Nat → Nat → FieldType) (Ms : Nat → am_M) (pc len : Nat) (ins : Instr) (os : List Nat) (c : Int32) : Bool := match os with
  | [n] => decide ((ins = .iconst (n : Int) ∧ len = 1 ∧ n < 128) ∨ (ins = .bipush (n : Int) ∧ len = 2 ∧ n < 128) ∨ (ins = .sipush (n : Int) ∧ len = 3 ∧ n < 32768))
  | _ => false
def at_2 (LK : List am_L) (ini : Bool) (ret : Option FieldType) (tf : Nat → Nat → FieldType) (Ms : Nat → am_M) (pc len : Nat) (ins : Instr) (os : List Nat) (c : Int32) : Bool := match os with
  | [] => decide ((ins = .iconst c.toInt ∧ len = 1) ∨ (ins = .bipush c.toInt ∧ len = 2 ∧ (Int8.ofInt c.toInt).toInt32 = c) ∨ (ins = .sipush c.toInt ∧ len = 3 ∧ (Int16.ofInt c.toInt).toInt32 = c))
  | _ => false
def at_3 (LK : List am_L) (ini : Bool) (ret : Option FieldType) (tf : Nat → Nat → FieldType) (Ms : Nat → am_M) (pc len : Nat) (ins : Instr) (os : List Nat) (c : Int32) : Bool := match os with
  | [n] => decide (∃ f : Fin 2, ins = .lconst f ∧ f.val = n ∧ len = 1)
  | _ => false
def at_4 (LK : List am_L) (ini : Bool) (ret : Option FieldType) (tf : Nat → Nat → FieldType) (Ms : Nat → am_M) (pc len : Nat) (ins : Instr) (os : List Nat) (c : Int32) : Bool := match os with
  | [k] => decide ((∃ f : Fin 4, ins = .iload_n f ∧ f.val = k ∧ len = 1) ∨ (ins = .iload k ∧ len = 2))
  | _ => false
def at_5 (LK : List am_L) (ini : Bool) (ret : Option FieldType) (tf : Nat → Nat → FieldType) (Ms : Nat → am_M) (pc len : Nat) (ins : Instr) (os : List Nat) (c : Int32) : Bool := match os with
  | [k] => decide ((∃ f : Fin 4, ins = .lload_n f ∧ f.val = k ∧ len = 1) ∨ (ins = .lload k ∧ len = 2))
  | _ => false
def at_6 (LK : List am_L) (ini : Bool) (ret : Option FieldType) (tf : Nat → Nat → FieldType) (Ms : Nat → am_M) (pc len : Nat) (ins : Instr) (os : List Nat) (c : Int32) : Bool := match os with
  | [k] => decide ((∃ f : Fin 4, ins = .aload_n f ∧ f.val = k ∧ len = 1) ∨ (ins = .aload k ∧ len = 2))
  | _ => false
def at_7 (LK : List am_L) (ini : Bool) (ret : Option FieldType) (tf : Nat → Nat → FieldType) (Ms : Nat → am_M) (pc len : Nat) (ins : Instr) (os : List Nat) (c : Int32) : Bool := match os with
  | [k] => decide ((∃ f : Fin 4, ins = .istore_n f ∧ f.val = k ∧ len = 1) ∨ (ins = .istore k ∧ len = 2))
  | _ => false
def at_8 (LK : List am_L) (ini : Bool) (ret : Option FieldType) (tf : Nat → Nat → FieldType) (Ms : Nat → am_M) (pc len : Nat) (ins : Instr) (os : List Nat) (c : Int32) : Bool := match os with
  | [k] => decide ((∃ f : Fin 4, ins = .lstore_n f ∧ f.val = k ∧ len = 1) ∨ (ins = .lstore k ∧ len = 2))
  | _ => false
def at_9 (LK : List am_L) (ini : Bool) (ret : Option FieldType) (tf : Nat → Nat → FieldType) (Ms : Nat → am_M) (pc len : Nat) (ins : Instr) (os : List Nat) (c : Int32) : Bool := match os with
  | [k] => decide ((∃ f : Fin 4, ins = .astore_n f ∧ f.val = k ∧ len = 1) ∨ (ins = .astore k ∧ len = 2))
  | _ => false
def at_10 (LK : List am_L) (ini : Bool) (ret : Option FieldType) (tf : Nat → Nat → FieldType) (Ms : Nat → am_M) (pc len : Nat) (ins : Instr) (os : List Nat) (c : Int32) : Bool := match os with
  | [k, n] => decide (ins = .iinc k (n : Int) ∧ len = 3)
  | _ => false
def at_11 (LK : List am_L) (ini : Bool) (ret : Option FieldType) (tf : Nat → Nat → FieldType) (Ms : Nat → am_M) (pc len : Nat) (ins : Instr) (os : List Nat) (c : Int32) : Bool := match os with
  | [k] => decide (ins = .iinc k c.toInt ∧ len = 3)
  | _ => false
def at_12 (LK : List am_L) (ini : Bool) (ret : Option FieldType) (tf : Nat → Nat → FieldType) (Ms : Nat → am_M) (pc len : Nat) (ins : Instr) (os : List Nat) (c : Int32) : Bool := match os with
  | [] => decide (ins = .iadd ∧ len = 1)
  | _ => false
def at_13 (LK : List am_L) (ini : Bool) (ret : Option FieldType) (tf : Nat → Nat → FieldType) (Ms : Nat → am_M) (pc len : Nat) (ins : Instr) (os : List Nat) (c : Int32) : Bool := match os with
  | [] => decide (ins = .isub ∧ len = 1)
  | _ => false
def at_14 (LK : List am_L) (ini : Bool) (ret : Option FieldType) (tf : Nat → Nat → FieldType) (Ms : Nat → am_M) (pc len : Nat) (ins : Instr) (os : List Nat) (c : Int32) : Bool := match os with
  | [] => decide (ins = .imul ∧ len = 1)
  | _ => false
def at_15 (LK : List am_L) (ini : Bool) (ret : Option FieldType) (tf : Nat → Nat → FieldType) (Ms : Nat → am_M) (pc len : Nat) (ins : Instr) (os : List Nat) (c : Int32) : Bool := match os with
  | [] => decide (ins = .idiv ∧ len = 1)
  | _ => false
def at_16 (LK : List am_L) (ini : Bool) (ret : Option FieldType) (tf : Nat → Nat → FieldType) (Ms : Nat → am_M) (pc len : Nat) (ins : Instr) (os : List Nat) (c : Int32) : Bool := match os with
  | [] => decide (ins = .irem ∧ len = 1)
  | _ => false
def at_17 (LK : List am_L) (ini : Bool) (ret : Option FieldType) (tf : Nat → Nat → FieldType) (Ms : Nat → am_M) (pc len : Nat) (ins : Instr) (os : List Nat) (c : Int32) : Bool := match os with
  | [] => decide (ins = .ineg ∧ len = 1)
  | _ => false
def at_18 (LK : List am_L) (ini : Bool) (ret : Option FieldType) (tf : Nat → Nat → FieldType) (Ms : Nat → am_M) (pc len : Nat) (ins : Instr) (os : List Nat) (c : Int32) : Bool := match os with
  | [] => decide (ins = .iand ∧ len = 1)
  | _ => false
def at_19 (LK : List am_L) (ini : Bool) (ret : Option FieldType) (tf : Nat → Nat → FieldType) (Ms : Nat → am_M) (pc len : Nat) (ins : Instr) (os : List Nat) (c : Int32) : Bool := match os with
  | [] => decide (ins = .ior ∧ len = 1)
  | _ => false
def at_20 (LK : List am_L) (ini : Bool) (ret : Option FieldType) (tf : Nat → Nat → FieldType) (Ms : Nat → am_M) (pc len : Nat) (ins : Instr) (os : List Nat) (c : Int32) : Bool := match os with
  | [] => decide (ins = .ixor ∧ len = 1)
  | _ => false
def at_21 (LK : List am_L) (ini : Bool) (ret : Option FieldType) (tf : Nat → Nat → FieldType) (Ms : Nat → am_M) (pc len : Nat) (ins : Instr) (os : List Nat) (c : Int32) : Bool := match os with
  | [] => decide (ins = .ishl ∧ len = 1)
  | _ => false
def at_22 (LK : List am_L) (ini : Bool) (ret : Option FieldType) (tf : Nat → Nat → FieldType) (Ms : Nat → am_M) (pc len : Nat) (ins : Instr) (os : List Nat) (c : Int32) : Bool := match os with
  | [] => decide (ins = .ishr ∧ len = 1)
  | _ => false
def at_23 (LK : List am_L) (ini : Bool) (ret : Option FieldType) (tf : Nat → Nat → FieldType) (Ms : Nat → am_M) (pc len : Nat) (ins : Instr) (os : List Nat) (c : Int32) : Bool := match os with
  | [] => decide (ins = .ladd ∧ len = 1)
  | _ => false
def at_24 (LK : List am_L) (ini : Bool) (ret : Option FieldType) (tf : Nat → Nat → FieldType) (Ms : Nat → am_M) (pc len : Nat) (ins : Instr) (os : List Nat) (c : Int32) : Bool := match os with
  | [] => decide (ins = .lmul ∧ len = 1)
  | _ => false
def at_25 (LK : List am_L) (ini : Bool) (ret : Option FieldType) (tf : Nat → Nat → FieldType) (Ms : Nat → am_M) (pc len : Nat) (ins : Instr) (os : List Nat) (c : Int32) : Bool := match os with
  | [] => decide (ins = .lcmp ∧ len = 1)
  | _ => false
def at_26 (LK : List am_L) (ini : Bool) (ret : Option FieldType) (tf : Nat → Nat → FieldType) (Ms : Nat → am_M) (pc len : Nat) (ins : Instr) (os : List Nat) (c : Int32) : Bool := match os with
  | [] => decide (ins = .i2l ∧ len = 1)
  | _ => false
def at_27 (LK : List am_L) (ini : Bool) (ret : Option FieldType) (tf : Nat → Nat → FieldType) (Ms : Nat → am_M) (pc len : Nat) (ins : Instr) (os : List Nat) (c : Int32) : Bool := match os with
  | [] => decide (ins = .l2i ∧ len = 1)
  | _ => false
def at_28 (LK : List am_L) (ini : Bool) (ret : Option FieldType) (tf : Nat → Nat → FieldType) (Ms : Nat → am_M) (pc len : Nat) (ins : Instr) (os : List Nat) (c : Int32) : Bool := match os with
  | [] => decide (ins = .i2b ∧ len = 1)
  | _ => false
def at_29 (LK : List am_L) (ini : Bool) (ret : Option FieldType) (tf : Nat → Nat → FieldType) (Ms : Nat → am_M) (pc len : Nat) (ins : Instr) (os : List Nat) (c : Int32) : Bool := match os with
  | [] => decide (ins = .i2c ∧ len = 1)
  | _ => false
def at_30 (LK : List am_L) (ini : Bool) (ret : Option FieldType) (tf : Nat → Nat → FieldType) (Ms : Nat → am_M) (pc len : Nat) (ins : Instr) (os : List Nat) (c : Int32) : Bool := match os with
  | [] => decide (ins = .dup ∧ len = 1)
  | _ => false
def at_31 (LK : List am_L) (ini : Bool) (ret : Option FieldType) (tf : Nat → Nat → FieldType) (Ms : Nat → am_M) (pc len : Nat) (ins : Instr) (os : List Nat) (c : Int32) : Bool := match os with
  | [] => decide (ins = .pop ∧ len = 1)
  | _ => false
def at_32 (LK : List am_L) (ini : Bool) (ret : Option FieldType) (tf : Nat → Nat → FieldType) (Ms : Nat → am_M) (pc len : Nat) (ins : Instr) (os : List Nat) (c : Int32) : Bool := match os with
  | [] => decide (ins = .dup2 ∧ len = 1)
  | _ => false
def at_33 (LK : List am_L) (ini : Bool) (ret : Option FieldType) (tf : Nat → Nat → FieldType) (Ms : Nat → am_M) (pc len : Nat) (ins : Instr) (os : List Nat) (c : Int32) : Bool := match os with
  | [x, q, k] => decide (ins = .getfield x ∧ len = 3 ∧ am_isR (tf q k) = false) && LK.contains (0, x, q, k)
  | _ => false
def at_34 (LK : List am_L) (ini : Bool) (ret : Option FieldType) (tf : Nat → Nat → FieldType) (Ms : Nat → am_M) (pc len : Nat) (ins : Instr) (os : List Nat) (c : Int32) : Bool := match os with
  | [x, q, k] => decide (ins = .getfield x ∧ len = 3 ∧ am_isR (tf q k) = true) && LK.contains (0, x, q, k)
  | _ => false
def at_35 (LK : List am_L) (ini : Bool) (ret : Option FieldType) (tf : Nat → Nat → FieldType) (Ms : Nat → am_M) (pc len : Nat) (ins : Instr) (os : List Nat) (c : Int32) : Bool := match os with
  | [x, q, k] => decide (ins = .putfield x ∧ len = 3 ∧ tf q k = .int) && LK.contains (13, x, q, k)
  | _ => false
def at_36 (LK : List am_L) (ini : Bool) (ret : Option FieldType) (tf : Nat → Nat → FieldType) (Ms : Nat → am_M) (pc len : Nat) (ins : Instr) (os : List Nat) (c : Int32) : Bool := match os with
  | [x, q, k] => decide (ins = .putfield x ∧ len = 3 ∧ tf q k = .boolean) && LK.contains (13, x, q, k)
  | _ => false
def at_37 (LK : List am_L) (ini : Bool) (ret : Option FieldType) (tf : Nat → Nat → FieldType) (Ms : Nat → am_M) (pc len : Nat) (ins : Instr) (os : List Nat) (c : Int32) : Bool := match os with
  | [x, q, k] => decide (ins = .putfield x ∧ len = 3 ∧ am_isR (tf q k) = true ∧ ini = true) && LK.contains (14, x, q, k)
  | _ => false
def at_38 (LK : List am_L) (ini : Bool) (ret : Option FieldType) (tf : Nat → Nat → FieldType) (Ms : Nat → am_M) (pc len : Nat) (ins : Instr) (os : List Nat) (c : Int32) : Bool := match os with
  | [] => decide (ins = .iaload ∧ len = 1)
  | _ => false
def at_39 (LK : List am_L) (ini : Bool) (ret : Option FieldType) (tf : Nat → Nat → FieldType) (Ms : Nat → am_M) (pc len : Nat) (ins : Instr) (os : List Nat) (c : Int32) : Bool := match os with
  | [] => decide (ins = .baload ∧ len = 1)
  | _ => false
def at_40 (LK : List am_L) (ini : Bool) (ret : Option FieldType) (tf : Nat → Nat → FieldType) (Ms : Nat → am_M) (pc len : Nat) (ins : Instr) (os : List Nat) (c : Int32) : Bool := match os with
  | [] => decide (ins = .baload ∧ len = 1)
  | _ => false
def at_41 (LK : List am_L) (ini : Bool) (ret : Option FieldType) (tf : Nat → Nat → FieldType) (Ms : Nat → am_M) (pc len : Nat) (ins : Instr) (os : List Nat) (c : Int32) : Bool := match os with
  | [] => decide (ins = .laload ∧ len = 1)
  | _ => false
def at_42 (LK : List am_L) (ini : Bool) (ret : Option FieldType) (tf : Nat → Nat → FieldType) (Ms : Nat → am_M) (pc len : Nat) (ins : Instr) (os : List Nat) (c : Int32) : Bool := match os with
  | [] => decide (ins = .aaload ∧ len = 1)
  | _ => false
def at_43 (LK : List am_L) (ini : Bool) (ret : Option FieldType) (tf : Nat → Nat → FieldType) (Ms : Nat → am_M) (pc len : Nat) (ins : Instr) (os : List Nat) (c : Int32) : Bool := match os with
  | [] => decide (ins = .iastore ∧ len = 1)
  | _ => false
def at_44 (LK : List am_L) (ini : Bool) (ret : Option FieldType) (tf : Nat → Nat → FieldType) (Ms : Nat → am_M) (pc len : Nat) (ins : Instr) (os : List Nat) (c : Int32) : Bool := match os with
  | [] => decide (ins = .bastore ∧ len = 1)
  | _ => false
def at_45 (LK : List am_L) (ini : Bool) (ret : Option FieldType) (tf : Nat → Nat → FieldType) (Ms : Nat → am_M) (pc len : Nat) (ins : Instr) (os : List Nat) (c : Int32) : Bool := match os with
  | [] => decide (ins = .bastore ∧ len = 1)
  | _ => false
def at_46 (LK : List am_L) (ini : Bool) (ret : Option FieldType) (tf : Nat → Nat → FieldType) (Ms : Nat → am_M) (pc len : Nat) (ins : Instr) (os : List Nat) (c : Int32) : Bool := match os with
  | [] => decide (ins = .lastore ∧ len = 1)
  | _ => false
def at_47 (LK : List am_L) (ini : Bool) (ret : Option FieldType) (tf : Nat → Nat → FieldType) (Ms : Nat → am_M) (pc len : Nat) (ins : Instr) (os : List Nat) (c : Int32) : Bool := match os with
  | [q] => decide (ins = .aastore ∧ len = 1 ∧ q = am_c4)
  | _ => false
def at_49 (LK : List am_L) (ini : Bool) (ret : Option FieldType) (tf : Nat → Nat → FieldType) (Ms : Nat → am_M) (pc len : Nat) (ins : Instr) (os : List Nat) (c : Int32) : Bool := match os with
  | [q, t, f] => decide (ins = .if_icmp (am_cnd q) ((t : Int) - (pc : Int)) ∧ f = pc + 3 ∧ len = 3 ∧ q < 6)
  | _ => false
def at_50 (LK : List am_L) (ini : Bool) (ret : Option FieldType) (tf : Nat → Nat → FieldType) (Ms : Nat → am_M) (pc len : Nat) (ins : Instr) (os : List Nat) (c : Int32) : Bool := match os with
  | [q, t, f] => decide (ins = .ifCond (am_cnd q) ((t : Int) - (pc : Int)) ∧ f = pc + 3 ∧ len = 3 ∧ q < 6)
  | _ => false
def at_51 (LK : List am_L) (ini : Bool) (ret : Option FieldType) (tf : Nat → Nat → FieldType) (Ms : Nat → am_M) (pc len : Nat) (ins : Instr) (os : List Nat) (c : Int32) : Bool := match os with
  | [t] => decide (ins = .goto ((t : Int) - (pc : Int)) ∧ len = 3)
  | _ => false
def at_52 (LK : List am_L) (ini : Bool) (ret : Option FieldType) (tf : Nat → Nat → FieldType) (Ms : Nat → am_M) (pc len : Nat) (ins : Instr) (os : List Nat) (c : Int32) : Bool := match os with
  | lo :: d :: ts => decide (ins = .tableswitch ((d : Int) - (pc : Int)) (lo : Int) ((lo + ts.length : Nat) - 1 : Int) (ts.map (fun (t : Nat) => (t : Int) - (pc : Int))).toArray)
  | _ => false
def at_53 (LK : List am_L) (ini : Bool) (ret : Option FieldType) (tf : Nat → Nat → FieldType) (Ms : Nat → am_M) (pc len : Nat) (ins : Instr) (os : List Nat) (c : Int32) : Bool := match os with
  | [x, n] => decide (ins = .ldc2_w x ∧ len = 3) && LK.contains (12, x, n, 0)
  | _ => false
def at_54 (LK : List am_L) (ini : Bool) (ret : Option FieldType) (tf : Nat → Nat → FieldType) (Ms : Nat → am_M) (pc len : Nat) (ins : Instr) (os : List Nat) (c : Int32) : Bool := match os with
  | [] => decide (ins = .ireturn ∧ len = 1 ∧ ret = some .int)
  | _ => false
def at_55 (LK : List am_L) (ini : Bool) (ret : Option FieldType) (tf : Nat → Nat → FieldType) (Ms : Nat → am_M) (pc len : Nat) (ins : Instr) (os : List Nat) (c : Int32) : Bool := match os with
  | [] => decide (ins = .lreturn ∧ len = 1 ∧ ret = some .long)
  | _ => false
def at_56 (LK : List am_L) (ini : Bool) (ret : Option FieldType) (tf : Nat → Nat → FieldType) (Ms : Nat → am_M) (pc len : Nat) (ins : Instr) (os : List Nat) (c : Int32) : Bool := match os with
  | [] => decide (ins = .return_ ∧ len = 1 ∧ ret = none)
  | _ => false
def at_57 (LK : List am_L) (ini : Bool) (ret : Option FieldType) (tf : Nat → Nat → FieldType) (Ms : Nat → am_M) (pc len : Nat) (ins : Instr) (os : List Nat) (c : Int32) : Bool := match os with
  | [x, m, n, q, t] => decide (ins = .invokevirtual x ∧ len = 3 ∧ t = pc + 3 ∧ (Ms m).2.2.2.2.1 = n ∧ (Ms m).2.2.2.2.2 = q) && LK.contains (2, x, m, 0)
  | _ => false
def at_58 (LK : List am_L) (ini : Bool) (ret : Option FieldType) (tf : Nat → Nat → FieldType) (Ms : Nat → am_M) (pc len : Nat) (ins : Instr) (os : List Nat) (c : Int32) : Bool := match os with
  | [x, m, n, t] => decide (ins = .invokestatic x ∧ len = 3 ∧ t = pc + 3 ∧ (Ms m).2.2.2.2.1 = n) && LK.contains (15, x, m, 0)
  | _ => false
def at_59 (LK : List am_L) (ini : Bool) (ret : Option FieldType) (tf : Nat → Nat → FieldType) (Ms : Nat → am_M) (pc len : Nat) (ins : Instr) (os : List Nat) (c : Int32) : Bool := match os with
  | [x, m, n, q, t] => decide (ins = .invokespecial x ∧ len = 3 ∧ t = pc + 3 ∧ (Ms m).2.2.2.2.1 = n ∧ (Ms m).2.2.2.2.2 = q) && LK.contains (16, x, m, 0)
  | _ => false
def at_60 (LK : List am_L) (ini : Bool) (ret : Option FieldType) (tf : Nat → Nat → FieldType) (Ms : Nat → am_M) (pc len : Nat) (ins : Instr) (os : List Nat) (c : Int32) : Bool := match os with
  | [x, q, f] => decide (ins = .new x ∧ len = 3) && LK.contains (1, x, q, f)
  | _ => false
def at_61 (LK : List am_L) (ini : Bool) (ret : Option FieldType) (tf : Nat → Nat → FieldType) (Ms : Nat → am_M) (pc len : Nat) (ins : Instr) (os : List Nat) (c : Int32) : Bool := match os with
  | [t] => decide ((t = 0 ∧ ins = .newarray .int ∨ t = 1 ∧ ins = .newarray .byte ∨ t = 2 ∧ ins = .newarray .boolean ∨ t = 3 ∧ ins = .newarray .long) ∧ len = 2)
  | _ => false
def at_62 (LK : List am_L) (ini : Bool) (ret : Option FieldType) (tf : Nat → Nat → FieldType) (Ms : Nat → am_M) (pc len : Nat) (ins : Instr) (os : List Nat) (c : Int32) : Bool := match os with
  | [x] => decide (ins = .anewarray x ∧ len = 3) && LK.contains (7, x, am_c4, 0)
  | _ => false
def at_63 (LK : List am_L) (ini : Bool) (ret : Option FieldType) (tf : Nat → Nat → FieldType) (Ms : Nat → am_M) (pc len : Nat) (ins : Instr) (os : List Nat) (c : Int32) : Bool := match os with
  | [x] => decide (ins = .invokespecial x ∧ len = 3) && LK.contains (3, x, 0, 0)
  | _ => false
def at_64 (LK : List am_L) (ini : Bool) (ret : Option FieldType) (tf : Nat → Nat → FieldType) (Ms : Nat → am_M) (pc len : Nat) (ins : Instr) (os : List Nat) (c : Int32) : Bool := match os with
  | [x] => decide (ins = .invokestatic x ∧ len = 3) && LK.contains (4, x, 0, 0)
  | _ => false
def at_65 (LK : List am_L) (ini : Bool) (ret : Option FieldType) (tf : Nat → Nat → FieldType) (Ms : Nat → am_M) (pc len : Nat) (ins : Instr) (os : List Nat) (c : Int32) : Bool := match os with
  | [x] => decide (ins = .invokestatic x ∧ len = 3) && LK.contains (5, x, 0, 0)
  | _ => false
def at_66 (LK : List am_L) (ini : Bool) (ret : Option FieldType) (tf : Nat → Nat → FieldType) (Ms : Nat → am_M) (pc len : Nat) (ins : Instr) (os : List Nat) (c : Int32) : Bool := match os with
  | [x] => decide (ins = .invokestatic x ∧ len = 3) && LK.contains (6, x, 0, 0)
  | _ => false
def at_67 (LK : List am_L) (ini : Bool) (ret : Option FieldType) (tf : Nat → Nat → FieldType) (Ms : Nat → am_M) (pc len : Nat) (ins : Instr) (os : List Nat) (c : Int32) : Bool := match os with
  | [x, i] => decide (ins = .ldc x ∧ len = 2) && LK.contains (11, x, i, 0)
  | _ => false
def at_68 (LK : List am_L) (ini : Bool) (ret : Option FieldType) (tf : Nat → Nat → FieldType) (Ms : Nat → am_M) (pc len : Nat) (ins : Instr) (os : List Nat) (c : Int32) : Bool := match os with
  | [x] => decide (ins = .invokevirtual x ∧ len = 3) && LK.contains (8, x, 0, 0)
  | _ => false
def at_69 (LK : List am_L) (ini : Bool) (ret : Option FieldType) (tf : Nat → Nat → FieldType) (Ms : Nat → am_M) (pc len : Nat) (ins : Instr) (os : List Nat) (c : Int32) : Bool := match os with
  | [x] => decide (ins = .invokevirtual x ∧ len = 3) && LK.contains (9, x, 0, 0)
  | _ => false
def at_70 (LK : List am_L) (ini : Bool) (ret : Option FieldType) (tf : Nat → Nat → FieldType) (Ms : Nat → am_M) (pc len : Nat) (ins : Instr) (os : List Nat) (c : Int32) : Bool := match os with
  | [x] => decide (ins = .invokevirtual x ∧ len = 3) && LK.contains (10, x, 0, 0)
  | _ => false
def at_71 (LK : List am_L) (ini : Bool) (ret : Option FieldType) (tf : Nat → Nat → FieldType) (Ms : Nat → am_M) (pc len : Nat) (ins : Instr) (os : List Nat) (c : Int32) : Bool := match os with
  | [] => decide (ins = .iaload ∧ len = 1) && LK.contains (17, 0, 0, 0)
  | _ => false
def at_72 (LK : List am_L) (ini : Bool) (ret : Option FieldType) (tf : Nat → Nat → FieldType) (Ms : Nat → am_M) (pc len : Nat) (ins : Instr) (os : List Nat) (c : Int32) : Bool := match os with
  | [] => decide (ins = .arraylength ∧ len = 1) && LK.contains (17, 0, 0, 0)
  | _ => false
def at_73 (LK : List am_L) (ini : Bool) (ret : Option FieldType) (tf : Nat → Nat → FieldType) (Ms : Nat → am_M) (pc len : Nat) (ins : Instr) (os : List Nat) (c : Int32) : Bool := match os with
  | [] => decide (ins = .ireturn ∧ len = 1 ∧ ret = some .boolean)
  | _ => false
def at_no (LK : List am_L) (ini : Bool) (ret : Option FieldType) (tf : Nat → Nat → FieldType) (Ms : Nat → am_M) (pc len : Nat) (ins : Instr) (_ : List Nat) (_ : Int32) : Bool := false
def am_mtt (op : Nat) : List am_L → Bool → Option FieldType → (Nat → Nat → FieldType) → (Nat → am_M) → Nat → Nat → Instr → List Nat → Int32 → Bool := match op with
  | 1 => at_1
  | 2 => at_2
  | 3 => at_3
  | 4 => at_4
  | 5 => at_5
  | 6 => at_6
  | 7 => at_7
  | 8 => at_8
  | 9 => at_9
  | 10 => at_10
  | 11 => at_11
  | 12 => at_12
  | 13 => at_13
  | 14 => at_14
  | 15 => at_15
  | 16 => at_16
  | 17 => at_17
  | 18 => at_18
  | 19 => at_19
  | 20 => at_20
  | 21 => at_21
  | 22 => at_22
  | 23 => at_23
  | 24 => at_24
  | 25 => at_25
  | 26 => at_26
  | 27 => at_27
  | 28 => at_28
  | 29 => at_29
  | 30 => at_30
  | 31 => at_31
  | 32 => at_32
  | 33 => at_33
  | 34 => at_34
  | 35 => at_35
  | 36 => at_36
  | 37 => at_37
  | 38 => at_38
  | 39 => at_39
  | 40 => at_40
  | 41 => at_41
  | 42 => at_42
  | 43 => at_43
  | 44 => at_44
  | 45 => at_45
  | 46 => at_46
  | 47 => at_47
  | 49 => at_49
  | 50 => at_50
  | 51 => at_51
  | 52 => at_52
  | 53 => at_53
  | 54 => at_54
  | 55 => at_55
  | 56 => at_56
  | 57 => at_57
  | 58 => at_58
  | 59 => at_59
  | 60 => at_60
  | 61 => at_61
  | 62 => at_62
  | 63 => at_63
  | 64 => at_64
  | 65 => at_65
  | 66 => at_66
  | 67 => at_67
  | 68 => at_68
  | 69 => at_69
  | 70 => at_70
  | 71 => at_71
  | 72 => at_72
  | 73 => at_73
  | _ => at_no
def am_mt (LK : List am_L) (ini : Bool) (ret : Option FieldType) (tf : Nat → Nat → FieldType) (Ms : Nat → am_M) (pc len : Nat) (ins : Instr) (i : am_I) : Bool := am_mtt i.1 LK ini ret tf Ms pc len ins i.2.1 i.2.2
