/-! what a method's walk stands on: the links of its class, its code, the tables' words -/
/-- the array types -/
def am_tys (z : am_Z) (C4 : String) : List (ClassId × FieldType) := [(z.2.2.1 0, .int), (z.2.2.1 1, .byte), (z.2.2.1 2, .boolean), (z.2.2.1 3, .long), (z.2.2.1 4, .object C4)]
/-- of a method: its name, its code, its variables, what it answers; how many arguments; of which kind its receiver is -/
abbrev am_M : Type := MethodName × ByteArray × Nat × Option FieldType × Nat × Nat
/-- a link of a pool: what it is, its place, two numbers -/
abbrev am_L : Type := Nat × Nat × Nat × Nat
/-- a method is in the tables -/
def am_mo (Ts : List Cond) (x : am_M) : Prop := Cond.code x.1 x.2.1 x.2.2.1 x.2.2.2.1 ∈ Ts ∧ Cond.initialized x.1.cls ∈ Ts ∧ (x.1.cls ≠ "java/lang/invoke/MethodHandle" ∧ x.1.cls ≠ "java/lang/invoke/VarHandle") ∧ (parseMethodDescriptor x.1.desc).map (fun d => d.parameters.length) = some x.2.2.2.2.1 ∧ x.2.2.1 ≤ 40
/-- a link is what it says -/
def am_lk (cl : List vw_C) (Ts : List Cond) (own : String) (Ms : Nat → am_M) (t : am_L) : Prop := match t with
  | (0, i, c, k) => ∃ r, cl[c]? = some r ∧ k < r.2.2 ∧ Cond.fieldLink own i (r.2.1 k).1 (r.2.1 k).2.1 (r.2.1 k).2.2.1 ∈ Ts
  | (1, i, c, f) => ∃ r, cl[c]? = some r ∧ f = r.2.2 ∧ Cond.classLink own i r.1 ∈ Ts
  | (2, i, m, _) => Cond.methodLink own i (Ms m).1 ∈ Ts ∧ am_mo Ts (Ms m) ∧ Cond.instanceMethod (Ms m).1 ∈ Ts ∧ Cond.selects (Ms m).1.cls (Ms m).1 (Ms m).1 ∈ Ts ∧ ∃ r, cl[(Ms m).2.2.2.2.2]? = some r ∧ r.1 = (Ms m).1.cls
  | (15, i, m, _) => Cond.methodLink own i (Ms m).1 ∈ Ts ∧ am_mo Ts (Ms m) ∧ Cond.static (Ms m).1 ∈ Ts
  | (16, i, m, _) => Cond.methodLink own i (Ms m).1 ∈ Ts ∧ am_mo Ts (Ms m) ∧ Cond.instanceMethod (Ms m).1 ∈ Ts ∧ (Ms m).1.name = "<init>" ∧ (Ms m).2.2.2.1 = none
  | (3, i, _, _) => Cond.methodLink own i objectInit ∈ Ts ∧ Cond.instanceMethod objectInit ∈ Ts ∧ Cond.code objectInit ⟨#[0xb1]⟩ 1 none ∈ Ts
  | (4, i, _, _) => Cond.methodLink own i Lib.Math.max.name ∈ Ts ∧ Cond.static Lib.Math.max.name ∈ Ts ∧ Cond.initialized "java/lang/Math" ∈ Ts ∧ Cond.code Lib.Math.max.name Lib.Math.max.code 2 (some .int) ∈ Ts
  | (5, i, _, _) => Cond.methodLink own i Lib.Math.min.name ∈ Ts ∧ Cond.static Lib.Math.min.name ∈ Ts ∧ Cond.initialized "java/lang/Math" ∈ Ts ∧ Cond.code Lib.Math.min.name Lib.Math.min.code 2 (some .int) ∈ Ts
  | (6, i, _, _) => Cond.methodLink own i arraycopyName ∈ Ts ∧ Cond.native arraycopyName ∈ Ts ∧ Cond.static arraycopyName ∈ Ts ∧ Cond.initialized "java/lang/System" ∈ Ts
  | (7, i, c, _) => ∃ r, cl[c]? = some r ∧ Cond.classLink own i r.1 ∈ Ts
  | (12, i, n, _) => Cond.constantLong own i (lN n) ∈ Ts
  | (13, i, c, k) => ∃ r, cl[c]? = some r ∧ k < r.2.2 ∧ Cond.fieldLink own i (r.2.1 k).1 (r.2.1 k).2.1 (r.2.1 k).2.2.1 ∈ Ts ∧ (r.2.1 k).2.2.2 = false
  | (14, i, c, k) => ∃ r, cl[c]? = some r ∧ k < r.2.2 ∧ Cond.fieldLink own i (r.2.1 k).1 (r.2.1 k).2.1 (r.2.1 k).2.2.1 ∈ Ts ∧ (r.2.1 k).2.2.2 = true ∧ (r.2.1 k).1 = own
  | _ => True
/-- a field's type: neither long nor float nor double -/
def am_okT : FieldType → Bool
  | .long => false
  | .float => false
  | .double => false
  | _ => true
/-- the kinds' own words -/
def am_tb (cl : List vw_C) (z : am_Z) (Ts : List Cond) : Prop := ∀ (c : Nat) (r : vw_C), cl[c]? = some r → z.1 c = r.2.2 ∧ (∀ w ∈ u_ws r.1 r.2.1 r.2.2, w ∈ Ts) ∧ (∀ k, k < r.2.2 → parseFieldDescriptor (r.2.1 k).2.2.1 = some (z.2.1 c k)) ∧ (∀ a, a < r.2.2 → ∀ b, b < r.2.2 → a ≠ b → (r.2.1 a).2.1 ≠ (r.2.1 b).2.1) ∧ Cond.instantiable r.1 r.2.2 ∈ Ts ∧ Cond.initialized r.1 ∈ Ts ∧ ∀ k, k < r.2.2 → am_okT (z.2.1 c k) = true
/-- what stays the same through a method -/
def am_Fx (p : Program) (R : Room) (s : State) (m : MethodId) (args : Array Value) (meth : Method) (c : Code) (cc : ByteArray) (nL : Nat) (ret : Option FieldType) (ini : Bool) (D : va_G) (cl : List vw_C) (z : am_Z) (C4 : String) (q : am_Q) (Ts : List Cond) (own : String) (Ms : Nat → am_M) (LK : List am_L) (n0 : Nat) : Prop :=
  (p.tables.exec = Jvm.exec ∧ c.code = cc ∧ c.maxLocals = nL ∧ s.vm.findClass own = some m.cls) ∧ (∀ w ∈ Ts, w.before args s = true) ∧ va_K D cl (am_tys z C4) s ∧ q.2.1 = z.2.2.2 ∧ am_tb cl z Ts ∧ (∀ t ∈ LK, am_lk cl Ts own Ms t) ∧ s.heap.size = z.2.2.2 + n0 ∧ meth.sig.returnType = ret ∧ meth.locks = false ∧ (ini = true → meth.name = "<init>") ∧ (1 ≤ R.frames ∧ 100 ≤ R.locals)
/-- from here on it ends as it should, whatever cells and variables are as ours are -/
def am_Nx (p : Program) (l : Launch) (e : Env) (R : Room) (s : State) (m : MethodId) (args : Array Value) (below : List Frame) (meth : Method) (c : Code) (Q : State → Prop) (nL : Nat) (D : va_G) (cl : List vw_C) (z : am_Z) (q : am_Q) (n0 s0 : Nat) (pc : Nat) (S : am_S) : Prop :=
  ∀ (H : Heap) (locs : List Loc) (lsC : Array Slot), am_lv q lsC nL S.1 → va_P D cl (am_ws z S.2.2) H → va_S (fun a => z.2.2.2 ≤ a) s.heap H locs → n0 ≤ S.2.2.1 → s0 ≤ S.2.2.2.1 → W p l e R s m args below meth c H locs (S.2.2.1 - n0) (S.2.2.2.1 - s0) Q (F0 m pc lsC (S.2.1.map (am_v q)))
/-- the six conditions, as the bytecode names them -/
def am_cnd : Nat → ClassFile.Cond
  | 0 => .eq
  | 1 => .ne
  | 2 => .lt
  | 3 => .ge
  | 4 => .gt
  | _ => .le
/-- the kind whose references the arrays of references hold -/
def am_c4 : Nat := 5
/-- is an instruction of ours the bytecode's at this place -/
def am_mt (LK : List am_L) (ini : Bool) (ret : Option FieldType) (tf : Nat → Nat → FieldType) (Ms : Nat → am_M) (pc len : Nat) (ins : Instr) (i : am_I) : Bool := match i with
  | (op, os, c) => match op, os with
    | 1, [n] => decide ((ins = .iconst (n : Int) ∧ len = 1 ∧ n < 128) ∨ (ins = .bipush (n : Int) ∧ len = 2 ∧ n < 128) ∨ (ins = .sipush (n : Int) ∧ len = 3 ∧ n < 32768))
    | 2, [] => decide ((ins = .iconst c.toInt ∧ len = 1) ∨ (ins = .bipush c.toInt ∧ len = 2 ∧ (Int8.ofInt c.toInt).toInt32 = c) ∨ (ins = .sipush c.toInt ∧ len = 3 ∧ (Int16.ofInt c.toInt).toInt32 = c))
    | 3, [n] => decide (∃ f : Fin 2, ins = .lconst f ∧ f.val = n ∧ len = 1)
    | 4, [k] => decide ((∃ f : Fin 4, ins = .iload_n f ∧ f.val = k ∧ len = 1) ∨ (ins = .iload k ∧ len = 2))
    | 5, [k] => decide ((∃ f : Fin 4, ins = .lload_n f ∧ f.val = k ∧ len = 1) ∨ (ins = .lload k ∧ len = 2))
    | 6, [k] => decide ((∃ f : Fin 4, ins = .aload_n f ∧ f.val = k ∧ len = 1) ∨ (ins = .aload k ∧ len = 2))
    | 7, [k] => decide ((∃ f : Fin 4, ins = .istore_n f ∧ f.val = k ∧ len = 1) ∨ (ins = .istore k ∧ len = 2))
    | 8, [k] => decide ((∃ f : Fin 4, ins = .lstore_n f ∧ f.val = k ∧ len = 1) ∨ (ins = .lstore k ∧ len = 2))
    | 9, [k] => decide ((∃ f : Fin 4, ins = .astore_n f ∧ f.val = k ∧ len = 1) ∨ (ins = .astore k ∧ len = 2))
    | 10, [k, n] => decide (ins = .iinc k (n : Int) ∧ len = 3)
    | 11, [k] => decide (ins = .iinc k c.toInt ∧ len = 3)
    | 12, [] => decide (ins = .iadd ∧ len = 1)
    | 13, [] => decide (ins = .isub ∧ len = 1)
    | 14, [] => decide (ins = .imul ∧ len = 1)
    | 15, [] => decide (ins = .idiv ∧ len = 1)
    | 16, [] => decide (ins = .irem ∧ len = 1)
    | 17, [] => decide (ins = .ineg ∧ len = 1)
    | 18, [] => decide (ins = .iand ∧ len = 1)
    | 19, [] => decide (ins = .ior ∧ len = 1)
    | 20, [] => decide (ins = .ixor ∧ len = 1)
    | 21, [] => decide (ins = .ishl ∧ len = 1)
    | 22, [] => decide (ins = .ishr ∧ len = 1)
    | 23, [] => decide (ins = .ladd ∧ len = 1)
    | 24, [] => decide (ins = .lmul ∧ len = 1)
    | 25, [] => decide (ins = .lcmp ∧ len = 1)
    | 26, [] => decide (ins = .i2l ∧ len = 1)
    | 27, [] => decide (ins = .l2i ∧ len = 1)
    | 28, [] => decide (ins = .i2b ∧ len = 1)
    | 29, [] => decide (ins = .i2c ∧ len = 1)
    | 30, [] => decide (ins = .dup ∧ len = 1)
    | 31, [] => decide (ins = .pop ∧ len = 1)
    | 32, [] => decide (ins = .dup2 ∧ len = 1)
    | 33, [x, q, k] => decide (ins = .getfield x ∧ len = 3 ∧ am_isR (tf q k) = false) && LK.contains (0, x, q, k)
    | 34, [x, q, k] => decide (ins = .getfield x ∧ len = 3 ∧ am_isR (tf q k) = true) && LK.contains (0, x, q, k)
    | 35, [x, q, k] => decide (ins = .putfield x ∧ len = 3 ∧ tf q k = .int) && LK.contains (13, x, q, k)
    | 36, [x, q, k] => decide (ins = .putfield x ∧ len = 3 ∧ tf q k = .boolean) && LK.contains (13, x, q, k)
    | 37, [x, q, k] => decide (ins = .putfield x ∧ len = 3 ∧ am_isR (tf q k) = true ∧ ini = true) && LK.contains (14, x, q, k)
    | 38, [] => decide (ins = .iaload ∧ len = 1)
    | 39, [] => decide (ins = .baload ∧ len = 1)
    | 40, [] => decide (ins = .baload ∧ len = 1)
    | 41, [] => decide (ins = .laload ∧ len = 1)
    | 42, [] => decide (ins = .aaload ∧ len = 1)
    | 43, [] => decide (ins = .iastore ∧ len = 1)
    | 44, [] => decide (ins = .bastore ∧ len = 1)
    | 45, [] => decide (ins = .bastore ∧ len = 1)
    | 46, [] => decide (ins = .lastore ∧ len = 1)
    | 47, [q] => decide (ins = .aastore ∧ len = 1 ∧ q = am_c4)
    | 49, [q, t, f] => decide (ins = .if_icmp (am_cnd q) ((t : Int) - (pc : Int)) ∧ f = pc + 3 ∧ len = 3 ∧ q < 6)
    | 50, [q, t, f] => decide (ins = .ifCond (am_cnd q) ((t : Int) - (pc : Int)) ∧ f = pc + 3 ∧ len = 3 ∧ q < 6)
    | 51, [t] => decide (ins = .goto ((t : Int) - (pc : Int)) ∧ len = 3)
    | 52, lo :: d :: ts => decide (ins = .tableswitch ((d : Int) - (pc : Int)) (lo : Int) ((lo + ts.length : Nat) - 1 : Int) (ts.map (fun (t : Nat) => (t : Int) - (pc : Int))).toArray)
    | 53, [x, n] => decide (ins = .ldc2_w x ∧ len = 3) && LK.contains (12, x, n, 0)
    | 54, [] => decide (ins = .ireturn ∧ len = 1 ∧ ret = some .int)
    | 55, [] => decide (ins = .lreturn ∧ len = 1 ∧ ret = some .long)
    | 56, [] => decide (ins = .return_ ∧ len = 1 ∧ ret = none)
    | 57, [x, m, n, q, t] => decide (ins = .invokevirtual x ∧ len = 3 ∧ t = pc + 3 ∧ (Ms m).2.2.2.2.1 = n ∧ (Ms m).2.2.2.2.2 = q) && LK.contains (2, x, m, 0)
    | 58, [x, m, n, t] => decide (ins = .invokestatic x ∧ len = 3 ∧ t = pc + 3 ∧ (Ms m).2.2.2.2.1 = n) && LK.contains (15, x, m, 0)
    | 59, [x, m, n, q, t] => decide (ins = .invokespecial x ∧ len = 3 ∧ t = pc + 3 ∧ (Ms m).2.2.2.2.1 = n ∧ (Ms m).2.2.2.2.2 = q) && LK.contains (16, x, m, 0)
    | 60, [x, q, f] => decide (ins = .new x ∧ len = 3) && LK.contains (1, x, q, f)
    | 61, [t] => decide ((t = 0 ∧ ins = .newarray .int ∨ t = 1 ∧ ins = .newarray .byte ∨ t = 2 ∧ ins = .newarray .boolean ∨ t = 3 ∧ ins = .newarray .long) ∧ len = 2)
    | 62, [x] => decide (ins = .anewarray x ∧ len = 3) && LK.contains (7, x, am_c4, 0)
    | 63, [x] => decide (ins = .invokespecial x ∧ len = 3) && LK.contains (3, x, 0, 0)
    | 64, [x] => decide (ins = .invokestatic x ∧ len = 3) && LK.contains (4, x, 0, 0)
    | 65, [x] => decide (ins = .invokestatic x ∧ len = 3) && LK.contains (5, x, 0, 0)
    | 66, [x] => decide (ins = .invokestatic x ∧ len = 3) && LK.contains (6, x, 0, 0)
    | 67, [x, i] => decide (ins = .ldc x ∧ len = 2) && LK.contains (11, x, i, 0)
    | 68, [x] => decide (ins = .invokevirtual x ∧ len = 3) && LK.contains (8, x, 0, 0)
    | 69, [x] => decide (ins = .invokevirtual x ∧ len = 3) && LK.contains (9, x, 0, 0)
    | 70, [x] => decide (ins = .invokevirtual x ∧ len = 3) && LK.contains (10, x, 0, 0)
    | 71, [] => decide (ins = .iaload ∧ len = 1)
    | 72, [] => decide (ins = .arraylength ∧ len = 1)
    | 73, [] => decide (ins = .ireturn ∧ len = 1 ∧ ret = some .boolean)
    | _, _ => false
