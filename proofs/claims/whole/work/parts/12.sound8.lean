/-- what a stretch stands on -/
def am_Cx (p : Program) (l : Launch) (e : Env) (R : Room) (s : State) (m : MethodId) (args : Array Value) (below : List Frame) (meth : Method) (c : Code) (Q : State → Prop) (cc : ByteArray) (nL : Nat) (ret : Option FieldType) (ini : Bool) (D : va_G) (cl : List vw_C) (z : am_Z) (C4 : String) (q : am_Q) (Ts : List Cond) (own : String) (Ms : Nat → am_M) (LK : List am_L) (n0 s0 : Nat) (X : am_X) : Prop :=
  am_Fx p R s m args meth c cc nL ret ini D cl z C4 q Ts own Ms LK n0 ∧ (∀ ty, ty = .int ∨ ty = .byte ∨ ty = .boolean ∨ ty = .long → Cond.arrayClass ty ∈ Ts) ∧ (∃ r, cl[am_c4]? = some r ∧ r.1 = C4) ∧ va_AO C4 s ∧ ((17, 0, 0, 0) ∈ LK → va_X q.1 X.1 X.2 s s.heap ∧ q.1 < s.heap.size ∧ ¬ z.2.2.2 ≤ q.1) ∧
  (∀ (i : am_I) (pc len : Nat) (ins : Instr) (S S' : am_S), (i.1 = 67 ∨ i.1 = 68 ∨ i.1 = 69 ∨ i.1 = 70) → am_x X i S = am_on S' → am_mt LK ini ret z.2.1 Ms pc len ins i = true → decode cc pc = .ok (ins, len) → S'.2.2.1 - n0 ≤ R.cells ∧ S'.2.2.2.1 - s0 ≤ R.slots → am_Nx p l e R s m args below meth c Q nL D cl z q n0 s0 (pc + len) S' → am_Nx p l e R s m args below meth c Q nL D cl z q n0 s0 pc S)
section
variable {p : Program} {l : Launch} {e : Env} {R : Room} {s : State} {m : MethodId} {args : Array Value} {below : List Frame} {meth : Method} {c : Code} {Q : State → Prop} {cc : ByteArray} {nL : Nat} {ret : Option FieldType} {ini : Bool} {D : va_G} {cl : List vw_C} {z : am_Z} {C4 : String} {q : am_Q} {Ts : List Cond} {own : String} {Ms : Nat → am_M} {LK : List am_L} {n0 s0 pc : Nat} {S S' : am_S} {SP : State → Prop} {X : am_X}
theorem am_ct {t : am_L} (h : LK.contains t = true) : t ∈ LK := by simpa using h
theorem am_z1_of {x : Int32} (h : am_z1 x = true) : narrow .boolean (.int x) = .int x ∧ fits .boolean (.int x) = true := by
  unfold am_z1 at h
  simp only [Bool.or_eq_true, decide_eq_true_eq] at h
  rcases h with rfl | rfl <;> exact ⟨by decide, by decide⟩
theorem so_1 {len : Nat} {ins : Instr} {os : List Nat} {c0 : Int32} (Cx : am_Cx p l e R s m args below meth c Q cc nL ret ini D cl z C4 q Ts own Ms LK n0 s0 X) (hx : ah_1 os c0 X S = am_on S') (hm : at_1 LK ini ret z.2.1 Ms pc len ins os c0 = true) (hd : decode cc pc = .ok (ins, len)) (hR : S'.2.2.1 - n0 ≤ R.cells ∧ S'.2.2.2.1 - s0 ≤ R.slots) (k : am_Nx p l e R s m args below meth c Q nL D cl z q n0 s0 (pc + len) S') : am_Nx p l e R s m args below meth c Q nL D cl z q n0 s0 pc S := by
  unfold ah_1 at hx
  split at hx
  · unfold at_1 at hm
    dsimp only at hm
    rcases of_decide_eq_true hm with ⟨rfl, rfl, h3⟩ | ⟨rfl, rfl, h3⟩ | ⟨rfl, rfl, h3⟩
    · exact sx_push hx (fun K => lv_iconst Cx.1.1.1 Cx.1.1.2.1 hd am_ofInt K) k
    · exact sx_push hx (fun K => lv_bipush Cx.1.1.1 Cx.1.1.2.1 hd (am_ofInt8 h3) K) k
    · exact sx_push hx (fun K => lv_sipush Cx.1.1.1 Cx.1.1.2.1 hd (am_ofInt16 h3) K) k
  · cases hx
theorem so_2 {len : Nat} {ins : Instr} {os : List Nat} {c0 : Int32} (Cx : am_Cx p l e R s m args below meth c Q cc nL ret ini D cl z C4 q Ts own Ms LK n0 s0 X) (hx : ah_2 os c0 X S = am_on S') (hm : at_2 LK ini ret z.2.1 Ms pc len ins os c0 = true) (hd : decode cc pc = .ok (ins, len)) (hR : S'.2.2.1 - n0 ≤ R.cells ∧ S'.2.2.2.1 - s0 ≤ R.slots) (k : am_Nx p l e R s m args below meth c Q nL D cl z q n0 s0 (pc + len) S') : am_Nx p l e R s m args below meth c Q nL D cl z q n0 s0 pc S := by
  unfold ah_2 at hx
  split at hx
  · unfold at_2 at hm
    dsimp only at hm
    rcases of_decide_eq_true hm with ⟨rfl, rfl⟩ | ⟨rfl, rfl, h3⟩ | ⟨rfl, rfl, h3⟩
    · exact sx_push hx (fun K => lv_iconst Cx.1.1.1 Cx.1.1.2.1 hd (Int32.ofInt_toInt c0) K) k
    · exact sx_push hx (fun K => lv_bipush Cx.1.1.1 Cx.1.1.2.1 hd h3 K) k
    · exact sx_push hx (fun K => lv_sipush Cx.1.1.1 Cx.1.1.2.1 hd h3 K) k
  · cases hx
theorem so_3 {len : Nat} {ins : Instr} {os : List Nat} {c0 : Int32} (Cx : am_Cx p l e R s m args below meth c Q cc nL ret ini D cl z C4 q Ts own Ms LK n0 s0 X) (hx : ah_3 os c0 X S = am_on S') (hm : at_3 LK ini ret z.2.1 Ms pc len ins os c0 = true) (hd : decode cc pc = .ok (ins, len)) (hR : S'.2.2.1 - n0 ≤ R.cells ∧ S'.2.2.2.1 - s0 ≤ R.slots) (k : am_Nx p l e R s m args below meth c Q nL D cl z q n0 s0 (pc + len) S') : am_Nx p l e R s m args below meth c Q nL D cl z q n0 s0 pc S := by
  unfold ah_3 at hx
  split at hx
  · unfold at_3 at hm
    dsimp only at hm
    obtain ⟨f, rfl, rfl, rfl⟩ := of_decide_eq_true hm
    exact sx_push hx (fun K => lv_lconst Cx.1.1.1 Cx.1.1.2.1 hd rfl K) k
  · cases hx
theorem so_4 {len : Nat} {ins : Instr} {os : List Nat} {c0 : Int32} (Cx : am_Cx p l e R s m args below meth c Q cc nL ret ini D cl z C4 q Ts own Ms LK n0 s0 X) (hx : ah_4 os c0 X S = am_on S') (hm : at_4 LK ini ret z.2.1 Ms pc len ins os c0 = true) (hd : decode cc pc = .ok (ins, len)) (hR : S'.2.2.1 - n0 ≤ R.cells ∧ S'.2.2.2.1 - s0 ≤ R.slots) (k : am_Nx p l e R s m args below meth c Q nL D cl z q n0 s0 (pc + len) S') : am_Nx p l e R s m args below meth c Q nL D cl z q n0 s0 pc S := by
  unfold ah_4 at hx
  split at hx
  · unfold at_4 at hm
    dsimp only at hm
    exact sx_iload Cx.1 hd (of_decide_eq_true hm) hx k
  · cases hx
theorem so_5 {len : Nat} {ins : Instr} {os : List Nat} {c0 : Int32} (Cx : am_Cx p l e R s m args below meth c Q cc nL ret ini D cl z C4 q Ts own Ms LK n0 s0 X) (hx : ah_5 os c0 X S = am_on S') (hm : at_5 LK ini ret z.2.1 Ms pc len ins os c0 = true) (hd : decode cc pc = .ok (ins, len)) (hR : S'.2.2.1 - n0 ≤ R.cells ∧ S'.2.2.2.1 - s0 ≤ R.slots) (k : am_Nx p l e R s m args below meth c Q nL D cl z q n0 s0 (pc + len) S') : am_Nx p l e R s m args below meth c Q nL D cl z q n0 s0 pc S := by
  unfold ah_5 at hx
  split at hx
  · unfold at_5 at hm
    dsimp only at hm
    exact sx_lload Cx.1 hd (of_decide_eq_true hm) hx k
  · cases hx
theorem so_6 {len : Nat} {ins : Instr} {os : List Nat} {c0 : Int32} (Cx : am_Cx p l e R s m args below meth c Q cc nL ret ini D cl z C4 q Ts own Ms LK n0 s0 X) (hx : ah_6 os c0 X S = am_on S') (hm : at_6 LK ini ret z.2.1 Ms pc len ins os c0 = true) (hd : decode cc pc = .ok (ins, len)) (hR : S'.2.2.1 - n0 ≤ R.cells ∧ S'.2.2.2.1 - s0 ≤ R.slots) (k : am_Nx p l e R s m args below meth c Q nL D cl z q n0 s0 (pc + len) S') : am_Nx p l e R s m args below meth c Q nL D cl z q n0 s0 pc S := by
  unfold ah_6 at hx
  split at hx
  · unfold at_6 at hm
    dsimp only at hm
    exact sx_aload Cx.1 hd (of_decide_eq_true hm) hx k
  · cases hx
theorem so_7 {len : Nat} {ins : Instr} {os : List Nat} {c0 : Int32} (Cx : am_Cx p l e R s m args below meth c Q cc nL ret ini D cl z C4 q Ts own Ms LK n0 s0 X) (hx : ah_7 os c0 X S = am_on S') (hm : at_7 LK ini ret z.2.1 Ms pc len ins os c0 = true) (hd : decode cc pc = .ok (ins, len)) (hR : S'.2.2.1 - n0 ≤ R.cells ∧ S'.2.2.2.1 - s0 ≤ R.slots) (k : am_Nx p l e R s m args below meth c Q nL D cl z q n0 s0 (pc + len) S') : am_Nx p l e R s m args below meth c Q nL D cl z q n0 s0 pc S := by
  unfold ah_7 at hx
  split at hx
  · unfold at_7 at hm
    dsimp only at hm
    exact sx_istore Cx.1 hd (of_decide_eq_true hm) hx k
  · cases hx
theorem so_8 {len : Nat} {ins : Instr} {os : List Nat} {c0 : Int32} (Cx : am_Cx p l e R s m args below meth c Q cc nL ret ini D cl z C4 q Ts own Ms LK n0 s0 X) (hx : ah_8 os c0 X S = am_on S') (hm : at_8 LK ini ret z.2.1 Ms pc len ins os c0 = true) (hd : decode cc pc = .ok (ins, len)) (hR : S'.2.2.1 - n0 ≤ R.cells ∧ S'.2.2.2.1 - s0 ≤ R.slots) (k : am_Nx p l e R s m args below meth c Q nL D cl z q n0 s0 (pc + len) S') : am_Nx p l e R s m args below meth c Q nL D cl z q n0 s0 pc S := by
  unfold ah_8 at hx
  split at hx
  · unfold at_8 at hm
    dsimp only at hm
    exact sx_lstore Cx.1 hd (of_decide_eq_true hm) hx k
  · cases hx
theorem so_9 {len : Nat} {ins : Instr} {os : List Nat} {c0 : Int32} (Cx : am_Cx p l e R s m args below meth c Q cc nL ret ini D cl z C4 q Ts own Ms LK n0 s0 X) (hx : ah_9 os c0 X S = am_on S') (hm : at_9 LK ini ret z.2.1 Ms pc len ins os c0 = true) (hd : decode cc pc = .ok (ins, len)) (hR : S'.2.2.1 - n0 ≤ R.cells ∧ S'.2.2.2.1 - s0 ≤ R.slots) (k : am_Nx p l e R s m args below meth c Q nL D cl z q n0 s0 (pc + len) S') : am_Nx p l e R s m args below meth c Q nL D cl z q n0 s0 pc S := by
  unfold ah_9 at hx
  split at hx
  · unfold at_9 at hm
    dsimp only at hm
    exact sx_astore Cx.1 hd (of_decide_eq_true hm) hx k
  · cases hx
theorem so_10 {len : Nat} {ins : Instr} {os : List Nat} {c0 : Int32} (Cx : am_Cx p l e R s m args below meth c Q cc nL ret ini D cl z C4 q Ts own Ms LK n0 s0 X) (hx : ah_10 os c0 X S = am_on S') (hm : at_10 LK ini ret z.2.1 Ms pc len ins os c0 = true) (hd : decode cc pc = .ok (ins, len)) (hR : S'.2.2.1 - n0 ≤ R.cells ∧ S'.2.2.2.1 - s0 ≤ R.slots) (k : am_Nx p l e R s m args below meth c Q nL D cl z q n0 s0 (pc + len) S') : am_Nx p l e R s m args below meth c Q nL D cl z q n0 s0 pc S := by
  unfold ah_10 at hx
  split at hx
  · unfold at_10 at hm
    dsimp only at hm
    obtain ⟨rfl, rfl⟩ := of_decide_eq_true hm
    exact sx_inc Cx.1 hd am_ofInt hx k
  · cases hx
theorem so_11 {len : Nat} {ins : Instr} {os : List Nat} {c0 : Int32} (Cx : am_Cx p l e R s m args below meth c Q cc nL ret ini D cl z C4 q Ts own Ms LK n0 s0 X) (hx : ah_11 os c0 X S = am_on S') (hm : at_11 LK ini ret z.2.1 Ms pc len ins os c0 = true) (hd : decode cc pc = .ok (ins, len)) (hR : S'.2.2.1 - n0 ≤ R.cells ∧ S'.2.2.2.1 - s0 ≤ R.slots) (k : am_Nx p l e R s m args below meth c Q nL D cl z q n0 s0 (pc + len) S') : am_Nx p l e R s m args below meth c Q nL D cl z q n0 s0 pc S := by
  unfold ah_11 at hx
  split at hx
  · unfold at_11 at hm
    dsimp only at hm
    obtain ⟨rfl, rfl⟩ := of_decide_eq_true hm
    exact sx_inc Cx.1 hd (Int32.ofInt_toInt c0) hx k
  · cases hx
theorem so_12 {len : Nat} {ins : Instr} {os : List Nat} {c0 : Int32} (Cx : am_Cx p l e R s m args below meth c Q cc nL ret ini D cl z C4 q Ts own Ms LK n0 s0 X) (hx : ah_12 os c0 X S = am_on S') (hm : at_12 LK ini ret z.2.1 Ms pc len ins os c0 = true) (hd : decode cc pc = .ok (ins, len)) (hR : S'.2.2.1 - n0 ≤ R.cells ∧ S'.2.2.2.1 - s0 ≤ R.slots) (k : am_Nx p l e R s m args below meth c Q nL D cl z q n0 s0 (pc + len) S') : am_Nx p l e R s m args below meth c Q nL D cl z q n0 s0 pc S := by
  unfold ah_12 at hx
  split at hx
  · unfold at_12 at hm
    dsimp only at hm
    obtain ⟨rfl, rfl⟩ := of_decide_eq_true hm
    exact sx_i2 hx (fun K => lv_iadd Cx.1.1.1 Cx.1.1.2.1 hd K) k
  · cases hx
theorem so_13 {len : Nat} {ins : Instr} {os : List Nat} {c0 : Int32} (Cx : am_Cx p l e R s m args below meth c Q cc nL ret ini D cl z C4 q Ts own Ms LK n0 s0 X) (hx : ah_13 os c0 X S = am_on S') (hm : at_13 LK ini ret z.2.1 Ms pc len ins os c0 = true) (hd : decode cc pc = .ok (ins, len)) (hR : S'.2.2.1 - n0 ≤ R.cells ∧ S'.2.2.2.1 - s0 ≤ R.slots) (k : am_Nx p l e R s m args below meth c Q nL D cl z q n0 s0 (pc + len) S') : am_Nx p l e R s m args below meth c Q nL D cl z q n0 s0 pc S := by
  unfold ah_13 at hx
  split at hx
  · unfold at_13 at hm
    dsimp only at hm
    obtain ⟨rfl, rfl⟩ := of_decide_eq_true hm
    exact sx_i2 hx (fun K => lv_isub Cx.1.1.1 Cx.1.1.2.1 hd K) k
  · cases hx
theorem so_14 {len : Nat} {ins : Instr} {os : List Nat} {c0 : Int32} (Cx : am_Cx p l e R s m args below meth c Q cc nL ret ini D cl z C4 q Ts own Ms LK n0 s0 X) (hx : ah_14 os c0 X S = am_on S') (hm : at_14 LK ini ret z.2.1 Ms pc len ins os c0 = true) (hd : decode cc pc = .ok (ins, len)) (hR : S'.2.2.1 - n0 ≤ R.cells ∧ S'.2.2.2.1 - s0 ≤ R.slots) (k : am_Nx p l e R s m args below meth c Q nL D cl z q n0 s0 (pc + len) S') : am_Nx p l e R s m args below meth c Q nL D cl z q n0 s0 pc S := by
  unfold ah_14 at hx
  split at hx
  · unfold at_14 at hm
    dsimp only at hm
    obtain ⟨rfl, rfl⟩ := of_decide_eq_true hm
    exact sx_i2 hx (fun K => lv_imul Cx.1.1.1 Cx.1.1.2.1 hd K) k
  · cases hx
theorem so_15 {len : Nat} {ins : Instr} {os : List Nat} {c0 : Int32} (Cx : am_Cx p l e R s m args below meth c Q cc nL ret ini D cl z C4 q Ts own Ms LK n0 s0 X) (hx : ah_15 os c0 X S = am_on S') (hm : at_15 LK ini ret z.2.1 Ms pc len ins os c0 = true) (hd : decode cc pc = .ok (ins, len)) (hR : S'.2.2.1 - n0 ≤ R.cells ∧ S'.2.2.2.1 - s0 ≤ R.slots) (k : am_Nx p l e R s m args below meth c Q nL D cl z q n0 s0 (pc + len) S') : am_Nx p l e R s m args below meth c Q nL D cl z q n0 s0 pc S := by
  unfold ah_15 at hx
  split at hx
  · unfold at_15 at hm
    dsimp only at hm
    obtain ⟨rfl, rfl⟩ := of_decide_eq_true hm
    exact sx_i2z hx (fun h K => lv_idiv Cx.1.1.1 Cx.1.1.2.1 hd h K) k
  · cases hx
theorem so_16 {len : Nat} {ins : Instr} {os : List Nat} {c0 : Int32} (Cx : am_Cx p l e R s m args below meth c Q cc nL ret ini D cl z C4 q Ts own Ms LK n0 s0 X) (hx : ah_16 os c0 X S = am_on S') (hm : at_16 LK ini ret z.2.1 Ms pc len ins os c0 = true) (hd : decode cc pc = .ok (ins, len)) (hR : S'.2.2.1 - n0 ≤ R.cells ∧ S'.2.2.2.1 - s0 ≤ R.slots) (k : am_Nx p l e R s m args below meth c Q nL D cl z q n0 s0 (pc + len) S') : am_Nx p l e R s m args below meth c Q nL D cl z q n0 s0 pc S := by
  unfold ah_16 at hx
  split at hx
  · unfold at_16 at hm
    dsimp only at hm
    obtain ⟨rfl, rfl⟩ := of_decide_eq_true hm
    exact sx_i2z hx (fun h K => lv_irem Cx.1.1.1 Cx.1.1.2.1 hd h K) k
  · cases hx
theorem so_17 {len : Nat} {ins : Instr} {os : List Nat} {c0 : Int32} (Cx : am_Cx p l e R s m args below meth c Q cc nL ret ini D cl z C4 q Ts own Ms LK n0 s0 X) (hx : ah_17 os c0 X S = am_on S') (hm : at_17 LK ini ret z.2.1 Ms pc len ins os c0 = true) (hd : decode cc pc = .ok (ins, len)) (hR : S'.2.2.1 - n0 ≤ R.cells ∧ S'.2.2.2.1 - s0 ≤ R.slots) (k : am_Nx p l e R s m args below meth c Q nL D cl z q n0 s0 (pc + len) S') : am_Nx p l e R s m args below meth c Q nL D cl z q n0 s0 pc S := by
  unfold ah_17 at hx
  split at hx
  · unfold at_17 at hm
    dsimp only at hm
    obtain ⟨rfl, rfl⟩ := of_decide_eq_true hm
    exact sx_i1 hx (fun K => lv_ineg Cx.1.1.1 Cx.1.1.2.1 hd K) k
  · cases hx
theorem so_18 {len : Nat} {ins : Instr} {os : List Nat} {c0 : Int32} (Cx : am_Cx p l e R s m args below meth c Q cc nL ret ini D cl z C4 q Ts own Ms LK n0 s0 X) (hx : ah_18 os c0 X S = am_on S') (hm : at_18 LK ini ret z.2.1 Ms pc len ins os c0 = true) (hd : decode cc pc = .ok (ins, len)) (hR : S'.2.2.1 - n0 ≤ R.cells ∧ S'.2.2.2.1 - s0 ≤ R.slots) (k : am_Nx p l e R s m args below meth c Q nL D cl z q n0 s0 (pc + len) S') : am_Nx p l e R s m args below meth c Q nL D cl z q n0 s0 pc S := by
  unfold ah_18 at hx
  split at hx
  · unfold at_18 at hm
    dsimp only at hm
    obtain ⟨rfl, rfl⟩ := of_decide_eq_true hm
    exact sx_i2 hx (fun K => lv_iand Cx.1.1.1 Cx.1.1.2.1 hd K) k
  · cases hx
theorem so_19 {len : Nat} {ins : Instr} {os : List Nat} {c0 : Int32} (Cx : am_Cx p l e R s m args below meth c Q cc nL ret ini D cl z C4 q Ts own Ms LK n0 s0 X) (hx : ah_19 os c0 X S = am_on S') (hm : at_19 LK ini ret z.2.1 Ms pc len ins os c0 = true) (hd : decode cc pc = .ok (ins, len)) (hR : S'.2.2.1 - n0 ≤ R.cells ∧ S'.2.2.2.1 - s0 ≤ R.slots) (k : am_Nx p l e R s m args below meth c Q nL D cl z q n0 s0 (pc + len) S') : am_Nx p l e R s m args below meth c Q nL D cl z q n0 s0 pc S := by
  unfold ah_19 at hx
  split at hx
  · unfold at_19 at hm
    dsimp only at hm
    obtain ⟨rfl, rfl⟩ := of_decide_eq_true hm
    exact sx_i2 hx (fun K => lv_ior Cx.1.1.1 Cx.1.1.2.1 hd K) k
  · cases hx
theorem so_20 {len : Nat} {ins : Instr} {os : List Nat} {c0 : Int32} (Cx : am_Cx p l e R s m args below meth c Q cc nL ret ini D cl z C4 q Ts own Ms LK n0 s0 X) (hx : ah_20 os c0 X S = am_on S') (hm : at_20 LK ini ret z.2.1 Ms pc len ins os c0 = true) (hd : decode cc pc = .ok (ins, len)) (hR : S'.2.2.1 - n0 ≤ R.cells ∧ S'.2.2.2.1 - s0 ≤ R.slots) (k : am_Nx p l e R s m args below meth c Q nL D cl z q n0 s0 (pc + len) S') : am_Nx p l e R s m args below meth c Q nL D cl z q n0 s0 pc S := by
  unfold ah_20 at hx
  split at hx
  · unfold at_20 at hm
    dsimp only at hm
    obtain ⟨rfl, rfl⟩ := of_decide_eq_true hm
    exact sx_i2 hx (fun K => lv_ixor Cx.1.1.1 Cx.1.1.2.1 hd K) k
  · cases hx
theorem so_21 {len : Nat} {ins : Instr} {os : List Nat} {c0 : Int32} (Cx : am_Cx p l e R s m args below meth c Q cc nL ret ini D cl z C4 q Ts own Ms LK n0 s0 X) (hx : ah_21 os c0 X S = am_on S') (hm : at_21 LK ini ret z.2.1 Ms pc len ins os c0 = true) (hd : decode cc pc = .ok (ins, len)) (hR : S'.2.2.1 - n0 ≤ R.cells ∧ S'.2.2.2.1 - s0 ≤ R.slots) (k : am_Nx p l e R s m args below meth c Q nL D cl z q n0 s0 (pc + len) S') : am_Nx p l e R s m args below meth c Q nL D cl z q n0 s0 pc S := by
  unfold ah_21 at hx
  split at hx
  · unfold at_21 at hm
    dsimp only at hm
    obtain ⟨rfl, rfl⟩ := of_decide_eq_true hm
    exact sx_i2 hx (fun K => lv_ishl Cx.1.1.1 Cx.1.1.2.1 hd K) k
  · cases hx
theorem so_22 {len : Nat} {ins : Instr} {os : List Nat} {c0 : Int32} (Cx : am_Cx p l e R s m args below meth c Q cc nL ret ini D cl z C4 q Ts own Ms LK n0 s0 X) (hx : ah_22 os c0 X S = am_on S') (hm : at_22 LK ini ret z.2.1 Ms pc len ins os c0 = true) (hd : decode cc pc = .ok (ins, len)) (hR : S'.2.2.1 - n0 ≤ R.cells ∧ S'.2.2.2.1 - s0 ≤ R.slots) (k : am_Nx p l e R s m args below meth c Q nL D cl z q n0 s0 (pc + len) S') : am_Nx p l e R s m args below meth c Q nL D cl z q n0 s0 pc S := by
  unfold ah_22 at hx
  split at hx
  · unfold at_22 at hm
    dsimp only at hm
    obtain ⟨rfl, rfl⟩ := of_decide_eq_true hm
    exact sx_i2 hx (fun K => lv_ishr Cx.1.1.1 Cx.1.1.2.1 hd K) k
  · cases hx
theorem so_23 {len : Nat} {ins : Instr} {os : List Nat} {c0 : Int32} (Cx : am_Cx p l e R s m args below meth c Q cc nL ret ini D cl z C4 q Ts own Ms LK n0 s0 X) (hx : ah_23 os c0 X S = am_on S') (hm : at_23 LK ini ret z.2.1 Ms pc len ins os c0 = true) (hd : decode cc pc = .ok (ins, len)) (hR : S'.2.2.1 - n0 ≤ R.cells ∧ S'.2.2.2.1 - s0 ≤ R.slots) (k : am_Nx p l e R s m args below meth c Q nL D cl z q n0 s0 (pc + len) S') : am_Nx p l e R s m args below meth c Q nL D cl z q n0 s0 pc S := by
  unfold ah_23 at hx
  split at hx
  · unfold at_23 at hm
    dsimp only at hm
    obtain ⟨rfl, rfl⟩ := of_decide_eq_true hm
    exact sx_l2 hx (fun K => lv_ladd Cx.1.1.1 Cx.1.1.2.1 hd K) k
  · cases hx
theorem so_24 {len : Nat} {ins : Instr} {os : List Nat} {c0 : Int32} (Cx : am_Cx p l e R s m args below meth c Q cc nL ret ini D cl z C4 q Ts own Ms LK n0 s0 X) (hx : ah_24 os c0 X S = am_on S') (hm : at_24 LK ini ret z.2.1 Ms pc len ins os c0 = true) (hd : decode cc pc = .ok (ins, len)) (hR : S'.2.2.1 - n0 ≤ R.cells ∧ S'.2.2.2.1 - s0 ≤ R.slots) (k : am_Nx p l e R s m args below meth c Q nL D cl z q n0 s0 (pc + len) S') : am_Nx p l e R s m args below meth c Q nL D cl z q n0 s0 pc S := by
  unfold ah_24 at hx
  split at hx
  · unfold at_24 at hm
    dsimp only at hm
    obtain ⟨rfl, rfl⟩ := of_decide_eq_true hm
    exact sx_l2 hx (fun K => lv_lmul Cx.1.1.1 Cx.1.1.2.1 hd K) k
  · cases hx
theorem so_25 {len : Nat} {ins : Instr} {os : List Nat} {c0 : Int32} (Cx : am_Cx p l e R s m args below meth c Q cc nL ret ini D cl z C4 q Ts own Ms LK n0 s0 X) (hx : ah_25 os c0 X S = am_on S') (hm : at_25 LK ini ret z.2.1 Ms pc len ins os c0 = true) (hd : decode cc pc = .ok (ins, len)) (hR : S'.2.2.1 - n0 ≤ R.cells ∧ S'.2.2.2.1 - s0 ≤ R.slots) (k : am_Nx p l e R s m args below meth c Q nL D cl z q n0 s0 (pc + len) S') : am_Nx p l e R s m args below meth c Q nL D cl z q n0 s0 pc S := by
  unfold ah_25 at hx
  split at hx
  · unfold at_25 at hm
    dsimp only at hm
    obtain ⟨rfl, rfl⟩ := of_decide_eq_true hm
    obtain ⟨ls, x, y, st, h, rfl, rfl⟩ := iv_lc hx
    intro H locs lsC hl hP hS hn hs
    exact W.lcmp Cx.1.1.1 Cx.1.1.2.1 hd (k H locs lsC hl hP hS hn hs)
  · cases hx
theorem so_26 {len : Nat} {ins : Instr} {os : List Nat} {c0 : Int32} (Cx : am_Cx p l e R s m args below meth c Q cc nL ret ini D cl z C4 q Ts own Ms LK n0 s0 X) (hx : ah_26 os c0 X S = am_on S') (hm : at_26 LK ini ret z.2.1 Ms pc len ins os c0 = true) (hd : decode cc pc = .ok (ins, len)) (hR : S'.2.2.1 - n0 ≤ R.cells ∧ S'.2.2.2.1 - s0 ≤ R.slots) (k : am_Nx p l e R s m args below meth c Q nL D cl z q n0 s0 (pc + len) S') : am_Nx p l e R s m args below meth c Q nL D cl z q n0 s0 pc S := by
  unfold ah_26 at hx
  split at hx
  · unfold at_26 at hm
    dsimp only at hm
    obtain ⟨rfl, rfl⟩ := of_decide_eq_true hm
    obtain ⟨ls, x, st, h, rfl, rfl⟩ := iv_il hx
    intro H locs lsC hl hP hS hn hs
    exact lv_i2l Cx.1.1.1 Cx.1.1.2.1 hd rfl (k H locs lsC hl hP hS hn hs)
  · cases hx
theorem so_27 {len : Nat} {ins : Instr} {os : List Nat} {c0 : Int32} (Cx : am_Cx p l e R s m args below meth c Q cc nL ret ini D cl z C4 q Ts own Ms LK n0 s0 X) (hx : ah_27 os c0 X S = am_on S') (hm : at_27 LK ini ret z.2.1 Ms pc len ins os c0 = true) (hd : decode cc pc = .ok (ins, len)) (hR : S'.2.2.1 - n0 ≤ R.cells ∧ S'.2.2.2.1 - s0 ≤ R.slots) (k : am_Nx p l e R s m args below meth c Q nL D cl z q n0 s0 (pc + len) S') : am_Nx p l e R s m args below meth c Q nL D cl z q n0 s0 pc S := by
  unfold ah_27 at hx
  split at hx
  · unfold at_27 at hm
    dsimp only at hm
    obtain ⟨rfl, rfl⟩ := of_decide_eq_true hm
    obtain ⟨ls, x, st, h, rfl, rfl⟩ := iv_li hx
    intro H locs lsC hl hP hS hn hs
    exact lv_l2i Cx.1.1.1 Cx.1.1.2.1 hd rfl (k H locs lsC hl hP hS hn hs)
  · cases hx
theorem so_28 {len : Nat} {ins : Instr} {os : List Nat} {c0 : Int32} (Cx : am_Cx p l e R s m args below meth c Q cc nL ret ini D cl z C4 q Ts own Ms LK n0 s0 X) (hx : ah_28 os c0 X S = am_on S') (hm : at_28 LK ini ret z.2.1 Ms pc len ins os c0 = true) (hd : decode cc pc = .ok (ins, len)) (hR : S'.2.2.1 - n0 ≤ R.cells ∧ S'.2.2.2.1 - s0 ≤ R.slots) (k : am_Nx p l e R s m args below meth c Q nL D cl z q n0 s0 (pc + len) S') : am_Nx p l e R s m args below meth c Q nL D cl z q n0 s0 pc S := by
  unfold ah_28 at hx
  split at hx
  · unfold at_28 at hm
    dsimp only at hm
    obtain ⟨rfl, rfl⟩ := of_decide_eq_true hm
    exact sx_i1 hx (fun K => lv_i2b Cx.1.1.1 Cx.1.1.2.1 hd rfl K) k
  · cases hx
theorem so_29 {len : Nat} {ins : Instr} {os : List Nat} {c0 : Int32} (Cx : am_Cx p l e R s m args below meth c Q cc nL ret ini D cl z C4 q Ts own Ms LK n0 s0 X) (hx : ah_29 os c0 X S = am_on S') (hm : at_29 LK ini ret z.2.1 Ms pc len ins os c0 = true) (hd : decode cc pc = .ok (ins, len)) (hR : S'.2.2.1 - n0 ≤ R.cells ∧ S'.2.2.2.1 - s0 ≤ R.slots) (k : am_Nx p l e R s m args below meth c Q nL D cl z q n0 s0 (pc + len) S') : am_Nx p l e R s m args below meth c Q nL D cl z q n0 s0 pc S := by
  unfold ah_29 at hx
  split at hx
  · unfold at_29 at hm
    dsimp only at hm
    obtain ⟨rfl, rfl⟩ := of_decide_eq_true hm
    exact sx_i1 hx (fun K => lv_i2c Cx.1.1.1 Cx.1.1.2.1 hd rfl K) k
  · cases hx
theorem so_30 {len : Nat} {ins : Instr} {os : List Nat} {c0 : Int32} (Cx : am_Cx p l e R s m args below meth c Q cc nL ret ini D cl z C4 q Ts own Ms LK n0 s0 X) (hx : ah_30 os c0 X S = am_on S') (hm : at_30 LK ini ret z.2.1 Ms pc len ins os c0 = true) (hd : decode cc pc = .ok (ins, len)) (hR : S'.2.2.1 - n0 ≤ R.cells ∧ S'.2.2.2.1 - s0 ≤ R.slots) (k : am_Nx p l e R s m args below meth c Q nL D cl z q n0 s0 (pc + len) S') : am_Nx p l e R s m args below meth c Q nL D cl z q n0 s0 pc S := by
  unfold ah_30 at hx
  split at hx
  · unfold at_30 at hm
    dsimp only at hm
    obtain ⟨rfl, rfl⟩ := of_decide_eq_true hm
    obtain ⟨ls, x, st, h, rfl, rfl, h1⟩ := iv_dup hx
    intro H locs lsC hl hP hS hn hs
    exact lv_dup Cx.1.1.1 Cx.1.1.2.1 hd (am_c1_of h1) (k H locs lsC hl hP hS hn hs)
  · cases hx
theorem so_31 {len : Nat} {ins : Instr} {os : List Nat} {c0 : Int32} (Cx : am_Cx p l e R s m args below meth c Q cc nL ret ini D cl z C4 q Ts own Ms LK n0 s0 X) (hx : ah_31 os c0 X S = am_on S') (hm : at_31 LK ini ret z.2.1 Ms pc len ins os c0 = true) (hd : decode cc pc = .ok (ins, len)) (hR : S'.2.2.1 - n0 ≤ R.cells ∧ S'.2.2.2.1 - s0 ≤ R.slots) (k : am_Nx p l e R s m args below meth c Q nL D cl z q n0 s0 (pc + len) S') : am_Nx p l e R s m args below meth c Q nL D cl z q n0 s0 pc S := by
  unfold ah_31 at hx
  split at hx
  · unfold at_31 at hm
    dsimp only at hm
    obtain ⟨rfl, rfl⟩ := of_decide_eq_true hm
    obtain ⟨ls, x, st, h, rfl, rfl, h1⟩ := iv_pop hx
    intro H locs lsC hl hP hS hn hs
    exact lv_pop Cx.1.1.1 Cx.1.1.2.1 hd (am_c1_of h1) (k H locs lsC hl hP hS hn hs)
  · cases hx
theorem so_32 {len : Nat} {ins : Instr} {os : List Nat} {c0 : Int32} (Cx : am_Cx p l e R s m args below meth c Q cc nL ret ini D cl z C4 q Ts own Ms LK n0 s0 X) (hx : ah_32 os c0 X S = am_on S') (hm : at_32 LK ini ret z.2.1 Ms pc len ins os c0 = true) (hd : decode cc pc = .ok (ins, len)) (hR : S'.2.2.1 - n0 ≤ R.cells ∧ S'.2.2.2.1 - s0 ≤ R.slots) (k : am_Nx p l e R s m args below meth c Q nL D cl z q n0 s0 (pc + len) S') : am_Nx p l e R s m args below meth c Q nL D cl z q n0 s0 pc S := by
  unfold ah_32 at hx
  split at hx
  · unfold at_32 at hm
    dsimp only at hm
    obtain ⟨rfl, rfl⟩ := of_decide_eq_true hm
    obtain ⟨ls, x, y, st, h, rfl, rfl, h1, h2⟩ := iv_dup2 hx
    intro H locs lsC hl hP hS hn hs
    exact lv_dup2_11 Cx.1.1.1 Cx.1.1.2.1 hd (am_c1_of h1) (am_c1_of h2) (k H locs lsC hl hP hS hn hs)
  · cases hx
theorem so_33 {len : Nat} {ins : Instr} {os : List Nat} {c0 : Int32} (Cx : am_Cx p l e R s m args below meth c Q cc nL ret ini D cl z C4 q Ts own Ms LK n0 s0 X) (hx : ah_33 os c0 X S = am_on S') (hm : at_33 LK ini ret z.2.1 Ms pc len ins os c0 = true) (hd : decode cc pc = .ok (ins, len)) (hR : S'.2.2.1 - n0 ≤ R.cells ∧ S'.2.2.2.1 - s0 ≤ R.slots) (k : am_Nx p l e R s m args below meth c Q nL D cl z q n0 s0 (pc + len) S') : am_Nx p l e R s m args below meth c Q nL D cl z q n0 s0 pc S := by
  unfold ah_33 at hx
  split at hx
  · unfold at_33 at hm
    dsimp only at hm
    rw [Bool.and_eq_true] at hm
    obtain ⟨rfl, rfl, h3⟩ := of_decide_eq_true hm.1
    refine sx_get Cx.1 hd (am_ct hm.2) (fun h a y hy => ?_) hx k
    cases hy
    unfold am_fv
    rw [h3]
    rfl
  · cases hx
theorem so_34 {len : Nat} {ins : Instr} {os : List Nat} {c0 : Int32} (Cx : am_Cx p l e R s m args below meth c Q cc nL ret ini D cl z C4 q Ts own Ms LK n0 s0 X) (hx : ah_34 os c0 X S = am_on S') (hm : at_34 LK ini ret z.2.1 Ms pc len ins os c0 = true) (hd : decode cc pc = .ok (ins, len)) (hR : S'.2.2.1 - n0 ≤ R.cells ∧ S'.2.2.2.1 - s0 ≤ R.slots) (k : am_Nx p l e R s m args below meth c Q nL D cl z q n0 s0 (pc + len) S') : am_Nx p l e R s m args below meth c Q nL D cl z q n0 s0 pc S := by
  unfold ah_34 at hx
  split at hx
  · unfold at_34 at hm
    dsimp only at hm
    rw [Bool.and_eq_true] at hm
    obtain ⟨rfl, rfl, h3⟩ := of_decide_eq_true hm.1
    refine sx_get Cx.1 hd (am_ct hm.2) (fun h a y hy => ?_) hx k
    rw [Option.map_eq_some_iff] at hy
    obtain ⟨b, hb, rfl⟩ := hy
    unfold am_fv
    rw [h3, hb, sx_fr Cx.1]
    rfl
  · cases hx
theorem so_35 {len : Nat} {ins : Instr} {os : List Nat} {c0 : Int32} (Cx : am_Cx p l e R s m args below meth c Q cc nL ret ini D cl z C4 q Ts own Ms LK n0 s0 X) (hx : ah_35 os c0 X S = am_on S') (hm : at_35 LK ini ret z.2.1 Ms pc len ins os c0 = true) (hd : decode cc pc = .ok (ins, len)) (hR : S'.2.2.1 - n0 ≤ R.cells ∧ S'.2.2.2.1 - s0 ≤ R.slots) (k : am_Nx p l e R s m args below meth c Q nL D cl z q n0 s0 (pc + len) S') : am_Nx p l e R s m args below meth c Q nL D cl z q n0 s0 pc S := by
  unfold ah_35 at hx
  split at hx
  · unfold at_35 at hm
    dsimp only at hm
    rw [Bool.and_eq_true] at hm
    obtain ⟨rfl, rfl, h3⟩ := of_decide_eq_true hm.1
    exact sx_putI Cx.1 hd (am_ct hm.2) h3 rfl (fun x _ => ⟨rfl, rfl⟩) hx k
  · cases hx
theorem so_36 {len : Nat} {ins : Instr} {os : List Nat} {c0 : Int32} (Cx : am_Cx p l e R s m args below meth c Q cc nL ret ini D cl z C4 q Ts own Ms LK n0 s0 X) (hx : ah_36 os c0 X S = am_on S') (hm : at_36 LK ini ret z.2.1 Ms pc len ins os c0 = true) (hd : decode cc pc = .ok (ins, len)) (hR : S'.2.2.1 - n0 ≤ R.cells ∧ S'.2.2.2.1 - s0 ≤ R.slots) (k : am_Nx p l e R s m args below meth c Q nL D cl z q n0 s0 (pc + len) S') : am_Nx p l e R s m args below meth c Q nL D cl z q n0 s0 pc S := by
  unfold ah_36 at hx
  split at hx
  · unfold at_36 at hm
    dsimp only at hm
    rw [Bool.and_eq_true] at hm
    obtain ⟨rfl, rfl, h3⟩ := of_decide_eq_true hm.1
    exact sx_putI Cx.1 hd (am_ct hm.2) h3 rfl (fun x hx => am_z1_of hx) hx k
  · cases hx
theorem so_37 {len : Nat} {ins : Instr} {os : List Nat} {c0 : Int32} (Cx : am_Cx p l e R s m args below meth c Q cc nL ret ini D cl z C4 q Ts own Ms LK n0 s0 X) (hx : ah_37 os c0 X S = am_on S') (hm : at_37 LK ini ret z.2.1 Ms pc len ins os c0 = true) (hd : decode cc pc = .ok (ins, len)) (hR : S'.2.2.1 - n0 ≤ R.cells ∧ S'.2.2.2.1 - s0 ≤ R.slots) (k : am_Nx p l e R s m args below meth c Q nL D cl z q n0 s0 (pc + len) S') : am_Nx p l e R s m args below meth c Q nL D cl z q n0 s0 pc S := by
  unfold ah_37 at hx
  split at hx
  · unfold at_37 at hm
    dsimp only at hm
    rw [Bool.and_eq_true] at hm
    obtain ⟨rfl, rfl, h3, h4⟩ := of_decide_eq_true hm.1
    exact sx_putR Cx.1 hd (am_ct hm.2) h3 h4 hx k
  · cases hx
theorem so_38 {len : Nat} {ins : Instr} {os : List Nat} {c0 : Int32} (Cx : am_Cx p l e R s m args below meth c Q cc nL ret ini D cl z C4 q Ts own Ms LK n0 s0 X) (hx : ah_38 os c0 X S = am_on S') (hm : at_38 LK ini ret z.2.1 Ms pc len ins os c0 = true) (hd : decode cc pc = .ok (ins, len)) (hR : S'.2.2.1 - n0 ≤ R.cells ∧ S'.2.2.2.1 - s0 ≤ R.slots) (k : am_Nx p l e R s m args below meth c Q nL D cl z q n0 s0 (pc + len) S') : am_Nx p l e R s m args below meth c Q nL D cl z q n0 s0 pc S := by
  unfold ah_38 at hx
  split at hx
  · unfold at_38 at hm
    dsimp only at hm
    obtain ⟨rfl, rfl⟩ := of_decide_eq_true hm
    exact sx_iald Cx.1 hd hx k
  · cases hx
theorem so_39 {len : Nat} {ins : Instr} {os : List Nat} {c0 : Int32} (Cx : am_Cx p l e R s m args below meth c Q cc nL ret ini D cl z C4 q Ts own Ms LK n0 s0 X) (hx : ah_39 os c0 X S = am_on S') (hm : at_39 LK ini ret z.2.1 Ms pc len ins os c0 = true) (hd : decode cc pc = .ok (ins, len)) (hR : S'.2.2.1 - n0 ≤ R.cells ∧ S'.2.2.2.1 - s0 ≤ R.slots) (k : am_Nx p l e R s m args below meth c Q nL D cl z q n0 s0 (pc + len) S') : am_Nx p l e R s m args below meth c Q nL D cl z q n0 s0 pc S := by
  unfold ah_39 at hx
  split at hx
  · unfold at_39 at hm
    dsimp only at hm
    obtain ⟨rfl, rfl⟩ := of_decide_eq_true hm
    exact sx_bald Cx.1 hd hx k
  · cases hx
theorem so_40 {len : Nat} {ins : Instr} {os : List Nat} {c0 : Int32} (Cx : am_Cx p l e R s m args below meth c Q cc nL ret ini D cl z C4 q Ts own Ms LK n0 s0 X) (hx : ah_40 os c0 X S = am_on S') (hm : at_40 LK ini ret z.2.1 Ms pc len ins os c0 = true) (hd : decode cc pc = .ok (ins, len)) (hR : S'.2.2.1 - n0 ≤ R.cells ∧ S'.2.2.2.1 - s0 ≤ R.slots) (k : am_Nx p l e R s m args below meth c Q nL D cl z q n0 s0 (pc + len) S') : am_Nx p l e R s m args below meth c Q nL D cl z q n0 s0 pc S := by
  unfold ah_40 at hx
  split at hx
  · unfold at_40 at hm
    dsimp only at hm
    obtain ⟨rfl, rfl⟩ := of_decide_eq_true hm
    exact sx_zald Cx.1 hd hx k
  · cases hx
theorem so_41 {len : Nat} {ins : Instr} {os : List Nat} {c0 : Int32} (Cx : am_Cx p l e R s m args below meth c Q cc nL ret ini D cl z C4 q Ts own Ms LK n0 s0 X) (hx : ah_41 os c0 X S = am_on S') (hm : at_41 LK ini ret z.2.1 Ms pc len ins os c0 = true) (hd : decode cc pc = .ok (ins, len)) (hR : S'.2.2.1 - n0 ≤ R.cells ∧ S'.2.2.2.1 - s0 ≤ R.slots) (k : am_Nx p l e R s m args below meth c Q nL D cl z q n0 s0 (pc + len) S') : am_Nx p l e R s m args below meth c Q nL D cl z q n0 s0 pc S := by
  unfold ah_41 at hx
  split at hx
  · unfold at_41 at hm
    dsimp only at hm
    obtain ⟨rfl, rfl⟩ := of_decide_eq_true hm
    exact sx_lald Cx.1 hd hx k
  · cases hx
theorem so_42 {len : Nat} {ins : Instr} {os : List Nat} {c0 : Int32} (Cx : am_Cx p l e R s m args below meth c Q cc nL ret ini D cl z C4 q Ts own Ms LK n0 s0 X) (hx : ah_42 os c0 X S = am_on S') (hm : at_42 LK ini ret z.2.1 Ms pc len ins os c0 = true) (hd : decode cc pc = .ok (ins, len)) (hR : S'.2.2.1 - n0 ≤ R.cells ∧ S'.2.2.2.1 - s0 ≤ R.slots) (k : am_Nx p l e R s m args below meth c Q nL D cl z q n0 s0 (pc + len) S') : am_Nx p l e R s m args below meth c Q nL D cl z q n0 s0 pc S := by
  unfold ah_42 at hx
  split at hx
  · unfold at_42 at hm
    dsimp only at hm
    obtain ⟨rfl, rfl⟩ := of_decide_eq_true hm
    exact sx_aald Cx.1 hd hx k
  · cases hx
theorem so_43 {len : Nat} {ins : Instr} {os : List Nat} {c0 : Int32} (Cx : am_Cx p l e R s m args below meth c Q cc nL ret ini D cl z C4 q Ts own Ms LK n0 s0 X) (hx : ah_43 os c0 X S = am_on S') (hm : at_43 LK ini ret z.2.1 Ms pc len ins os c0 = true) (hd : decode cc pc = .ok (ins, len)) (hR : S'.2.2.1 - n0 ≤ R.cells ∧ S'.2.2.2.1 - s0 ≤ R.slots) (k : am_Nx p l e R s m args below meth c Q nL D cl z q n0 s0 (pc + len) S') : am_Nx p l e R s m args below meth c Q nL D cl z q n0 s0 pc S := by
  unfold ah_43 at hx
  split at hx
  · unfold at_43 at hm
    dsimp only at hm
    obtain ⟨rfl, rfl⟩ := of_decide_eq_true hm
    exact sx_iast Cx.1 hd hx k
  · cases hx
theorem so_44 {len : Nat} {ins : Instr} {os : List Nat} {c0 : Int32} (Cx : am_Cx p l e R s m args below meth c Q cc nL ret ini D cl z C4 q Ts own Ms LK n0 s0 X) (hx : ah_44 os c0 X S = am_on S') (hm : at_44 LK ini ret z.2.1 Ms pc len ins os c0 = true) (hd : decode cc pc = .ok (ins, len)) (hR : S'.2.2.1 - n0 ≤ R.cells ∧ S'.2.2.2.1 - s0 ≤ R.slots) (k : am_Nx p l e R s m args below meth c Q nL D cl z q n0 s0 (pc + len) S') : am_Nx p l e R s m args below meth c Q nL D cl z q n0 s0 pc S := by
  unfold ah_44 at hx
  split at hx
  · unfold at_44 at hm
    dsimp only at hm
    obtain ⟨rfl, rfl⟩ := of_decide_eq_true hm
    exact sx_bast Cx.1 hd hx k
  · cases hx
theorem so_45 {len : Nat} {ins : Instr} {os : List Nat} {c0 : Int32} (Cx : am_Cx p l e R s m args below meth c Q cc nL ret ini D cl z C4 q Ts own Ms LK n0 s0 X) (hx : ah_45 os c0 X S = am_on S') (hm : at_45 LK ini ret z.2.1 Ms pc len ins os c0 = true) (hd : decode cc pc = .ok (ins, len)) (hR : S'.2.2.1 - n0 ≤ R.cells ∧ S'.2.2.2.1 - s0 ≤ R.slots) (k : am_Nx p l e R s m args below meth c Q nL D cl z q n0 s0 (pc + len) S') : am_Nx p l e R s m args below meth c Q nL D cl z q n0 s0 pc S := by
  unfold ah_45 at hx
  split at hx
  · unfold at_45 at hm
    dsimp only at hm
    obtain ⟨rfl, rfl⟩ := of_decide_eq_true hm
    exact sx_zast Cx.1 hd hx k
  · cases hx
theorem so_46 {len : Nat} {ins : Instr} {os : List Nat} {c0 : Int32} (Cx : am_Cx p l e R s m args below meth c Q cc nL ret ini D cl z C4 q Ts own Ms LK n0 s0 X) (hx : ah_46 os c0 X S = am_on S') (hm : at_46 LK ini ret z.2.1 Ms pc len ins os c0 = true) (hd : decode cc pc = .ok (ins, len)) (hR : S'.2.2.1 - n0 ≤ R.cells ∧ S'.2.2.2.1 - s0 ≤ R.slots) (k : am_Nx p l e R s m args below meth c Q nL D cl z q n0 s0 (pc + len) S') : am_Nx p l e R s m args below meth c Q nL D cl z q n0 s0 pc S := by
  unfold ah_46 at hx
  split at hx
  · unfold at_46 at hm
    dsimp only at hm
    obtain ⟨rfl, rfl⟩ := of_decide_eq_true hm
    exact sx_last Cx.1 hd hx k
  · cases hx
theorem so_47 {len : Nat} {ins : Instr} {os : List Nat} {c0 : Int32} (Cx : am_Cx p l e R s m args below meth c Q cc nL ret ini D cl z C4 q Ts own Ms LK n0 s0 X) (hx : ah_47 os c0 X S = am_on S') (hm : at_47 LK ini ret z.2.1 Ms pc len ins os c0 = true) (hd : decode cc pc = .ok (ins, len)) (hR : S'.2.2.1 - n0 ≤ R.cells ∧ S'.2.2.2.1 - s0 ≤ R.slots) (k : am_Nx p l e R s m args below meth c Q nL D cl z q n0 s0 (pc + len) S') : am_Nx p l e R s m args below meth c Q nL D cl z q n0 s0 pc S := by
  unfold ah_47 at hx
  split at hx
  · unfold at_47 at hm
    dsimp only at hm
    obtain ⟨rfl, rfl, rfl⟩ := of_decide_eq_true hm
    obtain ⟨r, hr, hC⟩ := Cx.2.2.1
    exact sx_aast Cx.1 hr hC hd hx k
  · cases hx
theorem so_53 {len : Nat} {ins : Instr} {os : List Nat} {c0 : Int32} (Cx : am_Cx p l e R s m args below meth c Q cc nL ret ini D cl z C4 q Ts own Ms LK n0 s0 X) (hx : ah_53 os c0 X S = am_on S') (hm : at_53 LK ini ret z.2.1 Ms pc len ins os c0 = true) (hd : decode cc pc = .ok (ins, len)) (hR : S'.2.2.1 - n0 ≤ R.cells ∧ S'.2.2.2.1 - s0 ≤ R.slots) (k : am_Nx p l e R s m args below meth c Q nL D cl z q n0 s0 (pc + len) S') : am_Nx p l e R s m args below meth c Q nL D cl z q n0 s0 pc S := by
  unfold ah_53 at hx
  split at hx
  · unfold at_53 at hm
    dsimp only at hm
    rw [Bool.and_eq_true] at hm
    obtain ⟨rfl, rfl⟩ := of_decide_eq_true hm.1
    exact sx_push hx (fun K => lv_ldc2 Cx.1.1.1 Cx.1.1.2.1 Cx.1.1.2.2.2 (Cx.1.2.1 _ (Cx.1.2.2.2.2.2.1 _ (am_ct hm.2))) hd K) k
  · cases hx
theorem so_60 {len : Nat} {ins : Instr} {os : List Nat} {c0 : Int32} (Cx : am_Cx p l e R s m args below meth c Q cc nL ret ini D cl z C4 q Ts own Ms LK n0 s0 X) (hx : ah_60 os c0 X S = am_on S') (hm : at_60 LK ini ret z.2.1 Ms pc len ins os c0 = true) (hd : decode cc pc = .ok (ins, len)) (hR : S'.2.2.1 - n0 ≤ R.cells ∧ S'.2.2.2.1 - s0 ≤ R.slots) (k : am_Nx p l e R s m args below meth c Q nL D cl z q n0 s0 (pc + len) S') : am_Nx p l e R s m args below meth c Q nL D cl z q n0 s0 pc S := by
  unfold ah_60 at hx
  split at hx
  · unfold at_60 at hm
    dsimp only at hm
    rw [Bool.and_eq_true] at hm
    obtain ⟨rfl, rfl⟩ := of_decide_eq_true hm.1
    exact sx_new Cx.1 hd (am_ct hm.2) hx hR k
  · cases hx
theorem so_61 {len : Nat} {ins : Instr} {os : List Nat} {c0 : Int32} (Cx : am_Cx p l e R s m args below meth c Q cc nL ret ini D cl z C4 q Ts own Ms LK n0 s0 X) (hx : ah_61 os c0 X S = am_on S') (hm : at_61 LK ini ret z.2.1 Ms pc len ins os c0 = true) (hd : decode cc pc = .ok (ins, len)) (hR : S'.2.2.1 - n0 ≤ R.cells ∧ S'.2.2.2.1 - s0 ≤ R.slots) (k : am_Nx p l e R s m args below meth c Q nL D cl z q n0 s0 (pc + len) S') : am_Nx p l e R s m args below meth c Q nL D cl z q n0 s0 pc S := by
  unfold ah_61 at hx
  split at hx
  · unfold at_61 at hm
    dsimp only at hm
    obtain ⟨h1, rfl⟩ := of_decide_eq_true hm
    exact sx_nar Cx.1 Cx.2.1 hd h1 hx hR k
  · cases hx
theorem so_62 {len : Nat} {ins : Instr} {os : List Nat} {c0 : Int32} (Cx : am_Cx p l e R s m args below meth c Q cc nL ret ini D cl z C4 q Ts own Ms LK n0 s0 X) (hx : ah_62 os c0 X S = am_on S') (hm : at_62 LK ini ret z.2.1 Ms pc len ins os c0 = true) (hd : decode cc pc = .ok (ins, len)) (hR : S'.2.2.1 - n0 ≤ R.cells ∧ S'.2.2.2.1 - s0 ≤ R.slots) (k : am_Nx p l e R s m args below meth c Q nL D cl z q n0 s0 (pc + len) S') : am_Nx p l e R s m args below meth c Q nL D cl z q n0 s0 pc S := by
  unfold ah_62 at hx
  split at hx
  · unfold at_62 at hm
    dsimp only at hm
    rw [Bool.and_eq_true] at hm
    obtain ⟨rfl, rfl⟩ := of_decide_eq_true hm.1
    obtain ⟨r, hr, hC⟩ := Cx.2.2.1
    obtain ⟨r2, hr2, hw⟩ := Cx.1.2.2.2.2.2.1 _ (am_ct hm.2)
    have e : r2 = r := Option.some.inj (hr2.symm.trans hr)
    subst e
    rw [hC] at hw
    exact sx_anar Cx.1 hw Cx.2.2.2.1 hd hx hR k
  · cases hx
theorem so_63 {len : Nat} {ins : Instr} {os : List Nat} {c0 : Int32} (Cx : am_Cx p l e R s m args below meth c Q cc nL ret ini D cl z C4 q Ts own Ms LK n0 s0 X) (hx : ah_63 os c0 X S = am_on S') (hm : at_63 LK ini ret z.2.1 Ms pc len ins os c0 = true) (hd : decode cc pc = .ok (ins, len)) (hR : S'.2.2.1 - n0 ≤ R.cells ∧ S'.2.2.2.1 - s0 ≤ R.slots) (k : am_Nx p l e R s m args below meth c Q nL D cl z q n0 s0 (pc + len) S') : am_Nx p l e R s m args below meth c Q nL D cl z q n0 s0 pc S := by
  unfold ah_63 at hx
  split at hx
  · unfold at_63 at hm
    dsimp only at hm
    rw [Bool.and_eq_true] at hm
    obtain ⟨rfl, rfl⟩ := of_decide_eq_true hm.1
    exact sx_oin Cx.1 hd (am_ct hm.2) hx k
  · cases hx
theorem so_64 {len : Nat} {ins : Instr} {os : List Nat} {c0 : Int32} (Cx : am_Cx p l e R s m args below meth c Q cc nL ret ini D cl z C4 q Ts own Ms LK n0 s0 X) (hx : ah_64 os c0 X S = am_on S') (hm : at_64 LK ini ret z.2.1 Ms pc len ins os c0 = true) (hd : decode cc pc = .ok (ins, len)) (hR : S'.2.2.1 - n0 ≤ R.cells ∧ S'.2.2.2.1 - s0 ≤ R.slots) (k : am_Nx p l e R s m args below meth c Q nL D cl z q n0 s0 (pc + len) S') : am_Nx p l e R s m args below meth c Q nL D cl z q n0 s0 pc S := by
  unfold ah_64 at hx
  split at hx
  · unfold at_64 at hm
    dsimp only at hm
    rw [Bool.and_eq_true] at hm
    obtain ⟨rfl, rfl⟩ := of_decide_eq_true hm.1
    have e : S.2.2.1 ≤ S'.2.2.1 ∧ S.2.2.2.1 ≤ S'.2.2.2.1 := ⟨(kl_mm hx).2.1, (kl_mm hx).2.2⟩
    exact sx_max Cx.1 hd (am_ct hm.2) ⟨by omega, by omega⟩ hx k
  · cases hx
theorem so_65 {len : Nat} {ins : Instr} {os : List Nat} {c0 : Int32} (Cx : am_Cx p l e R s m args below meth c Q cc nL ret ini D cl z C4 q Ts own Ms LK n0 s0 X) (hx : ah_65 os c0 X S = am_on S') (hm : at_65 LK ini ret z.2.1 Ms pc len ins os c0 = true) (hd : decode cc pc = .ok (ins, len)) (hR : S'.2.2.1 - n0 ≤ R.cells ∧ S'.2.2.2.1 - s0 ≤ R.slots) (k : am_Nx p l e R s m args below meth c Q nL D cl z q n0 s0 (pc + len) S') : am_Nx p l e R s m args below meth c Q nL D cl z q n0 s0 pc S := by
  unfold ah_65 at hx
  split at hx
  · unfold at_65 at hm
    dsimp only at hm
    rw [Bool.and_eq_true] at hm
    obtain ⟨rfl, rfl⟩ := of_decide_eq_true hm.1
    have e : S.2.2.1 ≤ S'.2.2.1 ∧ S.2.2.2.1 ≤ S'.2.2.2.1 := ⟨(kl_mm hx).2.1, (kl_mm hx).2.2⟩
    exact sx_min Cx.1 hd (am_ct hm.2) ⟨by omega, by omega⟩ hx k
  · cases hx
theorem so_66 {len : Nat} {ins : Instr} {os : List Nat} {c0 : Int32} (Cx : am_Cx p l e R s m args below meth c Q cc nL ret ini D cl z C4 q Ts own Ms LK n0 s0 X) (hx : ah_66 os c0 X S = am_on S') (hm : at_66 LK ini ret z.2.1 Ms pc len ins os c0 = true) (hd : decode cc pc = .ok (ins, len)) (hR : S'.2.2.1 - n0 ≤ R.cells ∧ S'.2.2.2.1 - s0 ≤ R.slots) (k : am_Nx p l e R s m args below meth c Q nL D cl z q n0 s0 (pc + len) S') : am_Nx p l e R s m args below meth c Q nL D cl z q n0 s0 pc S := by
  unfold ah_66 at hx
  split at hx
  · unfold at_66 at hm
    dsimp only at hm
    rw [Bool.and_eq_true] at hm
    obtain ⟨rfl, rfl⟩ := of_decide_eq_true hm.1
    exact sx_cp Cx.1 hd (am_ct hm.2) hx k
  · cases hx
theorem so_71 {len : Nat} {ins : Instr} {os : List Nat} {c0 : Int32} (Cx : am_Cx p l e R s m args below meth c Q cc nL ret ini D cl z C4 q Ts own Ms LK n0 s0 X) (hx : ah_71 os c0 X S = am_on S') (hm : at_71 LK ini ret z.2.1 Ms pc len ins os c0 = true) (hd : decode cc pc = .ok (ins, len)) (hR : S'.2.2.1 - n0 ≤ R.cells ∧ S'.2.2.2.1 - s0 ≤ R.slots) (k : am_Nx p l e R s m args below meth c Q nL D cl z q n0 s0 (pc + len) S') : am_Nx p l e R s m args below meth c Q nL D cl z q n0 s0 pc S := by
  unfold ah_71 at hx
  split at hx
  · unfold at_71 at hm
    dsimp only at hm
    rw [Bool.and_eq_true] at hm
    obtain ⟨rfl, rfl⟩ := of_decide_eq_true hm.1
    obtain ⟨x1, x2, x3⟩ := Cx.2.2.2.2.1 (am_ct hm.2)
    exact sx_xa Cx.1 x1 x2 x3 hd hx k
  · cases hx
theorem so_72 {len : Nat} {ins : Instr} {os : List Nat} {c0 : Int32} (Cx : am_Cx p l e R s m args below meth c Q cc nL ret ini D cl z C4 q Ts own Ms LK n0 s0 X) (hx : ah_72 os c0 X S = am_on S') (hm : at_72 LK ini ret z.2.1 Ms pc len ins os c0 = true) (hd : decode cc pc = .ok (ins, len)) (hR : S'.2.2.1 - n0 ≤ R.cells ∧ S'.2.2.2.1 - s0 ≤ R.slots) (k : am_Nx p l e R s m args below meth c Q nL D cl z q n0 s0 (pc + len) S') : am_Nx p l e R s m args below meth c Q nL D cl z q n0 s0 pc S := by
  unfold ah_72 at hx
  split at hx
  · unfold at_72 at hm
    dsimp only at hm
    rw [Bool.and_eq_true] at hm
    obtain ⟨rfl, rfl⟩ := of_decide_eq_true hm.1
    obtain ⟨x1, x2, x3⟩ := Cx.2.2.2.2.1 (am_ct hm.2)
    exact sx_xl Cx.1 x1 x2 x3 hd hx k
  · cases hx
end
