theorem am_ent_at {q : am_Q} : ∀ (as : List Value) (k : Nat) (x : Value), (am_ent as)[k]? = some x → x ≠ .null → (lg_sl (as.map (am_v q)))[k]? = some (.val (am_v q x))
  | [], k, x, h, _ => by simp [am_ent] at h
  | y :: l, k, x, h, hn => by
    have h2 : ∀ y : Value, y.category = 1 → am_ent (y :: l) = y :: am_ent l → (am_ent (y :: l))[k]? = some x → (lg_sl ((y :: l).map (am_v q)))[k]? = some (.val (am_v q x)) := by
      intro y hc e h
      rw [e] at h
      have e2 : lg_sl ((y :: l).map (am_v q)) = .val (am_v q y) :: lg_sl (l.map (am_v q)) := by
        simp [lg_sl, am_v_cat, hc]
      rw [e2]
      cases k with
      | zero => simp at h ⊢; rw [h]
      | succ k => simp at h ⊢; exact am_ent_at l k x h hn
    have h3 : ∀ y : Value, y.category = 2 → am_ent (y :: l) = y :: .null :: am_ent l → (am_ent (y :: l))[k]? = some x → (lg_sl ((y :: l).map (am_v q)))[k]? = some (.val (am_v q x)) := by
      intro y hc e h
      rw [e] at h
      have e2 : lg_sl ((y :: l).map (am_v q)) = .val (am_v q y) :: .second :: lg_sl (l.map (am_v q)) := by
        simp [lg_sl, am_v_cat, hc]
      rw [e2]
      match k, h with
      | 0, h => simp at h ⊢; rw [h]
      | 1, h => simp at h; exact absurd h.symm hn
      | k + 2, h => simp at h ⊢; exact am_ent_at l k x h hn
    cases y with
    | long y => exact h3 _ rfl rfl h
    | double y => exact h3 _ rfl rfl h
    | int y => exact h2 _ rfl rfl h
    | float y => exact h2 _ rfl rfl h
    | null => exact h2 _ rfl rfl h
    | ref y => exact h2 _ rfl rfl h
    | retAddr y => exact h2 _ rfl rfl h
theorem am_ent_len {q : am_Q} : ∀ (as : List Value), (lg_sl (as.map (am_v q))).length = (am_ent as).length
  | [] => rfl
  | y :: l => by
    have ih := am_ent_len (q := q) l
    have e : lg_sl ((y :: l).map (am_v q)) = (if (am_v q y).category = 2 then [.val (am_v q y), .second] else [.val (am_v q y)]) ++ lg_sl (l.map (am_v q)) := by simp [lg_sl]
    rw [e, am_v_cat, List.length_append, ih]
    cases y <;> simp [am_ent, Value.category] <;> omega
theorem am_lv_ent {q : am_Q} {as : List Value} {nL : Nat} (h : (am_ent as).length ≤ nL) : am_lv q ((lg_sl (as.map (am_v q)) ++ List.replicate (nL - (lg_sl (as.map (am_v q))).length) Slot.unset).toArray) nL (am_ls as nL) := by
  have hl := lv_entry (as.map (am_v q)) (n := nL) (by rw [am_ent_len]; exact h)
  refine ⟨by unfold am_ls; simp; omega, hl.1, hl.2.1, fun k x hx hn => ?_⟩
  unfold am_ls at hx
  have hk : k < (am_ent as).length := by
    rcases Nat.lt_or_ge k (am_ent as).length with h1 | h1
    · exact h1
    · rw [List.getElem?_append_right h1] at hx
      have := List.mem_of_getElem? hx
      exact absurd (List.mem_replicate.mp this).2 hn
  rw [List.getElem?_append_left hk] at hx
  rw [List.getElem?_toArray, List.getElem?_append_left (by rw [am_ent_len]; exact hk)]
  exact am_ent_at as k x hx hn
/-- a method of the program is the bytecode's -/
def am_pg (cl : List vw_C) (Ts : List Cond) (tf : Nat → Nat → FieldType) (Ms : Nat → am_M) (P : am_P) (LKf : Nat → List am_L) (m : Nat) : Prop := plainName (Ms m).1.cls = true ∧ (P m).1 = (Ms m).2.2.1 ∧ (∀ t ∈ LKf m, am_lk cl Ts (Ms m).1.cls Ms t) ∧ (∀ pc, (P m).2 pc = [] ∨ am_chk (LKf m) (decide ((Ms m).1.name = "<init>")) (Ms m).2.2.2.1 tf Ms (Ms m).2.1 pc ((P m).2 pc) = true) ∧ (17, 0, 0, 0) ∉ LKf m
/-- the text constants' instructions -/
def am_StrS (l : Launch) (D : va_G) (cl : List vw_C) (z : am_Z) (C4 : String) (q : am_Q) (Ts : List Cond) (Ms : Nat → am_M) (SP : State → Prop) (X : am_X) : Prop := ∀ (p : Program) (e : Env) (R : Room) (s : State) (m : MethodId) (args : Array Value) (below : List Frame) (meth : Method) (c : Code) (Q : State → Prop) (cc : ByteArray) (nL : Nat) (ret : Option FieldType) (ini : Bool) (own : String) (LK : List am_L) (n0 s0 : Nat), am_Fx p R s m args meth c cc nL ret ini D cl z C4 q Ts own Ms LK n0 → SP s → ∀ (i : am_I) (pc len : Nat) (ins : Instr) (S S' : am_S), (i.1 = 67 ∨ i.1 = 68 ∨ i.1 = 69 ∨ i.1 = 70) → am_x X i S = am_on S' → am_mt LK ini ret z.2.1 Ms pc len ins i = true → decode cc pc = .ok (ins, len) → S'.2.2.1 - n0 ≤ R.cells ∧ S'.2.2.2.1 - s0 ≤ R.slots → am_Nx p l e R s m args below meth c Q nL D cl z q n0 s0 (pc + len) S' → am_Nx p l e R s m args below meth c Q nL D cl z q n0 s0 pc S
/-- what all walks stand on -/
def am_St (l : Launch) (D : va_G) (cl : List vw_C) (z : am_Z) (C4 : String) (q : am_Q) (Ts : List Cond) (Ms : Nat → am_M) (SP : State → Prop) (X : am_X) : Prop := q.2.1 = z.2.2.2 ∧ am_tb cl z Ts ∧ (∀ ty, ty = .int ∨ ty = .byte ∨ ty = .boolean ∨ ty = .long → Cond.arrayClass ty ∈ Ts) ∧ (∃ r, cl[am_c4]? = some r ∧ r.1 = C4) ∧ (∀ U, SP U → va_AO C4 U) ∧ (∀ w ∈ Ts, (w.onTables && w.keeps) = true ∨ ∃ ty, w = .arrayClass ty) ∧ am_SP z SP ∧ am_StrS l D cl z C4 q Ts Ms SP X
theorem am_go_nil {X : am_X} {call : Nat → List Value → am_H → am_A} {k : Nat → List am_I} {n : Nat} {S : am_S} (h : k 0 = []) : am_go X call k n 0 S = none := by
  cases n with
  | zero => rfl
  | succ n =>
    unfold am_go
    rw [h]
    rfl
set_option maxHeartbeats 1000000 in
/-- every call of ours is the real machine's -/
theorem am_call_sound {l : Launch} {D : va_G} {cl : List vw_C} {z : am_Z} {C4 : String} {q : am_Q} {Ts : List Cond} {Ms : Nat → am_M} {SP : State → Prop} {P : am_P} {LKf : Nat → List am_L} (hSt : am_St l D cl z C4 q Ts Ms SP am_X0) (hpg : ∀ m, (P m).2 0 ≠ [] → am_pg cl Ts z.2.1 Ms P LKf m) : ∀ (d n m : Nat) (as : List Value) (h : am_H) (r : Option Value) (h' : am_H), am_call P d n m as h = some (r, h') → am_Mt l D cl z C4 q SP Ts (Ms m) d as h r h' := by
  intro d
  induction d with
  | zero => intro n m as h r h' hx; cases hx
  | succ d ih =>
    intro n m as h r h' hx
    have hmono := am_call_mono (d + 1) n m as h r h' hx
    unfold am_call at hx
    split at hx
    · rename_i hlen
      have hne : (P m).2 0 ≠ [] := fun h0 => by rw [am_go_nil h0] at hx; cases hx
      obtain ⟨hpn, hnl, hlk, hchk, h17⟩ := hpg m hne
      obtain ⟨hq, htb, hwa, hC4, hao, hg, hSP, hstr⟩ := hSt
      unfold am_Mt
      refine Met.ofW (cc := (Ms m).2.1) (maxL := (Ms m).2.2.1) (ret := (Ms m).2.2.2.1) hpn rfl ?_
      intro p e s mi args below meth c s₁ B hml hv
      obtain ⟨rfl, hsz, hP, hK, hsp⟩ := hv
      have hts : ∀ w ∈ Ts, w.before _ s = true := fun w hw => atoms_spec (ws := .code (Ms m).1 (Ms m).2.1 (Ms m).2.2.1 (Ms m).2.2.2.1 :: Ts) B.pre w (List.mem_cons_of_mem _ hw)
      rw [hnl] at hx hlen
      have F : am_Fx p (headSpec (.code (Ms m).1 (Ms m).2.1 (Ms m).2.2.1 (Ms m).2.2.2.1 :: Ts) (am_rm (d + 1) (h'.1 - h.1) (h'.2.1 - h.2.1))).room s mi (as.map (am_v q)).toArray meth c (Ms m).2.1 (Ms m).2.2.1 (Ms m).2.2.2.1 (decide ((Ms m).1.name = "<init>")) D cl z C4 q Ts (Ms m).1.cls Ms (LKf m) h.1 := by
        refine ⟨⟨B.exec, B.bytes, hml, findClass_of_methodNamed B.named⟩, hts, hK, hq, htb, hlk, hsz, B.returns, B.notSynchronized, fun hi => ?_, ?_, ?_⟩
        · have h1 := (name_of_methodNamed B.named B.method).1
          rw [h1]
          exact of_decide_eq_true hi
        · show 8 ≤ d + 1 + 8
          omega
        · show 500 ≤ 100 * (d + 1) + 500
          omega
      have Cx : am_Cx p l e (headSpec (.code (Ms m).1 (Ms m).2.1 (Ms m).2.2.1 (Ms m).2.2.2.1 :: Ts) (am_rm (d + 1) (h'.1 - h.1) (h'.2.1 - h.2.1))).room s mi (as.map (am_v q)).toArray below meth c (MQ below (am_Qc D cl z q r h') (as.map (am_v q)).toArray s (h'.1 - h.1) (h'.2.1 - h.2.1) (fun a => z.2.2.2 ≤ a)) (Ms m).2.1 (Ms m).2.2.1 (Ms m).2.2.2.1 (decide ((Ms m).1.name = "<init>")) D cl z C4 q Ts (Ms m).1.cls Ms (LKf m) h.1 h.2.1 am_X0 :=
        ⟨F, hwa, hC4, hao s hsp, fun h => absurd h h17, hstr p e _ s mi _ below meth c _ _ _ _ _ _ _ _ _ F hsp⟩
      have hN := am_gs (d := d) Cx hg hSP hsp hchk (fun m as h r h' => am_call_mono d n m as h r h') (fun m as h r h' => ih n m as h r h') ⟨by show d + 9 ≤ d + 1 + 8; omega, by show 100 * d + 600 ≤ 100 * (d + 1) + 500; omega⟩ ⟨Nat.le_refl _, Nat.le_refl _⟩ n 0 _ hx
      have hW := hN s.heap [] _ (am_lv_ent hlen) hP va_S.rf (Nat.le_refl _) (Nat.le_refl _)
      rw [lg_entry_eq]
      dsimp only at hW
      rw [Nat.sub_self, Nat.sub_self] at hW
      exact hW
    · cases hx
