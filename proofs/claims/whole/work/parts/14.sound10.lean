/-! stretches, methods, calls -/
def am_tm (op : Nat) : Bool := [49, 50, 51, 52, 54, 55, 56, 57, 58, 59, 73].contains op
/-- a stretch is the bytecode's -/
def am_chk (LK : List am_L) (ini : Bool) (ret : Option FieldType) (tf : Nat → Nat → FieldType) (Ms : Nat → am_M) (cc : ByteArray) : Nat → List am_I → Bool
  | _, [] => false
  | pc, i :: is => if i.1 = 0 then decide (i.2.1 = [pc]) else match decode cc pc with
    | .ok (ins, len) => am_mt LK ini ret tf Ms pc len ins i && (am_tm i.1 || am_chk LK ini ret tf Ms cc (pc + len) is)
    | _ => false
def am_bd (R : Room) (n0 s0 : Nat) (h : am_H) : Prop := h.1 - n0 ≤ R.cells ∧ h.2.1 - s0 ≤ R.slots
section
variable {p : Program} {l : Launch} {e : Env} {R : Room} {s : State} {m : MethodId} {args : Array Value} {below : List Frame} {meth : Method} {c : Code} {Q : State → Prop} {cc : ByteArray} {nL : Nat} {ret : Option FieldType} {ini : Bool} {D : va_G} {cl : List vw_C} {z : am_Z} {C4 : String} {q : am_Q} {Ts : List Cond} {own : String} {Ms : Nat → am_M} {LK : List am_L} {n0 s0 pc : Nat} {S S' : am_S} {SP : State → Prop} {X : am_X}
/-- what must hold of what a stretch comes to -/
def am_Ko (p : Program) (l : Launch) (e : Env) (R : Room) (s : State) (m : MethodId) (args : Array Value) (below : List Frame) (meth : Method) (c : Code) (Q : State → Prop) (nL : Nat) (D : va_G) (cl : List vw_C) (z : am_Z) (C4 : String) (q : am_Q) (SP : State → Prop) (Ts : List Cond) (Ms : Nat → am_M) (n0 s0 : Nat) : am_R → Prop
  | some (.inr (.inl (t, S'))) => am_Nx p l e R s m args below meth c Q nL D cl z q n0 s0 t S' ∧ am_bd R n0 s0 S'.2.2
  | some (.inr (.inr (.inl (r, h)))) => Q = MQ below (am_Qc D cl z q r h) args s (h.1 - n0) (h.2.1 - s0) (fun a => z.2.2.2 ≤ a) ∧ am_bd R n0 s0 h
  | some (.inr (.inr (.inr (mx, as, t, S')))) => ∃ d r h1, am_Mt l D cl z C4 q SP Ts (Ms mx) d as S'.2.2 r h1 ∧ (S'.2.2.1 ≤ h1.1 ∧ S'.2.2.2.1 ≤ h1.2.1) ∧ (d + 9 ≤ R.frames ∧ 100 * d + 600 ≤ R.locals) ∧ am_bd R n0 s0 h1 ∧ am_Nx p l e R s m args below meth c Q nL D cl z q n0 s0 t (S'.1, am_st r S'.2.1, h1)
  | _ => False
theorem am_b_mono {is : List am_I} {r : am_RR} (hx : am_b X is S = some r) : S.2.2.1 ≤ (am_rn r).1 ∧ S.2.2.2.1 ≤ (am_rn r).2 := by
  induction is generalizing S with
  | nil => cases hx
  | cons i is ih =>
    unfold am_b at hx
    cases h : am_x X i S with
    | none => rw [h] at hx; cases hx
    | some y =>
      rw [h] at hx
      obtain ⟨k, hk⟩ := kl_x h
      match y, hk, hx with
      | .inl S', hk, hx =>
        have := ih hx
        have h1 := hk.2
        unfold am_rn at h1
        dsimp only at h1
        omega
      | .inr (.inl _), hk, hx => cases hx; exact hk.2
      | .inr (.inr (.inl _)), hk, hx => cases hx; exact hk.2
      | .inr (.inr (.inr _)), hk, hx => cases hx; exact hk.2
theorem am_Ko_bd {r : am_RR} (h : am_Ko p l e R s m args below meth c Q nL D cl z C4 q SP Ts Ms n0 s0 (some r)) : (am_rn r).1 - n0 ≤ R.cells ∧ (am_rn r).2 - s0 ≤ R.slots := by
  match r, h with
  | .inr (.inl (t, S')), h => exact h.2
  | .inr (.inr (.inl (r, h'))), h => exact h.2
  | .inr (.inr (.inr (mx, as, t, S'))), ⟨d, r, h1, _, h2, _, h3, _⟩ =>
    unfold am_bd at h3
    show S'.2.2.1 - n0 ≤ R.cells ∧ S'.2.2.2.1 - s0 ≤ R.slots
    omega
theorem am_bs (Cx : am_Cx p l e R s m args below meth c Q cc nL ret ini D cl z C4 q Ts own Ms LK n0 s0 X) (hg : ∀ w ∈ Ts, (w.onTables && w.keeps) = true ∨ ∃ ty, w = .arrayClass ty) (hSP : am_SP z SP) (hsp : SP s) : ∀ (is : List am_I) (pc : Nat) (S : am_S), am_chk LK ini ret z.2.1 Ms cc pc is = true → am_Ko p l e R s m args below meth c Q nL D cl z C4 q SP Ts Ms n0 s0 (am_b X is S) → am_Nx p l e R s m args below meth c Q nL D cl z q n0 s0 pc S := by
  intro is
  induction is with
  | nil => intro pc S h; cases h
  | cons i is ih =>
    intro pc S hc hk
    unfold am_chk at hc
    split at hc
    · rename_i h0
      have h1 := of_decide_eq_true hc
      obtain ⟨op, os, c0⟩ := i
      dsimp only at h0 h1
      subst h0
      subst h1
      exact hk.1
    · cases hd : decode cc pc with
      | error _ => rw [hd] at hc; cases hc
      | ok y =>
        obtain ⟨ins, len⟩ := y
        rw [hd] at hc
        dsimp only at hc
        rw [Bool.and_eq_true, Bool.or_eq_true] at hc
        obtain ⟨hm, ht⟩ := hc
        unfold am_b at hk
        cases hx : am_x X i S with
        | none => rw [hx] at hk; exact hk.elim
        | some y =>
          rw [hx] at hk
          match y, hx, hk with
          | .inl S', hx, hk =>
            dsimp only at hk
            have hbd : S'.2.2.1 - n0 ≤ R.cells ∧ S'.2.2.2.1 - s0 ≤ R.slots := by
              cases hb : am_b X is S' with
              | none => rw [hb] at hk; exact hk.elim
              | some y =>
                rw [hb] at hk
                have h1 := am_Ko_bd hk
                have h2 := am_b_mono hb
                omega
            refine am_x_on Cx hx hm hd hbd (ih (pc + len) S' ?_ hk)
            rcases ht with ht | ht
            · exfalso
              obtain ⟨op, os, c0⟩ := i
              unfold am_x at hx
              unfold am_tm at ht
              simp only [List.contains_eq_mem, List.mem_cons, List.not_mem_nil, or_false, decide_eq_true_eq] at ht
              dsimp only at hx ht
              rcases ht with rfl | rfl | rfl | rfl | rfl | rfl | rfl | rfl | rfl | rfl | rfl
              · exact nomatch (@kk_49 S X os c0 _ hx)
              · exact nomatch (@kk_50 S X os c0 _ hx)
              · exact nomatch (@kk_51 S X os c0 _ hx)
              · exact nomatch (@kk_52 S X os c0 _ hx)
              · exact nomatch (@kk_54 S X os c0 _ hx)
              · exact nomatch (@kk_55 S X os c0 _ hx)
              · exact nomatch (@kk_56 S X os c0 _ hx)
              · exact nomatch (@kk_57 S X os c0 _ hx)
              · exact nomatch (@kk_58 S X os c0 _ hx)
              · exact nomatch (@kk_59 S X os c0 _ hx)
              · exact nomatch (@kk_73 S X os c0 _ hx)
            · exact ht
          | .inr (.inl (t, S')), hx, hk => exact am_x_ju Cx hx hm hd hk.1
          | .inr (.inr (.inl (r, h'))), hx, hk => exact am_x_re Cx hk.1 hx hm hd
          | .inr (.inr (.inr (mx, as, t, S'))), hx, ⟨d, r, h1, k1, k2, k3, k4, k5⟩ => exact am_x_ca Cx hg hSP hsp hx hm hd k1 k2 k3 k4 k5
theorem am_go_mono {call : Nat → List Value → am_H → am_A} (hc : ∀ m as h r h', call m as h = some (r, h') → h.1 ≤ h'.1 ∧ h.2.1 ≤ h'.2.1) {k : Nat → List am_I} : ∀ (n pc : Nat) (S : am_S) (r : Option Value) (h' : am_H), am_go X call k n pc S = some (r, h') → S.2.2.1 ≤ h'.1 ∧ S.2.2.2.1 ≤ h'.2.1 := by
  intro n
  induction n with
  | zero => intro pc S r h' hx; cases hx
  | succ n ih =>
    intro pc S r h' hx
    unfold am_go at hx
    cases hb : am_b X (k pc) S with
    | none => rw [hb] at hx; cases hx
    | some y =>
      rw [hb] at hx
      have hm := am_b_mono hb
      match y, hm, hx with
      | .inl _, hm, hx => cases hx
      | .inr (.inl (t, S')), hm, hx =>
        have := ih t S' r h' hx
        unfold am_rn at hm
        dsimp only at hm
        omega
      | .inr (.inr (.inl _)), hm, hx => cases hx; exact hm
      | .inr (.inr (.inr (mx, as, t, (ls, st, h)))), hm, hx =>
        dsimp only at hx
        cases hcl : call mx as h with
        | none => rw [hcl] at hx; cases hx
        | some y =>
          obtain ⟨r1, h1⟩ := y
          rw [hcl] at hx
          have h2 := ih t _ r h' hx
          have h3 := hc _ _ _ _ _ hcl
          unfold am_rn at hm
          dsimp only at hm h2
          omega
theorem am_call_mono {P : am_P} : ∀ (d n m : Nat) (as : List Value) (h : am_H) (r : Option Value) (h' : am_H), am_call P d n m as h = some (r, h') → h.1 ≤ h'.1 ∧ h.2.1 ≤ h'.2.1 := by
  intro d
  induction d with
  | zero => intro n m as h r h' hx; cases hx
  | succ d ih =>
    intro n m as h r h' hx
    unfold am_call at hx
    split at hx
    · exact am_go_mono (fun m as h r h' => ih n m as h r h') n 0 _ r h' hx
    · cases hx
/-- a method's walk is the real machine's -/
theorem am_gs {k : Nat → List am_I} {call : Nat → List Value → am_H → am_A} {d : Nat} {r : Option Value} {h' : am_H} (Cx : am_Cx p l e R s m args below meth c (MQ below (am_Qc D cl z q r h') args s (h'.1 - n0) (h'.2.1 - s0) (fun a => z.2.2.2 ≤ a)) cc nL ret ini D cl z C4 q Ts own Ms LK n0 s0 X) (hg : ∀ w ∈ Ts, (w.onTables && w.keeps) = true ∨ ∃ ty, w = .arrayClass ty) (hSP : am_SP z SP) (hsp : SP s) (hk : ∀ pc, k pc = [] ∨ am_chk LK ini ret z.2.1 Ms cc pc (k pc) = true) (hmo : ∀ m as h r h', call m as h = some (r, h') → h.1 ≤ h'.1 ∧ h.2.1 ≤ h'.2.1) (hcall : ∀ m as h r h', call m as h = some (r, h') → am_Mt l D cl z C4 q SP Ts (Ms m) d as h r h') (hR : d + 9 ≤ R.frames ∧ 100 * d + 600 ≤ R.locals) (hbd : am_bd R n0 s0 h') :
    ∀ (n pc : Nat) (S : am_S), am_go X call k n pc S = some (r, h') → am_Nx p l e R s m args below meth c (MQ below (am_Qc D cl z q r h') args s (h'.1 - n0) (h'.2.1 - s0) (fun a => z.2.2.2 ≤ a)) nL D cl z q n0 s0 pc S := by
  intro n
  induction n with
  | zero => intro pc S hx; cases hx
  | succ n ih =>
    intro pc S hx
    unfold am_go at hx
    rcases hk pc with h0 | h0
    · rw [h0] at hx
      cases hx
    · refine am_bs Cx hg hSP hsp (k pc) pc S h0 ?_
      unfold am_bd at hbd
      cases hb : am_b X (k pc) S with
      | none => rw [hb] at hx; cases hx
      | some y =>
        rw [hb] at hx
        match y, hx with
        | .inl _, hx => cases hx
        | .inr (.inl (t, S')), hx =>
          have h1 := am_go_mono hmo n t S' r h' hx
          exact ⟨ih t S' hx, by omega, by omega⟩
        | .inr (.inr (.inl (r2, h2))), hx =>
          cases hx
          exact ⟨rfl, hbd⟩
        | .inr (.inr (.inr (mx, as, t, (ls, st, h)))), hx =>
          dsimp only at hx
          cases hcl : call mx as h with
          | none => rw [hcl] at hx; cases hx
          | some y =>
            obtain ⟨r1, h1⟩ := y
            rw [hcl] at hx
            have h2 := am_go_mono hmo n t _ r h' hx
            have h3 := hmo _ _ _ _ _ hcl
            dsimp only at h2
            exact ⟨d, r1, h1, hcall _ _ _ _ _ hcl, h3, hR, ⟨by omega, by omega⟩, ih t _ hx⟩
end
