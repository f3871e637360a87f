section
variable {p : Program} {l : Launch} {e : Env} {R : Room} {s : State} {m : MethodId} {args : Array Value} {below : List Frame} {meth : Method} {c : Code} {Q : State → Prop} {cc : ByteArray} {nL : Nat} {ret : Option FieldType} {ini : Bool} {D : va_G} {cl : List vw_C} {z : am_Z} {C4 : String} {q : am_Q} {Ts : List Cond} {own : String} {Ms : Nat → am_M} {LK : List am_L} {n0 s0 pc : Nat} {S S' : am_S}
/-- the heap has no more cells than were made -/
theorem am_W_size {H : Heap} {locs : List Loc} {cells slots : Nat} {g : JFrame} (k : H.size ≤ s.heap.size + cells → W p l e R s m args below meth c H locs cells slots Q g) : W p l e R s m args below meth c H locs cells slots Q g := fun T hT X => k (by rw [← hT]; exact X.heapSize) T hT X
theorem am_size_ge {h : am_H} {H : Heap} {locs : List Loc} (hz : s.heap.size = z.2.2.2 + n0) (hP : va_P D cl (am_ws z h) H) (hS : va_S (fun a => z.2.2.2 ≤ a) s.heap H locs) (hn : n0 ≤ h.1) : z.2.2.2 + h.1 ≤ H.size := by
  rcases Nat.lt_or_ge n0 h.1 with h1 | h1
  · have h2 := (hP (h.1 - 1) _ (am_ws_get (h := h) (by omega))).lt
    dsimp only at h2
    omega
  · have := hS.1
    omega
theorem am_size {h : am_H} {H : Heap} {locs : List Loc} (hz : s.heap.size = z.2.2.2 + n0) (hP : va_P D cl (am_ws z h) H) (hS : va_S (fun a => z.2.2.2 ≤ a) s.heap H locs) (hn : n0 ≤ h.1) (hle : H.size ≤ s.heap.size + (h.1 - n0)) : H.size = z.2.2.2 + h.1 := by
  have := am_size_ge hz hP hS hn
  omega
/-- where a new cell lies -/
theorem am_fresh {h : am_H} {x : Nat} {ee : va_E} {H : Heap} (hP : va_P D cl (am_ws z h ++ [(x, ee)]) H) (hD : va_D (fun a => z.2.2.2 ≤ a) (am_ws z h ++ [(x, ee)])) (hle : H.size ≤ z.2.2.2 + (h.1 + 1)) : x = z.2.2.2 + h.1 := by
  have hlen : (am_ws z h).length = h.1 := by simp [am_ws]
  have hx : (am_ws z h ++ [(x, ee)])[h.1]? = some (x, ee) := by
    rw [List.getElem?_append_right (by omega), hlen, Nat.sub_self]
    rfl
  have h1 : x < H.size := (hP h.1 _ hx).lt
  have h2 : z.2.2.2 ≤ x := hD.2 h.1 _ hx
  rcases Nat.lt_or_ge (x - z.2.2.2) h.1 with h3 | h3
  · have hy : (am_ws z h ++ [(x, ee)])[x - z.2.2.2]? = some (z.2.2.2 + (x - z.2.2.2), am_ce z h (x - z.2.2.2)) := by
      rw [List.getElem?_append_left (by omega)]
      exact am_ws_get h3
    have := hD.1 _ _ _ _ hy hx (by dsimp only; omega)
    omega
  · omega
theorem am_A0 (F : am_Fx p R s m args meth c cc nL ret ini D cl z C4 q Ts own Ms LK n0) : ∀ a, s.heap.size ≤ a → (fun a => z.2.2.2 ≤ a) a := fun a h => by
  have := F.2.2.2.2.2.2.1
  show z.2.2.2 ≤ a
  omega
theorem am_dflt {ty : FieldType} (h : am_okT ty = true) : defaultValue ty = if am_isR ty then .null else .int 0 := by
  cases ty <;> first | rfl | cases h
theorem sx_new {ci f x0 : Nat} (F : am_Fx p R s m args meth c cc nL ret ini D cl z C4 q Ts own Ms LK n0) (hd : decode cc pc = .ok (.new x0, 3)) (hlk : (1, x0, ci, f) ∈ LK) (hx : am_new ci f S = am_on S') (hR : S'.2.2.1 - n0 ≤ R.cells ∧ S'.2.2.2.1 - s0 ≤ R.slots) (k : am_Nx p l e R s m args below meth c Q nL D cl z q n0 s0 (pc + 3) S') : am_Nx p l e R s m args below meth c Q nL D cl z q n0 s0 pc S := by
  obtain ⟨ls, st, n, sl, kd, r0, v, w⟩ := S
  cases hx
  obtain ⟨r, hr, hf, hw⟩ := F.2.2.2.2.2.1 _ hlk
  obtain ⟨hz, hin, hpd, hnm, hins, hini, hok⟩ := F.2.2.2.2.1 ci r hr
  intro H locs lsC hl hP hS hn hs
  have hs' : s0 ≤ sl := hs
  have hn' : n0 ≤ n := hn
  dsimp only at hR
  refine va_new (fs := (List.range (z.1 ci)).map (fun j => if am_isR (z.2.1 ci j) then .null else .int 0)) (C := r.1) (T := r.2.1) (N := r.2.2) (ci := ci) F.1.1 F.1.2.1 F.2.1 hin (z.2.1 ci) hpd F.1.2.2.2 (F.2.1 _ hw) (F.2.1 _ hins) (F.2.1 _ hini) F.2.2.1 hP (am_ws_D z _) hS (am_A0 F) hr ?_ (by dsimp only; omega) (by dsimp only; omega) hd (fun x H1 hP1 hD1 hS1 => ?_)
  · intro j hj
    rw [am_dflt (hok j hj)]
    simp [vp_V, hz, hj]
  · refine am_W_size (fun hle => ?_)
    have e1 : x = z.2.2.2 + n := am_fresh (h := (n, sl, kd, r0, v, w)) hP1 hD1 (by have := F.2.2.2.2.2.2.1; dsimp only at hle ⊢; omega)
    subst e1
    have hP2 := hP1
    rw [am_ws_push (h := (n, sl, kd, r0, v, w)) (h' := (n + 1, sl + f, am_uK kd n (.inl ci), (fun b => if b = n then fun _ => none else r0 b), (fun b => if b = n then fun _ => 0 else v b), w)) rfl ?_ ?_] at hP2
    · have K := k H1 locs lsC hl hP2 hS1 (by dsimp only; omega) (by dsimp only; omega)
      dsimp only at K
      rw [List.map_cons, sx_fr F, show n + 1 - n0 = n - n0 + 1 by omega, show sl + f - s0 = sl - s0 + r.2.2 by omega] at K
      exact K
    · rw [am_ce_ob (c := ci) (by simp [am_uK])]
      congr 2
      apply List.map_congr_left
      intro j hj
      simp only [am_fv, if_true, Option.map_none]
      rfl
    · intro b hb
      have hb : b ≠ n := Nat.ne_of_lt hb
      unfold am_ce am_arr am_fv am_uK
      simp only [if_neg hb]
theorem am_RA_eq {U : State} {cA cB : ClassId} {ty : FieldType} (h1 : va_RA U cA ty) (h2 : va_RA U cB ty) : cA = cB := by
  cases ty with
  | object C =>
    obtain ⟨_, _, -, -, -, h1⟩ := h1
    obtain ⟨_, _, -, -, -, h2⟩ := h2
    exact Option.some.inj (h1.symm.trans h2)
  | _ => exact Option.some.inj (Eq.trans (Eq.symm h1) h2)
theorem am_tys_new {U : State} {cA : ClassId} {ty : FieldType} {t : Nat} (hK : va_K D cl (am_tys z C4) U) (hK1 : va_K D cl (am_tys z C4 ++ [(cA, ty)]) U) (ht : (am_tys z C4)[t]? = some (z.2.2.1 t, ty)) : cA = z.2.2.1 t := by
  have h1 : (am_tys z C4 ++ [(cA, ty)])[5]? = some (cA, ty) := rfl
  exact am_RA_eq (hK1.2 5 _ h1).2 (hK.2 t _ ht).2
theorem sx_narK {t : Nat} {x : Int32} {ls st : List Value} {n sl : Nat} {kd : Nat → am_K} {r0 : Nat → Nat → Option Nat} {v : Nat → Nat → Int32} {w : Nat → Nat → Int64} {a0 : vp_A} {ty : FieldType} {len : Nat} {H1 : Heap} {locs : List Loc} {lsC : Array Slot} {cA : ClassId} {y : Nat} (F : am_Fx p R s m args meth c cc nL ret ini D cl z C4 q Ts own Ms LK n0) (ht : (am_tys z C4)[t]? = some (z.2.2.1 t, ty)) (ha0 : a0 = am_arr z (n, sl, kd, (fun b => if b = n then fun _ => none else r0 b), (fun b => if b = n then fun _ => 0 else v b), (fun b => if b = n then fun _ => 0 else w b)) n t x.toNatClampNeg)
    (k : am_Nx p l e R s m args below meth c Q nL D cl z q n0 s0 (pc + len) (ls, .ref n :: st, (n + 1, sl + x.toNatClampNeg, am_uK kd n (.inr (t, x.toNatClampNeg)), (fun b => if b = n then fun _ => none else r0 b), (fun b => if b = n then fun _ => 0 else v b), (fun b => if b = n then fun _ => 0 else w b)))) (hl : am_lv q lsC nL ls) (hn : n0 ≤ n) (hs : s0 ≤ sl)
    (hK1 : va_K D cl (am_tys z C4 ++ [(cA, ty)]) s) (hP1 : va_P D cl (am_ws z (n, sl, kd, r0, v, w) ++ [(y, .inl (cA, a0))]) H1) (hD1 : va_D (fun a => z.2.2.2 ≤ a) (am_ws z (n, sl, kd, r0, v, w) ++ [(y, .inl (cA, a0))])) (hS1 : va_S (fun a => z.2.2.2 ≤ a) s.heap H1 locs) :
    W p l e R s m args below meth c H1 locs (n - n0 + 1) (sl - s0 + x.toNatClampNeg) Q (F0 m (pc + len) lsC (.ref y :: st.map (am_v q))) := by
  refine am_W_size (fun hle => ?_)
  have e1 : y = z.2.2.2 + n := am_fresh (h := (n, sl, kd, r0, v, w)) hP1 hD1 (by have := F.2.2.2.2.2.2.1; dsimp only at hle ⊢; omega)
  subst e1
  have e2 := am_tys_new F.2.2.1 hK1 ht
  subst e2
  have hP2 := hP1
  rw [am_ws_push (h := (n, sl, kd, r0, v, w)) (h' := (n + 1, sl + x.toNatClampNeg, am_uK kd n (.inr (t, x.toNatClampNeg)), (fun b => if b = n then fun _ => none else r0 b), (fun b => if b = n then fun _ => 0 else v b), (fun b => if b = n then fun _ => 0 else w b))) rfl ?_ ?_] at hP2
  · have K := k H1 locs lsC hl hP2 hS1 (by dsimp only; omega) (by dsimp only; omega)
    dsimp only at K
    rw [List.map_cons, sx_fr F, show n + 1 - n0 = n - n0 + 1 by omega, show sl + x.toNatClampNeg - s0 = sl - s0 + x.toNatClampNeg by omega] at K
    exact K
  · rw [am_ce_ar (t := t) (n := x.toNatClampNeg) (by simp [am_uK]), ha0]
    rfl
  · intro b hb
    have hb : b ≠ n := Nat.ne_of_lt hb
    unfold am_ce am_arr am_fv am_uK
    simp only [if_neg hb]
theorem iv_nar {t : Nat} (hx : am_nar t S = am_on S') : ∃ ls x st n sl kd r v w, S = (ls, .int x :: st, (n, sl, kd, r, v, w)) ∧ S' = (ls, .ref n :: st, (n + 1, sl + x.toNatClampNeg, am_uK kd n (.inr (t, x.toNatClampNeg)), (fun b => if b = n then fun _ => none else r b), (fun b => if b = n then fun _ => 0 else v b), (fun b => if b = n then fun _ => 0 else w b))) ∧ ¬ x < 0 ∧ x.toNatClampNeg ≤ 100000 := by
  unfold am_nar at hx
  split at hx
  · rename_i ls x st n sl kd r v w
    split at hx
    · cases hx
    · rename_i e2
      cases hx
      simp only [Bool.or_eq_true, decide_eq_true_eq, not_or] at e2
      exact ⟨ls, x, st, n, sl, kd, r, v, w, rfl, rfl, e2.1, by omega⟩
  · cases hx
theorem sx_nar {t : Nat} {ins : Instr} (F : am_Fx p R s m args meth c cc nL ret ini D cl z C4 q Ts own Ms LK n0) (hw : ∀ ty, ty = .int ∨ ty = .byte ∨ ty = .boolean ∨ ty = .long → Cond.arrayClass ty ∈ Ts) (hd : decode cc pc = .ok (ins, 2)) (hi : t = 0 ∧ ins = .newarray .int ∨ t = 1 ∧ ins = .newarray .byte ∨ t = 2 ∧ ins = .newarray .boolean ∨ t = 3 ∧ ins = .newarray .long) (hx : am_nar t S = am_on S') (hR : S'.2.2.1 - n0 ≤ R.cells ∧ S'.2.2.2.1 - s0 ≤ R.slots) (k : am_Nx p l e R s m args below meth c Q nL D cl z q n0 s0 (pc + 2) S') : am_Nx p l e R s m args below meth c Q nL D cl z q n0 s0 pc S := by
  obtain ⟨ls, x, st, n, sl, kd, r0, v, w, rfl, rfl, h1, h2⟩ := iv_nar hx
  intro H locs lsC hl hP hS hn hs
  have hs' : s0 ≤ sl := hs
  have hn' : n0 ≤ n := hn
  dsimp only at hR
  rcases hi with ⟨rfl, rfl⟩ | ⟨rfl, rfl⟩ | ⟨rfl, rfl⟩ | ⟨rfl, rfl⟩
  · exact va_newa (atype := .int) (ty := .int) (a0 := (x.toNatClampNeg, .inl (fun _ => 0))) F.1.1 F.1.2.1 (F.2.1 _ (hw .int (by simp))) rfl F.2.2.1 hP (am_ws_D z _) hS (am_A0 F) (fun _ => rfl) h1 rfl (by show _ * 4 ≤ _; omega) (by dsimp only; omega) (by dsimp only; omega) hd (fun y cA H1 hK1 hP1 hD1 hS1 => sx_narK (t := 0) F rfl (by simp [am_arr]) k hl hn' hs' hK1 hP1 hD1 hS1)
  · exact va_newa (atype := .byte) (ty := .byte) (a0 := (x.toNatClampNeg, .inl (fun _ => 0))) F.1.1 F.1.2.1 (F.2.1 _ (hw .byte (by simp))) rfl F.2.2.1 hP (am_ws_D z _) hS (am_A0 F) (fun _ => rfl) h1 rfl (by show _ * 1 ≤ _; omega) (by dsimp only; omega) (by dsimp only; omega) hd (fun y cA H1 hK1 hP1 hD1 hS1 => sx_narK (t := 1) F rfl (by simp [am_arr]) k hl hn' hs' hK1 hP1 hD1 hS1)
  · exact va_newa (atype := .boolean) (ty := .boolean) (a0 := (x.toNatClampNeg, .inl (fun _ => 0))) F.1.1 F.1.2.1 (F.2.1 _ (hw .boolean (by simp))) rfl F.2.2.1 hP (am_ws_D z _) hS (am_A0 F) (fun _ => rfl) h1 rfl (by show _ * 1 ≤ _; omega) (by dsimp only; omega) (by dsimp only; omega) hd (fun y cA H1 hK1 hP1 hD1 hS1 => sx_narK (t := 2) F rfl (by simp [am_arr]) k hl hn' hs' hK1 hP1 hD1 hS1)
  · exact va_newa (atype := .long) (ty := .long) (a0 := (x.toNatClampNeg, .inr (.inl (fun _ => 0)))) F.1.1 F.1.2.1 (F.2.1 _ (hw .long (by simp))) rfl F.2.2.1 hP (am_ws_D z _) hS (am_A0 F) (fun _ => rfl) h1 rfl (by show _ * 8 ≤ _; omega) (by dsimp only; omega) (by dsimp only; omega) hd (fun y cA H1 hK1 hP1 hD1 hS1 => sx_narK (t := 3) F rfl (by simp [am_arr]) k hl hn' hs' hK1 hP1 hD1 hS1)
theorem sx_anar {x0 : Nat} (F : am_Fx p R s m args meth c cc nL ret ini D cl z C4 q Ts own Ms LK n0) (hw : Cond.classLink own x0 C4 ∈ Ts) (hao : va_AO C4 s) (hd : decode cc pc = .ok (.anewarray x0, 3)) (hx : am_nar 4 S = am_on S') (hR : S'.2.2.1 - n0 ≤ R.cells ∧ S'.2.2.2.1 - s0 ≤ R.slots) (k : am_Nx p l e R s m args below meth c Q nL D cl z q n0 s0 (pc + 3) S') : am_Nx p l e R s m args below meth c Q nL D cl z q n0 s0 pc S := by
  obtain ⟨ls, x, st, n, sl, kd, r0, v, w, rfl, rfl, h1, h2⟩ := iv_nar hx
  intro H locs lsC hl hP hS hn hs
  have hs' : s0 ≤ sl := hs
  have hn' : n0 ≤ n := hn
  dsimp only at hR
  exact va_newq F.1.1 F.1.2.1 F.1.2.2.2 (F.2.1 _ hw) hao F.2.2.1 hP (am_ws_D z _) hS (am_A0 F) h1 rfl (by omega) (by dsimp only; omega) (by dsimp only; omega) hd (fun y cA H1 hK1 hP1 hD1 hS1 => sx_narK (t := 4) F rfl (by simp [am_arr]) k hl hn' hs' hK1 hP1 hD1 hS1)
end
