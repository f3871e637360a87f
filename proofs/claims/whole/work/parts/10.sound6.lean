/-! answers and calls -/
def am_Pc (D : va_G) (cl : List vw_C) (z : am_Z) (C4 : String) (q : am_Q) (SP : State → Prop) (as : List Value) (h : am_H) : Array Value → State → Prop := va_Pc (as.map (am_v q)) (fun U => U.heap.size = z.2.2.2 + h.1 ∧ va_P D cl (am_ws z h) U.heap ∧ va_K D cl (am_tys z C4) U ∧ SP U)
def am_Qc (D : va_G) (cl : List vw_C) (z : am_Z) (q : am_Q) (r : Option Value) (h : am_H) : Array Value → State → Outcome → State → Prop := fun _ st oc t => oc = .returned (r.map (am_v q)) ∧ va_P D cl (am_ws z h) t.heap ∧ va_F (fun a => z.2.2.2 ≤ a) st t
/-- what the text constants are stays so while only our cells move -/
def am_SP (z : am_Z) (SP : State → Prop) : Prop := (∀ (s U : State) (H : Heap) (locs : List Loc), SP s → va_S (fun a => z.2.2.2 ≤ a) s.heap H locs → U.heap = H → s.WarmedH U.vm → SP U) ∧ ∀ (a : Array Value) (U : State) (g : JFrame) (mk : MethodId), SP U → SP (U.calling g mk a)
def am_rm (d mc ms : Nat) : Room := { frames := d + 8, cells := mc, slots := ms, locals := 100 * d + 500 }
section
variable {p : Program} {l : Launch} {e : Env} {R : Room} {s : State} {m : MethodId} {args : Array Value} {below : List Frame} {meth : Method} {c : Code} {Q : State → Prop} {cc : ByteArray} {nL : Nat} {ret : Option FieldType} {ini : Bool} {D : va_G} {cl : List vw_C} {z : am_Z} {C4 : String} {q : am_Q} {Ts : List Cond} {own : String} {Ms : Nat → am_M} {LK : List am_L} {n0 s0 pc : Nat} {S S' : am_S} {SP : State → Prop}
theorem sx_ri {ok : Int32 → Bool} {ty : FieldType} {r : Option Value} {h' : am_H} (F : am_Fx p R s m args meth c cc nL ret ini D cl z C4 q Ts own Ms LK n0) (hd : decode cc pc = .ok (.ireturn, 1)) (hr : ret = some ty) (hn : ∀ x, ok x = true → narrow ty (.int x) = .int x) (hx : am_ri S ok = am_re r h') : am_Nx p l e R s m args below meth c (MQ below (am_Qc D cl z q r h') args s (h'.1 - n0) (h'.2.1 - s0) (fun a => z.2.2.2 ≤ a)) nL D cl z q n0 s0 pc S := by
  unfold am_ri at hx
  split at hx
  · split at hx
    · rename_i ls x h e2
      cases hx
      intro H locs lsC hl hP hS hn0 hs
      exact W.zret F.1.1 F.1.2.1 (F.2.2.2.2.2.2.2.1.trans hr) (hn x e2) (fun t ht hW => ⟨rfl, by rw [ht]; exact hP, hS.F ht⟩) hS.2.2 hd F.2.2.2.2.2.2.2.2.1
    · cases hx
  · cases hx
theorem sx_rl {r : Option Value} {h' : am_H} (F : am_Fx p R s m args meth c cc nL ret ini D cl z C4 q Ts own Ms LK n0) (hd : decode cc pc = .ok (.lreturn, 1)) (hr : ret = some .long) (hx : am_rl S = am_re r h') : am_Nx p l e R s m args below meth c (MQ below (am_Qc D cl z q r h') args s (h'.1 - n0) (h'.2.1 - s0) (fun a => z.2.2.2 ≤ a)) nL D cl z q n0 s0 pc S := by
  unfold am_rl at hx
  split at hx
  · cases hx
    intro H locs lsC hl hP hS hn0 hs
    exact W.lret F.1.1 F.1.2.1 (F.2.2.2.2.2.2.2.1.trans hr) (fun t ht hW => ⟨rfl, by rw [ht]; exact hP, hS.F ht⟩) hS.2.2 hd F.2.2.2.2.2.2.2.2.1
  · cases hx
theorem sx_rv {r : Option Value} {h' : am_H} (F : am_Fx p R s m args meth c cc nL ret ini D cl z C4 q Ts own Ms LK n0) (hd : decode cc pc = .ok (.return_, 1)) (hr : ret = none) (hx : am_rv S = am_re r h') : am_Nx p l e R s m args below meth c (MQ below (am_Qc D cl z q r h') args s (h'.1 - n0) (h'.2.1 - s0) (fun a => z.2.2.2 ≤ a)) nL D cl z q n0 s0 pc S := by
  unfold am_rv at hx
  split at hx
  · cases hx
    intro H locs lsC hl hP hS hn0 hs
    exact W.vret F.1.1 F.1.2.1 (F.2.2.2.2.2.2.2.1.trans hr) (fun t ht hW => ⟨rfl, by rw [ht]; exact hP, hS.F ht⟩) hS.2.2 hd F.2.2.2.2.2.2.2.2.1
  · cases hx
theorem am_callrow {H : Heap} {locs : List Loc} {cells slots mc ms : Nat} {ls : Array Slot} {st0 rest : List Value} {a : Array Value} {r : Option Value} {h' : am_H} (hr : va_Run p l e R s m args below meth c H locs cells slots mc ms (F0 m pc ls st0) rest (am_Qc D cl z q r h' a) (fun a => z.2.2.2 ≤ a)) (hS : va_S (fun a => z.2.2.2 ≤ a) s.heap H locs)
    (kk : ∀ (H1 : Heap) (locs1 : List Loc), va_P D cl (am_ws z h') H1 → va_S (fun a => z.2.2.2 ≤ a) s.heap H1 locs1 → W p l e R s m args below meth c H1 locs1 (cells + mc) (slots + ms) Q (F0 m (pc + 3) ls ((r.map (am_v q)).toList ++ rest))) : W p l e R s m args below meth c H locs cells slots Q (F0 m pc ls st0) := by
  intro T hT X
  obtain ⟨v, st₀, t, T', L, h0, X', hL, e1, e2, ⟨hv, hp, hz, hk⟩, st⟩ := hr T hT X
  cases hv
  rw [h0] at hz hk
  obtain ⟨t2, a1, b1⟩ := kk T'.heap (locs ++ L) (by rw [e1]; exact hp)
    ⟨Nat.le_trans hS.1 (by rw [e1]; exact hz), fun x h1 h2 => by rw [e1, hk x (Nat.lt_of_lt_of_le h1 hS.1) h2]; exact hS.2.1 x h1 h2, fun x hx => by
      rcases List.mem_append.mp hx with h | h
      · exact hS.2.2 x h
      · exact hL x h⟩ T' rfl X'
  exact ⟨t2, st t2 a1, b1⟩
theorem am_Pc_blind (hSP : am_SP z SP) (as : List Value) (h : am_H) : FrameBlind (am_Pc D cl z C4 q SP as h) := by
  intro a U g mk hp
  obtain ⟨h1, h2, h3, h4, h5⟩ := hp
  exact ⟨h1, h2, h3, va_K.moved (u := U) (U := U.calling g mk a) (Vm.Alike.refl U.vm) h4, hSP.2 a U g mk h5⟩
theorem am_Pc_at {H : Heap} {locs : List Loc} {as : List Value} {h : am_H} (F : am_Fx p R s m args meth c cc nL ret ini D cl z C4 q Ts own Ms LK n0) (hSP : am_SP z SP) (hsp : SP s) (hP : va_P D cl (am_ws z h) H) (hS : va_S (fun a => z.2.2.2 ≤ a) s.heap H locs) (hsz : H.size = z.2.2.2 + h.1) : ∀ U : State, U.heap = H → s.WarmedH U.vm → am_Pc D cl z C4 q SP as h (as.map (am_v q)).toArray U := by
  intro U hU hW
  exact ⟨rfl, by rw [hU]; exact hsz, by rw [hU]; exact hP, va_K.moved hW.alike F.2.2.1, hSP.1 s U H locs hsp hS hU hW⟩
theorem am_good {m0 : am_M} (hg : ∀ w ∈ Ts, (w.onTables && w.keeps) = true ∨ ∃ ty, w = .arrayClass ty) (hm : am_mo Ts m0) : GoodIn Ts (.code m0.1 m0.2.1 m0.2.2.1 m0.2.2.2.1 :: Ts) := by
  intro w hw
  rcases List.mem_cons.mp hw with rfl | hw
  · exact ⟨hm.1, hg _ hm.1⟩
  · exact ⟨hw, hg _ hw⟩
theorem iv_cv {mm n ci t t' mx : Nat} {as : List Value} (hx : am_cv mm n ci t S = am_ca mx as t' S') : ∃ ls st rest a h, S = (ls, st, h) ∧ st.drop n = .ref a :: rest ∧ n ≤ st.length ∧ am_cat rest ≤ 8 ∧ am_ob h a ci = true ∧ mx = mm ∧ as = .ref a :: (st.take n).reverse ∧ t' = t ∧ S' = (ls, rest, h) := by
  obtain ⟨ls, st, h⟩ := S
  unfold am_cv at hx
  dsimp only at hx
  split at hx
  · rename_i a rest e
    split at hx
    · rename_i e2
      cases hx
      simp only [Bool.and_eq_true, decide_eq_true_eq] at e2
      exact ⟨ls, st, rest, a, h, rfl, e, e2.1.1, e2.1.2, e2.2, rfl, rfl, rfl, rfl⟩
    · cases hx
  · cases hx
theorem iv_cs {mm n t t' mx : Nat} {as : List Value} (hx : am_cs mm n t S = am_ca mx as t' S') : ∃ ls st h, S = (ls, st, h) ∧ n ≤ st.length ∧ am_cat (st.drop n) ≤ 8 ∧ mx = mm ∧ as = (st.take n).reverse ∧ t' = t ∧ S' = (ls, st.drop n, h) := by
  obtain ⟨ls, st, h⟩ := S
  unfold am_cs at hx
  dsimp only at hx
  split at hx
  · rename_i e2
    cases hx
    simp only [Bool.and_eq_true, decide_eq_true_eq] at e2
    exact ⟨ls, st, h, rfl, e2.1, e2.2, rfl, rfl, rfl, rfl⟩
  · cases hx
theorem am_toL (r : Option Value) (rest : List Value) : (r.map (am_v q)).toList ++ rest.map (am_v q) = (am_st r rest).map (am_v q) := by
  cases r <;> rfl
/-- the callee's contract -/
def am_Mt (l : Launch) (D : va_G) (cl : List vw_C) (z : am_Z) (C4 : String) (q : am_Q) (SP : State → Prop) (Ts : List Cond) (m0 : am_M) (d : Nat) (as : List Value) (h : am_H) (r : Option Value) (h1 : am_H) : Prop := Met l m0.1 (.code m0.1 m0.2.1 m0.2.2.1 m0.2.2.2.1 :: Ts) (am_rm d (h1.1 - h.1) (h1.2.1 - h.2.1)) (am_Pc D cl z C4 q SP as h) (am_Qc D cl z q r h1) (h1.1 - h.1) (h1.2.1 - h.2.1) (fun a => z.2.2.2 ≤ a)
theorem sx_cv {x0 mm n ci mx t' d : Nat} {as : List Value} {r : Option Value} {h1 : am_H} (F : am_Fx p R s m args meth c cc nL ret ini D cl z C4 q Ts own Ms LK n0) (hg : ∀ w ∈ Ts, (w.onTables && w.keeps) = true ∨ ∃ ty, w = .arrayClass ty) (hSP : am_SP z SP) (hsp : SP s) (hd : decode cc pc = .ok (.invokevirtual x0, 3)) (hlk : (2, x0, mm, 0) ∈ LK) (hna : (Ms mm).2.2.2.2.1 = n) (hci : (Ms mm).2.2.2.2.2 = ci) (hx : am_cv mm n ci (pc + 3) S = am_ca mx as t' S')
    (hM : am_Mt l D cl z C4 q SP Ts (Ms mx) d as S'.2.2 r h1) (hmo : S'.2.2.1 ≤ h1.1 ∧ S'.2.2.2.1 ≤ h1.2.1) (hR : d + 9 ≤ R.frames ∧ 100 * d + 600 ≤ R.locals) (hR2 : h1.1 - n0 ≤ R.cells ∧ h1.2.1 - s0 ≤ R.slots) (k : am_Nx p l e R s m args below meth c Q nL D cl z q n0 s0 t' (S'.1, am_st r S'.2.1, h1)) : am_Nx p l e R s m args below meth c Q nL D cl z q n0 s0 pc S := by
  obtain ⟨ls, st, rest, a, h, rfl, hst, hln, hcat, hob, rfl, rfl, rfl, rfl⟩ := iv_cv hx
  obtain ⟨w1, wm, w2, w3, rr, hr, hrc⟩ := F.2.2.2.2.2.1 _ hlk
  obtain ⟨ha, hka⟩ := am_ob_of hob
  intro H locs lsC hl hP hS hn hs
  refine am_W_size (fun hle => ?_)
  have hsz := am_size F.2.2.2.2.2.2.1 hP hS hn hle
  have hstk : st.map (am_v q) = ((st.take n).reverse.map (am_v q)).reverse ++ .ref (q.2.1 + a) :: rest.map (am_v q) := by
    conv => lhs; rw [← List.take_append_drop n st, hst]
    simp [am_v_ref]
  have hrun := va_runV (R := R) (rm := am_rm d (h1.1 - h.1) (h1.2.1 - h.2.1)) (n := n) (As := (st.take n).reverse.map (am_v q)) (rest := rest.map (am_v q)) (b := q.2.1 + a) (g := F0 m pc lsC (st.map (am_v q))) (cells := h.1 - n0) (slots := h.2.1 - s0) (locs := locs) (below := below) (H := H) (e := e) (C := (Ms mx).1.cls) (index := x0) (bytes := (Ms mx).2.1) (maxL := (Ms mx).2.2.1) (ret := (Ms mx).2.2.2.1) (meth := meth)
    ⟨F.1.1, F.1.2.1, F.1.2.2.1, F.1.2.2.2, F.2.1⟩ hM (cwV n F.2.1 ?_ rfl rfl rfl ⟨rfl, wm.2.2.1.1, wm.2.2.1.2, by rw [wm.2.2.2.1, hna]⟩ ⟨by show d + 8 + 1 ≤ _; omega, by have := wm.2.2.2.2; show 8 + (_ + 11) + (100 * d + 500) ≤ _; omega⟩) ⟨am_Pc_blind hSP _ _, ?_, ?_⟩ rfl (by simp [hln]) hl.2.1 hstk (lv_room (by rw [am_cat_map]; exact hcat)) hd ⟨by dsimp only at hmo hn ⊢; omega, by dsimp only at hmo hs ⊢; omega⟩
  · refine am_callrow (r := r) (h' := h1) hrun hS (fun H1 locs1 hP1 hS1 => ?_)
    have K := k H1 locs1 lsC hl hP1 hS1 (by dsimp only at hmo hn ⊢; omega) (by dsimp only at hmo hs ⊢; omega)
    dsimp only at K hmo hn hs
    rw [show h1.1 - n0 = h.1 - n0 + (h1.1 - h.1) by omega, show h1.2.1 - s0 = h.2.1 - s0 + (h1.2.1 - h.2.1) by omega, ← am_toL] at K
    exact K
  · intro w hw
    rcases List.mem_append.mp hw with hw | hw
    · simp only [List.mem_cons, List.not_mem_nil, or_false] at hw
      rcases hw with rfl | rfl | rfl | rfl
      · exact ⟨w1, hg _ w1⟩
      · exact ⟨w2, hg _ w2⟩
      · exact ⟨w3, hg _ w3⟩
      · exact ⟨wm.2.1, hg _ wm.2.1⟩
    · exact am_good hg wm w hw
  · rw [F.2.2.2.1, ← hrc]
    exact va_recv F.2.2.1 hP hr (by rw [hci]; exact (am_ws_get ha).trans (by rw [am_ce_ob hka]))
  · have := am_Pc_at (as := .ref a :: (st.take n).reverse) F hSP hsp hP hS hsz
    simpa [am_v_ref] using this
theorem sx_cs {x0 mm n mx t' d : Nat} {as : List Value} {r : Option Value} {h1 : am_H} (F : am_Fx p R s m args meth c cc nL ret ini D cl z C4 q Ts own Ms LK n0) (hg : ∀ w ∈ Ts, (w.onTables && w.keeps) = true ∨ ∃ ty, w = .arrayClass ty) (hSP : am_SP z SP) (hsp : SP s) (hd : decode cc pc = .ok (.invokestatic x0, 3)) (hlk : (15, x0, mm, 0) ∈ LK) (hna : (Ms mm).2.2.2.2.1 = n) (hx : am_cs mm n (pc + 3) S = am_ca mx as t' S')
    (hM : am_Mt l D cl z C4 q SP Ts (Ms mx) d as S'.2.2 r h1) (hmo : S'.2.2.1 ≤ h1.1 ∧ S'.2.2.2.1 ≤ h1.2.1) (hR : d + 9 ≤ R.frames ∧ 100 * d + 600 ≤ R.locals) (hR2 : h1.1 - n0 ≤ R.cells ∧ h1.2.1 - s0 ≤ R.slots) (k : am_Nx p l e R s m args below meth c Q nL D cl z q n0 s0 t' (S'.1, am_st r S'.2.1, h1)) : am_Nx p l e R s m args below meth c Q nL D cl z q n0 s0 pc S := by
  obtain ⟨ls, st, h, rfl, hln, hcat, rfl, rfl, rfl, rfl⟩ := iv_cs hx
  obtain ⟨w1, wm, w2⟩ := F.2.2.2.2.2.1 _ hlk
  intro H locs lsC hl hP hS hn hs
  refine am_W_size (fun hle => ?_)
  have hsz := am_size F.2.2.2.2.2.2.1 hP hS hn hle
  have hstk : st.map (am_v q) = ((st.take n).reverse.map (am_v q)).reverse ++ (st.drop n).map (am_v q) := by
    conv => lhs; rw [← List.take_append_drop n st]
    simp
  have hrun := va_runS (R := R) (rm := am_rm d (h1.1 - h.1) (h1.2.1 - h.2.1)) (n := n) (As := (st.take n).reverse.map (am_v q)) (rest := (st.drop n).map (am_v q)) (g := F0 m pc lsC (st.map (am_v q))) (cells := h.1 - n0) (slots := h.2.1 - s0) (locs := locs) (below := below) (H := H) (e := e) (index := x0) (bytes := (Ms mx).2.1) (maxL := (Ms mx).2.2.1) (ret := (Ms mx).2.2.2.1) (meth := meth)
    ⟨F.1.1, F.1.2.1, F.1.2.2.1, F.1.2.2.2, F.2.1⟩ hM (va_cwS n F.2.1 ?_ rfl rfl rfl ⟨wm.2.2.1.1, wm.2.2.1.2, by rw [wm.2.2.2.1, hna]⟩ ⟨by show d + 8 + 1 ≤ _; omega, by have := wm.2.2.2.2; show 8 + (_ + 11) + (100 * d + 500) ≤ _; omega⟩) ⟨am_Pc_blind hSP _ _, am_Pc_at F hSP hsp hP hS hsz⟩ rfl (by simp [hln]) hl.2.1 hstk (lv_room (by rw [am_cat_map]; exact hcat)) hd ⟨by dsimp only at hmo hn ⊢; omega, by dsimp only at hmo hs ⊢; omega⟩
  · refine am_callrow (r := r) (h' := h1) hrun hS (fun H1 locs1 hP1 hS1 => ?_)
    have K := k H1 locs1 lsC hl hP1 hS1 (by dsimp only at hmo hn ⊢; omega) (by dsimp only at hmo hs ⊢; omega)
    dsimp only at K hmo hn hs
    rw [show h1.1 - n0 = h.1 - n0 + (h1.1 - h.1) by omega, show h1.2.1 - s0 = h.2.1 - s0 + (h1.2.1 - h.2.1) by omega, ← am_toL] at K
    exact K
  · intro w hw
    rcases List.mem_append.mp hw with hw | hw
    · simp only [List.mem_cons, List.not_mem_nil, or_false] at hw
      rcases hw with rfl | rfl | rfl
      · exact ⟨w1, hg _ w1⟩
      · exact ⟨w2, hg _ w2⟩
      · exact ⟨wm.2.1, hg _ wm.2.1⟩
    · exact am_good hg wm w hw
theorem sx_ci {x0 mm n ci mx t' d : Nat} {as : List Value} {r : Option Value} {h1 : am_H} (F : am_Fx p R s m args meth c cc nL ret ini D cl z C4 q Ts own Ms LK n0) (hg : ∀ w ∈ Ts, (w.onTables && w.keeps) = true ∨ ∃ ty, w = .arrayClass ty) (hSP : am_SP z SP) (hsp : SP s) (hd : decode cc pc = .ok (.invokespecial x0, 3)) (hlk : (16, x0, mm, 0) ∈ LK) (hna : (Ms mm).2.2.2.2.1 = n) (hci : (Ms mm).2.2.2.2.2 = ci) (hx : am_cv mm n ci (pc + 3) S = am_ca mx as t' S')
    (hM : am_Mt l D cl z C4 q SP Ts (Ms mx) d as S'.2.2 r h1) (hmo : S'.2.2.1 ≤ h1.1 ∧ S'.2.2.2.1 ≤ h1.2.1) (hR : d + 9 ≤ R.frames ∧ 100 * d + 600 ≤ R.locals) (hR2 : h1.1 - n0 ≤ R.cells ∧ h1.2.1 - s0 ≤ R.slots) (k : am_Nx p l e R s m args below meth c Q nL D cl z q n0 s0 t' (S'.1, am_st r S'.2.1, h1)) : am_Nx p l e R s m args below meth c Q nL D cl z q n0 s0 pc S := by
  obtain ⟨ls, st, rest, a, h, rfl, hst, hln, hcat, hob, rfl, rfl, rfl, rfl⟩ := iv_cv hx
  obtain ⟨w1, wm, w2, w3, w4⟩ := F.2.2.2.2.2.1 _ hlk
  intro H locs lsC hl hP hS hn hs
  refine am_W_size (fun hle => ?_)
  have hsz := am_size F.2.2.2.2.2.2.1 hP hS hn hle
  have hstk : st.map (am_v q) = ((st.take n).reverse.map (am_v q)).reverse ++ .ref (q.2.1 + a) :: rest.map (am_v q) := by
    conv => lhs; rw [← List.take_append_drop n st, hst]
    simp [am_v_ref]
  have hM' := hM
  unfold am_Mt at hM'
  rw [w4] at hM'
  have hrun := va_runI (R := R) (rm := am_rm d (h1.1 - h.1) (h1.2.1 - h.2.1)) (n := n) (As := (st.take n).reverse.map (am_v q)) (rest := rest.map (am_v q)) (b := q.2.1 + a) (g := F0 m pc lsC (st.map (am_v q))) (cells := h.1 - n0) (slots := h.2.1 - s0) (locs := locs) (below := below) (H := H) (e := e) (index := x0) (bytes := (Ms mx).2.1) (maxL := (Ms mx).2.2.1) (meth := meth)
    ⟨F.1.1, F.1.2.1, F.1.2.2.1, F.1.2.2.2, F.2.1⟩ hM' (cwI n F.2.1 (by rw [← w4]; exact am_good hg wm) rfl rfl rfl (F.2.1 _ wm.2.1) (F.2.1 _ w1) (F.2.1 _ w2) w3 ⟨wm.2.2.1.1, wm.2.2.1.2, by rw [wm.2.2.2.1, hna]⟩ ⟨by show d + 8 + 1 ≤ _; omega, by have := wm.2.2.2.2; show 8 + (_ + 11) + (100 * d + 500) ≤ _; omega⟩) ⟨am_Pc_blind hSP _ _, ?_⟩ rfl (by simp [hln]) hl.2.1 hstk (lv_room (by rw [am_cat_map]; exact hcat)) hd ⟨by dsimp only at hmo hn ⊢; omega, by dsimp only at hmo hs ⊢; omega⟩
  · refine am_callrow (r := r) (h' := h1) hrun hS (fun H1 locs1 hP1 hS1 => ?_)
    have K := k H1 locs1 lsC hl hP1 hS1 (by dsimp only at hmo hn ⊢; omega) (by dsimp only at hmo hs ⊢; omega)
    dsimp only at K hmo hn hs
    rw [show h1.1 - n0 = h.1 - n0 + (h1.1 - h.1) by omega, show h1.2.1 - s0 = h.2.1 - s0 + (h1.2.1 - h.2.1) by omega, ← am_toL] at K
    exact K
  · have := am_Pc_at (as := .ref a :: (st.take n).reverse) F hSP hsp hP hS hsz
    simpa [am_v_ref] using this
end
