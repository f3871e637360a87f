section
variable {p : Program} {l : Launch} {e : Env} {R : Room} {s : State} {m : MethodId} {args : Array Value} {below : List Frame} {meth : Method} {c : Code} {Q : State → Prop} {cc : ByteArray} {nL : Nat} {ret : Option FieldType} {ini : Bool} {D : va_G} {cl : List vw_C} {z : am_Z} {C4 : String} {q : am_Q} {Ts : List Cond} {own : String} {Ms : Nat → am_M} {LK : List am_L} {n0 s0 pc : Nat} {S S' : am_S}
theorem am_fs_set {h h' : am_H} {a ci k0 : Nat} (ho : ∀ j, j ≠ k0 → am_fv z h' a ci j = am_fv z h a ci j) : (List.range (z.1 ci)).map (am_fv z h' a ci) = ((List.range (z.1 ci)).map (am_fv z h a ci)).set k0 (am_fv z h' a ci k0) := by
  apply List.ext_getElem?
  intro j
  by_cases hj : j < z.1 ci
  · rw [am_fv_at hj]
    by_cases hk : j = k0
    · subst hk
      rw [List.getElem?_set_self (by simpa using hj)]
    · rw [List.getElem?_set_ne (Ne.symm hk), am_fv_at hj, ho j hk]
  · rw [List.getElem?_eq_none (by simp; omega), List.getElem?_eq_none (by simp; omega)]
theorem am_ce_u {n sl : Nat} {kd : Nat → am_K} {r : Nat → Nat → Option Nat} {v : Nat → Nat → Int32} {w : Nat → Nat → Int64} {a b k : Nat} {x : Int32} (h : b ≠ a) : am_ce z (n, sl, kd, r, am_u v a k x, w) b = am_ce z (n, sl, kd, r, v, w) b := by
  unfold am_ce am_arr am_fv am_u
  simp only [if_neg h]
theorem am_ce_uL {n sl : Nat} {kd : Nat → am_K} {r : Nat → Nat → Option Nat} {v : Nat → Nat → Int32} {w : Nat → Nat → Int64} {a b k : Nat} {x : Int64} (h : b ≠ a) : am_ce z (n, sl, kd, r, v, am_uL w a k x) b = am_ce z (n, sl, kd, r, v, w) b := by
  unfold am_ce am_arr am_fv am_uL
  simp only [if_neg h]
theorem am_ce_uR {n sl : Nat} {kd : Nat → am_K} {r : Nat → Nat → Option Nat} {v : Nat → Nat → Int32} {w : Nat → Nat → Int64} {a b k : Nat} {x : Option Nat} (h : b ≠ a) : am_ce z (n, sl, kd, am_uR r a k x, v, w) b = am_ce z (n, sl, kd, r, v, w) b := by
  unfold am_ce am_arr am_fv am_uR
  simp only [if_neg h]
theorem am_P_set {H1 : Heap} {h h' : am_H} {a : Nat} {ee : va_E} (hP1 : va_P D cl ((am_ws z h).set a (z.2.2.2 + a, ee)) H1) (hn : h'.1 = h.1) (he : am_ce z h' a = ee) (ho : ∀ b, b ≠ a → am_ce z h' b = am_ce z h b) : va_P D cl (am_ws z h') H1 := by
  rw [am_ws_set hn he ho] at hP1
  exact hP1
theorem sx_putI {ci k0 x0 : Nat} {ok : Int32 → Bool} {ty : FieldType} (F : am_Fx p R s m args meth c cc nL ret ini D cl z C4 q Ts own Ms LK n0) (hd : decode cc pc = .ok (.putfield x0, 3)) (hlk : (13, x0, ci, k0) ∈ LK) (hty : z.2.1 ci k0 = ty) (hir : am_isR ty = false) (hok : ∀ x, ok x = true → narrow ty (.int x) = .int x ∧ fits ty (.int x) = true) (hx : am_putI ci k0 S ok = am_on S') (k : am_Nx p l e R s m args below meth c Q nL D cl z q n0 s0 (pc + 3) S') : am_Nx p l e R s m args below meth c Q nL D cl z q n0 s0 pc S := by
  obtain ⟨ls, x, a, st, n, sl, kd, r0, v, w, rfl, rfl, h1, h2⟩ := iv_putI hx
  obtain ⟨ha, hk⟩ := am_ob_of h1
  obtain ⟨r, hr, hk0, hw, hfin⟩ := F.2.2.2.2.2.1 _ hlk
  obtain ⟨hz, hin, hpd, hnm, -, -⟩ := F.2.2.2.2.1 ci r hr
  obtain ⟨hna, hfi⟩ := hok x h2
  intro H locs lsC hl hP hS hn hs
  show W p l e R s m args below meth c H locs _ _ Q (F0 m pc lsC (.int x :: am_v q (.ref a) :: st.map (am_v q)))
  rw [sx_fr F]
  refine va_put (D := D) (ci := ci) (v := .int x) (ty := ty) (C := r.1) (T := r.2.1) (N := r.2.2) F.1.1 F.1.2.1 F.2.1 hin (z.2.1 ci) hpd hnm F.1.2.2.2 F.2.2.1 hP (am_ws_D z _) hS a (by rw [am_ws_get ha, am_ce_ob hk]) hr k0 hk0 (F.2.1 _ hw) (fun _ h => h) hfin (by rw [hpd k0 hk0, hty]) hna hfi (by simp [hz, hk0]) hd (fun H1 locs1 hP1 _ hS1 => ?_)
  refine k H1 locs1 lsC hl ?_ hS1 hn hs
  refine am_P_set (h := (n, sl, kd, r0, v, w)) (h' := (n, sl, kd, r0, am_u v a k0 x, w)) hP1 rfl ?_ (fun b hb => am_ce_u hb)
  rw [am_ce_ob (h := (n, sl, kd, r0, am_u v a k0 x, w)) hk, am_fs_set (h := (n, sl, kd, r0, v, w)) (k0 := k0)]
  · congr 3
    unfold am_fv
    rw [hty, hir]
    simp [am_u, upd]
  · intro j hj
    unfold am_fv
    simp [am_u, upd, hj]
theorem sx_putR {ci k0 x0 : Nat} (F : am_Fx p R s m args meth c cc nL ret ini D cl z C4 q Ts own Ms LK n0) (hd : decode cc pc = .ok (.putfield x0, 3)) (hlk : (14, x0, ci, k0) ∈ LK) (hir : am_isR (z.2.1 ci k0) = true) (hini : ini = true) (hx : am_putR ci k0 S = am_on S') (k : am_Nx p l e R s m args below meth c Q nL D cl z q n0 s0 (pc + 3) S') : am_Nx p l e R s m args below meth c Q nL D cl z q n0 s0 pc S := by
  obtain ⟨ls, b, a, st, n, sl, kd, r0, v, w, rfl, rfl, h1⟩ := iv_putR hx
  obtain ⟨ha, hk⟩ := am_ob_of h1
  obtain ⟨r, hr, hk0, hw, hfin, hown⟩ := F.2.2.2.2.2.1 _ hlk
  obtain ⟨hz, hin, hpd, hnm, -, -⟩ := F.2.2.2.2.1 ci r hr
  have hnf : ∀ y : Nat, narrow (z.2.1 ci k0) (.ref y) = .ref y ∧ fits (z.2.1 ci k0) (.ref y) = true := by
    intro y
    cases hty : z.2.1 ci k0 <;> rw [hty] at hir <;> first | exact ⟨rfl, rfl⟩ | cases hir
  intro H locs lsC hl hP hS hn hs
  show W p l e R s m args below meth c H locs _ _ Q (F0 m pc lsC (am_v q (.ref b) :: am_v q (.ref a) :: st.map (am_v q)))
  rw [sx_fr F, sx_fr F]
  refine va_putF (D := D) (ci := ci) (v := .ref (z.2.2.2 + b)) (ty := z.2.1 ci k0) (C := r.1) (T := r.2.1) (N := r.2.2) F.1.1 F.1.2.1 F.2.1 hin (z.2.1 ci) hpd hnm F.1.2.2.2 F.2.2.1 hP (am_ws_D z _) hS a (by rw [am_ws_get ha, am_ce_ob hk]) hr k0 hk0 (F.2.1 _ hw) (fun _ h => h) hfin (F.2.2.2.2.2.2.2.2.2.1 hini) hown (by rw [hpd k0 hk0]) (hnf _).1 (hnf _).2 (by simp [hz, hk0]) hd (fun H1 locs1 hP1 _ hS1 => ?_)
  refine k H1 locs1 lsC hl ?_ hS1 hn hs
  refine am_P_set (h := (n, sl, kd, r0, v, w)) (h' := (n, sl, kd, am_uR r0 a k0 (some b), v, w)) hP1 rfl ?_ (fun b hb => am_ce_uR hb)
  rw [am_ce_ob (h := (n, sl, kd, am_uR r0 a k0 (some b), v, w)) hk, am_fs_set (h := (n, sl, kd, r0, v, w)) (k0 := k0)]
  · congr 3
    unfold am_fv
    rw [hir]
    simp [am_uR, va_up, va_rf]
  · intro j hj
    unfold am_fv
    simp [am_uR, va_up, hj]
theorem am_tys_at {t : Nat} (ht : t < 5) : ∃ ty, (am_tys z C4)[t]? = some (z.2.2.1 t, ty) := by
  match t, ht with
  | 0, _ => exact ⟨_, rfl⟩
  | 1, _ => exact ⟨_, rfl⟩
  | 2, _ => exact ⟨_, rfl⟩
  | 3, _ => exact ⟨_, rfl⟩
  | 4, _ => exact ⟨_, rfl⟩
theorem sx_iald (F : am_Fx p R s m args meth c cc nL ret ini D cl z C4 q Ts own Ms LK n0) (hd : decode cc pc = .ok (.iaload, 1)) (hx : am_ald 0 S (fun h a k => some (.int (h.2.2.2.2.1 a k))) = am_on S') (k : am_Nx p l e R s m args below meth c Q nL D cl z q n0 s0 (pc + 1) S') : am_Nx p l e R s m args below meth c Q nL D cl z q n0 s0 pc S := by
  obtain ⟨ls, i, a, st, h, y, rfl, rfl, h1, h2⟩ := iv_ald hx
  cases h2
  obtain ⟨n, ha, hk, hi⟩ := am_ar_of h1
  intro H locs lsC hl hP hS hn hs
  show W p l e R s m args below meth c H locs _ _ Q (F0 m pc lsC (.int i :: am_v q (.ref a) :: st.map (am_v q)))
  rw [sx_fr F]
  exact va_iald F.1.1 F.1.2.1 F.2.2.1 hP a 0 (by rw [am_ws_get ha, am_ce_ar hk]; rfl) rfl hi hd (k H locs lsC hl hP hS hn hs)
theorem sx_bald (F : am_Fx p R s m args meth c cc nL ret ini D cl z C4 q Ts own Ms LK n0) (hd : decode cc pc = .ok (.baload, 1)) (hx : am_ald 1 S (fun h a k => some (.int (h.2.2.2.2.1 a k))) = am_on S') (k : am_Nx p l e R s m args below meth c Q nL D cl z q n0 s0 (pc + 1) S') : am_Nx p l e R s m args below meth c Q nL D cl z q n0 s0 pc S := by
  obtain ⟨ls, i, a, st, h, y, rfl, rfl, h1, h2⟩ := iv_ald hx
  cases h2
  obtain ⟨n, ha, hk, hi⟩ := am_ar_of h1
  intro H locs lsC hl hP hS hn hs
  show W p l e R s m args below meth c H locs _ _ Q (F0 m pc lsC (.int i :: am_v q (.ref a) :: st.map (am_v q)))
  rw [sx_fr F]
  exact va_bald F.1.1 F.1.2.1 F.2.2.1 hP a 1 (by rw [am_ws_get ha, am_ce_ar hk]; rfl) rfl hi hd (k H locs lsC hl hP hS hn hs)
theorem sx_zald (F : am_Fx p R s m args meth c cc nL ret ini D cl z C4 q Ts own Ms LK n0) (hd : decode cc pc = .ok (.baload, 1)) (hx : am_ald 2 S (fun h a k => some (.int (h.2.2.2.2.1 a k))) = am_on S') (k : am_Nx p l e R s m args below meth c Q nL D cl z q n0 s0 (pc + 1) S') : am_Nx p l e R s m args below meth c Q nL D cl z q n0 s0 pc S := by
  obtain ⟨ls, i, a, st, h, y, rfl, rfl, h1, h2⟩ := iv_ald hx
  cases h2
  obtain ⟨n, ha, hk, hi⟩ := am_ar_of h1
  intro H locs lsC hl hP hS hn hs
  show W p l e R s m args below meth c H locs _ _ Q (F0 m pc lsC (.int i :: am_v q (.ref a) :: st.map (am_v q)))
  rw [sx_fr F]
  exact va_zald F.1.1 F.1.2.1 F.2.2.1 hP a 2 (by rw [am_ws_get ha, am_ce_ar hk]; rfl) rfl hi hd (k H locs lsC hl hP hS hn hs)
theorem sx_lald (F : am_Fx p R s m args meth c cc nL ret ini D cl z C4 q Ts own Ms LK n0) (hd : decode cc pc = .ok (.laload, 1)) (hx : am_ald 3 S (fun h a k => some (.long (h.2.2.2.2.2 a k))) = am_on S') (k : am_Nx p l e R s m args below meth c Q nL D cl z q n0 s0 (pc + 1) S') : am_Nx p l e R s m args below meth c Q nL D cl z q n0 s0 pc S := by
  obtain ⟨ls, i, a, st, h, y, rfl, rfl, h1, h2⟩ := iv_ald hx
  cases h2
  obtain ⟨n, ha, hk, hi⟩ := am_ar_of h1
  intro H locs lsC hl hP hS hn hs
  show W p l e R s m args below meth c H locs _ _ Q (F0 m pc lsC (.int i :: am_v q (.ref a) :: st.map (am_v q)))
  rw [sx_fr F]
  exact va_lald F.1.1 F.1.2.1 F.2.2.1 hP a 3 (by rw [am_ws_get ha, am_ce_ar hk]; rfl) rfl hi hd (k H locs lsC hl hP hS hn hs)
theorem sx_aald (F : am_Fx p R s m args meth c cc nL ret ini D cl z C4 q Ts own Ms LK n0) (hd : decode cc pc = .ok (.aaload, 1)) (hx : am_ald 4 S (fun h a k => (h.2.2.2.1 a k).map .ref) = am_on S') (k : am_Nx p l e R s m args below meth c Q nL D cl z q n0 s0 (pc + 1) S') : am_Nx p l e R s m args below meth c Q nL D cl z q n0 s0 pc S := by
  obtain ⟨ls, i, a, st, h, y, rfl, rfl, h1, h2⟩ := iv_ald hx
  obtain ⟨n, ha, hk, hi⟩ := am_ar_of h1
  intro H locs lsC hl hP hS hn hs
  show W p l e R s m args below meth c H locs _ _ Q (F0 m pc lsC (.int i :: am_v q (.ref a) :: st.map (am_v q)))
  rw [sx_fr F]
  have K := k H locs lsC hl hP hS hn hs
  cases hr : h.2.2.2.1 a i.toNatClampNeg with
  | none => rw [hr] at h2; cases h2
  | some b =>
    rw [hr] at h2
    cases h2
    rw [List.map_cons, sx_fr F] at K
    refine va_aldq F.1.1 F.1.2.1 F.2.2.1 hP a 4 (by rw [am_ws_get ha, am_ce_ar hk]; rfl) rfl hi hd ?_
    dsimp only
    rw [hr]
    exact K
theorem am_ce_ar_u {n sl : Nat} {kd : Nat → am_K} {r : Nat → Nat → Option Nat} {v : Nat → Nat → Int32} {w : Nat → Nat → Int64} {a k t nn : Nat} {x : Int32} (hk : kd a = .inr (t, nn)) (h3 : t < 3) : am_ce z (n, sl, kd, r, am_u v a k x, w) a = .inl (z.2.2.1 t, nn, .inl (upd (v a) k x)) := by
  rw [am_ce_ar (h := (n, sl, kd, r, am_u v a k x, w)) hk]
  unfold am_arr
  match t, h3 with
  | 0, _ => simp [am_u]
  | 1, _ => simp [am_u]
  | 2, _ => simp [am_u]
theorem sx_iast (F : am_Fx p R s m args meth c cc nL ret ini D cl z C4 q Ts own Ms LK n0) (hd : decode cc pc = .ok (.iastore, 1)) (hx : am_ast 0 S (fun x => x) = am_on S') (k : am_Nx p l e R s m args below meth c Q nL D cl z q n0 s0 (pc + 1) S') : am_Nx p l e R s m args below meth c Q nL D cl z q n0 s0 pc S := by
  obtain ⟨ls, x, i, a, st, n, sl, kd, r0, v, w, rfl, rfl, h1⟩ := iv_ast hx
  obtain ⟨nn, ha, hk, hi⟩ := am_ar_of h1
  intro H locs lsC hl hP hS hn hs
  show W p l e R s m args below meth c H locs _ _ Q (F0 m pc lsC (.int x :: .int i :: am_v q (.ref a) :: st.map (am_v q)))
  rw [sx_fr F]
  refine va_iast F.1.1 F.1.2.1 F.2.2.1 hP (am_ws_D z _) hS a 0 (by rw [am_ws_get ha, am_ce_ar hk]; rfl) rfl hi hd (fun H1 locs1 hP1 _ hS1 => ?_)
  refine k H1 locs1 lsC hl ?_ hS1 hn hs
  exact am_P_set (h := (n, sl, kd, r0, v, w)) (h' := (n, sl, kd, r0, am_u v a i.toNatClampNeg x, w)) hP1 rfl (am_ce_ar_u hk (by decide)) (fun b hb => am_ce_u hb)
theorem sx_bast (F : am_Fx p R s m args meth c cc nL ret ini D cl z C4 q Ts own Ms LK n0) (hd : decode cc pc = .ok (.bastore, 1)) (hx : am_ast 1 S (vp_nar .byte) = am_on S') (k : am_Nx p l e R s m args below meth c Q nL D cl z q n0 s0 (pc + 1) S') : am_Nx p l e R s m args below meth c Q nL D cl z q n0 s0 pc S := by
  obtain ⟨ls, x, i, a, st, n, sl, kd, r0, v, w, rfl, rfl, h1⟩ := iv_ast hx
  obtain ⟨nn, ha, hk, hi⟩ := am_ar_of h1
  intro H locs lsC hl hP hS hn hs
  show W p l e R s m args below meth c H locs _ _ Q (F0 m pc lsC (.int x :: .int i :: am_v q (.ref a) :: st.map (am_v q)))
  rw [sx_fr F]
  refine va_bast F.1.1 F.1.2.1 F.2.2.1 hP (am_ws_D z _) hS a 1 (by rw [am_ws_get ha, am_ce_ar hk]; rfl) rfl hi hd (fun H1 locs1 hP1 _ hS1 => ?_)
  refine k H1 locs1 lsC hl ?_ hS1 hn hs
  exact am_P_set (h := (n, sl, kd, r0, v, w)) (h' := (n, sl, kd, r0, am_u v a i.toNatClampNeg (vp_nar .byte x), w)) hP1 rfl (am_ce_ar_u hk (by decide)) (fun b hb => am_ce_u hb)
theorem sx_zast (F : am_Fx p R s m args meth c cc nL ret ini D cl z C4 q Ts own Ms LK n0) (hd : decode cc pc = .ok (.bastore, 1)) (hx : am_ast 2 S (vp_nar .boolean) = am_on S') (k : am_Nx p l e R s m args below meth c Q nL D cl z q n0 s0 (pc + 1) S') : am_Nx p l e R s m args below meth c Q nL D cl z q n0 s0 pc S := by
  obtain ⟨ls, x, i, a, st, n, sl, kd, r0, v, w, rfl, rfl, h1⟩ := iv_ast hx
  obtain ⟨nn, ha, hk, hi⟩ := am_ar_of h1
  intro H locs lsC hl hP hS hn hs
  show W p l e R s m args below meth c H locs _ _ Q (F0 m pc lsC (.int x :: .int i :: am_v q (.ref a) :: st.map (am_v q)))
  rw [sx_fr F]
  refine va_zast F.1.1 F.1.2.1 F.2.2.1 hP (am_ws_D z _) hS a 2 (by rw [am_ws_get ha, am_ce_ar hk]; rfl) rfl hi hd (fun H1 locs1 hP1 _ hS1 => ?_)
  refine k H1 locs1 lsC hl ?_ hS1 hn hs
  exact am_P_set (h := (n, sl, kd, r0, v, w)) (h' := (n, sl, kd, r0, am_u v a i.toNatClampNeg (vp_nar .boolean x), w)) hP1 rfl (am_ce_ar_u hk (by decide)) (fun b hb => am_ce_u hb)
theorem sx_last (F : am_Fx p R s m args meth c cc nL ret ini D cl z C4 q Ts own Ms LK n0) (hd : decode cc pc = .ok (.lastore, 1)) (hx : am_lst S = am_on S') (k : am_Nx p l e R s m args below meth c Q nL D cl z q n0 s0 (pc + 1) S') : am_Nx p l e R s m args below meth c Q nL D cl z q n0 s0 pc S := by
  obtain ⟨ls, x, i, a, st, n, sl, kd, r0, v, w, rfl, rfl, h1⟩ := iv_lst hx
  obtain ⟨nn, ha, hk, hi⟩ := am_ar_of h1
  intro H locs lsC hl hP hS hn hs
  show W p l e R s m args below meth c H locs _ _ Q (F0 m pc lsC (.long x :: .int i :: am_v q (.ref a) :: st.map (am_v q)))
  rw [sx_fr F]
  refine va_last F.1.1 F.1.2.1 F.2.2.1 hP (am_ws_D z _) hS a 3 (by rw [am_ws_get ha, am_ce_ar hk]; rfl) rfl hi hd (fun H1 locs1 hP1 _ hS1 => ?_)
  refine k H1 locs1 lsC hl ?_ hS1 hn hs
  exact am_P_set (h := (n, sl, kd, r0, v, w)) (h' := (n, sl, kd, r0, v, am_uL w a i.toNatClampNeg x)) hP1 rfl (by rw [am_ce_ar (h := (n, sl, kd, r0, v, am_uL w a i.toNatClampNeg x)) hk]; simp [am_arr, am_uL]) (fun b hb => am_ce_uL hb)
theorem sx_aast {ci : Nat} {r : vw_C} (F : am_Fx p R s m args meth c cc nL ret ini D cl z C4 q Ts own Ms LK n0) (hr : cl[ci]? = some r) (hC : r.1 = C4) (hd : decode cc pc = .ok (.aastore, 1)) (hx : am_rst ci S = am_on S') (k : am_Nx p l e R s m args below meth c Q nL D cl z q n0 s0 (pc + 1) S') : am_Nx p l e R s m args below meth c Q nL D cl z q n0 s0 pc S := by
  obtain ⟨ls, b, i, a, st, n, sl, kd, r0, v, w, rfl, rfl, h1, h2⟩ := iv_rst hx
  obtain ⟨nn, ha, hk, hi⟩ := am_ar_of h1
  obtain ⟨hb, hkb⟩ := am_ob_of h2
  intro H locs lsC hl hP hS hn hs
  show W p l e R s m args below meth c H locs _ _ Q (F0 m pc lsC (am_v q (.ref b) :: .int i :: am_v q (.ref a) :: st.map (am_v q)))
  rw [sx_fr F, sx_fr F]
  refine va_astq F.1.1 F.1.2.1 F.2.2.1 hP (am_ws_D z _) hS a 4 b ci (by rw [am_ws_get ha, am_ce_ar hk]; rfl) (by rw [hC]; rfl) (by rw [am_ws_get hb, am_ce_ob hkb]) hr hi hd (fun H1 locs1 hP1 _ hS1 => ?_)
  refine k H1 locs1 lsC hl ?_ hS1 hn hs
  refine am_P_set (h := (n, sl, kd, r0, v, w)) (h' := (n, sl, kd, am_uR r0 a i.toNatClampNeg (some b), v, w)) hP1 rfl ?_ (fun b hb => am_ce_uR hb)
  rw [am_ce_ar (h := (n, sl, kd, am_uR r0 a i.toNatClampNeg (some b), v, w)) hk]
  simp only [am_arr, am_uR, if_true]
  congr 7
  funext j
  unfold va_up
  split <;> simp
end
