section
variable {p : Program} {l : Launch} {e : Env} {R : Room} {s : State} {m : MethodId} {args : Array Value} {below : List Frame} {meth : Method} {c : Code} {Q : State → Prop} {cc : ByteArray} {nL : Nat} {ret : Option FieldType} {ini : Bool} {D : va_G} {cl : List vw_C} {z : am_Z} {C4 : String} {q : am_Q} {Ts : List Cond} {own : String} {Ms : Nat → am_M} {LK : List am_L} {n0 s0 pc : Nat} {S S' : am_S}
theorem sx_oin {x0 : Nat} (F : am_Fx p R s m args meth c cc nL ret ini D cl z C4 q Ts own Ms LK n0) (hd : decode cc pc = .ok (.invokespecial x0, 3)) (hlk : (3, x0, 0, 0) ∈ LK) (hx : am_oin S = am_on S') (k : am_Nx p l e R s m args below meth c Q nL D cl z q n0 s0 (pc + 3) S') : am_Nx p l e R s m args below meth c Q nL D cl z q n0 s0 pc S := by
  obtain ⟨ls, a, st, h, rfl, rfl, h1⟩ := iv_oin hx
  obtain ⟨w1, w2, w3⟩ := F.2.2.2.2.2.1 _ hlk
  intro H locs lsC hl hP hS hn hs
  refine W.objInit F.1.1 F.1.2.1 F.1.2.2.2 (F.2.1 _ w1) (F.2.1 _ w2) (F.2.1 _ w3) (a := q.2.1 + a) (rest := st.map (am_v q)) rfl ?_ rfl hd (Nat.le_trans (by decide) F.2.2.2.2.2.2.2.2.2.2.1) ?_ (k H locs lsC hl hP hS hn hs)
  · show lsC.size = c.maxLocals
    rw [F.1.2.2.1]
    exact hl.2.1
  · have h9 := F.2.2.2.2.2.2.2.2.2.2.2
    show 2 * 0 + _ + 12 ≤ _
    rw [am_cat_map]
    omega
theorem sx_max {x0 : Nat} (F : am_Fx p R s m args meth c cc nL ret ini D cl z C4 q Ts own Ms LK n0) (hd : decode cc pc = .ok (.invokestatic x0, 3)) (hlk : (4, x0, 0, 0) ∈ LK) (hR : S.2.2.1 - n0 ≤ R.cells ∧ S.2.2.2.1 - s0 ≤ R.slots) (hx : am_mm (fun x y => if x < y then y else x) S = am_on S') (k : am_Nx p l e R s m args below meth c Q nL D cl z q n0 s0 (pc + 3) S') : am_Nx p l e R s m args below meth c Q nL D cl z q n0 s0 pc S := by
  obtain ⟨ls, x, y, st, h, rfl, rfl, h1⟩ := iv_mm hx
  obtain ⟨w1, w2, w3, w4⟩ := F.2.2.2.2.2.1 _ hlk
  intro H locs lsC hl hP hS hn hs
  have h9 := F.2.2.2.2.2.2.2.2.2.2.2
  refine va_mmax F.1.1 F.1.2.1 (by rw [F.1.2.2.1]; exact hl.2.1.symm) F.1.2.2.2 (F.2.1 _ w1) (F.2.1 _ w2) (F.2.1 _ w3) (F.2.1 _ w4) (Nat.le_trans (by decide) F.2.2.2.2.2.2.2.2.2.2.1) ?_ hR.1 hR.2 hd (k H locs lsC hl hP hS hn hs)
  rw [am_cat_map]
  omega
theorem sx_min {x0 : Nat} (F : am_Fx p R s m args meth c cc nL ret ini D cl z C4 q Ts own Ms LK n0) (hd : decode cc pc = .ok (.invokestatic x0, 3)) (hlk : (5, x0, 0, 0) ∈ LK) (hR : S.2.2.1 - n0 ≤ R.cells ∧ S.2.2.2.1 - s0 ≤ R.slots) (hx : am_mm (fun x y => if y < x then y else x) S = am_on S') (k : am_Nx p l e R s m args below meth c Q nL D cl z q n0 s0 (pc + 3) S') : am_Nx p l e R s m args below meth c Q nL D cl z q n0 s0 pc S := by
  obtain ⟨ls, x, y, st, h, rfl, rfl, h1⟩ := iv_mm hx
  obtain ⟨w1, w2, w3, w4⟩ := F.2.2.2.2.2.1 _ hlk
  intro H locs lsC hl hP hS hn hs
  have h9 := F.2.2.2.2.2.2.2.2.2.2.2
  refine va_mmin F.1.1 F.1.2.1 (by rw [F.1.2.2.1]; exact hl.2.1.symm) F.1.2.2.2 (F.2.1 _ w1) (F.2.1 _ w2) (F.2.1 _ w3) (F.2.1 _ w4) (Nat.le_trans (by decide) F.2.2.2.2.2.2.2.2.2.2.1) ?_ hR.1 hR.2 hd (k H locs lsC hl hP hS hn hs)
  rw [am_cat_map]
  omega
theorem am_ce_cp {n sl : Nat} {kd : Nat → am_K} {r : Nat → Nat → Option Nat} {v : Nat → Nat → Int32} {w : Nat → Nat → Int64} {a d sp dp k b : Nat} (h : b ≠ d) : am_ce z (n, sl, kd, r, am_cpf v a d sp dp k, w) b = am_ce z (n, sl, kd, r, v, w) b := by
  unfold am_ce am_arr am_fv am_cpf
  simp only [if_neg h]
theorem sx_cp {x0 : Nat} (F : am_Fx p R s m args meth c cc nL ret ini D cl z C4 q Ts own Ms LK n0) (hd : decode cc pc = .ok (.invokestatic x0, 3)) (hlk : (6, x0, 0, 0) ∈ LK) (hx : am_cp S = am_on S') (k : am_Nx p l e R s m args below meth c Q nL D cl z q n0 s0 (pc + 3) S') : am_Nx p l e R s m args below meth c Q nL D cl z q n0 s0 pc S := by
  obtain ⟨ls, n, dp, b, sp, a, st, nn, sl, kd, r0, v, w, na, nb, rfl, rfl, hka, hkb, ha, hb, h1, h2, h3, h4, h5, h6⟩ := iv_cp hx
  obtain ⟨w1, w2, w3, w4⟩ := F.2.2.2.2.2.1 _ hlk
  intro H locs lsC hl hP hS hn hs
  have h9 := F.2.2.2.2.2.2.2.2.2.2.2
  show W p l e R s m args below meth c H locs _ _ Q (F0 m pc lsC (.int n :: .int dp :: am_v q (.ref b) :: .int sp :: am_v q (.ref a) :: st.map (am_v q)))
  rw [sx_fr F, sx_fr F]
  refine va_copyi F.1.1 F.1.2.1 (by rw [F.1.2.2.1]; exact hl.2.1.symm) F.1.2.2.2 (F.2.1 _ w1) (F.2.1 _ w2) (F.2.1 _ w3) (F.2.1 _ w4) F.2.2.1 hP (am_ws_D z _) hS a b 0 0 (ty := .int) (f := v a) (g := v b) (n0 := na) (n1 := nb) (by rw [am_ws_get ha, am_ce_ar hka]; rfl) (by rw [am_ws_get hb, am_ce_ar hkb]; rfl) rfl rfl rfl h4 h3 h2 h5 h6 (fun _ _ => rfl) (Nat.le_trans (by decide) F.2.2.2.2.2.2.2.2.2.2.1) ?_ hd (fun H1 locs1 hP1 _ hS1 => ?_)
  · rw [am_cat_map]
    have h10 : nativeFrameWords "java/lang/System" "arraycopy" 5 + 11 ≤ 60 := by decide +kernel
    omega
  · refine k H1 locs1 lsC hl ?_ hS1 hn hs
    refine am_P_set (h := (nn, sl, kd, r0, v, w)) (h' := (nn, sl, kd, r0, am_cpf v a b sp.toNatClampNeg dp.toNatClampNeg n.toNatClampNeg, w)) hP1 rfl ?_ (fun b hb => am_ce_cp hb)
    rw [am_ce_ar (h := (nn, sl, kd, r0, am_cpf v a b sp.toNatClampNeg dp.toNatClampNeg n.toNatClampNeg, w)) hkb]
    simp [am_arr, am_cpf]
theorem sx_xa {X : am_X} (F : am_Fx p R s m args meth c cc nL ret ini D cl z C4 q Ts own Ms LK n0) (hX : va_X q.1 X.1 X.2 s s.heap) (hbl : q.1 < s.heap.size) (hbA : ¬ z.2.2.2 ≤ q.1) (hd : decode cc pc = .ok (.iaload, 1)) (hx : am_xa X S = am_on S') (k : am_Nx p l e R s m args below meth c Q nL D cl z q n0 s0 (pc + 1) S') : am_Nx p l e R s m args below meth c Q nL D cl z q n0 s0 pc S := by
  obtain ⟨ls, i, u, st, h, rfl, rfl, h1⟩ := iv_xa hx
  intro H locs lsC hl hP hS hn hs
  exact va_sld F.1.1 F.1.2.1 hX hbl hbA hS (am_in_of h1) hd (k H locs lsC hl hP hS hn hs)
theorem sx_xl {X : am_X} (F : am_Fx p R s m args meth c cc nL ret ini D cl z C4 q Ts own Ms LK n0) (hX : va_X q.1 X.1 X.2 s s.heap) (hbl : q.1 < s.heap.size) (hbA : ¬ z.2.2.2 ≤ q.1) (hd : decode cc pc = .ok (.arraylength, 1)) (hx : am_xl X S = am_on S') (k : am_Nx p l e R s m args below meth c Q nL D cl z q n0 s0 (pc + 1) S') : am_Nx p l e R s m args below meth c Q nL D cl z q n0 s0 pc S := by
  obtain ⟨ls, u, st, h, rfl, rfl⟩ := iv_xl hx
  intro H locs lsC hl hP hS hn hs
  exact va_slen F.1.1 F.1.2.1 hX hbl hbA hS hd (k H locs lsC hl hP hS hn hs)
theorem sx_ju {t : Nat} (F : am_Fx p R s m args meth c cc nL ret ini D cl z C4 q Ts own Ms LK n0) {len : Nat} (hd : decode cc pc = .ok (.goto ((t : Int) - (pc : Int)), len)) (hlen : len = 3) (k : am_Nx p l e R s m args below meth c Q nL D cl z q n0 s0 t S) : am_Nx p l e R s m args below meth c Q nL D cl z q n0 s0 pc S := by
  subst hlen
  intro H locs lsC hl hP hS hn hs
  exact lv_goto F.1.1 F.1.2.1 hd (by omega) (k H locs lsC hl hP hS hn hs)
theorem iv_if2 {b t f t' : Nat} (hx : am_if2 b t f S = am_ju t' S') : ∃ ls x y st h, S = (ls, .int y :: .int x :: st, h) ∧ S' = (ls, st, h) ∧ t' = if am_cn b x y = true then t else f := by
  unfold am_if2 at hx
  split at hx
  · rename_i ls y x st h
    refine ⟨ls, x, y, st, h, rfl, ?_⟩
    split at hx
    · rename_i e
      cases hx
      exact ⟨rfl, by rw [if_pos e]⟩
    · rename_i e
      cases hx
      exact ⟨rfl, by rw [if_neg e]⟩
  · cases hx
theorem iv_if1 {b t f t' : Nat} (hx : am_if1 b t f S = am_ju t' S') : ∃ ls x st h, S = (ls, .int x :: st, h) ∧ S' = (ls, st, h) ∧ t' = if am_cn b x 0 = true then t else f := by
  unfold am_if1 at hx
  split at hx
  · rename_i ls x st h
    refine ⟨ls, x, st, h, rfl, ?_⟩
    split at hx
    · rename_i e
      cases hx
      exact ⟨rfl, by rw [if_pos e]⟩
    · rename_i e
      cases hx
      exact ⟨rfl, by rw [if_neg e]⟩
  · cases hx
theorem sx_if2 {b t f t' : Nat} (F : am_Fx p R s m args meth c cc nL ret ini D cl z C4 q Ts own Ms LK n0) (hd : decode cc pc = .ok (.if_icmp (am_cnd b) ((t : Int) - (pc : Int)), 3)) (hf : f = pc + 3) (hb : b < 6) (hx : am_if2 b t f S = am_ju t' S') (k : am_Nx p l e R s m args below meth c Q nL D cl z q n0 s0 t' S') : am_Nx p l e R s m args below meth c Q nL D cl z q n0 s0 pc S := by
  obtain ⟨ls, x, y, st, h, rfl, rfl, ht⟩ := iv_if2 hx
  subst hf
  intro H locs lsC hl hP hS hn hs
  have K := k H locs lsC hl hP hS hn hs
  have ht0 : (pc : Int) + ((t : Int) - (pc : Int)) = (t : Int) := by omega
  match b, hb with
  | 0, _ => exact lv_icmp_eq (tgt := t) F.1.1 F.1.2.1 hd ht0 (fun h => by rw [ht, if_pos (by simpa [am_cn] using h)] at K; exact K) (fun h => by rw [ht, if_neg (by simpa [am_cn] using h)] at K; exact K)
  | 1, _ => exact lv_icmp_ne (tgt := t) F.1.1 F.1.2.1 hd ht0 (fun h => by rw [ht, if_pos (by simpa [am_cn] using h)] at K; exact K) (fun h => by rw [ht, if_neg (by simpa [am_cn] using h)] at K; exact K)
  | 2, _ => exact lv_icmp_lt (tgt := t) F.1.1 F.1.2.1 hd ht0 (fun h => by rw [ht, if_pos (by simpa [am_cn] using h)] at K; exact K) (fun h => by rw [ht, if_neg (by simpa [am_cn] using h)] at K; exact K)
  | 3, _ => exact lv_icmp_ge (tgt := t) F.1.1 F.1.2.1 hd ht0 (fun h => by rw [ht, if_pos (by simpa [am_cn] using h)] at K; exact K) (fun h => by rw [ht, if_neg (by simpa [am_cn] using h)] at K; exact K)
  | 4, _ => exact lv_icmp_gt (tgt := t) F.1.1 F.1.2.1 hd ht0 (fun h => by rw [ht, if_pos (by simpa [am_cn] using h)] at K; exact K) (fun h => by rw [ht, if_neg (by simpa [am_cn] using h)] at K; exact K)
  | 5, _ => exact lv_icmp_le (tgt := t) F.1.1 F.1.2.1 hd ht0 (fun h => by rw [ht, if_pos (by simpa [am_cn] using h)] at K; exact K) (fun h => by rw [ht, if_neg (by simpa [am_cn] using h)] at K; exact K)
theorem sx_if1 {b t f t' : Nat} (F : am_Fx p R s m args meth c cc nL ret ini D cl z C4 q Ts own Ms LK n0) (hd : decode cc pc = .ok (.ifCond (am_cnd b) ((t : Int) - (pc : Int)), 3)) (hf : f = pc + 3) (hb : b < 6) (hx : am_if1 b t f S = am_ju t' S') (k : am_Nx p l e R s m args below meth c Q nL D cl z q n0 s0 t' S') : am_Nx p l e R s m args below meth c Q nL D cl z q n0 s0 pc S := by
  obtain ⟨ls, x, st, h, rfl, rfl, ht⟩ := iv_if1 hx
  subst hf
  intro H locs lsC hl hP hS hn hs
  have K := k H locs lsC hl hP hS hn hs
  have ht0 : (pc : Int) + ((t : Int) - (pc : Int)) = (t : Int) := by omega
  match b, hb with
  | 0, _ => exact lv_if_eq (tgt := t) F.1.1 F.1.2.1 hd ht0 (fun h => by rw [ht, if_pos (by simpa [am_cn] using h)] at K; exact K) (fun h => by rw [ht, if_neg (by simpa [am_cn] using h)] at K; exact K)
  | 1, _ => exact lv_if_ne (tgt := t) F.1.1 F.1.2.1 hd ht0 (fun h => by rw [ht, if_pos (by simpa [am_cn] using h)] at K; exact K) (fun h => by rw [ht, if_neg (by simpa [am_cn] using h)] at K; exact K)
  | 2, _ => exact lv_if_lt (tgt := t) F.1.1 F.1.2.1 hd ht0 (fun h => by rw [ht, if_pos (by simpa [am_cn] using h)] at K; exact K) (fun h => by rw [ht, if_neg (by simpa [am_cn] using h)] at K; exact K)
  | 3, _ => exact lv_if_ge (tgt := t) F.1.1 F.1.2.1 hd ht0 (fun h => by rw [ht, if_pos (by simpa [am_cn] using h)] at K; exact K) (fun h => by rw [ht, if_neg (by simpa [am_cn] using h)] at K; exact K)
  | 4, _ => exact lv_if_gt (tgt := t) F.1.1 F.1.2.1 hd ht0 (fun h => by rw [ht, if_pos (by simpa [am_cn] using h)] at K; exact K) (fun h => by rw [ht, if_neg (by simpa [am_cn] using h)] at K; exact K)
  | 5, _ => exact lv_if_le (tgt := t) F.1.1 F.1.2.1 hd ht0 (fun h => by rw [ht, if_pos (by simpa [am_cn] using h)] at K; exact K) (fun h => by rw [ht, if_neg (by simpa [am_cn] using h)] at K; exact K)
theorem iv_sw {lo d t' : Nat} {ts : List Nat} (hx : am_sw lo d ts S = am_ju t' S') : ∃ ls x st h, S = (ls, .int x :: st, h) ∧ S' = (ls, st, h) ∧ t' = am_swt lo d ts x := by
  unfold am_sw at hx
  split at hx
  · rename_i ls x st h
    cases hx
    exact ⟨ls, x, st, h, rfl, rfl, rfl⟩
  · cases hx
theorem sx_sw {lo d t' len : Nat} {ts : List Nat} (F : am_Fx p R s m args meth c cc nL ret ini D cl z C4 q Ts own Ms LK n0) (hd : decode cc pc = .ok (.tableswitch ((d : Int) - (pc : Int)) (lo : Int) ((lo + ts.length : Nat) - 1 : Int) (ts.map (fun (t : Nat) => (t : Int) - (pc : Int))).toArray, len)) (hx : am_sw lo d ts S = am_ju t' S') (k : am_Nx p l e R s m args below meth c Q nL D cl z q n0 s0 t' S') : am_Nx p l e R s m args below meth c Q nL D cl z q n0 s0 pc S := by
  obtain ⟨ls, x, st, h, rfl, rfl, ht⟩ := iv_sw hx
  intro H locs lsC hl hP hS hn hs
  have K := k H locs lsC hl hP hS hn hs
  unfold am_swt at ht
  by_cases h1 : x.toInt < (lo : Int) ∨ ((lo + ts.length : Nat) : Int) ≤ x.toInt
  · rw [if_pos h1] at ht
    subst ht
    exact lv_tableOut F.1.1 F.1.2.1 hd (by omega) (by omega) K
  · rw [if_neg h1] at ht
    have h2 : (x.toInt - (lo : Int)).toNat < ts.length := by omega
    refine lv_tableIn (off := (t' : Int) - (pc : Int)) F.1.1 F.1.2.1 hd (by omega) (by omega) ?_ (by omega) K
    rw [ht]
    generalize (x.toInt - (lo : Int)).toNat = j at h2 ⊢
    rw [List.getElem?_toArray, List.getElem?_map, List.getD_eq_getElem?_getD, List.getElem?_eq_getElem h2]
    rfl
end
