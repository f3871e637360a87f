section
variable {p : Program} {l : Launch} {e : Env} {R : Room} {s : State} {m : MethodId} {args : Array Value} {below : List Frame} {meth : Method} {c : Code} {Q : State → Prop} {cc : ByteArray} {nL : Nat} {ret : Option FieldType} {ini : Bool} {D : va_G} {cl : List vw_C} {z : am_Z} {C4 : String} {q : am_Q} {Ts : List Cond} {own : String} {Ms : Nat → am_M} {LK : List am_L} {n0 s0 pc : Nat} {S S' : am_S}
theorem sx_push {x : Value} {len : Nat} (hx : am_push x S = am_on S') (hr : ∀ {H : Heap} {locs : List Loc} {cells slots : Nat} {ls : Array Slot} {rest : List Value}, W p l e R s m args below meth c H locs cells slots Q (F0 m (pc + len) ls (am_v q x :: rest)) → W p l e R s m args below meth c H locs cells slots Q (F0 m pc ls rest)) (k : am_Nx p l e R s m args below meth c Q nL D cl z q n0 s0 (pc + len) S') : am_Nx p l e R s m args below meth c Q nL D cl z q n0 s0 pc S := by
  obtain ⟨ls, st, h⟩ := S
  cases hx
  intro H locs lsC hl hP hS hn hs
  exact hr (k H locs lsC hl hP hS hn hs)
theorem am_ofInt {n : Nat} : Int32.ofInt (n : Int) = nI n := by
  unfold nI
  exact Int32.ofInt_eq_ofNat
theorem am_ofInt8 {n : Nat} (h : n < 128) : (Int8.ofInt (n : Int)).toInt32 = nI n := by
  apply Int32.toInt_inj.mp
  rw [nI_toInt (by omega), Int8.toInt_toInt32, Int8.toInt_ofInt_of_le (by omega) (by omega)]
theorem am_ofInt16 {n : Nat} (h : n < 32768) : (Int16.ofInt (n : Int)).toInt32 = nI n := by
  apply Int32.toInt_inj.mp
  rw [nI_toInt (by omega), Int16.toInt_toInt32, Int16.toInt_ofInt_of_le (by omega) (by omega)]
theorem sx_iload {k0 len : Nat} {ins : Instr} (F : am_Fx p R s m args meth c cc nL ret ini D cl z C4 q Ts own Ms LK n0) (hd : decode cc pc = .ok (ins, len)) (hi : (∃ f : Fin 4, ins = .iload_n f ∧ f.val = k0 ∧ len = 1) ∨ (ins = .iload k0 ∧ len = 2)) (hx : am_lo k0 S am_isI = am_on S') (k : am_Nx p l e R s m args below meth c Q nL D cl z q n0 s0 (pc + len) S') : am_Nx p l e R s m args below meth c Q nL D cl z q n0 s0 pc S := by
  obtain ⟨h1, rfl⟩ := iv_lo hx
  obtain ⟨y, hy⟩ := am_isI_of h1
  intro H locs lsC hl hP hS hn hs
  have K := k H locs lsC hl hP hS hn hs
  have hv := am_lv_at hl hy (by simp)
  rw [hy] at K
  rcases hi with ⟨f, rfl, rfl, rfl⟩ | ⟨rfl, rfl⟩
  · exact lv_iload_n F.1.1 F.1.2.1 hd rfl hv K
  · exact lv_iload F.1.1 F.1.2.1 hd hv K
theorem sx_lload {k0 len : Nat} {ins : Instr} (F : am_Fx p R s m args meth c cc nL ret ini D cl z C4 q Ts own Ms LK n0) (hd : decode cc pc = .ok (ins, len)) (hi : (∃ f : Fin 4, ins = .lload_n f ∧ f.val = k0 ∧ len = 1) ∨ (ins = .lload k0 ∧ len = 2)) (hx : am_lo k0 S am_isL = am_on S') (k : am_Nx p l e R s m args below meth c Q nL D cl z q n0 s0 (pc + len) S') : am_Nx p l e R s m args below meth c Q nL D cl z q n0 s0 pc S := by
  obtain ⟨h1, rfl⟩ := iv_lo hx
  obtain ⟨y, hy⟩ := am_isL_of h1
  intro H locs lsC hl hP hS hn hs
  have K := k H locs lsC hl hP hS hn hs
  have hv := am_lv_at hl hy (by simp)
  rw [hy] at K
  rcases hi with ⟨f, rfl, rfl, rfl⟩ | ⟨rfl, rfl⟩
  · exact lv_lload_n F.1.1 F.1.2.1 hd rfl hv K
  · exact lv_lload F.1.1 F.1.2.1 hd hv K
theorem sx_aload {k0 len : Nat} {ins : Instr} (F : am_Fx p R s m args meth c cc nL ret ini D cl z C4 q Ts own Ms LK n0) (hd : decode cc pc = .ok (ins, len)) (hi : (∃ f : Fin 4, ins = .aload_n f ∧ f.val = k0 ∧ len = 1) ∨ (ins = .aload k0 ∧ len = 2)) (hx : am_lo k0 S am_isA = am_on S') (k : am_Nx p l e R s m args below meth c Q nL D cl z q n0 s0 (pc + len) S') : am_Nx p l e R s m args below meth c Q nL D cl z q n0 s0 pc S := by
  obtain ⟨h1, rfl⟩ := iv_lo hx
  obtain ⟨hne, y, hy⟩ := am_isA_of (q := q) h1
  intro H locs lsC hl hP hS hn hs
  have K := k H locs lsC hl hP hS hn hs
  have hv := am_lv_at hl rfl hne
  rw [List.map_cons, hy] at K
  rw [hy] at hv
  rcases hi with ⟨f, rfl, rfl, rfl⟩ | ⟨rfl, rfl⟩
  · exact lv_aload_n F.1.1 F.1.2.1 hd rfl hv K
  · exact lv_aload F.1.1 F.1.2.1 hd hv K
theorem sx_istore {k0 len : Nat} {ins : Instr} (F : am_Fx p R s m args meth c cc nL ret ini D cl z C4 q Ts own Ms LK n0) (hd : decode cc pc = .ok (ins, len)) (hi : (∃ f : Fin 4, ins = .istore_n f ∧ f.val = k0 ∧ len = 1) ∨ (ins = .istore k0 ∧ len = 2)) (hx : am_st1 k0 S am_isI = am_on S') (k : am_Nx p l e R s m args below meth c Q nL D cl z q n0 s0 (pc + len) S') : am_Nx p l e R s m args below meth c Q nL D cl z q n0 s0 pc S := by
  obtain ⟨ls, x, st, h, rfl, rfl, h1, h2, h3⟩ := iv_st1 hx
  obtain ⟨y, rfl⟩ := am_isI_of h1
  intro H locs lsC hl hP hS hn hs
  have h2' : k0 < nL := hl.1 ▸ h2
  rcases hi with ⟨f, rfl, rfl, rfl⟩ | ⟨rfl, rfl⟩
  · exact lv_istore_n F.1.1 F.1.2.1 hd rfl (am_kn_has hl) h2' rfl (fun ls' h' => k H locs ls' (am_lv_set1 hl h2 h3 h') hP hS hn hs)
  · exact lv_istore F.1.1 F.1.2.1 hd (am_kn_has hl) h2' rfl (fun ls' h' => k H locs ls' (am_lv_set1 hl h2 h3 h') hP hS hn hs)
theorem sx_astore {k0 len : Nat} {ins : Instr} (F : am_Fx p R s m args meth c cc nL ret ini D cl z C4 q Ts own Ms LK n0) (hd : decode cc pc = .ok (ins, len)) (hi : (∃ f : Fin 4, ins = .astore_n f ∧ f.val = k0 ∧ len = 1) ∨ (ins = .astore k0 ∧ len = 2)) (hx : am_st1 k0 S am_isA = am_on S') (k : am_Nx p l e R s m args below meth c Q nL D cl z q n0 s0 (pc + len) S') : am_Nx p l e R s m args below meth c Q nL D cl z q n0 s0 pc S := by
  obtain ⟨ls, x, st, h, rfl, rfl, h1, h2, h3⟩ := iv_st1 hx
  obtain ⟨-, y, hy⟩ := am_isA_of (q := q) h1
  intro H locs lsC hl hP hS hn hs
  have h2' : k0 < nL := hl.1 ▸ h2
  rw [List.map_cons, hy]
  rcases hi with ⟨f, rfl, rfl, rfl⟩ | ⟨rfl, rfl⟩
  · exact lv_astore_n F.1.1 F.1.2.1 hd rfl (am_kn_has hl) h2' rfl (fun ls' h' => k H locs ls' (am_lv_set1 hl h2 h3 (by rw [hy]; exact h')) hP hS hn hs)
  · exact lv_astore F.1.1 F.1.2.1 hd (am_kn_has hl) h2' rfl (fun ls' h' => k H locs ls' (am_lv_set1 hl h2 h3 (by rw [hy]; exact h')) hP hS hn hs)
theorem sx_lstore {k0 len : Nat} {ins : Instr} (F : am_Fx p R s m args meth c cc nL ret ini D cl z C4 q Ts own Ms LK n0) (hd : decode cc pc = .ok (ins, len)) (hi : (∃ f : Fin 4, ins = .lstore_n f ∧ f.val = k0 ∧ len = 1) ∨ (ins = .lstore k0 ∧ len = 2)) (hx : am_st2 k0 S = am_on S') (k : am_Nx p l e R s m args below meth c Q nL D cl z q n0 s0 (pc + len) S') : am_Nx p l e R s m args below meth c Q nL D cl z q n0 s0 pc S := by
  obtain ⟨ls, x, st, h, rfl, rfl, h2, h3⟩ := iv_st2 hx
  intro H locs lsC hl hP hS hn hs
  have h2' : k0 + 1 < nL := hl.1 ▸ h2
  rcases hi with ⟨f, rfl, rfl, rfl⟩ | ⟨rfl, rfl⟩
  · exact lv_lstore_n F.1.1 F.1.2.1 hd rfl (am_kn_has hl) h2' rfl (fun ls' h' => k H locs ls' (am_lv_set2 hl h2 h3 h') hP hS hn hs)
  · exact lv_lstore F.1.1 F.1.2.1 hd (am_kn_has hl) h2' rfl (fun ls' h' => k H locs ls' (am_lv_set2 hl h2 h3 h') hP hS hn hs)
theorem sx_inc {k0 : Nat} {x : Int32} {n : Int} (F : am_Fx p R s m args meth c cc nL ret ini D cl z C4 q Ts own Ms LK n0) (hd : decode cc pc = .ok (.iinc k0 n, 3)) (hn : Int32.ofInt n = x) (hx : am_inc k0 x S = am_on S') (k : am_Nx p l e R s m args below meth c Q nL D cl z q n0 s0 (pc + 3) S') : am_Nx p l e R s m args below meth c Q nL D cl z q n0 s0 pc S := by
  obtain ⟨ls, st, h, y, rfl, rfl, h1, h2⟩ := iv_inc hx
  intro H locs lsC hl hP hS hn0 hs
  have hk : k0 < ls.length := by
    rcases Nat.lt_or_ge k0 ls.length with h | h
    · exact h
    · rw [List.getD_eq_getElem?_getD, List.getElem?_eq_none h] at h1
      cases h1
  have hm : (k0, Value.int y) ∈ am_kn lsC nL := am_kn_in.mpr ⟨hl.1 ▸ hk, am_lv_at hl h1 (by simp)⟩
  obtain ⟨j, hj⟩ := List.getElem?_of_mem hm
  exact lv_iinc F.1.1 F.1.2.1 hd (am_kn_has hl) hj (by rw [hn]) (hl.1 ▸ hk) rfl (fun ls' h' => k H locs ls' (am_lv_set1 hl hk h2 h') hP hS hn0 hs)
theorem sx_i2 {f : Int32 → Int32 → Int32} {len : Nat} (hx : am_i2 f S = am_on S') (hr : ∀ {H : Heap} {locs : List Loc} {cells slots : Nat} {ls : Array Slot} {rest : List Value} {x y : Int32}, W p l e R s m args below meth c H locs cells slots Q (F0 m (pc + len) ls (.int (f x y) :: rest)) → W p l e R s m args below meth c H locs cells slots Q (F0 m pc ls (.int y :: .int x :: rest))) (k : am_Nx p l e R s m args below meth c Q nL D cl z q n0 s0 (pc + len) S') : am_Nx p l e R s m args below meth c Q nL D cl z q n0 s0 pc S := by
  obtain ⟨ls, x, y, st, h, rfl, rfl⟩ := iv_i2 hx
  intro H locs lsC hl hP hS hn hs
  exact hr (k H locs lsC hl hP hS hn hs)
theorem sx_i2z {f : Int32 → Int32 → Int32} {len : Nat} (hx : am_i2z f S = am_on S') (hr : ∀ {H : Heap} {locs : List Loc} {cells slots : Nat} {ls : Array Slot} {rest : List Value} {x y : Int32}, ¬ y = 0 → W p l e R s m args below meth c H locs cells slots Q (F0 m (pc + len) ls (.int (f x y) :: rest)) → W p l e R s m args below meth c H locs cells slots Q (F0 m pc ls (.int y :: .int x :: rest))) (k : am_Nx p l e R s m args below meth c Q nL D cl z q n0 s0 (pc + len) S') : am_Nx p l e R s m args below meth c Q nL D cl z q n0 s0 pc S := by
  obtain ⟨ls, x, y, st, h, rfl, rfl, hy⟩ := iv_i2z hx
  intro H locs lsC hl hP hS hn hs
  exact hr hy (k H locs lsC hl hP hS hn hs)
theorem sx_i1 {f : Int32 → Int32} {len : Nat} (hx : am_i1 f S = am_on S') (hr : ∀ {H : Heap} {locs : List Loc} {cells slots : Nat} {ls : Array Slot} {rest : List Value} {x : Int32}, W p l e R s m args below meth c H locs cells slots Q (F0 m (pc + len) ls (.int (f x) :: rest)) → W p l e R s m args below meth c H locs cells slots Q (F0 m pc ls (.int x :: rest))) (k : am_Nx p l e R s m args below meth c Q nL D cl z q n0 s0 (pc + len) S') : am_Nx p l e R s m args below meth c Q nL D cl z q n0 s0 pc S := by
  obtain ⟨ls, x, st, h, rfl, rfl⟩ := iv_i1 hx
  intro H locs lsC hl hP hS hn hs
  exact hr (k H locs lsC hl hP hS hn hs)
theorem sx_l2 {f : Int64 → Int64 → Int64} {len : Nat} (hx : am_l2 f S = am_on S') (hr : ∀ {H : Heap} {locs : List Loc} {cells slots : Nat} {ls : Array Slot} {rest : List Value} {x y : Int64}, W p l e R s m args below meth c H locs cells slots Q (F0 m (pc + len) ls (.long (f x y) :: rest)) → W p l e R s m args below meth c H locs cells slots Q (F0 m pc ls (.long y :: .long x :: rest))) (k : am_Nx p l e R s m args below meth c Q nL D cl z q n0 s0 (pc + len) S') : am_Nx p l e R s m args below meth c Q nL D cl z q n0 s0 pc S := by
  obtain ⟨ls, x, y, st, h, rfl, rfl⟩ := iv_l2 hx
  intro H locs lsC hl hP hS hn hs
  exact hr (k H locs lsC hl hP hS hn hs)
theorem sx_fr {a : Nat} (F : am_Fx p R s m args meth c cc nL ret ini D cl z C4 q Ts own Ms LK n0) : am_v q (.ref a) = .ref (z.2.2.2 + a) := by
  rw [am_v_ref, F.2.2.2.1]
theorem am_fv_at {h : am_H} {a ci k : Nat} (hk : k < z.1 ci) : ((List.range (z.1 ci)).map (am_fv z h a ci))[k]? = some (am_fv z h a ci k) := by
  simp [hk]
theorem sx_get {ci k0 x0 : Nat} {f : am_H → Nat → Option Value} (F : am_Fx p R s m args meth c cc nL ret ini D cl z C4 q Ts own Ms LK n0) (hd : decode cc pc = .ok (.getfield x0, 3)) (hlk : (0, x0, ci, k0) ∈ LK) (hf : ∀ h a y, f h a = some y → am_v q y = am_fv z h a ci k0) (hx : am_get ci k0 S f = am_on S') (k : am_Nx p l e R s m args below meth c Q nL D cl z q n0 s0 (pc + 3) S') : am_Nx p l e R s m args below meth c Q nL D cl z q n0 s0 pc S := by
  obtain ⟨ls, a, st, h, y, rfl, rfl, h1, h2⟩ := iv_get hx
  obtain ⟨ha, hk⟩ := am_ob_of h1
  obtain ⟨r, hr, hk0, hw⟩ := F.2.2.2.2.2.1 _ hlk
  obtain ⟨hz, hin, -, -, -, -⟩ := F.2.2.2.2.1 ci r hr
  intro H locs lsC hl hP hS hn hs
  have K := k H locs lsC hl hP hS hn hs
  rw [List.map_cons, hf _ _ _ h2] at K
  show W p l e R s m args below meth c H locs _ _ Q (F0 m pc lsC (am_v q (.ref a) :: st.map (am_v q)))
  rw [sx_fr F]
  exact va_get (D := D) (ci := ci) (C := r.1) (T := r.2.1) (N := r.2.2) F.1.1 F.1.2.1 F.2.1 hin F.1.2.2.2 F.2.2.1 hP a (by rw [am_ws_get ha, am_ce_ob hk]) hr k0 hk0 (F.2.1 _ hw) (fun _ h => h) (am_fv_at (by rw [hz]; exact hk0)) hd K
end
