/-! laid by wip/whole/j1.py: the claim out of the walk in our own machine (the heads are the skeleton's) -/
def R_law : String := "KneeStairLaw"
def lw_P (b : Addr) (xs : List Int32) (args : Array Value) (s : State) : Prop := args = #[.ref b] ∧ s.IntsAt b xs ∧ xs.length ≤ 3072 ∧ (Jvm.Cond.and given_1 narrow_1).before args s = true
def lw_Q (_ : Array Value) (s : State) (o : Outcome) (t : State) : Prop := o = .returned (some (.int 1)) ∧ Framed s o t [] 600000 7302250
def lw_Z (below : List Frame) (a : Array Value) (s : State) : State → Prop := fun t => ∃ o, t.status = .running ∧ Ended t below o ∧ lw_Q a s o t
def lw_At (p : Program) (s : State) (m : MethodId) (meth : Method) (c : Code) (b L : Nat) (xs : Nat → Int32) : Prop :=
  p.tables.exec = Jvm.exec ∧ c.code = code ∧ meth.sig.returnType = ret ∧ c.maxLocals = 4 ∧ s.vm.findClass R_law = some m.cls ∧ (∀ w ∈ lw_tbl, w.before #[Value.ref b] s = true) ∧ va_X b L xs s s.heap ∧ b < s.heap.size ∧ meth.locks = false ∧ (Jvm.Cond.and given_1 narrow_1).before #[Value.ref b] s = true
/-- nothing that was there before has changed: what the walk has written lies behind it -/
theorem lw_same {s t : State} {LL : List Loc} {k n : Nat} (hk : k ≤ 600000) (hn : n ≤ 7302250) (hfree : ∀ q ∈ LL, s.heap.size ≤ q.base) (h : s.sameButNew { t with vm := s.vm } LL k n) : s.sameButNew { t with vm := s.vm } [] 600000 7302250 := by
  obtain ⟨e1, e2, e3, e4, e5, e6⟩ := h
  refine ⟨e1, e2, Nat.le_trans e3 (Nat.add_le_add_left hk _), e4, Nat.le_trans e5 hn, fun a c hc => ?_⟩
  obtain ⟨c', k1, k2, k3, k4⟩ := e6 a c hc
  refine ⟨c', k1, k2, k3, fun i _ => k4 i (fun hm => ?_)⟩
  have h1 : s.heap.size ≤ a := hfree _ hm
  exact Nat.lt_irrefl _ (Nat.lt_of_lt_of_le (Array.getElem?_eq_some_iff.mp hc).1 h1)
theorem lw_end {below : List Frame} {D : va_G} {cl : List vw_C} {z : am_Z} {q : am_Q} {r : Option Value} {h' : am_H} {b : Nat} {s t : State} (hz : z.2.2.2 = s.heap.size) (hr : r = some (.int (nI 1))) (hn : h'.1 = 428) (hs : h'.2.1 = 26053) (h : MQ below (am_Qc D cl z q r h') #[Value.ref b] s (h'.1 - 0) (h'.2.1 - 0) (fun a => z.2.2.2 ≤ a) t) : lw_Z below #[Value.ref b] s t := by
  obtain ⟨o, h1, h2, ⟨ho, -, -⟩, LL, ⟨f1, f2, f3⟩, hfree⟩ := h
  subst hr
  have e1 : o = .returned (some (.int 1)) := ho
  refine ⟨o, h1, h2, e1, f1, f2, lw_same (k := h'.1 - 0) (n := h'.2.1 - 0) ?_ ?_ (fun y hy => ?_) f3⟩
  · rw [hn]; exact Nat.le_of_ble_eq_true rfl
  · rw [hs]; exact Nat.le_of_ble_eq_true rfl
  · rw [← hz]; exact hfree y hy
set_option maxHeartbeats 4000000 in
theorem whole_start {p : Program} {e : Env} {s : State} {m : MethodId} {below : List Frame} {meth : Method} {c : Code} (l : Launch) (hflags : l.flags = flags0) {b L : Nat} {xs : Nat → Int32} (hL : L ≤ 3072) (C0 : lw_At p s m meth c b L xs) : W p l e room_1 s m #[Value.ref b] below meth c s.heap [] 0 0 (lw_Z below #[Value.ref b] s) (entryFrame m ([Value.ref b] : List Value).toArray 4) := by
  obtain ⟨hx, hb, hr, hml, hown, hts, hX, hbl, hlocks, hgv⟩ := C0
  have hT : ∀ w ∈ am_T, w.before #[Value.ref b] s = true := fun w hw => hts w (List.mem_filter.mp hw).1
  obtain ⟨adK, adV, hsp⟩ := sp_of hgv hts
  obtain ⟨ta, hta⟩ := ar_all hts
  obtain ⟨z, hzz⟩ : ∃ z : am_Z, z = ((fun c => (vwCl.getD c (RX0, TX0, 0)).2.2), am_tf, ta, s.heap.size) := ⟨_, rfl⟩
  have htb : am_tb vwCl z am_T := tb_ok (by subst hzz; rfl) (by subst hzz; rfl)
  obtain ⟨D, hD⟩ := kn_all hT htb
  have hz : z.2.2.2 = s.heap.size := by subst hzz; rfl
  have hz1 : z.2.1 = am_tf := by subst hzz; rfl
  have hK : va_K D vwCl (am_tys z RX4) s := ⟨hD, by subst hzz; exact hta⟩
  rw [← hz] at hsp
  obtain ⟨q, hqq⟩ : ∃ q : am_Q, q = (b, z.2.2.2, fun i => adK (i01 i)) := ⟨_, rfl⟩
  have hq1 : q.1 = b := by subst hqq; rfl
  have hq2 : q.2.1 = z.2.2.2 := by subst hqq; rfl
  have hq3 : q.2.2 = fun i => adK (i01 i) := by subst hqq; rfl
  have hSt : am_St l D vwCl z RX4 q am_T am_Ms (SPq z.2.2.2 RX4 adK adV) am_X0 := ⟨hq2, htb, tb_ac, ⟨_, rfl, rfl⟩, fun U h => h.1, tb_good, SPq_ok, am_str hq3⟩
  have hpg : ∀ m, (am_Pr m).2 0 ≠ [] → am_pg vwCl am_T z.2.1 am_Ms am_Pr (fun m => am_Lk (am_Ms m).2.2.2.2.2) m := fun m h0 => by rw [hz1]; exact pg_all m h0
  have hcall := am_call_sound hSt hpg
  obtain ⟨n, r, h', e1, er, en, es⟩ := law_start (d := 0) (X := (L, xs)) (u := 0) (Q := fun r h' => r = some (.int (nI 1)) ∧ h'.1 = 428 ∧ h'.2.1 = 26053) hL (fun v' w' => ⟨rfl, rfl, rfl⟩)
  have F : am_Fx p room_1 s m #[Value.ref b] meth c code 4 ret false D vwCl z RX4 q am_T "KneeStairLaw" am_Ms lkL 0 := ⟨⟨hx, hb, hml, hown⟩, hT, hK, hq2, htb, lkL_ok, hz.symm, hr, hlocks, fun h => (by cases h), Nat.le_of_ble_eq_true rfl, Nat.le_of_ble_eq_true rfl⟩
  have Cx : am_Cx p l e room_1 s m #[Value.ref b] below meth c (MQ below (am_Qc D vwCl z q r h') #[Value.ref b] s (h'.1 - 0) (h'.2.1 - 0) (fun a => z.2.2.2 ≤ a)) code 4 ret false D vwCl z RX4 q am_T "KneeStairLaw" am_Ms lkL 0 0 (L, xs) :=
    ⟨F, tb_ac, ⟨_, rfl, rfl⟩, hsp.1, fun _ => by rw [hq1, hz]; exact ⟨hX, hbl, Nat.not_le.mpr hbl⟩, am_str (X := (L, xs)) hq3 p e _ s m _ below meth c _ _ _ _ _ _ _ _ _ F hsp⟩
  have hN := am_gs (d := 0 + 29) Cx tb_good SPq_ok hsp (by rw [hz1]; exact pg_law) (fun m as h r h' => am_call_mono (0 + 29) n m as h r h') (fun m as h r h' => hcall (0 + 29) n m as h r h') ⟨Nat.le_of_ble_eq_true rfl, Nat.le_of_ble_eq_true rfl⟩ ⟨by rw [en]; exact Nat.le_of_ble_eq_true rfl, by rw [es]; exact Nat.le_of_ble_eq_true rfl⟩ n 0 _ e1
  have hP0 : va_P D vwCl (am_ws z e0H) s.heap := fun k y hy => absurd (am_ws_at hy).1 (Nat.not_lt_zero _)
  have hW := hN s.heap [] _ (am_lv_ent (q := q) (as := [.float 0]) (nL := 4) (by decide)) hP0 va_S.rf (Nat.le_refl _) (Nat.le_refl _)
  rw [lg_entry_eq]
  have ev : am_v q (.float 0) = .ref b := congrArg Value.ref hq1
  intro T hT1 X1
  rw [show ([.float 0] : List Value).map (am_v q) = [.ref b] by rw [List.map_cons, ev, List.map_nil]] at hW
  obtain ⟨t, a1, b1⟩ := hW T hT1 X1
  exact ⟨t, a1, lw_end hz er en es b1⟩
