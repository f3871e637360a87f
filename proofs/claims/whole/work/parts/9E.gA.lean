/-! laid by wip/whole/gA.py: a TELL, by itself; the class: readTell -/
abbrev LAWD : Type := List BRD × CL
/-- a draft: top, oil, pilgrims, their rows (name, step, knees, doubt, sorest, wage, kneels), the laws -/
abbrev DRF : Type := Nat × Nat × Nat × (Nat → Nat → Nat) × Option LAWD × Option LAWD
def lwc (d : CL) : Option LAWD → CL
  | none => d
  | some x => lcode 0 x.1 x.2
def dM : CL := [(1, nI 0), (1, nI 1), (3, nI 0)]
def dH : CL := [(1, nI 5)]
def DX (v : Nat → Nat → Int32) (w : Nat → Nat → Int64) (D : DRF) : Prop := v 3 0 = nI D.1 ∧ v 3 1 = nI D.2.1 ∧ NX v w D.2.2.1 (D.2.2.2.1 0) ∧ (∀ p, p < D.2.2.1 → v 4 p = nI (D.2.2.2.1 1 p) ∧ v 5 p = nI (D.2.2.2.1 2 p) ∧ v 6 p = nI (D.2.2.2.1 3 p) ∧ v 7 p = nI (D.2.2.2.1 4 p) ∧ v 8 p = nI (D.2.2.2.1 5 p) ∧ v 9 p = nI (D.2.2.2.1 6 p)) ∧ LC v 10 (lwc dM D.2.2.2.2.1) ∧ (lwc dM D.2.2.2.2.1).length ≤ 400 ∧ LC v 15 (lwc dH D.2.2.2.2.2) ∧ (lwc dH D.2.2.2.2.2).length ≤ 400
theorem DX_2 {v v' : Nat → Nat → Int32} {w : Nat → Nat → Int64} {D : DRF} (h : DX v w D) (e : F2 v v') : DX v' w D := by
  obtain ⟨h1, h2, h3, h4, h5, h6, h7, h8⟩ := h
  refine ⟨by rw [e 3 (by omega)]; exact h1, by rw [e 3 (by omega)]; exact h2, NX_2 h3 e, ?_, LC_2 (Or.inl rfl) h5 e, h6, LC_2 (Or.inr rfl) h7 e, h8⟩
  rw [e 4 (by omega), e 5 (by omega), e 6 (by omega), e 7 (by omega), e 8 (by omega), e 9 (by omega)]
  exact h4
def plF (E : ENV) (nm : Nat → Nat) (n : Nat) (s : SG) (k : Nat) : Nat := if k = 0 then nameV E (pl1 E s) else if k = 1 then numV E 0 (pl2 E nm n s) else if k = 2 then numV E 0 (pl3 E nm n s) else if k = 3 then numV E 0 (pl4 E nm n s) else if k = 4 then numV E 1 (pl5 E nm n s) else if k = 5 then numV E 0 (pl6 E nm n s) else if plK E nm n s = true then 1 else 0
def updR (r : Nat → Nat → Nat) (n : Nat) (f : Nat → Nat) (k p : Nat) : Nat := if p = n then f k else r k p
/-- a LAW's TELL from its word on -/
def LTL (E : ENV) (t l p : Nat) (s' : SG) (k : LAWD → Prop) : Prop := (∃ f, tkR E t = .inl f ∧ s' = (.inl f, l, p)) ∨ (tkR E t = .inr (t + 1) ∧ ((∃ f, LAWR E (t + 1) (.inl f) ∧ s' = (.inl f, l, p)) ∨ ∃ t' bs C, LAWR E (t + 1) (.inr (t', bs, C)) ∧ s' = wantS E 4 (.inr t', l, p) ∧ k (bs, C)))
/-- a TELL -/
def TLR (E : ENV) (t l p : Nat) (D : DRF) (s' : SG) (D' : DRF) : Prop :=
  (eK E t = 20 ∧ s' = wantS E 4 (numS E 1 99 (takeS E (.inr t, l, p))) ∧ D' = (numV E 1 (takeS E (.inr t, l, p)), D.2)) ∨
  (eK E t = 21 ∧ D.2.2.1 = 8 ∧ s' = (.inl (2, eP E t), l, p)) ∨
  (eK E t = 21 ∧ D.2.2.1 < 8 ∧ s' = wantS E 4 (pl8 E (D.2.2.2.1 0) D.2.2.1 (.inr t, l, p)) ∧ D' = (D.1, D.2.1, D.2.2.1 + 1, updR D.2.2.2.1 D.2.2.1 (plF E (D.2.2.2.1 0) D.2.2.1 (.inr t, l, p)), D.2.2.2.2)) ∨
  (eK E t = 22 ∧ LTL E t l p s' (fun x => D' = (D.1, D.2.1, D.2.2.1, D.2.2.2.1, some x, D.2.2.2.2.2))) ∨
  (eK E t = 23 ∧ LTL E t l p s' (fun x => D' = (D.1, D.2.1, D.2.2.1, D.2.2.2.1, D.2.2.2.2.1, some x))) ∨
  (eK E t = 24 ∧ s' = wantS E 4 (numS E 0 99 (takeS E (.inr t, l, p))) ∧ D' = (D.1, numV E 0 (takeS E (.inr t, l, p)), D.2.2)) ∨
  (eK E t ≠ 20 ∧ eK E t ≠ 21 ∧ eK E t ≠ 22 ∧ eK E t ≠ 23 ∧ eK E t ≠ 24 ∧ s' = (.inl (1, eP E t), l, p))
theorem mo_take {E : ENV} {s : SG} {t' : Nat} (h : (takeS E s).1 = .inr t') : ∃ t, s.1 = .inr t ∧ t' = t + 1 := by
  obtain ⟨r, q⟩ := s
  cases r with
  | inl e => cases h
  | inr t => exact ⟨t, rfl, (tk_lt h).1⟩
theorem mo_want {E : ENV} {s : SG} {j t' : Nat} (h : (wantS E j s).1 = .inr t') : ∃ t, s.1 = .inr t ∧ t' = t + 1 := by
  obtain ⟨r, q⟩ := s
  cases r with
  | inl e => cases h
  | inr t => exact ⟨t, rfl, (wn_lt h).1⟩
theorem la_1 {E : ENV} {s : SG} {k : Nat} : (lateS E k s).1 = s.1 := by
  obtain ⟨r, l, p⟩ := s
  cases r with
  | inl e => rfl
  | inr t =>
    unfold lateS
    dsimp only
    split <;> rfl
theorem mo_num {E : ENV} {s : SG} {lo hi t' : Nat} (h : (numS E lo hi s).1 = .inr t') : ∃ t, s.1 = .inr t ∧ t' = t + 1 := by
  obtain ⟨r, q⟩ := s
  cases r with
  | inl e => cases h
  | inr t =>
    refine ⟨t, rfl, ?_⟩
    unfold numS at h
    dsimp only at h
    split at h
    · split at h
      · obtain ⟨t1, e1, e2⟩ := mo_take h
        rw [la_1] at e1
        cases e1
        exact e2
      · obtain ⟨t1, e1, e2⟩ := mo_take h
        cases e1
        exact e2
    · cases h
theorem mo_name {E : ENV} {s : SG} {told : Nat → Bool} {t' : Nat} (h : (nameS E told s).1 = .inr t') : ∃ t, s.1 = .inr t ∧ t' = t + 1 := by
  obtain ⟨r, q⟩ := s
  cases r with
  | inl e => cases h
  | inr t =>
    refine ⟨t, rfl, ?_⟩
    unfold nameS at h
    dsimp only at h
    split at h
    · split at h
      · obtain ⟨t1, e1, e2⟩ := mo_take h
        rw [la_1] at e1
        cases e1
        exact e2
      · obtain ⟨t1, e1, e2⟩ := mo_take h
        cases e1
        exact e2
    · cases h
theorem mo_pl {E : ENV} {s : SG} {nm : Nat → Nat} {n t' : Nat} (h : (pl8 E nm n s).1 = .inr t') : ∃ t, s.1 = .inr t ∧ t < t' := by
  have h7 : ∃ t7, (pl7 E nm n s).1 = .inr t7 ∧ t7 ≤ t' := by
    unfold pl8 at h
    split at h
    · obtain ⟨t7, e1, e2⟩ := mo_take h
      exact ⟨t7, e1, by omega⟩
    · exact ⟨t', h, Nat.le_refl _⟩
  obtain ⟨t7, e7, l7⟩ := h7
  obtain ⟨t6, e6, l6⟩ := mo_num e7
  obtain ⟨t5, e5, l5⟩ := mo_num e6
  obtain ⟨t4, e4, l4⟩ := mo_num e5
  obtain ⟨t3, e3, l3⟩ := mo_num e4
  obtain ⟨t2, e2, l2⟩ := mo_num e3
  obtain ⟨t1, e1, l1⟩ := mo_name e2
  obtain ⟨t0, e0, l0⟩ := mo_take e1
  exact ⟨t0, e0, by omega⟩
/-- what a TELL changes -/
def FT (v v' : Nat → Nat → Int32) (w w' : Nat → Nat → Int64) : Prop := (∀ c, c ≠ 2 → (c < 3 ∨ 19 < c) → v' c = v c) ∧ ∀ c, c ≠ 24 → w' c = w c
theorem swr_20 : am_swt 256 129 [44, 65, 129, 72, 90, 108] (nI 256) = 44 := by decide
theorem swr_21 : am_swt 256 129 [44, 65, 129, 72, 90, 108] (nI 257) = 65 := by decide
theorem swr_22 : am_swt 256 129 [44, 65, 129, 72, 90, 108] (nI 259) = 72 := by decide
theorem swr_23 : am_swt 256 129 [44, 65, 129, 72, 90, 108] (nI 260) = 90 := by decide
theorem swr_24 : am_swt 256 129 [44, 65, 129, 72, 90, 108] (nI 261) = 108 := by decide
theorem swr_d : ∀ k, k < 37 → (okK k = true ∧ k ≠ 20 ∧ k ≠ 21 ∧ k ≠ 22 ∧ k ≠ 23 ∧ k ≠ 24) → am_swt 256 129 [44, 65, 129, 72, 90, 108] (nI (cK k)) = 129 := by decide +kernel
theorem nm_lt {E : ENV} (h : EV E) {s : SG} (hs : ∀ t, s.1 = .inr t → t ≤ eL E) : nameV E s < 2 ^ 63 := by
  obtain ⟨r, q⟩ := s
  cases r with
  | inl e => show 0 < 2 ^ 63; decide
  | inr t =>
    show (if eK E t = 1 then eM E t else 0) < 2 ^ 63
    split
    · rename_i hk
      exact (h.2.2.2.2.1 t (hs t rfl)).2.2 hk
    · decide
set_option maxHeartbeats 4000000 in
theorem k_tell {d : Nat} {v : Nat → Nat → Int32} {w : Nat → Nat → Int64} {Q : Option Value → am_H → Prop} {E : ENV} {t l p : Nat} {D : DRF} (hE : CE E v w) (hG : CG E v t l p) (hD : DX v w D) (hk0 : eK E t ≠ 0) (hQ : ∀ v' w' s' D', TLR E t l p D s' D' → FT v v' w w' → CS E v' s' → (∀ t', s'.1 = .inr t' → t < t' ∧ DX v' w' D') → Q none (428, 26053, KD, RF, v', w')) : am_Ca (d + 27) M_Reader_readTell [.ref 2] (428, 26053, KD, RF, v, w) Q := by
  have hs : CS E v (.inr t, l, p) := hG
  refine ca_in (k := k_Reader_readTell) (nL := 1) rfl (Nat.le_of_ble_eq_true rfl) ?_
  show am_Go am_X0 _ k_Reader_readTell 0 ([.ref 2], [], _) _
  by_cases h20 : eK E t = 20
  · have hK := h20
    refine go_at (blk := b_Reader_readTell_0) rfl ?_
    simp (disch := omega) only [b_Reader_readTell_0, be_6, be_57_0, kc_2, List.getD_cons_zero, List.getD_cons_succ, List.set_cons_zero, List.set_cons_succ, List.length_cons, List.length_nil, pk_I, pk_A, pr_A, pi_I, st_s, st_n, if_true, if_false, eq_self, d_if, d_ju, d_re, d_ca, cat0, cat1, cat2, cat3, fr_z, fr_s, cc_I, cc_A, cc_N, Nat.reduceAdd, Nat.reduceLT, Nat.reduceLeDiff, Nat.reduceEqDiff, not_true, not_false_iff, z1_0, z1_1, Bool.and_self, Bool.true_and, Bool.and_true, nI_add, pk_mul, nI_clamp, decide_true, Nat.le_refl, bI_eq, bI_z1, swr_20, am_u_at, am_u_ne, upd_at, upd_ne]
    refine k_kind hE hs ?_
    rw [show kdR E (.inr t, l, p) = eK E t from rfl, hK, show cK 20 = 256 from rfl]
    refine go_at (blk := b_Reader_readTell_4) rfl ?_
    simp (disch := omega) only [b_Reader_readTell_4, be_52, List.getD_cons_zero, List.getD_cons_succ, List.set_cons_zero, List.set_cons_succ, List.length_cons, List.length_nil, pk_I, pk_A, pr_A, pi_I, st_s, st_n, if_true, if_false, eq_self, d_if, d_ju, d_re, d_ca, cat0, cat1, cat2, cat3, fr_z, fr_s, cc_I, cc_A, cc_N, Nat.reduceAdd, Nat.reduceLT, Nat.reduceLeDiff, Nat.reduceEqDiff, not_true, not_false_iff, z1_0, z1_1, Bool.and_self, Bool.true_and, Bool.and_true, nI_add, pk_mul, nI_clamp, decide_true, Nat.le_refl, bI_eq, bI_z1, swr_20, am_u_at, am_u_ne, upd_at, upd_ne]
    refine go_at (blk := b_Reader_readTell_44) rfl ?_
    simp (disch := omega) only [b_Reader_readTell_44, be_6, be_57_0, kc_2, List.getD_cons_zero, List.getD_cons_succ, List.set_cons_zero, List.set_cons_succ, List.length_cons, List.length_nil, pk_I, pk_A, pr_A, pi_I, st_s, st_n, if_true, if_false, eq_self, d_if, d_ju, d_re, d_ca, cat0, cat1, cat2, cat3, fr_z, fr_s, cc_I, cc_A, cc_N, Nat.reduceAdd, Nat.reduceLT, Nat.reduceLeDiff, Nat.reduceEqDiff, not_true, not_false_iff, z1_0, z1_1, Bool.and_self, Bool.true_and, Bool.and_true, nI_add, pk_mul, nI_clamp, decide_true, Nat.le_refl, bI_eq, bI_z1, swr_20, am_u_at, am_u_ne, upd_at, upd_ne]
    refine k_take hE hs (fun t' ht => ?_) ?_
    · have e9 : t = t' := by simpa using ht
      subst e9
      exact ⟨by omega, by omega⟩
    intro v1 f1 s1
    have hE1 := CE_2 hE f1
    refine go_at (blk := b_Reader_readTell_48) rfl ?_
    simp (disch := omega) only [b_Reader_readTell_48, be_6, be_34, be_1, be_57_2, kc_2, rf_2_0, List.getD_cons_zero, List.getD_cons_succ, List.set_cons_zero, List.set_cons_succ, List.length_cons, List.length_nil, pk_I, pk_A, pr_A, pi_I, st_s, st_n, if_true, if_false, eq_self, d_if, d_ju, d_re, d_ca, cat0, cat1, cat2, cat3, fr_z, fr_s, cc_I, cc_A, cc_N, Nat.reduceAdd, Nat.reduceLT, Nat.reduceLeDiff, Nat.reduceEqDiff, not_true, not_false_iff, z1_0, z1_1, Bool.and_self, Bool.true_and, Bool.and_true, nI_add, pk_mul, nI_clamp, decide_true, Nat.le_refl, bI_eq, bI_z1, swr_20, am_u_at, am_u_ne, upd_at, upd_ne]
    refine k_num (lo := 1) (hi := 99) (s := takeS E (.inr t, l, p)) hE1 s1 (by omega) (by omega) ?_
    intro v2 f2 s2
    have hE2 : CE E (am_u v2 3 0 (nI (numV E 1 (takeS E (.inr t, l, p))))) w := CE_w (CE_2 hE1 f2) (by rw [am_u_ne (by omega)]) (by rw [am_u_ne (by omega)])
    refine go_at (blk := b_Reader_readTell_59) rfl ?_
    simp (disch := omega) only [b_Reader_readTell_59, be_35, be_51, kc_3, List.getD_cons_zero, List.getD_cons_succ, List.set_cons_zero, List.set_cons_succ, List.length_cons, List.length_nil, pk_I, pk_A, pr_A, pi_I, st_s, st_n, if_true, if_false, eq_self, d_if, d_ju, d_re, d_ca, cat0, cat1, cat2, cat3, fr_z, fr_s, cc_I, cc_A, cc_N, Nat.reduceAdd, Nat.reduceLT, Nat.reduceLeDiff, Nat.reduceEqDiff, not_true, not_false_iff, z1_0, z1_1, Bool.and_self, Bool.true_and, Bool.and_true, nI_add, pk_mul, nI_clamp, decide_true, Nat.le_refl, bI_eq, bI_z1, swr_20, am_u_at, am_u_ne, upd_at, upd_ne]
    refine go_at (blk := b_Reader_readTell_134) rfl ?_
    simp (disch := omega) only [b_Reader_readTell_134, be_6, be_1, be_57_1, kc_2, List.getD_cons_zero, List.getD_cons_succ, List.set_cons_zero, List.set_cons_succ, List.length_cons, List.length_nil, pk_I, pk_A, pr_A, pi_I, st_s, st_n, if_true, if_false, eq_self, d_if, d_ju, d_re, d_ca, cat0, cat1, cat2, cat3, fr_z, fr_s, cc_I, cc_A, cc_N, Nat.reduceAdd, Nat.reduceLT, Nat.reduceLeDiff, Nat.reduceEqDiff, not_true, not_false_iff, z1_0, z1_1, Bool.and_self, Bool.true_and, Bool.and_true, nI_add, pk_mul, nI_clamp, decide_true, Nat.le_refl, bI_eq, bI_z1, swr_20, am_u_at, am_u_ne, upd_at, upd_ne]
    refine k_want (j := 4) (s := numS E 1 99 (takeS E (.inr t, l, p))) (hE2) (CS_w s2 (by rw [am_u_ne (by omega)])) (by omega) rfl (by omega) (by omega) ?_
    intro v3 f3 s3
    refine go_at (blk := b_Reader_readTell_140) rfl ?_
    simp (disch := omega) only [b_Reader_readTell_140, be_56, List.getD_cons_zero, List.getD_cons_succ, List.set_cons_zero, List.set_cons_succ, List.length_cons, List.length_nil, pk_I, pk_A, pr_A, pi_I, st_s, st_n, if_true, if_false, eq_self, d_if, d_ju, d_re, d_ca, cat0, cat1, cat2, cat3, fr_z, fr_s, cc_I, cc_A, cc_N, Nat.reduceAdd, Nat.reduceLT, Nat.reduceLeDiff, Nat.reduceEqDiff, not_true, not_false_iff, z1_0, z1_1, Bool.and_self, Bool.true_and, Bool.and_true, nI_add, pk_mul, nI_clamp, decide_true, Nat.le_refl, bI_eq, bI_z1, swr_20, am_u_at, am_u_ne, upd_at, upd_ne]
    have hf : F2 (am_u v 3 0 (nI (numV E 1 (takeS E (.inr t, l, p))))) v3 := F2_t (F2_u (F2_t f1 f2) (by omega)) f3
    refine hQ v3 w _ (numV E 1 (takeS E (.inr t, l, p)), D.2) (Or.inl ⟨hK, rfl, rfl⟩) ⟨fun c c1 c2 => by rw [hf c c1, am_u_ne (by omega)], fun _ _ => rfl⟩ s3 (fun t' ht => ⟨?_, DX_2 ?_ hf⟩)
    · obtain ⟨t1, e1, l1⟩ := mo_want ht
      obtain ⟨t2, e2, l2⟩ := mo_num e1
      obtain ⟨t3, e3, l3⟩ := mo_take e2
      cases e3
      omega
    · obtain ⟨d1, d2, d3, d4, d5, d6, d7, d8⟩ := hD
      refine ⟨by rw [am_u_at, upd_at], by rw [am_u_at, upd_ne (by omega)]; exact d2, ⟨by rw [am_u_at, upd_ne (by omega)]; exact d3.1, d3.2⟩, ?_, ?_, d6, ?_, d8⟩
      · intro p hp
        simp (disch := omega) only [am_u_ne]
        exact d4 p hp
      · exact ⟨by rw [am_u_ne (by omega)]; exact d5.1, fun j hj => by rw [am_u_ne (by omega), am_u_ne (by omega)]; exact d5.2 j hj⟩
      · exact ⟨by rw [am_u_ne (by omega)]; exact d7.1, fun j hj => by rw [am_u_ne (by omega), am_u_ne (by omega)]; exact d7.2 j hj⟩
  by_cases h21 : eK E t = 21
  · have hK := h21
    by_cases h8 : D.2.2.1 < 8
    · refine go_at (blk := b_Reader_readTell_0) rfl ?_
      simp (disch := omega) only [b_Reader_readTell_0, be_6, be_57_0, kc_2, List.getD_cons_zero, List.getD_cons_succ, List.set_cons_zero, List.set_cons_succ, List.length_cons, List.length_nil, pk_I, pk_A, pr_A, pi_I, st_s, st_n, if_true, if_false, eq_self, d_if, d_ju, d_re, d_ca, cat0, cat1, cat2, cat3, fr_z, fr_s, cc_I, cc_A, cc_N, Nat.reduceAdd, Nat.reduceLT, Nat.reduceLeDiff, Nat.reduceEqDiff, not_true, not_false_iff, z1_0, z1_1, Bool.and_self, Bool.true_and, Bool.and_true, nI_add, pk_mul, nI_clamp, decide_true, Nat.le_refl, bI_eq, bI_z1, swr_21]
      refine k_kind hE hs ?_
      rw [show kdR E (.inr t, l, p) = eK E t from rfl, hK, show cK 21 = 257 from rfl]
      refine go_at (blk := b_Reader_readTell_4) rfl ?_
      simp (disch := omega) only [b_Reader_readTell_4, be_52, List.getD_cons_zero, List.getD_cons_succ, List.set_cons_zero, List.set_cons_succ, List.length_cons, List.length_nil, pk_I, pk_A, pr_A, pi_I, st_s, st_n, if_true, if_false, eq_self, d_if, d_ju, d_re, d_ca, cat0, cat1, cat2, cat3, fr_z, fr_s, cc_I, cc_A, cc_N, Nat.reduceAdd, Nat.reduceLT, Nat.reduceLeDiff, Nat.reduceEqDiff, not_true, not_false_iff, z1_0, z1_1, Bool.and_self, Bool.true_and, Bool.and_true, nI_add, pk_mul, nI_clamp, decide_true, Nat.le_refl, bI_eq, bI_z1, swr_21]
      refine go_at (blk := b_Reader_readTell_65) rfl ?_
      simp (disch := omega) only [b_Reader_readTell_65, be_6, be_57_0, kc_2, List.getD_cons_zero, List.getD_cons_succ, List.set_cons_zero, List.set_cons_succ, List.length_cons, List.length_nil, pk_I, pk_A, pr_A, pi_I, st_s, st_n, if_true, if_false, eq_self, d_if, d_ju, d_re, d_ca, cat0, cat1, cat2, cat3, fr_z, fr_s, cc_I, cc_A, cc_N, Nat.reduceAdd, Nat.reduceLT, Nat.reduceLeDiff, Nat.reduceEqDiff, not_true, not_false_iff, z1_0, z1_1, Bool.and_self, Bool.true_and, Bool.and_true, nI_add, pk_mul, nI_clamp, decide_true, Nat.le_refl, bI_eq, bI_z1, swr_21]
      refine k_pilgrim hE hs hD.2.2.1 h8 (fun t' ht => ?_) ?_
      · have e9 : t = t' := by simpa using ht
        subst e9
        exact ⟨by omega, by omega⟩
      intro v1 f1 s1
      obtain ⟨d1, d2, d3, d4, d5, d6, d7, d8⟩ := hD
      have g1 : ∀ c, c ≠ 2 → (c < 3 ∨ 9 < c) → v1 c = v c := by
        intro c c1 c2
        rw [f1 c c1]
        simp (disch := omega) only [am_u_ne]
      have hE1 : CE E v1 (am_uL w 24 D.2.2.1 (lN (nameV E (pl1 E (.inr t, l, p))))) := ⟨hE.1, fun j hj => by rw [g1 21 (by omega) (by omega), g1 22 (by omega) (by omega), uL_ne (by omega)]; exact hE.2 j hj⟩
      refine go_at (blk := b_Reader_readTell_69) rfl ?_
      simp (disch := omega) only [b_Reader_readTell_69, be_51, List.getD_cons_zero, List.getD_cons_succ, List.set_cons_zero, List.set_cons_succ, List.length_cons, List.length_nil, pk_I, pk_A, pr_A, pi_I, st_s, st_n, if_true, if_false, eq_self, d_if, d_ju, d_re, d_ca, cat0, cat1, cat2, cat3, fr_z, fr_s, cc_I, cc_A, cc_N, Nat.reduceAdd, Nat.reduceLT, Nat.reduceLeDiff, Nat.reduceEqDiff, not_true, not_false_iff, z1_0, z1_1, Bool.and_self, Bool.true_and, Bool.and_true, nI_add, pk_mul, nI_clamp, decide_true, Nat.le_refl, bI_eq, bI_z1, swr_21]
      refine go_at (blk := b_Reader_readTell_134) rfl ?_
      simp (disch := omega) only [b_Reader_readTell_134, be_6, be_1, be_57_1, kc_2, List.getD_cons_zero, List.getD_cons_succ, List.set_cons_zero, List.set_cons_succ, List.length_cons, List.length_nil, pk_I, pk_A, pr_A, pi_I, st_s, st_n, if_true, if_false, eq_self, d_if, d_ju, d_re, d_ca, cat0, cat1, cat2, cat3, fr_z, fr_s, cc_I, cc_A, cc_N, Nat.reduceAdd, Nat.reduceLT, Nat.reduceLeDiff, Nat.reduceEqDiff, not_true, not_false_iff, z1_0, z1_1, Bool.and_self, Bool.true_and, Bool.and_true, nI_add, pk_mul, nI_clamp, decide_true, Nat.le_refl, bI_eq, bI_z1, swr_21]
      refine k_want (j := 4) (s := pl8 E (D.2.2.2.1 0) D.2.2.1 (.inr t, l, p)) (hE1) (s1) (by omega) rfl (by omega) (by omega) ?_
      intro v2 f2 s2
      refine go_at (blk := b_Reader_readTell_140) rfl ?_
      simp (disch := omega) only [b_Reader_readTell_140, be_56, List.getD_cons_zero, List.getD_cons_succ, List.set_cons_zero, List.set_cons_succ, List.length_cons, List.length_nil, pk_I, pk_A, pr_A, pi_I, st_s, st_n, if_true, if_false, eq_self, d_if, d_ju, d_re, d_ca, cat0, cat1, cat2, cat3, fr_z, fr_s, cc_I, cc_A, cc_N, Nat.reduceAdd, Nat.reduceLT, Nat.reduceLeDiff, Nat.reduceEqDiff, not_true, not_false_iff, z1_0, z1_1, Bool.and_self, Bool.true_and, Bool.and_true, nI_add, pk_mul, nI_clamp, decide_true, Nat.le_refl, bI_eq, bI_z1, swr_21]
      have hg : ∀ c, c ≠ 2 → (c < 3 ∨ 9 < c) → v2 c = v c := fun c c1 c2 => (f2 c c1).trans (g1 c c1 c2)
      refine hQ v2 _ _ _ (Or.inr (Or.inr (Or.inl ⟨hK, h8, rfl, rfl⟩))) ⟨fun c c1 c2 => hg c c1 (by omega), fun c hc => by rw [uL_ne hc]⟩ s2 (fun t' ht => ⟨?_, ?_⟩)
      · obtain ⟨t1, e1, l1⟩ := mo_want ht
        obtain ⟨t2, e2, l2⟩ := mo_pl e1
        cases e2
        omega
      · have hf := F2_t f1 f2
        refine ⟨?_, ?_, ⟨?_, by dsimp only; omega, ?_⟩, ?_, ?_, d6, ?_, d8⟩
        · rw [hf 3 (by omega), am_u_at, upd_ne (by omega)]
          simp (disch := omega) only [am_u_ne]
          exact d1
        · rw [hf 3 (by omega), am_u_at, upd_ne (by omega)]
          simp (disch := omega) only [am_u_ne]
          exact d2
        · rw [hf 3 (by omega), am_u_at, upd_at]
        · intro i hi
          rw [uL_at]
          dsimp only
          unfold updR
          by_cases e : i = D.2.2.1
          · rw [e, pk_uLs, if_pos rfl]
            exact ⟨rfl, nm_lt hE.1 (fun t' ht => by
            obtain ⟨t0, e0, l0⟩ := mo_take ht
            cases e0
            have := ev_s hE.1 hG.2.2.1 hk0 (by omega) (by
              have := hE.1.1
              have := tk_lt ht
              omega)
            omega)⟩
          · rw [pk_uLn e, if_neg e]
            exact d3.2.2 i (by dsimp only at hi; omega)
        · intro i hi
          dsimp only
          unfold updR
          by_cases e : i = D.2.2.1
          · rw [if_pos e, if_pos e, if_pos e, if_pos e, if_pos e, if_pos e, hf 4 (by omega), hf 5 (by omega), hf 6 (by omega), hf 7 (by omega), hf 8 (by omega), hf 9 (by omega), e]
            refine ⟨?_, ?_, ?_, ?_, ?_, ?_⟩ <;> simp (disch := omega) only [am_u_ne, am_u_at, upd_at] <;> first | rfl | (unfold plF; rw [if_neg (by omega), if_neg (by omega), if_neg (by omega), if_neg (by omega), if_neg (by omega), if_neg (by omega)]; cases plK E (D.2.2.2.1 0) D.2.2.1 (.inr t, l, p) <;> rfl)
          · rw [if_neg e, if_neg e, if_neg e, if_neg e, if_neg e, if_neg e, hf 4 (by omega), hf 5 (by omega), hf 6 (by omega), hf 7 (by omega), hf 8 (by omega), hf 9 (by omega)]
            simp (disch := omega) only [am_u_ne, am_u_at, upd_ne]
            exact d4 i (by dsimp only at hi; omega)
        · exact ⟨by rw [hg 10 (by omega) (by omega)]; exact d5.1, fun j hj => by rw [hg 11 (by omega) (by omega), hg 12 (by omega) (by omega)]; exact d5.2 j hj⟩
        · exact ⟨by rw [hg 15 (by omega) (by omega)]; exact d7.1, fun j hj => by rw [hg 16 (by omega) (by omega), hg 17 (by omega) (by omega)]; exact d7.2 j hj⟩
    · have h8 : D.2.2.1 = 8 := by have := hD.2.2.1.2.1; omega
      refine go_at (blk := b_Reader_readTell_0) rfl ?_
      simp (disch := omega) only [b_Reader_readTell_0, be_6, be_57_0, kc_2, List.getD_cons_zero, List.getD_cons_succ, List.set_cons_zero, List.set_cons_succ, List.length_cons, List.length_nil, pk_I, pk_A, pr_A, pi_I, st_s, st_n, if_true, if_false, eq_self, d_if, d_ju, d_re, d_ca, cat0, cat1, cat2, cat3, fr_z, fr_s, cc_I, cc_A, cc_N, Nat.reduceAdd, Nat.reduceLT, Nat.reduceLeDiff, Nat.reduceEqDiff, not_true, not_false_iff, z1_0, z1_1, Bool.and_self, Bool.true_and, Bool.and_true, nI_add, pk_mul, nI_clamp, decide_true, Nat.le_refl, bI_eq, bI_z1, swr_21]
      refine k_kind hE hs ?_
      rw [show kdR E (.inr t, l, p) = eK E t from rfl, hK, show cK 21 = 257 from rfl]
      refine go_at (blk := b_Reader_readTell_4) rfl ?_
      simp (disch := omega) only [b_Reader_readTell_4, be_52, List.getD_cons_zero, List.getD_cons_succ, List.set_cons_zero, List.set_cons_succ, List.length_cons, List.length_nil, pk_I, pk_A, pr_A, pi_I, st_s, st_n, if_true, if_false, eq_self, d_if, d_ju, d_re, d_ca, cat0, cat1, cat2, cat3, fr_z, fr_s, cc_I, cc_A, cc_N, Nat.reduceAdd, Nat.reduceLT, Nat.reduceLeDiff, Nat.reduceEqDiff, not_true, not_false_iff, z1_0, z1_1, Bool.and_self, Bool.true_and, Bool.and_true, nI_add, pk_mul, nI_clamp, decide_true, Nat.le_refl, bI_eq, bI_z1, swr_21]
      refine go_at (blk := b_Reader_readTell_65) rfl ?_
      simp (disch := omega) only [b_Reader_readTell_65, be_6, be_57_0, kc_2, List.getD_cons_zero, List.getD_cons_succ, List.set_cons_zero, List.set_cons_succ, List.length_cons, List.length_nil, pk_I, pk_A, pr_A, pi_I, st_s, st_n, if_true, if_false, eq_self, d_if, d_ju, d_re, d_ca, cat0, cat1, cat2, cat3, fr_z, fr_s, cc_I, cc_A, cc_N, Nat.reduceAdd, Nat.reduceLT, Nat.reduceLeDiff, Nat.reduceEqDiff, not_true, not_false_iff, z1_0, z1_1, Bool.and_self, Bool.true_and, Bool.and_true, nI_add, pk_mul, nI_clamp, decide_true, Nat.le_refl, bI_eq, bI_z1, swr_21]
      refine k_pilgrim8 hE hs (by rw [← h8]; exact hD.2.2.1) ?_
      intro v1 f1 s1
      refine go_at (blk := b_Reader_readTell_69) rfl ?_
      simp (disch := omega) only [b_Reader_readTell_69, be_51, List.getD_cons_zero, List.getD_cons_succ, List.set_cons_zero, List.set_cons_succ, List.length_cons, List.length_nil, pk_I, pk_A, pr_A, pi_I, st_s, st_n, if_true, if_false, eq_self, d_if, d_ju, d_re, d_ca, cat0, cat1, cat2, cat3, fr_z, fr_s, cc_I, cc_A, cc_N, Nat.reduceAdd, Nat.reduceLT, Nat.reduceLeDiff, Nat.reduceEqDiff, not_true, not_false_iff, z1_0, z1_1, Bool.and_self, Bool.true_and, Bool.and_true, nI_add, pk_mul, nI_clamp, decide_true, Nat.le_refl, bI_eq, bI_z1, swr_21]
      refine go_at (blk := b_Reader_readTell_134) rfl ?_
      simp (disch := omega) only [b_Reader_readTell_134, be_6, be_1, be_57_1, kc_2, List.getD_cons_zero, List.getD_cons_succ, List.set_cons_zero, List.set_cons_succ, List.length_cons, List.length_nil, pk_I, pk_A, pr_A, pi_I, st_s, st_n, if_true, if_false, eq_self, d_if, d_ju, d_re, d_ca, cat0, cat1, cat2, cat3, fr_z, fr_s, cc_I, cc_A, cc_N, Nat.reduceAdd, Nat.reduceLT, Nat.reduceLeDiff, Nat.reduceEqDiff, not_true, not_false_iff, z1_0, z1_1, Bool.and_self, Bool.true_and, Bool.and_true, nI_add, pk_mul, nI_clamp, decide_true, Nat.le_refl, bI_eq, bI_z1, swr_21]
      refine k_want (j := 4) (s := failS E 2 (.inr t, l, p)) (CE_2 hE f1) (s1) (by omega) rfl (by omega) (by omega) ?_
      intro v2 f2 s2
      refine go_at (blk := b_Reader_readTell_140) rfl ?_
      simp (disch := omega) only [b_Reader_readTell_140, be_56, List.getD_cons_zero, List.getD_cons_succ, List.set_cons_zero, List.set_cons_succ, List.length_cons, List.length_nil, pk_I, pk_A, pr_A, pi_I, st_s, st_n, if_true, if_false, eq_self, d_if, d_ju, d_re, d_ca, cat0, cat1, cat2, cat3, fr_z, fr_s, cc_I, cc_A, cc_N, Nat.reduceAdd, Nat.reduceLT, Nat.reduceLeDiff, Nat.reduceEqDiff, not_true, not_false_iff, z1_0, z1_1, Bool.and_self, Bool.true_and, Bool.and_true, nI_add, pk_mul, nI_clamp, decide_true, Nat.le_refl, bI_eq, bI_z1, swr_21]
      exact hQ v2 w (.inl (2, eP E t), l, p) D (Or.inr (Or.inl ⟨hK, h8, rfl⟩)) ⟨fun c c1 c2 => F2_t f1 f2 c c1, fun _ _ => rfl⟩ s2 (fun t' ht => by cases ht)
  by_cases h22 : eK E t = 22
  · have hK := h22
    refine go_at (blk := b_Reader_readTell_0) rfl ?_
    simp (disch := omega) only [b_Reader_readTell_0, be_6, be_57_0, kc_2, List.getD_cons_zero, List.getD_cons_succ, List.set_cons_zero, List.set_cons_succ, List.length_cons, List.length_nil, pk_I, pk_A, pr_A, pi_I, st_s, st_n, if_true, if_false, eq_self, d_if, d_ju, d_re, d_ca, cat0, cat1, cat2, cat3, fr_z, fr_s, cc_I, cc_A, cc_N, Nat.reduceAdd, Nat.reduceLT, Nat.reduceLeDiff, Nat.reduceEqDiff, not_true, not_false_iff, z1_0, z1_1, Bool.and_self, Bool.true_and, Bool.and_true, nI_add, pk_mul, nI_clamp, decide_true, Nat.le_refl, bI_eq, bI_z1, swr_22]
    refine k_kind hE hs ?_
    rw [show kdR E (.inr t, l, p) = eK E t from rfl, hK, show cK 22 = 259 from rfl]
    refine go_at (blk := b_Reader_readTell_4) rfl ?_
    simp (disch := omega) only [b_Reader_readTell_4, be_52, List.getD_cons_zero, List.getD_cons_succ, List.set_cons_zero, List.set_cons_succ, List.length_cons, List.length_nil, pk_I, pk_A, pr_A, pi_I, st_s, st_n, if_true, if_false, eq_self, d_if, d_ju, d_re, d_ca, cat0, cat1, cat2, cat3, fr_z, fr_s, cc_I, cc_A, cc_N, Nat.reduceAdd, Nat.reduceLT, Nat.reduceLeDiff, Nat.reduceEqDiff, not_true, not_false_iff, z1_0, z1_1, Bool.and_self, Bool.true_and, Bool.and_true, nI_add, pk_mul, nI_clamp, decide_true, Nat.le_refl, bI_eq, bI_z1, swr_22]
    refine go_at (blk := b_Reader_readTell_72) rfl ?_
    simp (disch := omega) only [b_Reader_readTell_72, be_6, be_57_0, kc_2, List.getD_cons_zero, List.getD_cons_succ, List.set_cons_zero, List.set_cons_succ, List.length_cons, List.length_nil, pk_I, pk_A, pr_A, pi_I, st_s, st_n, if_true, if_false, eq_self, d_if, d_ju, d_re, d_ca, cat0, cat1, cat2, cat3, fr_z, fr_s, cc_I, cc_A, cc_N, Nat.reduceAdd, Nat.reduceLT, Nat.reduceLeDiff, Nat.reduceEqDiff, not_true, not_false_iff, z1_0, z1_1, Bool.and_self, Bool.true_and, Bool.and_true, nI_add, pk_mul, nI_clamp, decide_true, Nat.le_refl, bI_eq, bI_z1, swr_22]
    refine k_take hE hs (fun t' ht => ?_) ?_
    · have e9 : t = t' := by simpa using ht
      subst e9
      exact ⟨by omega, by omega⟩
    intro v1 f1 s1
    have hE1 := CE_2 hE f1
    rw [show takeS E (.inr t, l, p) = (tkR E t, l, p) from rfl] at s1
    cases h0 : tkR E t with
    | inl f =>
      rw [h0] at s1
      refine go_at (blk := b_Reader_readTell_76) rfl ?_
      simp (disch := omega) only [b_Reader_readTell_76, be_6, be_34, be_57_1, kc_2, rf_2_0, kc_3, rf_3_9, List.getD_cons_zero, List.getD_cons_succ, List.set_cons_zero, List.set_cons_succ, List.length_cons, List.length_nil, pk_I, pk_A, pr_A, pi_I, st_s, st_n, if_true, if_false, eq_self, d_if, d_ju, d_re, d_ca, cat0, cat1, cat2, cat3, fr_z, fr_s, cc_I, cc_A, cc_N, Nat.reduceAdd, Nat.reduceLT, Nat.reduceLeDiff, Nat.reduceEqDiff, not_true, not_false_iff, z1_0, z1_1, Bool.and_self, Bool.true_and, Bool.and_true, nI_add, pk_mul, nI_clamp, decide_true, Nat.le_refl, bI_eq, bI_z1]
      refine k_readLawB (show LD 10 from Or.inl rfl) hE1 s1 ?_
      intro v2 f2 s2 l2
      refine go_at (blk := b_Reader_readTell_87) rfl ?_
      simp (disch := omega) only [b_Reader_readTell_87, be_51, List.getD_cons_zero, List.getD_cons_succ, List.set_cons_zero, List.set_cons_succ, List.length_cons, List.length_nil, pk_I, pk_A, pr_A, pi_I, st_s, st_n, if_true, if_false, eq_self, d_if, d_ju, d_re, d_ca, cat0, cat1, cat2, cat3, fr_z, fr_s, cc_I, cc_A, cc_N, Nat.reduceAdd, Nat.reduceLT, Nat.reduceLeDiff, Nat.reduceEqDiff, not_true, not_false_iff, z1_0, z1_1, Bool.and_self, Bool.true_and, Bool.and_true, nI_add, pk_mul, nI_clamp, decide_true, Nat.le_refl, bI_eq, bI_z1]
      refine go_at (blk := b_Reader_readTell_134) rfl ?_
      simp (disch := omega) only [b_Reader_readTell_134, be_6, be_1, be_57_1, kc_2, List.getD_cons_zero, List.getD_cons_succ, List.set_cons_zero, List.set_cons_succ, List.length_cons, List.length_nil, pk_I, pk_A, pr_A, pi_I, st_s, st_n, if_true, if_false, eq_self, d_if, d_ju, d_re, d_ca, cat0, cat1, cat2, cat3, fr_z, fr_s, cc_I, cc_A, cc_N, Nat.reduceAdd, Nat.reduceLT, Nat.reduceLeDiff, Nat.reduceEqDiff, not_true, not_false_iff, z1_0, z1_1, Bool.and_self, Bool.true_and, Bool.and_true, nI_add, pk_mul, nI_clamp, decide_true, Nat.le_refl, bI_eq, bI_z1]
      refine k_want (j := 4) (s := (.inl f, l, p)) (CE_X (show LD 10 from Or.inl rfl) hE1 f2) (s2) (by omega) rfl (by omega) (by omega) ?_
      intro v3 f3 s3
      refine go_at (blk := b_Reader_readTell_140) rfl ?_
      simp (disch := omega) only [b_Reader_readTell_140, be_56, List.getD_cons_zero, List.getD_cons_succ, List.set_cons_zero, List.set_cons_succ, List.length_cons, List.length_nil, pk_I, pk_A, pr_A, pi_I, st_s, st_n, if_true, if_false, eq_self, d_if, d_ju, d_re, d_ca, cat0, cat1, cat2, cat3, fr_z, fr_s, cc_I, cc_A, cc_N, Nat.reduceAdd, Nat.reduceLT, Nat.reduceLeDiff, Nat.reduceEqDiff, not_true, not_false_iff, z1_0, z1_1, Bool.and_self, Bool.true_and, Bool.and_true, nI_add, pk_mul, nI_clamp, decide_true, Nat.le_refl, bI_eq, bI_z1]
      exact hQ v3 w (.inl f, l, p) D (Or.inr (Or.inr (Or.inr (Or.inl ⟨hK, Or.inl ⟨f, h0, rfl⟩⟩)))) ⟨fun c c1 c2 => by rw [f3 c c1, f2 c c1 (by omega) (by omega) (by omega), f1 c c1], fun _ _ => rfl⟩ s3 (fun t' ht => by cases ht)
    | inr t1 =>
      rw [h0] at s1
      obtain ⟨rfl, ht0⟩ := tk_lt h0
      refine go_at (blk := b_Reader_readTell_76) rfl ?_
      simp (disch := omega) only [b_Reader_readTell_76, be_6, be_34, be_57_1, kc_2, rf_2_0, kc_3, rf_3_9, List.getD_cons_zero, List.getD_cons_succ, List.set_cons_zero, List.set_cons_succ, List.length_cons, List.length_nil, pk_I, pk_A, pr_A, pi_I, st_s, st_n, if_true, if_false, eq_self, d_if, d_ju, d_re, d_ca, cat0, cat1, cat2, cat3, fr_z, fr_s, cc_I, cc_A, cc_N, Nat.reduceAdd, Nat.reduceLT, Nat.reduceLeDiff, Nat.reduceEqDiff, not_true, not_false_iff, z1_0, z1_1, Bool.and_self, Bool.true_and, Bool.and_true, nI_add, pk_mul, nI_clamp, decide_true, Nat.le_refl, bI_eq, bI_z1]
      refine k_readLaw (show LD 10 from Or.inl rfl) hE1 s1 (by omega) ?_ ?_
      · intro v2 t2 bs C f2 s2 c2 l2 tt2 x2
        refine go_at (blk := b_Reader_readTell_87) rfl ?_
        simp (disch := omega) only [b_Reader_readTell_87, be_51, List.getD_cons_zero, List.getD_cons_succ, List.set_cons_zero, List.set_cons_succ, List.length_cons, List.length_nil, pk_I, pk_A, pr_A, pi_I, st_s, st_n, if_true, if_false, eq_self, d_if, d_ju, d_re, d_ca, cat0, cat1, cat2, cat3, fr_z, fr_s, cc_I, cc_A, cc_N, Nat.reduceAdd, Nat.reduceLT, Nat.reduceLeDiff, Nat.reduceEqDiff, not_true, not_false_iff, z1_0, z1_1, Bool.and_self, Bool.true_and, Bool.and_true, nI_add, pk_mul, nI_clamp, decide_true, Nat.le_refl, bI_eq, bI_z1]
        refine go_at (blk := b_Reader_readTell_134) rfl ?_
        simp (disch := omega) only [b_Reader_readTell_134, be_6, be_1, be_57_1, kc_2, List.getD_cons_zero, List.getD_cons_succ, List.set_cons_zero, List.set_cons_succ, List.length_cons, List.length_nil, pk_I, pk_A, pr_A, pi_I, st_s, st_n, if_true, if_false, eq_self, d_if, d_ju, d_re, d_ca, cat0, cat1, cat2, cat3, fr_z, fr_s, cc_I, cc_A, cc_N, Nat.reduceAdd, Nat.reduceLT, Nat.reduceLeDiff, Nat.reduceEqDiff, not_true, not_false_iff, z1_0, z1_1, Bool.and_self, Bool.true_and, Bool.and_true, nI_add, pk_mul, nI_clamp, decide_true, Nat.le_refl, bI_eq, bI_z1]
        refine k_want (j := 4) (s := (.inr t2, l, p)) (CE_X (show LD 10 from Or.inl rfl) hE1 f2) (s2) (by omega) rfl (by omega) (by omega) ?_
        intro v3 f3 s3
        refine go_at (blk := b_Reader_readTell_140) rfl ?_
        simp (disch := omega) only [b_Reader_readTell_140, be_56, List.getD_cons_zero, List.getD_cons_succ, List.set_cons_zero, List.set_cons_succ, List.length_cons, List.length_nil, pk_I, pk_A, pr_A, pi_I, st_s, st_n, if_true, if_false, eq_self, d_if, d_ju, d_re, d_ca, cat0, cat1, cat2, cat3, fr_z, fr_s, cc_I, cc_A, cc_N, Nat.reduceAdd, Nat.reduceLT, Nat.reduceLeDiff, Nat.reduceEqDiff, not_true, not_false_iff, z1_0, z1_1, Bool.and_self, Bool.true_and, Bool.and_true, nI_add, pk_mul, nI_clamp, decide_true, Nat.le_refl, bI_eq, bI_z1]
        refine hQ v3 w _ _ (Or.inr (Or.inr (Or.inr (Or.inl ⟨hK, Or.inr ⟨h0, Or.inr ⟨t2, bs, C, x2, rfl, rfl⟩⟩⟩)))) ⟨fun c c1 c2 => by rw [f3 c c1, f2 c c1 (by omega) (by omega) (by omega), f1 c c1], fun _ _ => rfl⟩ s3 (fun t' ht => ⟨?_, ?_⟩)
        · obtain ⟨t1, e1, l1⟩ := mo_want ht
          cases e1
          omega
        · obtain ⟨d1, d2, d3, d4, d5, d6, d7, d8⟩ := hD
          have hg : ∀ c, c ≠ 2 → c ≠ 10 → c ≠ 10 + 1 → c ≠ 10 + 2 → v3 c = v c := fun c c1 c2 c3 c4 => by rw [f3 c c1, f2 c c1 c2 c3 c4, f1 c c1]
          have hc3 : LC v3 10 (lcode 0 bs C) := LC_2 (show LD 10 from Or.inl rfl) c2 f3
          have hl3 : (lcode 0 bs C).length ≤ 400 := by have := s2.2.2.1; have := hE.1.1; omega
          refine ⟨by rw [hg 3 (by omega) (by omega) (by omega) (by omega)]; exact d1, by rw [hg 3 (by omega) (by omega) (by omega) (by omega)]; exact d2, ⟨by rw [hg 3 (by omega) (by omega) (by omega) (by omega)]; exact d3.1, d3.2⟩, ?_, hc3, hl3, ⟨by rw [hg 15 (by omega) (by omega) (by omega) (by omega)]; exact d7.1, fun j hj => by rw [hg 16 (by omega) (by omega) (by omega) (by omega), hg 17 (by omega) (by omega) (by omega) (by omega)]; exact d7.2 j hj⟩, d8⟩
          intro p hp
          rw [hg 4 (by omega) (by omega) (by omega) (by omega), hg 5 (by omega) (by omega) (by omega) (by omega), hg 6 (by omega) (by omega) (by omega) (by omega), hg 7 (by omega) (by omega) (by omega) (by omega), hg 8 (by omega) (by omega) (by omega) (by omega), hg 9 (by omega) (by omega) (by omega) (by omega)]
          exact d4 p hp
      · intro v2 k2 p2 f2 s2 l2 x2
        refine go_at (blk := b_Reader_readTell_87) rfl ?_
        simp (disch := omega) only [b_Reader_readTell_87, be_51, List.getD_cons_zero, List.getD_cons_succ, List.set_cons_zero, List.set_cons_succ, List.length_cons, List.length_nil, pk_I, pk_A, pr_A, pi_I, st_s, st_n, if_true, if_false, eq_self, d_if, d_ju, d_re, d_ca, cat0, cat1, cat2, cat3, fr_z, fr_s, cc_I, cc_A, cc_N, Nat.reduceAdd, Nat.reduceLT, Nat.reduceLeDiff, Nat.reduceEqDiff, not_true, not_false_iff, z1_0, z1_1, Bool.and_self, Bool.true_and, Bool.and_true, nI_add, pk_mul, nI_clamp, decide_true, Nat.le_refl, bI_eq, bI_z1]
        refine go_at (blk := b_Reader_readTell_134) rfl ?_
        simp (disch := omega) only [b_Reader_readTell_134, be_6, be_1, be_57_1, kc_2, List.getD_cons_zero, List.getD_cons_succ, List.set_cons_zero, List.set_cons_succ, List.length_cons, List.length_nil, pk_I, pk_A, pr_A, pi_I, st_s, st_n, if_true, if_false, eq_self, d_if, d_ju, d_re, d_ca, cat0, cat1, cat2, cat3, fr_z, fr_s, cc_I, cc_A, cc_N, Nat.reduceAdd, Nat.reduceLT, Nat.reduceLeDiff, Nat.reduceEqDiff, not_true, not_false_iff, z1_0, z1_1, Bool.and_self, Bool.true_and, Bool.and_true, nI_add, pk_mul, nI_clamp, decide_true, Nat.le_refl, bI_eq, bI_z1]
        refine k_want (j := 4) (s := (.inl (k2, p2), l, p)) (CE_X (show LD 10 from Or.inl rfl) hE1 f2) ((show CS E v2 (.inl (k2, p2), l, p) from s2)) (by omega) rfl (by omega) (by omega) ?_
        intro v3 f3 s3
        refine go_at (blk := b_Reader_readTell_140) rfl ?_
        simp (disch := omega) only [b_Reader_readTell_140, be_56, List.getD_cons_zero, List.getD_cons_succ, List.set_cons_zero, List.set_cons_succ, List.length_cons, List.length_nil, pk_I, pk_A, pr_A, pi_I, st_s, st_n, if_true, if_false, eq_self, d_if, d_ju, d_re, d_ca, cat0, cat1, cat2, cat3, fr_z, fr_s, cc_I, cc_A, cc_N, Nat.reduceAdd, Nat.reduceLT, Nat.reduceLeDiff, Nat.reduceEqDiff, not_true, not_false_iff, z1_0, z1_1, Bool.and_self, Bool.true_and, Bool.and_true, nI_add, pk_mul, nI_clamp, decide_true, Nat.le_refl, bI_eq, bI_z1]
        exact hQ v3 w (.inl (k2, p2), l, p) D (Or.inr (Or.inr (Or.inr (Or.inl ⟨hK, Or.inr ⟨h0, Or.inl ⟨(k2, p2), x2, rfl⟩⟩⟩)))) ⟨fun c c1 c2 => by rw [f3 c c1, f2 c c1 (by omega) (by omega) (by omega), f1 c c1], fun _ _ => rfl⟩ s3 (fun t' ht => by cases ht)
  by_cases h23 : eK E t = 23
  · have hK := h23
    refine go_at (blk := b_Reader_readTell_0) rfl ?_
    simp (disch := omega) only [b_Reader_readTell_0, be_6, be_57_0, kc_2, List.getD_cons_zero, List.getD_cons_succ, List.set_cons_zero, List.set_cons_succ, List.length_cons, List.length_nil, pk_I, pk_A, pr_A, pi_I, st_s, st_n, if_true, if_false, eq_self, d_if, d_ju, d_re, d_ca, cat0, cat1, cat2, cat3, fr_z, fr_s, cc_I, cc_A, cc_N, Nat.reduceAdd, Nat.reduceLT, Nat.reduceLeDiff, Nat.reduceEqDiff, not_true, not_false_iff, z1_0, z1_1, Bool.and_self, Bool.true_and, Bool.and_true, nI_add, pk_mul, nI_clamp, decide_true, Nat.le_refl, bI_eq, bI_z1, swr_23]
    refine k_kind hE hs ?_
    rw [show kdR E (.inr t, l, p) = eK E t from rfl, hK, show cK 23 = 260 from rfl]
    refine go_at (blk := b_Reader_readTell_4) rfl ?_
    simp (disch := omega) only [b_Reader_readTell_4, be_52, List.getD_cons_zero, List.getD_cons_succ, List.set_cons_zero, List.set_cons_succ, List.length_cons, List.length_nil, pk_I, pk_A, pr_A, pi_I, st_s, st_n, if_true, if_false, eq_self, d_if, d_ju, d_re, d_ca, cat0, cat1, cat2, cat3, fr_z, fr_s, cc_I, cc_A, cc_N, Nat.reduceAdd, Nat.reduceLT, Nat.reduceLeDiff, Nat.reduceEqDiff, not_true, not_false_iff, z1_0, z1_1, Bool.and_self, Bool.true_and, Bool.and_true, nI_add, pk_mul, nI_clamp, decide_true, Nat.le_refl, bI_eq, bI_z1, swr_23]
    refine go_at (blk := b_Reader_readTell_90) rfl ?_
    simp (disch := omega) only [b_Reader_readTell_90, be_6, be_57_0, kc_2, List.getD_cons_zero, List.getD_cons_succ, List.set_cons_zero, List.set_cons_succ, List.length_cons, List.length_nil, pk_I, pk_A, pr_A, pi_I, st_s, st_n, if_true, if_false, eq_self, d_if, d_ju, d_re, d_ca, cat0, cat1, cat2, cat3, fr_z, fr_s, cc_I, cc_A, cc_N, Nat.reduceAdd, Nat.reduceLT, Nat.reduceLeDiff, Nat.reduceEqDiff, not_true, not_false_iff, z1_0, z1_1, Bool.and_self, Bool.true_and, Bool.and_true, nI_add, pk_mul, nI_clamp, decide_true, Nat.le_refl, bI_eq, bI_z1, swr_23]
    refine k_take hE hs (fun t' ht => ?_) ?_
    · have e9 : t = t' := by simpa using ht
      subst e9
      exact ⟨by omega, by omega⟩
    intro v1 f1 s1
    have hE1 := CE_2 hE f1
    rw [show takeS E (.inr t, l, p) = (tkR E t, l, p) from rfl] at s1
    cases h0 : tkR E t with
    | inl f =>
      rw [h0] at s1
      refine go_at (blk := b_Reader_readTell_94) rfl ?_
      simp (disch := omega) only [b_Reader_readTell_94, be_6, be_34, be_57_1, kc_2, rf_2_0, kc_3, rf_3_10, List.getD_cons_zero, List.getD_cons_succ, List.set_cons_zero, List.set_cons_succ, List.length_cons, List.length_nil, pk_I, pk_A, pr_A, pi_I, st_s, st_n, if_true, if_false, eq_self, d_if, d_ju, d_re, d_ca, cat0, cat1, cat2, cat3, fr_z, fr_s, cc_I, cc_A, cc_N, Nat.reduceAdd, Nat.reduceLT, Nat.reduceLeDiff, Nat.reduceEqDiff, not_true, not_false_iff, z1_0, z1_1, Bool.and_self, Bool.true_and, Bool.and_true, nI_add, pk_mul, nI_clamp, decide_true, Nat.le_refl, bI_eq, bI_z1]
      refine k_readLawB (show LD 15 from Or.inr rfl) hE1 s1 ?_
      intro v2 f2 s2 l2
      refine go_at (blk := b_Reader_readTell_105) rfl ?_
      simp (disch := omega) only [b_Reader_readTell_105, be_51, List.getD_cons_zero, List.getD_cons_succ, List.set_cons_zero, List.set_cons_succ, List.length_cons, List.length_nil, pk_I, pk_A, pr_A, pi_I, st_s, st_n, if_true, if_false, eq_self, d_if, d_ju, d_re, d_ca, cat0, cat1, cat2, cat3, fr_z, fr_s, cc_I, cc_A, cc_N, Nat.reduceAdd, Nat.reduceLT, Nat.reduceLeDiff, Nat.reduceEqDiff, not_true, not_false_iff, z1_0, z1_1, Bool.and_self, Bool.true_and, Bool.and_true, nI_add, pk_mul, nI_clamp, decide_true, Nat.le_refl, bI_eq, bI_z1]
      refine go_at (blk := b_Reader_readTell_134) rfl ?_
      simp (disch := omega) only [b_Reader_readTell_134, be_6, be_1, be_57_1, kc_2, List.getD_cons_zero, List.getD_cons_succ, List.set_cons_zero, List.set_cons_succ, List.length_cons, List.length_nil, pk_I, pk_A, pr_A, pi_I, st_s, st_n, if_true, if_false, eq_self, d_if, d_ju, d_re, d_ca, cat0, cat1, cat2, cat3, fr_z, fr_s, cc_I, cc_A, cc_N, Nat.reduceAdd, Nat.reduceLT, Nat.reduceLeDiff, Nat.reduceEqDiff, not_true, not_false_iff, z1_0, z1_1, Bool.and_self, Bool.true_and, Bool.and_true, nI_add, pk_mul, nI_clamp, decide_true, Nat.le_refl, bI_eq, bI_z1]
      refine k_want (j := 4) (s := (.inl f, l, p)) (CE_X (show LD 15 from Or.inr rfl) hE1 f2) (s2) (by omega) rfl (by omega) (by omega) ?_
      intro v3 f3 s3
      refine go_at (blk := b_Reader_readTell_140) rfl ?_
      simp (disch := omega) only [b_Reader_readTell_140, be_56, List.getD_cons_zero, List.getD_cons_succ, List.set_cons_zero, List.set_cons_succ, List.length_cons, List.length_nil, pk_I, pk_A, pr_A, pi_I, st_s, st_n, if_true, if_false, eq_self, d_if, d_ju, d_re, d_ca, cat0, cat1, cat2, cat3, fr_z, fr_s, cc_I, cc_A, cc_N, Nat.reduceAdd, Nat.reduceLT, Nat.reduceLeDiff, Nat.reduceEqDiff, not_true, not_false_iff, z1_0, z1_1, Bool.and_self, Bool.true_and, Bool.and_true, nI_add, pk_mul, nI_clamp, decide_true, Nat.le_refl, bI_eq, bI_z1]
      exact hQ v3 w (.inl f, l, p) D (Or.inr (Or.inr (Or.inr (Or.inr (Or.inl ⟨hK, Or.inl ⟨f, h0, rfl⟩⟩))))) ⟨fun c c1 c2 => by rw [f3 c c1, f2 c c1 (by omega) (by omega) (by omega), f1 c c1], fun _ _ => rfl⟩ s3 (fun t' ht => by cases ht)
    | inr t1 =>
      rw [h0] at s1
      obtain ⟨rfl, ht0⟩ := tk_lt h0
      refine go_at (blk := b_Reader_readTell_94) rfl ?_
      simp (disch := omega) only [b_Reader_readTell_94, be_6, be_34, be_57_1, kc_2, rf_2_0, kc_3, rf_3_10, List.getD_cons_zero, List.getD_cons_succ, List.set_cons_zero, List.set_cons_succ, List.length_cons, List.length_nil, pk_I, pk_A, pr_A, pi_I, st_s, st_n, if_true, if_false, eq_self, d_if, d_ju, d_re, d_ca, cat0, cat1, cat2, cat3, fr_z, fr_s, cc_I, cc_A, cc_N, Nat.reduceAdd, Nat.reduceLT, Nat.reduceLeDiff, Nat.reduceEqDiff, not_true, not_false_iff, z1_0, z1_1, Bool.and_self, Bool.true_and, Bool.and_true, nI_add, pk_mul, nI_clamp, decide_true, Nat.le_refl, bI_eq, bI_z1]
      refine k_readLaw (show LD 15 from Or.inr rfl) hE1 s1 (by omega) ?_ ?_
      · intro v2 t2 bs C f2 s2 c2 l2 tt2 x2
        refine go_at (blk := b_Reader_readTell_105) rfl ?_
        simp (disch := omega) only [b_Reader_readTell_105, be_51, List.getD_cons_zero, List.getD_cons_succ, List.set_cons_zero, List.set_cons_succ, List.length_cons, List.length_nil, pk_I, pk_A, pr_A, pi_I, st_s, st_n, if_true, if_false, eq_self, d_if, d_ju, d_re, d_ca, cat0, cat1, cat2, cat3, fr_z, fr_s, cc_I, cc_A, cc_N, Nat.reduceAdd, Nat.reduceLT, Nat.reduceLeDiff, Nat.reduceEqDiff, not_true, not_false_iff, z1_0, z1_1, Bool.and_self, Bool.true_and, Bool.and_true, nI_add, pk_mul, nI_clamp, decide_true, Nat.le_refl, bI_eq, bI_z1]
        refine go_at (blk := b_Reader_readTell_134) rfl ?_
        simp (disch := omega) only [b_Reader_readTell_134, be_6, be_1, be_57_1, kc_2, List.getD_cons_zero, List.getD_cons_succ, List.set_cons_zero, List.set_cons_succ, List.length_cons, List.length_nil, pk_I, pk_A, pr_A, pi_I, st_s, st_n, if_true, if_false, eq_self, d_if, d_ju, d_re, d_ca, cat0, cat1, cat2, cat3, fr_z, fr_s, cc_I, cc_A, cc_N, Nat.reduceAdd, Nat.reduceLT, Nat.reduceLeDiff, Nat.reduceEqDiff, not_true, not_false_iff, z1_0, z1_1, Bool.and_self, Bool.true_and, Bool.and_true, nI_add, pk_mul, nI_clamp, decide_true, Nat.le_refl, bI_eq, bI_z1]
        refine k_want (j := 4) (s := (.inr t2, l, p)) (CE_X (show LD 15 from Or.inr rfl) hE1 f2) (s2) (by omega) rfl (by omega) (by omega) ?_
        intro v3 f3 s3
        refine go_at (blk := b_Reader_readTell_140) rfl ?_
        simp (disch := omega) only [b_Reader_readTell_140, be_56, List.getD_cons_zero, List.getD_cons_succ, List.set_cons_zero, List.set_cons_succ, List.length_cons, List.length_nil, pk_I, pk_A, pr_A, pi_I, st_s, st_n, if_true, if_false, eq_self, d_if, d_ju, d_re, d_ca, cat0, cat1, cat2, cat3, fr_z, fr_s, cc_I, cc_A, cc_N, Nat.reduceAdd, Nat.reduceLT, Nat.reduceLeDiff, Nat.reduceEqDiff, not_true, not_false_iff, z1_0, z1_1, Bool.and_self, Bool.true_and, Bool.and_true, nI_add, pk_mul, nI_clamp, decide_true, Nat.le_refl, bI_eq, bI_z1]
        refine hQ v3 w _ _ (Or.inr (Or.inr (Or.inr (Or.inr (Or.inl ⟨hK, Or.inr ⟨h0, Or.inr ⟨t2, bs, C, x2, rfl, rfl⟩⟩⟩))))) ⟨fun c c1 c2 => by rw [f3 c c1, f2 c c1 (by omega) (by omega) (by omega), f1 c c1], fun _ _ => rfl⟩ s3 (fun t' ht => ⟨?_, ?_⟩)
        · obtain ⟨t1, e1, l1⟩ := mo_want ht
          cases e1
          omega
        · obtain ⟨d1, d2, d3, d4, d5, d6, d7, d8⟩ := hD
          have hg : ∀ c, c ≠ 2 → c ≠ 15 → c ≠ 15 + 1 → c ≠ 15 + 2 → v3 c = v c := fun c c1 c2 c3 c4 => by rw [f3 c c1, f2 c c1 c2 c3 c4, f1 c c1]
          have hc3 : LC v3 15 (lcode 0 bs C) := LC_2 (show LD 15 from Or.inr rfl) c2 f3
          have hl3 : (lcode 0 bs C).length ≤ 400 := by have := s2.2.2.1; have := hE.1.1; omega
          refine ⟨by rw [hg 3 (by omega) (by omega) (by omega) (by omega)]; exact d1, by rw [hg 3 (by omega) (by omega) (by omega) (by omega)]; exact d2, ⟨by rw [hg 3 (by omega) (by omega) (by omega) (by omega)]; exact d3.1, d3.2⟩, ?_, ⟨by rw [hg 10 (by omega) (by omega) (by omega) (by omega)]; exact d5.1, fun j hj => by rw [hg 11 (by omega) (by omega) (by omega) (by omega), hg 12 (by omega) (by omega) (by omega) (by omega)]; exact d5.2 j hj⟩, d6, hc3, hl3⟩
          intro p hp
          rw [hg 4 (by omega) (by omega) (by omega) (by omega), hg 5 (by omega) (by omega) (by omega) (by omega), hg 6 (by omega) (by omega) (by omega) (by omega), hg 7 (by omega) (by omega) (by omega) (by omega), hg 8 (by omega) (by omega) (by omega) (by omega), hg 9 (by omega) (by omega) (by omega) (by omega)]
          exact d4 p hp
      · intro v2 k2 p2 f2 s2 l2 x2
        refine go_at (blk := b_Reader_readTell_105) rfl ?_
        simp (disch := omega) only [b_Reader_readTell_105, be_51, List.getD_cons_zero, List.getD_cons_succ, List.set_cons_zero, List.set_cons_succ, List.length_cons, List.length_nil, pk_I, pk_A, pr_A, pi_I, st_s, st_n, if_true, if_false, eq_self, d_if, d_ju, d_re, d_ca, cat0, cat1, cat2, cat3, fr_z, fr_s, cc_I, cc_A, cc_N, Nat.reduceAdd, Nat.reduceLT, Nat.reduceLeDiff, Nat.reduceEqDiff, not_true, not_false_iff, z1_0, z1_1, Bool.and_self, Bool.true_and, Bool.and_true, nI_add, pk_mul, nI_clamp, decide_true, Nat.le_refl, bI_eq, bI_z1]
        refine go_at (blk := b_Reader_readTell_134) rfl ?_
        simp (disch := omega) only [b_Reader_readTell_134, be_6, be_1, be_57_1, kc_2, List.getD_cons_zero, List.getD_cons_succ, List.set_cons_zero, List.set_cons_succ, List.length_cons, List.length_nil, pk_I, pk_A, pr_A, pi_I, st_s, st_n, if_true, if_false, eq_self, d_if, d_ju, d_re, d_ca, cat0, cat1, cat2, cat3, fr_z, fr_s, cc_I, cc_A, cc_N, Nat.reduceAdd, Nat.reduceLT, Nat.reduceLeDiff, Nat.reduceEqDiff, not_true, not_false_iff, z1_0, z1_1, Bool.and_self, Bool.true_and, Bool.and_true, nI_add, pk_mul, nI_clamp, decide_true, Nat.le_refl, bI_eq, bI_z1]
        refine k_want (j := 4) (s := (.inl (k2, p2), l, p)) (CE_X (show LD 15 from Or.inr rfl) hE1 f2) ((show CS E v2 (.inl (k2, p2), l, p) from s2)) (by omega) rfl (by omega) (by omega) ?_
        intro v3 f3 s3
        refine go_at (blk := b_Reader_readTell_140) rfl ?_
        simp (disch := omega) only [b_Reader_readTell_140, be_56, List.getD_cons_zero, List.getD_cons_succ, List.set_cons_zero, List.set_cons_succ, List.length_cons, List.length_nil, pk_I, pk_A, pr_A, pi_I, st_s, st_n, if_true, if_false, eq_self, d_if, d_ju, d_re, d_ca, cat0, cat1, cat2, cat3, fr_z, fr_s, cc_I, cc_A, cc_N, Nat.reduceAdd, Nat.reduceLT, Nat.reduceLeDiff, Nat.reduceEqDiff, not_true, not_false_iff, z1_0, z1_1, Bool.and_self, Bool.true_and, Bool.and_true, nI_add, pk_mul, nI_clamp, decide_true, Nat.le_refl, bI_eq, bI_z1]
        exact hQ v3 w (.inl (k2, p2), l, p) D (Or.inr (Or.inr (Or.inr (Or.inr (Or.inl ⟨hK, Or.inr ⟨h0, Or.inl ⟨(k2, p2), x2, rfl⟩⟩⟩))))) ⟨fun c c1 c2 => by rw [f3 c c1, f2 c c1 (by omega) (by omega) (by omega), f1 c c1], fun _ _ => rfl⟩ s3 (fun t' ht => by cases ht)
  by_cases h24 : eK E t = 24
  · have hK := h24
    refine go_at (blk := b_Reader_readTell_0) rfl ?_
    simp (disch := omega) only [b_Reader_readTell_0, be_6, be_57_0, kc_2, List.getD_cons_zero, List.getD_cons_succ, List.set_cons_zero, List.set_cons_succ, List.length_cons, List.length_nil, pk_I, pk_A, pr_A, pi_I, st_s, st_n, if_true, if_false, eq_self, d_if, d_ju, d_re, d_ca, cat0, cat1, cat2, cat3, fr_z, fr_s, cc_I, cc_A, cc_N, Nat.reduceAdd, Nat.reduceLT, Nat.reduceLeDiff, Nat.reduceEqDiff, not_true, not_false_iff, z1_0, z1_1, Bool.and_self, Bool.true_and, Bool.and_true, nI_add, pk_mul, nI_clamp, decide_true, Nat.le_refl, bI_eq, bI_z1, swr_24, am_u_at, am_u_ne, upd_at, upd_ne]
    refine k_kind hE hs ?_
    rw [show kdR E (.inr t, l, p) = eK E t from rfl, hK, show cK 24 = 261 from rfl]
    refine go_at (blk := b_Reader_readTell_4) rfl ?_
    simp (disch := omega) only [b_Reader_readTell_4, be_52, List.getD_cons_zero, List.getD_cons_succ, List.set_cons_zero, List.set_cons_succ, List.length_cons, List.length_nil, pk_I, pk_A, pr_A, pi_I, st_s, st_n, if_true, if_false, eq_self, d_if, d_ju, d_re, d_ca, cat0, cat1, cat2, cat3, fr_z, fr_s, cc_I, cc_A, cc_N, Nat.reduceAdd, Nat.reduceLT, Nat.reduceLeDiff, Nat.reduceEqDiff, not_true, not_false_iff, z1_0, z1_1, Bool.and_self, Bool.true_and, Bool.and_true, nI_add, pk_mul, nI_clamp, decide_true, Nat.le_refl, bI_eq, bI_z1, swr_24, am_u_at, am_u_ne, upd_at, upd_ne]
    refine go_at (blk := b_Reader_readTell_108) rfl ?_
    simp (disch := omega) only [b_Reader_readTell_108, be_6, be_57_0, kc_2, List.getD_cons_zero, List.getD_cons_succ, List.set_cons_zero, List.set_cons_succ, List.length_cons, List.length_nil, pk_I, pk_A, pr_A, pi_I, st_s, st_n, if_true, if_false, eq_self, d_if, d_ju, d_re, d_ca, cat0, cat1, cat2, cat3, fr_z, fr_s, cc_I, cc_A, cc_N, Nat.reduceAdd, Nat.reduceLT, Nat.reduceLeDiff, Nat.reduceEqDiff, not_true, not_false_iff, z1_0, z1_1, Bool.and_self, Bool.true_and, Bool.and_true, nI_add, pk_mul, nI_clamp, decide_true, Nat.le_refl, bI_eq, bI_z1, swr_24, am_u_at, am_u_ne, upd_at, upd_ne]
    refine k_take hE hs (fun t' ht => ?_) ?_
    · have e9 : t = t' := by simpa using ht
      subst e9
      exact ⟨by omega, by omega⟩
    intro v1 f1 s1
    have hE1 := CE_2 hE f1
    refine go_at (blk := b_Reader_readTell_112) rfl ?_
    simp (disch := omega) only [b_Reader_readTell_112, be_6, be_34, be_1, be_57_2, kc_2, rf_2_0, List.getD_cons_zero, List.getD_cons_succ, List.set_cons_zero, List.set_cons_succ, List.length_cons, List.length_nil, pk_I, pk_A, pr_A, pi_I, st_s, st_n, if_true, if_false, eq_self, d_if, d_ju, d_re, d_ca, cat0, cat1, cat2, cat3, fr_z, fr_s, cc_I, cc_A, cc_N, Nat.reduceAdd, Nat.reduceLT, Nat.reduceLeDiff, Nat.reduceEqDiff, not_true, not_false_iff, z1_0, z1_1, Bool.and_self, Bool.true_and, Bool.and_true, nI_add, pk_mul, nI_clamp, decide_true, Nat.le_refl, bI_eq, bI_z1, swr_24, am_u_at, am_u_ne, upd_at, upd_ne]
    refine k_num (lo := 0) (hi := 99) (s := takeS E (.inr t, l, p)) hE1 s1 (by omega) (by omega) ?_
    intro v2 f2 s2
    have hE2 : CE E (am_u v2 3 1 (nI (numV E 0 (takeS E (.inr t, l, p))))) w := CE_w (CE_2 hE1 f2) (by rw [am_u_ne (by omega)]) (by rw [am_u_ne (by omega)])
    refine go_at (blk := b_Reader_readTell_123) rfl ?_
    simp (disch := omega) only [b_Reader_readTell_123, be_35, be_51, kc_3, List.getD_cons_zero, List.getD_cons_succ, List.set_cons_zero, List.set_cons_succ, List.length_cons, List.length_nil, pk_I, pk_A, pr_A, pi_I, st_s, st_n, if_true, if_false, eq_self, d_if, d_ju, d_re, d_ca, cat0, cat1, cat2, cat3, fr_z, fr_s, cc_I, cc_A, cc_N, Nat.reduceAdd, Nat.reduceLT, Nat.reduceLeDiff, Nat.reduceEqDiff, not_true, not_false_iff, z1_0, z1_1, Bool.and_self, Bool.true_and, Bool.and_true, nI_add, pk_mul, nI_clamp, decide_true, Nat.le_refl, bI_eq, bI_z1, swr_24, am_u_at, am_u_ne, upd_at, upd_ne]
    refine go_at (blk := b_Reader_readTell_134) rfl ?_
    simp (disch := omega) only [b_Reader_readTell_134, be_6, be_1, be_57_1, kc_2, List.getD_cons_zero, List.getD_cons_succ, List.set_cons_zero, List.set_cons_succ, List.length_cons, List.length_nil, pk_I, pk_A, pr_A, pi_I, st_s, st_n, if_true, if_false, eq_self, d_if, d_ju, d_re, d_ca, cat0, cat1, cat2, cat3, fr_z, fr_s, cc_I, cc_A, cc_N, Nat.reduceAdd, Nat.reduceLT, Nat.reduceLeDiff, Nat.reduceEqDiff, not_true, not_false_iff, z1_0, z1_1, Bool.and_self, Bool.true_and, Bool.and_true, nI_add, pk_mul, nI_clamp, decide_true, Nat.le_refl, bI_eq, bI_z1, swr_24, am_u_at, am_u_ne, upd_at, upd_ne]
    refine k_want (j := 4) (s := numS E 0 99 (takeS E (.inr t, l, p))) (hE2) (CS_w s2 (by rw [am_u_ne (by omega)])) (by omega) rfl (by omega) (by omega) ?_
    intro v3 f3 s3
    refine go_at (blk := b_Reader_readTell_140) rfl ?_
    simp (disch := omega) only [b_Reader_readTell_140, be_56, List.getD_cons_zero, List.getD_cons_succ, List.set_cons_zero, List.set_cons_succ, List.length_cons, List.length_nil, pk_I, pk_A, pr_A, pi_I, st_s, st_n, if_true, if_false, eq_self, d_if, d_ju, d_re, d_ca, cat0, cat1, cat2, cat3, fr_z, fr_s, cc_I, cc_A, cc_N, Nat.reduceAdd, Nat.reduceLT, Nat.reduceLeDiff, Nat.reduceEqDiff, not_true, not_false_iff, z1_0, z1_1, Bool.and_self, Bool.true_and, Bool.and_true, nI_add, pk_mul, nI_clamp, decide_true, Nat.le_refl, bI_eq, bI_z1, swr_24, am_u_at, am_u_ne, upd_at, upd_ne]
    have hf : F2 (am_u v 3 1 (nI (numV E 0 (takeS E (.inr t, l, p))))) v3 := F2_t (F2_u (F2_t f1 f2) (by omega)) f3
    refine hQ v3 w _ (D.1, numV E 0 (takeS E (.inr t, l, p)), D.2.2) (Or.inr (Or.inr (Or.inr (Or.inr (Or.inr (Or.inl ⟨hK, rfl, rfl⟩)))))) ⟨fun c c1 c2 => by rw [hf c c1, am_u_ne (by omega)], fun _ _ => rfl⟩ s3 (fun t' ht => ⟨?_, DX_2 ?_ hf⟩)
    · obtain ⟨t1, e1, l1⟩ := mo_want ht
      obtain ⟨t2, e2, l2⟩ := mo_num e1
      obtain ⟨t3, e3, l3⟩ := mo_take e2
      cases e3
      omega
    · obtain ⟨d1, d2, d3, d4, d5, d6, d7, d8⟩ := hD
      refine ⟨by rw [am_u_at, upd_ne (by omega)]; exact d1, by rw [am_u_at, upd_at], ⟨by rw [am_u_at, upd_ne (by omega)]; exact d3.1, d3.2⟩, ?_, ?_, d6, ?_, d8⟩
      · intro p hp
        simp (disch := omega) only [am_u_ne]
        exact d4 p hp
      · exact ⟨by rw [am_u_ne (by omega)]; exact d5.1, fun j hj => by rw [am_u_ne (by omega), am_u_ne (by omega)]; exact d5.2 j hj⟩
      · exact ⟨by rw [am_u_ne (by omega)]; exact d7.1, fun j hj => by rw [am_u_ne (by omega), am_u_ne (by omega)]; exact d7.2 j hj⟩
  have hsw := swr_d _ (hE.1.2.2.2.1 t).1 ⟨(hE.1.2.2.2.1 t).2, h20, h21, h22, h23, h24⟩
  refine go_at (blk := b_Reader_readTell_0) rfl ?_
  simp (disch := omega) only [b_Reader_readTell_0, be_6, be_57_0, kc_2, List.getD_cons_zero, List.getD_cons_succ, List.set_cons_zero, List.set_cons_succ, List.length_cons, List.length_nil, pk_I, pk_A, pr_A, pi_I, st_s, st_n, if_true, if_false, eq_self, d_if, d_ju, d_re, d_ca, cat0, cat1, cat2, cat3, fr_z, fr_s, cc_I, cc_A, cc_N, Nat.reduceAdd, Nat.reduceLT, Nat.reduceLeDiff, Nat.reduceEqDiff, not_true, not_false_iff, z1_0, z1_1, Bool.and_self, Bool.true_and, Bool.and_true, nI_add, pk_mul, nI_clamp, decide_true, Nat.le_refl, bI_eq, bI_z1, hsw]
  refine k_kind hE hs ?_
  rw [show kdR E (.inr t, l, p) = eK E t from rfl]
  refine go_at (blk := b_Reader_readTell_4) rfl ?_
  simp (disch := omega) only [b_Reader_readTell_4, be_52, List.getD_cons_zero, List.getD_cons_succ, List.set_cons_zero, List.set_cons_succ, List.length_cons, List.length_nil, pk_I, pk_A, pr_A, pi_I, st_s, st_n, if_true, if_false, eq_self, d_if, d_ju, d_re, d_ca, cat0, cat1, cat2, cat3, fr_z, fr_s, cc_I, cc_A, cc_N, Nat.reduceAdd, Nat.reduceLT, Nat.reduceLeDiff, Nat.reduceEqDiff, not_true, not_false_iff, z1_0, z1_1, Bool.and_self, Bool.true_and, Bool.and_true, nI_add, pk_mul, nI_clamp, decide_true, Nat.le_refl, bI_eq, bI_z1, hsw]
  refine go_at (blk := b_Reader_readTell_129) rfl ?_
  simp (disch := omega) only [b_Reader_readTell_129, be_6, be_1, be_57_1, kc_2, List.getD_cons_zero, List.getD_cons_succ, List.set_cons_zero, List.set_cons_succ, List.length_cons, List.length_nil, pk_I, pk_A, pr_A, pi_I, st_s, st_n, if_true, if_false, eq_self, d_if, d_ju, d_re, d_ca, cat0, cat1, cat2, cat3, fr_z, fr_s, cc_I, cc_A, cc_N, Nat.reduceAdd, Nat.reduceLT, Nat.reduceLeDiff, Nat.reduceEqDiff, not_true, not_false_iff, z1_0, z1_1, Bool.and_self, Bool.true_and, Bool.and_true, nI_add, pk_mul, nI_clamp, decide_true, Nat.le_refl, bI_eq, bI_z1, hsw]
  refine k_fail hE hs (by omega) (by omega) ?_
  intro v1 f1 s1
  refine go_at (blk := b_Reader_readTell_134) rfl ?_
  simp (disch := omega) only [b_Reader_readTell_134, be_6, be_1, be_57_1, kc_2, List.getD_cons_zero, List.getD_cons_succ, List.set_cons_zero, List.set_cons_succ, List.length_cons, List.length_nil, pk_I, pk_A, pr_A, pi_I, st_s, st_n, if_true, if_false, eq_self, d_if, d_ju, d_re, d_ca, cat0, cat1, cat2, cat3, fr_z, fr_s, cc_I, cc_A, cc_N, Nat.reduceAdd, Nat.reduceLT, Nat.reduceLeDiff, Nat.reduceEqDiff, not_true, not_false_iff, z1_0, z1_1, Bool.and_self, Bool.true_and, Bool.and_true, nI_add, pk_mul, nI_clamp, decide_true, Nat.le_refl, bI_eq, bI_z1, hsw]
  refine k_want (j := 4) (s := failS E 1 (.inr t, l, p)) (CE_2 hE f1) (s1) (by omega) rfl (by omega) (by omega) ?_
  intro v2 f2 s2
  refine go_at (blk := b_Reader_readTell_140) rfl ?_
  simp (disch := omega) only [b_Reader_readTell_140, be_56, List.getD_cons_zero, List.getD_cons_succ, List.set_cons_zero, List.set_cons_succ, List.length_cons, List.length_nil, pk_I, pk_A, pr_A, pi_I, st_s, st_n, if_true, if_false, eq_self, d_if, d_ju, d_re, d_ca, cat0, cat1, cat2, cat3, fr_z, fr_s, cc_I, cc_A, cc_N, Nat.reduceAdd, Nat.reduceLT, Nat.reduceLeDiff, Nat.reduceEqDiff, not_true, not_false_iff, z1_0, z1_1, Bool.and_self, Bool.true_and, Bool.and_true, nI_add, pk_mul, nI_clamp, decide_true, Nat.le_refl, bI_eq, bI_z1, hsw]
  exact hQ v2 w (.inl (1, eP E t), l, p) D (Or.inr (Or.inr (Or.inr (Or.inr (Or.inr (Or.inr ⟨h20, h21, h22, h23, h24, rfl⟩)))))) ⟨fun c c1 c2 => F2_t f1 f2 c c1, fun _ _ => rfl⟩ s2 (fun t' ht => by cases ht)
