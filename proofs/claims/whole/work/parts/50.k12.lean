/-! laid by wip/whole/k12.py: the class: how much oil, how much doubt -/
def lkP (cd vl : Nat → Int32) (y : Int32) (a : Nat) : Bool := decide (cd a = nI 1) && decide (vl a = y)
theorem pF_none {P : Nat → Bool} : ∀ (m i : Nat), pF P m i = none → ∀ a, i ≤ a → a < i + m → P a = false := by
  intro m
  induction m with
  | zero => intro i _ a h1 h2; omega
  | succ m ih =>
    intro i h a h1 h2
    by_cases hp : P i = true
    · exact absurd h (by show ¬ (if P i = true then some i else pF P m (i + 1)) = none; rw [if_pos hp]; simp)
    · have h' : pF P m (i + 1) = none := by
        rw [← h]
        exact (if_neg hp).symm
      by_cases e : a = i
      · rw [e]; simpa using hp
      · exact ih (i + 1) h' a (by omega) (by omega)
theorem vsS_ne {x : Nat → Int32} {j : Nat} {z y : Int32} (hj : j < 8) (h : y ≠ nI j) : vsS (upd x j z) y = vsS x y := by
  unfold vsS
  split
  · rfl
  · split
    · rfl
    · rename_i h1 h2
      obtain ⟨i, hi, rfl⟩ := nI_of h1
      have hi8 : i < 8 := by have := mt (nI_le (a := 8) (b := i) · hi) h2; omega
      rw [nI_clamp (by omega), upd_ne (by intro e; exact h (by rw [e]))]
theorem ctE_no {cd vl x : Nat → Int32} {len j : Nat} {z : Int32} (hj : j < 8) (h : ∀ a, a < len → lkP cd vl (nI j) a = false) : ∀ (k a : Nat) (st : List Int32), ctE cd vl (upd x j z) len k a st = ctE cd vl x len k a st := by
  intro k
  induction k with
  | zero => intro a st; rfl
  | succ k ih =>
    intro a st
    unfold ctE
    by_cases hl : len ≤ a
    · rw [if_pos hl, if_pos hl]
    · rw [if_neg hl, if_neg hl]
      by_cases h1 : cd a = nI 1
      · have hv : vl a ≠ nI j := by
          have := h a (by omega)
          unfold lkP at this
          rw [decide_eq_true h1] at this
          simpa using this
        rw [vsS_ne hj hv, ih, ih]
        match st with
        | [] => rfl
        | [_] => rfl
        | r :: l :: st' => simp only [ih]
      · rw [if_neg h1, if_neg h1, ih]
        match st with
        | [] => rfl
        | [_] => rfl
        | r :: l :: st' => simp only [ih]
/-- MOVES does not look at a VAR -/
def noL (T : TXT) (j : Nat) : Prop := ∀ x z, tM T (upd x j z) = tM T x
theorem vr_40 {T : TXT} {no md : Int32} {f g : Nat → Int32} {a b c : Int32} (hn : tN T ≤ 8) (e : ∀ j, j ≠ 40 → g j = f j) : vrT T no md g a b c = upd (vrT T no md f a b c) 2 (g 40) := by
  have ho : ∀ p, p < tN T → onB g no p = onB f no p := by intro p hp; unfold onB; rw [e _ (by omega)]
  funext k
  by_cases h2 : k = 2
  · subst h2; rw [upd_at]; rfl
  · rw [upd_ne h2]
    unfold vrT vars
    rw [smI_cong (g := knG g no (tK T)) (h := knG f no (tK T)) (fun p hp => by unfold knG; rw [ho p hp, e _ (by omega)]), smI_cong (g := dbG g no (tD T)) (h := dbG f no (tD T)) (fun p hp => by unfold dbG; rw [ho p hp, e _ (by omega)]), cnt_cong ho, e 41 (by omega)]
    match k, h2 with
    | 0, _ => rfl
    | 1, _ => rfl
    | 3, _ => rfl
    | 4, _ => rfl
    | 5, _ => rfl
    | 6, _ => rfl
    | 7, _ => rfl
    | _ + 8, _ => rfl
theorem g1_40 {top by_ : Int32} {kn f g : Nat → Int32} (e : ∀ j, j ≠ 40 → g j = f j) {j : Nat} (hj : j < 40) : g1 top by_ kn g j = g1 top by_ kn f j := by
  unfold g1
  rw [e (j % 8) (by omega), e (8 + j % 8) (by omega), e j (by omega), e 41 (by omega)]
theorem g2_40 {so f g : Nat → Int32} (e : ∀ j, j ≠ 40 → g j = f j) {j : Nat} (hj : j < 40) : g2 so g j = g2 so f j := by
  unfold g2
  rw [e (16 + j % 8) (by omega), e (8 + j % 8) (by omega), e j (by omega)]
theorem mix_40 {n : Nat} {G G' f g : Nat → Int32} {no : Int32} (e : ∀ j, j ≠ 40 → g j = f j) (eG : ∀ j, j < 40 → G' j = G j) : ∀ j, j ≠ 40 → mix n G' g no j = mix n G f no j := by
  intro j hj
  unfold mix
  have ho : onB g no (j % 8) = onB f no (j % 8) := by unfold onB; rw [e _ (by omega)]
  rw [ho, e j hj]
  by_cases h : j < 40
  · rw [eG j h]
  · simp [h]
theorem minR_e40 {n : Nat} {top by_ no : Int32} {kn so f g : Nat → Int32} (e : ∀ j, j ≠ 40 → g j = f j) : ∀ j, j ≠ 40 → minR n top by_ no kn so g j = minR n top by_ no kn so f j := by
  intro j hj
  have e1 := mix_40 (n := n) (no := no) (G := g1 top by_ kn f) (G' := g1 top by_ kn g) e (fun j hj => g1_40 e hj)
  have e2 := mix_40 (n := n) (no := no) (G := g2 so (mix n (g1 top by_ kn f) f no)) (G' := g2 so (mix n (g1 top by_ kn g) g no)) e1 (fun j hj => g2_40 e1 hj)
  unfold minR minT
  rw [if_neg hj, if_neg hj, e2 41 (by omega), e2 42 (by omega), e2 j hj]
theorem it_40 {T : TXT} {no md : Int32} {f g : Nat → Int32} (hn : tN T ≤ 8) (hl : noL T 2) (e : ∀ j, j ≠ 40 → g j = f j) (k : Nat) : ∀ j, j ≠ 40 → itT T no md k g j = itT T no md k f j := by
  induction k with
  | zero => exact e
  | succ k ih =>
    show ∀ j, j ≠ 40 → mnT T no md (itT T no md k g) j = mnT T no md (itT T no md k f) j
    unfold mnT
    have : mvT T no md (itT T no md k g) = mvT T no md (itT T no md k f) := by
      unfold mvT
      rw [vr_40 hn ih, hl]
    rw [this]
    exact minR_e40 ih
theorem srS_cong {P P' : Nat → Bool} (e : ∀ k, P k = P' k) : ∀ (m k : Nat), srS P m k = srS P' m k := by
  intro m
  induction m with
  | zero => intro k; rfl
  | succ m ih => intro k; unfold srS; rw [e, ih]
theorem ar_40 {T : TXT} {no md : Int32} {f g : Nat → Int32} {p n : Nat} (hn : tN T ≤ 8) (hp : p < tN T) (hl : noL T 2) (e : ∀ j, j ≠ 40 → g j = f j) : arS T no md g p n = arS T no md f p n := by
  unfold arS
  exact srS_cong (fun k => by unfold onB; rw [it_40 hn hl e k _ (by omega)]) _ _
theorem vr_md {T : TXT} {no md me : Int32} {f : Nat → Int32} {a b c : Int32} : ∃ z, vrT T no me f a b c = upd (vrT T no md f a b c) 1 z := by
  refine ⟨smI me (dbG f no (tD T)) (tN T), ?_⟩
  funext k
  by_cases h2 : k = 1
  · subst h2; rw [upd_at]; rfl
  · rw [upd_ne h2]
    unfold vrT vars
    match k, h2 with
    | 0, _ => rfl
    | 2, _ => rfl
    | 3, _ => rfl
    | 4, _ => rfl
    | 5, _ => rfl
    | 6, _ => rfl
    | 7, _ => rfl
    | _ + 8, _ => rfl
theorem it_md {T : TXT} {no md me : Int32} {f : Nat → Int32} (hl : noL T 1) (k : Nat) : itT T no me k f = itT T no md k f := by
  induction k with
  | zero => rfl
  | succ k ih =>
    show mnT T no me (itT T no me k f) = mnT T no md (itT T no md k f)
    rw [ih]
    unfold mnT mvT
    obtain ⟨z, hz⟩ := vr_md (T := T) (no := no) (md := md) (me := me) (f := itT T no md k f) (a := 0) (b := 0) (c := 0)
    rw [hz, hl]
theorem ar_md {T : TXT} {no md me : Int32} {f : Nat → Int32} {p n : Nat} (hl : noL T 1) : arS T no me f p n = arS T no md f p n := by
  unfold arS
  exact srS_cong (fun k => by rw [it_md hl]) _ _
/-- the last below m -/
def sdS (P : Nat → Bool) : Nat → Int32
  | 0 => -2
  | m + 1 => if P m = true then nI m else sdS P m
theorem sd_f {P : Nat → Bool} (h : ∀ k, P k = false) (m : Nat) : sdS P m = -2 := by
  induction m with
  | zero => rfl
  | succ m ih => unfold sdS; rw [if_neg (by rw [h]; decide), ih]
theorem sr_ff {P : Nat → Bool} (h : ∀ k, P k = false) : ∀ m k, srS P m k = -2 := by
  intro m
  induction m with
  | zero => intro k; rfl
  | succ m ih => intro k; unfold srS; rw [if_neg (by rw [h]; decide), ih]
def olP (T : TXT) (f : Nat → Int32) (p n a : Nat) : Bool := !decide (arS T (-1) 0 (upd f 40 (f 40 + nI a)) p n = -2)
def olS (T : TXT) (f : Nat → Int32) (p n : Nat) : Int32 := srS (olP T f p n) 301 0
def dbP (T : TXT) (f : Nat → Int32) (p n a : Nat) : Bool := !decide (arS T (-1) (nI a) f p n = -2)
def dbS (T : TXT) (f : Nat → Int32) (p n : Nat) : Int32 := sdS (dbP T f p n) 301
theorem upd_self {f : Nat → Int32} {k : Nat} : upd f k (f k) = f := by
  funext j
  unfold upd
  split
  · rename_i h; rw [h]
  · rfl
theorem ol_no {T : TXT} {f : Nat → Int32} {p n : Nat} (hn : tN T ≤ 8) (hp : p < tN T) (hl : noL T 2) : olS T f p n = srS (olP T f p n) 1 0 := by
  have hc : ∀ a, olP T f p n a = olP T f p n 0 := by
    intro a
    unfold olP
    rw [ar_40 (f := upd f 40 (f 40 + nI 0)) hn hp hl (fun j hj => by rw [upd_ne hj, upd_ne hj])]
  unfold olS
  by_cases h : olP T f p n 0 = true
  · rw [show srS (olP T f p n) 301 0 = nI 0 from if_pos h, show srS (olP T f p n) 1 0 = nI 0 from if_pos h]
  · have hz : ∀ a, olP T f p n a = false := by intro a; rw [hc]; simpa using h
    rw [sr_ff hz, sr_ff hz]
theorem db_no {T : TXT} {f : Nat → Int32} {p n : Nat} (hl : noL T 1) : dbS T f p n = if dbP T f p n 300 = true then nI 300 else -2 := by
  have hc : ∀ a, dbP T f p n a = dbP T f p n 300 := by
    intro a
    unfold dbP
    rw [ar_md (md := nI 300) hl]
  unfold dbS
  by_cases h : dbP T f p n 300 = true
  · rw [if_pos h]
    exact if_pos h
  · have hz : ∀ a, dbP T f p n a = false := by intro a; rw [hc]; simpa using h
    rw [if_neg h, sd_f hz]
theorem KX_no {v : Nat → Nat → Int32} {T : TXT} {j k : Nat} (hj : j < 8) (h : KX v T) (hk : v 32 2 = nI k) (hk4 : k ≤ 400) (hn : pF (lkP (v 33) (v 34) (nI j)) k 0 = none) : noL T j := by
  obtain ⟨_, _, _, _, _, ⟨l, l1, l2, l3⟩, _⟩ := h
  have : l = k := (nI_eq (by have := l2.1; omega) (by omega)).mp (l1.symm.trans hk)
  subst this
  intro x z
  rw [← l3, ← l3]
  unfold ctS
  rw [ctE_no hj (fun a ha => pF_none _ _ hn a (by omega) (by omega))]
theorem k_looksAt {d : Nat} {v : Nat → Nat → Int32} {w : Nat → Nat → Int64} {Q : Option Value → am_H → Prop} {k : Nat} {y : Int32} (hl : v 32 2 = nI k) (hk : k ≤ 400) (hQ : Q (some (.int (bI (pF (lkP (v 33) (v 34) y) k 0).isSome))) (428, 26053, KD, RF, v, w)) : am_Ca (d + 1) M_Law_looksAt [.ref 32, .int y] (428, 26053, KD, RF, v, w) Q := by
  refine ca_in (k := k_Law_looksAt) (nL := 3) rfl (Nat.le_of_ble_eq_true rfl) ?_
  show am_Go am_X0 _ k_Law_looksAt 0 ([.ref 32, .int y, .null], [], _) _
  refine go_at (blk := b_Law_looksAt_0) rfl ?_
  simp (disch := omega) only [b_Law_looksAt_0, be_1, be_7, be_0, List.getD_cons_zero, List.getD_cons_succ, List.set_cons_zero, List.set_cons_succ, List.length_cons, List.length_nil, pk_I, pk_A, pr_A, pi_I, st_s, st_n, if_true, if_false, eq_self, d_if, d_ju, d_re, d_ca, cat0, cat1, cat2, cat3, fr_z, fr_s, cc_I, cc_A, cc_N, Nat.reduceAdd, Nat.reduceLT, Nat.reduceLeDiff, Nat.reduceEqDiff, not_true, not_false_iff, z1_0, z1_1, Bool.and_self, Bool.true_and, Bool.and_true, nI_add, pk_mul, nI_clamp, decide_true, Nat.le_refl, bI_eq, bI_z1]
  refine go_loopA (α := Unit) (fun i z => ([.ref 32, .int y, .int (nI i)], [], (428, 26053, KD, RF, v, w))) (fun i z => pF (lkP (v 33) (v 34) y) k 0 = pF (lkP (v 33) (v 34) y) (k - i) i) (k) ?_ ?_ () rfl
  · intro i _ hi i1 ih
    try dsimp only at *
    have hni : ¬ k ≤ i := by omega
    refine go_at (blk := b_Law_looksAt_2) rfl ?_
    simp (disch := omega) only [b_Law_looksAt_2, be_4, be_6, be_33, be_49_3, kc_32, List.getD_cons_zero, List.getD_cons_succ, List.set_cons_zero, List.set_cons_succ, List.length_cons, List.length_nil, pk_I, pk_A, pr_A, pi_I, st_s, st_n, if_true, if_false, eq_self, d_if, d_ju, d_re, d_ca, cat0, cat1, cat2, cat3, fr_z, fr_s, cc_I, cc_A, cc_N, Nat.reduceAdd, Nat.reduceLT, Nat.reduceLeDiff, Nat.reduceEqDiff, not_true, not_false_iff, z1_0, z1_1, Bool.and_self, Bool.true_and, Bool.and_true, nI_add, pk_mul, nI_clamp, decide_true, Nat.le_refl, bI_eq, bI_z1, nI_ltI, nI_leI, hni, hl]
    refine go_at (blk := b_Law_looksAt_10) rfl ?_
    simp (disch := omega) only [b_Law_looksAt_10, be_6, be_34, be_4, be_38, be_1, be_49_1, kc_32, rf_32_0, ka_33, List.getD_cons_zero, List.getD_cons_succ, List.set_cons_zero, List.set_cons_succ, List.length_cons, List.length_nil, pk_I, pk_A, pr_A, pi_I, st_s, st_n, if_true, if_false, eq_self, d_if, d_ju, d_re, d_ca, cat0, cat1, cat2, cat3, fr_z, fr_s, cc_I, cc_A, cc_N, Nat.reduceAdd, Nat.reduceLT, Nat.reduceLeDiff, Nat.reduceEqDiff, not_true, not_false_iff, z1_0, z1_1, Bool.and_self, Bool.true_and, Bool.and_true, nI_add, pk_mul, nI_clamp, decide_true, Nat.le_refl, bI_eq, bI_z1, nI_ltI, nI_leI, hni, hl]
    split
    · rename_i ha
      refine go_at (blk := b_Law_looksAt_32) rfl ?_
      simp (disch := omega) only [b_Law_looksAt_32, be_10, be_51, List.getD_cons_zero, List.getD_cons_succ, List.set_cons_zero, List.set_cons_succ, List.length_cons, List.length_nil, pk_I, pk_A, pr_A, pi_I, st_s, st_n, if_true, if_false, eq_self, d_if, d_ju, d_re, d_ca, cat0, cat1, cat2, cat3, fr_z, fr_s, cc_I, cc_A, cc_N, Nat.reduceAdd, Nat.reduceLT, Nat.reduceLeDiff, Nat.reduceEqDiff, not_true, not_false_iff, z1_0, z1_1, Bool.and_self, Bool.true_and, Bool.and_true, nI_add, pk_mul, nI_clamp, decide_true, Nat.le_refl, bI_eq, bI_z1, nI_ltI, nI_leI, hni, hl]
      exact ih () (by rw [i1, pF_f hi (by unfold lkP; rw [decide_eq_false ha]; rfl)])
    · rename_i ha
      refine go_at (blk := b_Law_looksAt_20) rfl ?_
      simp (disch := omega) only [b_Law_looksAt_20, be_6, be_34, be_4, be_38, be_49_1, kc_32, rf_32_1, ka_34, List.getD_cons_zero, List.getD_cons_succ, List.set_cons_zero, List.set_cons_succ, List.length_cons, List.length_nil, pk_I, pk_A, pr_A, pi_I, st_s, st_n, if_true, if_false, eq_self, d_if, d_ju, d_re, d_ca, cat0, cat1, cat2, cat3, fr_z, fr_s, cc_I, cc_A, cc_N, Nat.reduceAdd, Nat.reduceLT, Nat.reduceLeDiff, Nat.reduceEqDiff, not_true, not_false_iff, z1_0, z1_1, Bool.and_self, Bool.true_and, Bool.and_true, nI_add, pk_mul, nI_clamp, decide_true, Nat.le_refl, bI_eq, bI_z1, nI_ltI, nI_leI, hni, hl]
      split
      · rename_i hb
        refine go_at (blk := b_Law_looksAt_32) rfl ?_
        simp (disch := omega) only [b_Law_looksAt_32, be_10, be_51, List.getD_cons_zero, List.getD_cons_succ, List.set_cons_zero, List.set_cons_succ, List.length_cons, List.length_nil, pk_I, pk_A, pr_A, pi_I, st_s, st_n, if_true, if_false, eq_self, d_if, d_ju, d_re, d_ca, cat0, cat1, cat2, cat3, fr_z, fr_s, cc_I, cc_A, cc_N, Nat.reduceAdd, Nat.reduceLT, Nat.reduceLeDiff, Nat.reduceEqDiff, not_true, not_false_iff, z1_0, z1_1, Bool.and_self, Bool.true_and, Bool.and_true, nI_add, pk_mul, nI_clamp, decide_true, Nat.le_refl, bI_eq, bI_z1, nI_ltI, nI_leI, hni, hl]
        exact ih () (by rw [i1, pF_f hi (by unfold lkP; rw [decide_eq_false hb]; simp)])
      · rename_i hb
        refine go_at (blk := b_Law_looksAt_30) rfl ?_
        simp (disch := omega) only [b_Law_looksAt_30, be_1, be_73, List.getD_cons_zero, List.getD_cons_succ, List.set_cons_zero, List.set_cons_succ, List.length_cons, List.length_nil, pk_I, pk_A, pr_A, pi_I, st_s, st_n, if_true, if_false, eq_self, d_if, d_ju, d_re, d_ca, cat0, cat1, cat2, cat3, fr_z, fr_s, cc_I, cc_A, cc_N, Nat.reduceAdd, Nat.reduceLT, Nat.reduceLeDiff, Nat.reduceEqDiff, not_true, not_false_iff, z1_0, z1_1, Bool.and_self, Bool.true_and, Bool.and_true, nI_add, pk_mul, nI_clamp, decide_true, Nat.le_refl, bI_eq, bI_z1, nI_ltI, nI_leI, hni, hl]
        rw [i1, pF_t hi (show lkP (v 33) (v 34) y i = true by unfold lkP; rw [decide_eq_true (Decidable.not_not.mp ha), decide_eq_true (Decidable.not_not.mp hb)]; rfl)] at hQ
        exact hQ
  · intro _ i1
    try dsimp only at *
    refine go_at (blk := b_Law_looksAt_2) rfl ?_
    simp (disch := omega) only [b_Law_looksAt_2, be_4, be_6, be_33, be_49_3, kc_32, List.getD_cons_zero, List.getD_cons_succ, List.set_cons_zero, List.set_cons_succ, List.length_cons, List.length_nil, pk_I, pk_A, pr_A, pi_I, st_s, st_n, if_true, if_false, eq_self, d_if, d_ju, d_re, d_ca, cat0, cat1, cat2, cat3, fr_z, fr_s, cc_I, cc_A, cc_N, Nat.reduceAdd, Nat.reduceLT, Nat.reduceLeDiff, Nat.reduceEqDiff, not_true, not_false_iff, z1_0, z1_1, Bool.and_self, Bool.true_and, Bool.and_true, nI_add, pk_mul, nI_clamp, decide_true, Nat.le_refl, bI_eq, bI_z1, nI_ltI, nI_leI, hl]
    refine go_at (blk := b_Law_looksAt_38) rfl ?_
    simp (disch := omega) only [b_Law_looksAt_38, be_1, be_73, List.getD_cons_zero, List.getD_cons_succ, List.set_cons_zero, List.set_cons_succ, List.length_cons, List.length_nil, pk_I, pk_A, pr_A, pi_I, st_s, st_n, if_true, if_false, eq_self, d_if, d_ju, d_re, d_ca, cat0, cat1, cat2, cat3, fr_z, fr_s, cc_I, cc_A, cc_N, Nat.reduceAdd, Nat.reduceLT, Nat.reduceLeDiff, Nat.reduceEqDiff, not_true, not_false_iff, z1_0, z1_1, Bool.and_self, Bool.true_and, Bool.and_true, nI_add, pk_mul, nI_clamp, decide_true, Nat.le_refl, bI_eq, bI_z1, nI_ltI, nI_leI, hl]
    rw [i1, pF_e] at hQ
    exact hQ
theorem oil_ok {B : Int} {v : Nat → Nat → Int32} {T : TXT} {f : Nat → Int32} {a : Nat} (h : KI B v T f) (ha : a ≤ 300) : 0 ≤ (f 40 + nI a).toInt := by
  have h1 := h.2.2.2.2.1
  have h2 := h.2.2.1.2.1
  rw [Int32.toInt_add, nI_toInt (by omega), Int.bmod_eq_of_le (by omega) (by omega)]
  omega
theorem k_oil_loop {d : Nat} {v : Nat → Nat → Int32} {w : Nat → Nat → Int64} {Q : Option Value → am_H → Prop} {T : TXT} {f : Nat → Int32} {B : Int} (hK : KI B v T f) {p n N : Nat} (hp : p < tN T) (hn : n ≤ 300) (hN : N ≤ 300) (hQ : ∀ v', QF v v' → Q (some (.int (srS (olP T f p n) (N + 1) 0))) (428, 26053, KD, RF, v', w)) : am_Go am_X0 (d + 5) k_Forecast_leastOil 25 ([.ref 350, .int (nI p), .int (nI n), .int (nI N), .int (nI 0)], [], (428, 26053, KD, RF, v, w)) Q := by
  refine go_loopA (α := (Nat → Nat → Int32)) (fun i x => ([.ref 350, .int (nI p), .int (nI n), .int (nI N), .int (nI i)], [], (428, 26053, KD, RF, x, w))) (fun i x => QF v x ∧ srS (olP T f p n) (N + 1) 0 = srS (olP T f p n) (N + 1 - i) i) (N + 1) ?_ ?_ v ⟨QF_r, rfl⟩
  · intro i x hi ⟨i1, i2⟩ ih
    try dsimp only at *
    have hni : ¬ N < i := by omega
    refine go_at (blk := b_Forecast_leastOil_25) rfl ?_
    simp (disch := omega) only [b_Forecast_leastOil_25, be_4, be_49_4, List.getD_cons_zero, List.getD_cons_succ, List.set_cons_zero, List.set_cons_succ, List.length_cons, List.length_nil, pk_I, pk_A, pr_A, pi_I, st_s, st_n, if_true, if_false, eq_self, d_if, d_ju, d_re, d_ca, cat0, cat1, cat2, cat3, fr_z, fr_s, cc_I, cc_A, cc_N, Nat.reduceAdd, Nat.reduceLT, Nat.reduceLeDiff, Nat.reduceEqDiff, not_true, not_false_iff, z1_0, z1_1, Bool.and_self, Bool.true_and, Bool.and_true, nI_add, pk_mul, nI_clamp, decide_true, Nat.le_refl, bI_eq, bI_z1, nI_ltI, nI_leI, hni]
    refine go_at (blk := b_Forecast_leastOil_31) rfl ?_
    simp (disch := omega) only [b_Forecast_leastOil_31, be_6, be_4, be_1, be_57_4, kc_350, List.getD_cons_zero, List.getD_cons_succ, List.set_cons_zero, List.set_cons_succ, List.length_cons, List.length_nil, pk_I, pk_A, pr_A, pi_I, st_s, st_n, if_true, if_false, eq_self, d_if, d_ju, d_re, d_ca, cat0, cat1, cat2, cat3, fr_z, fr_s, cc_I, cc_A, cc_N, Nat.reduceAdd, Nat.reduceLT, Nat.reduceLeDiff, Nat.reduceEqDiff, not_true, not_false_iff, z1_0, z1_1, Bool.and_self, Bool.true_and, Bool.and_true, nI_add, pk_mul, nI_clamp, decide_true, Nat.le_refl, bI_eq, bI_z1, nI_ltI, nI_leI, hni]
    refine k_arrival (KI_q hK i1) hp hn (oil_ok hK (by omega)) ?_
    intro v2 q2
    refine go_at (blk := b_Forecast_leastOil_40) rfl ?_
    simp (disch := omega) only [b_Forecast_leastOil_40, be_2, be_49_0, List.getD_cons_zero, List.getD_cons_succ, List.set_cons_zero, List.set_cons_succ, List.length_cons, List.length_nil, pk_I, pk_A, pr_A, pi_I, st_s, st_n, if_true, if_false, eq_self, d_if, d_ju, d_re, d_ca, cat0, cat1, cat2, cat3, fr_z, fr_s, cc_I, cc_A, cc_N, Nat.reduceAdd, Nat.reduceLT, Nat.reduceLeDiff, Nat.reduceEqDiff, not_true, not_false_iff, z1_0, z1_1, Bool.and_self, Bool.true_and, Bool.and_true, nI_add, pk_mul, nI_clamp, decide_true, Nat.le_refl, bI_eq, bI_z1, nI_ltI, nI_leI, hni]
    split
    · rename_i hb
      refine go_at (blk := b_Forecast_leastOil_48) rfl ?_
      simp (disch := omega) only [b_Forecast_leastOil_48, be_10, be_51, List.getD_cons_zero, List.getD_cons_succ, List.set_cons_zero, List.set_cons_succ, List.length_cons, List.length_nil, pk_I, pk_A, pr_A, pi_I, st_s, st_n, if_true, if_false, eq_self, d_if, d_ju, d_re, d_ca, cat0, cat1, cat2, cat3, fr_z, fr_s, cc_I, cc_A, cc_N, Nat.reduceAdd, Nat.reduceLT, Nat.reduceLeDiff, Nat.reduceEqDiff, not_true, not_false_iff, z1_0, z1_1, Bool.and_self, Bool.true_and, Bool.and_true, nI_add, pk_mul, nI_clamp, decide_true, Nat.le_refl, bI_eq, bI_z1, nI_ltI, nI_leI, hni]
      refine ih v2 ⟨QF_t i1 q2, ?_⟩
      rw [i2, sr_f (by omega) (show olP T f p n i = false by unfold olP; rw [show arS T (-1) 0 (upd f 40 (f 40 + nI i)) p n = -2 from hb]; rfl)]
    · rename_i hb
      refine go_at (blk := b_Forecast_leastOil_45) rfl ?_
      simp (disch := omega) only [b_Forecast_leastOil_45, be_4, be_54, List.getD_cons_zero, List.getD_cons_succ, List.set_cons_zero, List.set_cons_succ, List.length_cons, List.length_nil, pk_I, pk_A, pr_A, pi_I, st_s, st_n, if_true, if_false, eq_self, d_if, d_ju, d_re, d_ca, cat0, cat1, cat2, cat3, fr_z, fr_s, cc_I, cc_A, cc_N, Nat.reduceAdd, Nat.reduceLT, Nat.reduceLeDiff, Nat.reduceEqDiff, not_true, not_false_iff, z1_0, z1_1, Bool.and_self, Bool.true_and, Bool.and_true, nI_add, pk_mul, nI_clamp, decide_true, Nat.le_refl, bI_eq, bI_z1, nI_ltI, nI_leI, hni]
      rw [i2, sr_t (by omega) (show olP T f p n i = true by unfold olP; rw [decide_eq_false (p := arS T (-1) 0 (upd f 40 (f 40 + nI i)) p n = -2) hb]; rfl)] at hQ
      exact hQ v2 (QF_t i1 q2)
  · intro x ⟨i1, i2⟩
    try dsimp only at *
    refine go_at (blk := b_Forecast_leastOil_25) rfl ?_
    simp (disch := omega) only [b_Forecast_leastOil_25, be_4, be_49_4, List.getD_cons_zero, List.getD_cons_succ, List.set_cons_zero, List.set_cons_succ, List.length_cons, List.length_nil, pk_I, pk_A, pr_A, pi_I, st_s, st_n, if_true, if_false, eq_self, d_if, d_ju, d_re, d_ca, cat0, cat1, cat2, cat3, fr_z, fr_s, cc_I, cc_A, cc_N, Nat.reduceAdd, Nat.reduceLT, Nat.reduceLeDiff, Nat.reduceEqDiff, not_true, not_false_iff, z1_0, z1_1, Bool.and_self, Bool.true_and, Bool.and_true, nI_add, pk_mul, nI_clamp, decide_true, Nat.le_refl, bI_eq, bI_z1, nI_ltI, nI_leI, Nat.lt_add_one]
    refine go_at (blk := b_Forecast_leastOil_54) rfl ?_
    simp (disch := omega) only [b_Forecast_leastOil_54, be_2, be_54, List.getD_cons_zero, List.getD_cons_succ, List.set_cons_zero, List.set_cons_succ, List.length_cons, List.length_nil, pk_I, pk_A, pr_A, pi_I, st_s, st_n, if_true, if_false, eq_self, d_if, d_ju, d_re, d_ca, cat0, cat1, cat2, cat3, fr_z, fr_s, cc_I, cc_A, cc_N, Nat.reduceAdd, Nat.reduceLT, Nat.reduceLeDiff, Nat.reduceEqDiff, not_true, not_false_iff, z1_0, z1_1, Bool.and_self, Bool.true_and, Bool.and_true, nI_add, pk_mul, nI_clamp, decide_true, Nat.le_refl, bI_eq, bI_z1, nI_ltI, nI_leI, Nat.lt_add_one]
    rw [i2, sr_e] at hQ
    exact hQ x i1
set_option maxHeartbeats 1000000 in
theorem k_leastOil {d : Nat} {v : Nat → Nat → Int32} {w : Nat → Nat → Int64} {Q : Option Value → am_H → Prop} {T : TXT} {f : Nat → Int32} {B : Int} (hK : KI B v T f) {p n : Nat} (hp : p < tN T) (hn : n ≤ 300) (hQ : ∀ v', QF v v' → Q (some (.int (olS T f p n))) (428, 26053, KD, RF, v', w)) : am_Ca (d + 6) M_Forecast_leastOil [.ref 350, .int (nI p), .int (nI n)] (428, 26053, KD, RF, v, w) Q := by
  have h8 := hK.1.1
  have hBB := hK.2.2.2.2.2
  obtain ⟨l, hl, hl2, _⟩ := hK.1.2.2.2.2.2.1
  have hl4 := hl2.1
  refine ca_in (k := k_Forecast_leastOil) (nL := 5) rfl (Nat.le_of_ble_eq_true rfl) ?_
  show am_Go am_X0 _ k_Forecast_leastOil 0 ([.ref 350, .int (nI p), .int (nI n), .null, .null], [], _) _
  refine go_at (blk := b_Forecast_leastOil_0) rfl ?_
  simp (disch := omega) only [b_Forecast_leastOil_0, be_6, be_34, be_1, be_57_1, kc_350, rf_350_0, kc_25, rf_25_9, kc_32, List.getD_cons_zero, List.getD_cons_succ, List.set_cons_zero, List.set_cons_succ, List.length_cons, List.length_nil, pk_I, pk_A, pr_A, pi_I, st_s, st_n, if_true, if_false, eq_self, d_if, d_ju, d_re, d_ca, cat0, cat1, cat2, cat3, fr_z, fr_s, cc_I, cc_A, cc_N, Nat.reduceAdd, Nat.reduceLT, Nat.reduceLeDiff, Nat.reduceEqDiff, not_true, not_false_iff, z1_0, z1_1, Bool.and_self, Bool.true_and, Bool.and_true, nI_add, pk_mul, nI_clamp, decide_true, Nat.le_refl, bI_eq, bI_z1]
  refine k_looksAt hl hl4 ?_
  refine go_at (blk := b_Forecast_leastOil_11) rfl ?_
  simp (disch := omega) only [b_Forecast_leastOil_11, be_50_0, List.getD_cons_zero, List.getD_cons_succ, List.set_cons_zero, List.set_cons_succ, List.length_cons, List.length_nil, pk_I, pk_A, pr_A, pi_I, st_s, st_n, if_true, if_false, eq_self, d_if, d_ju, d_re, d_ca, cat0, cat1, cat2, cat3, fr_z, fr_s, cc_I, cc_A, cc_N, Nat.reduceAdd, Nat.reduceLT, Nat.reduceLeDiff, Nat.reduceEqDiff, not_true, not_false_iff, z1_0, z1_1, Bool.and_self, Bool.true_and, Bool.and_true, nI_add, pk_mul, nI_clamp, decide_true, Nat.le_refl, bI_eq, bI_z1]
  split
  · rename_i hc
    refine go_at (blk := b_Forecast_leastOil_20) rfl ?_
    simp (disch := omega) only [b_Forecast_leastOil_20, be_1, be_0, List.getD_cons_zero, List.getD_cons_succ, List.set_cons_zero, List.set_cons_succ, List.length_cons, List.length_nil, pk_I, pk_A, pr_A, pi_I, st_s, st_n, if_true, if_false, eq_self, d_if, d_ju, d_re, d_ca, cat0, cat1, cat2, cat3, fr_z, fr_s, cc_I, cc_A, cc_N, Nat.reduceAdd, Nat.reduceLT, Nat.reduceLeDiff, Nat.reduceEqDiff, not_true, not_false_iff, z1_0, z1_1, Bool.and_self, Bool.true_and, Bool.and_true, nI_add, pk_mul, nI_clamp, decide_true, Nat.le_refl, bI_eq, bI_z1]
    refine go_at (blk := b_Forecast_leastOil_21) rfl ?_
    simp (disch := omega) only [b_Forecast_leastOil_21, be_7, be_1, be_0, List.getD_cons_zero, List.getD_cons_succ, List.set_cons_zero, List.set_cons_succ, List.length_cons, List.length_nil, pk_I, pk_A, pr_A, pi_I, st_s, st_n, if_true, if_false, eq_self, d_if, d_ju, d_re, d_ca, cat0, cat1, cat2, cat3, fr_z, fr_s, cc_I, cc_A, cc_N, Nat.reduceAdd, Nat.reduceLT, Nat.reduceLeDiff, Nat.reduceEqDiff, not_true, not_false_iff, z1_0, z1_1, Bool.and_self, Bool.true_and, Bool.and_true, nI_add, pk_mul, nI_clamp, decide_true, Nat.le_refl, bI_eq, bI_z1]
    have hnl : noL T 2 := KX_no (by omega) hK.1 hl hl4 (by simpa using hc)
    rw [ol_no h8 hp hnl] at hQ
    exact k_oil_loop hK (N := 0) hp hn (by omega) hQ
  · rename_i hc
    refine go_at (blk := b_Forecast_leastOil_14) rfl ?_
    simp (disch := omega) only [b_Forecast_leastOil_14, be_1, be_51, List.getD_cons_zero, List.getD_cons_succ, List.set_cons_zero, List.set_cons_succ, List.length_cons, List.length_nil, pk_I, pk_A, pr_A, pi_I, st_s, st_n, if_true, if_false, eq_self, d_if, d_ju, d_re, d_ca, cat0, cat1, cat2, cat3, fr_z, fr_s, cc_I, cc_A, cc_N, Nat.reduceAdd, Nat.reduceLT, Nat.reduceLeDiff, Nat.reduceEqDiff, not_true, not_false_iff, z1_0, z1_1, Bool.and_self, Bool.true_and, Bool.and_true, nI_add, pk_mul, nI_clamp, decide_true, Nat.le_refl, bI_eq, bI_z1]
    refine go_at (blk := b_Forecast_leastOil_21) rfl ?_
    simp (disch := omega) only [b_Forecast_leastOil_21, be_7, be_1, be_0, List.getD_cons_zero, List.getD_cons_succ, List.set_cons_zero, List.set_cons_succ, List.length_cons, List.length_nil, pk_I, pk_A, pr_A, pi_I, st_s, st_n, if_true, if_false, eq_self, d_if, d_ju, d_re, d_ca, cat0, cat1, cat2, cat3, fr_z, fr_s, cc_I, cc_A, cc_N, Nat.reduceAdd, Nat.reduceLT, Nat.reduceLeDiff, Nat.reduceEqDiff, not_true, not_false_iff, z1_0, z1_1, Bool.and_self, Bool.true_and, Bool.and_true, nI_add, pk_mul, nI_clamp, decide_true, Nat.le_refl, bI_eq, bI_z1]
    exact k_oil_loop hK (N := 300) hp hn (by omega) hQ
