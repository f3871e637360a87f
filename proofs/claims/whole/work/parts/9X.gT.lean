/-! laid by wip/whole/gT.py: what codes tell, by themselves -/
def opL (c : Nat) (l r : Int32) : Int32 := if c = 2 then l + r else if c = 3 then l - r else if c = 4 then l * r else l / r
def evL (x : Nat → Int32) : CL → List Int32 → Option (List Int32)
  | [], st => some st
  | q :: C, st => if q.1 = 0 then evL x C (q.2 :: st) else if q.1 = 1 then evL x C (x q.2.toNatClampNeg :: st) else match st with
    | r :: l :: st' => if q.1 = 5 ∧ r = 0 then none else evL x C (opL q.1 l r :: st')
    | _ => none
/-- codes are well made: from height h they lead to h'; below m all the way -/
def WL (m : Nat) : CL → Nat → Nat → Prop
  | [], h, h' => h = h'
  | q :: C, h, h' => (q.1 = 0 ∧ h < m ∧ WL m C (h + 1) h') ∨ (q.1 = 1 ∧ (∃ j, j < 8 ∧ q.2 = nI j) ∧ h < m ∧ WL m C (h + 1) h') ∨ (2 ≤ q.1 ∧ q.1 ≤ 5 ∧ 2 ≤ h ∧ WL m C (h - 1) h')
theorem WL_app {m : Nat} : ∀ (C1 C2 : CL) (h h1 h2 : Nat), WL m C1 h h1 → WL m C2 h1 h2 → WL m (C1 ++ C2) h h2 := by
  intro C1
  induction C1 with
  | nil => intro C2 h h1 h2 a b; have a : h = h1 := a; rw [a]; exact b
  | cons q C1 ih =>
    intro C2 h h1 h2 a b
    rcases a with ⟨a1, a2, a3⟩ | ⟨a1, a2, a3, a4⟩ | ⟨a1, a2, a3, a4⟩
    · exact Or.inl ⟨a1, a2, ih _ _ _ _ a3 b⟩
    · exact Or.inr (Or.inl ⟨a1, a2, a3, ih _ _ _ _ a4 b⟩)
    · exact Or.inr (Or.inr ⟨a1, a2, a3, ih _ _ _ _ a4 b⟩)
theorem WL_sh {m m' j : Nat} (hm : m + j ≤ m') : ∀ (C : CL) (h h' : Nat), WL m C h h' → WL m' C (h + j) (h' + j) := by
  intro C
  induction C with
  | nil => intro h h' a; have a : h = h' := a; show h + j = h' + j; rw [a]
  | cons q C ih =>
    intro h h' a
    rcases a with ⟨a1, a2, a3⟩ | ⟨a1, a2, a3, a4⟩ | ⟨a1, a2, a3, a4⟩
    · refine Or.inl ⟨a1, by omega, ?_⟩
      have := ih _ _ a3
      rw [show h + 1 + j = h + j + 1 by omega] at this
      exact this
    · refine Or.inr (Or.inl ⟨a1, a2, by omega, ?_⟩)
      have := ih _ _ a4
      rw [show h + 1 + j = h + j + 1 by omega] at this
      exact this
    · refine Or.inr (Or.inr ⟨a1, a2, by omega, ?_⟩)
      have := ih _ _ a4
      rw [show h - 1 + j = h + j - 1 by omega] at this
      exact this
theorem WL_5 {m : Nat} : ∀ (C : CL) (h h' : Nat), WL m C h h' → ∀ j, j < C.length → (C.getD j (0, 0)).1 ≤ 5 := by
  intro C
  induction C with
  | nil => intro h h' _ j hj; exact absurd hj (Nat.not_lt_zero _)
  | cons q C ih =>
    intro h h' a j hj
    have hq : q.1 ≤ 5 ∧ ∃ h2, WL m C h2 h' := by
      rcases a with ⟨a1, a2, a3⟩ | ⟨a1, a2, a3, a4⟩ | ⟨a1, a2, a3, a4⟩
      · exact ⟨by omega, _, a3⟩
      · exact ⟨by omega, _, a4⟩
      · exact ⟨by omega, _, a4⟩
    cases j with
    | zero => exact hq.1
    | succ j =>
      obtain ⟨h2, hw⟩ := hq.2
      rw [List.length_cons] at hj
      exact ih h2 h' hw j (by omega)
/-- the height of what comes out -/
theorem ev_h {m : Nat} {x : Nat → Int32} : ∀ (C : CL) (h h' : Nat) (st st' : List Int32), WL m C h h' → st.length = h → evL x C st = some st' → st'.length = h' := by
  intro C
  induction C with
  | nil => intro h h' st st' a b c; cases c; have a : h = h' := a; omega
  | cons q C ih =>
    intro h h' st st' a b c
    unfold evL at c
    rcases a with ⟨a1, a2, a3⟩ | ⟨a1, a2, a3, a4⟩ | ⟨a1, a2, a3, a4⟩
    · rw [if_pos a1] at c
      exact ih _ _ _ _ a3 (by rw [List.length_cons, b]) c
    · rw [if_neg (by omega), if_pos a1] at c
      exact ih _ _ _ _ a4 (by rw [List.length_cons, b]) c
    · rw [if_neg (by omega), if_neg (by omega)] at c
      match st, b, c with
      | r :: l :: st2, b, c =>
        dsimp only at c
        split at c
        · cases c
        · refine ih _ _ _ _ a4 ?_ c
          rw [List.length_cons] at b ⊢
          rw [List.length_cons] at b
          omega
      | [y], b, c => rw [List.length_cons, List.length_nil] at b; omega
      | [], b, c => rw [List.length_nil] at b; omega
/-- what lies deeper isn't touched -/
theorem ev_fr {m : Nat} {x : Nat → Int32} {rest : List Int32} : ∀ (C : CL) (h h' : Nat) (st : List Int32), WL m C h h' → st.length = h → evL x C (st ++ rest) = (evL x C st).map (fun s => s ++ rest) := by
  intro C
  induction C with
  | nil => intro h h' st a b; rfl
  | cons q C ih =>
    intro h h' st a b
    unfold evL
    rcases a with ⟨a1, a2, a3⟩ | ⟨a1, a2, a3, a4⟩ | ⟨a1, a2, a3, a4⟩
    · rw [if_pos a1, if_pos a1, ← List.cons_append]
      exact ih _ _ _ a3 (by rw [List.length_cons, b])
    · rw [if_neg (by omega), if_pos a1, if_neg (by omega), if_pos a1, ← List.cons_append]
      exact ih _ _ _ a4 (by rw [List.length_cons, b])
    · rw [if_neg (by omega), if_neg (by omega), if_neg (by omega), if_neg (by omega)]
      match st, b with
      | r :: l :: st2, b =>
        rw [List.cons_append, List.cons_append]
        dsimp only
        split
        · rfl
        · rw [← List.cons_append]
          refine ih _ _ _ a4 ?_
          rw [List.length_cons] at b ⊢
          rw [List.length_cons] at b
          omega
      | [y], b => rw [List.length_cons, List.length_nil] at b; omega
      | [], b => rw [List.length_nil] at b; omega
theorem gdA_l {C1 C2 : CL} {j : Nat} (h : j < C1.length) : (C1 ++ C2).getD j (0, 0) = C1.getD j (0, 0) := by
  rw [List.getD_eq_getElem?_getD, List.getD_eq_getElem?_getD, List.getElem?_append_left h]
theorem gdA_r {C1 C2 : CL} {j : Nat} : (C1 ++ C2).getD (C1.length + j) (0, 0) = C2.getD j (0, 0) := by
  rw [List.getD_eq_getElem?_getD, List.getD_eq_getElem?_getD, List.getElem?_append_right (by omega), show C1.length + j - C1.length = j by omega]
theorem ctE_s {cd vl x : Nat → Int32} {len k a : Nat} {st : List Int32} : ctE cd vl x len (k + 1) a st = (if len ≤ a then st.headD 0 else if cd a = nI 7 then st.headD 0 else if cd a = nI 0 then (if 24 ≤ st.length then 0 else ctE cd vl x len k (a + 1) (vl a :: st)) else if cd a = nI 1 then (if 24 ≤ st.length then 0 else ctE cd vl x len k (a + 1) (vsS x (vl a) :: st)) else match st with
    | r :: l :: st' => if cd a = nI 6 then (if l < r then ctE cd vl x len k (a + 1) st' else ctE cd vl x len k (vl a).toNatClampNeg st') else if cd a = nI 5 ∧ r = 0 then 0 else ctE cd vl x len k (a + 1) (rkS (cd a) l r :: st')
    | _ => 0) := rfl
/-- codes in a row -/
def sgx (cd vl : Nat → Int32) (a : Nat) (C : CL) : Prop := ∀ j, j < C.length → cd (a + j) = nI (C.getD j (0, 0)).1 ∧ vl (a + j) = (C.getD j (0, 0)).2
theorem sgx_c {cd vl : Nat → Int32} {a : Nat} {q : Nat × Int32} {C : CL} (h : sgx cd vl a (q :: C)) : (cd a = nI q.1 ∧ vl a = q.2) ∧ sgx cd vl (a + 1) C := by
  refine ⟨?_, fun j hj => ?_⟩
  · have := h 0 (by rw [List.length_cons]; omega)
    exact this
  · have := h (j + 1) (by rw [List.length_cons]; omega)
    rw [show a + 1 + j = a + (j + 1) by omega]
    exact this
theorem sgx_a {cd vl : Nat → Int32} {a : Nat} {C1 C2 : CL} (h : sgx cd vl a (C1 ++ C2)) : sgx cd vl a C1 ∧ sgx cd vl (a + C1.length) C2 := by
  refine ⟨fun j hj => ?_, fun j hj => ?_⟩
  · have := h j (by rw [List.length_append]; omega)
    rw [gdA_l hj] at this
    exact this
  · have := h (C1.length + j) (by rw [List.length_append]; omega)
    rw [gdA_r] at this
    rw [show a + C1.length + j = a + (C1.length + j) by omega]
    exact this
theorem evS_L {m : Nat} {cd vl x : Nat → Int32} : ∀ (C : CL) (a h h' : Nat) (st : List Int32), sgx cd vl a C → WL m C h h' → evS cd vl x C.length a st = evL x C st := by
  intro C
  induction C with
  | nil => intro a h h' st _ _; rfl
  | cons q C ih =>
    intro a h h' st hs hw
    obtain ⟨⟨s1, s2⟩, s3⟩ := sgx_c hs
    rw [List.length_cons]
    unfold evS evL
    rcases hw with ⟨a1, a2, a3⟩ | ⟨a1, a2, a3, a4⟩ | ⟨a1, a2, a3, a4⟩
    · rw [if_pos (by rw [s1, a1]), if_pos a1, s2]
      exact ih _ _ _ _ s3 a3
    · rw [if_neg (by rw [s1, nI_eq (by omega) (by omega)]; omega), if_pos (by rw [s1, a1]), if_neg (by omega), if_pos a1, s2]
      exact ih _ _ _ _ s3 a4
    · rw [if_neg (by rw [s1, nI_eq (by omega) (by omega)]; omega), if_neg (by rw [s1, nI_eq (by omega) (by omega)]; omega), if_neg (by omega), if_neg (by omega)]
      match st with
      | r :: l :: st2 =>
        dsimp only
        have e5 : (cd a = nI 5 ∧ r = 0) ↔ (q.1 = 5 ∧ r = 0) := by rw [s1, nI_eq (by omega) (by omega)]
        have e2 : (cd a = nI 2) ↔ q.1 = 2 := by rw [s1, nI_eq (by omega) (by omega)]
        have e3 : (cd a = nI 3) ↔ q.1 = 3 := by rw [s1, nI_eq (by omega) (by omega)]
        have e4 : (cd a = nI 4) ↔ q.1 = 4 := by rw [s1, nI_eq (by omega) (by omega)]
        simp only [e5, e2, e3, e4]
        split
        · rfl
        · exact ih _ _ _ _ s3 a4
      | [y] => rfl
      | [] => rfl
theorem htS_L {m : Nat} {cd vl : Nat → Int32} : ∀ (C : CL) (a h h' : Nat), sgx cd vl a C → WL m C h h' → htS cd vl C.length a h = some h' := by
  intro C
  induction C with
  | nil => intro a h h' _ hw; have hw : h = h' := hw; rw [hw]; rfl
  | cons q C ih =>
    intro a h h' hs hw
    obtain ⟨⟨s1, s2⟩, s3⟩ := sgx_c hs
    rw [List.length_cons]
    unfold htS
    rcases hw with ⟨a1, a2, a3⟩ | ⟨a1, ⟨j, j8, ej⟩, a3, a4⟩ | ⟨a1, a2, a3, a4⟩
    · rw [if_pos (by rw [s1, a1])]
      exact ih _ _ _ s3 a3
    · rw [if_neg (by rw [s1, nI_eq (by omega) (by omega)]; omega), if_pos ⟨by rw [s1, a1], by rw [s2, ej, nI_clamp (by omega)]; exact j8, by rw [s2, ej]; exact nn_lt (by omega)⟩]
      exact ih _ _ _ s3 a4
    · rw [if_neg (by rw [s1, nI_eq (by omega) (by omega)]; omega), if_neg (by rw [s1, nI_eq (by omega) (by omega)]; omega), if_pos ⟨by rw [s1, nI_eq (by omega) (by omega), nI_eq (by omega) (by omega), nI_eq (by omega) (by omega), nI_eq (by omega) (by omega)]; omega, a3⟩]
      exact ih _ _ _ s3 a4
/-- the class goes through codes in its row -/
theorem ctE_L {cd vl x : Nat → Int32} {len : Nat} : ∀ (C : CL) (a k h h' : Nat) (st : List Int32), sgx cd vl a C → WL 24 C h h' → st.length = h → a + C.length ≤ len → len < a + k → ctE cd vl x len k a st = match evL x C st with
    | none => 0
    | some st' => ctE cd vl x len (k - C.length) (a + C.length) st' := by
  intro C
  induction C with
  | nil => intro a k h h' st _ _ _ _ _; rfl
  | cons q C ih =>
    intro a k h h' st hs hw hl ha hk
    obtain ⟨⟨s1, s2⟩, s3⟩ := sgx_c hs
    rw [List.length_cons] at ha ⊢
    cases k with
    | zero => omega
    | succ k =>
      have e1 : k + 1 - (C.length + 1) = k - C.length := by omega
      have e2 : a + (C.length + 1) = a + 1 + C.length := by omega
      rw [e1, e2]
      unfold evL
      rw [ctE_s]
      rw [if_neg (show ¬ len ≤ a by omega)]
      rcases hw with ⟨a1, a2, a3⟩ | ⟨a1, ⟨j, j8, ej⟩, a3, a4⟩ | ⟨a1, a2, a3, a4⟩
      · rw [if_neg (show ¬ cd a = nI 7 by rw [s1, nI_eq (by omega) (by omega)]; omega), if_pos (show cd a = nI 0 by rw [s1, a1]), if_neg (by omega), if_pos a1, s2]
        exact ih _ _ _ _ _ s3 a3 (by rw [List.length_cons, hl]) (by omega) (by omega)
      · rw [if_neg (show ¬ cd a = nI 7 by rw [s1, nI_eq (by omega) (by omega)]; omega), if_neg (show ¬ cd a = nI 0 by rw [s1, nI_eq (by omega) (by omega)]; omega), if_pos (show cd a = nI 1 by rw [s1, a1]), if_neg (by omega), if_neg (by omega), if_pos a1, s2]
        have ev : vsS x q.2 = x q.2.toNatClampNeg := by
          unfold vsS
          rw [ej, if_neg (nn_lt (by omega)), if_neg (show ¬ nI 8 ≤ nI j by rw [nI_leI (by omega) (by omega)]; omega)]
        rw [ev]
        exact ih _ _ _ _ _ s3 a4 (by rw [List.length_cons, hl]) (by omega) (by omega)
      · rw [if_neg (show ¬ cd a = nI 7 by rw [s1, nI_eq (by omega) (by omega)]; omega), if_neg (show ¬ cd a = nI 0 by rw [s1, nI_eq (by omega) (by omega)]; omega), if_neg (show ¬ cd a = nI 1 by rw [s1, nI_eq (by omega) (by omega)]; omega), if_neg (by omega), if_neg (by omega)]
        match st, hl with
        | r :: l :: st2, hl =>
          dsimp only
          have e5 : (cd a = nI 5 ∧ r = 0) ↔ (q.1 = 5 ∧ r = 0) := by rw [s1, nI_eq (by omega) (by omega)]
          rw [if_neg (show ¬ cd a = nI 6 by rw [s1, nI_eq (by omega) (by omega)]; omega)]
          by_cases hz : q.1 = 5 ∧ r = 0
          · rw [if_pos (e5.mpr hz), if_pos hz]
          · rw [if_neg (fun z => hz (e5.mp z)), if_neg hz]
            have eo : rkS (cd a) l r = opL q.1 l r := by
              unfold rkS opL
              have e2 : (cd a = nI 2) ↔ q.1 = 2 := by rw [s1, nI_eq (by omega) (by omega)]
              have e3 : (cd a = nI 3) ↔ q.1 = 3 := by rw [s1, nI_eq (by omega) (by omega)]
              have e4 : (cd a = nI 4) ↔ q.1 = 4 := by rw [s1, nI_eq (by omega) (by omega)]
              simp only [e2, e3, e4]
              by_cases h2 : q.1 = 2
              · rw [if_pos h2, if_pos h2]
              · rw [if_neg h2, if_neg h2]
                by_cases h3 : q.1 = 3
                · rw [if_pos h3, if_pos h3]
                · rw [if_neg h3, if_neg h3]
                  by_cases h4 : q.1 = 4
                  · rw [if_pos h4, if_pos h4]
                  · rw [if_neg h4, if_neg h4, if_neg (fun z => hz ⟨by omega, z⟩)]
            rw [eo]
            refine ih _ _ _ _ _ s3 a4 ?_ (by omega) (by omega)
            rw [List.length_cons] at hl ⊢
            rw [List.length_cons] at hl
            omega
        | [y], hl => (rw [List.length_cons, List.length_nil] at hl) <;> omega
        | [], hl => (rw [List.length_nil] at hl) <;> omega
/-- what an E, a LAW tells -/
def tvL (x : Nat → Int32) (C : CL) : Option Int32 := (evL x C []).bind (fun st => st.head?)
def brV (x : Nat → Int32) : List BRD → CL → Option Int32
  | [], D => tvL x D
  | b :: bs, D => (tvL x b.1).bind (fun u => (tvL x b.2.1).bind (fun y => if y ≤ u then brV x bs D else tvL x b.2.2))
def WLB (bs : List BRD) (D : CL) : Prop := (∀ b, b ∈ bs → WL 20 b.1 0 1 ∧ WL 20 b.2.1 0 1 ∧ WL 20 b.2.2 0 1) ∧ WL 20 D 0 1
theorem tv_1 {x : Nat → Int32} {C : CL} (h : WL 20 C 0 1) : evL x C [] = (tvL x C).map (fun y => [y]) := by
  unfold tvL
  cases he : evL x C [] with
  | none => rfl
  | some st =>
    have := ev_h C 0 1 [] st h rfl he
    match st, this with
    | [y], _ => rfl
    | [], z => cases z
    | _ :: _ :: _, z => rw [List.length_cons, List.length_cons] at z; omega
theorem tm_L {v : Nat → Nat → Int32} {x : Nat → Int32} {a : Nat} {C : CL} (h : sgm v a C) (hw : WL 20 C 0 1) : tmS (v 413) (v 414) x a (a + C.length) = tvL x C := by
  unfold tmS tvL
  rw [show a + C.length - a = C.length by omega, evS_L C a 0 1 [] h hw]
theorem br_L {v : Nat → Nat → Int32} {x : Nat → Int32} : ∀ (bs : List BRD) (D : CL) (br a : Nat), br + bs.length + 1 ≤ 1000 → a + lbl bs D ≤ 1000 → LBX v br a bs D → WLB bs D → brS (v 408) (v 409) (v 410) (v 411) (v 412) (v 413) (v 414) x (bs.length + 1) br = brV x bs D := by
  intro bs
  induction bs with
  | nil =>
    intro D br a h1 h2 h hw
    obtain ⟨g1, g2, g3, g4⟩ := h
    have h2 : a + D.length ≤ 1000 := h2
    show brS (v 408) (v 409) (v 410) (v 411) (v 412) (v 413) (v 414) x 1 br = tvL x D
    unfold brS
    rw [if_pos g1, g2, g3, nI_clamp (by omega), nI_clamp (by omega)]
    exact tm_L g4 hw.2
  | cons b bs ih =>
    intro D br a h1 h2 h hw
    obtain ⟨⟨g1, g2, g3, g4, g5, g6, g7, g8⟩, g9⟩ := h
    rw [List.length_cons] at h1 ⊢
    have h2 : a + (bl b + lbl bs D) ≤ 1000 := h2
    have hb : bl b = b.1.length + b.2.1.length + b.2.2.length := rfl
    obtain ⟨w1, w2, w3⟩ := hw.1 b (List.mem_cons_self)
    unfold brS brV
    rw [if_neg (by rw [g1]; decide), g2, g3, g4, g5, nI_clamp (by omega), nI_clamp (by omega), nI_clamp (by omega), nI_clamp (by omega), tm_L g6 w1, tm_L g7 w2, tm_L g8 w3, ih D (br + 1) (a + bl b) (by omega) (by omega) g9 ⟨fun c hc => hw.1 c (List.mem_cons_of_mem _ hc), hw.2⟩]
theorem lc_ln {bs : List BRD} {D : CL} : ∀ off, (lcode off bs D).length = brs bs + D.length := by
  induction bs with
  | nil => intro off; show D.length = 0 + D.length; omega
  | cons b bs ih =>
    intro off
    show (brc off b ++ lcode (off + brn b) bs D).length = brn b + brs bs + D.length
    rw [List.length_append, brc_len, ih]
    omega
/-- the class's row of a LAW tells the same -/
theorem ct_L {cd vl x : Nat → Int32} {len : Nat} (hlen : len ≤ 400) : ∀ (bs : List BRD) (D : CL) (a k : Nat), sgx cd vl a (lcode a bs D) → WLB bs D → a + (lcode a bs D).length = len → len < a + k → ctE cd vl x len k a [] = match brV x bs D with
    | none => 0
    | some y => y := by
  intro bs
  induction bs with
  | nil =>
    intro D a k hs hw ha hk
    have hs : sgx cd vl a D := hs
    have ha : a + D.length = len := ha
    rw [ctE_L D a k 0 1 [] hs (WL_sh (m := 20) (j := 0) (by omega) D 0 1 hw.2) rfl (by omega) hk]
    show _ = match tvL x D with
      | none => 0
      | some y => y
    rw [tv_1 hw.2]
    cases tvL x D with
    | none => rfl
    | some y =>
      show ctE cd vl x len (k - D.length) (a + D.length) [y] = y
      cases hk2 : k - D.length with
      | zero => omega
      | succ k2 =>
        rw [ctE_s, if_pos (by omega)]
        rfl
  | cons b bs ih =>
    intro D a k hs hw ha hk
    have hs : sgx cd vl a (brc a b ++ lcode (a + brn b) bs D) := hs
    have ha : a + (brc a b ++ lcode (a + brn b) bs D).length = len := ha
    rw [List.length_append, brc_len] at ha
    obtain ⟨s1, s2⟩ := sgx_a hs
    rw [brc_len] at s2
    unfold brc at s1
    obtain ⟨s1, s7⟩ := sgx_a s1
    obtain ⟨s1, s5⟩ := sgx_a s1
    obtain ⟨s1, s6⟩ := sgx_a s1
    obtain ⟨s1, s3⟩ := sgx_a s1
    have hb : brn b = b.1.length + b.2.1.length + b.2.2.length + 2 := rfl
    simp only [List.length_append, List.length_cons, List.length_nil] at s5 s6 s7
    obtain ⟨c6, _⟩ := sgx_c s6
    obtain ⟨c7, _⟩ := sgx_c s7
    obtain ⟨w1, w2, w3⟩ := hw.1 b (List.mem_cons_self)
    rw [ctE_L b.1 a k 0 1 [] s1 (WL_sh (m := 20) (j := 0) (by omega) _ 0 1 w1) rfl (by omega) hk, tv_1 w1]
    unfold brV
    cases tvL x b.1 with
    | none => rfl
    | some u =>
      show ctE cd vl x len (k - b.1.length) (a + b.1.length) [u] = _
      rw [ctE_L b.2.1 (a + b.1.length) (k - b.1.length) 1 2 [u] s3 (WL_sh (m := 20) (j := 1) (by omega) _ 0 1 w2) rfl (by omega) (by omega)]
      have e2 := ev_fr (x := x) (rest := [u]) b.2.1 0 1 [] w2 rfl
      rw [List.nil_append, tv_1 w2] at e2
      rw [e2]
      cases tvL x b.2.1 with
      | none => rfl
      | some y =>
        show ctE cd vl x len (k - b.1.length - b.2.1.length) (a + b.1.length + b.2.1.length) [y, u] = _
        rw [show a + (b.1.length + b.2.1.length) = a + b.1.length + b.2.1.length by omega] at c6
        cases hk2 : k - b.1.length - b.2.1.length with
        | zero => omega
        | succ k2 =>
          have c61 : cd (a + b.1.length + b.2.1.length) = nI 6 := c6.1
          rw [ctE_s, if_neg (by omega), if_neg (by rw [c61]; decide), if_neg (by rw [c61]; decide), if_neg (by rw [c61]; decide)]
          dsimp only
          rw [if_pos c61, c6.2]
          show (if u < y then _ else ctE cd vl x len k2 (nI (a + b.1.length + b.2.1.length + b.2.2.length + 2)).toNatClampNeg []) = match (if y ≤ u then brV x bs D else tvL x b.2.2) with
            | none => 0
            | some y => y
          by_cases hyu : y ≤ u
          · rw [if_neg (Int32.not_lt.mpr hyu), if_pos hyu, nI_clamp (by omega), show a + b.1.length + b.2.1.length + b.2.2.length + 2 = a + brn b by omega]
            exact ih D (a + brn b) k2 s2 ⟨fun c hc => hw.1 c (List.mem_cons_of_mem _ hc), hw.2⟩ (by omega) (by omega)
          · rw [if_pos (Int32.not_le.mp hyu), if_neg hyu]
            rw [show a + (b.1.length + b.2.1.length + 1) = a + b.1.length + b.2.1.length + 1 by omega] at s5
            rw [ctE_L b.2.2 (a + b.1.length + b.2.1.length + 1) k2 0 1 [] s5 (WL_sh (m := 20) (j := 0) (by omega) _ 0 1 w3) rfl (by omega) (by omega), tv_1 w3]
            cases tvL x b.2.2 with
            | none => rfl
            | some z =>
              show ctE cd vl x len (k2 - b.2.2.length) (a + b.1.length + b.2.1.length + 1 + b.2.2.length) [z] = z
              rw [show a + (b.1.length + b.2.1.length + 1 + b.2.2.length) = a + b.1.length + b.2.1.length + 1 + b.2.2.length by omega] at c7
              cases hk3 : k2 - b.2.2.length with
              | zero => omega
              | succ k3 =>
                rw [ctE_s, if_neg (by omega), if_pos c7.1]
                rfl
