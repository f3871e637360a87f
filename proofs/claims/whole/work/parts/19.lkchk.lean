/-! the links and the methods' words stand in the tables -/
def am_Lk (c : Nat) : List am_L := (am_Lh c).map (fun t => t.1)
set_option maxRecDepth 100000 in
theorem am_codes : am_ML.map (fun x => Cond.code x.1 x.2.1 x.2.2.1 x.2.2.2.1) = (am_Mh.map (fun h => h.headD 0)).filterMap (fun i => lw_tbl[i]?) := rfl
theorem am_at {j : Nat} {w : Cond} (h : lw_tbl[j]? = some w) (g : goodWord w = true) : w ∈ am_T := List.mem_filter.mpr ⟨List.mem_of_getElem? h, g⟩
def am_wb (j : Nat) (w : Cond) : Bool := decide (lw_tbl[j]? = some w) && goodWord w
theorem am_wb_of {j : Nat} {w : Cond} (h : am_wb j w = true) : w ∈ am_T := by
  unfold am_wb at h
  rw [Bool.and_eq_true] at h
  exact am_at (of_decide_eq_true h.1) h.2
/-- of a method all but its code: its class, its descriptor; instance or static; selects -/
def am_mb (m : Nat) : Bool := am_wb ((am_Mh.getD m []).getD 1 0) (.initialized (am_Ms m).1.cls) && decide ((am_Ms m).1.cls ≠ "java/lang/invoke/MethodHandle") && decide ((am_Ms m).1.cls ≠ "java/lang/invoke/VarHandle") && decide ((parseMethodDescriptor (am_Ms m).1.desc).map (fun d => d.parameters.length) = some (am_Ms m).2.2.2.2.1) && decide ((am_Ms m).2.2.1 ≤ 40) && plainName (am_Ms m).1.cls
theorem am_mb_all : (List.range 224).all am_mb = true := by decide +kernel
theorem am_mo_all {m : Nat} (hm : m < 224) : am_mo am_T (am_Ms m) ∧ plainName (am_Ms m).1.cls = true := by
  have h := List.all_eq_true.mp am_mb_all m (List.mem_range.mpr hm)
  unfold am_mb at h
  simp only [Bool.and_eq_true, decide_eq_true_eq] at h
  obtain ⟨⟨⟨⟨⟨h1, h2⟩, h3⟩, h4⟩, h5⟩, h6⟩ := h
  refine ⟨⟨?_, am_wb_of h1, ⟨h2, h3⟩, h4, h5⟩, h6⟩
  have hlen : am_ML.length = 224 := rfl
  have hin : Cond.code (am_Ms m).1 (am_Ms m).2.1 (am_Ms m).2.2.1 (am_Ms m).2.2.2.1 ∈ am_ML.map (fun x => Cond.code x.1 x.2.1 x.2.2.1 x.2.2.2.1) := by
    refine List.mem_map.mpr ⟨am_Ms m, ?_, rfl⟩
    unfold am_Ms
    rw [List.getD_eq_getElem?_getD, List.getElem?_eq_getElem (by rw [hlen]; exact hm)]
    exact List.getElem_mem _
  rw [am_codes] at hin
  obtain ⟨i, -, hi⟩ := List.mem_filterMap.mp hin
  exact am_at hi rfl
/-- a link, by the places of its words -/
def am_lkb (own : String) (x : am_L × List Nat) : Bool := match x with
  | ((0, i, c, k), [j]) => (match vwCl[c]? with
    | some r => decide (k < r.2.2) && am_wb j (.fieldLink own i (r.2.1 k).1 (r.2.1 k).2.1 (r.2.1 k).2.2.1)
    | none => false)
  | ((1, i, c, f), [j]) => (match vwCl[c]? with
    | some r => decide (f = r.2.2) && am_wb j (.classLink own i r.1)
    | none => false)
  | ((2, i, m, _), [j]) => am_wb j (.methodLink own i (am_Ms m).1) && decide (m < 224) && am_wb ((am_Mh.getD m []).getD 2 0) (.instanceMethod (am_Ms m).1) && am_wb ((am_Mh.getD m []).getD 3 0) (.selects (am_Ms m).1.cls (am_Ms m).1 (am_Ms m).1) && (match vwCl[(am_Ms m).2.2.2.2.2]? with
    | some r => decide (r.1 = (am_Ms m).1.cls)
    | none => false)
  | ((15, i, m, _), [j]) => am_wb j (.methodLink own i (am_Ms m).1) && decide (m < 224) && am_wb ((am_Mh.getD m []).getD 2 0) (.static (am_Ms m).1)
  | ((16, i, m, _), [j]) => am_wb j (.methodLink own i (am_Ms m).1) && decide (m < 224) && am_wb ((am_Mh.getD m []).getD 2 0) (.instanceMethod (am_Ms m).1) && decide ((am_Ms m).1.name = "<init>") && decide ((am_Ms m).2.2.2.1 = none)
  | ((3, i, _, _), [j, j2, j3]) => am_wb j (.methodLink own i objectInit) && am_wb j2 (.instanceMethod objectInit) && am_wb j3 (.code objectInit ⟨#[0xb1]⟩ 1 none)
  | ((4, i, _, _), [j, j2, j3, j4]) => am_wb j (.methodLink own i Lib.Math.max.name) && am_wb j2 (.static Lib.Math.max.name) && am_wb j3 (.initialized "java/lang/Math") && am_wb j4 (.code Lib.Math.max.name Lib.Math.max.code 2 (some .int))
  | ((5, i, _, _), [j, j2, j3, j4]) => am_wb j (.methodLink own i Lib.Math.min.name) && am_wb j2 (.static Lib.Math.min.name) && am_wb j3 (.initialized "java/lang/Math") && am_wb j4 (.code Lib.Math.min.name Lib.Math.min.code 2 (some .int))
  | ((6, i, _, _), [j, j2, j3, j4]) => am_wb j (.methodLink own i arraycopyName) && am_wb j2 (.native arraycopyName) && am_wb j3 (.static arraycopyName) && am_wb j4 (.initialized "java/lang/System")
  | ((7, i, c, _), [j]) => (match vwCl[c]? with
    | some r => am_wb j (.classLink own i r.1)
    | none => false)
  | ((8, i, _, _), _) => decide (own = "KneeStair$Tokens" ∧ i = 63)
  | ((9, i, _, _), _) => decide (own = "KneeStair$Tokens" ∧ i = 71)
  | ((10, i, _, _), _) => decide (own = "KneeStair$Tokens" ∧ i = 48)
  | ((11, i, k, _), _) => decide (own = "KneeStair$Tokens" ∧ ((i = 46 ∧ k = 0) ∨ (i = 61 ∧ k = 1)))
  | ((12, i, n, _), [j]) => am_wb j (.constantLong own i (lN n))
  | ((13, i, c, k), [j]) => (match vwCl[c]? with
    | some r => decide (k < r.2.2) && am_wb j (.fieldLink own i (r.2.1 k).1 (r.2.1 k).2.1 (r.2.1 k).2.2.1) && !(r.2.1 k).2.2.2
    | none => false)
  | ((14, i, c, k), [j]) => (match vwCl[c]? with
    | some r => decide (k < r.2.2) && am_wb j (.fieldLink own i (r.2.1 k).1 (r.2.1 k).2.1 (r.2.1 k).2.2.1) && (r.2.1 k).2.2.2 && decide ((r.2.1 k).1 = own)
    | none => false)
  | _ => false
theorem am_lkb_of {own : String} {x : am_L × List Nat} (h : am_lkb own x = true) : am_lk vwCl am_T own am_Ms x.1 := by
  unfold am_lkb at h
  split at h
  · split at h
    · rename_i r hr
      simp only [Bool.and_eq_true, decide_eq_true_eq] at h
      exact ⟨r, hr, h.1, am_wb_of h.2⟩
    · cases h
  · split at h
    · rename_i r hr
      simp only [Bool.and_eq_true, decide_eq_true_eq] at h
      exact ⟨r, hr, h.1, am_wb_of h.2⟩
    · cases h
  · simp only [Bool.and_eq_true, decide_eq_true_eq] at h
    obtain ⟨⟨⟨⟨h1, h2⟩, h3⟩, h4⟩, h5⟩ := h
    split at h5
    · rename_i r hr
      exact ⟨am_wb_of h1, (am_mo_all h2).1, am_wb_of h3, am_wb_of h4, r, hr, of_decide_eq_true h5⟩
    · cases h5
  · simp only [Bool.and_eq_true, decide_eq_true_eq] at h
    obtain ⟨⟨h1, h2⟩, h3⟩ := h
    exact ⟨am_wb_of h1, (am_mo_all h2).1, am_wb_of h3⟩
  · simp only [Bool.and_eq_true, decide_eq_true_eq] at h
    obtain ⟨⟨⟨⟨h1, h2⟩, h3⟩, h4⟩, h5⟩ := h
    exact ⟨am_wb_of h1, (am_mo_all h2).1, am_wb_of h3, h4, h5⟩
  · simp only [Bool.and_eq_true] at h
    exact ⟨am_wb_of h.1.1, am_wb_of h.1.2, am_wb_of h.2⟩
  · simp only [Bool.and_eq_true] at h
    exact ⟨am_wb_of h.1.1.1, am_wb_of h.1.1.2, am_wb_of h.1.2, am_wb_of h.2⟩
  · simp only [Bool.and_eq_true] at h
    exact ⟨am_wb_of h.1.1.1, am_wb_of h.1.1.2, am_wb_of h.1.2, am_wb_of h.2⟩
  · simp only [Bool.and_eq_true] at h
    exact ⟨am_wb_of h.1.1.1, am_wb_of h.1.1.2, am_wb_of h.1.2, am_wb_of h.2⟩
  · split at h
    · rename_i r hr
      exact ⟨r, hr, am_wb_of h⟩
    · cases h
  · have h2 := of_decide_eq_true h
    exact h2
  · have h2 := of_decide_eq_true h
    exact h2
  · have h2 := of_decide_eq_true h
    exact h2
  · have h2 := of_decide_eq_true h
    exact h2
  · exact am_wb_of h
  · split at h
    · rename_i r hr
      simp only [Bool.and_eq_true, decide_eq_true_eq, Bool.not_eq_true'] at h
      exact ⟨r, hr, h.1.1, am_wb_of h.1.2, h.2⟩
    · cases h
  · split at h
    · rename_i r hr
      simp only [Bool.and_eq_true, decide_eq_true_eq] at h
      exact ⟨r, hr, h.1.1.1, am_wb_of h.1.1.2, h.1.2, h.2⟩
    · cases h
  · cases h
theorem am_lks_of {own : String} {L : List (am_L × List Nat)} (h : L.all (am_lkb own) = true) : ∀ t ∈ L.map (fun t => t.1), am_lk vwCl am_T own am_Ms t := by
  intro t ht
  obtain ⟨x, hx, rfl⟩ := List.mem_map.mp ht
  exact am_lkb_of (List.all_eq_true.mp h x hx)
theorem lk_ok0 : ∀ t ∈ am_Lk 0, am_lk vwCl am_T RX0 am_Ms t := am_lks_of (L := lk_X0) (by decide +kernel)
theorem lk_ok1 : ∀ t ∈ am_Lk 1, am_lk vwCl am_T RX1 am_Ms t := am_lks_of (L := lk_X1) (by decide +kernel)
theorem lk_ok2 : ∀ t ∈ am_Lk 2, am_lk vwCl am_T RX2 am_Ms t := am_lks_of (L := lk_X2) (by decide +kernel)
theorem lk_ok3 : ∀ t ∈ am_Lk 3, am_lk vwCl am_T RX3 am_Ms t := am_lks_of (L := lk_X3) (by decide +kernel)
theorem lk_ok4 : ∀ t ∈ am_Lk 4, am_lk vwCl am_T RX4 am_Ms t := am_lks_of (L := lk_X4) (by decide +kernel)
theorem lk_ok5 : ∀ t ∈ am_Lk 5, am_lk vwCl am_T RX5 am_Ms t := am_lks_of (L := lk_X5) (by decide +kernel)
theorem lk_ok6 : ∀ t ∈ am_Lk 6, am_lk vwCl am_T RX6 am_Ms t := am_lks_of (L := lk_X6) (by decide +kernel)
theorem lk_ok7 : ∀ t ∈ am_Lk 7, am_lk vwCl am_T RX7 am_Ms t := am_lks_of (L := lk_X7) (by decide +kernel)
theorem lk_ok8 : ∀ t ∈ am_Lk 8, am_lk vwCl am_T RX8 am_Ms t := am_lks_of (L := lk_X8) (by decide +kernel)
theorem lk_ok9 : ∀ t ∈ am_Lk 9, am_lk vwCl am_T RX9 am_Ms t := am_lks_of (L := lk_X9) (by decide +kernel)
