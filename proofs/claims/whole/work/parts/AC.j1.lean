/-! laid by wip/whole/j1.py: what is given at the law's start of the texts and of the kinds -/
def tmK : Nat → Term
  | 0 => .string "KneeStair$Tokens" 46
  | _ => .string "KneeStair$Tokens" 61
def fl1 : List Cond := flatC (Jvm.Cond.and given_1 narrow_1)
theorem fl_in {args : Array Value} {s : State} (h : (Jvm.Cond.and given_1 narrow_1).before args s = true) : ∀ c ∈ fl1, c.before args s = true := flat_of_before _ h
theorem fl_ex : ∀ i, i < 2 → Cond.exactly (tmK i) "java/lang/String" ∈ fl1 := by decide +kernel
theorem fl_co : ∀ i, i < 2 → Cond.eq (.field (tmK i) "java/lang/String" "coder" "B") (.int 0) ∈ fl1 := by decide +kernel
theorem fl_ar : ∀ i, i < 2 → Cond.arrayOf (.field (tmK i) "java/lang/String" "value" "[B") .byte ∈ fl1 := by decide +kernel
theorem fl_le : ∀ i, i < 2 → Cond.eq (.length (.field (tmK i) "java/lang/String" "value" "[B")) (.int (Int32.ofNat (sj_len.getD i 0))) ∈ fl1 := by decide +kernel
theorem fl_e0 : ∀ j, j < 9 → fl1[153 + j]? = some (Cond.eq (.elem (.field (tmK 0) "java/lang/String" "value" "[B") (.int (Int32.ofNat j))) (.int ((sj_byt.getD 0 []).getD j 0))) := by decide +kernel
theorem fl_e1 : ∀ j, j < 136 → fl1[13 + j]? = some (Cond.eq (.elem (.field (tmK 1) "java/lang/String" "value" "[B") (.int (Int32.ofNat j))) (.int ((sj_byt.getD 1 []).getD j 0))) := by decide +kernel
theorem fl_ne : Cond.not (Cond.eq (tmK 1) (tmK 0)) ∈ fl1 := by decide +kernel
theorem fl_cs : Cond.eq (.static "java/lang/String" "COMPACT_STRINGS" "Z") (.int 1) ∈ fl1 := by decide +kernel
theorem fl_pf : Cond.isRef (.static "jdk/internal/util/Preconditions" "SIOOBE_FORMATTER" "Ljava/util/function/BiFunction;") ∈ fl1 := by decide +kernel
theorem tb_l1 : Cond.laysStatic "java/lang/String" "COMPACT_STRINGS" "Z" ∈ lw_tbl := by decide +kernel
theorem tb_l2 : Cond.laysStatic "jdk/internal/util/Preconditions" "SIOOBE_FORMATTER" "Ljava/util/function/BiFunction;" ∈ lw_tbl := by decide +kernel
theorem tb_i1 : Cond.initialized "java/lang/String" ∈ lw_tbl := by decide +kernel
theorem tb_i2 : Cond.initialized "jdk/internal/util/Preconditions" ∈ lw_tbl := by decide +kernel
theorem tb_s0 : Cond.stringRef "KneeStair$Tokens" 46 ";=+-*/<()" ∈ lw_tbl := by decide +kernel
theorem tb_s1 : Cond.stringRef "KneeStair$Tokens" 61 "stair   pilgrim kneels  moves   has     oil     if      then    else    knees   doubt   oiled   minute  on      step    sore    borne   " ∈ lw_tbl := by decide +kernel
theorem tb_ao : Cond.arrayOver (.object RX4) ∈ lw_tbl := by decide +kernel
theorem tb_ac0 : Cond.arrayClass .int ∈ lw_tbl := by decide +kernel
theorem tb_ac1 : Cond.arrayClass .byte ∈ lw_tbl := by decide +kernel
theorem tb_ac2 : Cond.arrayClass .boolean ∈ lw_tbl := by decide +kernel
theorem tb_ac3 : Cond.arrayClass .long ∈ lw_tbl := by decide +kernel
theorem tb_ac : ∀ ty : FieldType, ty = .int ∨ ty = .byte ∨ ty = .boolean ∨ ty = .long → Cond.arrayClass ty ∈ am_T := by
  intro ty h
  rcases h with rfl | rfl | rfl | rfl
  · exact List.mem_filter.mpr ⟨tb_ac0, rfl⟩
  · exact List.mem_filter.mpr ⟨tb_ac1, rfl⟩
  · exact List.mem_filter.mpr ⟨tb_ac2, rfl⟩
  · exact List.mem_filter.mpr ⟨tb_ac3, rfl⟩
theorem tb_good : ∀ w ∈ am_T, (w.onTables && w.keeps) = true ∨ ∃ ty, w = .arrayClass ty := fun w hw => good_of_word (List.mem_filter.mp hw).2
theorem sp_of {args : Array Value} {s : State} (hg : (Jvm.Cond.and given_1 narrow_1).before args s = true) (hts : ∀ w ∈ lw_tbl, w.before args s = true) : ∃ adK adV : Nat → Nat, SPq s.heap.size RX4 adK adV s := by
  have hf := fl_in hg
  have hA : ∀ a : Nat, a < s.heap.size → ¬ s.heap.size ≤ a := fun a h1 h2 => Nat.lt_irrefl _ (Nat.lt_of_lt_of_le h1 h2)
  obtain ⟨adK, adV, hS, hev⟩ := vk_Sof (args := args) (s := s) (N := 2) (tm := tmK) (len := sj_len) (byt := sj_byt) (A := fun a => s.heap.size ≤ a) (by decide +kernel) (fun i hi => hf _ (fl_ex i hi)) (fun i hi => hf _ (fl_co i hi)) (fun i hi => hf _ (fl_ar i hi)) (fun i hi => hf _ (fl_le i hi))
    (fun i hi j hj => by
      match i, hi, hj with
      | 0, _, hj => exact hf _ (List.mem_of_getElem? (fl_e0 j hj))
      | 1, _, hj => exact hf _ (List.mem_of_getElem? (fl_e1 j hj))
      | i + 2, hi, _ => exact absurd hi (by omega))
    (fun i j hi hj hij => by
      match i, j, hi, hj, hij with
      | 0, 0, _, _, h => exact absurd rfl h
      | 0, 1, _, _, _ => exact Or.inr (hf _ fl_ne)
      | 1, 0, _, _, _ => exact Or.inl (hf _ fl_ne)
      | 1, 1, _, _, h => exact absurd rfl h
      | i + 2, _, hi, _, _ => exact absurd hi (by omega)
      | 0, j + 2, _, hj, _ => exact absurd hj (by omega)
      | 1, j + 2, _, hj, _ => exact absurd hj (by omega)) hA
  refine ⟨adK, adV, va_AO.of (hts _ tb_ao), ⟨hS, va_Zof (hts _ tb_l1) (hts _ tb_i1) (va_eqt (hf _ fl_cs)) hA, va_Zqof (hts _ tb_l2) (hts _ tb_i2) (hf _ fl_pf) hA⟩, ⟨_, vk_R.of (hts _ tb_s0) (hev 0 (by omega))⟩, ⟨_, vk_R.of (hts _ tb_s1) (hev 1 (by omega))⟩⟩
theorem kn_all {args : Array Value} {s : State} {z : am_Z} (hT : ∀ w ∈ am_T, w.before args s = true) (htb : am_tb vwCl z am_T) : ∃ D : va_G, ∀ (c : Nat) (q : vw_C), vwCl[c]? = some q → u_Kn s q.1 q.2.1 q.2.2 (D.1 c) (D.2 c) := by
  have h : ∀ c : Nat, ∃ y : ClassId × (Nat → Nat), ∀ q : vw_C, vwCl[c]? = some q → u_Kn s q.1 q.2.1 q.2.2 y.1 y.2 := by
    intro c
    by_cases hc : ∃ r, vwCl[c]? = some r
    · obtain ⟨r, hr⟩ := hc
      obtain ⟨-, hin, -, -, hi, -⟩ := htb c r hr
      obtain ⟨cC, iS, hk⟩ := u_known (C := r.1) (T := r.2.1) (N := r.2.2) hT hin (hT _ hi)
      refine ⟨(cC, iS), fun q hq => ?_⟩
      have e : r = q := Option.some.inj (hr.symm.trans hq)
      subst e
      exact hk
    · exact ⟨(0, fun _ => 0), fun q hq => absurd ⟨q, hq⟩ hc⟩
  obtain ⟨f, hf⟩ := Classical.axiomOfChoice h
  exact ⟨(fun c => (f c).1, fun c => (f c).2), fun c q hq => hf c q hq⟩
/-- the array types' own numbers -/
theorem ar_all {args : Array Value} {s : State} (hts : ∀ w ∈ lw_tbl, w.before args s = true) : ∃ t : Nat → ClassId, ∀ (k : Nat) (q : ClassId × FieldType), ([(t 0, .int), (t 1, .byte), (t 2, .boolean), (t 3, .long), (t 4, .object RX4)] : List (ClassId × FieldType))[k]? = some q → ArrOfT s q.1 q.2 ∧ va_RA s q.1 q.2 := by
  obtain ⟨c0, k0, p0, a0, b0, d0⟩ := Cond.arrayClass_spec (args := args) (first := s) (o := none) (s := s) (idx := []) (hts _ tb_ac0)
  obtain ⟨c1, k1, p1, a1, b1, d1⟩ := Cond.arrayClass_spec (args := args) (first := s) (o := none) (s := s) (idx := []) (hts _ tb_ac1)
  obtain ⟨c2, k2, p2, a2, b2, d2⟩ := Cond.arrayClass_spec (args := args) (first := s) (o := none) (s := s) (idx := []) (hts _ tb_ac2)
  obtain ⟨c3, k3, p3, a3, b3, d3⟩ := Cond.arrayClass_spec (args := args) (first := s) (o := none) (s := s) (idx := []) (hts _ tb_ac3)
  obtain ⟨p4, c4, k4, a4, -, b4, d4, e4⟩ := Cond.arrayOver_spec (args := args) (first := s) (o := none) (s := s) (idx := []) (hts _ tb_ao)
  refine ⟨fun i => if i = 0 then c0 else if i = 1 then c1 else if i = 2 then c2 else if i = 3 then c3 else c4, fun k q hq => ?_⟩
  match k, hq with
  | 0, hq =>
    have e := Option.some.inj hq
    subst e
    exact ⟨fun n z => ⟨(fun k h => by cases h), k0, b0, p0, d0⟩, a0⟩
  | 1, hq =>
    have e := Option.some.inj hq
    subst e
    exact ⟨fun n z => ⟨(fun k h => by cases h), k1, b1, p1, d1⟩, a1⟩
  | 2, hq =>
    have e := Option.some.inj hq
    subst e
    exact ⟨fun n z => ⟨(fun k h => by cases h), k2, b2, p2, d2⟩, a2⟩
  | 3, hq =>
    have e := Option.some.inj hq
    subst e
    exact ⟨fun n z => ⟨(fun k h => by cases h), k3, b3, p3, d3⟩, a3⟩
  | 4, hq =>
    have e := Option.some.inj hq
    subst e
    exact ⟨fun n z => ⟨(fun k h => by cases h), k4, b4, p4, d4⟩, ⟨k4, p4, b4, d4, a4, e4⟩⟩
  | k + 5, hq => cases hq
