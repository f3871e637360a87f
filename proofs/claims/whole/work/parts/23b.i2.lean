/-! laid by wip/whole/i2.py: the JDK's own methods of the text constants: what they answer -/
def sj_len : List Nat := [9, 136]
def sj_byt : List (List Int32) := [(am_tx 0).map nI, (am_tx 1).map nI]
/-- the two texts, and the two statics that their methods read; nothing of it changes -/
def SJ (adK adV : Nat → Nat) (U : State) (H : Heap) : Prop := vk_S 2 sj_len sj_byt adK adV (fun _ => False) U H ∧ va_Z "java/lang/String" "COMPACT_STRINGS" "Z" (.int 1) (fun _ => False) U H ∧ va_Zq "jdk/internal/util/Preconditions" "SIOOBE_FORMATTER" "Ljava/util/function/BiFunction;" (fun _ => False) U H
theorem SJ_w {adK adV : Nat → Nat} {s U : State} {H : Heap} {locs : List Loc} (h : SJ adK adV s s.heap) (hS : va_S (fun _ => False) s.heap H locs) (hU : U.heap = H) (hW : s.WarmedH U.vm) : SJ adK adV U U.heap := by
  have hq : ∀ a : Nat, a < s.heap.size → ¬ False → U.heap[a]? = s.heap[a]? := fun a h1 h2 => by rw [hU]; exact hS.2.1 a h1 h2
  exact ⟨(h.1.kept hq).moved hW.alike, (h.2.1.kept hq).moved hW.alike, (h.2.2.kept hq).moved hW.alike⟩
theorem SJ_b {adK adV : Nat → Nat} {av : List Value} : FrameBlind (va_Pc av (fun U => SJ adK adV U U.heap)) := by
  intro a U g mk q
  obtain ⟨q0, h1, h2, h3⟩ := q
  exact ⟨q0, vk_S.moved (u := U) (U := U.calling g mk a) (Vm.Alike.refl U.vm) h1, va_Z.moved (u := U) (U := U.calling g mk a) (Vm.Alike.refl U.vm) h2, va_Zq.moved (u := U) (U := U.calling g mk a) (Vm.Alike.refl U.vm) h3⟩
theorem jn_lt {i : Nat} (h : i ≤ 1000) : ¬ nI i < 0 := by
  rw [show (0 : Int32) = nI 0 from rfl, nI_ltI (by omega) (by omega)]
  omega
theorem tx_l : ∀ i, i < 2 → sj_len.getD i 0 = (am_tx i).length := by decide +kernel
theorem tx_b : ∀ i, i < 2 → ∀ j, j < (am_tx i).length → (sj_byt.getD i []).getD j 0 = nI ((am_tx i).getD j 0) := by decide +kernel
theorem tx_128 : ∀ i, i < 2 → ∀ b ∈ am_tx i, b < 128 := by decide +kernel
theorem tx_len : ∀ i, i < 2 → (am_tx i).length ≤ 136 := by decide +kernel
theorem tx_i2b : ∀ b, b < 128 → ∀ c, c < 256 → (nI b = (nI c).toInt8.toInt32 ↔ nI b = nI c) := by decide +kernel
theorem tx_and : ∀ b, b < 128 → nI b &&& 255 = nI b := by decide +kernel
theorem tx_i2c : ∀ b, b < 128 → ((nI b).toUInt32 % 65536).toInt32 = nI b := by decide +kernel
theorem tx_nar : ∀ b, b < 128 → narrow .char (.int (nI b)) = .int (nI b) := by decide +kernel
theorem tx_g {i k : Nat} (hi : i < 2) (hk : k < (am_tx i).length) : (am_tx i).getD k 0 < 128 := by
  rw [List.getD_eq_getElem?_getD, List.getElem?_eq_getElem hk]
  exact tx_128 i hi _ (List.getElem_mem hk)
theorem ix_out {c : Int32} {l : List Nat} (h : ∀ b ∈ l, ¬ nI b = c) : ∀ k, am_ix c l k = -1 := by
  induction l with
  | nil => intro k; rfl
  | cons b l ih =>
    intro k
    unfold am_ix
    rw [if_neg (h b List.mem_cons_self)]
    exact ih (fun b hb => h b (List.mem_cons_of_mem _ hb)) (k + 1)
set_option maxHeartbeats 4000000 in
set_option maxRecDepth 100000 in
theorem jm_cod (l : Launch) (adK adV : Nat → Nat) {i : Nat} (hi : i < 2) : Met l jM_cod.1 (.code jM_cod.1 jM_cod.2.1 jM_cod.2.2.1 jM_cod.2.2.2.1 :: am_T) { frames := 0, cells := 0, slots := 0, locals := 0 } (va_Pc [.ref (adK i)] (fun U => SJ adK adV U U.heap)) (va_Qi (fun (r : Int32) (_ : Unit) => r = 0) (fun _ _ => True) (fun _ => False)) 0 0 (fun _ => False) := by
  refine Met.ofW (cc := prog_14_method_152_code) (maxL := 1) (ret := (some .byte)) (by decide) rfl ?_
  intro p e s m args below meth c s₁ B hml hv
  obtain ⟨rfl, hJ⟩ := hv
  have hx := B.exec
  have hb := B.bytes
  have hr := B.returns
  have hts0 := atoms_spec (ws := .code jM_cod.1 jM_cod.2.1 jM_cod.2.2.1 jM_cod.2.2.2.1 :: am_T) B.pre
  have hts : ∀ w ∈ am_T, w.before _ s = true := fun w hw => hts0 w (List.mem_cons_of_mem _ hw)
  have hown : s.vm.findClass "java/lang/String" = some m.cls := findClass_of_methodNamed B.named
  have hlocks := B.notSynchronized
  have hS : va_S (fun _ => False) s.heap s.heap [] := va_S.rf
  have hl := lv_entry ([.ref (adK i)]) (n := 1) (Nat.le_of_ble_eq_true rfl)
  rw [lg_entry_eq]
  generalize (lg_sl ([.ref (adK i)]) ++ List.replicate (1 - (lg_sl ([.ref (adK i)])).length) Slot.unset).toArray = ls at hl ⊢
  have hl : lv_has ls 1 [(0, .ref (adK i))] := hl
  refine va_gets hx hb hJ.2.1 hS hown (hts _ jf38) (fun _ h9 => h9) jd_cod_0 ?_
  refine lv_if_eq hx hb jd_cod_3 rfl (fun h => absurd h (by decide)) (fun _ => ?_)
  refine lv_aload_n hx hb jd_cod_6 rfl (lv_at hl 0 rfl) ?_
  refine vk_getf hx hb (hJ.1.1 i hi).2.1 hS hown (hts _ jf15) (fun _ h9 => h9) jd_cod_7 ?_
  refine lv_goto hx hb jd_cod_10 (tgt := 14) rfl ?_
  exact W.zret hx hb hr rfl (fun t ht hW => ⟨⟨_, (), rfl, rfl, trivial⟩, hS.F ht⟩) hS.2.2 jd_cod_14
set_option maxHeartbeats 4000000 in
set_option maxRecDepth 100000 in
theorem jm_lat (l : Launch) (adK adV : Nat → Nat) {i : Nat} (hi : i < 2) : Met l jM_lat.1 (.code jM_lat.1 jM_lat.2.1 jM_lat.2.2.1 jM_lat.2.2.2.1 :: am_T) { frames := 0, cells := 0, slots := 0, locals := 0 } (va_Pc [.ref (adK i)] (fun U => SJ adK adV U U.heap)) (va_Qi (fun (r : Int32) (_ : Unit) => r = 1) (fun _ _ => True) (fun _ => False)) 0 0 (fun _ => False) := by
  refine Met.ofW (cc := prog_14_method_154_code) (maxL := 1) (ret := (some .boolean)) (by decide) rfl ?_
  intro p e s m args below meth c s₁ B hml hv
  obtain ⟨rfl, hJ⟩ := hv
  have hx := B.exec
  have hb := B.bytes
  have hr := B.returns
  have hts0 := atoms_spec (ws := .code jM_lat.1 jM_lat.2.1 jM_lat.2.2.1 jM_lat.2.2.2.1 :: am_T) B.pre
  have hts : ∀ w ∈ am_T, w.before _ s = true := fun w hw => hts0 w (List.mem_cons_of_mem _ hw)
  have hown : s.vm.findClass "java/lang/String" = some m.cls := findClass_of_methodNamed B.named
  have hlocks := B.notSynchronized
  have hS : va_S (fun _ => False) s.heap s.heap [] := va_S.rf
  have hl := lv_entry ([.ref (adK i)]) (n := 1) (Nat.le_of_ble_eq_true rfl)
  rw [lg_entry_eq]
  generalize (lg_sl ([.ref (adK i)]) ++ List.replicate (1 - (lg_sl ([.ref (adK i)])).length) Slot.unset).toArray = ls at hl ⊢
  have hl : lv_has ls 1 [(0, .ref (adK i))] := hl
  refine va_gets hx hb hJ.2.1 hS hown (hts _ jf38) (fun _ h9 => h9) jd_lat_0 ?_
  refine lv_if_eq hx hb jd_lat_3 rfl (fun h => absurd h (by decide)) (fun _ => ?_)
  refine lv_aload_n hx hb jd_lat_6 rfl (lv_at hl 0 rfl) ?_
  refine vk_getf hx hb (hJ.1.1 i hi).2.1 hS hown (hts _ jf15) (fun _ h9 => h9) jd_lat_7 ?_
  refine lv_if_ne hx hb jd_lat_10 (tgt := 17) rfl (fun h => absurd rfl h) (fun _ => ?_)
  refine lv_iconst (v := 1) hx hb jd_lat_13 (by decide) ?_
  refine lv_goto hx hb jd_lat_14 (tgt := 18) rfl ?_
  exact W.zret hx hb hr rfl (fun t ht hW => ⟨⟨_, (), rfl, rfl, trivial⟩, hS.F ht⟩) hS.2.2 jd_lat_18
set_option maxHeartbeats 4000000 in
set_option maxRecDepth 100000 in
theorem jm_len (l : Launch) (adK adV : Nat → Nat) {i : Nat} (hi : i < 2) : Met l jM_len.1 (.code jM_len.1 jM_len.2.1 jM_len.2.2.1 jM_len.2.2.2.1 :: am_T) { frames := 1, cells := 0, slots := 0, locals := 20 } (va_Pc [.ref (adK i)] (fun U => SJ adK adV U U.heap)) (va_Qi (fun (r : Int32) (_ : Unit) => r = nI (am_tx i).length) (fun _ _ => True) (fun _ => False)) 0 0 (fun _ => False) := by
  refine Met.ofW (cc := prog_14_method_54_code) (maxL := 1) (ret := (some .int)) (by decide) rfl ?_
  intro p e s m args below meth c s₁ B hml hv
  obtain ⟨rfl, hJ⟩ := hv
  have hx := B.exec
  have hb := B.bytes
  have hr := B.returns
  have hts0 := atoms_spec (ws := .code jM_len.1 jM_len.2.1 jM_len.2.2.1 jM_len.2.2.2.1 :: am_T) B.pre
  have hts : ∀ w ∈ am_T, w.before _ s = true := fun w hw => hts0 w (List.mem_cons_of_mem _ hw)
  have hown : s.vm.findClass "java/lang/String" = some m.cls := findClass_of_methodNamed B.named
  have hlocks := B.notSynchronized
  have hS : va_S (fun _ => False) s.heap s.heap [] := va_S.rf
  have hl := lv_entry ([.ref (adK i)]) (n := 1) (Nat.le_of_ble_eq_true rfl)
  rw [lg_entry_eq]
  generalize (lg_sl ([.ref (adK i)]) ++ List.replicate (1 - (lg_sl ([.ref (adK i)])).length) Slot.unset).toArray = ls at hl ⊢
  have hl : lv_has ls 1 [(0, .ref (adK i))] := hl
  refine lv_aload_n hx hb jd_len_0 rfl (lv_at hl 0 rfl) ?_
  refine vk_getf hx hb (hJ.1.1 i hi).2.2.1 hS hown (hts _ jf9) (fun _ h9 => h9) jd_len_1 ?_
  refine va_tlen (v := nI (am_tx i).length) hx hb (hJ.1.1 i hi).2.2.2 hS (by rw [tx_l i hi]; rfl) jd_len_4 ?_
  refine lv_aload_n hx hb jd_len_5 rfl (lv_at hl 0 rfl) ?_
  refine va_calli (va_runV (As := []) (rest := [.int (nI (am_tx i).length)]) ⟨hx, hb, hml, hown, hts⟩ (jm_cod l adK adV hi) (cwV 0 hts jg_S_335 rfl rfl rfl ⟨rfl, by decide, by decide, by decide +kernel⟩ ⟨Nat.le_of_ble_eq_true rfl, Nat.le_of_ble_eq_true rfl⟩) ⟨SJ_b, vk_recv hJ.1 hi hS, fun U hU hW => ⟨rfl, SJ_w hJ hS hU hW⟩⟩ rfl rfl hl.1 rfl (lv_room (Nat.le_of_ble_eq_true rfl)) jd_len_6 ⟨Nat.zero_le _, Nat.zero_le _⟩) hS (fun q _ h => h) (fun q h => h) (fun r u t H1 locs1 ht hvm hw hB hz hk hS => ?_)
  subst hw
  refine lv_ishr hx hb jd_len_9 ?_
  refine lv_topi (fun z ez => ?_)
  exact W.iret hx hb hr (fun t ht hW => ⟨⟨_, (), rfl, ez.trans (by rcases (show i = 0 ∨ i = 1 by omega) with rfl | rfl <;> decide), trivial⟩, hS.F ht⟩) hS.2.2 jd_len_10
set_option maxHeartbeats 4000000 in
set_option maxRecDepth 100000 in
theorem jm_pci (l : Launch) (adK adV : Nat → Nat) {a n : Nat} (ha : a < n) (hn : n ≤ 1000) {fv : Value} (hf : fv = .null ∨ ∃ t, fv = .ref t) : Met l jM_pci.1 (.code jM_pci.1 jM_pci.2.1 jM_pci.2.2.1 jM_pci.2.2.2.1 :: am_T) { frames := 0, cells := 0, slots := 0, locals := 0 } (va_Pc [.int (nI a), .int (nI n), fv] (fun U => SJ adK adV U U.heap)) (va_Qi (fun (r : Int32) (_ : Unit) => r = nI a) (fun _ _ => True) (fun _ => False)) 0 0 (fun _ => False) := by
  rcases hf with rfl | ⟨tt, rfl⟩
  ·
    refine Met.ofW (cc := prog_18_method_11_code) (maxL := 3) (ret := (some .int)) (by decide) rfl ?_
    intro p e s m args below meth c s₁ B hml hv
    obtain ⟨rfl, hJ⟩ := hv
    have hx := B.exec
    have hb := B.bytes
    have hr := B.returns
    have hts0 := atoms_spec (ws := .code jM_pci.1 jM_pci.2.1 jM_pci.2.2.1 jM_pci.2.2.2.1 :: am_T) B.pre
    have hts : ∀ w ∈ am_T, w.before _ s = true := fun w hw => hts0 w (List.mem_cons_of_mem _ hw)
    have hown : s.vm.findClass "jdk/internal/util/Preconditions" = some m.cls := findClass_of_methodNamed B.named
    have hlocks := B.notSynchronized
    have hS : va_S (fun _ => False) s.heap s.heap [] := va_S.rf
    have hl := lv_entry ([.int (nI a), .int (nI n), .null]) (n := 3) (Nat.le_of_ble_eq_true rfl)
    rw [lg_entry_eq]
    generalize (lg_sl ([.int (nI a), .int (nI n), .null]) ++ List.replicate (3 - (lg_sl ([.int (nI a), .int (nI n), .null])).length) Slot.unset).toArray = ls at hl ⊢
    have hl : lv_has ls 3 [(0, .int (nI a)), (1, .int (nI n)), (2, .null)] := hl
    refine lv_iload_n hx hb jd_pci_0 rfl (lv_at hl 0 rfl) ?_
    refine lv_if_lt hx hb jd_pci_1 (tgt := 9) rfl (fun h => absurd h (jn_lt (by omega))) (fun _ => ?_)
    refine lv_iload_n hx hb jd_pci_4 rfl (lv_at hl 0 rfl) ?_
    refine lv_iload_n hx hb jd_pci_5 rfl (lv_at hl 1 rfl) ?_
    refine lv_icmp_lt hx hb jd_pci_6 (tgt := 16) rfl (fun _ => ?_) (fun h => absurd ((nI_ltI (by omega) (by omega)).mpr ha) h)
    refine lv_iload_n hx hb jd_pci_16 rfl (lv_at hl 0 rfl) ?_
    exact W.iret hx hb hr (fun t ht hW => ⟨⟨_, (), rfl, rfl, trivial⟩, hS.F ht⟩) hS.2.2 jd_pci_17
  ·
    refine Met.ofW (cc := prog_18_method_11_code) (maxL := 3) (ret := (some .int)) (by decide) rfl ?_
    intro p e s m args below meth c s₁ B hml hv
    obtain ⟨rfl, hJ⟩ := hv
    have hx := B.exec
    have hb := B.bytes
    have hr := B.returns
    have hts0 := atoms_spec (ws := .code jM_pci.1 jM_pci.2.1 jM_pci.2.2.1 jM_pci.2.2.2.1 :: am_T) B.pre
    have hts : ∀ w ∈ am_T, w.before _ s = true := fun w hw => hts0 w (List.mem_cons_of_mem _ hw)
    have hown : s.vm.findClass "jdk/internal/util/Preconditions" = some m.cls := findClass_of_methodNamed B.named
    have hlocks := B.notSynchronized
    have hS : va_S (fun _ => False) s.heap s.heap [] := va_S.rf
    have hl := lv_entry ([.int (nI a), .int (nI n), .ref tt]) (n := 3) (Nat.le_of_ble_eq_true rfl)
    rw [lg_entry_eq]
    generalize (lg_sl ([.int (nI a), .int (nI n), .ref tt]) ++ List.replicate (3 - (lg_sl ([.int (nI a), .int (nI n), .ref tt])).length) Slot.unset).toArray = ls at hl ⊢
    have hl : lv_has ls 3 [(0, .int (nI a)), (1, .int (nI n)), (2, .ref tt)] := hl
    refine lv_iload_n hx hb jd_pci_0 rfl (lv_at hl 0 rfl) ?_
    refine lv_if_lt hx hb jd_pci_1 (tgt := 9) rfl (fun h => absurd h (jn_lt (by omega))) (fun _ => ?_)
    refine lv_iload_n hx hb jd_pci_4 rfl (lv_at hl 0 rfl) ?_
    refine lv_iload_n hx hb jd_pci_5 rfl (lv_at hl 1 rfl) ?_
    refine lv_icmp_lt hx hb jd_pci_6 (tgt := 16) rfl (fun _ => ?_) (fun h => absurd ((nI_ltI (by omega) (by omega)).mpr ha) h)
    refine lv_iload_n hx hb jd_pci_16 rfl (lv_at hl 0 rfl) ?_
    exact W.iret hx hb hr (fun t ht hW => ⟨⟨_, (), rfl, rfl, trivial⟩, hS.F ht⟩) hS.2.2 jd_pci_17
set_option maxHeartbeats 4000000 in
set_option maxRecDepth 100000 in
theorem jm_sci (l : Launch) (adK adV : Nat → Nat) {a n : Nat} (ha : a < n) (hn : n ≤ 1000) : Met l jM_sci.1 (.code jM_sci.1 jM_sci.2.1 jM_sci.2.2.1 jM_sci.2.2.2.1 :: am_T) { frames := 1, cells := 0, slots := 0, locals := 22 } (va_Pc [.int (nI a), .int (nI n)] (fun U => SJ adK adV U U.heap)) (va_Qv (fun (_ : Unit) => True) (fun _ _ => True) (fun _ => False)) 0 0 (fun _ => False) := by
  refine Met.ofW (cc := prog_14_method_155_code) (maxL := 2) (ret := none) (by decide) rfl ?_
  intro p e s m args below meth c s₁ B hml hv
  obtain ⟨rfl, hJ⟩ := hv
  have hx := B.exec
  have hb := B.bytes
  have hr := B.returns
  have hts0 := atoms_spec (ws := .code jM_sci.1 jM_sci.2.1 jM_sci.2.2.1 jM_sci.2.2.2.1 :: am_T) B.pre
  have hts : ∀ w ∈ am_T, w.before _ s = true := fun w hw => hts0 w (List.mem_cons_of_mem _ hw)
  have hown : s.vm.findClass "java/lang/String" = some m.cls := findClass_of_methodNamed B.named
  have hlocks := B.notSynchronized
  have hS : va_S (fun _ => False) s.heap s.heap [] := va_S.rf
  have hl := lv_entry ([.int (nI a), .int (nI n)]) (n := 2) (Nat.le_of_ble_eq_true rfl)
  rw [lg_entry_eq]
  generalize (lg_sl ([.int (nI a), .int (nI n)]) ++ List.replicate (2 - (lg_sl ([.int (nI a), .int (nI n)])).length) Slot.unset).toArray = ls at hl ⊢
  have hl : lv_has ls 2 [(0, .int (nI a)), (1, .int (nI n))] := hl
  refine lv_iload_n hx hb jd_sci_0 rfl (lv_at hl 0 rfl) ?_
  refine lv_iload_n hx hb jd_sci_1 rfl (lv_at hl 1 rfl) ?_
  rcases hJ.2.2 with hZ | ⟨tt, hZ⟩
  ·
    refine va_gets hx hb hZ hS hown (hts _ jf1053) (fun _ h9 => h9) jd_sci_2 ?_
    refine va_calli (va_runS (As := [.int (nI a), .int (nI n), .null]) (rest := []) ⟨hx, hb, hml, hown, hts⟩ (jm_pci l adK adV ha hn (fv := .null) (Or.inl rfl)) (va_cwS 3 hts jg_S_1059 rfl rfl rfl ⟨by decide, by decide, by decide +kernel⟩ ⟨Nat.le_of_ble_eq_true rfl, Nat.le_of_ble_eq_true rfl⟩) ⟨SJ_b, fun U hU hW => ⟨rfl, SJ_w hJ hS hU hW⟩⟩ rfl rfl hl.1 rfl (lv_room (Nat.le_of_ble_eq_true rfl)) jd_sci_5 ⟨Nat.zero_le _, Nat.zero_le _⟩) hS (fun q _ h => h) (fun q h => h) (fun r u t H1 locs1 ht hvm hw hB hz hk hS => ?_)
    subst hw
    refine lv_pop hx hb jd_sci_8 rfl ?_
    exact W.vret hx hb hr (fun t ht hW => ⟨⟨(), rfl, trivial, trivial⟩, hS.F ht⟩) hS.2.2 jd_sci_9
  ·
    refine va_gets hx hb hZ hS hown (hts _ jf1053) (fun _ h9 => h9) jd_sci_2 ?_
    refine va_calli (va_runS (As := [.int (nI a), .int (nI n), .ref tt]) (rest := []) ⟨hx, hb, hml, hown, hts⟩ (jm_pci l adK adV ha hn (fv := .ref tt) (Or.inr ⟨tt, rfl⟩)) (va_cwS 3 hts jg_S_1059 rfl rfl rfl ⟨by decide, by decide, by decide +kernel⟩ ⟨Nat.le_of_ble_eq_true rfl, Nat.le_of_ble_eq_true rfl⟩) ⟨SJ_b, fun U hU hW => ⟨rfl, SJ_w hJ hS hU hW⟩⟩ rfl rfl hl.1 rfl (lv_room (Nat.le_of_ble_eq_true rfl)) jd_sci_5 ⟨Nat.zero_le _, Nat.zero_le _⟩) hS (fun q _ h => h) (fun q h => h) (fun r u t H1 locs1 ht hvm hw hB hz hk hS => ?_)
    subst hw
    refine lv_pop hx hb jd_sci_8 rfl ?_
    exact W.vret hx hb hr (fun t ht hW => ⟨⟨(), rfl, trivial, trivial⟩, hS.F ht⟩) hS.2.2 jd_sci_9
set_option maxHeartbeats 4000000 in
set_option maxRecDepth 100000 in
theorem jm_lch (l : Launch) (adK adV : Nat → Nat) {i a : Nat} (hi : i < 2) (ha : a < (am_tx i).length) : Met l jM_lch.1 (.code jM_lch.1 jM_lch.2.1 jM_lch.2.2.1 jM_lch.2.2.2.1 :: am_T) { frames := 2, cells := 0, slots := 0, locals := 43 } (va_Pc [.ref (adV i), .int (nI a)] (fun U => SJ adK adV U U.heap)) (va_Qi (fun (r : Int32) (_ : Unit) => r = nI ((am_tx i).getD a 0)) (fun _ _ => True) (fun _ => False)) 0 0 (fun _ => False) := by
  refine Met.ofW (cc := prog_15_method_2_code) (maxL := 2) (ret := (some .char)) (by decide) rfl ?_
  intro p e s m args below meth c s₁ B hml hv
  obtain ⟨rfl, hJ⟩ := hv
  have hx := B.exec
  have hb := B.bytes
  have hr := B.returns
  have hts0 := atoms_spec (ws := .code jM_lch.1 jM_lch.2.1 jM_lch.2.2.1 jM_lch.2.2.2.1 :: am_T) B.pre
  have hts : ∀ w ∈ am_T, w.before _ s = true := fun w hw => hts0 w (List.mem_cons_of_mem _ hw)
  have hown : s.vm.findClass "java/lang/StringLatin1" = some m.cls := findClass_of_methodNamed B.named
  have hlocks := B.notSynchronized
  have hS : va_S (fun _ => False) s.heap s.heap [] := va_S.rf
  have hl := lv_entry ([.ref (adV i), .int (nI a)]) (n := 2) (Nat.le_of_ble_eq_true rfl)
  rw [lg_entry_eq]
  generalize (lg_sl ([.ref (adV i), .int (nI a)]) ++ List.replicate (2 - (lg_sl ([.ref (adV i), .int (nI a)])).length) Slot.unset).toArray = ls at hl ⊢
  have hl : lv_has ls 2 [(0, .ref (adV i)), (1, .int (nI a))] := hl
  have hn := tx_len i hi
  have hg := tx_g hi ha
  refine lv_iload_n hx hb jd_lch_0 rfl (lv_at hl 1 rfl) ?_
  refine lv_aload_n hx hb jd_lch_1 rfl (lv_at hl 0 rfl) ?_
  refine va_tlen (v := nI (am_tx i).length) hx hb (hJ.1.1 i hi).2.2.2 hS (by rw [tx_l i hi]; rfl) jd_lch_2 ?_
  refine va_callv (va_runS (As := [.int (nI a), .int (nI (am_tx i).length)]) (rest := []) ⟨hx, hb, hml, hown, hts⟩ (jm_sci l adK adV ha (by omega)) (va_cwS 2 hts jg_L_9 rfl rfl rfl ⟨by decide, by decide, by decide +kernel⟩ ⟨Nat.le_of_ble_eq_true rfl, Nat.le_of_ble_eq_true rfl⟩) ⟨SJ_b, fun U hU hW => ⟨rfl, SJ_w hJ hS hU hW⟩⟩ rfl rfl hl.1 rfl (lv_room (Nat.le_of_ble_eq_true rfl)) jd_lch_3 ⟨Nat.zero_le _, Nat.zero_le _⟩) hS (fun q _ h => h) (fun q h => h) (fun u t H1 locs1 ht hvm hw hB hz hk hS => ?_)
  refine lv_aload_n hx hb jd_lch_6 rfl (lv_at hl 0 rfl) ?_
  refine lv_iload_n hx hb jd_lch_7 rfl (lv_at hl 1 rfl) ?_
  refine va_tb (v := .int (nI ((am_tx i).getD a 0))) hx hb (hJ.1.1 i hi).2.2.2 hS (by rw [tx_l i hi]; exact vp_in_nI ha (by omega)) (by rw [nI_clamp (by omega), tx_b i hi a ha]) jd_lch_8 ?_
  refine lv_sipush (v := 255) hx hb jd_lch_9 (by decide) ?_
  refine lv_iand hx hb jd_lch_12 ?_
  refine lv_topi (fun z ez => ?_)
  rw [tx_and _ hg] at ez
  subst ez
  refine lv_i2c (v := nI ((am_tx i).getD a 0)) hx hb jd_lch_13 (tx_i2c _ hg) ?_
  exact W.zret hx hb hr (tx_nar _ hg) (fun t ht hW => ⟨⟨_, (), rfl, rfl, trivial⟩, hS.F ht⟩) hS.2.2 jd_lch_14
set_option maxHeartbeats 4000000 in
set_option maxRecDepth 100000 in
theorem jm_cha (l : Launch) (adK adV : Nat → Nat) {i a : Nat} (hi : i < 2) (ha : a < (am_tx i).length) : Met l jM_cha.1 (.code jM_cha.1 jM_cha.2.1 jM_cha.2.2.1 jM_cha.2.2.2.1 :: am_T) { frames := 3, cells := 0, slots := 0, locals := 64 } (va_Pc [.ref (adK i), .int (nI a)] (fun U => SJ adK adV U U.heap)) (va_Qi (fun (r : Int32) (_ : Unit) => r = nI ((am_tx i).getD a 0)) (fun _ _ => True) (fun _ => False)) 0 0 (fun _ => False) := by
  refine Met.ofW (cc := prog_14_method_56_code) (maxL := 2) (ret := (some .char)) (by decide) rfl ?_
  intro p e s m args below meth c s₁ B hml hv
  obtain ⟨rfl, hJ⟩ := hv
  have hx := B.exec
  have hb := B.bytes
  have hr := B.returns
  have hts0 := atoms_spec (ws := .code jM_cha.1 jM_cha.2.1 jM_cha.2.2.1 jM_cha.2.2.2.1 :: am_T) B.pre
  have hts : ∀ w ∈ am_T, w.before _ s = true := fun w hw => hts0 w (List.mem_cons_of_mem _ hw)
  have hown : s.vm.findClass "java/lang/String" = some m.cls := findClass_of_methodNamed B.named
  have hlocks := B.notSynchronized
  have hS : va_S (fun _ => False) s.heap s.heap [] := va_S.rf
  have hl := lv_entry ([.ref (adK i), .int (nI a)]) (n := 2) (Nat.le_of_ble_eq_true rfl)
  rw [lg_entry_eq]
  generalize (lg_sl ([.ref (adK i), .int (nI a)]) ++ List.replicate (2 - (lg_sl ([.ref (adK i), .int (nI a)])).length) Slot.unset).toArray = ls at hl ⊢
  have hl : lv_has ls 2 [(0, .ref (adK i)), (1, .int (nI a))] := hl
  have hg := tx_g hi ha
  refine lv_aload_n hx hb jd_cha_0 rfl (lv_at hl 0 rfl) ?_
  refine va_calli (va_runV (As := []) (rest := []) ⟨hx, hb, hml, hown, hts⟩ (jm_lat l adK adV hi) (cwV 0 hts jg_S_492 rfl rfl rfl ⟨rfl, by decide, by decide, by decide +kernel⟩ ⟨Nat.le_of_ble_eq_true rfl, Nat.le_of_ble_eq_true rfl⟩) ⟨SJ_b, vk_recv hJ.1 hi hS, fun U hU hW => ⟨rfl, SJ_w hJ hS hU hW⟩⟩ rfl rfl hl.1 rfl (lv_room (Nat.le_of_ble_eq_true rfl)) jd_cha_1 ⟨Nat.zero_le _, Nat.zero_le _⟩) hS (fun q _ h => h) (fun q h => h) (fun r u t H1 locs1 ht hvm hw hB hz hk hS => ?_)
  subst hw
  refine lv_if_eq hx hb jd_cha_4 (tgt := 16) rfl (fun h => absurd h (by decide)) (fun _ => ?_)
  refine lv_aload_n hx hb jd_cha_7 rfl (lv_at hl 0 rfl) ?_
  refine vk_getf hx hb (hJ.1.1 i hi).2.2.1 hS hown (hts _ jf9) (fun _ h9 => h9) jd_cha_8 ?_
  refine lv_iload_n hx hb jd_cha_11 rfl (lv_at hl 1 rfl) ?_
  refine va_calli (va_runS (As := [.ref (adV i), .int (nI a)]) (rest := []) ⟨hx, hb, hml, hown, hts⟩ (jm_lch l adK adV hi ha) (va_cwS 2 hts jg_S_495 rfl rfl rfl ⟨by decide, by decide, by decide +kernel⟩ ⟨Nat.le_of_ble_eq_true rfl, Nat.le_of_ble_eq_true rfl⟩) ⟨SJ_b, fun U hU hW => ⟨rfl, SJ_w hJ hS hU hW⟩⟩ rfl rfl hl.1 rfl (lv_room (Nat.le_of_ble_eq_true rfl)) jd_cha_12 ⟨Nat.zero_le _, Nat.zero_le _⟩) hS (fun q _ h => h) (fun q h => h) (fun r u t H1 locs1 ht hvm hw hB hz hk hS => ?_)
  subst hw
  exact W.zret hx hb hr (tx_nar _ hg) (fun t ht hW => ⟨⟨_, (), rfl, rfl, trivial⟩, hS.F ht⟩) hS.2.2 jd_cha_15
set_option maxHeartbeats 4000000 in
set_option maxRecDepth 100000 in
theorem jm_cen (l : Launch) (adK adV : Nat → Nat) (ch : Int32) : Met l jM_cen.1 (.code jM_cen.1 jM_cen.2.1 jM_cen.2.2.1 jM_cen.2.2.2.1 :: am_T) { frames := 0, cells := 0, slots := 0, locals := 0 } (va_Pc [.int ch] (fun U => SJ adK adV U U.heap)) (va_Qi (fun (r : Int32) (_ : Unit) => r = (if ch < 0 ∨ 255 < ch then 0 else 1)) (fun _ _ => True) (fun _ => False)) 0 0 (fun _ => False) := by
  refine Met.ofW (cc := prog_15_method_4_code) (maxL := 1) (ret := (some .boolean)) (by decide) rfl ?_
  intro p e s m args below meth c s₁ B hml hv
  obtain ⟨rfl, hJ⟩ := hv
  have hx := B.exec
  have hb := B.bytes
  have hr := B.returns
  have hts0 := atoms_spec (ws := .code jM_cen.1 jM_cen.2.1 jM_cen.2.2.1 jM_cen.2.2.2.1 :: am_T) B.pre
  have hts : ∀ w ∈ am_T, w.before _ s = true := fun w hw => hts0 w (List.mem_cons_of_mem _ hw)
  have hown : s.vm.findClass "java/lang/StringLatin1" = some m.cls := findClass_of_methodNamed B.named
  have hlocks := B.notSynchronized
  have hS : va_S (fun _ => False) s.heap s.heap [] := va_S.rf
  have hl := lv_entry ([.int ch]) (n := 1) (Nat.le_of_ble_eq_true rfl)
  rw [lg_entry_eq]
  generalize (lg_sl ([.int ch]) ++ List.replicate (1 - (lg_sl ([.int ch])).length) Slot.unset).toArray = ls at hl ⊢
  have hl : lv_has ls 1 [(0, .int ch)] := hl
  refine lv_iload_n hx hb jd_cen_0 rfl (lv_at hl 0 rfl) ?_
  refine lv_if_lt hx hb jd_cen_1 (tgt := 15) rfl (fun h => ?_) (fun h => ?_)
  · refine lv_iconst (v := 0) hx hb jd_cen_15 (by decide) ?_
    exact W.zret hx hb hr rfl (fun t ht hW => ⟨⟨_, (), rfl, (if_pos (Or.inl h)).symm, trivial⟩, hS.F ht⟩) hS.2.2 jd_cen_16
  · refine lv_iload_n hx hb jd_cen_4 rfl (lv_at hl 0 rfl) ?_
    refine lv_sipush (v := 255) hx hb jd_cen_5 (by decide) ?_
    refine lv_icmp_gt hx hb jd_cen_8 (tgt := 15) rfl (fun h2 => ?_) (fun h2 => ?_)
    · refine lv_iconst (v := 0) hx hb jd_cen_15 (by decide) ?_
      exact W.zret hx hb hr rfl (fun t ht hW => ⟨⟨_, (), rfl, (if_pos (Or.inr h2)).symm, trivial⟩, hS.F ht⟩) hS.2.2 jd_cen_16
    · refine lv_iconst (v := 1) hx hb jd_cen_11 (by decide) ?_
      refine lv_goto hx hb jd_cen_12 (tgt := 16) rfl ?_
      exact W.zret hx hb hr rfl (fun t ht hW => ⟨⟨_, (), rfl, (if_neg (fun z => z.elim h h2)).symm, trivial⟩, hS.F ht⟩) hS.2.2 jd_cen_16
set_option maxHeartbeats 4000000 in
set_option maxRecDepth 100000 in
theorem jm_ioc (l : Launch) (adK adV : Nat → Nat) {i c0 : Nat} (hi : i < 2) (hc : c0 < 256) : Met l jM_ioc.1 (.code jM_ioc.1 jM_ioc.2.1 jM_ioc.2.2.1 jM_ioc.2.2.2.1 :: am_T) { frames := 0, cells := 0, slots := 0, locals := 0 } (va_Pc [.ref (adV i), .int (nI c0), .int 0, .int (nI (am_tx i).length)] (fun U => SJ adK adV U U.heap)) (va_Qi (fun (r : Int32) (_ : Unit) => r = am_ix (nI c0) (am_tx i) 0) (fun _ _ => True) (fun _ => False)) 0 0 (fun _ => False) := by
  refine Met.ofW (cc := prog_15_method_23_code) (maxL := 6) (ret := (some .int)) (by decide) rfl ?_
  intro p e s m args below meth c s₁ B hml hv
  obtain ⟨rfl, hJ⟩ := hv
  have hx := B.exec
  have hb := B.bytes
  have hr := B.returns
  have hts0 := atoms_spec (ws := .code jM_ioc.1 jM_ioc.2.1 jM_ioc.2.2.1 jM_ioc.2.2.2.1 :: am_T) B.pre
  have hts : ∀ w ∈ am_T, w.before _ s = true := fun w hw => hts0 w (List.mem_cons_of_mem _ hw)
  have hown : s.vm.findClass "java/lang/StringLatin1" = some m.cls := findClass_of_methodNamed B.named
  have hlocks := B.notSynchronized
  have hS : va_S (fun _ => False) s.heap s.heap [] := va_S.rf
  have hl := lv_entry ([.ref (adV i), .int (nI c0), .int 0, .int (nI (am_tx i).length)]) (n := 6) (Nat.le_of_ble_eq_true rfl)
  rw [lg_entry_eq]
  generalize (lg_sl ([.ref (adV i), .int (nI c0), .int 0, .int (nI (am_tx i).length)]) ++ List.replicate (6 - (lg_sl ([.ref (adV i), .int (nI c0), .int 0, .int (nI (am_tx i).length)])).length) Slot.unset).toArray = ls at hl ⊢
  have hl : lv_has ls 6 [(0, .ref (adV i)), (1, .int (nI c0)), (2, .int 0), (3, .int (nI (am_tx i).length))] := hl
  have hn := tx_len i hi
  have loop : ∀ (n k : Nat) (ls : Array Slot), k + n = (am_tx i).length → lv_has ls 6 [(5, .int (nI k)), (4, .int (nI c0).toInt8.toInt32), (0, .ref (adV i)), (1, .int (nI c0)), (2, .int 0), (3, .int (nI (am_tx i).length))] → am_ix (nI c0) ((am_tx i).drop k) k = am_ix (nI c0) (am_tx i) 0 → W p l e (headSpec (.code jM_ioc.1 jM_ioc.2.1 jM_ioc.2.2.1 jM_ioc.2.2.2.1 :: am_T) { frames := 0, cells := 0, slots := 0, locals := 0 }).room s m ([.ref (adV i), .int (nI c0), .int 0, .int (nI (am_tx i).length)] : List Value).toArray below meth c s.heap [] 0 0 (MQ below (va_Qi (fun (r : Int32) (_ : Unit) => r = am_ix (nI c0) (am_tx i) 0) (fun _ _ => True) (fun _ => False)) ([.ref (adV i), .int (nI c0), .int 0, .int (nI (am_tx i).length)] : List Value).toArray s 0 0 (fun _ => False)) (F0 m 7 ls []) := by
    intro n
    induction n with
    | zero =>
      intro k ls hk hl hV
      refine lv_iload hx hb jd_ioc_7 (lv_at hl 0 rfl) ?_
      refine lv_iload_n hx hb jd_ioc_9 rfl (lv_at hl 5 rfl) ?_
      refine lv_icmp_ge hx hb jd_ioc_10 (tgt := 31) rfl (fun _ => ?_) (fun h => absurd ((nI_leI (by omega) (by omega)).mpr (show (am_tx i).length ≤ k by omega)) h)
      refine lv_iconst (v := -1) hx hb jd_ioc_31 (by decide) ?_
      rw [List.drop_eq_nil_of_le (by omega)] at hV
      exact W.iret hx hb hr (fun t ht hW => ⟨⟨_, (), rfl, hV, trivial⟩, hS.F ht⟩) hS.2.2 jd_ioc_32
    | succ n ih =>
      intro k ls hk hl hV
      have hkl : k < (am_tx i).length := by omega
      have hg := tx_g hi hkl
      have hdr : (am_tx i).drop k = (am_tx i).getD k 0 :: (am_tx i).drop (k + 1) := by
        rw [List.drop_eq_getElem_cons hkl, List.getD_eq_getElem?_getD, List.getElem?_eq_getElem hkl]
        rfl
      rw [hdr, show am_ix (nI c0) ((am_tx i).getD k 0 :: (am_tx i).drop (k + 1)) k = (if nI ((am_tx i).getD k 0) = nI c0 then nI k else am_ix (nI c0) ((am_tx i).drop (k + 1)) (k + 1)) from rfl] at hV
      refine lv_iload hx hb jd_ioc_7 (lv_at hl 0 rfl) ?_
      refine lv_iload_n hx hb jd_ioc_9 rfl (lv_at hl 5 rfl) ?_
      refine lv_icmp_ge hx hb jd_ioc_10 (tgt := 31) rfl (fun h => absurd ((nI_leI (by omega) (by omega)).mp h) (by omega)) (fun _ => ?_)
      refine lv_aload_n hx hb jd_ioc_13 rfl (lv_at hl 2 rfl) ?_
      refine lv_iload hx hb jd_ioc_14 (lv_at hl 0 rfl) ?_
      refine va_tb (v := .int (nI ((am_tx i).getD k 0))) hx hb (hJ.1.1 i hi).2.2.2 hS (by rw [tx_l i hi]; exact vp_in_nI hkl (by omega)) (by rw [nI_clamp (by omega), tx_b i hi k hkl]) jd_ioc_16 ?_
      refine lv_iload hx hb jd_ioc_17 (lv_at hl 1 rfl) ?_
      refine lv_icmp_ne hx hb jd_ioc_19 (tgt := 25) rfl (fun h => ?_) (fun h => ?_)
      · rw [if_neg (fun z => h ((tx_i2b _ hg _ hc).mpr z))] at hV
        refine lv_iinc hx hb jd_ioc_25 (k := 0) hl rfl (v := nI (k + 1)) (by rw [show Int32.ofInt 1 = nI 1 from rfl, nI_add]) (by omega) rfl (fun ls' hl' => ?_)
        refine lv_goto hx hb jd_ioc_28 (tgt := 7) rfl ?_
        exact ih (k + 1) ls' (by omega) hl' hV
      · rw [if_pos ((tx_i2b _ hg _ hc).mp h)] at hV
        refine lv_iload hx hb jd_ioc_22 (lv_at hl 0 rfl) ?_
        exact W.iret hx hb hr (fun t ht hW => ⟨⟨_, (), rfl, hV, trivial⟩, hS.F ht⟩) hS.2.2 jd_ioc_24
  refine lv_iload_n hx hb jd_ioc_0 rfl (lv_at hl 1 rfl) ?_
  refine lv_i2b (v := (nI c0).toInt8.toInt32) hx hb jd_ioc_1 rfl ?_
  refine lv_istore hx hb jd_ioc_2 hl (by omega) rfl (fun ls2 hl2 => ?_)
  refine lv_iload_n hx hb jd_ioc_4 rfl (lv_at hl2 3 rfl) ?_
  refine lv_istore hx hb jd_ioc_5 hl2 (by omega) rfl (fun ls3 hl3 => ?_)
  exact loop (am_tx i).length 0 ls3 (by omega) hl3 rfl
set_option maxHeartbeats 4000000 in
set_option maxRecDepth 100000 in
theorem jm_lix (l : Launch) (adK adV : Nat → Nat) {i : Nat} {ch : Int32} (hi : i < 2) : Met l jM_lix.1 (.code jM_lix.1 jM_lix.2.1 jM_lix.2.2.1 jM_lix.2.2.2.1 :: am_T) { frames := 1, cells := 0, slots := 0, locals := 40 } (va_Pc [.ref (adV i), .int ch, .int 0, .int (nI (am_tx i).length)] (fun U => SJ adK adV U U.heap)) (va_Qi (fun (r : Int32) (_ : Unit) => r = am_ix ch (am_tx i) 0) (fun _ _ => True) (fun _ => False)) 0 0 (fun _ => False) := by
  refine Met.ofW (cc := prog_15_method_22_code) (maxL := 4) (ret := (some .int)) (by decide) rfl ?_
  intro p e s m args below meth c s₁ B hml hv
  obtain ⟨rfl, hJ⟩ := hv
  have hx := B.exec
  have hb := B.bytes
  have hr := B.returns
  have hts0 := atoms_spec (ws := .code jM_lix.1 jM_lix.2.1 jM_lix.2.2.1 jM_lix.2.2.2.1 :: am_T) B.pre
  have hts : ∀ w ∈ am_T, w.before _ s = true := fun w hw => hts0 w (List.mem_cons_of_mem _ hw)
  have hown : s.vm.findClass "java/lang/StringLatin1" = some m.cls := findClass_of_methodNamed B.named
  have hlocks := B.notSynchronized
  have hS : va_S (fun _ => False) s.heap s.heap [] := va_S.rf
  have hl := lv_entry ([.ref (adV i), .int ch, .int 0, .int (nI (am_tx i).length)]) (n := 4) (Nat.le_of_ble_eq_true rfl)
  rw [lg_entry_eq]
  generalize (lg_sl ([.ref (adV i), .int ch, .int 0, .int (nI (am_tx i).length)]) ++ List.replicate (4 - (lg_sl ([.ref (adV i), .int ch, .int 0, .int (nI (am_tx i).length)])).length) Slot.unset).toArray = ls at hl ⊢
  have hl : lv_has ls 4 [(0, .ref (adV i)), (1, .int ch), (2, .int 0), (3, .int (nI (am_tx i).length))] := hl
  have hn := tx_len i hi
  have hout : (ch < 0 ∨ 255 < ch) → -1 = am_ix ch (am_tx i) 0 := by
    intro z
    refine (ix_out (fun b hb e => ?_) 0).symm
    have h1 := tx_128 i hi b hb
    rw [← e] at z
    rcases z with z | z
    · exact jn_lt (by omega) z
    · rw [show (255 : Int32) = nI 255 from rfl, nI_ltI (by omega) (by omega)] at z
      omega
  refine lv_iload_n hx hb jd_lix_0 rfl (lv_at hl 1 rfl) ?_
  refine va_calli (va_runS (As := [.int ch]) (rest := []) ⟨hx, hb, hml, hown, hts⟩ (jm_cen l adK adV ch) (va_cwS 1 hts jg_L_88 rfl rfl rfl ⟨by decide, by decide, by decide +kernel⟩ ⟨Nat.le_of_ble_eq_true rfl, Nat.le_of_ble_eq_true rfl⟩) ⟨SJ_b, fun U hU hW => ⟨rfl, SJ_w hJ hS hU hW⟩⟩ rfl rfl hl.1 rfl (lv_room (Nat.le_of_ble_eq_true rfl)) jd_lix_1 ⟨Nat.zero_le _, Nat.zero_le _⟩) hS (fun q _ h => h) (fun q h => h) (fun r u t H1 locs1 ht hvm hw hB hz hk hS => ?_)
  subst hw
  refine lv_if_ne hx hb jd_lix_4 (tgt := 9) rfl (fun h => ?_) (fun h => ?_)
  · have hc : ¬ (ch < 0 ∨ 255 < ch) := fun z => h (if_pos z)
    obtain ⟨c0, hc31, rfl⟩ := nI_of (fun z => hc (Or.inl z))
    have hc0 : c0 < 256 := by
      have h2 : ¬ (255 : Int32) < nI c0 := fun z => hc (Or.inr z)
      rw [show (255 : Int32) = nI 255 from rfl, nI_ltI (by omega) hc31] at h2
      omega
    refine lv_iload_n hx hb jd_lix_9 rfl (lv_at hl 2 rfl) ?_
    refine lv_iconst (v := 0) hx hb jd_lix_10 (by decide) ?_
    refine va_mmax hx hb (hml.trans hl.1.symm) hown (hts _ jl_max) (hts _ js_max) (hts _ jinM) (hts _ jc_max) (Nat.le_of_ble_eq_true rfl) (Nat.le_of_ble_eq_true rfl) (Nat.zero_le _) (Nat.zero_le _) jd_lix_11 ?_
    refine lv_istore_n hx hb jd_lix_14 rfl hl (by omega) rfl (fun ls2 hl2 => ?_)
    have hl2 : lv_has ls2 4 [(2, .int 0), (0, .ref (adV i)), (1, .int (nI c0)), (3, .int (nI (am_tx i).length))] := hl2
    refine lv_iload_n hx hb jd_lix_15 rfl (lv_at hl2 3 rfl) ?_
    refine lv_aload_n hx hb jd_lix_16 rfl (lv_at hl2 1 rfl) ?_
    refine va_tlen (v := nI (am_tx i).length) hx hb (hJ.1.1 i hi).2.2.2 hS (by rw [tx_l i hi]; rfl) jd_lix_17 ?_
    refine va_mmin hx hb (hml.trans hl2.1.symm) hown (hts _ jl_min) (hts _ js_min) (hts _ jinM) (hts _ jc_min) (Nat.le_of_ble_eq_true rfl) (Nat.le_of_ble_eq_true rfl) (Nat.zero_le _) (Nat.zero_le _) jd_lix_18 ?_
    refine lv_topi (fun z ez => ?_)
    have ez : z = nI (am_tx i).length := ez.trans (ite_self _)
    subst ez
    refine lv_istore_n hx hb jd_lix_21 rfl hl2 (by omega) rfl (fun ls3 hl3 => ?_)
    have hl3 : lv_has ls3 4 [(3, .int (nI (am_tx i).length)), (2, .int 0), (0, .ref (adV i)), (1, .int (nI c0))] := hl3
    refine lv_iload_n hx hb jd_lix_22 rfl (lv_at hl3 1 rfl) ?_
    refine lv_iload_n hx hb jd_lix_23 rfl (lv_at hl3 0 rfl) ?_
    refine lv_icmp_lt hx hb jd_lix_24 (tgt := 29) rfl (fun _ => ?_) (fun h => absurd ((nI_ltI (a := 0) (by omega) (by omega)).mpr (show 0 < (am_tx i).length by rcases (show i = 0 ∨ i = 1 by omega) with rfl | rfl <;> decide)) h)
    refine lv_aload_n hx hb jd_lix_29 rfl (lv_at hl3 2 rfl) ?_
    refine lv_iload_n hx hb jd_lix_30 rfl (lv_at hl3 3 rfl) ?_
    refine lv_iload_n hx hb jd_lix_31 rfl (lv_at hl3 1 rfl) ?_
    refine lv_iload_n hx hb jd_lix_32 rfl (lv_at hl3 0 rfl) ?_
    refine va_calli (va_runS (As := [.ref (adV i), .int (nI c0), .int 0, .int (nI (am_tx i).length)]) (rest := []) ⟨hx, hb, hml, hown, hts⟩ (jm_ioc l adK adV hi hc0) (va_cwS 4 hts jg_L_95 rfl rfl rfl ⟨by decide, by decide, by decide +kernel⟩ ⟨Nat.le_of_ble_eq_true rfl, Nat.le_of_ble_eq_true rfl⟩) ⟨SJ_b, fun U hU hW => ⟨rfl, SJ_w hJ hS hU hW⟩⟩ rfl rfl hl3.1 rfl (lv_room (Nat.le_of_ble_eq_true rfl)) jd_lix_33 ⟨Nat.zero_le _, Nat.zero_le _⟩) hS (fun q _ h => h) (fun q h => h) (fun r u t H1 locs1 ht hvm hw hB hz hk hS => ?_)
    subst hw
    exact W.iret hx hb hr (fun t ht hW => ⟨⟨_, (), rfl, rfl, trivial⟩, hS.F ht⟩) hS.2.2 jd_lix_36
  · refine lv_iconst (v := -1) hx hb jd_lix_7 (by decide) ?_
    have hc : ch < 0 ∨ 255 < ch := Classical.byContradiction (fun z => by rw [if_neg z] at h; exact absurd h (by decide))
    exact W.iret hx hb hr (fun t ht hW => ⟨⟨_, (), rfl, hout hc, trivial⟩, hS.F ht⟩) hS.2.2 jd_lix_8
set_option maxHeartbeats 4000000 in
set_option maxRecDepth 100000 in
theorem jm_ix2 (l : Launch) (adK adV : Nat → Nat) {i : Nat} {ch : Int32} (hi : i < 2) : Met l jM_ix2.1 (.code jM_ix2.1 jM_ix2.2.1 jM_ix2.2.2.1 jM_ix2.2.2.2.1 :: am_T) { frames := 2, cells := 0, slots := 0, locals := 64 } (va_Pc [.ref (adK i), .int ch, .int 0] (fun U => SJ adK adV U U.heap)) (va_Qi (fun (r : Int32) (_ : Unit) => r = am_ix ch (am_tx i) 0) (fun _ _ => True) (fun _ => False)) 0 0 (fun _ => False) := by
  refine Met.ofW (cc := prog_14_method_80_code) (maxL := 3) (ret := (some .int)) (by decide) rfl ?_
  intro p e s m args below meth c s₁ B hml hv
  obtain ⟨rfl, hJ⟩ := hv
  have hx := B.exec
  have hb := B.bytes
  have hr := B.returns
  have hts0 := atoms_spec (ws := .code jM_ix2.1 jM_ix2.2.1 jM_ix2.2.2.1 jM_ix2.2.2.2.1 :: am_T) B.pre
  have hts : ∀ w ∈ am_T, w.before _ s = true := fun w hw => hts0 w (List.mem_cons_of_mem _ hw)
  have hown : s.vm.findClass "java/lang/String" = some m.cls := findClass_of_methodNamed B.named
  have hlocks := B.notSynchronized
  have hS : va_S (fun _ => False) s.heap s.heap [] := va_S.rf
  have hl := lv_entry ([.ref (adK i), .int ch, .int 0]) (n := 3) (Nat.le_of_ble_eq_true rfl)
  rw [lg_entry_eq]
  generalize (lg_sl ([.ref (adK i), .int ch, .int 0]) ++ List.replicate (3 - (lg_sl ([.ref (adK i), .int ch, .int 0])).length) Slot.unset).toArray = ls at hl ⊢
  have hl : lv_has ls 3 [(0, .ref (adK i)), (1, .int ch), (2, .int 0)] := hl
  refine lv_aload_n hx hb jd_ix2_0 rfl (lv_at hl 0 rfl) ?_
  refine va_calli (va_runV (As := []) (rest := []) ⟨hx, hb, hml, hown, hts⟩ (jm_lat l adK adV hi) (cwV 0 hts jg_S_492 rfl rfl rfl ⟨rfl, by decide, by decide, by decide +kernel⟩ ⟨Nat.le_of_ble_eq_true rfl, Nat.le_of_ble_eq_true rfl⟩) ⟨SJ_b, vk_recv hJ.1 hi hS, fun U hU hW => ⟨rfl, SJ_w hJ hS hU hW⟩⟩ rfl rfl hl.1 rfl (lv_room (Nat.le_of_ble_eq_true rfl)) jd_ix2_1 ⟨Nat.zero_le _, Nat.zero_le _⟩) hS (fun q _ h => h) (fun q h => h) (fun r u t H1 locs1 ht hvm hw hB hz hk hS => ?_)
  subst hw
  refine lv_if_eq hx hb jd_ix2_4 (tgt := 23) rfl (fun h => absurd h (by decide)) (fun _ => ?_)
  refine lv_aload_n hx hb jd_ix2_7 rfl (lv_at hl 0 rfl) ?_
  refine vk_getf hx hb (hJ.1.1 i hi).2.2.1 hS hown (hts _ jf9) (fun _ h9 => h9) jd_ix2_8 ?_
  refine lv_iload_n hx hb jd_ix2_11 rfl (lv_at hl 1 rfl) ?_
  refine lv_iload_n hx hb jd_ix2_12 rfl (lv_at hl 2 rfl) ?_
  refine lv_aload_n hx hb jd_ix2_13 rfl (lv_at hl 0 rfl) ?_
  refine va_calli (va_runV (As := []) (rest := [.int 0, .int ch, .ref (adV i)]) ⟨hx, hb, hml, hown, hts⟩ (jm_len l adK adV hi) (cwV 0 hts jg_S_505 rfl rfl rfl ⟨rfl, by decide, by decide, by decide +kernel⟩ ⟨Nat.le_of_ble_eq_true rfl, Nat.le_of_ble_eq_true rfl⟩) ⟨SJ_b, vk_recv hJ.1 hi hS, fun U hU hW => ⟨rfl, SJ_w hJ hS hU hW⟩⟩ rfl rfl hl.1 rfl (lv_room (Nat.le_of_ble_eq_true rfl)) jd_ix2_14 ⟨Nat.zero_le _, Nat.zero_le _⟩) hS (fun q _ h => h) (fun q h => h) (fun r u t H1 locs1 ht hvm hw hB hz hk hS => ?_)
  subst hw
  refine va_calli (va_runS (As := [.ref (adV i), .int ch, .int 0, .int (nI (am_tx i).length)]) (rest := []) ⟨hx, hb, hml, hown, hts⟩ (jm_lix l adK adV (ch := ch) hi) (va_cwS 4 hts jg_S_637 rfl rfl rfl ⟨by decide, by decide, by decide +kernel⟩ ⟨Nat.le_of_ble_eq_true rfl, Nat.le_of_ble_eq_true rfl⟩) ⟨SJ_b, fun U hU hW => ⟨rfl, SJ_w hJ hS hU hW⟩⟩ rfl rfl hl.1 rfl (lv_room (Nat.le_of_ble_eq_true rfl)) jd_ix2_17 ⟨Nat.zero_le _, Nat.zero_le _⟩) hS (fun q _ h => h) (fun q h => h) (fun r u t H1 locs1 ht hvm hw hB hz hk hS => ?_)
  subst hw
  refine lv_goto hx hb jd_ix2_20 (tgt := 36) rfl ?_
  exact W.iret hx hb hr (fun t ht hW => ⟨⟨_, (), rfl, rfl, trivial⟩, hS.F ht⟩) hS.2.2 jd_ix2_36
set_option maxHeartbeats 4000000 in
set_option maxRecDepth 100000 in
theorem jm_ix1 (l : Launch) (adK adV : Nat → Nat) {i : Nat} {ch : Int32} (hi : i < 2) : Met l jM_ix1.1 (.code jM_ix1.1 jM_ix1.2.1 jM_ix1.2.2.1 jM_ix1.2.2.2.1 :: am_T) { frames := 3, cells := 0, slots := 0, locals := 86 } (va_Pc [.ref (adK i), .int ch] (fun U => SJ adK adV U U.heap)) (va_Qi (fun (r : Int32) (_ : Unit) => r = am_ix ch (am_tx i) 0) (fun _ _ => True) (fun _ => False)) 0 0 (fun _ => False) := by
  refine Met.ofW (cc := prog_14_method_79_code) (maxL := 2) (ret := (some .int)) (by decide) rfl ?_
  intro p e s m args below meth c s₁ B hml hv
  obtain ⟨rfl, hJ⟩ := hv
  have hx := B.exec
  have hb := B.bytes
  have hr := B.returns
  have hts0 := atoms_spec (ws := .code jM_ix1.1 jM_ix1.2.1 jM_ix1.2.2.1 jM_ix1.2.2.2.1 :: am_T) B.pre
  have hts : ∀ w ∈ am_T, w.before _ s = true := fun w hw => hts0 w (List.mem_cons_of_mem _ hw)
  have hown : s.vm.findClass "java/lang/String" = some m.cls := findClass_of_methodNamed B.named
  have hlocks := B.notSynchronized
  have hS : va_S (fun _ => False) s.heap s.heap [] := va_S.rf
  have hl := lv_entry ([.ref (adK i), .int ch]) (n := 2) (Nat.le_of_ble_eq_true rfl)
  rw [lg_entry_eq]
  generalize (lg_sl ([.ref (adK i), .int ch]) ++ List.replicate (2 - (lg_sl ([.ref (adK i), .int ch])).length) Slot.unset).toArray = ls at hl ⊢
  have hl : lv_has ls 2 [(0, .ref (adK i)), (1, .int ch)] := hl
  refine lv_aload_n hx hb jd_ix1_0 rfl (lv_at hl 0 rfl) ?_
  refine lv_iload_n hx hb jd_ix1_1 rfl (lv_at hl 1 rfl) ?_
  refine lv_iconst (v := 0) hx hb jd_ix1_2 (by decide) ?_
  refine va_calli (va_runV (As := [.int ch, .int 0]) (rest := []) ⟨hx, hb, hml, hown, hts⟩ (jm_ix2 l adK adV (ch := ch) hi) (cwV 2 hts jg_S_633 rfl rfl rfl ⟨rfl, by decide, by decide, by decide +kernel⟩ ⟨Nat.le_of_ble_eq_true rfl, Nat.le_of_ble_eq_true rfl⟩) ⟨SJ_b, vk_recv hJ.1 hi hS, fun U hU hW => ⟨rfl, SJ_w hJ hS hU hW⟩⟩ rfl rfl hl.1 rfl (lv_room (Nat.le_of_ble_eq_true rfl)) jd_ix1_3 ⟨Nat.zero_le _, Nat.zero_le _⟩) hS (fun q _ h => h) (fun q h => h) (fun r u t H1 locs1 ht hvm hw hB hz hk hS => ?_)
  subst hw
  exact W.iret hx hb hr (fun t ht hW => ⟨⟨_, (), rfl, rfl, trivial⟩, hS.F ht⟩) hS.2.2 jd_ix1_6
