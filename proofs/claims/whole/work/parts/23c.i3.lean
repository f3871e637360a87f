/-! laid by wip/whole/i3.py: the text constants' instructions -/
/-- the texts, seen from where the objects of ours lie at z0 and on -/
def SPq (z0 : Nat) (C4 : String) (adK adV : Nat → Nat) (U : State) : Prop := va_AO C4 U ∧ (vk_S 2 sj_len sj_byt adK adV (fun a => z0 ≤ a) U U.heap ∧ va_Z "java/lang/String" "COMPACT_STRINGS" "Z" (.int 1) (fun a => z0 ≤ a) U U.heap ∧ va_Zq "jdk/internal/util/Preconditions" "SIOOBE_FORMATTER" "Ljava/util/function/BiFunction;" (fun a => z0 ≤ a) U U.heap) ∧ (∃ tx, vk_R "KneeStair$Tokens" 46 tx (adK 0) U) ∧ ∃ tx, vk_R "KneeStair$Tokens" 61 tx (adK 1) U
theorem SPq_ok {z : am_Z} {C4 : String} {adK adV : Nat → Nat} : am_SP z (SPq z.2.2.2 C4 adK adV) := by
  refine ⟨fun s U H locs h hS hU hW => ?_, fun a U g mk h => ?_⟩
  · obtain ⟨h1, ⟨h2, h3, h4⟩, ⟨t5, h5⟩, ⟨t6, h6⟩⟩ := h
    have hq : ∀ a : Nat, a < s.heap.size → ¬ z.2.2.2 ≤ a → U.heap[a]? = s.heap[a]? := fun a g1 g2 => by rw [hU]; exact hS.2.1 a g1 g2
    exact ⟨va_AO.moved hW.alike h1, ⟨(h2.kept hq).moved hW.alike, (h3.kept hq).moved hW.alike, (h4.kept hq).moved hW.alike⟩, ⟨t5, h5.warm hW⟩, ⟨t6, h6.warm hW⟩⟩
  · obtain ⟨h1, ⟨h2, h3, h4⟩, ⟨t5, h5⟩, ⟨t6, h6⟩⟩ := h
    exact ⟨va_AO.moved (u := U) (U := U.calling g mk a) (Vm.Alike.refl U.vm) h1, ⟨vk_S.moved (u := U) (U := U.calling g mk a) (Vm.Alike.refl U.vm) h2, va_Z.moved (u := U) (U := U.calling g mk a) (Vm.Alike.refl U.vm) h3, va_Zq.moved (u := U) (U := U.calling g mk a) (Vm.Alike.refl U.vm) h4⟩, ⟨t5, vk_R.same (u := U) (U := U.calling g mk a) rfl h5⟩, ⟨t6, vk_R.same (u := U) (U := U.calling g mk a) rfl h6⟩⟩
theorem SPq_J {z0 : Nat} {C4 : String} {adK adV : Nat → Nat} {s U : State} {H : Heap} {locs : List Loc} (h : SPq z0 C4 adK adV s) (hS : va_S (fun a => z0 ≤ a) s.heap H locs) (hU : U.heap = H) (hW : s.WarmedH U.vm) : SJ adK adV U U.heap := by
  obtain ⟨-, ⟨h2, h3, h4⟩, -⟩ := h
  have hq : ∀ a : Nat, a < s.heap.size → ¬ z0 ≤ a → U.heap[a]? = s.heap[a]? := fun a g1 g2 => by rw [hU]; exact hS.2.1 a g1 g2
  exact ⟨((h2.kept hq).moved hW.alike).narrow (fun _ z => z.elim), ((h3.kept hq).moved hW.alike).narrow (fun _ z => z.elim), ((h4.kept hq).moved hW.alike).narrow (fun _ z => z.elim)⟩
def i01 (i : Nat) : Nat := if i = 0 then 0 else 1
theorem i01_2 (i : Nat) : i01 i < 2 := by unfold i01; split <;> omega
theorem i01_tx (i : Nat) : am_tx (i01 i) = am_tx i := by
  unfold i01
  cases i with
  | zero => rfl
  | succ i => rfl
set_option maxHeartbeats 2000000 in
theorem am_str {l : Launch} {D : va_G} {z : am_Z} {C4 : String} {q : am_Q} {adK adV : Nat → Nat} {X : am_X} (hq : q.2.2 = fun i => adK (i01 i)) : am_StrS l D vwCl z C4 q am_T am_Ms (SPq z.2.2.2 C4 adK adV) X := by
  have hv : ∀ i, am_v q (.retAddr i) = .ref (adK (i01 i)) := fun i => by
    show Value.ref (q.2.2 i) = _
    rw [hq]
  intro p e R s m args below meth c Q cc nL ret ini own LK n0 s0 F hsp i pc len ins S S' hop hx hm hd hR k
  obtain ⟨op, os, c0⟩ := i
  obtain ⟨ls, st, h⟩ := S
  have hfr := F.2.2.2.2.2.2.2.2.2.2
  have hdn : ∀ {x : Int32} {H1 : Heap} {locs1 : List Loc} {lsC : Array Slot} {st1 : List Value} {pc1 : Nat}, am_Nx p l e R s m args below meth c Q nL D vwCl z q n0 s0 pc1 (ls, .int x :: st1, h) → am_lv q lsC nL ls → va_P D vwCl (am_ws z h) H1 → va_S (fun a => z.2.2.2 ≤ a) s.heap H1 locs1 → n0 ≤ h.1 → s0 ≤ h.2.1 → W p l e R s m args below meth c H1 locs1 (h.1 - n0 + 0) (h.2.1 - s0 + 0) Q (F0 m pc1 lsC (.int x :: st1.map (am_v q))) := fun k hl hP hS hn hs => k _ _ _ hl hP hS hn hs
  dsimp only at hop
  rcases hop with rfl | rfl | rfl | rfl
  · change ah_67 os c0 X (ls, st, h) = am_on S' at hx
    change at_67 LK ini ret z.2.1 am_Ms pc len ins os c0 = true at hm
    unfold ah_67 at hx
    split at hx
    · rename_i x i
      unfold at_67 at hm
      dsimp only at hm
      rw [Bool.and_eq_true, decide_eq_true_eq] at hm
      obtain ⟨⟨rfl, rfl⟩, hlk⟩ := hm
      have hx : am_on (ls, .retAddr i :: st, h) = am_on S' := hx
      cases hx
      obtain ⟨rfl, hxi⟩ := F.2.2.2.2.2.1 _ (am_ct hlk)
      intro H locs lsC hl hP hS hn hs
      have K := k H locs lsC hl hP hS hn hs
      dsimp only at K
      rw [List.map_cons, hv] at K
      rcases hxi with ⟨rfl, rfl⟩ | ⟨rfl, rfl⟩
      · obtain ⟨tx, hZ⟩ := hsp.2.2.1
        exact va_ldcS (tx := tx) F.1.1 F.1.2.1 F.1.2.2.2 hZ hd K
      · obtain ⟨tx, hZ⟩ := hsp.2.2.2
        exact va_ldcS (tx := tx) F.1.1 F.1.2.1 F.1.2.2.2 hZ hd K
    · cases hx
  · change ah_68 os c0 X (ls, st, h) = am_on S' at hx
    change at_68 LK ini ret z.2.1 am_Ms pc len ins os c0 = true at hm
    unfold ah_68 at hx
    split at hx
    · rename_i x
      unfold at_68 at hm
      dsimp only at hm
      rw [Bool.and_eq_true, decide_eq_true_eq] at hm
      obtain ⟨⟨rfl, rfl⟩, hlk⟩ := hm
      obtain ⟨rfl, rfl⟩ := F.2.2.2.2.2.1 _ (am_ct hlk)
      cases st with
      | nil => cases hx
      | cons y st1 =>
        cases y with
        | retAddr i =>
          have hx : (if decide (am_cat st1 ≤ 8) then am_on (ls, .int (nI (am_tx i).length) :: st1, h) else none) = am_on S' := hx
          split at hx
          · rename_i hcat
            have hcat := of_decide_eq_true hcat
            cases hx
            intro H locs lsC hl hP hS hn hs
            dsimp only
            rw [List.map_cons, hv]
            refine va_calli (va_runV (As := []) (rest := st1.map (am_v q)) (b := adK (i01 i)) (g := F0 m pc lsC (.ref (adK (i01 i)) :: st1.map (am_v q))) ⟨F.1.1, F.1.2.1, F.1.2.2.1, F.1.2.2.2, F.2.1⟩ (jm_len l adK adV (i01_2 i)) (cwV 0 F.2.1 jg_T_63 rfl rfl rfl ⟨rfl, by decide, by decide, by decide +kernel⟩ ⟨Nat.le_trans (Nat.le_of_ble_eq_true rfl) hfr.1, Nat.le_trans (Nat.le_of_ble_eq_true rfl) hfr.2⟩) ⟨SJ_b, vk_recv hsp.2.1.1 (i01_2 i) hS, fun U hU hW => ⟨rfl, SPq_J hsp hS hU hW⟩⟩ rfl rfl hl.2.1 rfl (lv_room (by rw [am_cat_map]; exact hcat)) hd hR) hS (fun q _ z => z.elim) (fun q z => z.elim) (fun r u t H1 locs1 ht hvm hw hB hz hk hS1 => ?_)
            subst hw
            rw [i01_tx]
            exact hdn k hl (va_P.kept hP (fun j x hx => hk x.1 (hP j x hx).lt (fun z => z))) hS1 hn hs
          · cases hx
        | _ => cases hx
    · cases hx
  · change ah_69 os c0 X (ls, st, h) = am_on S' at hx
    change at_69 LK ini ret z.2.1 am_Ms pc len ins os c0 = true at hm
    unfold ah_69 at hx
    split at hx
    · rename_i x
      unfold at_69 at hm
      dsimp only at hm
      rw [Bool.and_eq_true, decide_eq_true_eq] at hm
      obtain ⟨⟨rfl, rfl⟩, hlk⟩ := hm
      obtain ⟨rfl, rfl⟩ := F.2.2.2.2.2.1 _ (am_ct hlk)
      match st, hx with
      | [], hx => cases hx
      | [y], hx => cases y <;> cases hx
      | y :: y2 :: st1, hx =>
        cases y with
        | int ch =>
         cases y2 with
         | retAddr i =>
          have hx : (if decide (am_cat st1 ≤ 8) && am_in ch (am_tx i).length then am_on (ls, .int (nI ((am_tx i).getD ch.toNatClampNeg 0)) :: st1, h) else none) = am_on S' := hx
          split at hx
          · rename_i hcat
            rw [Bool.and_eq_true, decide_eq_true_eq] at hcat
            obtain ⟨hcat, hin⟩ := hcat
            have hin2 := am_in_of hin
            have hin3 : ¬ (ch < 0 ∨ (am_tx i).length ≤ ch.toNatClampNeg) := hin2
            obtain ⟨a9, ha9, rfl⟩ := nI_of (fun z => hin3 (Or.inl z))
            rw [nI_clamp ha9] at hin3
            have hlt : a9 < (am_tx (i01 i)).length := by rw [i01_tx]; omega
            rw [nI_clamp ha9] at hx
            cases hx
            intro H locs lsC hl hP hS hn hs
            dsimp only
            rw [List.map_cons, List.map_cons, hv, am_v_int]
            refine va_calli (va_runV (As := [.int (nI a9)]) (rest := st1.map (am_v q)) (b := adK (i01 i)) (g := F0 m pc lsC (.int (nI a9) :: .ref (adK (i01 i)) :: st1.map (am_v q))) ⟨F.1.1, F.1.2.1, F.1.2.2.1, F.1.2.2.2, F.2.1⟩ (jm_cha l adK adV (i01_2 i) hlt) (cwV 1 F.2.1 jg_T_71 rfl rfl rfl ⟨rfl, by decide, by decide, by decide +kernel⟩ ⟨Nat.le_trans (Nat.le_of_ble_eq_true rfl) hfr.1, Nat.le_trans (Nat.le_of_ble_eq_true rfl) hfr.2⟩) ⟨SJ_b, vk_recv hsp.2.1.1 (i01_2 i) hS, fun U hU hW => ⟨rfl, SPq_J hsp hS hU hW⟩⟩ rfl rfl hl.2.1 rfl (lv_room (by rw [am_cat_map]; exact hcat)) hd hR) hS (fun q _ z => z.elim) (fun q z => z.elim) (fun r u t H1 locs1 ht hvm hw hB hz hk hS1 => ?_)
            subst hw
            rw [i01_tx]
            exact hdn k hl (va_P.kept hP (fun j x hx => hk x.1 (hP j x hx).lt (fun z => z))) hS1 hn hs
          · cases hx
         | _ => cases hx
        | _ => cases hx
    · cases hx
  · change ah_70 os c0 X (ls, st, h) = am_on S' at hx
    change at_70 LK ini ret z.2.1 am_Ms pc len ins os c0 = true at hm
    unfold ah_70 at hx
    split at hx
    · rename_i x
      unfold at_70 at hm
      dsimp only at hm
      rw [Bool.and_eq_true, decide_eq_true_eq] at hm
      obtain ⟨⟨rfl, rfl⟩, hlk⟩ := hm
      obtain ⟨rfl, rfl⟩ := F.2.2.2.2.2.1 _ (am_ct hlk)
      match st, hx with
      | [], hx => cases hx
      | [y], hx => cases y <;> cases hx
      | y :: y2 :: st1, hx =>
        cases y with
        | int ch =>
         cases y2 with
         | retAddr i =>
          have hx : (if decide (am_cat st1 ≤ 8) then am_on (ls, .int (am_ix ch (am_tx i) 0) :: st1, h) else none) = am_on S' := hx
          split at hx
          · rename_i hcat
            have hcat := of_decide_eq_true hcat
            cases hx
            intro H locs lsC hl hP hS hn hs
            dsimp only
            rw [List.map_cons, List.map_cons, hv, am_v_int]
            refine va_calli (va_runV (As := [.int ch]) (rest := st1.map (am_v q)) (b := adK (i01 i)) (g := F0 m pc lsC (.int ch :: .ref (adK (i01 i)) :: st1.map (am_v q))) ⟨F.1.1, F.1.2.1, F.1.2.2.1, F.1.2.2.2, F.2.1⟩ (jm_ix1 l adK adV (ch := ch) (i01_2 i)) (cwV 1 F.2.1 jg_T_48 rfl rfl rfl ⟨rfl, by decide, by decide, by decide +kernel⟩ ⟨Nat.le_trans (Nat.le_of_ble_eq_true rfl) hfr.1, Nat.le_trans (Nat.le_of_ble_eq_true rfl) hfr.2⟩) ⟨SJ_b, vk_recv hsp.2.1.1 (i01_2 i) hS, fun U hU hW => ⟨rfl, SPq_J hsp hS hU hW⟩⟩ rfl rfl hl.2.1 rfl (lv_room (by rw [am_cat_map]; exact hcat)) hd hR) hS (fun q _ z => z.elim) (fun q z => z.elim) (fun r u t H1 locs1 ht hvm hw hB hz hk hS1 => ?_)
            subst hw
            rw [i01_tx]
            exact hdn k hl (va_P.kept hP (fun j x hx => hk x.1 (hP j x hx).lt (fun z => z))) hS1 hn hs
          · cases hx
         | _ => cases hx
        | _ => cases hx
    · cases hx
