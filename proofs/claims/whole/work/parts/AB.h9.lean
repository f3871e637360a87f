/-! laid by wip/whole/h9.py: the law from its beginning -/
theorem KDL_l : KDL.length = 128 := by decide +kernel
theorem RFL_l : RFL.length = 128 := by decide +kernel
theorem KD_o {a : Nat} (h : 428 ≤ a) : KD a = .inl 0 := by
  unfold KD
  rw [if_neg (by omega), if_neg (by omega), List.getD_eq_getElem?_getD, List.getElem?_eq_none (by rw [KDL_l]; omega)]
  rfl
theorem RF_o {a k : Nat} (h : 428 ≤ a) : RF a k = none := by
  unfold RF
  rw [if_neg (by omega), if_neg (by omega), if_neg (by omega), List.getD_eq_getElem?_getD, List.getD_eq_getElem?_getD, List.getElem?_eq_none (l := RFL) (by rw [RFL_l]; omega)]
  rfl
theorem RF_ck : ∀ a, a < 428 → ¬ (50 ≤ a ∧ a < 350) → a ≠ 49 → (RFL.getD (if a < 50 then a else a - 300) []).length ≤ bdR (KD a) := by decide +kernel
theorem RF_b {a k : Nat} (h : a < 428) (hk : bdR (KD a) ≤ k) : RF a k = none := by
  by_cases h1 : 50 ≤ a ∧ a < 350
  · unfold RF
    rw [if_pos h1]
    by_cases h2 : (a - 50) % 6 = 0
    · rw [if_pos h2]
      have hb : bdR (KD a) = 12 := by
        unfold KD
        rw [if_pos h1, if_pos h2]
        rfl
      rw [if_neg (by omega), if_neg (by omega)]
    · rw [if_neg h2]
  · by_cases h9 : a = 49
    · subst h9
      have hb : bdR (KD 49) = 50 := by decide
      unfold RF
      rw [if_neg (by omega), if_pos rfl, if_neg (by omega)]
    · have := RF_ck a h h1 h9
      unfold RF
      rw [if_neg h1, if_neg h9, List.getD_eq_getElem?_getD (l := RFL.getD _ _), List.getElem?_eq_none (by omega)]
      rfl
theorem hu_e0 : HU e0H := ⟨fun _ _ => rfl, fun _ _ _ => rfl, fun _ _ _ => rfl⟩
theorem hu_nw {c f : Nat} {h : am_H} (hu : HU h) : HU (nwH c f h) := hu_mk (sl := h.2.1) (w := h.2.2.2.2.2) hu
theorem hA_get : ∃ h, hA = some (none, h) ∧ h.1 = 388 ∧ HU h := by
  have h0 := hA_ok
  cases e : hA with
  | none => rw [e] at h0; cases h0
  | some y =>
    obtain ⟨r, h⟩ := y
    rw [e] at h0
    cases r with
    | some _ => cases h0
    | none => exact ⟨h, rfl, of_decide_eq_true h0, hu_call sl_Pc 9 400 _ _ _ _ _ e (hu_nw hu_e0)⟩
theorem hB_get {h1 : am_H} (e1 : hA = some (none, h1)) (u1 : HU h1) : ∃ v w, am_call am_Pq 9 400 M_Model_init [.ref 388] (nwH 9 61 h1) = some (none, (428, 26053, KD, RF, v, w)) ∧ LI 0 v w := by
  have h0 := hB_ok
  have eB : hB = am_call am_Pq 9 400 M_Model_init [.ref 388] (nwH 9 61 h1) := by unfold hB; rw [e1]
  rw [eB] at h0
  cases e : am_call am_Pq 9 400 M_Model_init [.ref 388] (nwH 9 61 h1) with
  | none => rw [e] at h0; cases h0
  | some y =>
    obtain ⟨r, h⟩ := y
    rw [e] at h0
    cases r with
    | some _ => cases h0
    | none =>
      have hu : HU h := hu_call sl_Pc 9 400 _ _ _ _ _ e (hu_nw u1)
      have h0 : chkF h = true := h0
      obtain ⟨n, sl, kd, r, v, w⟩ := h
      unfold chkF at h0
      simp only [Bool.and_eq_true, decide_eq_true_eq, List.all_eq_true, List.mem_range] at h0
      obtain ⟨c1, c2, c3, c4, c5, ⟨c6, c7⟩, c8, c9, c10⟩ := h0
      subst c1
      subst c2
      obtain ⟨u1, u2, u3⟩ := hu
      have ek : kd = KD := by
        funext a
        by_cases ha : a < 428
        · exact c3 a ha
        · rw [KD_o (by omega)]
          exact u1 a (show 428 ≤ a by omega)
      subst ek
      have er : r = RF := by
        funext a k
        by_cases ha : a < 428
        · by_cases hk : k < bdR (KD a)
          · exact c4 a ha k hk
          · rw [RF_b ha (by omega)]
            exact u2 a k (Or.inr (show bdR (KD a) ≤ k by omega))
        · rw [RF_o (by omega)]
          exact u2 a k (Or.inl (show 428 ≤ a by omega))
      subst er
      have cv : ∀ a k x, (a, k, x) ∈ vL0 → v a k = nI x := fun a k x hx => c5 (a, k, x) hx
      have z1 : v 1 = fun _ => 0 := by
        funext k
        by_cases hk : k < 2000
        · exact (c8 k hk).1
        · exact u3 1 k (Or.inr (show bdV (KD 1) ≤ k by rw [show bdV (KD 1) = 2000 from rfl]; omega))
      have z389 : v 389 = fun _ => 0 := by
        funext k
        by_cases hk : k < 2000
        · exact (c8 k hk).2
        · exact u3 389 k (Or.inr (show bdV (KD 389) ≤ k by rw [show bdV (KD 389) = 2000 from rfl]; omega))
      have z418 : v 418 = fun _ => 0 := by
        funext k
        by_cases hk : k < 50
        · exact c9 k hk
        · exact u3 418 k (Or.inr (show bdV (KD 418) ≤ k by rw [show bdV (KD 418) = 50 from rfl]; omega))
      have z419 : ∀ k, 50 ≤ k → v 419 k = 0 := fun k hk => u3 419 k (Or.inr (show bdV (KD 419) ≤ k by rw [show bdV (KD 419) = 50 from rfl]; omega))
      have e_25_0 : v 25 0 = nI 20 := cv 25 0 20 (by decide)
      have e_25_1 : v 25 1 = nI 0 := cv 25 1 0 (by decide)
      have e_25_2 : v 25 2 = nI 0 := cv 25 2 0 (by decide)
      have e_32_2 : v 32 2 = nI 3 := cv 32 2 3 (by decide)
      have e_33_0 : v 33 0 = nI 1 := cv 33 0 1 (by decide)
      have e_34_0 : v 34 0 = nI 0 := cv 34 0 0 (by decide)
      have e_33_1 : v 33 1 = nI 1 := cv 33 1 1 (by decide)
      have e_34_1 : v 34 1 = nI 1 := cv 34 1 1 (by decide)
      have e_33_2 : v 33 2 = nI 3 := cv 33 2 3 (by decide)
      have e_34_2 : v 34 2 = nI 0 := cv 34 2 0 (by decide)
      have e_37_2 : v 37 2 = nI 1 := cv 37 2 1 (by decide)
      have e_38_0 : v 38 0 = nI 1 := cv 38 0 1 (by decide)
      have e_39_0 : v 39 0 = nI 5 := cv 39 0 5 (by decide)
      have e_42_6 : v 42 6 = nI 0 := cv 42 6 0 (by decide)
      have e_42_7 : v 42 7 = nI 0 := cv 42 7 0 (by decide)
      have e_42_8 : v 42 8 = nI 0 := cv 42 8 0 (by decide)
      have e_42_9 : v 42 9 = nI 0 := cv 42 9 0 (by decide)
      have e_48_1 : v 48 1 = nI 0 := cv 48 1 0 (by decide)
      have e_48_2 : v 48 2 = nI 0 := cv 48 2 0 (by decide)
      have e_358_5 : v 358 5 = nI 0 := cv 358 5 0 (by decide)
      have e_369_0 : v 369 0 = nI 0 := cv 369 0 0 (by decide)
      have e_369_1 : v 369 1 = nI 0 := cv 369 1 0 (by decide)
      have e_369_2 : v 369 2 = nI 0 := cv 369 2 0 (by decide)
      have e_0_1 : v 0 1 = nI 0 := cv 0 1 0 (by decide)
      have e_388_18 : v 388 18 = nI 0 := cv 388 18 0 (by decide)
      have e_397_0 : v 397 0 = nI 20 := cv 397 0 20 (by decide)
      have e_405_0 : v 405 0 = nI 0 := cv 405 0 0 (by decide)
      have e_398_0 : v 398 0 = nI 0 := cv 398 0 0 (by decide)
      have e_406_0 : v 406 0 = nI 0 := cv 406 0 0 (by decide)
      have e_407_0 : v 407 0 = nI 0 := cv 407 0 0 (by decide)
      have e_406_1 : v 406 1 = nI 0 := cv 406 1 0 (by decide)
      have e_407_1 : v 407 1 = nI 0 := cv 407 1 0 (by decide)
      have e_388_51 : v 388 51 = nI 0 := cv 388 51 0 (by decide)
      have e_388_55 : v 388 55 = nI 0 := cv 388 55 0 (by decide)
      have e_426_0 : v 426 0 = nI 0 := cv 426 0 0 (by decide)
      have e_426_1 : v 426 1 = nI 0 := cv 426 1 0 (by decide)
      have e_426_2 : v 426 2 = nI 0 := cv 426 2 0 (by decide)
      have e_388_2 : v 388 2 = nI 0 := cv 388 2 0 (by decide)
      refine ⟨v, w, rfl, ?_⟩
      have hP : PDX v 0 D0 := ⟨e_397_0, e_405_0, e_398_0, by show 0 ≤ 8; omega, fun k _ _ p hp => absurd hp (Nat.not_lt_zero _)⟩
      have hTD : TD (mkT v 0 D0) D0 := mkT_TD hP
      have hGT : GT (mkT v 0 D0) := mk_GT hTD ⟨⟨by show 1 ≤ 20; omega, by show 20 ≤ 99; omega⟩, by show 0 ≤ 99; omega, by show 0 ≤ 8; omega, fun p hp => absurd hp (Nat.not_lt_zero _)⟩
      have hg := RG_bg hGT
      have hb0 : bgT (mkT v 0 D0) = fun _ => 0 := by
        funext j
        unfold bgT
        rw [show tN (mkT v 0 D0) = 0 from rfl]
        by_cases h8 : j < 8
        · rw [if_pos h8, if_neg (by omega)]
        · rw [if_neg h8]
          by_cases h16 : j < 16
          · rw [if_pos h16, if_neg (by omega)]
          · rw [if_neg h16]
            by_cases h32 : j < 32
            · rw [if_pos h32]
            · rw [if_neg h32]
              by_cases h40 : j < 40
              · rw [if_pos h40, if_neg (by omega)]
              · rw [if_neg h40]
                by_cases h4 : j = 40
                · rw [if_pos h4]; rfl
                · rw [if_neg h4]
      have w0 : LWO v 0 0 none := ⟨⟨e_406_0, e_407_0⟩, trivial⟩
      have w1 : LWO v 0 1 none := ⟨⟨e_406_1, e_407_1⟩, trivial⟩
      have hX : TXD v D0 := ⟨e_25_0, e_25_1, e_25_2, fun p hp => absurd hp (Nat.not_lt_zero _), ⟨e_32_2, fun j hj => by
        have hj : j < 3 := hj
        rcases (show j = 0 ∨ j = 1 ∨ j = 2 by omega) with rfl | rfl | rfl
        · exact ⟨e_33_0, e_34_0⟩
        · exact ⟨e_33_1, e_34_1⟩
        · exact ⟨e_33_2, e_34_2⟩⟩, ⟨e_37_2, fun j hj => by
        have hj : j < 1 := hj
        rcases (show j = 0 by omega) with rfl
        exact ⟨e_38_0, e_39_0⟩⟩⟩
      have s3 : ∀ s, s < 3 → v 369 s = 0 ∧ v 426 s = 0 := by
        intro s hs
        rcases (show s = 0 ∨ s = 1 ∨ s = 2 by omega) with rfl | rfl | rfl
        · exact ⟨e_369_0, e_426_0⟩
        · exact ⟨e_369_1, e_426_1⟩
        · exact ⟨e_369_2, e_426_2⟩
      refine ⟨mkT v 0 D0, bgT (mkT v 0 D0), 0, fun _ _ => 0, 0, fun _ => 0, fun _ => 0, fun _ => 0, fun _ => false, fun _ _ => 0, 0, fun _ => 0, -1, ⟨⟨mk_KX hX hTD (by show 0 ≤ 8; omega) (by show 3 ≤ 400; omega) (by show 1 ≤ 400; omega) trivial trivial, ⟨fun p hp => absurd hp (Nat.not_lt_zero _), by rw [hb0]; exact e_42_6, by rw [hb0]; exact e_42_7, by rw [hb0]; exact e_42_8, e_42_9⟩, hg.1, hGT, hg.2.1, by omega⟩, ⟨0, e_48_1, by omega, e_48_2, by omega, fun j hj => absurd hj (Nat.not_lt_zero _)⟩, ⟨e_358_5, by omega, fun j hj => absurd hj (Nat.not_lt_zero _)⟩, fun s hs => ⟨(s3 s hs).1, fun z => by cases z⟩, e_0_1, z1, c6⟩, ⟨0, none, none, ⟨mk_MX e_388_18 (by omega) hP w0 w1 hTD (fun p _ => ⟨rfl, rfl, rfl, rfl, rfl, rfl⟩), by rw [hb0, z418], fun j hj => by rw [hb0, z419 j hj], hg.1, hGT, hg.2.1, by omega⟩, ⟨e_388_51, by omega, fun j hj => absurd hj (Nat.not_lt_zero _)⟩, ⟨e_388_55, by omega, fun j hj => absurd hj (Nat.not_lt_zero _)⟩, fun s hs => ⟨(s3 s hs).2, fun z => by cases z⟩, e_388_2, z389, c7, w0, w1, fun k hk => c10 k hk⟩, ⟨hg, fun j hj => absurd hj (Nat.not_lt_zero _), (fun s _ z => by cases z), by omega, fun j => ⟨show -128 ≤ (0 : Int32).toInt by decide, show (0 : Int32).toInt ≤ 127 by decide⟩⟩⟩
set_option maxRecDepth 100000 in
theorem law_start {d : Nat} {X : am_X} {u : UInt32} {Q : Option Value → am_H → Prop} (hX : X.1 ≤ 3072) (hQ : ∀ v' w', Q (some (.int (nI 1))) (428, 26053, KD, RF, v', w')) : am_Go X (d + 29) k_law 0 ([.float u, .null, .null, .null], [], e0H) Q := by
  obtain ⟨h1, e1, hn, u1⟩ := hA_get
  obtain ⟨v, w, e2, hL⟩ := hB_get e1 u1
  refine go_step ?_
  show am_Ca (d + 29) M_KneeStair_init [.ref 0] (nwH 8 11 e0H) (fun r h' => am_Go X (d + 29) k_law 7 ([.float u, .null, .null, .null], am_st r [.ref 0], h') Q)
  refine ⟨400, none, h1, am_call_fuel 9 (d + 29) 400 400 _ _ _ _ (by omega) (Nat.le_refl _) (Pc_le 9 400 _ _ _ _ e1), ?_⟩
  obtain ⟨n, sl, kd, r, v1, w1⟩ := h1
  have hn : n = 388 := hn
  subst hn
  refine go_step ?_
  show am_Ca (d + 29) M_Model_init [.ref 388] (nwH 9 61 (388, sl, kd, r, v1, w1)) (fun r h' => am_Go X (d + 29) k_law 15 ([.float u, .ref 0, .null, .null], am_st r [.ref 388], h') Q)
  refine ⟨400, none, _, am_call_fuel 9 (d + 29) 400 400 _ _ _ _ (by omega) (Nat.le_refl _) (Pc_le 9 400 _ _ _ _ e2), ?_⟩
  refine go_step ?_
  show am_Go X (d + 29) k_law 18 ([.float u, .ref 0, .ref 388, .int (nI 0)], [], (428, 26053, KD, RF, v, w)) Q
  exact law_loop hX hL hQ
