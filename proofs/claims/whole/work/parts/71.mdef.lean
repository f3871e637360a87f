/-! the reference: its text and rows, in relational form -/
/-- the reference's text -/
def MX (v : Nat → Nat → Int32) (T : TXT) (lv : Nat) : Prop := TW v lv (tN T) ∧ v 397 lv = tT T ∧ v 405 lv = tO T ∧ (∀ p, p < 8 → tP T p = v 399 (8 * lv + p)) ∧ (∀ p, p < 8 → tK T p = v 400 (8 * lv + p)) ∧ (∀ p, p < 8 → tD T p = v 401 (8 * lv + p)) ∧ (∀ p, p < 8 → tS T p = v 402 (8 * lv + p)) ∧ (∀ p, p < 8 → tW T p = v 403 (8 * lv + p)) ∧ (∀ p, p < 8 → tL T p = v 404 (8 * lv + p)) ∧ lwW v lv 0 ∧ lwW v lv 1 ∧ (∀ x, tlS v lv 0 x (x 0 - x 1) (-9) (nI 9) = tM T x) ∧ ∀ x, tlS v lv 1 x (x 5) (-9999) (nI 9999) = tH T x
theorem sm_cg {x : Int32} {g h : Nat → Int32} : ∀ n, (∀ p, p < n → g p = h p) → smI x g n = smI x h n := by
  intro n
  induction n with
  | zero => intro _; rfl
  | succ n ih =>
    intro e
    show smI x g n + g n = smI x h n + h n
    rw [ih (fun p hp => e p (by omega)), e n (by omega)]
theorem vars_cg {n : Nat} {f : Nat → Int32} {no md a b c : Int32} {kn kn' db db' : Nat → Int32} (e1 : ∀ p, p < n → kn p = kn' p) (e2 : ∀ p, p < n → db p = db' p) : vars n f no md kn db a b c = vars n f no md kn' db' a b c := by
  funext k
  have h1 : smI 0 (knG f no kn) n = smI 0 (knG f no kn') n := sm_cg n (fun p hp => by unfold knG; rw [e1 p hp])
  have h2 : smI md (dbG f no db) n = smI md (dbG f no db') n := sm_cg n (fun p hp => by unfold dbG; rw [e2 p hp])
  unfold vars
  split <;> first | exact h1 | exact h2 | rfl
theorem minR_cg {n : Nat} {top by_ no : Int32} {kn kn' so so' f : Nat → Int32} (e1 : ∀ p, p < 8 → kn p = kn' p) (e2 : ∀ p, p < 8 → so p = so' p) : minR n top by_ no kn so f = minR n top by_ no kn' so' f := by
  have h1 : g1 top by_ kn f = g1 top by_ kn' f := by
    funext j
    unfold g1
    rw [e1 (j % 8) (Nat.mod_lt _ (by omega))]
  have h2 : ∀ g, g2 so g = g2 so' g := by
    intro g
    funext j
    unfold g2
    rw [e2 (j % 8) (Nat.mod_lt _ (by omega))]
  show minT (mix n (g2 so (mix n (g1 top by_ kn f) f no)) (mix n (g1 top by_ kn f) f no) no) by_ = minT (mix n (g2 so' (mix n (g1 top by_ kn' f) f no)) (mix n (g1 top by_ kn' f) f no) no) by_
  rw [h1, h2]
/-- nothing of the reference has changed but its row, and what laws are reckoned with -/
def MF (v v' : Nat → Nat → Int32) : Prop := (∀ c, c ≠ 416 → c ≠ 417 → c ≠ 419 → c ≠ 388 → v' c = v c) ∧ (∀ k, k ≠ 46 → k ≠ 49 → k ≠ 50 → v' 388 k = v 388 k) ∧ ∀ j, 50 ≤ j → v' 419 j = v 419 j
def MR (v : Nat → Nat → Int32) (f : Nat → Int32) (no md : Int32) : Prop := v 419 = f ∧ v 388 49 = no ∧ v 388 50 = md
theorem MF_r {v : Nat → Nat → Int32} : MF v v := ⟨fun _ _ _ _ _ => rfl, fun _ _ _ _ => rfl, fun _ _ => rfl⟩
theorem MF_t {v v' v'' : Nat → Nat → Int32} (h : MF v v') (h' : MF v' v'') : MF v v'' := ⟨fun c a1 a2 a3 a4 => (h'.1 c a1 a2 a3 a4).trans (h.1 c a1 a2 a3 a4), fun k a1 a2 a3 => (h'.2.1 k a1 a2 a3).trans (h.2.1 k a1 a2 a3), fun j hj => (h'.2.2 j hj).trans (h.2.2 j hj)⟩
theorem MX_w {v v' : Nat → Nat → Int32} {T : TXT} {lv : Nat} (h : MX v T lv) (e : ∀ c, 397 ≤ c → c ≤ 414 → v' c = v c) (e2 : v' 388 18 = v 388 18) : MX v' T lv := by
  unfold MX TW lwW bnW tlS at *
  rw [e 397 (by omega) (by omega), e 398 (by omega) (by omega), e 399 (by omega) (by omega), e 400 (by omega) (by omega), e 401 (by omega) (by omega), e 402 (by omega) (by omega), e 403 (by omega) (by omega), e 404 (by omega) (by omega), e 405 (by omega) (by omega), e 406 (by omega) (by omega), e 407 (by omega) (by omega), e 408 (by omega) (by omega), e 409 (by omega) (by omega), e 410 (by omega) (by omega), e 411 (by omega) (by omega), e 412 (by omega) (by omega), e 413 (by omega) (by omega), e 414 (by omega) (by omega), e2]
  exact h
theorem MX_f {v v' : Nat → Nat → Int32} {T : TXT} {lv : Nat} (h : MX v T lv) (e : MF v v') : MX v' T lv := MX_w h (fun c _ _ => e.1 c (by omega) (by omega) (by omega) (by omega)) (e.2.1 18 (by omega) (by omega) (by omega))
theorem MF_mS {v : Nat → Nat → Int32} {f x g : Nat → Int32} {b : Int32} (h : ∀ j, 50 ≤ j → f j = v 419 j) : MF v (mS v f x g b) := ⟨fun c a1 a2 a3 a4 => mS_o a3 a1 a2 a4, fun k a1 _ _ => mS_388 a1, fun j hj => by rw [mS_419]; exact h j hj⟩
theorem MR_mS {v : Nat → Nat → Int32} {f f' x g : Nat → Int32} {b no md : Int32} (h : MR v f no md) : MR (mS v f' x g b) f' no md := ⟨mS_419, by rw [mS_388 (by omega)]; exact h.2.1, by rw [mS_388 (by omega)]; exact h.2.2⟩
theorem mvS_eq {v : Nat → Nat → Int32} {T : TXT} {lv : Nat} {f : Nat → Int32} (h : MX v T lv) : mvS v lv (tN T) f = mvT T (v 388 49) (v 388 50) f := by
  obtain ⟨htw, _, _, _, hk, hd, _, _, _, _, _, h0, _⟩ := h
  have h8 := htw.2.2.2
  unfold mvS mvT vrT
  rw [vars_cg (kn := tK T) (kn' := fun p => v 400 (8 * lv + p)) (db := tD T) (db' := fun p => v 401 (8 * lv + p)) (fun p hp => hk p (by omega)) (fun p hp => hd p (by omega))]
  exact h0 (vars (tN T) f (v 388 49) (v 388 50) (fun p => v 400 (8 * lv + p)) (fun p => v 401 (8 * lv + p)) 0 0 0)
theorem hsS_eq {v : Nat → Nat → Int32} {T : TXT} {lv p : Nat} {f : Nat → Int32} (h : MX v T lv) : hsS v lv (tN T) f p = hsT T (v 388 49) (v 388 50) f p := by
  obtain ⟨htw, _, _, _, hk, hd, _, _, _, _, _, _, h1⟩ := h
  have h8 := htw.2.2.2
  unfold hsS hsT vrT
  rw [vars_cg (kn := tK T) (kn' := fun p => v 400 (8 * lv + p)) (db := tD T) (db' := fun p => v 401 (8 * lv + p)) (fun p hp => hk p (by omega)) (fun p hp => hd p (by omega))]
  exact h1 (vars (tN T) f (v 388 49) (v 388 50) (fun p => v 400 (8 * lv + p)) (fun p => v 401 (8 * lv + p)) (f p) (f (16 + p)) (f (24 + p)))
section
variable {v : Nat → Nat → Int32} {w : Nat → Nat → Int64} {Q : Option Value → am_H → Prop} {T : TXT} {lv : Nat} {g : Nat → Int32} {no md : Int32}
theorem r_min {d : Nat} (hX : MX v T lv) (hr : MR v g no md) (hQ : ∀ v', MF v v' → MR v' (mnT T no md g) no md → Q none (428, 26053, KD, RF, v', w)) : am_Ca (d + 5) M_Model_minuteGoes [.ref 388] (428, 26053, KD, RF, v, w) Q := by
  have := m_minuteGoes (d := d) (v := v) (f := v 419) (x := v 416) (g := v 417) (b := v 388 46) (w := w) (Q := Q) hX.1 hX.2.2.2.2.2.2.2.2.2.1 (fun x' g' b' => by
    have e : minR (tN T) (v 397 lv) (mvS v lv (tN T) (v 419)) (v 388 49) (fun p => v 400 (8 * lv + p)) (fun p => v 402 (8 * lv + p)) (v 419) = mnT T no md g := by
      rw [mvS_eq hX, hr.2.1, hr.2.2, hr.1, hX.2.1]
      exact minR_cg (fun p hp => (hX.2.2.2.2.1 p hp).symm) (fun p hp => (hX.2.2.2.2.2.2.1 p hp).symm)
    rw [e]
    exact hQ _ (MF_mS (fun j hj => by rw [← e, minR_ge (by omega)])) (MR_mS hr))
  rw [mS_self] at this
  exact this
theorem r_moves {d : Nat} (hX : MX v T lv) (hr : MR v g no md) (hQ : ∀ v', MF v v' → MR v' g no md → Q (some (.int (mvT T no md g))) (428, 26053, KD, RF, v', w)) : am_Ca (d + 4) M_Model_movesNow [.ref 388] (428, 26053, KD, RF, v, w) Q := by
  have := m_movesNow (d := d) (v := v) (f := v 419) (x := v 416) (g := v 417) (b := v 388 46) (w := w) (Q := Q) hX.1 hX.2.2.2.2.2.2.2.2.2.1 (fun x' g' b' => by
    rw [mvS_eq hX, hr.2.1, hr.2.2, hr.1]
    exact hQ _ (MF_mS (fun j hj => by rw [hr.1])) (MR_mS hr))
  rw [mS_self] at this
  exact this
theorem r_has {d p : Nat} (hp : p < 8) (hX : MX v T lv) (hr : MR v g no md) (hQ : ∀ v', MF v v' → MR v' g no md → Q (some (.int (hsT T no md g p))) (428, 26053, KD, RF, v', w)) : am_Ca (d + 4) M_Model_hasOf [.ref 388, .int (nI p)] (428, 26053, KD, RF, v, w) Q := by
  have := m_hasOf (d := d) hp (v := v) (f := v 419) (x := v 416) (g := v 417) (b := v 388 46) (w := w) (Q := Q) hX.1 hX.2.2.2.2.2.2.2.2.2.2.1 (fun x' g' b' => by
    rw [hsS_eq hX, hr.2.1, hr.2.2, hr.1]
    exact hQ _ (MF_mS (fun j hj => by rw [hr.1])) (MR_mS hr))
  rw [mS_self] at this
  exact this
theorem r_isOn {d p : Nat} (hp : p < 8) (hr : MR v g no md) (hQ : Q (some (.int (bI (onB g no p)))) (428, 26053, KD, RF, v, w)) : am_Ca (d + 1) M_Model_isOn [.ref 388, .int (nI p)] (428, 26053, KD, RF, v, w) Q := by
  have := m_isOn (d := d) hp (v := v) (f := v 419) (x := v 416) (g := v 417) (b := v 388 46) (w := w) (Q := Q) (by rw [mS_self, hr.1, hr.2.1]; exact hQ)
  rw [mS_self] at this
  exact this
theorem r_onAll {d : Nat} (hX : MX v T lv) (hr : MR v g no md) (hQ : Q (some (.int (nI (cnt (onB g no) (tN T))))) (428, 26053, KD, RF, v, w)) : am_Ca (d + 2) M_Model_onAll [.ref 388] (428, 26053, KD, RF, v, w) Q := by
  have := m_onAll (d := d) (v := v) (f := v 419) (x := v 416) (g := v 417) (b := v 388 46) (w := w) (Q := Q) hX.1 (by rw [mS_self, hr.1, hr.2.1]; exact hQ)
  rw [mS_self] at this
  exact this
theorem r_may {d p : Nat} (hp : p < 8) (hX : MX v T lv) (hr : MR v g no md) (hQ : Q (some (.int (bI (mayB g no (tS T) p)))) (428, 26053, KD, RF, v, w)) : am_Ca (d + 2) M_Model_mayKneel [.ref 388, .int (nI p)] (428, 26053, KD, RF, v, w) Q := by
  have := m_mayKneel (d := d) hp (v := v) (f := v 419) (x := v 416) (g := v 417) (b := v 388 46) (w := w) (Q := Q) hX.1 (by rw [mS_self, hr.1, hr.2.1, show mayB g no (fun p => v 402 (8 * lv + p)) p = mayB g no (tS T) p by unfold mayB; rw [hX.2.2.2.2.2.2.1 p hp]]; exact hQ)
  rw [mS_self] at this
  exact this
end
