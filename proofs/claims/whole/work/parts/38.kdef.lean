/-! what a text tells, by itself; a minute of a row by it -/
def TXT : Type := Nat × Int32 × (Nat → Int32) × (Nat → Int32) × (Nat → Int32) × (Nat → Int32) × ((Nat → Int32) → Int32) × ((Nat → Int32) → Int32) × Int32 × (Nat → Int32) × (Nat → Int32)
def tN (T : TXT) : Nat := T.1
def tT (T : TXT) : Int32 := T.2.1
def tK (T : TXT) : Nat → Int32 := T.2.2.1
def tD (T : TXT) : Nat → Int32 := T.2.2.2.1
def tS (T : TXT) : Nat → Int32 := T.2.2.2.2.1
def tW (T : TXT) : Nat → Int32 := T.2.2.2.2.2.1
def tM (T : TXT) : (Nat → Int32) → Int32 := T.2.2.2.2.2.2.1
def tH (T : TXT) : (Nat → Int32) → Int32 := T.2.2.2.2.2.2.2.1
def tO (T : TXT) : Int32 := T.2.2.2.2.2.2.2.2.1
def tP (T : TXT) : Nat → Int32 := T.2.2.2.2.2.2.2.2.2.1
def tL (T : TXT) : Nat → Int32 := T.2.2.2.2.2.2.2.2.2.2
def vrT (T : TXT) (no md : Int32) (f : Nat → Int32) (a b c : Int32) : Nat → Int32 := vars (tN T) f no md (tK T) (tD T) a b c
def mvT (T : TXT) (no md : Int32) (f : Nat → Int32) : Int32 := tM T (vrT T no md f 0 0 0)
def hsT (T : TXT) (no md : Int32) (f : Nat → Int32) (p : Nat) : Int32 := tH T (vrT T no md f (f p) (f (16 + p)) (f (24 + p)))
def mnT (T : TXT) (no md : Int32) (f : Nat → Int32) : Nat → Int32 := minR (tN T) (tT T) (mvT T no md f) no (tK T) (tS T) f
/-- a row is in order -/
def GR (B : Int) (n : Nat) (f : Nat → Int32) : Prop := (∀ p, p < n → (f (8 + p) = 0 ∨ f (8 + p) = 1) ∧ 0 ≤ (f (16 + p)).toInt ∧ (f (16 + p)).toInt ≤ (f 41).toInt ∧ (f (32 + p) = -1 ∨ 0 ≤ (f (32 + p)).toInt) ∧ 0 ≤ (f p).toInt ∧ 0 ≤ (f (24 + p)).toInt ∧ (f (24 + p)).toInt ≤ 36 * (f 41).toInt) ∧ 0 ≤ (f 40).toInt ∧ 0 ≤ (f 41).toInt ∧ (f 41).toInt ≤ B
/-- a text is in order -/
def GT (T : TXT) : Prop := tN T ≤ 8 ∧ (1 ≤ (tT T).toInt ∧ (tT T).toInt ≤ 99) ∧ (0 ≤ (tO T).toInt ∧ (tO T).toInt ≤ 99) ∧ (∀ p, p < tN T → (0 ≤ (tP T p).toInt ∧ (tP T p).toInt ≤ 99) ∧ (0 ≤ (tK T p).toInt ∧ (tK T p).toInt ≤ 4) ∧ (0 ≤ (tD T p).toInt ∧ (tD T p).toInt ≤ 9) ∧ (1 ≤ (tS T p).toInt ∧ (tS T p).toInt ≤ 99) ∧ (0 ≤ (tW T p).toInt ∧ (tW T p).toInt ≤ 99) ∧ (tL T p = 0 ∨ tL T p = 1)) ∧ ∀ x, -9 ≤ (tM T x).toInt ∧ (tM T x).toInt ≤ 9
/-- the class's text -/
def KX (v : Nat → Nat → Int32) (T : TXT) : Prop := tN T ≤ 8 ∧ v 25 2 = nI (tN T) ∧ v 25 0 = tT T ∧ v 25 1 = tO T ∧ (∀ p, p < tN T → v 26 p = tP T p ∧ v 27 p = tK T p ∧ v 28 p = tD T p ∧ v 29 p = tS T p ∧ v 30 p = tW T p ∧ v 31 p = tL T p) ∧ (∃ k, v 32 2 = nI k ∧ cW (v 33) (v 34) k ∧ ∀ x, clS (-9) (nI 9) (ctS v 32 k x) = tM T x) ∧ (∃ k, v 37 2 = nI k ∧ cW (v 38) (v 39) k ∧ ∀ x, clS (-9999) (nI 9999) (ctS v 37 k x) = tH T x)
/-- one pilgrim of a stair of the class, by a row -/
def PX (v : Nat → Nat → Int32) (a : Nat) (no : Int32) (f : Nat → Int32) (p : Nat) : Prop := (nI p ≠ no → v (a + 1) p = f p ∧ v (a + 2) p = f (8 + p) ∧ v (a + 3) p = f (16 + p) ∧ v (a + 4) p = f (24 + p) ∧ v (a + 5) p = (if f (32 + p) = -1 then -2 else f (32 + p))) ∧ (nI p = no → v (a + 5) p ≠ -2)
/-- a stair of the class, by a row -/
def RX (v : Nat → Nat → Int32) (a n : Nat) (no md : Int32) (f : Nat → Int32) : Prop := (∀ p, p < n → PX v a no f p) ∧ v a 6 = f 40 ∧ v a 7 = f 41 ∧ v a 8 = f 42 ∧ v a 9 = md
/-- a stair alone has changed -/
def FS (v v' : Nat → Nat → Int32) (a : Nat) : Prop := ∀ c, (c < a ∨ a + 5 < c) → c ≠ 35 → c ≠ 36 → c ≠ 40 → c ≠ 41 → v' c = v c
theorem st_lo {a : Nat} (h : ST a) : 42 ≤ a ∧ a ≤ 382 := by
  rcases h with rfl | rfl | rfl | rfl | rfl | rfl | ⟨i, hi, rfl⟩ <;> omega
theorem KX_w {v v' : Nat → Nat → Int32} {T : TXT} (h : KX v T) (e : ∀ c, 25 ≤ c → c ≤ 39 → c ≠ 35 → c ≠ 36 → v' c = v c) : KX v' T := by
  unfold KX ctS at *
  rw [e 25 (by omega) (by omega) (by omega) (by omega), e 26 (by omega) (by omega) (by omega) (by omega), e 27 (by omega) (by omega) (by omega) (by omega), e 28 (by omega) (by omega) (by omega) (by omega), e 29 (by omega) (by omega) (by omega) (by omega), e 30 (by omega) (by omega) (by omega) (by omega), e 31 (by omega) (by omega) (by omega) (by omega), e 32 (by omega) (by omega) (by omega) (by omega), e 33 (by omega) (by omega) (by omega) (by omega), e 34 (by omega) (by omega) (by omega) (by omega), e 37 (by omega) (by omega) (by omega) (by omega), e 38 (by omega) (by omega) (by omega) (by omega), e 39 (by omega) (by omega) (by omega) (by omega)]
  exact h
theorem KX_s {v v' : Nat → Nat → Int32} {T : TXT} {a : Nat} (h : KX v T) (ha : 42 ≤ a) (e : FS v v' a) : KX v' T := KX_w h (fun c _ _ h3 h4 => e c (by omega) h3 h4 (by omega) (by omega))
theorem FS_r {v : Nat → Nat → Int32} {a : Nat} : FS v v a := fun _ _ _ _ _ _ => rfl
theorem FS_t {v v' v'' : Nat → Nat → Int32} {a : Nat} (h : FS v v' a) (h' : FS v' v'' a) : FS v v'' a := fun c h1 h2 h3 h4 h5 => (h' c h1 h2 h3 h4 h5).trans (h c h1 h2 h3 h4 h5)
theorem PX_w {v v' : Nat → Nat → Int32} {a p : Nat} {no : Int32} {f : Nat → Int32} (h : PX v a no f p) (e : ∀ k, 1 ≤ k → k ≤ 5 → v' (a + k) p = v (a + k) p) : PX v' a no f p := by
  unfold PX at *
  rw [e 1 (by omega) (by omega), e 2 (by omega) (by omega), e 3 (by omega) (by omega), e 4 (by omega) (by omega), e 5 (by omega) (by omega)]
  exact h
theorem RX_w {v v' : Nat → Nat → Int32} {a n : Nat} {no md : Int32} {f : Nat → Int32} (h : RX v a n no md f) (e : ∀ c, a ≤ c → c ≤ a + 5 → v' c = v c) : RX v' a n no md f := by
  refine ⟨fun p hp => PX_w (h.1 p hp) (fun k h1 h2 => by rw [e (a + k) (by omega) (by omega)]), ?_⟩
  rw [e a (by omega) (by omega)]
  exact h.2
theorem PX_on {v : Nat → Nat → Int32} {a n p : Nat} {no : Int32} {B : Int} {f : Nat → Int32} (h : PX v a no f p) (g : GR B n f) (hp : p < n) : decide (v (a + 5) p = -2) = onB f no p := by
  unfold onB
  by_cases hn : nI p = no
  · have := h.2 hn
    simp [hn, this]
  · obtain ⟨_, _, _, _, h5⟩ := h.1 hn
    rw [h5]
    rcases (g.1 p hp).2.2.2.1 with h1 | h1
    · simp [h1, hn]
    · have h2 : f (32 + p) ≠ -1 := by intro z; rw [z] at h1; exact absurd h1 (by decide)
      have h3 : f (32 + p) ≠ -2 := by intro z; rw [z] at h1; exact absurd h1 (by decide)
      simp [h2, h3]
theorem onB_no {f : Nat → Int32} {no : Int32} {p : Nat} (h : onB f no p = true) : nI p ≠ no ∧ f (32 + p) = -1 := by
  unfold onB at h
  simp at h
  exact ⟨h.2, h.1⟩
theorem vsS_cong {x y : Nat → Int32} (e : ∀ k, k < 8 → x k = y k) (z : Int32) : vsS x z = vsS y z := by
  unfold vsS
  split
  · rfl
  · split
    · rfl
    · rename_i h1 h2
      obtain ⟨j, hj, rfl⟩ := nI_of h1
      have hj8 : j < 8 := by have := mt (nI_le (a := 8) (b := j) · hj) h2; omega
      rw [nI_clamp (by omega), e j hj8]
theorem ctE_cong {cd vl x y : Nat → Int32} {len : Nat} (e : ∀ k, k < 8 → x k = y k) : ∀ (k a : Nat) (st : List Int32), ctE cd vl x len k a st = ctE cd vl y len k a st := by
  intro k
  induction k with
  | zero => intro a st; rfl
  | succ k ih =>
    intro a st
    unfold ctE
    rw [vsS_cong e, ih, ih]
    match st with
    | [] => rfl
    | [_] => rfl
    | r :: l :: st' => simp only [ih]
def hdS (m y : Int32) : Int32 := if -m < (if y < m then y else m) then (if y < m then y else m) else -m
theorem hd_eq {m y : Int32} (hm : 0 ≤ m.toInt) (h2 : (-m).toInt = -m.toInt) : hdS m y = clS (-m) m y := by
  unfold hdS clS
  simp only [Int32.lt_iff_toInt_lt]
  repeat' split
  all_goals first
    | rfl
    | omega
    | (apply Int32.toInt_inj.mp; omega)
theorem hd_9 {y : Int32} : hdS (nI 9) y = clS (-9) (nI 9) y := hd_eq (by decide) (by decide)
theorem hd_9999 {y : Int32} : hdS (nI 9999) y = clS (-9999) (nI 9999) y := hd_eq (by decide) (by decide)
/-! what a minute makes of one pilgrim -/
section
variable {n p : Nat} {top by_ no : Int32} {kn so f : Nat → Int32}
theorem minR_off (hp : p < 8) (ho : onB f no p = false) {j : Nat} (hj : j < 40) (hm : j % 8 = p) : minR n top by_ no kn so f j = f j := by
  have h1 : mix n (g1 top by_ kn f) f no j = f j := by
    unfold mix
    rw [hm, ho]
    simp
  unfold minR minT
  rw [if_neg (by omega), if_neg (by omega), if_neg (by omega)]
  have h2 : mix n (g1 top by_ kn f) f no (32 + p) = f (32 + p) := by
    unfold mix
    rw [show (32 + p) % 8 = p by omega, ho]
    simp
  have h3 : onB (mix n (g1 top by_ kn f) f no) no p = false := by
    unfold onB at *
    rw [h2]
    exact ho
  unfold mix at *
  rw [hm]
  rw [hm] at h1
  rw [if_neg (by rw [h3]; simp)]
  exact h1
theorem mix_on (hn : p < n) (hp : p < 8) (ho : onB f no p = true) {g : Nat → Int32} {j : Nat} (hj : j < 40) (hm : j % 8 = p) : mix n g f no j = g j := by
  unfold mix
  rw [hm, ho]
  simp [hj, hn]
theorem mix_no (ho : onB f no p = false) {g : Nat → Int32} {j : Nat} (hm : j % 8 = p) : mix n g f no j = f j := by
  unfold mix
  rw [hm, ho]
  simp
theorem minR_lt {j : Nat} (hj : j < 40) : minR n top by_ no kn so f j = mix n (g2 so (mix n (g1 top by_ kn f) f no)) (mix n (g1 top by_ kn f) f no) no j := by
  unfold minR minT
  rw [if_neg (by omega), if_neg (by omega), if_neg (by omega)]
/-- one who does not come to the top -/
theorem minR_stay (hn : p < n) (hp : p < 8) (ho : onB f no p = true) (hs : spS by_ (f p) < top) : minR n top by_ no kn so f p = spS by_ (f p) ∧ minR n top by_ no kn so f (8 + p) = (if f (8 + p) = 0 then f (8 + p) else if f (16 + p) + 1 < so p then f (8 + p) else 0) ∧ minR n top by_ no kn so f (16 + p) = (if f (8 + p) = 0 then (if 0 < f (16 + p) then f (16 + p) - 1 else f (16 + p)) else f (16 + p) + 1) ∧ minR n top by_ no kn so f (24 + p) = (if f (8 + p) = 1 ∧ 0 < by_ then f (24 + p) + kn p * by_ else f (24 + p)) ∧ minR n top by_ no kn so f (32 + p) = f (32 + p) := by
  have e0 : mix n (g1 top by_ kn f) f no p = spS by_ (f p) := by rw [mix_on hn hp ho (by omega) (by omega), g1_0 hp, if_pos hs]
  have e1 : mix n (g1 top by_ kn f) f no (8 + p) = f (8 + p) := by rw [mix_on hn hp ho (by omega) (by omega), g1_1 hp, if_pos hs]
  have e2 : mix n (g1 top by_ kn f) f no (16 + p) = f (16 + p) := by rw [mix_on hn hp ho (by omega) (by omega), g1_2 hp]
  have e3 : mix n (g1 top by_ kn f) f no (24 + p) = (if f (8 + p) = 1 ∧ 0 < by_ then f (24 + p) + kn p * by_ else f (24 + p)) := by rw [mix_on hn hp ho (by omega) (by omega), g1_3 hp]
  have e4 : mix n (g1 top by_ kn f) f no (32 + p) = f (32 + p) := by rw [mix_on hn hp ho (by omega) (by omega), g1_4 hp, if_pos hs]
  have o2 : onB (mix n (g1 top by_ kn f) f no) no p = true := by
    unfold onB at *
    rw [e4]
    exact ho
  refine ⟨?_, ?_, ?_, ?_, ?_⟩
  · rw [minR_lt (by omega), mix_on hn hp o2 (by omega) (by omega), g2_0 hp, e0]
  · rw [minR_lt (by omega), mix_on hn hp o2 (by omega) (by omega), g2_1 hp, e1, e2]
  · rw [minR_lt (by omega), mix_on hn hp o2 (by omega) (by omega), g2_2 hp, e1, e2]
  · rw [minR_lt (by omega), mix_on hn hp o2 (by omega) (by omega), g2_3 hp, e3]
  · rw [minR_lt (by omega), mix_on hn hp o2 (by omega) (by omega), g2_4 hp, e4]
/-- one who comes to the top -/
theorem minR_top (hn : p < n) (hp : p < 8) (ho : onB f no p = true) (hs : ¬ spS by_ (f p) < top) (hm : f 41 ≠ -1) : minR n top by_ no kn so f p = top ∧ minR n top by_ no kn so f (8 + p) = 0 ∧ minR n top by_ no kn so f (16 + p) = f (16 + p) ∧ minR n top by_ no kn so f (24 + p) = (if f (8 + p) = 1 ∧ 0 < by_ then f (24 + p) + kn p * by_ else f (24 + p)) ∧ minR n top by_ no kn so f (32 + p) = f 41 := by
  have e4 : mix n (g1 top by_ kn f) f no (32 + p) = f 41 := by rw [mix_on hn hp ho (by omega) (by omega), g1_4 hp, if_neg hs]
  have o2 : onB (mix n (g1 top by_ kn f) f no) no p = false := by
    unfold onB
    rw [e4]
    simp [hm]
  refine ⟨?_, ?_, ?_, ?_, ?_⟩
  · rw [minR_lt (by omega), mix_no o2 (by omega), mix_on hn hp ho (by omega) (by omega), g1_0 hp, if_neg hs]
  · rw [minR_lt (by omega), mix_no o2 (by omega), mix_on hn hp ho (by omega) (by omega), g1_1 hp, if_neg hs]
  · rw [minR_lt (by omega), mix_no o2 (by omega), mix_on hn hp ho (by omega) (by omega), g1_2 hp]
  · rw [minR_lt (by omega), mix_no o2 (by omega), mix_on hn hp ho (by omega) (by omega), g1_3 hp]
  · rw [minR_lt (by omega), mix_no o2 (by omega), e4]
theorem minR_40 : minR n top by_ no kn so f 40 = if 0 < f 40 then f 40 - 1 else f 40 := by
  unfold minR minT
  simp [mix]
theorem minR_41 : minR n top by_ no kn so f 41 = f 41 + 1 := by
  unfold minR minT
  simp [mix]
theorem minR_42 : minR n top by_ no kn so f 42 = f 42 + by_ := by
  unfold minR minT
  simp [mix]
theorem minR_ge {j : Nat} (h : 43 ≤ j) : minR n top by_ no kn so f j = f j := by
  unfold minR minT
  rw [if_neg (by omega), if_neg (by omega), if_neg (by omega), mix_ge (by omega), mix_ge (by omega)]
end
theorem toI_a1 {x : Int32} (h : x.toInt + 1 < 2 ^ 31) : (x + 1).toInt = x.toInt + 1 := by
  have := Int32.le_toInt x
  rw [Int32.toInt_add, show (1 : Int32).toInt = 1 from rfl, Int.bmod_eq_of_le (by omega) (by omega)]
theorem toI_s1 {x : Int32} (h : 0 < x.toInt) : (x - 1).toInt = x.toInt - 1 := by
  have := Int32.toInt_lt x
  rw [Int32.toInt_sub, show (1 : Int32).toInt = 1 from rfl, Int.bmod_eq_of_le (by omega) (by omega)]
theorem toI_kb {x y z : Int32} (hx : 0 ≤ x.toInt) (hx2 : x.toInt + 36 < 2 ^ 31) (hy : 0 ≤ y.toInt ∧ y.toInt ≤ 4) (hz : 0 ≤ z.toInt ∧ z.toInt ≤ 9) : 0 ≤ (x + y * z).toInt ∧ (x + y * z).toInt ≤ x.toInt + 36 := by
  have h1 : 0 ≤ y.toInt * z.toInt := Int.mul_nonneg hy.1 hz.1
  have h2 : y.toInt * z.toInt ≤ 4 * 9 := Int.mul_le_mul hy.2 hz.2 hz.1 (by decide)
  have h3 : (y * z).toInt = y.toInt * z.toInt := by rw [Int32.toInt_mul, Int.bmod_eq_of_le (by omega) (by omega)]
  rw [Int32.toInt_add, h3, Int.bmod_eq_of_le (by omega) (by omega)]
  omega
theorem GR_min {B : Int} {n : Nat} {top by_ no : Int32} {kn so f : Nat → Int32} (hn : n ≤ 8) (ht : 0 ≤ top.toInt) (hkn : ∀ p, p < n → 0 ≤ (kn p).toInt ∧ (kn p).toInt ≤ 4) (hby : by_.toInt ≤ 9) (g : GR B n f) (hB : 36 * (B + 1) < 2 ^ 31) : GR (B + 1) n (minR n top by_ no kn so f) := by
  obtain ⟨g0, g1, g2, g3⟩ := g
  have m41 : (f 41 + 1).toInt = (f 41).toInt + 1 := toI_a1 (by omega)
  have h41 : f 41 ≠ -1 := by intro z; rw [z] at g2; exact absurd g2 (by decide)
  have z0 : (0 : Int32).toInt = 0 := rfl
  refine ⟨?_, ?_, ?_, ?_⟩
  · intro p hp
    rw [minR_41, m41]
    obtain ⟨q0, q1, q2, q3, q4, q5, q6⟩ := g0 p hp
    by_cases ho : onB f no p = true
    · have hbo : 0 ≤ (if f (8 + p) = 1 ∧ 0 < by_ then f (24 + p) + kn p * by_ else f (24 + p)).toInt ∧ (if f (8 + p) = 1 ∧ 0 < by_ then f (24 + p) + kn p * by_ else f (24 + p)).toInt ≤ 36 * ((f 41).toInt + 1) := by
        split
        · rename_i h
          have hb := h.2
          rw [Int32.lt_iff_toInt_lt, z0] at hb
          have := toI_kb (x := f (24 + p)) (y := kn p) (z := by_) q5 (by omega) (hkn p hp) (by omega)
          omega
        · omega
      by_cases hs : spS by_ (f p) < top
      · obtain ⟨e0, e1, e2, e3, e4⟩ := minR_stay (n := n) (kn := kn) (so := so) hp (by omega) ho hs
        rw [e0, e1, e2, e3, e4]
        refine ⟨?_, ?_, ?_, q3, ?_, hbo⟩
        · rcases q0 with z | z
          · rw [z]; simp
          · rw [z, if_neg (by decide)]
            split
            · exact Or.inr rfl
            · exact Or.inl rfl
        · split
          · split
            · rename_i h; rw [Int32.lt_iff_toInt_lt, z0] at h; rw [toI_s1 h]; omega
            · exact q1
          · rw [toI_a1 (by omega)]; omega
        · split
          · split
            · rename_i h; rw [Int32.lt_iff_toInt_lt, z0] at h; rw [toI_s1 h]; omega
            · omega
          · rw [toI_a1 (by omega)]; omega
        · unfold spS
          split
          · exact Int.le_refl _
          · rename_i h; rw [Int32.lt_iff_toInt_lt, z0] at h; omega
      · obtain ⟨e0, e1, e2, e3, e4⟩ := minR_top (n := n) (kn := kn) (so := so) hp (by omega) ho hs h41
        rw [e0, e1, e2, e3, e4]
        exact ⟨Or.inl rfl, q1, by omega, Or.inr g2, ht, hbo⟩
    · have ho : onB f no p = false := by simpa using ho
      rw [minR_off (p := p) (by omega) ho (by omega) (by omega), minR_off (p := p) (by omega) ho (by omega) (by omega), minR_off (p := p) (by omega) ho (by omega) (by omega), minR_off (p := p) (by omega) ho (by omega) (by omega), minR_off (p := p) (by omega) ho (by omega) (by omega)]
      exact ⟨q0, q1, by omega, q3, q4, q5, by omega⟩
  · rw [minR_40]
    split
    · rename_i h; rw [Int32.lt_iff_toInt_lt, z0] at h; rw [toI_s1 h]; omega
    · exact g1
  · rw [minR_41, m41]; omega
  · rw [minR_41, m41]; omega
theorem GR_mn {T : TXT} {no md : Int32} {B : Int} {f : Nat → Int32} (ht : GT T) (g : GR B (tN T) f) (hB : 36 * (B + 1) < 2 ^ 31) : GR (B + 1) (tN T) (mnT T no md f) := GR_min ht.1 (by have := ht.2.1; omega) (fun p hp => (ht.2.2.2.1 p hp).2.1) (ht.2.2.2.2 _).2 g hB
