/-! the class: where LAWS and texts stand; an array's contents put in another's place -/
def LW (q : Nat) : Prop := q = 10 ∨ q = 15 ∨ q = 32 ∨ q = 37
theorem kc_lw {q : Nat} (h : LW q) : am_kc 428 KD q 1 = true := by rcases h with rfl | rfl | rfl | rfl <;> rfl
theorem lq_r0 {q : Nat} (h : LW q) : RF q 0 = some (q + 1) := by rcases h with rfl | rfl | rfl | rfl <;> rfl
theorem lq_r1 {q : Nat} (h : LW q) : RF q 1 = some (q + 2) := by rcases h with rfl | rfl | rfl | rfl <;> rfl
theorem lq_r3 {q : Nat} (h : LW q) : RF q 3 = some (q + 3) := by rcases h with rfl | rfl | rfl | rfl <;> rfl
theorem lq_r4 {q : Nat} (h : LW q) : RF q 4 = some (q + 4) := by rcases h with rfl | rfl | rfl | rfl <;> rfl
theorem ka_lw1 {q p : Nat} (h : LW q) (hp : p < 400) : am_ka 428 KD (q + 1) 0 (nI p) = true := by rcases h with rfl | rfl | rfl | rfl <;> exact ka_nI (by decide) rfl (by decide) hp
theorem ka_lw2 {q p : Nat} (h : LW q) (hp : p < 400) : am_ka 428 KD (q + 2) 0 (nI p) = true := by rcases h with rfl | rfl | rfl | rfl <;> exact ka_nI (by decide) rfl (by decide) hp
theorem ka_lw3 {q p : Nat} (h : LW q) (hp : p < 8) : am_ka 428 KD (q + 3) 0 (nI p) = true := by rcases h with rfl | rfl | rfl | rfl <;> exact ka_nI (by decide) rfl (by decide) hp
theorem ka_lw4 {q p : Nat} (h : LW q) (hp : p < 24) : am_ka 428 KD (q + 4) 0 (nI p) = true := by rcases h with rfl | rfl | rfl | rfl <;> exact ka_nI (by decide) rfl (by decide) hp
def sA (v : Nat → Nat → Int32) (c : Nat) (y : Nat → Int32) : Nat → Nat → Int32 := fun d => if d = c then y else v d
section
variable {v : Nat → Nat → Int32} {c d k : Nat} {y z : Nat → Int32} {t : Int32}
theorem sA_at : sA v c y c = y := by simp [sA]
theorem sA_ne (h : d ≠ c) : sA v c y d = v d := by simp [sA, h]
theorem sA_self : sA v c (v c) = v := by
  funext d
  unfold sA
  split
  · rename_i h; rw [h]
  · rfl
theorem sA_u : am_u (sA v c y) c k t = sA v c (upd y k t) := by
  funext d
  unfold am_u sA
  by_cases h : d = c
  · simp [h]
  · simp [h]
theorem sA_un (h : d ≠ c) : am_u (sA v c y) d k t = sA (am_u v d k t) c y := by
  funext b
  unfold am_u sA
  by_cases hb : b = d
  · subst hb; simp [h]
  · by_cases hc : b = c
    · subst hc; simp [hb]
    · simp [hb, hc]
theorem sA_sA : sA (sA v c y) c z = sA v c z := by
  funext d
  unfold sA
  split <;> rfl
end
/-! LAWS, as the class keeps them: one row of codes, skips and ends among them -/
def vsS (x : Nat → Int32) (y : Int32) : Int32 := if y < 0 then 0 else if nI 8 ≤ y then 0 else x y.toNatClampNeg
def rkS (o l r : Int32) : Int32 := if o = nI 2 then l + r else if o = nI 3 then l - r else if o = nI 4 then l * r else if r = 0 then 0 else l / r
def ctE (cd vl x : Nat → Int32) (len : Nat) : Nat → Nat → List Int32 → Int32
  | 0, _, _ => 0
  | k + 1, a, st => if len ≤ a then st.headD 0 else if cd a = nI 7 then st.headD 0 else if cd a = nI 0 then (if 24 ≤ st.length then 0 else ctE cd vl x len k (a + 1) (vl a :: st)) else if cd a = nI 1 then (if 24 ≤ st.length then 0 else ctE cd vl x len k (a + 1) (vsS x (vl a) :: st)) else match st with
    | r :: l :: st' => if cd a = nI 6 then (if l < r then ctE cd vl x len k (a + 1) st' else ctE cd vl x len k (vl a).toNatClampNeg st') else if cd a = nI 5 ∧ r = 0 then 0 else ctE cd vl x len k (a + 1) (rkS (cd a) l r :: st')
    | _ => 0
/-- a row of codes is well made: no skip leads back -/
def cW (cd vl : Nat → Int32) (len : Nat) : Prop := len ≤ 400 ∧ (∀ a, a < len → cd a = nI 6 → ∃ t, t ≤ 400 ∧ vl a = nI t ∧ a < t) ∧ ∀ a, a < len → ∃ c, c ≤ 7 ∧ cd a = nI c
/-- what it tells -/
def ctS (v : Nat → Nat → Int32) (q len : Nat) (x : Nat → Int32) : Int32 := ctE (v (q + 1)) (v (q + 2)) x len 401 0 []
