/-! the words for what is computed -/
def bI (b : Bool) : Int32 := if b then nI 1 else nI 0
theorem bI_t : bI true = nI 1 := rfl
theorem bI_f : bI false = nI 0 := rfl
theorem nI_z : nI 0 = 0 := rfl
theorem bI_eq {b : Bool} : (bI b = 0) ↔ b = false := by cases b <;> decide
theorem bI_z1 {b : Bool} : am_z1 (bI b) = true := by cases b <;> rfl
/-- is one on the stair, by a row; 'no' is taken to be away -/
def onB (f : Nat → Int32) (no : Int32) (p : Nat) : Bool := decide (f (32 + p) = -1) && !decide (nI p = no)
def cnt (g : Nat → Bool) : Nat → Nat
  | 0 => 0
  | n + 1 => cnt g n + (if g n then 1 else 0)
theorem cnt_le (g : Nat → Bool) (n : Nat) : cnt g n ≤ n := by
  induction n with
  | zero => exact Nat.le_refl _
  | succ n ih => unfold cnt; split <;> omega
theorem cnt_cong {g h : Nat → Bool} {n : Nat} (e : ∀ p, p < n → g p = h p) : cnt g n = cnt h n := by
  induction n with
  | zero => rfl
  | succ n ih => unfold cnt; rw [ih (fun p hp => e p (by omega)), e n (by omega)]
def smI (x : Int32) (g : Nat → Int32) : Nat → Int32
  | 0 => x
  | n + 1 => smI x g n + g n
theorem smI_cong {x : Int32} {g h : Nat → Int32} {n : Nat} (e : ∀ p, p < n → g p = h p) : smI x g n = smI x h n := by
  induction n with
  | zero => rfl
  | succ n ih => unfold smI; rw [ih (fun p hp => e p (by omega)), e n (by omega)]
def mayB (f : Nat → Int32) (no : Int32) (so : Nat → Int32) (p : Nat) : Bool := onB f no p && decide (f (16 + p) < so p)
/-- KNEES of all who kneel, DOUBTS of all who don't -/
def knG (f : Nat → Int32) (no : Int32) (kn : Nat → Int32) (p : Nat) : Int32 := if onB f no p && decide (f (8 + p) = 1) then kn p else 0
def dbG (f : Nat → Int32) (no : Int32) (db : Nat → Int32) (p : Nat) : Int32 := if onB f no p && !decide (f (8 + p) = 1) then db p else 0
/-- the eight VARs -/
def vars (n : Nat) (f : Nat → Int32) (no md : Int32) (kn db : Nat → Int32) (a b c : Int32) (k : Nat) : Int32 := match k with
  | 0 => smI 0 (knG f no kn) n
  | 1 => smI md (dbG f no db) n
  | 2 => f 40
  | 3 => f 41
  | 4 => nI (cnt (onB f no) n)
  | 5 => a
  | 6 => b
  | 7 => c
  | _ => 0
/-! one minute of a row -/
def spS (by_ : Int32) (s : Int32) : Int32 := if s + by_ < 0 then 0 else s + by_
/-- what the first pass of a minute makes of a row's place, for one who is on the stair -/
def g1 (top by_ : Int32) (kn : Nat → Int32) (f : Nat → Int32) (j : Nat) : Int32 :=
  if j < 8 then (if spS by_ (f (j % 8)) < top then spS by_ (f (j % 8)) else top)
  else if j < 16 then (if spS by_ (f (j % 8)) < top then f j else 0)
  else if j < 24 then f j
  else if j < 32 then (if f (8 + j % 8) = 1 ∧ 0 < by_ then f j + kn (j % 8) * by_ else f j)
  else (if spS by_ (f (j % 8)) < top then f j else f 41)
/-- the second pass -/
def g2 (so : Nat → Int32) (f : Nat → Int32) (j : Nat) : Int32 :=
  if j < 8 then f j
  else if j < 16 then (if f j = 0 then f j else if f (16 + j % 8) + 1 < so (j % 8) then f j else 0)
  else if j < 24 then (if f (8 + j % 8) = 0 then (if 0 < f j then f j - 1 else f j) else f j + 1)
  else f j
/-- the first i of a row's pilgrims have gone through a pass -/
def mix (i : Nat) (g f : Nat → Int32) (no : Int32) (j : Nat) : Int32 := if (decide (j < 40) && decide (j % 8 < i) && onB f no (j % 8)) = true then g j else f j
def minT (f : Nat → Int32) (by_ : Int32) (j : Nat) : Int32 := if j = 40 then (if 0 < f 40 then f 40 - 1 else f 40) else if j = 41 then f 41 + 1 else if j = 42 then f 42 + by_ else f j
/-- a row behind a minute in which the stair moves so far -/
def minR (n : Nat) (top by_ no : Int32) (kn so : Nat → Int32) (f : Nat → Int32) : Nat → Int32 :=
  let f1 := mix n (g1 top by_ kn f) f no
  minT (mix n (g2 so f1) f1 no) by_
theorem mix_0 {g f : Nat → Int32} {no : Int32} : mix 0 g f no = f := by
  funext j
  unfold mix
  simp
theorem mix_out {i : Nat} {g f : Nat → Int32} {no : Int32} {j : Nat} (h : j % 8 ≠ i ∨ 40 ≤ j) : mix (i + 1) g f no j = mix i g f no j := by
  unfold mix
  by_cases h1 : j < 40
  · have h2 : j % 8 ≠ i := by omega
    have e : decide (j % 8 < i + 1) = decide (j % 8 < i) := by
      by_cases h3 : j % 8 < i
      · simp [h3]; omega
      · simp [h3]; omega
    rw [e]
  · simp [h1]
theorem mix_at {i : Nat} {g f : Nat → Int32} {no : Int32} {j : Nat} (h : j % 8 = i) (h4 : j < 40) (ho : onB f no i = true) : mix (i + 1) g f no j = g j := by
  unfold mix
  rw [h]
  simp [h4, ho]
theorem mix_ge {i : Nat} {g f : Nat → Int32} {no : Int32} {j : Nat} (h : i ≤ j % 8 ∨ 40 ≤ j) : mix i g f no j = f j := by
  unfold mix
  by_cases h1 : j < 40
  · have : ¬ j % 8 < i := by omega
    simp [this]
  · simp [h1]
theorem mix_off {i : Nat} {g f : Nat → Int32} {no : Int32} (ho : onB f no i = false) : mix (i + 1) g f no = mix i g f no := by
  funext j
  by_cases h : j % 8 = i
  · unfold mix
    rw [h, ho]
    simp
  · exact mix_out (Or.inl h)
/-! the reference's cells: its row, its variables, its pile, whether it is broken; all else -/
def mS (v : Nat → Nat → Int32) (f x g : Nat → Int32) (b : Int32) : Nat → Nat → Int32 := fun a => if a = 419 then f else if a = 416 then x else if a = 417 then g else if a = 388 then upd (v 388) 46 b else v a
section
variable {v : Nat → Nat → Int32} {f x g : Nat → Int32} {b y : Int32} {a k : Nat}
theorem mS_419 : mS v f x g b 419 = f := rfl
theorem mS_416 : mS v f x g b 416 = x := rfl
theorem mS_417 : mS v f x g b 417 = g := rfl
theorem mS_46 : mS v f x g b 388 46 = b := by simp [mS, upd]
theorem mS_388 (h : k ≠ 46) : mS v f x g b 388 k = v 388 k := by simp [mS, upd, h]
theorem mS_o (h1 : a ≠ 419) (h2 : a ≠ 416) (h3 : a ≠ 417) (h4 : a ≠ 388) : mS v f x g b a = v a := by simp [mS, h1, h2, h3, h4]
theorem mS_self : mS v (v 419) (v 416) (v 417) (v 388 46) = v := by
  funext a
  unfold mS
  split
  · rename_i h; rw [h]
  · split
    · rename_i h; rw [h]
    · split
      · rename_i h; rw [h]
      · split
        · rename_i h
          rw [h]
          funext j
          unfold upd
          split
          · rename_i h; rw [h]
          · rfl
        · rfl
theorem mS_u419 : am_u (mS v f x g b) 419 k y = mS v (upd f k y) x g b := by
  funext a
  unfold am_u
  by_cases h : a = 419
  · subst h; simp [mS]
  · simp [mS, h]
theorem mS_u416 : am_u (mS v f x g b) 416 k y = mS v f (upd x k y) g b := by
  funext a
  unfold am_u
  by_cases h : a = 416
  · subst h; simp [mS]
  · simp [mS, h]
theorem mS_u417 : am_u (mS v f x g b) 417 k y = mS v f x (upd g k y) b := by
  funext a
  unfold am_u
  by_cases h : a = 417
  · subst h; simp [mS]
  · simp [mS, h]
theorem mS_u46 : am_u (mS v f x g b) 388 46 y = mS v f x g y := by
  funext a
  unfold am_u
  by_cases h : a = 388
  · subst h
    simp only [if_true]
    funext j
    by_cases hj : j = 46
    · subst hj; simp [mS, upd]
    · simp [mS, upd, hj]
  · simp [mS, h]
theorem mS_u388 (h : k ≠ 46) : am_u (mS v f x g b) 388 k y = mS (am_u v 388 k y) f x g b := by
  funext a
  unfold am_u
  by_cases ha : a = 388
  · subst ha
    simp only [if_true]
    funext j
    by_cases hj : j = 46
    · subst hj; simp [mS, upd, Ne.symm h]
    · by_cases hk : j = k
      · subst hk; simp [mS, upd, h]
      · simp [mS, upd, hj, hk]
  · simp [mS, ha]
theorem mS_uo (h1 : a ≠ 419) (h2 : a ≠ 416) (h3 : a ≠ 417) (h4 : a ≠ 388) : am_u (mS v f x g b) a k y = mS (am_u v a k y) f x g b := by
  funext c
  unfold am_u
  by_cases hc : c = a
  · subst hc; simp [mS, h1, h2, h3, h4]
  · by_cases h388 : c = 388
    · subst h388
      have : ¬ (388 = a) := fun z => h4 z.symm
      simp [mS, this]
    · simp [mS, hc, h388]
end
theorem upd_01 {x : Nat → Int32} {a b c : Int32} : upd (upd (upd x 0 a) 1 b) 0 c = upd (upd x 0 c) 1 b := by
  funext j
  unfold upd
  by_cases h0 : j = 0
  · subst h0; simp
  · simp [h0]
theorem upd_11 {x : Nat → Int32} {k : Nat} {b c : Int32} : upd (upd x k b) k c = upd x k c := by
  funext j
  unfold upd
  split <;> rfl
