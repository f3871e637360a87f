/-! laid by wip/whole/l1.py: TOKENS, by themselves -/
def blB (x : Int32) : Bool := decide (x = nI 9) || decide (x = nI 10) || decide (x = nI 13) || decide (x = nI 32)
def leB (x : Int32) : Bool := !decide (x < nI 97) && !decide (nI 122 < x)
def diB (x : Int32) : Bool := !decide (x < nI 48) && !decide (nI 57 < x)
/-- how many from i on, of k at most -/
def ru (P : Int32 → Bool) (b : Nat → Int32) : Nat → Nat → Nat
  | 0, _ => 0
  | k + 1, i => if P (b i) = true then ru P b k (i + 1) + 1 else 0
def rl (P : Int32 → Bool) (b : Nat → Int32) (len i : Nat) : Nat := ru P b (len - i) i
theorem rl_t {P : Int32 → Bool} {b : Nat → Int32} {len i : Nat} (h : i < len) (hp : P (b i) = true) : rl P b len i = rl P b len (i + 1) + 1 := by
  unfold rl
  rw [show len - i = (len - (i + 1)) + 1 by omega]
  exact if_pos hp
theorem rl_f {P : Int32 → Bool} {b : Nat → Int32} {len i : Nat} (hp : P (b i) = false) : rl P b len i = 0 := by
  unfold rl
  cases len - i with
  | zero => rfl
  | succ k => exact if_neg (by rw [hp]; decide)
theorem rl_e {P : Int32 → Bool} {b : Nat → Int32} {len i : Nat} (h : len ≤ i) : rl P b len i = 0 := by
  unfold rl
  rw [show len - i = 0 by omega]
  rfl
theorem ru_le {P : Int32 → Bool} {b : Nat → Int32} : ∀ k i, ru P b k i ≤ k := by
  intro k
  induction k with
  | zero => intro i; exact Nat.le_refl _
  | succ k ih =>
    intro i
    show (if P (b i) = true then ru P b k (i + 1) + 1 else 0) ≤ k + 1
    have := ih (i + 1)
    split <;> omega
theorem rl_le {P : Int32 → Bool} {b : Nat → Int32} {len i : Nat} (h : i ≤ len) : i + rl P b len i ≤ len := by
  have := ru_le (P := P) (b := b) (len - i) i
  unfold rl
  omega
theorem ru_in {P : Int32 → Bool} {b : Nat → Int32} : ∀ k i j, j < ru P b k i → P (b (i + j)) = true := by
  intro k
  induction k with
  | zero => intro i j h; exact absurd h (Nat.not_lt_zero _)
  | succ k ih =>
    intro i j h
    by_cases hp : P (b i) = true
    · rw [show ru P b (k + 1) i = ru P b k (i + 1) + 1 from if_pos hp] at h
      cases j with
      | zero => exact hp
      | succ j =>
        have := ih (i + 1) j (by omega)
        rw [show i + 1 + j = i + (j + 1) by omega] at this
        exact this
    · rw [show ru P b (k + 1) i = 0 from if_neg hp] at h
      exact absurd h (Nat.not_lt_zero _)
theorem rl_in {P : Int32 → Bool} {b : Nat → Int32} {len i j : Nat} (h : j < rl P b len i) : P (b (i + j)) = true := ru_in _ _ _ h
/-- bytes -/
def BY (b : Nat → Int32) (len : Nat) : Prop := ∀ i, i < len → -128 ≤ (b i).toInt ∧ (b i).toInt ≤ 127
theorem by_n {x : Int32} (h : -128 ≤ x.toInt ∧ x.toInt ≤ 127) : ∃ n, n < 256 ∧ x = nI n - nI 128 := by
  refine ⟨(x.toInt + 128).toNat, by omega, ?_⟩
  apply Int32.toInt_inj.mp
  rw [pk_sub_toInt (by omega) (by omega)]
  omega
/-- the number of a sign -/
def sgK (x : Int32) : Nat := if x = nI 59 then 4 else if x = nI 61 then 5 else if x = nI 40 then 6 else if x = nI 41 then 7 else if x = nI 43 then 8 else if x = nI 45 then 9 else if x = nI 42 then 10 else if x = nI 47 then 15 else if x = nI 60 then 13 else 3
theorem by_all : ∀ n, n < 256 → leB ((nI n - nI 128) &&& nI 255) = leB (nI n - nI 128) ∧ diB ((nI n - nI 128) &&& nI 255) = diB (nI n - nI 128) ∧ blB ((nI n - nI 128) &&& nI 255) = blB (nI n - nI 128) ∧ sgK ((nI n - nI 128) &&& nI 255) = sgK (nI n - nI 128) ∧ ((leB (nI n - nI 128) = true ∨ diB (nI n - nI 128) = true) → (nI n - nI 128) &&& nI 255 = nI n - nI 128) := by decide +kernel
theorem le_of {x : Int32} (h : leB x = true) : ∃ d, 1 ≤ d ∧ d ≤ 26 ∧ x = nI (96 + d) := by
  unfold leB at h
  rw [Bool.and_eq_true] at h
  have h1 := nd_f h.1
  have h2 := nd_f h.2
  rw [Int32.lt_iff_toInt_lt, nI_toInt (by omega)] at h1 h2
  obtain ⟨e1, e2, e3⟩ := cl_nn (x := x) (by omega)
  refine ⟨x.toNatClampNeg - 96, by omega, by omega, ?_⟩
  rw [show 96 + (x.toNatClampNeg - 96) = x.toNatClampNeg by omega]
  exact e1
theorem di_of {x : Int32} (h : diB x = true) : ∃ d, d ≤ 9 ∧ x = nI (48 + d) := by
  unfold diB at h
  rw [Bool.and_eq_true] at h
  have h1 := nd_f h.1
  have h2 := nd_f h.2
  rw [Int32.lt_iff_toInt_lt, nI_toInt (by omega)] at h1 h2
  obtain ⟨e1, e2, e3⟩ := cl_nn (x := x) (by omega)
  refine ⟨x.toNatClampNeg - 48, by omega, ?_⟩
  rw [show 48 + (x.toNatClampNeg - 48) = x.toNatClampNeg by omega]
  exact e1
/-- a letter's number, a digit's -/
def eN (x : Int32) : Nat := x.toNatClampNeg - 96
def dN (x : Int32) : Nat := x.toNatClampNeg - 48
theorem eN_n {d : Nat} (h : d ≤ 26) : eN (nI (96 + d)) = d := by
  unfold eN
  rw [nI_clamp (by omega)]
  omega
theorem dN_n {d : Nat} (h : d ≤ 9) : dN (nI (48 + d)) = d := by
  unfold dN
  rw [nI_clamp (by omega)]
  omega
def vl (e : Nat → Nat) : Nat → Nat
  | 0 => 0
  | n + 1 => vl e n * 27 + e n
def vlN (b : Nat → Int32) (i : Nat) : Nat → Nat := vl (fun j => eN (b (i + j)))
def dgV (b : Nat → Int32) (i : Nat) : Nat → Nat
  | 0 => 0
  | n + 1 => dgV b i n * 10 + dN (b (i + n))
theorem vl_s {b : Nat → Int32} {i n : Nat} : vlN b i (n + 1) = vlN b i n * 27 + eN (b (i + n)) := rfl
theorem vl_inj : ∀ (n m : Nat) (d e : Nat → Nat), (∀ i, i < n → 1 ≤ d i ∧ d i ≤ 26) → (∀ i, i < m → 1 ≤ e i ∧ e i ≤ 26) → vl d n = vl e m → n = m ∧ ∀ i, i < n → d i = e i := by
  intro n
  induction n with
  | zero =>
    intro m d e _ he h
    cases m with
    | zero => exact ⟨rfl, fun i hi => absurd hi (Nat.not_lt_zero _)⟩
    | succ m =>
      have h1 := he m (by omega)
      have h2 : 0 = vl e m * 27 + e m := h
      omega
  | succ n ih =>
    intro m d e hd he h
    cases m with
    | zero =>
      have h1 := hd n (by omega)
      have h2 : vl d n * 27 + d n = 0 := h
      omega
    | succ m =>
      have h1 := hd n (by omega)
      have h2 := he m (by omega)
      have h3 : vl d n * 27 + d n = vl e m * 27 + e m := h
      obtain ⟨a1, a2⟩ := ih m d e (fun i hi => hd i (by omega)) (fun i hi => he i (by omega)) (by omega)
      subst a1
      refine ⟨rfl, fun i hi => ?_⟩
      by_cases hn : i = n
      · subst hn; omega
      · exact a2 i (by omega)
theorem vl_lt {e : Nat → Nat} : ∀ n, (∀ i, i < n → e i ≤ 26) → vl e n < 27 ^ n := by
  intro n
  induction n with
  | zero => intro _; exact Nat.one_pos
  | succ n ih =>
    intro h
    have h1 := ih (fun i hi => h i (by omega))
    have h2 := h n (by omega)
    show vl e n * 27 + e n < 27 ^ (n + 1)
    rw [Nat.pow_succ]
    omega
theorem dg_lt {b : Nat → Int32} {i : Nat} : ∀ n, (∀ j, j < n → diB (b (i + j)) = true) → dgV b i n < 10 ^ n := by
  intro n
  induction n with
  | zero => intro _; exact Nat.one_pos
  | succ n ih =>
    intro h
    have h1 := ih (fun j hj => h j (by omega))
    obtain ⟨d, hd, e⟩ := di_of (h n (by omega))
    show dgV b i n * 10 + dN (b (i + n)) < 10 ^ (n + 1)
    rw [e, dN_n hd, Nat.pow_succ]
    omega
/-- the words, as numbers: the reference's, the class's -/
def keyN (k : Nat) : Nat := if k = 0 then 10492029 else if k = 1 then 6334396438 else if k = 2 then 7220170 else if k = 3 then 5878 else if k = 4 then 11190 else if k = 5 then 165380554 else if k = 6 then 249 else if k = 7 then 399641 else if k = 8 then 107681 else if k = 9 then 6125212 else if k = 10 then 2436392 else if k = 11 then 8157649 else if k = 12 then 191610176 else if k = 13 then 419 else if k = 14 then 388708 else if k = 15 then 385403 else if k = 16 then 1371632 else 0
def cKey (k : Nat) : Nat := if k = 0 then 10492029 else if k = 1 then 6334396438 else if k = 2 then 165380554 else if k = 3 then 7220170 else if k = 4 then 5878 else if k = 5 then 11190 else if k = 6 then 249 else if k = 7 then 399641 else if k = 8 then 107681 else if k = 9 then 6125212 else if k = 10 then 2436392 else if k = 11 then 8157649 else if k = 12 then 191610176 else if k = 13 then 419 else if k = 14 then 388708 else if k = 15 then 385403 else if k = 16 then 1371632 else 0
def klp (N : Nat) : Nat → Nat
  | 0 => 1
  | j + 1 => if keyN j = N then 20 + j else klp N j
def wkN (N : Nat) : Nat := klp N 17
/-- a kind as the class numbers it -/
def cK (k : Nat) : Nat := if k = 0 then 302 else if k = 1 then 300 else if k = 2 then 301 else if k = 4 then 59 else if k = 5 then 61 else if k = 6 then 40 else if k = 7 then 41 else if k = 8 then 43 else if k = 9 then 45 else if k = 10 then 42 else if k = 13 then 60 else if k = 15 then 47 else if k = 20 then 256 else if k = 21 then 257 else if k = 22 then 259 else if k = 23 then 260 else if k = 24 then 261 else if k = 25 then 258 else if k = 26 then 262 else if k = 27 then 263 else if k = 28 then 264 else if k = 29 then 265 else if k = 30 then 266 else if k = 31 then 267 else if k = 32 then 268 else if k = 33 then 269 else if k = 34 then 270 else if k = 35 then 271 else if k = 36 then 272 else 303
/-- the kind of what begins at i; its number; its name; what is behind it -/
def tkK (b : Nat → Int32) (len i : Nat) : Nat := if len ≤ i then 0 else if leB (b i) = true then (if 8 < rl leB b len i then 3 else wkN (vlN b i (rl leB b len i))) else if diB (b i) = true then (if 4 < rl diB b len i then 3 else 2) else sgK (b i)
def tkV (b : Nat → Int32) (len i : Nat) : Nat := dgV b i (rl diB b len i)
def tkN (b : Nat → Int32) (len i : Nat) : Nat := vlN b i (rl leB b len i)
def tkX (b : Nat → Int32) (len i : Nat) : Nat := if leB (b i) = true then i + rl leB b len i else if diB (b i) = true then i + rl diB b len i else i + 1
def bk (b : Nat → Int32) (len i : Nat) : Nat := i + rl blB b len i
def tsN (b : Nat → Int32) (len : Nat) : Nat → Nat
  | 0 => bk b len 0
  | n + 1 => bk b len (tkX b len (tsN b len n))
theorem tx_gt {b : Nat → Int32} {len i : Nat} (h : i < len) : i < tkX b len i ∧ tkX b len i ≤ len := by
  unfold tkX
  split
  · rename_i hp
    have h1 := rl_le (P := leB) (b := b) (Nat.le_of_lt h)
    rw [rl_t h hp] at h1 ⊢
    omega
  · split
    · rename_i hp
      have h1 := rl_le (P := diB) (b := b) (Nat.le_of_lt h)
      rw [rl_t h hp] at h1 ⊢
      omega
    · omega
theorem bk_le {b : Nat → Int32} {len i : Nat} (h : i ≤ len) : i ≤ bk b len i ∧ bk b len i ≤ len := ⟨Nat.le_add_right _ _, rl_le h⟩
theorem bk_nb {b : Nat → Int32} {len i : Nat} (h : bk b len i < len) : blB (b (bk b len i)) = false := by
  unfold bk at *
  cases hc : blB (b (i + rl blB b len i)) with
  | false => rfl
  | true =>
    exfalso
    have key : ∀ k i, i + ru blB b k i < i + k → blB (b (i + ru blB b k i)) = false := by
      intro k
      induction k with
      | zero => intro i h; exact absurd h (by show ¬ i + 0 < i + 0; omega)
      | succ k ih =>
        intro i h
        by_cases hp : blB (b i) = true
        · rw [show ru blB b (k + 1) i = ru blB b k (i + 1) + 1 from if_pos hp] at h ⊢
          have := ih (i + 1) (by omega)
          rw [show i + 1 + ru blB b k (i + 1) = i + (ru blB b k (i + 1) + 1) by omega] at this
          exact this
        · rw [show ru blB b (k + 1) i = 0 from if_neg hp]
          simpa using hp
    have := key (len - i) i (by unfold rl at h; omega)
    unfold rl at hc
    rw [this] at hc
    cases hc
