/-! LAWS, as the reference keeps them: rows of codes in segments, branches of segments -/
/-- a stretch of k codes from c on, over a stack; none: something is divided by 0 -/
def evS (cd vl x : Nat → Int32) : Nat → Nat → List Int32 → Option (List Int32)
  | 0, _, st => some st
  | k + 1, c, st => if cd c = nI 0 then evS cd vl x k (c + 1) (vl c :: st) else if cd c = nI 1 then evS cd vl x k (c + 1) (x (vl c).toNatClampNeg :: st) else match st with
    | y :: z :: st' => if cd c = nI 5 ∧ y = 0 then none else evS cd vl x k (c + 1) ((if cd c = nI 2 then z + y else if cd c = nI 3 then z - y else if cd c = nI 4 then z * y else z / y) :: st')
    | _ => none
def tmS (cd vl x : Nat → Int32) (a b : Nat) : Option Int32 := (evS cd vl x (b - a) a []).bind (fun st => st.head?)
/-- how high the stack is behind k codes; none: too little on it, or no code -/
def htS (cd vl : Nat → Int32) : Nat → Nat → Nat → Option Nat
  | 0, _, h => some h
  | k + 1, c, h => if cd c = nI 0 then htS cd vl k (c + 1) (h + 1) else if cd c = nI 1 ∧ (vl c).toNatClampNeg < 8 ∧ ¬ vl c < 0 then htS cd vl k (c + 1) (h + 1) else if (cd c = nI 2 ∨ cd c = nI 3 ∨ cd c = nI 4 ∨ cd c = nI 5) ∧ 2 ≤ h then htS cd vl k (c + 1) (h - 1) else none
/-- a segment is one expression -/
def sgW (cd vl : Nat → Int32) (a b : Nat) : Prop := a ≤ b ∧ b ≤ 840 ∧ b - a ≤ 400 ∧ htS cd vl (b - a) a 0 = some 1
/-- the branches from b on: none: broken -/
def brS (ts tf tm tt te cd vl x : Nat → Int32) : Nat → Nat → Option Int32
  | 0, _ => none
  | k + 1, b => if ts b = nI 0 then tmS cd vl x (tt b).toNatClampNeg (te b).toNatClampNeg else (tmS cd vl x (tf b).toNatClampNeg (tm b).toNatClampNeg).bind (fun u => (tmS cd vl x (tm b).toNatClampNeg (tt b).toNatClampNeg).bind (fun y => if y ≤ u then brS ts tf tm tt te cd vl x k (b + 1) else tmS cd vl x (tt b).toNatClampNeg (te b).toNatClampNeg))
def clS (lo hi x : Int32) : Int32 := if x < lo then lo else if hi < x then hi else x
/-- what a LAW tells: k 0 MOVES, 1 HAS -/
def tlS (v : Nat → Nat → Int32) (lv k : Nat) (x : Nat → Int32) (plain lo hi : Int32) : Int32 := if v 406 (2 * lv + k) = v 407 (2 * lv + k) then clS lo hi plain else match brS (v 408) (v 409) (v 410) (v 411) (v 412) (v 413) (v 414) x ((v 407 (2 * lv + k)).toNatClampNeg - (v 406 (2 * lv + k)).toNatClampNeg) (v 406 (2 * lv + k)).toNatClampNeg with
  | none => 0
  | some y => clS lo hi y
/-- a branch is well made; the last one has no test -/
def bnW (v : Nat → Nat → Int32) (b last : Nat) : Prop := ∃ f m t e : Nat, v 411 b = nI t ∧ v 412 b = nI e ∧ sgW (v 413) (v 414) t e ∧ (v 408 b = nI 0 ∨ v 408 b = nI 1) ∧ (b + 1 = last → v 408 b = nI 0) ∧ (v 408 b = nI 1 → v 409 b = nI f ∧ v 410 b = nI m ∧ sgW (v 413) (v 414) f m ∧ sgW (v 413) (v 414) m t)
/-- a LAW is well made -/
def lwW (v : Nat → Nat → Int32) (lv k : Nat) : Prop := ∃ a z : Nat, v 406 (2 * lv + k) = nI a ∧ v 407 (2 * lv + k) = nI z ∧ a ≤ z ∧ z ≤ 260 ∧ ∀ b, a ≤ b → b < z → bnW v b z
theorem evS_cong {cd vl x y : Nat → Int32} (e : ∀ k, k < 8 → x k = y k) : ∀ (k c h h' : Nat) (st : List Int32), htS cd vl k c h = some h' → evS cd vl x k c st = evS cd vl y k c st := by
  intro k
  induction k with
  | zero => intro c h h' st _; rfl
  | succ k ih =>
    intro c h h' st hh
    unfold htS at hh
    unfold evS
    by_cases h0 : cd c = nI 0
    · rw [if_pos h0] at hh
      rw [if_pos h0, if_pos h0]
      exact ih _ _ _ _ hh
    · rw [if_neg h0] at hh
      rw [if_neg h0, if_neg h0]
      by_cases h1 : cd c = nI 1
      · rw [if_pos h1, if_pos h1]
        by_cases h2 : (vl c).toNatClampNeg < 8 ∧ ¬ vl c < 0
        · rw [if_pos ⟨h1, h2⟩] at hh
          rw [e _ h2.1]
          exact ih _ _ _ _ hh
        · rw [if_neg (fun z => h2 z.2)] at hh
          exfalso
          rw [h1] at hh
          split at hh
          · rename_i z
            rcases z.1 with z | z | z | z <;> exact absurd z (by decide)
          · cases hh
      · rw [if_neg (fun z => h1 z.1)] at hh
        rw [if_neg h1, if_neg h1]
        split at hh
        · match st with
          | [] => rfl
          | [_] => rfl
          | a :: b :: st' =>
            dsimp only
            split
            · rfl
            · exact ih _ _ _ _ hh
        · cases hh
theorem tmS_cong {cd vl x y : Nat → Int32} (e : ∀ k, k < 8 → x k = y k) {a b : Nat} (h : sgW cd vl a b) : tmS cd vl x a b = tmS cd vl y a b := by
  unfold tmS
  rw [evS_cong e _ _ _ _ _ h.2.2.2]
theorem cl840 {t : Nat} (h : t ≤ 840) : (nI t).toNatClampNeg = t := nI_clamp (by omega)
theorem brS_cong {v : Nat → Nat → Int32} {x y : Nat → Int32} (e : ∀ k, k < 8 → x k = y k) {z : Nat} : ∀ (k b : Nat), b + k = z → (∀ c, b ≤ c → c < z → bnW v c z) → brS (v 408) (v 409) (v 410) (v 411) (v 412) (v 413) (v 414) x k b = brS (v 408) (v 409) (v 410) (v 411) (v 412) (v 413) (v 414) y k b := by
  intro k
  induction k with
  | zero => intro b _ _; rfl
  | succ k ih =>
    intro b hb hw
    obtain ⟨f, m, t, u, h1, h2, h3, h4, h5, h6⟩ := hw b (Nat.le_refl _) (by omega)
    unfold brS
    have t3 : t ≤ 840 := Nat.le_trans h3.1 h3.2.1
    rw [h1, h2, cl840 t3, cl840 h3.2.1]
    rcases h4 with h4 | h4
    · rw [if_pos h4, if_pos h4]
      exact tmS_cong e h3
    · have h7 : ¬ v 408 b = nI 0 := by rw [h4]; decide
      obtain ⟨g1, g2, g3, g4⟩ := h6 h4
      have t1 : f ≤ 840 := Nat.le_trans g3.1 g3.2.1
      rw [if_neg h7, if_neg h7, g1, g2, cl840 t1, cl840 g3.2.1, tmS_cong e g3, tmS_cong e g4, tmS_cong e h3, ih (b + 1) (by omega) (fun c h1 h2 => hw c (by omega) h2)]
theorem tlS_cong {v : Nat → Nat → Int32} {x y : Nat → Int32} {lv k : Nat} {pl lo hi : Int32} (e : ∀ k, k < 8 → x k = y k) (hl : lwW v lv k) : tlS v lv k x pl lo hi = tlS v lv k y pl lo hi := by
  obtain ⟨a, z, h1, h2, h3, h4, h5⟩ := hl
  unfold tlS
  rw [h1, h2]
  split
  · rfl
  · rw [nI_clamp (n := a) (by omega), nI_clamp (n := z) (by omega), brS_cong e (z - a) a (by omega) h5]
/-- what MOVES tells, by a row -/
def mvS (v : Nat → Nat → Int32) (lv n : Nat) (f : Nat → Int32) : Int32 := tlS v lv 0 (vars n f (v 388 49) (v 388 50) (fun p => v 400 (8 * lv + p)) (fun p => v 401 (8 * lv + p)) 0 0 0) (smI 0 (knG f (v 388 49) (fun p => v 400 (8 * lv + p))) n - smI (v 388 50) (dbG f (v 388 49) (fun p => v 401 (8 * lv + p))) n) (-9) (nI 9)
/-- what HAS tells of one -/
def hsS (v : Nat → Nat → Int32) (lv n : Nat) (f : Nat → Int32) (p : Nat) : Int32 := tlS v lv 1 (vars n f (v 388 49) (v 388 50) (fun p => v 400 (8 * lv + p)) (fun p => v 401 (8 * lv + p)) (f p) (f (16 + p)) (f (24 + p))) (f p) (-9999) (nI 9999)
theorem mix_step {i : Nat} (hi : i < 8) {G f h : Nat → Int32} {no : Int32} (ho : onB f no i = true) (h0 : h i = G i) (h1 : h (8 + i) = G (8 + i)) (h2 : h (16 + i) = G (16 + i)) (h3 : h (24 + i) = G (24 + i)) (h4 : h (32 + i) = G (32 + i)) (hz : ∀ j, j ≠ i → j ≠ 8 + i → j ≠ 16 + i → j ≠ 24 + i → j ≠ 32 + i → h j = mix i G f no j) : mix (i + 1) G f no = h := by
  funext j
  by_cases hj : j % 8 = i ∧ j < 40
  · rw [mix_at hj.1 hj.2 ho]
    rcases (show j = i ∨ j = 8 + i ∨ j = 16 + i ∨ j = 24 + i ∨ j = 32 + i by omega) with e | e | e | e | e <;> rw [e]
    · exact h0.symm
    · exact h1.symm
    · exact h2.symm
    · exact h3.symm
    · exact h4.symm
  · rw [mix_out (by omega)]
    exact (hz j (by omega) (by omega) (by omega) (by omega) (by omega)).symm
theorem go_mS {X : am_X} {d : Nat} {k : Nat → List am_I} {pc : Nat} {ls st : List Value} {v : Nat → Nat → Int32} {h h' x g : Nat → Int32} {b : Int32} {w : Nat → Nat → Int64} {Q : Option Value → am_H → Prop} (e : h = h') (ih : am_Go X d k pc (ls, st, (428, 26053, KD, RF, mS v h' x g b, w)) Q) : am_Go X d k pc (ls, st, (428, 26053, KD, RF, mS v h x g b, w)) Q := by
  rw [e]
  exact ih
theorem onB_mix {i : Nat} (hi : i < 8) {G f : Nat → Int32} {no : Int32} : onB (mix i G f no) no i = onB f no i := by
  unfold onB
  rw [mix_ge (by omega)]
theorem nI_o : nI 1 = 1 := rfl
section
variable {p : Nat} {top by_ : Int32} {kn so f : Nat → Int32}
theorem g1_0 (hp : p < 8) : g1 top by_ kn f p = if spS by_ (f p) < top then spS by_ (f p) else top := by
  unfold g1
  rw [if_pos hp, Nat.mod_eq_of_lt hp]
theorem g1_1 (hp : p < 8) : g1 top by_ kn f (8 + p) = if spS by_ (f p) < top then f (8 + p) else 0 := by
  unfold g1
  rw [if_neg (by omega), if_pos (by omega), show (8 + p) % 8 = p by omega]
theorem g1_2 (hp : p < 8) : g1 top by_ kn f (16 + p) = f (16 + p) := by
  unfold g1
  rw [if_neg (by omega), if_neg (by omega), if_pos (by omega)]
theorem g1_3 (hp : p < 8) : g1 top by_ kn f (24 + p) = if f (8 + p) = 1 ∧ 0 < by_ then f (24 + p) + kn p * by_ else f (24 + p) := by
  unfold g1
  rw [if_neg (by omega), if_neg (by omega), if_neg (by omega), if_pos (by omega), show (24 + p) % 8 = p by omega]
theorem g1_4 (hp : p < 8) : g1 top by_ kn f (32 + p) = if spS by_ (f p) < top then f (32 + p) else f 41 := by
  unfold g1
  rw [if_neg (by omega), if_neg (by omega), if_neg (by omega), if_neg (by omega), show (32 + p) % 8 = p by omega]
theorem g2_0 (hp : p < 8) : g2 so f p = f p := by
  unfold g2
  rw [if_pos hp]
theorem g2_1 (hp : p < 8) : g2 so f (8 + p) = if f (8 + p) = 0 then f (8 + p) else if f (16 + p) + 1 < so p then f (8 + p) else 0 := by
  unfold g2
  rw [if_neg (by omega), if_pos (by omega), show (8 + p) % 8 = p by omega]
theorem g2_2 (hp : p < 8) : g2 so f (16 + p) = if f (8 + p) = 0 then (if 0 < f (16 + p) then f (16 + p) - 1 else f (16 + p)) else f (16 + p) + 1 := by
  unfold g2
  rw [if_neg (by omega), if_neg (by omega), if_pos (by omega), show (16 + p) % 8 = p by omega]
theorem g2_3 (hp : p < 8) : g2 so f (24 + p) = f (24 + p) := by
  unfold g2
  rw [if_neg (by omega), if_neg (by omega), if_neg (by omega)]
theorem g2_4 (hp : p < 8) : g2 so f (32 + p) = f (32 + p) := by
  unfold g2
  rw [if_neg (by omega), if_neg (by omega), if_neg (by omega)]
end
theorem q_mS {v : Nat → Nat → Int32} {h h' x g : Nat → Int32} {b : Int32} {w : Nat → Nat → Int64} {r : Option Value} {Q : Option Value → am_H → Prop} (e : h = h') (ih : Q r (428, 26053, KD, RF, mS v h' x g b, w)) : Q r (428, 26053, KD, RF, mS v h x g b, w) := by
  rw [e]
  exact ih
theorem upd_eq {f g : Nat → Int32} {k : Nat} {x : Int32} (h : g k = x) (h2 : ∀ j, j ≠ k → g j = f j) : upd f k x = g := by
  funext j
  unfold upd
  split
  · rename_i e; rw [e, h]
  · rename_i e; rw [h2 j e]
