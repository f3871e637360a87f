/-! laid by wip/whole/s1.py: share, of both -/
theorem nI_div {a b : Nat} (ha : a < 2 ^ 31) (hb : b < 2 ^ 31) : nI a / nI b = nI (a / b) := by
  have hc : a / b < 2 ^ 31 := Nat.lt_of_le_of_lt (Nat.div_le_self a b) ha
  apply Int32.toInt_inj.mp
  rw [Int32.toInt_div, nI_toInt ha, nI_toInt hb, nI_toInt hc, ← Int.ofNat_tdiv]
  generalize a / b = c at hc ⊢
  rw [Int.bmod_eq_of_le (by omega) (by omega)]
theorem nI_rem {a b : Nat} (ha : a < 2 ^ 31) (hb : b < 2 ^ 31) : nI a - nI a / nI b * nI b = nI (a % b) := by
  have h := Nat.div_add_mod a b
  rw [nI_div ha hb, pk_mul, pk_sub (by rw [Nat.mul_comm] at h; omega)]
  congr 1
  rw [Nat.mul_comm] at h
  omega
/-- a sum of numbers that are not below 0 -/
def smN (g : Nat → Int32) : Nat → Nat
  | 0 => 0
  | n + 1 => smN g n + (g n).toNatClampNeg
theorem sm_nn {g : Nat → Int32} : ∀ n, (∀ p, p < n → 0 ≤ (g p).toInt) → smI 0 g n = nI (smN g n) := by
  intro n
  induction n with
  | zero => intro _; rfl
  | succ n ih =>
    intro h
    show smI 0 g n + g n = nI (smN g n + (g n).toNatClampNeg)
    rw [ih (fun p hp => h p (by omega)), ← nI_add]
    congr 1
    obtain ⟨j, hj, e⟩ := nI_of (x := g n) (by rw [Int32.lt_iff_toInt_lt, show (0 : Int32).toInt = 0 from rfl]; have := h n (by omega); omega)
    rw [e, nI_clamp hj]
theorem cl_nn {x : Int32} (h : 0 ≤ x.toInt) : x = nI x.toNatClampNeg ∧ x.toNatClampNeg < 2 ^ 31 ∧ (x.toNatClampNeg : Int) = x.toInt := by
  obtain ⟨j, hj, e⟩ := nI_of (x := x) (by rw [Int32.lt_iff_toInt_lt, show (0 : Int32).toInt = 0 from rfl]; omega)
  have e2 : x.toNatClampNeg = j := by rw [e, nI_clamp hj]
  rw [e2]
  exact ⟨e, hj, by rw [e, nI_toInt hj]⟩
theorem sm_le {g : Nat → Int32} {b : Nat} : ∀ n, (∀ p, p < n → (g p).toNatClampNeg ≤ b) → smN g n ≤ n * b := by
  intro n
  induction n with
  | zero => intro _; exact Nat.zero_le _
  | succ n ih =>
    intro h
    have h1 := ih (fun p hp => h p (by omega))
    have h2 := h n (by omega)
    show smN g n + (g n).toNatClampNeg ≤ (n + 1) * b
    rw [Nat.succ_mul]
    omega
theorem sm_ge {g : Nat → Int32} : ∀ n p, p < n → (g p).toNatClampNeg ≤ smN g n := by
  intro n
  induction n with
  | zero => intro p hp; omega
  | succ n ih =>
    intro p hp
    show _ ≤ smN g n + (g n).toNatClampNeg
    by_cases h : p = n
    · subst h; omega
    · have := ih p (by omega)
      omega
/-- what all have borne; what one has -/
def alN (f : Nat → Int32) (n : Nat) : Nat := smN (fun o => f (24 + o)) n
def bnN (f : Nat → Int32) (p : Nat) : Nat := (f (24 + p)).toNatClampNeg
theorem al_ok {B : Int} {n : Nat} {f : Nat → Int32} (h : GR B n f) (hn : n ≤ 8) (hB : B ≤ 200000) : (∀ p, p < n → f (24 + p) = nI (bnN f p) ∧ bnN f p ≤ alN f n) ∧ alN f n < 2 ^ 26 ∧ ∀ i, i ≤ n → smI 0 (fun o => f (24 + o)) i = nI (alN f i) := by
  have hb : ∀ p, p < n → f (24 + p) = nI (bnN f p) ∧ bnN f p ≤ 7200000 := by
    intro p hp
    obtain ⟨_, _, _, _, _, h1, h2⟩ := h.1 p hp
    obtain ⟨e1, _, e3⟩ := cl_nn h1
    refine ⟨e1, ?_⟩
    have := h.2.2.2
    unfold bnN
    omega
  refine ⟨fun p hp => ⟨(hb p hp).1, sm_ge (g := fun o => f (24 + o)) n p hp⟩, ?_, fun i hi => sm_nn i (fun p hp => (h.1 p (by omega)).2.2.2.2.2.1)⟩
  have h1 := sm_le (g := fun o => f (24 + o)) (b := 7200000) n (fun p hp => (hb p hp).2)
  have h2 : n * 7200000 ≤ 8 * 7200000 := Nat.mul_le_mul_right _ hn
  unfold alN
  omega
def shA (T : TXT) (f : Nat → Int32) (y b : Int32) : Int32 := if pilB (tN T) y = true then (if alN f (tN T) = 0 then (if b = 0 then nI 0 else nI 1) else if b = 0 then nI (bnN f (cN y) / Nat.gcd (alN f (tN T)) (bnN f (cN y))) else nI (alN f (tN T) / Nat.gcd (alN f (tN T)) (bnN f (cN y)))) else -1
theorem gcd_s {a b : Nat} : Nat.gcd a b = Nat.gcd b (a % b) := by
  rw [Nat.gcd_comm a b, Nat.gcd_rec b a, Nat.gcd_comm]
theorem md_h {a l : Nat} (hl : 0 < l) (hr : 0 < a % l) : 2 * (l % (a % l)) < l := by
  have h1 := Nat.mod_lt a hl
  have h2 := Nat.mod_lt l hr
  have h3 := Nat.mod_add_div l (a % l)
  have h4 : 1 ≤ l / (a % l) := (Nat.one_le_div_iff hr).mpr (by omega)
  have h5 : (a % l) * 1 ≤ (a % l) * (l / (a % l)) := Nat.mul_le_mul_left _ h4
  omega
theorem r_comL {d : Nat} {h : am_H} {Q : Option Value → am_H → Prop} {a b : Int32} : ∀ y x (t : Value), x < 2 ^ 31 → y < 2 ^ 31 → am_cc t = true → Q (some (.int (nI (Nat.gcd x y)))) h → am_Go am_X0 d k_Model_common 4 ([.int a, .int b, .int (nI x), .int (nI y), t], [], h) Q := by
  intro y
  induction y using Nat.strongRecOn with
  | ind y ih =>
  intro x t hx hy2 ht hQ
  by_cases hy0 : y = 0
  · subst hy0
    refine go_at (blk := b_Model_common_4) rfl ?_
    simp (disch := omega) only [b_Model_common_4, be_4, be_50_0, List.getD_cons_zero, List.getD_cons_succ, List.set_cons_zero, List.set_cons_succ, List.length_cons, List.length_nil, pk_I, pk_A, pr_A, pi_I, st_s, st_n, if_true, if_false, eq_self, d_if, d_ju, d_re, d_ca, cat0, cat1, cat2, cat3, fr_z, fr_s, cc_I, cc_A, cc_N, Nat.reduceAdd, Nat.reduceLT, Nat.reduceLeDiff, Nat.reduceEqDiff, not_true, not_false_iff, z1_0, z1_1, Bool.and_self, Bool.true_and, Bool.and_true, nI_add, pk_mul, nI_clamp, decide_true, Nat.le_refl, bI_eq, bI_z1, nI_z]
    refine go_at (blk := b_Model_common_21) rfl ?_
    simp (disch := omega) only [b_Model_common_21, be_4, be_54, List.getD_cons_zero, List.getD_cons_succ, List.set_cons_zero, List.set_cons_succ, List.length_cons, List.length_nil, pk_I, pk_A, pr_A, pi_I, st_s, st_n, if_true, if_false, eq_self, d_if, d_ju, d_re, d_ca, cat0, cat1, cat2, cat3, fr_z, fr_s, cc_I, cc_A, cc_N, Nat.reduceAdd, Nat.reduceLT, Nat.reduceLeDiff, Nat.reduceEqDiff, not_true, not_false_iff, z1_0, z1_1, Bool.and_self, Bool.true_and, Bool.and_true, nI_add, pk_mul, nI_clamp, decide_true, Nat.le_refl, bI_eq, bI_z1, nI_z]
    rw [Nat.gcd_zero_right] at hQ
    exact hQ
  · have hy : ¬ nI y = 0 := fun z => hy0 ((nI_e0 hy2).mp z)
    have hrem := nI_rem hx hy2
    refine go_at (blk := b_Model_common_4) rfl ?_
    simp (disch := omega) only [b_Model_common_4, be_4, be_50_0, List.getD_cons_zero, List.getD_cons_succ, List.set_cons_zero, List.set_cons_succ, List.length_cons, List.length_nil, pk_I, pk_A, pr_A, pi_I, st_s, st_n, if_true, if_false, eq_self, d_if, d_ju, d_re, d_ca, cat0, cat1, cat2, cat3, fr_z, fr_s, cc_I, cc_A, cc_N, Nat.reduceAdd, Nat.reduceLT, Nat.reduceLeDiff, Nat.reduceEqDiff, not_true, not_false_iff, z1_0, z1_1, Bool.and_self, Bool.true_and, Bool.and_true, nI_add, pk_mul, nI_clamp, decide_true, Nat.le_refl, bI_eq, bI_z1, hy, hrem, ht]
    refine go_at (blk := b_Model_common_8) rfl ?_
    simp (disch := omega) only [b_Model_common_8, be_4, be_16, be_7, be_51, List.getD_cons_zero, List.getD_cons_succ, List.set_cons_zero, List.set_cons_succ, List.length_cons, List.length_nil, pk_I, pk_A, pr_A, pi_I, st_s, st_n, if_true, if_false, eq_self, d_if, d_ju, d_re, d_ca, cat0, cat1, cat2, cat3, fr_z, fr_s, cc_I, cc_A, cc_N, Nat.reduceAdd, Nat.reduceLT, Nat.reduceLeDiff, Nat.reduceEqDiff, not_true, not_false_iff, z1_0, z1_1, Bool.and_self, Bool.true_and, Bool.and_true, nI_add, pk_mul, nI_clamp, decide_true, Nat.le_refl, bI_eq, bI_z1, hy, hrem, ht]
    rw [gcd_s] at hQ
    exact ih (x % y) (Nat.mod_lt x (by omega)) y (.int _) (by omega) (by have := Nat.mod_lt x (show 0 < y by omega); omega) rfl hQ
theorem r_common {d : Nat} {h : am_H} {Q : Option Value → am_H → Prop} {x y : Nat} (hx : x < 2 ^ 31) (hy : y < 2 ^ 31) (hQ : Q (some (.int (nI (Nat.gcd x y)))) h) : am_Ca (d + 1) M_Model_common [.int (nI x), .int (nI y)] h Q := by
  refine ca_in (k := k_Model_common) (nL := 5) rfl (Nat.le_of_ble_eq_true rfl) ?_
  show am_Go am_X0 _ k_Model_common 0 ([.int (nI x), .int (nI y), .null, .null, .null], [], _) _
  refine go_at (blk := b_Model_common_0) rfl ?_
  simp (disch := omega) only [b_Model_common_0, be_4, be_7, be_0, List.getD_cons_zero, List.getD_cons_succ, List.set_cons_zero, List.set_cons_succ, List.length_cons, List.length_nil, pk_I, pk_A, pr_A, pi_I, st_s, st_n, if_true, if_false, eq_self, d_if, d_ju, d_re, d_ca, cat0, cat1, cat2, cat3, fr_z, fr_s, cc_I, cc_A, cc_N, Nat.reduceAdd, Nat.reduceLT, Nat.reduceLeDiff, Nat.reduceEqDiff, not_true, not_false_iff, z1_0, z1_1, Bool.and_self, Bool.true_and, Bool.and_true, nI_add, pk_mul, nI_clamp, decide_true, Nat.le_refl, bI_eq, bI_z1]
  exact r_comL y x .null hx hy rfl hQ
set_option maxHeartbeats 1000000 in
theorem r_share {d : Nat} {v : Nat → Nat → Int32} {w : Nat → Nat → Int64} {Q : Option Value → am_H → Prop} {T : TXT} {lv : Nat} {f : Nat → Int32} {B : Int} (hM : MI B v T lv f) {y b : Int32} (hQ : Q (some (.int (shA T f y b))) (428, 26053, KD, RF, v, w)) : am_Ca (d + 3) M_Model_share [.ref 388, .int y, .int b] (428, 26053, KD, RF, v, w) Q := by
  have h8 := hM.2.2.2.2.1.1
  obtain ⟨k18, hlv, k398, _⟩ := hM.1.1
  have k418 : v 418 = f := hM.2.1
  refine ca_in (k := k_Model_share) (nL := 5) rfl (Nat.le_of_ble_eq_true rfl) ?_
  show am_Go am_X0 _ k_Model_share 0 ([.ref 388, .int y, .int b, .null, .null], [], _) _
  refine go_at (blk := b_Model_share_0) rfl ?_
  simp (disch := omega) only [b_Model_share_0, be_6, be_4, be_57_1, kc_388, List.getD_cons_zero, List.getD_cons_succ, List.set_cons_zero, List.set_cons_succ, List.length_cons, List.length_nil, pk_I, pk_A, pr_A, pi_I, st_s, st_n, if_true, if_false, eq_self, d_if, d_ju, d_re, d_ca, cat0, cat1, cat2, cat3, fr_z, fr_s, cc_I, cc_A, cc_N, Nat.reduceAdd, Nat.reduceLT, Nat.reduceLeDiff, Nat.reduceEqDiff, not_true, not_false_iff, z1_0, z1_1, Bool.and_self, Bool.true_and, Bool.and_true, nI_add, pk_mul, nI_clamp, decide_true, Nat.le_refl, bI_eq, bI_z1]
  refine r_isPil hM.1 ?_
  refine go_at (blk := b_Model_share_5) rfl ?_
  simp (disch := omega) only [b_Model_share_5, be_50_1, List.getD_cons_zero, List.getD_cons_succ, List.set_cons_zero, List.set_cons_succ, List.length_cons, List.length_nil, pk_I, pk_A, pr_A, pi_I, st_s, st_n, if_true, if_false, eq_self, d_if, d_ju, d_re, d_ca, cat0, cat1, cat2, cat3, fr_z, fr_s, cc_I, cc_A, cc_N, Nat.reduceAdd, Nat.reduceLT, Nat.reduceLeDiff, Nat.reduceEqDiff, not_true, not_false_iff, z1_0, z1_1, Bool.and_self, Bool.true_and, Bool.and_true, nI_add, pk_mul, nI_clamp, decide_true, Nat.le_refl, bI_eq, bI_z1]
  split
  · rename_i h0
    have h0 : pilB (tN T) y = true := by simpa using h0
    unfold shA at hQ
    rw [if_pos h0] at hQ
    obtain ⟨p, hp, rfl, ep⟩ := pil_of h8 h0
    rw [ep] at hQ
    obtain ⟨a1, a2, a3⟩ := al_ok hM.2.2.2.1 h8 hM.2.2.2.2.2.2
    refine go_at (blk := b_Model_share_10) rfl ?_
    simp (disch := omega) only [b_Model_share_10, be_1, be_7, be_0, List.getD_cons_zero, List.getD_cons_succ, List.set_cons_zero, List.set_cons_succ, List.length_cons, List.length_nil, pk_I, pk_A, pr_A, pi_I, st_s, st_n, if_true, if_false, eq_self, d_if, d_ju, d_re, d_ca, cat0, cat1, cat2, cat3, fr_z, fr_s, cc_I, cc_A, cc_N, Nat.reduceAdd, Nat.reduceLT, Nat.reduceLeDiff, Nat.reduceEqDiff, not_true, not_false_iff, z1_0, z1_1, Bool.and_self, Bool.true_and, Bool.and_true, nI_add, pk_mul, nI_clamp, decide_true, Nat.le_refl, bI_eq, bI_z1]
    refine go_loopA (α := Unit) (fun i u => ([.ref 388, .int (nI p), .int b, .int (smI 0 (fun o => f (24 + o)) i), .int (nI i)], [], (428, 26053, KD, RF, v, w))) (fun i u => True) (tN T) ?_ ?_ () trivial
    · intro i _ hi _ ih
      try dsimp only at *
      have hni : ¬ tN T ≤ i := by omega
      refine go_at (blk := b_Model_share_15) rfl ?_
      simp (disch := omega) only [b_Model_share_15, be_4, be_6, be_34, be_33, be_38, be_49_3, kc_388, rf_388_23, ka_398, List.getD_cons_zero, List.getD_cons_succ, List.set_cons_zero, List.set_cons_succ, List.length_cons, List.length_nil, pk_I, pk_A, pr_A, pi_I, st_s, st_n, if_true, if_false, eq_self, d_if, d_ju, d_re, d_ca, cat0, cat1, cat2, cat3, fr_z, fr_s, cc_I, cc_A, cc_N, Nat.reduceAdd, Nat.reduceLT, Nat.reduceLeDiff, Nat.reduceEqDiff, not_true, not_false_iff, z1_0, z1_1, Bool.and_self, Bool.true_and, Bool.and_true, nI_add, pk_mul, nI_clamp, decide_true, Nat.le_refl, bI_eq, bI_z1, nI_ltI, nI_leI, k18, k398, k418, hni]
      refine go_at (blk := b_Model_share_29) rfl ?_
      simp (disch := omega) only [b_Model_share_29, be_4, be_6, be_34, be_1, be_12, be_38, be_7, be_10, be_51, kc_388, rf_388_47, ka_418, List.getD_cons_zero, List.getD_cons_succ, List.set_cons_zero, List.set_cons_succ, List.length_cons, List.length_nil, pk_I, pk_A, pr_A, pi_I, st_s, st_n, if_true, if_false, eq_self, d_if, d_ju, d_re, d_ca, cat0, cat1, cat2, cat3, fr_z, fr_s, cc_I, cc_A, cc_N, Nat.reduceAdd, Nat.reduceLT, Nat.reduceLeDiff, Nat.reduceEqDiff, not_true, not_false_iff, z1_0, z1_1, Bool.and_self, Bool.true_and, Bool.and_true, nI_add, pk_mul, nI_clamp, decide_true, Nat.le_refl, bI_eq, bI_z1, nI_ltI, nI_leI, k18, k398, k418, hni]
      exact ih () trivial
    · intro _ _
      try dsimp only at *
      have hs := a3 (tN T) (Nat.le_refl _)
      obtain ⟨hp1, hp2⟩ := a1 p hp
      have hg1 : Nat.gcd (alN f (tN T)) (bnN f p) ≤ alN f (tN T) ∨ alN f (tN T) = 0 := by
        by_cases h : alN f (tN T) = 0
        · exact Or.inr h
        · exact Or.inl (Nat.gcd_le_left _ (by omega))
      have hg0 : alN f (tN T) ≠ 0 → ¬ nI (Nat.gcd (alN f (tN T)) (bnN f p)) = 0 := fun h z => by
        have := (nI_e0 (by omega)).mp z
        exact h (Nat.gcd_eq_zero_iff.mp this).1
      refine go_at (blk := b_Model_share_15) rfl ?_
      simp (disch := omega) only [b_Model_share_15, be_4, be_6, be_34, be_33, be_38, be_49_3, kc_388, rf_388_23, ka_398, List.getD_cons_zero, List.getD_cons_succ, List.set_cons_zero, List.set_cons_succ, List.length_cons, List.length_nil, pk_I, pk_A, pr_A, pi_I, st_s, st_n, if_true, if_false, eq_self, d_if, d_ju, d_re, d_ca, cat0, cat1, cat2, cat3, fr_z, fr_s, cc_I, cc_A, cc_N, Nat.reduceAdd, Nat.reduceLT, Nat.reduceLeDiff, Nat.reduceEqDiff, not_true, not_false_iff, z1_0, z1_1, Bool.and_self, Bool.true_and, Bool.and_true, nI_add, pk_mul, nI_clamp, decide_true, Nat.le_refl, bI_eq, bI_z1, nI_ltI, nI_leI, k18, k398, k418, hs, hp1, nI_e0, nI_div]
      refine go_at (blk := b_Model_share_48) rfl ?_
      simp (disch := omega) only [b_Model_share_48, be_4, be_50_1, List.getD_cons_zero, List.getD_cons_succ, List.set_cons_zero, List.set_cons_succ, List.length_cons, List.length_nil, pk_I, pk_A, pr_A, pi_I, st_s, st_n, if_true, if_false, eq_self, d_if, d_ju, d_re, d_ca, cat0, cat1, cat2, cat3, fr_z, fr_s, cc_I, cc_A, cc_N, Nat.reduceAdd, Nat.reduceLT, Nat.reduceLeDiff, Nat.reduceEqDiff, not_true, not_false_iff, z1_0, z1_1, Bool.and_self, Bool.true_and, Bool.and_true, nI_add, pk_mul, nI_clamp, decide_true, Nat.le_refl, bI_eq, bI_z1, nI_ltI, nI_leI, k18, k398, k418, hs, hp1, nI_e0, nI_div]
      split
      · rename_i h1
        have h1 : ¬ alN f (tN T) = 0 := h1
        rw [if_neg h1] at hQ
        have hg0 := hg0 h1
        have hgl : Nat.gcd (alN f (tN T)) (bnN f p) < 2 ^ 31 := by omega
        refine go_at (blk := b_Model_share_62) rfl ?_
        simp (disch := omega) only [b_Model_share_62, be_6, be_34, be_1, be_4, be_12, be_38, be_58_2, kc_388, rf_388_47, ka_418, List.getD_cons_zero, List.getD_cons_succ, List.set_cons_zero, List.set_cons_succ, List.length_cons, List.length_nil, pk_I, pk_A, pr_A, pi_I, st_s, st_n, if_true, if_false, eq_self, d_if, d_ju, d_re, d_ca, cat0, cat1, cat2, cat3, fr_z, fr_s, cc_I, cc_A, cc_N, Nat.reduceAdd, Nat.reduceLT, Nat.reduceLeDiff, Nat.reduceEqDiff, not_true, not_false_iff, z1_0, z1_1, Bool.and_self, Bool.true_and, Bool.and_true, nI_add, pk_mul, nI_clamp, decide_true, Nat.le_refl, bI_eq, bI_z1, nI_ltI, nI_leI, k18, k398, k418, hs, hp1, nI_e0, nI_div]
        refine r_common (by omega) (by omega) ?_
        rw [Nat.gcd_comm]
        refine go_at (blk := b_Model_share_75) rfl ?_
        simp (disch := omega) only [b_Model_share_75, be_7, be_4, be_50_0, List.getD_cons_zero, List.getD_cons_succ, List.set_cons_zero, List.set_cons_succ, List.length_cons, List.length_nil, pk_I, pk_A, pr_A, pi_I, st_s, st_n, if_true, if_false, eq_self, d_if, d_ju, d_re, d_ca, cat0, cat1, cat2, cat3, fr_z, fr_s, cc_I, cc_A, cc_N, Nat.reduceAdd, Nat.reduceLT, Nat.reduceLeDiff, Nat.reduceEqDiff, not_true, not_false_iff, z1_0, z1_1, Bool.and_self, Bool.true_and, Bool.and_true, nI_add, pk_mul, nI_clamp, decide_true, Nat.le_refl, bI_eq, bI_z1, nI_ltI, nI_leI, k18, k398, k418, hs, hp1, nI_e0, nI_div]
        split
        · rename_i h2
          rw [if_pos h2] at hQ
          refine go_at (blk := b_Model_share_85) rfl ?_
          simp (disch := omega) only [b_Model_share_85, be_6, be_34, be_1, be_4, be_12, be_38, be_0, kc_388, rf_388_47, ka_418, List.getD_cons_zero, List.getD_cons_succ, List.set_cons_zero, List.set_cons_succ, List.length_cons, List.length_nil, pk_I, pk_A, pr_A, pi_I, st_s, st_n, if_true, if_false, eq_self, d_if, d_ju, d_re, d_ca, cat0, cat1, cat2, cat3, fr_z, fr_s, cc_I, cc_A, cc_N, Nat.reduceAdd, Nat.reduceLT, Nat.reduceLeDiff, Nat.reduceEqDiff, not_true, not_false_iff, z1_0, z1_1, Bool.and_self, Bool.true_and, Bool.and_true, nI_add, pk_mul, nI_clamp, decide_true, Nat.le_refl, bI_eq, bI_z1, nI_ltI, nI_leI, k18, k398, k418, hs, hp1, nI_e0, nI_div]
          refine go_at (blk := b_Model_share_94) rfl ?_
          simp (disch := omega) only [b_Model_share_94, hg0, be_4, be_15, be_54, List.getD_cons_zero, List.getD_cons_succ, List.set_cons_zero, List.set_cons_succ, List.length_cons, List.length_nil, pk_I, pk_A, pr_A, pi_I, st_s, st_n, if_true, if_false, eq_self, d_if, d_ju, d_re, d_ca, cat0, cat1, cat2, cat3, fr_z, fr_s, cc_I, cc_A, cc_N, Nat.reduceAdd, Nat.reduceLT, Nat.reduceLeDiff, Nat.reduceEqDiff, not_true, not_false_iff, z1_0, z1_1, Bool.and_self, Bool.true_and, Bool.and_true, nI_add, pk_mul, nI_clamp, decide_true, Nat.le_refl, bI_eq, bI_z1, nI_ltI, nI_leI, k18, k398, k418, hs, hp1, nI_e0, nI_div]
          exact hQ
        · rename_i h2
          rw [if_neg h2] at hQ
          refine go_at (blk := b_Model_share_81) rfl ?_
          simp (disch := omega) only [b_Model_share_81, be_4, be_51, List.getD_cons_zero, List.getD_cons_succ, List.set_cons_zero, List.set_cons_succ, List.length_cons, List.length_nil, pk_I, pk_A, pr_A, pi_I, st_s, st_n, if_true, if_false, eq_self, d_if, d_ju, d_re, d_ca, cat0, cat1, cat2, cat3, fr_z, fr_s, cc_I, cc_A, cc_N, Nat.reduceAdd, Nat.reduceLT, Nat.reduceLeDiff, Nat.reduceEqDiff, not_true, not_false_iff, z1_0, z1_1, Bool.and_self, Bool.true_and, Bool.and_true, nI_add, pk_mul, nI_clamp, decide_true, Nat.le_refl, bI_eq, bI_z1, nI_ltI, nI_leI, k18, k398, k418, hs, hp1, nI_e0, nI_div]
          refine go_at (blk := b_Model_share_94) rfl ?_
          simp (disch := omega) only [b_Model_share_94, hg0, be_4, be_15, be_54, List.getD_cons_zero, List.getD_cons_succ, List.set_cons_zero, List.set_cons_succ, List.length_cons, List.length_nil, pk_I, pk_A, pr_A, pi_I, st_s, st_n, if_true, if_false, eq_self, d_if, d_ju, d_re, d_ca, cat0, cat1, cat2, cat3, fr_z, fr_s, cc_I, cc_A, cc_N, Nat.reduceAdd, Nat.reduceLT, Nat.reduceLeDiff, Nat.reduceEqDiff, not_true, not_false_iff, z1_0, z1_1, Bool.and_self, Bool.true_and, Bool.and_true, nI_add, pk_mul, nI_clamp, decide_true, Nat.le_refl, bI_eq, bI_z1, nI_ltI, nI_leI, k18, k398, k418, hs, hp1, nI_e0, nI_div]
          exact hQ
      · rename_i h1
        have h1 : alN f (tN T) = 0 := Decidable.not_not.mp h1
        rw [if_pos h1] at hQ
        refine go_at (blk := b_Model_share_52) rfl ?_
        simp (disch := omega) only [b_Model_share_52, be_4, be_50_0, List.getD_cons_zero, List.getD_cons_succ, List.set_cons_zero, List.set_cons_succ, List.length_cons, List.length_nil, pk_I, pk_A, pr_A, pi_I, st_s, st_n, if_true, if_false, eq_self, d_if, d_ju, d_re, d_ca, cat0, cat1, cat2, cat3, fr_z, fr_s, cc_I, cc_A, cc_N, Nat.reduceAdd, Nat.reduceLT, Nat.reduceLeDiff, Nat.reduceEqDiff, not_true, not_false_iff, z1_0, z1_1, Bool.and_self, Bool.true_and, Bool.and_true, nI_add, pk_mul, nI_clamp, decide_true, Nat.le_refl, bI_eq, bI_z1, nI_ltI, nI_leI, k18, k398, k418, hs, hp1, nI_e0, nI_div]
        split
        · rename_i h2
          rw [if_pos h2] at hQ
          refine go_at (blk := b_Model_share_60) rfl ?_
          simp (disch := omega) only [b_Model_share_60, be_1, be_0, List.getD_cons_zero, List.getD_cons_succ, List.set_cons_zero, List.set_cons_succ, List.length_cons, List.length_nil, pk_I, pk_A, pr_A, pi_I, st_s, st_n, if_true, if_false, eq_self, d_if, d_ju, d_re, d_ca, cat0, cat1, cat2, cat3, fr_z, fr_s, cc_I, cc_A, cc_N, Nat.reduceAdd, Nat.reduceLT, Nat.reduceLeDiff, Nat.reduceEqDiff, not_true, not_false_iff, z1_0, z1_1, Bool.and_self, Bool.true_and, Bool.and_true, nI_add, pk_mul, nI_clamp, decide_true, Nat.le_refl, bI_eq, bI_z1, nI_ltI, nI_leI, k18, k398, k418, hs, hp1, nI_e0, nI_div]
          refine go_at (blk := b_Model_share_61) rfl ?_
          simp (disch := omega) only [b_Model_share_61, be_54, List.getD_cons_zero, List.getD_cons_succ, List.set_cons_zero, List.set_cons_succ, List.length_cons, List.length_nil, pk_I, pk_A, pr_A, pi_I, st_s, st_n, if_true, if_false, eq_self, d_if, d_ju, d_re, d_ca, cat0, cat1, cat2, cat3, fr_z, fr_s, cc_I, cc_A, cc_N, Nat.reduceAdd, Nat.reduceLT, Nat.reduceLeDiff, Nat.reduceEqDiff, not_true, not_false_iff, z1_0, z1_1, Bool.and_self, Bool.true_and, Bool.and_true, nI_add, pk_mul, nI_clamp, decide_true, Nat.le_refl, bI_eq, bI_z1, nI_ltI, nI_leI, k18, k398, k418, hs, hp1, nI_e0, nI_div]
          exact hQ
        · rename_i h2
          rw [if_neg h2] at hQ
          refine go_at (blk := b_Model_share_56) rfl ?_
          simp (disch := omega) only [b_Model_share_56, be_1, be_51, List.getD_cons_zero, List.getD_cons_succ, List.set_cons_zero, List.set_cons_succ, List.length_cons, List.length_nil, pk_I, pk_A, pr_A, pi_I, st_s, st_n, if_true, if_false, eq_self, d_if, d_ju, d_re, d_ca, cat0, cat1, cat2, cat3, fr_z, fr_s, cc_I, cc_A, cc_N, Nat.reduceAdd, Nat.reduceLT, Nat.reduceLeDiff, Nat.reduceEqDiff, not_true, not_false_iff, z1_0, z1_1, Bool.and_self, Bool.true_and, Bool.and_true, nI_add, pk_mul, nI_clamp, decide_true, Nat.le_refl, bI_eq, bI_z1, nI_ltI, nI_leI, k18, k398, k418, hs, hp1, nI_e0, nI_div]
          refine go_at (blk := b_Model_share_61) rfl ?_
          simp (disch := omega) only [b_Model_share_61, be_54, List.getD_cons_zero, List.getD_cons_succ, List.set_cons_zero, List.set_cons_succ, List.length_cons, List.length_nil, pk_I, pk_A, pr_A, pi_I, st_s, st_n, if_true, if_false, eq_self, d_if, d_ju, d_re, d_ca, cat0, cat1, cat2, cat3, fr_z, fr_s, cc_I, cc_A, cc_N, Nat.reduceAdd, Nat.reduceLT, Nat.reduceLeDiff, Nat.reduceEqDiff, not_true, not_false_iff, z1_0, z1_1, Bool.and_self, Bool.true_and, Bool.and_true, nI_add, pk_mul, nI_clamp, decide_true, Nat.le_refl, bI_eq, bI_z1, nI_ltI, nI_leI, k18, k398, k418, hs, hp1, nI_e0, nI_div]
          exact hQ
  · rename_i h0
    have h0 : pilB (tN T) y = false := by simpa using h0
    refine go_at (blk := b_Model_share_8) rfl ?_
    simp (disch := omega) only [b_Model_share_8, be_2, be_54, List.getD_cons_zero, List.getD_cons_succ, List.set_cons_zero, List.set_cons_succ, List.length_cons, List.length_nil, pk_I, pk_A, pr_A, pi_I, st_s, st_n, if_true, if_false, eq_self, d_if, d_ju, d_re, d_ca, cat0, cat1, cat2, cat3, fr_z, fr_s, cc_I, cc_A, cc_N, Nat.reduceAdd, Nat.reduceLT, Nat.reduceLeDiff, Nat.reduceEqDiff, not_true, not_false_iff, z1_0, z1_1, Bool.and_self, Bool.true_and, Bool.and_true, nI_add, pk_mul, nI_clamp, decide_true, Nat.le_refl, bI_eq, bI_z1]
    unfold shA at hQ
    rw [if_neg (by rw [h0]; simp)] at hQ
    exact hQ
theorem k_comL {d : Nat} {h : am_H} {Q : Option Value → am_H → Prop} {a b : Int32} : ∀ n i g l (t : Value), i + 2 * n ≤ 64 → l < 2 ^ n → (g < 2 ^ 31 ∧ l < 2 ^ 31) → am_cc t = true → Q (some (.int (nI (Nat.gcd g l)))) h → am_Go am_X0 d k_KneeStair_commonDivisor 7 ([.int a, .int b, .int (nI g), .int (nI l), .int (nI i), t], [], h) Q := by
  intro n
  induction n with
  | zero =>
    intro i g l t hi hl hgl ht hQ
    obtain rfl : l = 0 := by omega
    refine go_at (blk := b_KneeStair_commonDivisor_7) rfl ?_
    simp (disch := omega) only [b_KneeStair_commonDivisor_7, be_4, be_1, be_49_3, List.getD_cons_zero, List.getD_cons_succ, List.set_cons_zero, List.set_cons_succ, List.length_cons, List.length_nil, pk_I, pk_A, pr_A, pi_I, st_s, st_n, if_true, if_false, eq_self, d_if, d_ju, d_re, d_ca, cat0, cat1, cat2, cat3, fr_z, fr_s, cc_I, cc_A, cc_N, Nat.reduceAdd, Nat.reduceLT, Nat.reduceLeDiff, Nat.reduceEqDiff, not_true, not_false_iff, z1_0, z1_1, Bool.and_self, Bool.true_and, Bool.and_true, nI_add, pk_mul, nI_clamp, decide_true, Nat.le_refl, bI_eq, bI_z1, nI_ltI, nI_leI, nI_z]
    split
    · rename_i hi
      refine go_at (blk := b_KneeStair_commonDivisor_34) rfl ?_
      simp (disch := omega) only [b_KneeStair_commonDivisor_34, be_4, be_54, List.getD_cons_zero, List.getD_cons_succ, List.set_cons_zero, List.set_cons_succ, List.length_cons, List.length_nil, pk_I, pk_A, pr_A, pi_I, st_s, st_n, if_true, if_false, eq_self, d_if, d_ju, d_re, d_ca, cat0, cat1, cat2, cat3, fr_z, fr_s, cc_I, cc_A, cc_N, Nat.reduceAdd, Nat.reduceLT, Nat.reduceLeDiff, Nat.reduceEqDiff, not_true, not_false_iff, z1_0, z1_1, Bool.and_self, Bool.true_and, Bool.and_true, nI_add, pk_mul, nI_clamp, decide_true, Nat.le_refl, bI_eq, bI_z1, nI_ltI, nI_leI, nI_z]
      rw [Nat.gcd_zero_right] at hQ
      exact hQ
    · rename_i hi
      refine go_at (blk := b_KneeStair_commonDivisor_14) rfl ?_
      simp (disch := omega) only [b_KneeStair_commonDivisor_14, be_4, be_50_0, List.getD_cons_zero, List.getD_cons_succ, List.set_cons_zero, List.set_cons_succ, List.length_cons, List.length_nil, pk_I, pk_A, pr_A, pi_I, st_s, st_n, if_true, if_false, eq_self, d_if, d_ju, d_re, d_ca, cat0, cat1, cat2, cat3, fr_z, fr_s, cc_I, cc_A, cc_N, Nat.reduceAdd, Nat.reduceLT, Nat.reduceLeDiff, Nat.reduceEqDiff, not_true, not_false_iff, z1_0, z1_1, Bool.and_self, Bool.true_and, Bool.and_true, nI_add, pk_mul, nI_clamp, decide_true, Nat.le_refl, bI_eq, bI_z1, nI_ltI, nI_leI, nI_z]
      refine go_at (blk := b_KneeStair_commonDivisor_34) rfl ?_
      simp (disch := omega) only [b_KneeStair_commonDivisor_34, be_4, be_54, List.getD_cons_zero, List.getD_cons_succ, List.set_cons_zero, List.set_cons_succ, List.length_cons, List.length_nil, pk_I, pk_A, pr_A, pi_I, st_s, st_n, if_true, if_false, eq_self, d_if, d_ju, d_re, d_ca, cat0, cat1, cat2, cat3, fr_z, fr_s, cc_I, cc_A, cc_N, Nat.reduceAdd, Nat.reduceLT, Nat.reduceLeDiff, Nat.reduceEqDiff, not_true, not_false_iff, z1_0, z1_1, Bool.and_self, Bool.true_and, Bool.and_true, nI_add, pk_mul, nI_clamp, decide_true, Nat.le_refl, bI_eq, bI_z1, nI_ltI, nI_leI, nI_z]
      rw [Nat.gcd_zero_right] at hQ
      exact hQ
  | succ n ih =>
    intro i g l t hi hl3 hgl ht hQ
    have hi64 : ¬ 64 ≤ i := by omega
    by_cases hl0 : l = 0
    · subst hl0
      refine go_at (blk := b_KneeStair_commonDivisor_7) rfl ?_
      simp (disch := omega) only [b_KneeStair_commonDivisor_7, be_4, be_1, be_49_3, List.getD_cons_zero, List.getD_cons_succ, List.set_cons_zero, List.set_cons_succ, List.length_cons, List.length_nil, pk_I, pk_A, pr_A, pi_I, st_s, st_n, if_true, if_false, eq_self, d_if, d_ju, d_re, d_ca, cat0, cat1, cat2, cat3, fr_z, fr_s, cc_I, cc_A, cc_N, Nat.reduceAdd, Nat.reduceLT, Nat.reduceLeDiff, Nat.reduceEqDiff, not_true, not_false_iff, z1_0, z1_1, Bool.and_self, Bool.true_and, Bool.and_true, nI_add, pk_mul, nI_clamp, decide_true, Nat.le_refl, bI_eq, bI_z1, nI_ltI, nI_leI, nI_z, hi64]
      refine go_at (blk := b_KneeStair_commonDivisor_14) rfl ?_
      simp (disch := omega) only [b_KneeStair_commonDivisor_14, be_4, be_50_0, List.getD_cons_zero, List.getD_cons_succ, List.set_cons_zero, List.set_cons_succ, List.length_cons, List.length_nil, pk_I, pk_A, pr_A, pi_I, st_s, st_n, if_true, if_false, eq_self, d_if, d_ju, d_re, d_ca, cat0, cat1, cat2, cat3, fr_z, fr_s, cc_I, cc_A, cc_N, Nat.reduceAdd, Nat.reduceLT, Nat.reduceLeDiff, Nat.reduceEqDiff, not_true, not_false_iff, z1_0, z1_1, Bool.and_self, Bool.true_and, Bool.and_true, nI_add, pk_mul, nI_clamp, decide_true, Nat.le_refl, bI_eq, bI_z1, nI_ltI, nI_leI, nI_z, hi64]
      refine go_at (blk := b_KneeStair_commonDivisor_34) rfl ?_
      simp (disch := omega) only [b_KneeStair_commonDivisor_34, be_4, be_54, List.getD_cons_zero, List.getD_cons_succ, List.set_cons_zero, List.set_cons_succ, List.length_cons, List.length_nil, pk_I, pk_A, pr_A, pi_I, st_s, st_n, if_true, if_false, eq_self, d_if, d_ju, d_re, d_ca, cat0, cat1, cat2, cat3, fr_z, fr_s, cc_I, cc_A, cc_N, Nat.reduceAdd, Nat.reduceLT, Nat.reduceLeDiff, Nat.reduceEqDiff, not_true, not_false_iff, z1_0, z1_1, Bool.and_self, Bool.true_and, Bool.and_true, nI_add, pk_mul, nI_clamp, decide_true, Nat.le_refl, bI_eq, bI_z1, nI_ltI, nI_leI, nI_z, hi64]
      rw [Nat.gcd_zero_right] at hQ
      exact hQ
    have hl : ¬ nI l = 0 := fun z => hl0 ((nI_e0 hgl.2).mp z)
    have hrem := nI_rem hgl.1 hgl.2
    have hm := Nat.mod_lt g (show 0 < l by omega)
    refine go_at (blk := b_KneeStair_commonDivisor_7) rfl ?_
    simp (disch := omega) only [b_KneeStair_commonDivisor_7, be_4, be_1, be_49_3, List.getD_cons_zero, List.getD_cons_succ, List.set_cons_zero, List.set_cons_succ, List.length_cons, List.length_nil, pk_I, pk_A, pr_A, pi_I, st_s, st_n, if_true, if_false, eq_self, d_if, d_ju, d_re, d_ca, cat0, cat1, cat2, cat3, fr_z, fr_s, cc_I, cc_A, cc_N, Nat.reduceAdd, Nat.reduceLT, Nat.reduceLeDiff, Nat.reduceEqDiff, not_true, not_false_iff, z1_0, z1_1, Bool.and_self, Bool.true_and, Bool.and_true, nI_add, pk_mul, nI_clamp, decide_true, Nat.le_refl, bI_eq, bI_z1, nI_ltI, nI_leI, hl, hrem, hi64, ht]
    refine go_at (blk := b_KneeStair_commonDivisor_14) rfl ?_
    simp (disch := omega) only [b_KneeStair_commonDivisor_14, be_4, be_50_0, List.getD_cons_zero, List.getD_cons_succ, List.set_cons_zero, List.set_cons_succ, List.length_cons, List.length_nil, pk_I, pk_A, pr_A, pi_I, st_s, st_n, if_true, if_false, eq_self, d_if, d_ju, d_re, d_ca, cat0, cat1, cat2, cat3, fr_z, fr_s, cc_I, cc_A, cc_N, Nat.reduceAdd, Nat.reduceLT, Nat.reduceLeDiff, Nat.reduceEqDiff, not_true, not_false_iff, z1_0, z1_1, Bool.and_self, Bool.true_and, Bool.and_true, nI_add, pk_mul, nI_clamp, decide_true, Nat.le_refl, bI_eq, bI_z1, nI_ltI, nI_leI, hl, hrem, hi64, ht]
    refine go_at (blk := b_KneeStair_commonDivisor_18) rfl ?_
    simp (disch := omega) only [b_KneeStair_commonDivisor_18, be_4, be_16, be_7, be_10, be_51, List.getD_cons_zero, List.getD_cons_succ, List.set_cons_zero, List.set_cons_succ, List.length_cons, List.length_nil, pk_I, pk_A, pr_A, pi_I, st_s, st_n, if_true, if_false, eq_self, d_if, d_ju, d_re, d_ca, cat0, cat1, cat2, cat3, fr_z, fr_s, cc_I, cc_A, cc_N, Nat.reduceAdd, Nat.reduceLT, Nat.reduceLeDiff, Nat.reduceEqDiff, not_true, not_false_iff, z1_0, z1_1, Bool.and_self, Bool.true_and, Bool.and_true, nI_add, pk_mul, nI_clamp, decide_true, Nat.le_refl, bI_eq, bI_z1, nI_ltI, nI_leI, hl, hrem, hi64, ht]
    rw [gcd_s] at hQ
    have hi65 : ¬ 64 ≤ i + 1 := by omega
    by_cases h0 : g % l = 0
    · rw [h0]
      rw [h0, Nat.gcd_zero_right] at hQ
      refine go_at (blk := b_KneeStair_commonDivisor_7) rfl ?_
      simp (disch := omega) only [b_KneeStair_commonDivisor_7, be_4, be_1, be_49_3, List.getD_cons_zero, List.getD_cons_succ, List.set_cons_zero, List.set_cons_succ, List.length_cons, List.length_nil, pk_I, pk_A, pr_A, pi_I, st_s, st_n, if_true, if_false, eq_self, d_if, d_ju, d_re, d_ca, cat0, cat1, cat2, cat3, fr_z, fr_s, cc_I, cc_A, cc_N, Nat.reduceAdd, Nat.reduceLT, Nat.reduceLeDiff, Nat.reduceEqDiff, not_true, not_false_iff, z1_0, z1_1, Bool.and_self, Bool.true_and, Bool.and_true, nI_add, pk_mul, nI_clamp, decide_true, Nat.le_refl, bI_eq, bI_z1, nI_ltI, nI_leI, nI_z, hi65]
      refine go_at (blk := b_KneeStair_commonDivisor_14) rfl ?_
      simp (disch := omega) only [b_KneeStair_commonDivisor_14, be_4, be_50_0, List.getD_cons_zero, List.getD_cons_succ, List.set_cons_zero, List.set_cons_succ, List.length_cons, List.length_nil, pk_I, pk_A, pr_A, pi_I, st_s, st_n, if_true, if_false, eq_self, d_if, d_ju, d_re, d_ca, cat0, cat1, cat2, cat3, fr_z, fr_s, cc_I, cc_A, cc_N, Nat.reduceAdd, Nat.reduceLT, Nat.reduceLeDiff, Nat.reduceEqDiff, not_true, not_false_iff, z1_0, z1_1, Bool.and_self, Bool.true_and, Bool.and_true, nI_add, pk_mul, nI_clamp, decide_true, Nat.le_refl, bI_eq, bI_z1, nI_ltI, nI_leI, nI_z, hi65]
      refine go_at (blk := b_KneeStair_commonDivisor_34) rfl ?_
      simp (disch := omega) only [b_KneeStair_commonDivisor_34, be_4, be_54, List.getD_cons_zero, List.getD_cons_succ, List.set_cons_zero, List.set_cons_succ, List.length_cons, List.length_nil, pk_I, pk_A, pr_A, pi_I, st_s, st_n, if_true, if_false, eq_self, d_if, d_ju, d_re, d_ca, cat0, cat1, cat2, cat3, fr_z, fr_s, cc_I, cc_A, cc_N, Nat.reduceAdd, Nat.reduceLT, Nat.reduceLeDiff, Nat.reduceEqDiff, not_true, not_false_iff, z1_0, z1_1, Bool.and_self, Bool.true_and, Bool.and_true, nI_add, pk_mul, nI_clamp, decide_true, Nat.le_refl, bI_eq, bI_z1, nI_ltI, nI_leI, nI_z, hi65]
      exact hQ
    · have hl2 : ¬ nI (g % l) = 0 := fun z => h0 ((nI_e0 (by omega)).mp z)
      have hrem2 := nI_rem (a := l) (b := g % l) (by omega) (by omega)
      have hm2 := Nat.mod_lt l (show 0 < g % l by omega)
      refine go_at (blk := b_KneeStair_commonDivisor_7) rfl ?_
      simp (disch := omega) only [b_KneeStair_commonDivisor_7, be_4, be_1, be_49_3, List.getD_cons_zero, List.getD_cons_succ, List.set_cons_zero, List.set_cons_succ, List.length_cons, List.length_nil, pk_I, pk_A, pr_A, pi_I, st_s, st_n, if_true, if_false, eq_self, d_if, d_ju, d_re, d_ca, cat0, cat1, cat2, cat3, fr_z, fr_s, cc_I, cc_A, cc_N, Nat.reduceAdd, Nat.reduceLT, Nat.reduceLeDiff, Nat.reduceEqDiff, not_true, not_false_iff, z1_0, z1_1, Bool.and_self, Bool.true_and, Bool.and_true, nI_add, pk_mul, nI_clamp, decide_true, Nat.le_refl, bI_eq, bI_z1, nI_ltI, nI_leI, hl2, hrem2, hi65]
      refine go_at (blk := b_KneeStair_commonDivisor_14) rfl ?_
      simp (disch := omega) only [b_KneeStair_commonDivisor_14, be_4, be_50_0, List.getD_cons_zero, List.getD_cons_succ, List.set_cons_zero, List.set_cons_succ, List.length_cons, List.length_nil, pk_I, pk_A, pr_A, pi_I, st_s, st_n, if_true, if_false, eq_self, d_if, d_ju, d_re, d_ca, cat0, cat1, cat2, cat3, fr_z, fr_s, cc_I, cc_A, cc_N, Nat.reduceAdd, Nat.reduceLT, Nat.reduceLeDiff, Nat.reduceEqDiff, not_true, not_false_iff, z1_0, z1_1, Bool.and_self, Bool.true_and, Bool.and_true, nI_add, pk_mul, nI_clamp, decide_true, Nat.le_refl, bI_eq, bI_z1, nI_ltI, nI_leI, hl2, hrem2, hi65]
      refine go_at (blk := b_KneeStair_commonDivisor_18) rfl ?_
      simp (disch := omega) only [b_KneeStair_commonDivisor_18, be_4, be_16, be_7, be_10, be_51, List.getD_cons_zero, List.getD_cons_succ, List.set_cons_zero, List.set_cons_succ, List.length_cons, List.length_nil, pk_I, pk_A, pr_A, pi_I, st_s, st_n, if_true, if_false, eq_self, d_if, d_ju, d_re, d_ca, cat0, cat1, cat2, cat3, fr_z, fr_s, cc_I, cc_A, cc_N, Nat.reduceAdd, Nat.reduceLT, Nat.reduceLeDiff, Nat.reduceEqDiff, not_true, not_false_iff, z1_0, z1_1, Bool.and_self, Bool.true_and, Bool.and_true, nI_add, pk_mul, nI_clamp, decide_true, Nat.le_refl, bI_eq, bI_z1, nI_ltI, nI_leI, hl2, hrem2, hi65]
      rw [gcd_s] at hQ
      exact ih (i + 2) (g % l) (l % (g % l)) (.int _) (by omega) (by have := md_h (a := g) (l := l) (by omega) (by omega); rw [Nat.pow_succ] at hl3; omega) (by omega) rfl hQ
theorem k_common {d : Nat} {h : am_H} {Q : Option Value → am_H → Prop} {x y : Nat} (hx : x < 2 ^ 31) (hy : y < 2 ^ 26) (hQ : Q (some (.int (nI (Nat.gcd x y)))) h) : am_Ca (d + 1) M_KneeStair_commonDivisor [.int (nI x), .int (nI y)] h Q := by
  refine ca_in (k := k_KneeStair_commonDivisor) (nL := 6) rfl (Nat.le_of_ble_eq_true rfl) ?_
  show am_Go am_X0 _ k_KneeStair_commonDivisor 0 ([.int (nI x), .int (nI y), .null, .null, .null, .null], [], _) _
  refine go_at (blk := b_KneeStair_commonDivisor_0) rfl ?_
  simp (disch := omega) only [b_KneeStair_commonDivisor_0, be_4, be_7, be_1, be_0, List.getD_cons_zero, List.getD_cons_succ, List.set_cons_zero, List.set_cons_succ, List.length_cons, List.length_nil, pk_I, pk_A, pr_A, pi_I, st_s, st_n, if_true, if_false, eq_self, d_if, d_ju, d_re, d_ca, cat0, cat1, cat2, cat3, fr_z, fr_s, cc_I, cc_A, cc_N, Nat.reduceAdd, Nat.reduceLT, Nat.reduceLeDiff, Nat.reduceEqDiff, not_true, not_false_iff, z1_0, z1_1, Bool.and_self, Bool.true_and, Bool.and_true, nI_add, pk_mul, nI_clamp, decide_true, Nat.le_refl, bI_eq, bI_z1]
  exact k_comL 26 0 x y .null (by omega) hy ⟨by omega, by omega⟩ rfl hQ
set_option maxHeartbeats 1000000 in
theorem p_share {d : Nat} {v : Nat → Nat → Int32} {w : Nat → Nat → Int64} {Q : Option Value → am_H → Prop} {T : TXT} {f : Nat → Int32} {B : Int} (hK : KI B v T f) {y b : Int32} (hQ : Q (some (.int (shA T f y b))) (428, 26053, KD, RF, v, w)) : am_Ca (d + 2) M_KneeStair_share [.ref 0, .int y, .int b] (428, 26053, KD, RF, v, w) Q := by
  have h8 := hK.1.1
  have k1 := hK.1.2.1
  refine ca_in (k := k_KneeStair_share) (nL := 5) rfl (Nat.le_of_ble_eq_true rfl) ?_
  show am_Go am_X0 _ k_KneeStair_share 0 ([.ref 0, .int y, .int b, .null, .null], [], _) _
  refine go_at (blk := b_KneeStair_share_0) rfl ?_
  simp (disch := omega) only [b_KneeStair_share_0, be_6, be_4, be_57_1, kc_0, List.getD_cons_zero, List.getD_cons_succ, List.set_cons_zero, List.set_cons_succ, List.length_cons, List.length_nil, pk_I, pk_A, pr_A, pi_I, st_s, st_n, if_true, if_false, eq_self, d_if, d_ju, d_re, d_ca, cat0, cat1, cat2, cat3, fr_z, fr_s, cc_I, cc_A, cc_N, Nat.reduceAdd, Nat.reduceLT, Nat.reduceLeDiff, Nat.reduceEqDiff, not_true, not_false_iff, z1_0, z1_1, Bool.and_self, Bool.true_and, Bool.and_true, nI_add, pk_mul, nI_clamp, decide_true, Nat.le_refl, bI_eq, bI_z1]
  refine k_isPil hK ?_
  refine go_at (blk := b_KneeStair_share_5) rfl ?_
  simp (disch := omega) only [b_KneeStair_share_5, be_50_1, List.getD_cons_zero, List.getD_cons_succ, List.set_cons_zero, List.set_cons_succ, List.length_cons, List.length_nil, pk_I, pk_A, pr_A, pi_I, st_s, st_n, if_true, if_false, eq_self, d_if, d_ju, d_re, d_ca, cat0, cat1, cat2, cat3, fr_z, fr_s, cc_I, cc_A, cc_N, Nat.reduceAdd, Nat.reduceLT, Nat.reduceLeDiff, Nat.reduceEqDiff, not_true, not_false_iff, z1_0, z1_1, Bool.and_self, Bool.true_and, Bool.and_true, nI_add, pk_mul, nI_clamp, decide_true, Nat.le_refl, bI_eq, bI_z1]
  split
  · rename_i h0
    have h0 : pilB (tN T) y = true := by simpa using h0
    unfold shA at hQ
    rw [if_pos h0] at hQ
    obtain ⟨p, hp, rfl, ep⟩ := pil_of h8 h0
    rw [ep] at hQ
    obtain ⟨a1, a2, a3⟩ := al_ok hK.2.2.1 h8 hK.2.2.2.2.2
    refine go_at (blk := b_KneeStair_share_10) rfl ?_
    simp (disch := omega) only [b_KneeStair_share_10, be_1, be_7, be_0, List.getD_cons_zero, List.getD_cons_succ, List.set_cons_zero, List.set_cons_succ, List.length_cons, List.length_nil, pk_I, pk_A, pr_A, pi_I, st_s, st_n, if_true, if_false, eq_self, d_if, d_ju, d_re, d_ca, cat0, cat1, cat2, cat3, fr_z, fr_s, cc_I, cc_A, cc_N, Nat.reduceAdd, Nat.reduceLT, Nat.reduceLeDiff, Nat.reduceEqDiff, not_true, not_false_iff, z1_0, z1_1, Bool.and_self, Bool.true_and, Bool.and_true, nI_add, pk_mul, nI_clamp, decide_true, Nat.le_refl, bI_eq, bI_z1]
    refine go_loopA (α := Unit) (fun i u => ([.ref 0, .int (nI p), .int b, .int (smI 0 (fun o => f (24 + o)) i), .int (nI i)], [], (428, 26053, KD, RF, v, w))) (fun i u => True) (tN T) ?_ ?_ () trivial
    · intro i _ hi _ ih
      try dsimp only at *
      have hni : ¬ tN T ≤ i := by omega
      have e1 : v 46 i = f (24 + i) := RX_b hK.2.1 hi (nI_m (by omega))
      refine go_at (blk := b_KneeStair_share_15) rfl ?_
      simp (disch := omega) only [b_KneeStair_share_15, be_4, be_6, be_34, be_33, be_49_3, kc_0, rf_0_4, kc_25, List.getD_cons_zero, List.getD_cons_succ, List.set_cons_zero, List.set_cons_succ, List.length_cons, List.length_nil, pk_I, pk_A, pr_A, pi_I, st_s, st_n, if_true, if_false, eq_self, d_if, d_ju, d_re, d_ca, cat0, cat1, cat2, cat3, fr_z, fr_s, cc_I, cc_A, cc_N, Nat.reduceAdd, Nat.reduceLT, Nat.reduceLeDiff, Nat.reduceEqDiff, not_true, not_false_iff, z1_0, z1_1, Bool.and_self, Bool.true_and, Bool.and_true, nI_add, pk_mul, nI_clamp, decide_true, Nat.le_refl, bI_eq, bI_z1, nI_ltI, nI_leI, k1, hni, e1]
      refine go_at (blk := b_KneeStair_share_27) rfl ?_
      simp (disch := omega) only [b_KneeStair_share_27, be_4, be_6, be_34, be_38, be_12, be_7, be_10, be_51, kc_0, rf_0_5, kc_42, rf_42_4, ka_46, List.getD_cons_zero, List.getD_cons_succ, List.set_cons_zero, List.set_cons_succ, List.length_cons, List.length_nil, pk_I, pk_A, pr_A, pi_I, st_s, st_n, if_true, if_false, eq_self, d_if, d_ju, d_re, d_ca, cat0, cat1, cat2, cat3, fr_z, fr_s, cc_I, cc_A, cc_N, Nat.reduceAdd, Nat.reduceLT, Nat.reduceLeDiff, Nat.reduceEqDiff, not_true, not_false_iff, z1_0, z1_1, Bool.and_self, Bool.true_and, Bool.and_true, nI_add, pk_mul, nI_clamp, decide_true, Nat.le_refl, bI_eq, bI_z1, nI_ltI, nI_leI, k1, hni, e1]
      exact ih () trivial
    · intro _ _
      try dsimp only at *
      have hs := a3 (tN T) (Nat.le_refl _)
      obtain ⟨hp0, hp2⟩ := a1 p hp
      have hp1 : v 46 p = nI (bnN f p) := (RX_b hK.2.1 hp (nI_m (by omega))).trans hp0
      have hg1 : Nat.gcd (alN f (tN T)) (bnN f p) ≤ alN f (tN T) := by
        by_cases h : alN f (tN T) = 0
        · rw [h, show bnN f p = 0 by omega]
          exact Nat.le_refl _
        · exact Nat.gcd_le_left _ (by omega)
      have hgz : (nI (Nat.gcd (alN f (tN T)) (bnN f p)) = 0) ↔ alN f (tN T) = 0 := by
        rw [nI_e0 (by omega), Nat.gcd_eq_zero_iff]
        exact ⟨fun h => h.1, fun h => ⟨h, by omega⟩⟩
      have hg0 : ¬ alN f (tN T) = 0 → ¬ nI (Nat.gcd (alN f (tN T)) (bnN f p)) = 0 := fun h z => h (hgz.mp z)
      refine go_at (blk := b_KneeStair_share_15) rfl ?_
      simp (disch := omega) only [b_KneeStair_share_15, be_4, be_6, be_34, be_33, be_49_3, kc_0, rf_0_4, kc_25, List.getD_cons_zero, List.getD_cons_succ, List.set_cons_zero, List.set_cons_succ, List.length_cons, List.length_nil, pk_I, pk_A, pr_A, pi_I, st_s, st_n, if_true, if_false, eq_self, d_if, d_ju, d_re, d_ca, cat0, cat1, cat2, cat3, fr_z, fr_s, cc_I, cc_A, cc_N, Nat.reduceAdd, Nat.reduceLT, Nat.reduceLeDiff, Nat.reduceEqDiff, not_true, not_false_iff, z1_0, z1_1, Bool.and_self, Bool.true_and, Bool.and_true, nI_add, pk_mul, nI_clamp, decide_true, Nat.le_refl, bI_eq, bI_z1, nI_ltI, nI_leI, k1, hs, hp1, nI_e0, nI_div, hgz]
      refine go_at (blk := b_KneeStair_share_46) rfl ?_
      simp (disch := omega) only [b_KneeStair_share_46, be_4, be_6, be_34, be_38, be_58_2, kc_0, rf_0_5, kc_42, rf_42_4, ka_46, List.getD_cons_zero, List.getD_cons_succ, List.set_cons_zero, List.set_cons_succ, List.length_cons, List.length_nil, pk_I, pk_A, pr_A, pi_I, st_s, st_n, if_true, if_false, eq_self, d_if, d_ju, d_re, d_ca, cat0, cat1, cat2, cat3, fr_z, fr_s, cc_I, cc_A, cc_N, Nat.reduceAdd, Nat.reduceLT, Nat.reduceLeDiff, Nat.reduceEqDiff, not_true, not_false_iff, z1_0, z1_1, Bool.and_self, Bool.true_and, Bool.and_true, nI_add, pk_mul, nI_clamp, decide_true, Nat.le_refl, bI_eq, bI_z1, nI_ltI, nI_leI, k1, hs, hp1, nI_e0, nI_div, hgz]
      refine k_common (by omega) (by omega) ?_
      refine go_at (blk := b_KneeStair_share_59) rfl ?_
      simp (disch := omega) only [b_KneeStair_share_59, be_7, be_4, be_50_1, List.getD_cons_zero, List.getD_cons_succ, List.set_cons_zero, List.set_cons_succ, List.length_cons, List.length_nil, pk_I, pk_A, pr_A, pi_I, st_s, st_n, if_true, if_false, eq_self, d_if, d_ju, d_re, d_ca, cat0, cat1, cat2, cat3, fr_z, fr_s, cc_I, cc_A, cc_N, Nat.reduceAdd, Nat.reduceLT, Nat.reduceLeDiff, Nat.reduceEqDiff, not_true, not_false_iff, z1_0, z1_1, Bool.and_self, Bool.true_and, Bool.and_true, nI_add, pk_mul, nI_clamp, decide_true, Nat.le_refl, bI_eq, bI_z1, nI_ltI, nI_leI, k1, hs, hp1, nI_e0, nI_div, hgz]
      split
      · rename_i h1
        have h1 : ¬ alN f (tN T) = 0 := h1
        rw [if_neg h1] at hQ
        have hg0 := hg0 h1
        refine go_at (blk := b_KneeStair_share_76) rfl ?_
        simp (disch := omega) only [b_KneeStair_share_76, be_4, be_50_0, List.getD_cons_zero, List.getD_cons_succ, List.set_cons_zero, List.set_cons_succ, List.length_cons, List.length_nil, pk_I, pk_A, pr_A, pi_I, st_s, st_n, if_true, if_false, eq_self, d_if, d_ju, d_re, d_ca, cat0, cat1, cat2, cat3, fr_z, fr_s, cc_I, cc_A, cc_N, Nat.reduceAdd, Nat.reduceLT, Nat.reduceLeDiff, Nat.reduceEqDiff, not_true, not_false_iff, z1_0, z1_1, Bool.and_self, Bool.true_and, Bool.and_true, nI_add, pk_mul, nI_clamp, decide_true, Nat.le_refl, bI_eq, bI_z1, nI_ltI, nI_leI, k1, hs, hp1, nI_e0, nI_div, hgz]
        split
        · rename_i h2
          rw [if_pos h2] at hQ
          refine go_at (blk := b_KneeStair_share_84) rfl ?_
          simp (disch := omega) only [b_KneeStair_share_84, be_6, be_34, be_4, be_38, be_0, kc_0, rf_0_5, kc_42, rf_42_4, ka_46, List.getD_cons_zero, List.getD_cons_succ, List.set_cons_zero, List.set_cons_succ, List.length_cons, List.length_nil, pk_I, pk_A, pr_A, pi_I, st_s, st_n, if_true, if_false, eq_self, d_if, d_ju, d_re, d_ca, cat0, cat1, cat2, cat3, fr_z, fr_s, cc_I, cc_A, cc_N, Nat.reduceAdd, Nat.reduceLT, Nat.reduceLeDiff, Nat.reduceEqDiff, not_true, not_false_iff, z1_0, z1_1, Bool.and_self, Bool.true_and, Bool.and_true, nI_add, pk_mul, nI_clamp, decide_true, Nat.le_refl, bI_eq, bI_z1, nI_ltI, nI_leI, k1, hs, hp1, nI_e0, nI_div, hgz]
          refine go_at (blk := b_KneeStair_share_93) rfl ?_
          simp (disch := omega) only [b_KneeStair_share_93, hg0, be_4, be_15, be_54, List.getD_cons_zero, List.getD_cons_succ, List.set_cons_zero, List.set_cons_succ, List.length_cons, List.length_nil, pk_I, pk_A, pr_A, pi_I, st_s, st_n, if_true, if_false, eq_self, d_if, d_ju, d_re, d_ca, cat0, cat1, cat2, cat3, fr_z, fr_s, cc_I, cc_A, cc_N, Nat.reduceAdd, Nat.reduceLT, Nat.reduceLeDiff, Nat.reduceEqDiff, not_true, not_false_iff, z1_0, z1_1, Bool.and_self, Bool.true_and, Bool.and_true, nI_add, pk_mul, nI_clamp, decide_true, Nat.le_refl, bI_eq, bI_z1, nI_ltI, nI_leI, k1, hs, hp1, nI_e0, nI_div, hgz]
          exact hQ
        · rename_i h2
          rw [if_neg h2] at hQ
          refine go_at (blk := b_KneeStair_share_80) rfl ?_
          simp (disch := omega) only [b_KneeStair_share_80, be_4, be_51, List.getD_cons_zero, List.getD_cons_succ, List.set_cons_zero, List.set_cons_succ, List.length_cons, List.length_nil, pk_I, pk_A, pr_A, pi_I, st_s, st_n, if_true, if_false, eq_self, d_if, d_ju, d_re, d_ca, cat0, cat1, cat2, cat3, fr_z, fr_s, cc_I, cc_A, cc_N, Nat.reduceAdd, Nat.reduceLT, Nat.reduceLeDiff, Nat.reduceEqDiff, not_true, not_false_iff, z1_0, z1_1, Bool.and_self, Bool.true_and, Bool.and_true, nI_add, pk_mul, nI_clamp, decide_true, Nat.le_refl, bI_eq, bI_z1, nI_ltI, nI_leI, k1, hs, hp1, nI_e0, nI_div, hgz]
          refine go_at (blk := b_KneeStair_share_93) rfl ?_
          simp (disch := omega) only [b_KneeStair_share_93, hg0, be_4, be_15, be_54, List.getD_cons_zero, List.getD_cons_succ, List.set_cons_zero, List.set_cons_succ, List.length_cons, List.length_nil, pk_I, pk_A, pr_A, pi_I, st_s, st_n, if_true, if_false, eq_self, d_if, d_ju, d_re, d_ca, cat0, cat1, cat2, cat3, fr_z, fr_s, cc_I, cc_A, cc_N, Nat.reduceAdd, Nat.reduceLT, Nat.reduceLeDiff, Nat.reduceEqDiff, not_true, not_false_iff, z1_0, z1_1, Bool.and_self, Bool.true_and, Bool.and_true, nI_add, pk_mul, nI_clamp, decide_true, Nat.le_refl, bI_eq, bI_z1, nI_ltI, nI_leI, k1, hs, hp1, nI_e0, nI_div, hgz]
          exact hQ
      · rename_i h1
        have h1 : alN f (tN T) = 0 := Decidable.not_not.mp h1
        rw [if_pos h1] at hQ
        refine go_at (blk := b_KneeStair_share_66) rfl ?_
        simp (disch := omega) only [b_KneeStair_share_66, be_4, be_50_0, List.getD_cons_zero, List.getD_cons_succ, List.set_cons_zero, List.set_cons_succ, List.length_cons, List.length_nil, pk_I, pk_A, pr_A, pi_I, st_s, st_n, if_true, if_false, eq_self, d_if, d_ju, d_re, d_ca, cat0, cat1, cat2, cat3, fr_z, fr_s, cc_I, cc_A, cc_N, Nat.reduceAdd, Nat.reduceLT, Nat.reduceLeDiff, Nat.reduceEqDiff, not_true, not_false_iff, z1_0, z1_1, Bool.and_self, Bool.true_and, Bool.and_true, nI_add, pk_mul, nI_clamp, decide_true, Nat.le_refl, bI_eq, bI_z1, nI_ltI, nI_leI, k1, hs, hp1, nI_e0, nI_div, hgz]
        split
        · rename_i h2
          rw [if_pos h2] at hQ
          refine go_at (blk := b_KneeStair_share_74) rfl ?_
          simp (disch := omega) only [b_KneeStair_share_74, be_1, be_0, List.getD_cons_zero, List.getD_cons_succ, List.set_cons_zero, List.set_cons_succ, List.length_cons, List.length_nil, pk_I, pk_A, pr_A, pi_I, st_s, st_n, if_true, if_false, eq_self, d_if, d_ju, d_re, d_ca, cat0, cat1, cat2, cat3, fr_z, fr_s, cc_I, cc_A, cc_N, Nat.reduceAdd, Nat.reduceLT, Nat.reduceLeDiff, Nat.reduceEqDiff, not_true, not_false_iff, z1_0, z1_1, Bool.and_self, Bool.true_and, Bool.and_true, nI_add, pk_mul, nI_clamp, decide_true, Nat.le_refl, bI_eq, bI_z1, nI_ltI, nI_leI, k1, hs, hp1, nI_e0, nI_div, hgz]
          refine go_at (blk := b_KneeStair_share_75) rfl ?_
          simp (disch := omega) only [b_KneeStair_share_75, be_54, List.getD_cons_zero, List.getD_cons_succ, List.set_cons_zero, List.set_cons_succ, List.length_cons, List.length_nil, pk_I, pk_A, pr_A, pi_I, st_s, st_n, if_true, if_false, eq_self, d_if, d_ju, d_re, d_ca, cat0, cat1, cat2, cat3, fr_z, fr_s, cc_I, cc_A, cc_N, Nat.reduceAdd, Nat.reduceLT, Nat.reduceLeDiff, Nat.reduceEqDiff, not_true, not_false_iff, z1_0, z1_1, Bool.and_self, Bool.true_and, Bool.and_true, nI_add, pk_mul, nI_clamp, decide_true, Nat.le_refl, bI_eq, bI_z1, nI_ltI, nI_leI, k1, hs, hp1, nI_e0, nI_div, hgz]
          exact hQ
        · rename_i h2
          rw [if_neg h2] at hQ
          refine go_at (blk := b_KneeStair_share_70) rfl ?_
          simp (disch := omega) only [b_KneeStair_share_70, be_1, be_51, List.getD_cons_zero, List.getD_cons_succ, List.set_cons_zero, List.set_cons_succ, List.length_cons, List.length_nil, pk_I, pk_A, pr_A, pi_I, st_s, st_n, if_true, if_false, eq_self, d_if, d_ju, d_re, d_ca, cat0, cat1, cat2, cat3, fr_z, fr_s, cc_I, cc_A, cc_N, Nat.reduceAdd, Nat.reduceLT, Nat.reduceLeDiff, Nat.reduceEqDiff, not_true, not_false_iff, z1_0, z1_1, Bool.and_self, Bool.true_and, Bool.and_true, nI_add, pk_mul, nI_clamp, decide_true, Nat.le_refl, bI_eq, bI_z1, nI_ltI, nI_leI, k1, hs, hp1, nI_e0, nI_div, hgz]
          refine go_at (blk := b_KneeStair_share_75) rfl ?_
          simp (disch := omega) only [b_KneeStair_share_75, be_54, List.getD_cons_zero, List.getD_cons_succ, List.set_cons_zero, List.set_cons_succ, List.length_cons, List.length_nil, pk_I, pk_A, pr_A, pi_I, st_s, st_n, if_true, if_false, eq_self, d_if, d_ju, d_re, d_ca, cat0, cat1, cat2, cat3, fr_z, fr_s, cc_I, cc_A, cc_N, Nat.reduceAdd, Nat.reduceLT, Nat.reduceLeDiff, Nat.reduceEqDiff, not_true, not_false_iff, z1_0, z1_1, Bool.and_self, Bool.true_and, Bool.and_true, nI_add, pk_mul, nI_clamp, decide_true, Nat.le_refl, bI_eq, bI_z1, nI_ltI, nI_leI, k1, hs, hp1, nI_e0, nI_div, hgz]
          exact hQ
  · rename_i h0
    have h0 : pilB (tN T) y = false := by simpa using h0
    refine go_at (blk := b_KneeStair_share_8) rfl ?_
    simp (disch := omega) only [b_KneeStair_share_8, be_2, be_54, List.getD_cons_zero, List.getD_cons_succ, List.set_cons_zero, List.set_cons_succ, List.length_cons, List.length_nil, pk_I, pk_A, pr_A, pi_I, st_s, st_n, if_true, if_false, eq_self, d_if, d_ju, d_re, d_ca, cat0, cat1, cat2, cat3, fr_z, fr_s, cc_I, cc_A, cc_N, Nat.reduceAdd, Nat.reduceLT, Nat.reduceLeDiff, Nat.reduceEqDiff, not_true, not_false_iff, z1_0, z1_1, Bool.and_self, Bool.true_and, Bool.and_true, nI_add, pk_mul, nI_clamp, decide_true, Nat.le_refl, bI_eq, bI_z1]
    unfold shA at hQ
    rw [if_neg (by rw [h0]; decide)] at hQ
    exact hQ
