/-! printed by wip/whole/gen3.py: what the cells are behind the two constructors: the class's at 0 .. 387, the reference's at 388 .. 427; the fifty kept stairs at 50 + 6 * i -/
def KDL : List am_K := [.inl 8, .inr (1, 2000), .inl 3, .inl 5, .inr (0, 8), .inr (0, 8), .inr (0, 8), .inr (0, 8), .inr (0, 8), .inr (2, 8), .inl 1, .inr (0, 400), .inr (0, 400), .inr (0, 8), .inr (0, 24), .inl 1, .inr (0, 400), .inr (0, 400), .inr (0, 8), .inr (0, 24), .inl 6, .inr (0, 401), .inr (0, 401), .inr (3, 401), .inr (3, 8), .inl 5, .inr (0, 8), .inr (0, 8), .inr (0, 8), .inr (0, 8), .inr (0, 8), .inr (2, 8), .inl 1, .inr (0, 400), .inr (0, 400), .inr (0, 8), .inr (0, 24), .inl 1, .inr (0, 400), .inr (0, 400), .inr (0, 8), .inr (0, 24), .inl 4, .inr (0, 8), .inr (2, 8), .inr (0, 8), .inr (0, 8), .inr (0, 8), .inl 2, .inr (4, 50), .inl 0, .inr (0, 2048), .inl 4, .inr (0, 8), .inr (2, 8), .inr (0, 8), .inr (0, 8), .inr (0, 8), .inl 7, .inr (0, 20), .inr (0, 20), .inr (0, 20), .inl 4, .inr (0, 8), .inr (2, 8), .inr (0, 8), .inr (0, 8), .inr (0, 8), .inr (4, 3), .inr (2, 3), .inl 4, .inr (0, 8), .inr (2, 8), .inr (0, 8), .inr (0, 8), .inr (0, 8), .inl 4, .inr (0, 8), .inr (2, 8), .inr (0, 8), .inr (0, 8), .inr (0, 8), .inl 4, .inr (0, 8), .inr (2, 8), .inr (0, 8), .inr (0, 8), .inr (0, 8), .inl 9, .inr (1, 2000), .inr (1, 2000), .inr (0, 403), .inr (0, 403), .inr (0, 403), .inr (3, 403), .inr (3, 17), .inr (3, 8), .inr (0, 2), .inr (0, 2), .inr (0, 16), .inr (0, 16), .inr (0, 16), .inr (0, 16), .inr (0, 16), .inr (2, 16), .inr (0, 2), .inr (0, 4), .inr (0, 4), .inr (2, 260), .inr (0, 260), .inr (0, 260), .inr (0, 260), .inr (0, 260), .inr (0, 840), .inr (0, 840), .inr (0, 64), .inr (0, 8), .inr (0, 400), .inr (0, 50), .inr (0, 50), .inr (0, 2500), .inr (0, 2048), .inr (2, 256), .inr (0, 20), .inr (0, 20), .inr (0, 20), .inr (2, 3), .inr (0, 150)]
def KD (a : Nat) : am_K := if 50 ≤ a ∧ a < 350 then (if (a - 50) % 6 = 0 then .inl 4 else if (a - 50) % 6 = 2 then .inr (2, 8) else .inr (0, 8)) else KDL.getD (if a < 50 then a else a - 300) (.inl 0)
def RFL : List (List (Option Nat)) := [[some 1, none, none, some 2, some 25, some 42, some 48, some 350, some 358, some 368, some 369], [], [some 3, none, some 20, some 24], [none, none, none, some 4, some 5, some 6, some 7, some 8, some 9, some 10, some 15], [], [], [], [], [], [], [some 11, some 12, none, some 13, some 14], [], [], [], [], [some 16, some 17, none, some 18, some 19], [], [], [], [], [some 21, some 22, some 23], [], [], [], [], [none, none, none, some 26, some 27, some 28, some 29, some 30, some 31, some 32, some 37], [], [], [], [], [], [], [some 33, some 34, none, some 35, some 36], [], [], [], [], [some 38, some 39, none, some 40, some 41], [], [], [], [], [some 25, some 43, some 44, some 45, some 46, some 47], [], [], [], [], [], [some 49], [], [some 25, some 42, some 352, some 351], [], [some 25, some 353, some 354, some 355, some 356, some 357], [], [], [], [], [], [some 25, some 362, some 359, some 360, some 361], [], [], [], [some 25, some 363, some 364, some 365, some 366, some 367], [], [], [], [], [], [some 370, some 376, some 382], [], [some 25, some 371, some 372, some 373, some 374, some 375], [], [], [], [], [], [some 25, some 377, some 378, some 379, some 380, some 381], [], [], [], [], [], [some 25, some 383, some 384, some 385, some 386, some 387], [], [], [], [], [], [none, some 389, none, some 390, none, some 391, some 392, some 393, some 394, some 395, none, none, none, none, none, none, none, none, none, none, none, some 396, some 397, some 398, some 399, some 400, some 401, some 402, some 403, some 404, some 405, some 406, some 407, none, some 408, some 409, some 410, some 411, some 412, none, some 413, some 414, some 415, none, some 416, some 417, none, some 418, some 419, none, none, none, some 420, some 421, some 422, none, some 423, some 424, some 425, some 426, some 427], [], [], [], [], [], [], [], [], [], [], [], [], [], [], [], [], [], [], [], [], [], [], [], [], [], [], [], [], [], [], [], [], [], [], [], [], [], [], []]
def RF (a k : Nat) : Option Nat := if 50 ≤ a ∧ a < 350 then (if (a - 50) % 6 = 0 then (if k = 0 then some 25 else if k < 6 then some (a + k) else none) else none) else if a = 49 then (if k < 50 then some (50 + 6 * k) else none) else (RFL.getD (if a < 50 then a else a - 300) []).getD k none
/-- where stairs stand -/
def ST (a : Nat) : Prop := a = 42 ∨ a = 352 ∨ a = 362 ∨ a = 370 ∨ a = 376 ∨ a = 382 ∨ ∃ i, i < 50 ∧ a = 50 + 6 * i
theorem ka_nI {n : Nat} {kd : Nat → am_K} {a t m p : Nat} (h1 : a < n) (h2 : kd a = .inr (t, m)) (h4 : m < 2 ^ 31) (h3 : p < m) : am_ka n kd a t (nI p) = true := ka_of h1 h2 (in_nI h3 h4)
theorem st_lt {a : Nat} (h : ST a) : a + 5 < 428 := by
  rcases h with rfl | rfl | rfl | rfl | rfl | rfl | ⟨i, hi, rfl⟩
  · decide
  · decide
  · decide
  · decide
  · decide
  · decide
  · omega
theorem st_k0 {a : Nat} (h : ST a) : KD a = .inl 4 := by
  rcases h with rfl | rfl | rfl | rfl | rfl | rfl | ⟨i, hi, rfl⟩
  · rfl
  · rfl
  · rfl
  · rfl
  · rfl
  · rfl
  · unfold KD; rw [if_pos (by omega), if_pos (by omega)]
theorem st_k1 {a : Nat} (h : ST a) : KD (a + 1) = .inr (0, 8) := by
  rcases h with rfl | rfl | rfl | rfl | rfl | rfl | ⟨i, hi, rfl⟩
  · rfl
  · rfl
  · rfl
  · rfl
  · rfl
  · rfl
  · unfold KD; rw [if_pos (by omega), if_neg (by omega), if_neg (by omega)]
theorem st_k2 {a : Nat} (h : ST a) : KD (a + 2) = .inr (2, 8) := by
  rcases h with rfl | rfl | rfl | rfl | rfl | rfl | ⟨i, hi, rfl⟩
  · rfl
  · rfl
  · rfl
  · rfl
  · rfl
  · rfl
  · unfold KD; rw [if_pos (by omega), if_neg (by omega), if_pos (by omega)]
theorem st_k3 {a : Nat} (h : ST a) : KD (a + 3) = .inr (0, 8) := by
  rcases h with rfl | rfl | rfl | rfl | rfl | rfl | ⟨i, hi, rfl⟩
  · rfl
  · rfl
  · rfl
  · rfl
  · rfl
  · rfl
  · unfold KD; rw [if_pos (by omega), if_neg (by omega), if_neg (by omega)]
theorem st_k4 {a : Nat} (h : ST a) : KD (a + 4) = .inr (0, 8) := by
  rcases h with rfl | rfl | rfl | rfl | rfl | rfl | ⟨i, hi, rfl⟩
  · rfl
  · rfl
  · rfl
  · rfl
  · rfl
  · rfl
  · unfold KD; rw [if_pos (by omega), if_neg (by omega), if_neg (by omega)]
theorem st_k5 {a : Nat} (h : ST a) : KD (a + 5) = .inr (0, 8) := by
  rcases h with rfl | rfl | rfl | rfl | rfl | rfl | ⟨i, hi, rfl⟩
  · rfl
  · rfl
  · rfl
  · rfl
  · rfl
  · rfl
  · unfold KD; rw [if_pos (by omega), if_neg (by omega), if_neg (by omega)]
theorem st_r0 {a : Nat} (h : ST a) : RF a 0 = some 25 := by
  rcases h with rfl | rfl | rfl | rfl | rfl | rfl | ⟨i, hi, rfl⟩
  · rfl
  · rfl
  · rfl
  · rfl
  · rfl
  · rfl
  · unfold RF; rw [if_pos (by omega), if_pos (by omega)]; rfl
theorem st_r1 {a : Nat} (h : ST a) : RF a 1 = some (a + 1) := by
  rcases h with rfl | rfl | rfl | rfl | rfl | rfl | ⟨i, hi, rfl⟩
  · rfl
  · rfl
  · rfl
  · rfl
  · rfl
  · rfl
  · unfold RF; rw [if_pos (by omega), if_pos (by omega)]; rfl
theorem st_r2 {a : Nat} (h : ST a) : RF a 2 = some (a + 2) := by
  rcases h with rfl | rfl | rfl | rfl | rfl | rfl | ⟨i, hi, rfl⟩
  · rfl
  · rfl
  · rfl
  · rfl
  · rfl
  · rfl
  · unfold RF; rw [if_pos (by omega), if_pos (by omega)]; rfl
theorem st_r3 {a : Nat} (h : ST a) : RF a 3 = some (a + 3) := by
  rcases h with rfl | rfl | rfl | rfl | rfl | rfl | ⟨i, hi, rfl⟩
  · rfl
  · rfl
  · rfl
  · rfl
  · rfl
  · rfl
  · unfold RF; rw [if_pos (by omega), if_pos (by omega)]; rfl
theorem st_r4 {a : Nat} (h : ST a) : RF a 4 = some (a + 4) := by
  rcases h with rfl | rfl | rfl | rfl | rfl | rfl | ⟨i, hi, rfl⟩
  · rfl
  · rfl
  · rfl
  · rfl
  · rfl
  · rfl
  · unfold RF; rw [if_pos (by omega), if_pos (by omega)]; rfl
theorem st_r5 {a : Nat} (h : ST a) : RF a 5 = some (a + 5) := by
  rcases h with rfl | rfl | rfl | rfl | rfl | rfl | ⟨i, hi, rfl⟩
  · rfl
  · rfl
  · rfl
  · rfl
  · rfl
  · rfl
  · unfold RF; rw [if_pos (by omega), if_pos (by omega)]; rfl
theorem kc_st {a : Nat} (h : ST a) : am_kc 428 KD a 4 = true := kc_of (by have := st_lt h; omega) (st_k0 h)
theorem ka_st1 {a p : Nat} (h : ST a) (hp : p < 8) : am_ka 428 KD (a + 1) 0 (nI p) = true := ka_nI (by have := st_lt h; omega) (st_k1 h) (by decide) hp
theorem ka_st2 {a p : Nat} (h : ST a) (hp : p < 8) : am_ka 428 KD (a + 2) 2 (nI p) = true := ka_nI (by have := st_lt h; omega) (st_k2 h) (by decide) hp
theorem ka_st3 {a p : Nat} (h : ST a) (hp : p < 8) : am_ka 428 KD (a + 3) 0 (nI p) = true := ka_nI (by have := st_lt h; omega) (st_k3 h) (by decide) hp
theorem ka_st4 {a p : Nat} (h : ST a) (hp : p < 8) : am_ka 428 KD (a + 4) 0 (nI p) = true := ka_nI (by have := st_lt h; omega) (st_k4 h) (by decide) hp
theorem ka_st5 {a p : Nat} (h : ST a) (hp : p < 8) : am_ka 428 KD (a + 5) 0 (nI p) = true := ka_nI (by have := st_lt h; omega) (st_k5 h) (by decide) hp
theorem kc_0 : am_kc 428 KD 0 8 = true := kc_of (by decide) rfl
theorem rf_0_0 : RF 0 0 = some 1 := rfl
theorem rf_0_3 : RF 0 3 = some 2 := rfl
theorem rf_0_4 : RF 0 4 = some 25 := rfl
theorem rf_0_5 : RF 0 5 = some 42 := rfl
theorem rf_0_6 : RF 0 6 = some 48 := rfl
theorem rf_0_7 : RF 0 7 = some 350 := rfl
theorem rf_0_8 : RF 0 8 = some 358 := rfl
theorem rf_0_9 : RF 0 9 = some 368 := rfl
theorem rf_0_10 : RF 0 10 = some 369 := rfl
theorem ka_1 {p : Nat} (hp : p < 2000) : am_ka 428 KD 1 1 (nI p) = true := ka_nI (by decide) rfl (by decide) hp
theorem kc_2 : am_kc 428 KD 2 3 = true := kc_of (by decide) rfl
theorem rf_2_0 : RF 2 0 = some 3 := rfl
theorem rf_2_2 : RF 2 2 = some 20 := rfl
theorem rf_2_3 : RF 2 3 = some 24 := rfl
theorem kc_3 : am_kc 428 KD 3 5 = true := kc_of (by decide) rfl
theorem rf_3_3 : RF 3 3 = some 4 := rfl
theorem rf_3_4 : RF 3 4 = some 5 := rfl
theorem rf_3_5 : RF 3 5 = some 6 := rfl
theorem rf_3_6 : RF 3 6 = some 7 := rfl
theorem rf_3_7 : RF 3 7 = some 8 := rfl
theorem rf_3_8 : RF 3 8 = some 9 := rfl
theorem rf_3_9 : RF 3 9 = some 10 := rfl
theorem rf_3_10 : RF 3 10 = some 15 := rfl
theorem ka_4 {p : Nat} (hp : p < 8) : am_ka 428 KD 4 0 (nI p) = true := ka_nI (by decide) rfl (by decide) hp
theorem ka_5 {p : Nat} (hp : p < 8) : am_ka 428 KD 5 0 (nI p) = true := ka_nI (by decide) rfl (by decide) hp
theorem ka_6 {p : Nat} (hp : p < 8) : am_ka 428 KD 6 0 (nI p) = true := ka_nI (by decide) rfl (by decide) hp
theorem ka_7 {p : Nat} (hp : p < 8) : am_ka 428 KD 7 0 (nI p) = true := ka_nI (by decide) rfl (by decide) hp
theorem ka_8 {p : Nat} (hp : p < 8) : am_ka 428 KD 8 0 (nI p) = true := ka_nI (by decide) rfl (by decide) hp
theorem ka_9 {p : Nat} (hp : p < 8) : am_ka 428 KD 9 2 (nI p) = true := ka_nI (by decide) rfl (by decide) hp
theorem kc_10 : am_kc 428 KD 10 1 = true := kc_of (by decide) rfl
theorem rf_10_0 : RF 10 0 = some 11 := rfl
theorem rf_10_1 : RF 10 1 = some 12 := rfl
theorem rf_10_3 : RF 10 3 = some 13 := rfl
theorem rf_10_4 : RF 10 4 = some 14 := rfl
theorem ka_11 {p : Nat} (hp : p < 400) : am_ka 428 KD 11 0 (nI p) = true := ka_nI (by decide) rfl (by decide) hp
theorem ka_12 {p : Nat} (hp : p < 400) : am_ka 428 KD 12 0 (nI p) = true := ka_nI (by decide) rfl (by decide) hp
theorem ka_13 {p : Nat} (hp : p < 8) : am_ka 428 KD 13 0 (nI p) = true := ka_nI (by decide) rfl (by decide) hp
theorem ka_14 {p : Nat} (hp : p < 24) : am_ka 428 KD 14 0 (nI p) = true := ka_nI (by decide) rfl (by decide) hp
theorem kc_15 : am_kc 428 KD 15 1 = true := kc_of (by decide) rfl
theorem rf_15_0 : RF 15 0 = some 16 := rfl
theorem rf_15_1 : RF 15 1 = some 17 := rfl
theorem rf_15_3 : RF 15 3 = some 18 := rfl
theorem rf_15_4 : RF 15 4 = some 19 := rfl
theorem ka_16 {p : Nat} (hp : p < 400) : am_ka 428 KD 16 0 (nI p) = true := ka_nI (by decide) rfl (by decide) hp
theorem ka_17 {p : Nat} (hp : p < 400) : am_ka 428 KD 17 0 (nI p) = true := ka_nI (by decide) rfl (by decide) hp
theorem ka_18 {p : Nat} (hp : p < 8) : am_ka 428 KD 18 0 (nI p) = true := ka_nI (by decide) rfl (by decide) hp
theorem ka_19 {p : Nat} (hp : p < 24) : am_ka 428 KD 19 0 (nI p) = true := ka_nI (by decide) rfl (by decide) hp
theorem kc_20 : am_kc 428 KD 20 6 = true := kc_of (by decide) rfl
theorem rf_20_0 : RF 20 0 = some 21 := rfl
theorem rf_20_1 : RF 20 1 = some 22 := rfl
theorem rf_20_2 : RF 20 2 = some 23 := rfl
theorem ka_21 {p : Nat} (hp : p < 401) : am_ka 428 KD 21 0 (nI p) = true := ka_nI (by decide) rfl (by decide) hp
theorem ka_22 {p : Nat} (hp : p < 401) : am_ka 428 KD 22 0 (nI p) = true := ka_nI (by decide) rfl (by decide) hp
theorem ka_23 {p : Nat} (hp : p < 401) : am_ka 428 KD 23 3 (nI p) = true := ka_nI (by decide) rfl (by decide) hp
theorem ka_24 {p : Nat} (hp : p < 8) : am_ka 428 KD 24 3 (nI p) = true := ka_nI (by decide) rfl (by decide) hp
theorem kc_25 : am_kc 428 KD 25 5 = true := kc_of (by decide) rfl
theorem rf_25_3 : RF 25 3 = some 26 := rfl
theorem rf_25_4 : RF 25 4 = some 27 := rfl
theorem rf_25_5 : RF 25 5 = some 28 := rfl
theorem rf_25_6 : RF 25 6 = some 29 := rfl
theorem rf_25_7 : RF 25 7 = some 30 := rfl
theorem rf_25_8 : RF 25 8 = some 31 := rfl
theorem rf_25_9 : RF 25 9 = some 32 := rfl
theorem rf_25_10 : RF 25 10 = some 37 := rfl
theorem ka_26 {p : Nat} (hp : p < 8) : am_ka 428 KD 26 0 (nI p) = true := ka_nI (by decide) rfl (by decide) hp
theorem ka_27 {p : Nat} (hp : p < 8) : am_ka 428 KD 27 0 (nI p) = true := ka_nI (by decide) rfl (by decide) hp
theorem ka_28 {p : Nat} (hp : p < 8) : am_ka 428 KD 28 0 (nI p) = true := ka_nI (by decide) rfl (by decide) hp
theorem ka_29 {p : Nat} (hp : p < 8) : am_ka 428 KD 29 0 (nI p) = true := ka_nI (by decide) rfl (by decide) hp
theorem ka_30 {p : Nat} (hp : p < 8) : am_ka 428 KD 30 0 (nI p) = true := ka_nI (by decide) rfl (by decide) hp
theorem ka_31 {p : Nat} (hp : p < 8) : am_ka 428 KD 31 2 (nI p) = true := ka_nI (by decide) rfl (by decide) hp
theorem kc_32 : am_kc 428 KD 32 1 = true := kc_of (by decide) rfl
theorem rf_32_0 : RF 32 0 = some 33 := rfl
theorem rf_32_1 : RF 32 1 = some 34 := rfl
theorem rf_32_3 : RF 32 3 = some 35 := rfl
theorem rf_32_4 : RF 32 4 = some 36 := rfl
theorem ka_33 {p : Nat} (hp : p < 400) : am_ka 428 KD 33 0 (nI p) = true := ka_nI (by decide) rfl (by decide) hp
theorem ka_34 {p : Nat} (hp : p < 400) : am_ka 428 KD 34 0 (nI p) = true := ka_nI (by decide) rfl (by decide) hp
theorem ka_35 {p : Nat} (hp : p < 8) : am_ka 428 KD 35 0 (nI p) = true := ka_nI (by decide) rfl (by decide) hp
theorem ka_36 {p : Nat} (hp : p < 24) : am_ka 428 KD 36 0 (nI p) = true := ka_nI (by decide) rfl (by decide) hp
theorem kc_37 : am_kc 428 KD 37 1 = true := kc_of (by decide) rfl
theorem rf_37_0 : RF 37 0 = some 38 := rfl
theorem rf_37_1 : RF 37 1 = some 39 := rfl
theorem rf_37_3 : RF 37 3 = some 40 := rfl
theorem rf_37_4 : RF 37 4 = some 41 := rfl
theorem ka_38 {p : Nat} (hp : p < 400) : am_ka 428 KD 38 0 (nI p) = true := ka_nI (by decide) rfl (by decide) hp
theorem ka_39 {p : Nat} (hp : p < 400) : am_ka 428 KD 39 0 (nI p) = true := ka_nI (by decide) rfl (by decide) hp
theorem ka_40 {p : Nat} (hp : p < 8) : am_ka 428 KD 40 0 (nI p) = true := ka_nI (by decide) rfl (by decide) hp
theorem ka_41 {p : Nat} (hp : p < 24) : am_ka 428 KD 41 0 (nI p) = true := ka_nI (by decide) rfl (by decide) hp
theorem kc_42 : am_kc 428 KD 42 4 = true := kc_of (by decide) rfl
theorem rf_42_0 : RF 42 0 = some 25 := rfl
theorem rf_42_1 : RF 42 1 = some 43 := rfl
theorem rf_42_2 : RF 42 2 = some 44 := rfl
theorem rf_42_3 : RF 42 3 = some 45 := rfl
theorem rf_42_4 : RF 42 4 = some 46 := rfl
theorem rf_42_5 : RF 42 5 = some 47 := rfl
theorem ka_43 {p : Nat} (hp : p < 8) : am_ka 428 KD 43 0 (nI p) = true := ka_nI (by decide) rfl (by decide) hp
theorem ka_44 {p : Nat} (hp : p < 8) : am_ka 428 KD 44 2 (nI p) = true := ka_nI (by decide) rfl (by decide) hp
theorem ka_45 {p : Nat} (hp : p < 8) : am_ka 428 KD 45 0 (nI p) = true := ka_nI (by decide) rfl (by decide) hp
theorem ka_46 {p : Nat} (hp : p < 8) : am_ka 428 KD 46 0 (nI p) = true := ka_nI (by decide) rfl (by decide) hp
theorem ka_47 {p : Nat} (hp : p < 8) : am_ka 428 KD 47 0 (nI p) = true := ka_nI (by decide) rfl (by decide) hp
theorem kc_48 : am_kc 428 KD 48 2 = true := kc_of (by decide) rfl
theorem rf_48_0 : RF 48 0 = some 49 := rfl
theorem ka_49 {p : Nat} (hp : p < 50) : am_ka 428 KD 49 4 (nI p) = true := ka_nI (by decide) rfl (by decide) hp
theorem kc_350 : am_kc 428 KD 350 0 = true := kc_of (by decide) rfl
theorem rf_350_0 : RF 350 0 = some 25 := rfl
theorem rf_350_1 : RF 350 1 = some 42 := rfl
theorem rf_350_2 : RF 350 2 = some 352 := rfl
theorem rf_350_3 : RF 350 3 = some 351 := rfl
theorem ka_351 {p : Nat} (hp : p < 2048) : am_ka 428 KD 351 0 (nI p) = true := ka_nI (by decide) rfl (by decide) hp
theorem kc_352 : am_kc 428 KD 352 4 = true := kc_of (by decide) rfl
theorem rf_352_0 : RF 352 0 = some 25 := rfl
theorem rf_352_1 : RF 352 1 = some 353 := rfl
theorem rf_352_2 : RF 352 2 = some 354 := rfl
theorem rf_352_3 : RF 352 3 = some 355 := rfl
theorem rf_352_4 : RF 352 4 = some 356 := rfl
theorem rf_352_5 : RF 352 5 = some 357 := rfl
theorem ka_353 {p : Nat} (hp : p < 8) : am_ka 428 KD 353 0 (nI p) = true := ka_nI (by decide) rfl (by decide) hp
theorem ka_354 {p : Nat} (hp : p < 8) : am_ka 428 KD 354 2 (nI p) = true := ka_nI (by decide) rfl (by decide) hp
theorem ka_355 {p : Nat} (hp : p < 8) : am_ka 428 KD 355 0 (nI p) = true := ka_nI (by decide) rfl (by decide) hp
theorem ka_356 {p : Nat} (hp : p < 8) : am_ka 428 KD 356 0 (nI p) = true := ka_nI (by decide) rfl (by decide) hp
theorem ka_357 {p : Nat} (hp : p < 8) : am_ka 428 KD 357 0 (nI p) = true := ka_nI (by decide) rfl (by decide) hp
theorem kc_358 : am_kc 428 KD 358 7 = true := kc_of (by decide) rfl
theorem rf_358_0 : RF 358 0 = some 25 := rfl
theorem rf_358_1 : RF 358 1 = some 362 := rfl
theorem rf_358_2 : RF 358 2 = some 359 := rfl
theorem rf_358_3 : RF 358 3 = some 360 := rfl
theorem rf_358_4 : RF 358 4 = some 361 := rfl
theorem ka_359 {p : Nat} (hp : p < 20) : am_ka 428 KD 359 0 (nI p) = true := ka_nI (by decide) rfl (by decide) hp
theorem ka_360 {p : Nat} (hp : p < 20) : am_ka 428 KD 360 0 (nI p) = true := ka_nI (by decide) rfl (by decide) hp
theorem ka_361 {p : Nat} (hp : p < 20) : am_ka 428 KD 361 0 (nI p) = true := ka_nI (by decide) rfl (by decide) hp
theorem kc_362 : am_kc 428 KD 362 4 = true := kc_of (by decide) rfl
theorem rf_362_0 : RF 362 0 = some 25 := rfl
theorem rf_362_1 : RF 362 1 = some 363 := rfl
theorem rf_362_2 : RF 362 2 = some 364 := rfl
theorem rf_362_3 : RF 362 3 = some 365 := rfl
theorem rf_362_4 : RF 362 4 = some 366 := rfl
theorem rf_362_5 : RF 362 5 = some 367 := rfl
theorem ka_363 {p : Nat} (hp : p < 8) : am_ka 428 KD 363 0 (nI p) = true := ka_nI (by decide) rfl (by decide) hp
theorem ka_364 {p : Nat} (hp : p < 8) : am_ka 428 KD 364 2 (nI p) = true := ka_nI (by decide) rfl (by decide) hp
theorem ka_365 {p : Nat} (hp : p < 8) : am_ka 428 KD 365 0 (nI p) = true := ka_nI (by decide) rfl (by decide) hp
theorem ka_366 {p : Nat} (hp : p < 8) : am_ka 428 KD 366 0 (nI p) = true := ka_nI (by decide) rfl (by decide) hp
theorem ka_367 {p : Nat} (hp : p < 8) : am_ka 428 KD 367 0 (nI p) = true := ka_nI (by decide) rfl (by decide) hp
theorem ka_368 {p : Nat} (hp : p < 3) : am_ka 428 KD 368 4 (nI p) = true := ka_nI (by decide) rfl (by decide) hp
theorem ka_369 {p : Nat} (hp : p < 3) : am_ka 428 KD 369 2 (nI p) = true := ka_nI (by decide) rfl (by decide) hp
theorem kc_370 : am_kc 428 KD 370 4 = true := kc_of (by decide) rfl
theorem rf_370_0 : RF 370 0 = some 25 := rfl
theorem rf_370_1 : RF 370 1 = some 371 := rfl
theorem rf_370_2 : RF 370 2 = some 372 := rfl
theorem rf_370_3 : RF 370 3 = some 373 := rfl
theorem rf_370_4 : RF 370 4 = some 374 := rfl
theorem rf_370_5 : RF 370 5 = some 375 := rfl
theorem ka_371 {p : Nat} (hp : p < 8) : am_ka 428 KD 371 0 (nI p) = true := ka_nI (by decide) rfl (by decide) hp
theorem ka_372 {p : Nat} (hp : p < 8) : am_ka 428 KD 372 2 (nI p) = true := ka_nI (by decide) rfl (by decide) hp
theorem ka_373 {p : Nat} (hp : p < 8) : am_ka 428 KD 373 0 (nI p) = true := ka_nI (by decide) rfl (by decide) hp
theorem ka_374 {p : Nat} (hp : p < 8) : am_ka 428 KD 374 0 (nI p) = true := ka_nI (by decide) rfl (by decide) hp
theorem ka_375 {p : Nat} (hp : p < 8) : am_ka 428 KD 375 0 (nI p) = true := ka_nI (by decide) rfl (by decide) hp
theorem kc_376 : am_kc 428 KD 376 4 = true := kc_of (by decide) rfl
theorem rf_376_0 : RF 376 0 = some 25 := rfl
theorem rf_376_1 : RF 376 1 = some 377 := rfl
theorem rf_376_2 : RF 376 2 = some 378 := rfl
theorem rf_376_3 : RF 376 3 = some 379 := rfl
theorem rf_376_4 : RF 376 4 = some 380 := rfl
theorem rf_376_5 : RF 376 5 = some 381 := rfl
theorem ka_377 {p : Nat} (hp : p < 8) : am_ka 428 KD 377 0 (nI p) = true := ka_nI (by decide) rfl (by decide) hp
theorem ka_378 {p : Nat} (hp : p < 8) : am_ka 428 KD 378 2 (nI p) = true := ka_nI (by decide) rfl (by decide) hp
theorem ka_379 {p : Nat} (hp : p < 8) : am_ka 428 KD 379 0 (nI p) = true := ka_nI (by decide) rfl (by decide) hp
theorem ka_380 {p : Nat} (hp : p < 8) : am_ka 428 KD 380 0 (nI p) = true := ka_nI (by decide) rfl (by decide) hp
theorem ka_381 {p : Nat} (hp : p < 8) : am_ka 428 KD 381 0 (nI p) = true := ka_nI (by decide) rfl (by decide) hp
theorem kc_382 : am_kc 428 KD 382 4 = true := kc_of (by decide) rfl
theorem rf_382_0 : RF 382 0 = some 25 := rfl
theorem rf_382_1 : RF 382 1 = some 383 := rfl
theorem rf_382_2 : RF 382 2 = some 384 := rfl
theorem rf_382_3 : RF 382 3 = some 385 := rfl
theorem rf_382_4 : RF 382 4 = some 386 := rfl
theorem rf_382_5 : RF 382 5 = some 387 := rfl
theorem ka_383 {p : Nat} (hp : p < 8) : am_ka 428 KD 383 0 (nI p) = true := ka_nI (by decide) rfl (by decide) hp
theorem ka_384 {p : Nat} (hp : p < 8) : am_ka 428 KD 384 2 (nI p) = true := ka_nI (by decide) rfl (by decide) hp
theorem ka_385 {p : Nat} (hp : p < 8) : am_ka 428 KD 385 0 (nI p) = true := ka_nI (by decide) rfl (by decide) hp
theorem ka_386 {p : Nat} (hp : p < 8) : am_ka 428 KD 386 0 (nI p) = true := ka_nI (by decide) rfl (by decide) hp
theorem ka_387 {p : Nat} (hp : p < 8) : am_ka 428 KD 387 0 (nI p) = true := ka_nI (by decide) rfl (by decide) hp
theorem kc_388 : am_kc 428 KD 388 9 = true := kc_of (by decide) rfl
theorem rf_388_1 : RF 388 1 = some 389 := rfl
theorem rf_388_3 : RF 388 3 = some 390 := rfl
theorem rf_388_5 : RF 388 5 = some 391 := rfl
theorem rf_388_6 : RF 388 6 = some 392 := rfl
theorem rf_388_7 : RF 388 7 = some 393 := rfl
theorem rf_388_8 : RF 388 8 = some 394 := rfl
theorem rf_388_9 : RF 388 9 = some 395 := rfl
theorem rf_388_21 : RF 388 21 = some 396 := rfl
theorem rf_388_22 : RF 388 22 = some 397 := rfl
theorem rf_388_23 : RF 388 23 = some 398 := rfl
theorem rf_388_24 : RF 388 24 = some 399 := rfl
theorem rf_388_25 : RF 388 25 = some 400 := rfl
theorem rf_388_26 : RF 388 26 = some 401 := rfl
theorem rf_388_27 : RF 388 27 = some 402 := rfl
theorem rf_388_28 : RF 388 28 = some 403 := rfl
theorem rf_388_29 : RF 388 29 = some 404 := rfl
theorem rf_388_30 : RF 388 30 = some 405 := rfl
theorem rf_388_31 : RF 388 31 = some 406 := rfl
theorem rf_388_32 : RF 388 32 = some 407 := rfl
theorem rf_388_34 : RF 388 34 = some 408 := rfl
theorem rf_388_35 : RF 388 35 = some 409 := rfl
theorem rf_388_36 : RF 388 36 = some 410 := rfl
theorem rf_388_37 : RF 388 37 = some 411 := rfl
theorem rf_388_38 : RF 388 38 = some 412 := rfl
theorem rf_388_40 : RF 388 40 = some 413 := rfl
theorem rf_388_41 : RF 388 41 = some 414 := rfl
theorem rf_388_42 : RF 388 42 = some 415 := rfl
theorem rf_388_44 : RF 388 44 = some 416 := rfl
theorem rf_388_45 : RF 388 45 = some 417 := rfl
theorem rf_388_47 : RF 388 47 = some 418 := rfl
theorem rf_388_48 : RF 388 48 = some 419 := rfl
theorem rf_388_52 : RF 388 52 = some 420 := rfl
theorem rf_388_53 : RF 388 53 = some 421 := rfl
theorem rf_388_54 : RF 388 54 = some 422 := rfl
theorem rf_388_56 : RF 388 56 = some 423 := rfl
theorem rf_388_57 : RF 388 57 = some 424 := rfl
theorem rf_388_58 : RF 388 58 = some 425 := rfl
theorem rf_388_59 : RF 388 59 = some 426 := rfl
theorem rf_388_60 : RF 388 60 = some 427 := rfl
theorem ka_389 {p : Nat} (hp : p < 2000) : am_ka 428 KD 389 1 (nI p) = true := ka_nI (by decide) rfl (by decide) hp
theorem ka_390 {p : Nat} (hp : p < 2000) : am_ka 428 KD 390 1 (nI p) = true := ka_nI (by decide) rfl (by decide) hp
theorem ka_391 {p : Nat} (hp : p < 403) : am_ka 428 KD 391 0 (nI p) = true := ka_nI (by decide) rfl (by decide) hp
theorem ka_392 {p : Nat} (hp : p < 403) : am_ka 428 KD 392 0 (nI p) = true := ka_nI (by decide) rfl (by decide) hp
theorem ka_393 {p : Nat} (hp : p < 403) : am_ka 428 KD 393 0 (nI p) = true := ka_nI (by decide) rfl (by decide) hp
theorem ka_394 {p : Nat} (hp : p < 403) : am_ka 428 KD 394 3 (nI p) = true := ka_nI (by decide) rfl (by decide) hp
theorem ka_395 {p : Nat} (hp : p < 17) : am_ka 428 KD 395 3 (nI p) = true := ka_nI (by decide) rfl (by decide) hp
theorem ka_396 {p : Nat} (hp : p < 8) : am_ka 428 KD 396 3 (nI p) = true := ka_nI (by decide) rfl (by decide) hp
theorem ka_397 {p : Nat} (hp : p < 2) : am_ka 428 KD 397 0 (nI p) = true := ka_nI (by decide) rfl (by decide) hp
theorem ka_398 {p : Nat} (hp : p < 2) : am_ka 428 KD 398 0 (nI p) = true := ka_nI (by decide) rfl (by decide) hp
theorem ka_399 {p : Nat} (hp : p < 16) : am_ka 428 KD 399 0 (nI p) = true := ka_nI (by decide) rfl (by decide) hp
theorem ka_400 {p : Nat} (hp : p < 16) : am_ka 428 KD 400 0 (nI p) = true := ka_nI (by decide) rfl (by decide) hp
theorem ka_401 {p : Nat} (hp : p < 16) : am_ka 428 KD 401 0 (nI p) = true := ka_nI (by decide) rfl (by decide) hp
theorem ka_402 {p : Nat} (hp : p < 16) : am_ka 428 KD 402 0 (nI p) = true := ka_nI (by decide) rfl (by decide) hp
theorem ka_403 {p : Nat} (hp : p < 16) : am_ka 428 KD 403 0 (nI p) = true := ka_nI (by decide) rfl (by decide) hp
theorem ka_404 {p : Nat} (hp : p < 16) : am_ka 428 KD 404 2 (nI p) = true := ka_nI (by decide) rfl (by decide) hp
theorem ka_405 {p : Nat} (hp : p < 2) : am_ka 428 KD 405 0 (nI p) = true := ka_nI (by decide) rfl (by decide) hp
theorem ka_406 {p : Nat} (hp : p < 4) : am_ka 428 KD 406 0 (nI p) = true := ka_nI (by decide) rfl (by decide) hp
theorem ka_407 {p : Nat} (hp : p < 4) : am_ka 428 KD 407 0 (nI p) = true := ka_nI (by decide) rfl (by decide) hp
theorem ka_408 {p : Nat} (hp : p < 260) : am_ka 428 KD 408 2 (nI p) = true := ka_nI (by decide) rfl (by decide) hp
theorem ka_409 {p : Nat} (hp : p < 260) : am_ka 428 KD 409 0 (nI p) = true := ka_nI (by decide) rfl (by decide) hp
theorem ka_410 {p : Nat} (hp : p < 260) : am_ka 428 KD 410 0 (nI p) = true := ka_nI (by decide) rfl (by decide) hp
theorem ka_411 {p : Nat} (hp : p < 260) : am_ka 428 KD 411 0 (nI p) = true := ka_nI (by decide) rfl (by decide) hp
theorem ka_412 {p : Nat} (hp : p < 260) : am_ka 428 KD 412 0 (nI p) = true := ka_nI (by decide) rfl (by decide) hp
theorem ka_413 {p : Nat} (hp : p < 840) : am_ka 428 KD 413 0 (nI p) = true := ka_nI (by decide) rfl (by decide) hp
theorem ka_414 {p : Nat} (hp : p < 840) : am_ka 428 KD 414 0 (nI p) = true := ka_nI (by decide) rfl (by decide) hp
theorem ka_415 {p : Nat} (hp : p < 64) : am_ka 428 KD 415 0 (nI p) = true := ka_nI (by decide) rfl (by decide) hp
theorem ka_416 {p : Nat} (hp : p < 8) : am_ka 428 KD 416 0 (nI p) = true := ka_nI (by decide) rfl (by decide) hp
theorem ka_417 {p : Nat} (hp : p < 400) : am_ka 428 KD 417 0 (nI p) = true := ka_nI (by decide) rfl (by decide) hp
theorem ka_418 {p : Nat} (hp : p < 50) : am_ka 428 KD 418 0 (nI p) = true := ka_nI (by decide) rfl (by decide) hp
theorem ka_419 {p : Nat} (hp : p < 50) : am_ka 428 KD 419 0 (nI p) = true := ka_nI (by decide) rfl (by decide) hp
theorem ka_420 {p : Nat} (hp : p < 2500) : am_ka 428 KD 420 0 (nI p) = true := ka_nI (by decide) rfl (by decide) hp
theorem ka_421 {p : Nat} (hp : p < 2048) : am_ka 428 KD 421 0 (nI p) = true := ka_nI (by decide) rfl (by decide) hp
theorem ka_422 {p : Nat} (hp : p < 256) : am_ka 428 KD 422 2 (nI p) = true := ka_nI (by decide) rfl (by decide) hp
theorem ka_423 {p : Nat} (hp : p < 20) : am_ka 428 KD 423 0 (nI p) = true := ka_nI (by decide) rfl (by decide) hp
theorem ka_424 {p : Nat} (hp : p < 20) : am_ka 428 KD 424 0 (nI p) = true := ka_nI (by decide) rfl (by decide) hp
theorem ka_425 {p : Nat} (hp : p < 20) : am_ka 428 KD 425 0 (nI p) = true := ka_nI (by decide) rfl (by decide) hp
theorem ka_426 {p : Nat} (hp : p < 3) : am_ka 428 KD 426 2 (nI p) = true := ka_nI (by decide) rfl (by decide) hp
theorem ka_427 {p : Nat} (hp : p < 150) : am_ka 428 KD 427 0 (nI p) = true := ka_nI (by decide) rfl (by decide) hp
theorem rf_49 {i : Nat} (hi : i < 50) : RF 49 i = some (50 + 6 * i) := by
  unfold RF
  rw [if_neg (by omega), if_pos rfl, if_pos hi]
theorem rf_368 {i : Nat} (hi : i < 3) : RF 368 i = some (370 + 6 * i) := by
  match i, hi with
  | 0, _ => rfl
  | 1, _ => rfl
  | 2, _ => rfl
