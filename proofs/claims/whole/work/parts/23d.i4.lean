/-! laid by wip/whole/i4.py: all methods are in the tables; the classes' own words; the law's own stretches -/
def clN (c : Nat) : String := [RX0, RX1, RX2, RX3, RX4, RX5, RX6, RX7, RX8, RX9].getD c ""
def mcB (m : Nat) : Bool := decide ((am_Ms m).1.cls = clN (am_Ms m).2.2.2.2.2) && (decide ((am_Ms m).2.2.2.2.2 < 10) && decide ((am_Pr m).1 = (am_Ms m).2.2.1))
theorem mc_all : (List.range 224).all mcB = true := by decide +kernel
theorem lk_17 : (List.range 10).all (fun c => !(am_Lk c).contains (17, 0, 0, 0)) = true := by decide +kernel
theorem lk_all : ∀ c, c < 10 → ∀ t ∈ am_Lk c, am_lk vwCl am_T (clN c) am_Ms t
  | 0, _ => lk_ok0
  | 1, _ => lk_ok1
  | 2, _ => lk_ok2
  | 3, _ => lk_ok3
  | 4, _ => lk_ok4
  | 5, _ => lk_ok5
  | 6, _ => lk_ok6
  | 7, _ => lk_ok7
  | 8, _ => lk_ok8
  | 9, _ => lk_ok9
  | n + 10, h => absurd h (by omega)
theorem ok_all : ∀ m, m < 224 → am_ok1 m
  | 0, _ => ok_0
  | 1, _ => ok_1
  | 2, _ => ok_2
  | 3, _ => ok_3
  | 4, _ => ok_4
  | 5, _ => ok_5
  | 6, _ => ok_6
  | 7, _ => ok_7
  | 8, _ => ok_8
  | 9, _ => ok_9
  | 10, _ => ok_10
  | 11, _ => ok_11
  | 12, _ => ok_12
  | 13, _ => ok_13
  | 14, _ => ok_14
  | 15, _ => ok_15
  | 16, _ => ok_16
  | 17, _ => ok_17
  | 18, _ => ok_18
  | 19, _ => ok_19
  | 20, _ => ok_20
  | 21, _ => ok_21
  | 22, _ => ok_22
  | 23, _ => ok_23
  | 24, _ => ok_24
  | 25, _ => ok_25
  | 26, _ => ok_26
  | 27, _ => ok_27
  | 28, _ => ok_28
  | 29, _ => ok_29
  | 30, _ => ok_30
  | 31, _ => ok_31
  | 32, _ => ok_32
  | 33, _ => ok_33
  | 34, _ => ok_34
  | 35, _ => ok_35
  | 36, _ => ok_36
  | 37, _ => ok_37
  | 38, _ => ok_38
  | 39, _ => ok_39
  | 40, _ => ok_40
  | 41, _ => ok_41
  | 42, _ => ok_42
  | 43, _ => ok_43
  | 44, _ => ok_44
  | 45, _ => ok_45
  | 46, _ => ok_46
  | 47, _ => ok_47
  | 48, _ => ok_48
  | 49, _ => ok_49
  | 50, _ => ok_50
  | 51, _ => ok_51
  | 52, _ => ok_52
  | 53, _ => ok_53
  | 54, _ => ok_54
  | 55, _ => ok_55
  | 56, _ => ok_56
  | 57, _ => ok_57
  | 58, _ => ok_58
  | 59, _ => ok_59
  | 60, _ => ok_60
  | 61, _ => ok_61
  | 62, _ => ok_62
  | 63, _ => ok_63
  | 64, _ => ok_64
  | 65, _ => ok_65
  | 66, _ => ok_66
  | 67, _ => ok_67
  | 68, _ => ok_68
  | 69, _ => ok_69
  | 70, _ => ok_70
  | 71, _ => ok_71
  | 72, _ => ok_72
  | 73, _ => ok_73
  | 74, _ => ok_74
  | 75, _ => ok_75
  | 76, _ => ok_76
  | 77, _ => ok_77
  | 78, _ => ok_78
  | 79, _ => ok_79
  | 80, _ => ok_80
  | 81, _ => ok_81
  | 82, _ => ok_82
  | 83, _ => ok_83
  | 84, _ => ok_84
  | 85, _ => ok_85
  | 86, _ => ok_86
  | 87, _ => ok_87
  | 88, _ => ok_88
  | 89, _ => ok_89
  | 90, _ => ok_90
  | 91, _ => ok_91
  | 92, _ => ok_92
  | 93, _ => ok_93
  | 94, _ => ok_94
  | 95, _ => ok_95
  | 96, _ => ok_96
  | 97, _ => ok_97
  | 98, _ => ok_98
  | 99, _ => ok_99
  | 100, _ => ok_100
  | 101, _ => ok_101
  | 102, _ => ok_102
  | 103, _ => ok_103
  | 104, _ => ok_104
  | 105, _ => ok_105
  | 106, _ => ok_106
  | 107, _ => ok_107
  | 108, _ => ok_108
  | 109, _ => ok_109
  | 110, _ => ok_110
  | 111, _ => ok_111
  | 112, _ => ok_112
  | 113, _ => ok_113
  | 114, _ => ok_114
  | 115, _ => ok_115
  | 116, _ => ok_116
  | 117, _ => ok_117
  | 118, _ => ok_118
  | 119, _ => ok_119
  | 120, _ => ok_120
  | 121, _ => ok_121
  | 122, _ => ok_122
  | 123, _ => ok_123
  | 124, _ => ok_124
  | 125, _ => ok_125
  | 126, _ => ok_126
  | 127, _ => ok_127
  | 128, _ => ok_128
  | 129, _ => ok_129
  | 130, _ => ok_130
  | 131, _ => ok_131
  | 132, _ => ok_132
  | 133, _ => ok_133
  | 134, _ => ok_134
  | 135, _ => ok_135
  | 136, _ => ok_136
  | 137, _ => ok_137
  | 138, _ => ok_138
  | 139, _ => ok_139
  | 140, _ => ok_140
  | 141, _ => ok_141
  | 142, _ => ok_142
  | 143, _ => ok_143
  | 144, _ => ok_144
  | 145, _ => ok_145
  | 146, _ => ok_146
  | 147, _ => ok_147
  | 148, _ => ok_148
  | 149, _ => ok_149
  | 150, _ => ok_150
  | 151, _ => ok_151
  | 152, _ => ok_152
  | 153, _ => ok_153
  | 154, _ => ok_154
  | 155, _ => ok_155
  | 156, _ => ok_156
  | 157, _ => ok_157
  | 158, _ => ok_158
  | 159, _ => ok_159
  | 160, _ => ok_160
  | 161, _ => ok_161
  | 162, _ => ok_162
  | 163, _ => ok_163
  | 164, _ => ok_164
  | 165, _ => ok_165
  | 166, _ => ok_166
  | 167, _ => ok_167
  | 168, _ => ok_168
  | 169, _ => ok_169
  | 170, _ => ok_170
  | 171, _ => ok_171
  | 172, _ => ok_172
  | 173, _ => ok_173
  | 174, _ => ok_174
  | 175, _ => ok_175
  | 176, _ => ok_176
  | 177, _ => ok_177
  | 178, _ => ok_178
  | 179, _ => ok_179
  | 180, _ => ok_180
  | 181, _ => ok_181
  | 182, _ => ok_182
  | 183, _ => ok_183
  | 184, _ => ok_184
  | 185, _ => ok_185
  | 186, _ => ok_186
  | 187, _ => ok_187
  | 188, _ => ok_188
  | 189, _ => ok_189
  | 190, _ => ok_190
  | 191, _ => ok_191
  | 192, _ => ok_192
  | 193, _ => ok_193
  | 194, _ => ok_194
  | 195, _ => ok_195
  | 196, _ => ok_196
  | 197, _ => ok_197
  | 198, _ => ok_198
  | 199, _ => ok_199
  | 200, _ => ok_200
  | 201, _ => ok_201
  | 202, _ => ok_202
  | 203, _ => ok_203
  | 204, _ => ok_204
  | 205, _ => ok_205
  | 206, _ => ok_206
  | 207, _ => ok_207
  | 208, _ => ok_208
  | 209, _ => ok_209
  | 210, _ => ok_210
  | 211, _ => ok_211
  | 212, _ => ok_212
  | 213, _ => ok_213
  | 214, _ => ok_214
  | 215, _ => ok_215
  | 216, _ => ok_216
  | 217, _ => ok_217
  | 218, _ => ok_218
  | 219, _ => ok_219
  | 220, _ => ok_220
  | 221, _ => ok_221
  | 222, _ => ok_222
  | 223, _ => ok_223
  | n + 224, h => absurd h (by omega)
theorem pg_all (m : Nat) (h0 : (am_Pr m).2 0 ≠ []) : am_pg vwCl am_T am_tf am_Ms am_Pr (fun m => am_Lk (am_Ms m).2.2.2.2.2) m := by
  have hm : m < 224 := by
    rcases Nat.lt_or_ge m 224 with h | h
    · exact h
    · exfalso
      apply h0
      have hl : am_PL.length = 224 := rfl
      unfold am_Pr
      rw [List.getD_eq_getElem?_getD, List.getElem?_eq_none (by rw [hl]; exact h)]
      rfl
  have h1 := List.all_eq_true.mp mc_all m (List.mem_range.mpr hm)
  unfold mcB at h1
  simp only [Bool.and_eq_true, decide_eq_true_eq] at h1
  obtain ⟨e1, e2, e3⟩ := h1
  have h2 := List.all_eq_true.mp lk_17 _ (List.mem_range.mpr e2)
  refine ⟨(am_mo_all hm).2, e3, ?_, ok_all m hm, ?_⟩
  · rw [e1]
    exact lk_all _ e2
  · intro z
    rw [Bool.not_eq_true', ← Bool.not_eq_true] at h2
    exact h2 (List.contains_iff_mem.mpr z)
def lkL : List am_L := (17, 0, 0, 0) :: lk_XL.map (fun t => t.1)
theorem lkL_ok : ∀ t ∈ lkL, am_lk vwCl am_T "KneeStairLaw" am_Ms t := by
  intro t ht
  rcases List.mem_cons.mp ht with rfl | ht
  · trivial
  · exact am_lks_of (L := lk_XL) (by decide +kernel) t ht
theorem pg_law : ∀ pc, k_law pc = [] ∨ am_chk lkL false ret am_tf am_Ms code pc (k_law pc) = true := by
  intro pc
  unfold k_law
  split <;> first | exact Or.inl rfl | exact Or.inr (by decide +kernel)
def tbB (c : Nat) : Bool := match vwCl[c]? with
  | some r => (u_ws r.1 r.2.1 r.2.2).all (fun w => decide (w ∈ lw_tbl) && goodWord w) && ((List.range r.2.2).all (fun k => decide (parseFieldDescriptor (r.2.1 k).2.2.1 = some (am_tf c k)) && am_okT (am_tf c k)) && ((List.range r.2.2).all (fun a => (List.range r.2.2).all (fun b => decide (a = b) || decide ((r.2.1 a).2.1 ≠ (r.2.1 b).2.1))) && ((decide (Cond.instantiable r.1 r.2.2 ∈ lw_tbl) && goodWord (Cond.instantiable r.1 r.2.2)) && (decide (Cond.initialized r.1 ∈ lw_tbl) && goodWord (Cond.initialized r.1)))))
  | none => false
theorem tb_all : (List.range 10).all tbB = true := by decide +kernel
theorem tb_ok {z : am_Z} (h1 : z.1 = fun c => (vwCl.getD c (RX0, TX0, 0)).2.2) (h2 : z.2.1 = am_tf) : am_tb vwCl z am_T := by
  intro c r hr
  have hc : c < 10 := (List.getElem?_eq_some_iff.mp hr).1
  have h := List.all_eq_true.mp tb_all c (List.mem_range.mpr hc)
  unfold tbB at h
  rw [hr] at h
  dsimp only at h
  simp only [Bool.and_eq_true, List.all_eq_true, List.mem_range, decide_eq_true_eq, Bool.or_eq_true] at h
  obtain ⟨a1, a2, a3, a4, a5⟩ := h
  refine ⟨?_, fun w hw => List.mem_filter.mpr (a1 w hw), fun k hk => ?_, fun a ha b hb hab => ?_, List.mem_filter.mpr a4, List.mem_filter.mpr a5, fun k hk => ?_⟩
  · rw [h1]
    dsimp only
    rw [List.getD_eq_getElem?_getD, hr]
    rfl
  · rw [h2]
    exact (a2 k hk).1
  · rcases a3 a ha b hb with e | e
    · exact absurd e hab
    · exact e
  · rw [h2]
    exact (a2 k hk).2
