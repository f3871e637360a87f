/-! printed by wip/whole/gen2.py: each stretch is the bytecode at its place -/
theorem pg_Model_rise : ∀ pc, k_Model_rise pc = [] ∨ am_chk (am_Lk 9) (decide ("rise" = "<init>")) (some .boolean) am_tf am_Ms prog_11_method_51_code pc (k_Model_rise pc) = true := by
  intro pc
  unfold k_Model_rise
  split
  · exact Or.inr (by decide +kernel)
  · exact Or.inr (by decide +kernel)
  · exact Or.inr (by decide +kernel)
  · exact Or.inr (by decide +kernel)
  · exact Or.inr (by decide +kernel)
  · exact Or.inr (by decide +kernel)
  · exact Or.inr (by decide +kernel)
  · exact Or.inl rfl
theorem ok_185 : am_ok1 185 := pg_Model_rise
theorem pg_Model_board : ∀ pc, k_Model_board pc = [] ∨ am_chk (am_Lk 9) (decide ("board" = "<init>")) (some .boolean) am_tf am_Ms prog_11_method_52_code pc (k_Model_board pc) = true := by
  intro pc
  unfold k_Model_board
  split
  · exact Or.inr (by decide +kernel)
  · exact Or.inr (by decide +kernel)
  · exact Or.inr (by decide +kernel)
  · exact Or.inr (by decide +kernel)
  · exact Or.inr (by decide +kernel)
  · exact Or.inr (by decide +kernel)
  · exact Or.inr (by decide +kernel)
  · exact Or.inl rfl
theorem ok_186 : am_ok1 186 := pg_Model_board
theorem pg_Model_oil : ∀ pc, k_Model_oil pc = [] ∨ am_chk (am_Lk 9) (decide ("oil" = "<init>")) (some .int) am_tf am_Ms prog_11_method_53_code pc (k_Model_oil pc) = true := by
  intro pc
  unfold k_Model_oil
  split
  · exact Or.inr (by decide +kernel)
  · exact Or.inr (by decide +kernel)
  · exact Or.inr (by decide +kernel)
  · exact Or.inr (by decide +kernel)
  · exact Or.inr (by decide +kernel)
  · exact Or.inr (by decide +kernel)
  · exact Or.inr (by decide +kernel)
  · exact Or.inl rfl
theorem ok_187 : am_ok1 187 := pg_Model_oil
theorem pg_Model_run : ∀ pc, k_Model_run pc = [] ∨ am_chk (am_Lk 9) (decide ("run" = "<init>")) (some .int) am_tf am_Ms prog_11_method_54_code pc (k_Model_run pc) = true := by
  intro pc
  unfold k_Model_run
  split
  · exact Or.inr (by decide +kernel)
  · exact Or.inr (by decide +kernel)
  · exact Or.inr (by decide +kernel)
  · exact Or.inr (by decide +kernel)
  · exact Or.inr (by decide +kernel)
  · exact Or.inr (by decide +kernel)
  · exact Or.inr (by decide +kernel)
  · exact Or.inr (by decide +kernel)
  · exact Or.inr (by decide +kernel)
  · exact Or.inl rfl
theorem ok_188 : am_ok1 188 := pg_Model_run
theorem pg_Model_undo : ∀ pc, k_Model_undo pc = [] ∨ am_chk (am_Lk 9) (decide ("undo" = "<init>")) (some .boolean) am_tf am_Ms prog_11_method_55_code pc (k_Model_undo pc) = true := by
  intro pc
  unfold k_Model_undo
  split
  · exact Or.inr (by decide +kernel)
  · exact Or.inr (by decide +kernel)
  · exact Or.inr (by decide +kernel)
  · exact Or.inr (by decide +kernel)
  · exact Or.inr (by decide +kernel)
  · exact Or.inr (by decide +kernel)
  · exact Or.inl rfl
theorem ok_189 : am_ok1 189 := pg_Model_undo
theorem pg_Model_arrives : ∀ pc, k_Model_arrives pc = [] ∨ am_chk (am_Lk 9) (decide ("arrives" = "<init>")) (some .int) am_tf am_Ms prog_11_method_56_code pc (k_Model_arrives pc) = true := by
  intro pc
  unfold k_Model_arrives
  split
  · exact Or.inr (by decide +kernel)
  · exact Or.inr (by decide +kernel)
  · exact Or.inr (by decide +kernel)
  · exact Or.inr (by decide +kernel)
  · exact Or.inr (by decide +kernel)
  · exact Or.inr (by decide +kernel)
  · exact Or.inr (by decide +kernel)
  · exact Or.inr (by decide +kernel)
  · exact Or.inr (by decide +kernel)
  · exact Or.inr (by decide +kernel)
  · exact Or.inr (by decide +kernel)
  · exact Or.inr (by decide +kernel)
  · exact Or.inl rfl
theorem ok_190 : am_ok1 190 := pg_Model_arrives
theorem pg_Model_still : ∀ pc, k_Model_still pc = [] ∨ am_chk (am_Lk 9) (decide ("still" = "<init>")) (some .int) am_tf am_Ms prog_11_method_57_code pc (k_Model_still pc) = true := by
  intro pc
  unfold k_Model_still
  split
  · exact Or.inr (by decide +kernel)
  · exact Or.inr (by decide +kernel)
  · exact Or.inr (by decide +kernel)
  · exact Or.inr (by decide +kernel)
  · exact Or.inr (by decide +kernel)
  · exact Or.inr (by decide +kernel)
  · exact Or.inr (by decide +kernel)
  · exact Or.inr (by decide +kernel)
  · exact Or.inr (by decide +kernel)
  · exact Or.inl rfl
theorem ok_191 : am_ok1 191 := pg_Model_still
theorem pg_Model_highest : ∀ pc, k_Model_highest pc = [] ∨ am_chk (am_Lk 9) (decide ("highest" = "<init>")) (some .int) am_tf am_Ms prog_11_method_58_code pc (k_Model_highest pc) = true := by
  intro pc
  unfold k_Model_highest
  split
  · exact Or.inr (by decide +kernel)
  · exact Or.inr (by decide +kernel)
  · exact Or.inr (by decide +kernel)
  · exact Or.inr (by decide +kernel)
  · exact Or.inr (by decide +kernel)
  · exact Or.inr (by decide +kernel)
  · exact Or.inr (by decide +kernel)
  · exact Or.inr (by decide +kernel)
  · exact Or.inr (by decide +kernel)
  · exact Or.inr (by decide +kernel)
  · exact Or.inr (by decide +kernel)
  · exact Or.inr (by decide +kernel)
  · exact Or.inr (by decide +kernel)
  · exact Or.inl rfl
theorem ok_192 : am_ok1 192 := pg_Model_highest
theorem pg_Model_first : ∀ pc, k_Model_first pc = [] ∨ am_chk (am_Lk 9) (decide ("first" = "<init>")) (some .int) am_tf am_Ms prog_11_method_59_code pc (k_Model_first pc) = true := by
  intro pc
  unfold k_Model_first
  split
  · exact Or.inr (by decide +kernel)
  · exact Or.inr (by decide +kernel)
  · exact Or.inr (by decide +kernel)
  · exact Or.inr (by decide +kernel)
  · exact Or.inr (by decide +kernel)
  · exact Or.inr (by decide +kernel)
  · exact Or.inr (by decide +kernel)
  · exact Or.inr (by decide +kernel)
  · exact Or.inr (by decide +kernel)
  · exact Or.inr (by decide +kernel)
  · exact Or.inr (by decide +kernel)
  · exact Or.inr (by decide +kernel)
  · exact Or.inr (by decide +kernel)
  · exact Or.inr (by decide +kernel)
  · exact Or.inr (by decide +kernel)
  · exact Or.inr (by decide +kernel)
  · exact Or.inr (by decide +kernel)
  · exact Or.inr (by decide +kernel)
  · exact Or.inr (by decide +kernel)
  · exact Or.inl rfl
theorem ok_193 : am_ok1 193 := pg_Model_first
theorem pg_Model_means : ∀ pc, k_Model_means pc = [] ∨ am_chk (am_Lk 9) (decide ("means" = "<init>")) (some .int) am_tf am_Ms prog_11_method_60_code pc (k_Model_means pc) = true := by
  intro pc
  unfold k_Model_means
  split
  · exact Or.inr (by decide +kernel)
  · exact Or.inr (by decide +kernel)
  · exact Or.inr (by decide +kernel)
  · exact Or.inr (by decide +kernel)
  · exact Or.inr (by decide +kernel)
  · exact Or.inr (by decide +kernel)
  · exact Or.inr (by decide +kernel)
  · exact Or.inr (by decide +kernel)
  · exact Or.inr (by decide +kernel)
  · exact Or.inr (by decide +kernel)
  · exact Or.inr (by decide +kernel)
  · exact Or.inr (by decide +kernel)
  · exact Or.inr (by decide +kernel)
  · exact Or.inl rfl
theorem ok_194 : am_ok1 194 := pg_Model_means
theorem pg_Model_isThereBy : ∀ pc, k_Model_isThereBy pc = [] ∨ am_chk (am_Lk 9) (decide ("isThereBy" = "<init>")) (some .boolean) am_tf am_Ms prog_11_method_61_code pc (k_Model_isThereBy pc) = true := by
  intro pc
  unfold k_Model_isThereBy
  split
  · exact Or.inr (by decide +kernel)
  · exact Or.inr (by decide +kernel)
  · exact Or.inr (by decide +kernel)
  · exact Or.inr (by decide +kernel)
  · exact Or.inr (by decide +kernel)
  · exact Or.inr (by decide +kernel)
  · exact Or.inr (by decide +kernel)
  · exact Or.inr (by decide +kernel)
  · exact Or.inr (by decide +kernel)
  · exact Or.inr (by decide +kernel)
  · exact Or.inr (by decide +kernel)
  · exact Or.inr (by decide +kernel)
  · exact Or.inl rfl
theorem ok_195 : am_ok1 195 := pg_Model_isThereBy
theorem pg_Model_oiled : ∀ pc, k_Model_oiled pc = [] ∨ am_chk (am_Lk 9) (decide ("oiled" = "<init>")) (some .int) am_tf am_Ms prog_11_method_62_code pc (k_Model_oiled pc) = true := by
  intro pc
  unfold k_Model_oiled
  split
  · exact Or.inr (by decide +kernel)
  · exact Or.inr (by decide +kernel)
  · exact Or.inr (by decide +kernel)
  · exact Or.inr (by decide +kernel)
  · exact Or.inr (by decide +kernel)
  · exact Or.inr (by decide +kernel)
  · exact Or.inr (by decide +kernel)
  · exact Or.inr (by decide +kernel)
  · exact Or.inr (by decide +kernel)
  · exact Or.inr (by decide +kernel)
  · exact Or.inr (by decide +kernel)
  · exact Or.inr (by decide +kernel)
  · exact Or.inl rfl
theorem ok_196 : am_ok1 196 := pg_Model_oiled
theorem pg_Model_doubted : ∀ pc, k_Model_doubted pc = [] ∨ am_chk (am_Lk 9) (decide ("doubted" = "<init>")) (some .int) am_tf am_Ms prog_11_method_63_code pc (k_Model_doubted pc) = true := by
  intro pc
  unfold k_Model_doubted
  split
  · exact Or.inr (by decide +kernel)
  · exact Or.inr (by decide +kernel)
  · exact Or.inr (by decide +kernel)
  · exact Or.inr (by decide +kernel)
  · exact Or.inr (by decide +kernel)
  · exact Or.inr (by decide +kernel)
  · exact Or.inr (by decide +kernel)
  · exact Or.inr (by decide +kernel)
  · exact Or.inr (by decide +kernel)
  · exact Or.inr (by decide +kernel)
  · exact Or.inr (by decide +kernel)
  · exact Or.inr (by decide +kernel)
  · exact Or.inl rfl
theorem ok_197 : am_ok1 197 := pg_Model_doubted
theorem pg_Model_bestStart : ∀ pc, k_Model_bestStart pc = [] ∨ am_chk (am_Lk 9) (decide ("bestStart" = "<init>")) (some .int) am_tf am_Ms prog_11_method_64_code pc (k_Model_bestStart pc) = true := by
  intro pc
  unfold k_Model_bestStart
  split
  · exact Or.inr (by decide +kernel)
  · exact Or.inr (by decide +kernel)
  · exact Or.inr (by decide +kernel)
  · exact Or.inr (by decide +kernel)
  · exact Or.inr (by decide +kernel)
  · exact Or.inr (by decide +kernel)
  · exact Or.inr (by decide +kernel)
  · exact Or.inr (by decide +kernel)
  · exact Or.inr (by decide +kernel)
  · exact Or.inr (by decide +kernel)
  · exact Or.inr (by decide +kernel)
  · exact Or.inr (by decide +kernel)
  · exact Or.inr (by decide +kernel)
  · exact Or.inr (by decide +kernel)
  · exact Or.inr (by decide +kernel)
  · exact Or.inr (by decide +kernel)
  · exact Or.inr (by decide +kernel)
  · exact Or.inr (by decide +kernel)
  · exact Or.inr (by decide +kernel)
  · exact Or.inr (by decide +kernel)
  · exact Or.inr (by decide +kernel)
  · exact Or.inr (by decide +kernel)
  · exact Or.inr (by decide +kernel)
  · exact Or.inr (by decide +kernel)
  · exact Or.inl rfl
theorem ok_198 : am_ok1 198 := pg_Model_bestStart
theorem pg_Model_meet : ∀ pc, k_Model_meet pc = [] ∨ am_chk (am_Lk 9) (decide ("meet" = "<init>")) (some .int) am_tf am_Ms prog_11_method_65_code pc (k_Model_meet pc) = true := by
  intro pc
  unfold k_Model_meet
  split
  · exact Or.inr (by decide +kernel)
  · exact Or.inr (by decide +kernel)
  · exact Or.inr (by decide +kernel)
  · exact Or.inr (by decide +kernel)
  · exact Or.inr (by decide +kernel)
  · exact Or.inr (by decide +kernel)
  · exact Or.inr (by decide +kernel)
  · exact Or.inr (by decide +kernel)
  · exact Or.inr (by decide +kernel)
  · exact Or.inr (by decide +kernel)
  · exact Or.inr (by decide +kernel)
  · exact Or.inr (by decide +kernel)
  · exact Or.inr (by decide +kernel)
  · exact Or.inr (by decide +kernel)
  · exact Or.inl rfl
theorem ok_199 : am_ok1 199 := pg_Model_meet
theorem pg_Model_most : ∀ pc, k_Model_most pc = [] ∨ am_chk (am_Lk 9) (decide ("most" = "<init>")) (some .int) am_tf am_Ms prog_11_method_66_code pc (k_Model_most pc) = true := by
  intro pc
  unfold k_Model_most
  split
  · exact Or.inr (by decide +kernel)
  · exact Or.inr (by decide +kernel)
  · exact Or.inr (by decide +kernel)
  · exact Or.inr (by decide +kernel)
  · exact Or.inr (by decide +kernel)
  · exact Or.inr (by decide +kernel)
  · exact Or.inr (by decide +kernel)
  · exact Or.inr (by decide +kernel)
  · exact Or.inr (by decide +kernel)
  · exact Or.inr (by decide +kernel)
  · exact Or.inr (by decide +kernel)
  · exact Or.inr (by decide +kernel)
  · exact Or.inr (by decide +kernel)
  · exact Or.inr (by decide +kernel)
  · exact Or.inl rfl
theorem ok_200 : am_ok1 200 := pg_Model_most
theorem pg_Model_lowest : ∀ pc, k_Model_lowest pc = [] ∨ am_chk (am_Lk 9) (decide ("lowest" = "<init>")) (some .int) am_tf am_Ms prog_11_method_67_code pc (k_Model_lowest pc) = true := by
  intro pc
  unfold k_Model_lowest
  split
  · exact Or.inr (by decide +kernel)
  · exact Or.inr (by decide +kernel)
  · exact Or.inr (by decide +kernel)
  · exact Or.inr (by decide +kernel)
  · exact Or.inr (by decide +kernel)
  · exact Or.inr (by decide +kernel)
  · exact Or.inr (by decide +kernel)
  · exact Or.inr (by decide +kernel)
  · exact Or.inr (by decide +kernel)
  · exact Or.inr (by decide +kernel)
  · exact Or.inr (by decide +kernel)
  · exact Or.inr (by decide +kernel)
  · exact Or.inr (by decide +kernel)
  · exact Or.inr (by decide +kernel)
  · exact Or.inr (by decide +kernel)
  · exact Or.inr (by decide +kernel)
  · exact Or.inr (by decide +kernel)
  · exact Or.inr (by decide +kernel)
  · exact Or.inl rfl
theorem ok_201 : am_ok1 201 := pg_Model_lowest
theorem pg_Model_kneelsBy : ∀ pc, k_Model_kneelsBy pc = [] ∨ am_chk (am_Lk 9) (decide ("kneelsBy" = "<init>")) (some .boolean) am_tf am_Ms prog_11_method_68_code pc (k_Model_kneelsBy pc) = true := by
  intro pc
  unfold k_Model_kneelsBy
  split
  · exact Or.inr (by decide +kernel)
  · exact Or.inr (by decide +kernel)
  · exact Or.inr (by decide +kernel)
  · exact Or.inr (by decide +kernel)
  · exact Or.inr (by decide +kernel)
  · exact Or.inr (by decide +kernel)
  · exact Or.inr (by decide +kernel)
  · exact Or.inr (by decide +kernel)
  · exact Or.inr (by decide +kernel)
  · exact Or.inr (by decide +kernel)
  · exact Or.inr (by decide +kernel)
  · exact Or.inr (by decide +kernel)
  · exact Or.inr (by decide +kernel)
  · exact Or.inr (by decide +kernel)
  · exact Or.inr (by decide +kernel)
  · exact Or.inr (by decide +kernel)
  · exact Or.inl rfl
theorem ok_202 : am_ok1 202 := pg_Model_kneelsBy
theorem pg_Model_bestTwo : ∀ pc, k_Model_bestTwo pc = [] ∨ am_chk (am_Lk 9) (decide ("bestTwo" = "<init>")) (some .int) am_tf am_Ms prog_11_method_69_code pc (k_Model_bestTwo pc) = true := by
  intro pc
  unfold k_Model_bestTwo
  split
  · exact Or.inr (by decide +kernel)
  · exact Or.inr (by decide +kernel)
  · exact Or.inr (by decide +kernel)
  · exact Or.inr (by decide +kernel)
  · exact Or.inr (by decide +kernel)
  · exact Or.inr (by decide +kernel)
  · exact Or.inr (by decide +kernel)
  · exact Or.inr (by decide +kernel)
  · exact Or.inr (by decide +kernel)
  · exact Or.inr (by decide +kernel)
  · exact Or.inr (by decide +kernel)
  · exact Or.inr (by decide +kernel)
  · exact Or.inr (by decide +kernel)
  · exact Or.inr (by decide +kernel)
  · exact Or.inr (by decide +kernel)
  · exact Or.inr (by decide +kernel)
  · exact Or.inr (by decide +kernel)
  · exact Or.inr (by decide +kernel)
  · exact Or.inr (by decide +kernel)
  · exact Or.inr (by decide +kernel)
  · exact Or.inr (by decide +kernel)
  · exact Or.inr (by decide +kernel)
  · exact Or.inr (by decide +kernel)
  · exact Or.inr (by decide +kernel)
  · exact Or.inr (by decide +kernel)
  · exact Or.inl rfl
theorem ok_203 : am_ok1 203 := pg_Model_bestTwo
theorem pg_Model_exchange : ∀ pc, k_Model_exchange pc = [] ∨ am_chk (am_Lk 9) (decide ("exchange" = "<init>")) (some .int) am_tf am_Ms prog_11_method_70_code pc (k_Model_exchange pc) = true := by
  intro pc
  unfold k_Model_exchange
  split
  · exact Or.inr (by decide +kernel)
  · exact Or.inr (by decide +kernel)
  · exact Or.inr (by decide +kernel)
  · exact Or.inr (by decide +kernel)
  · exact Or.inr (by decide +kernel)
  · exact Or.inr (by decide +kernel)
  · exact Or.inr (by decide +kernel)
  · exact Or.inr (by decide +kernel)
  · exact Or.inr (by decide +kernel)
  · exact Or.inr (by decide +kernel)
  · exact Or.inr (by decide +kernel)
  · exact Or.inr (by decide +kernel)
  · exact Or.inr (by decide +kernel)
  · exact Or.inr (by decide +kernel)
  · exact Or.inr (by decide +kernel)
  · exact Or.inr (by decide +kernel)
  · exact Or.inr (by decide +kernel)
  · exact Or.inr (by decide +kernel)
  · exact Or.inr (by decide +kernel)
  · exact Or.inr (by decide +kernel)
  · exact Or.inr (by decide +kernel)
  · exact Or.inr (by decide +kernel)
  · exact Or.inr (by decide +kernel)
  · exact Or.inr (by decide +kernel)
  · exact Or.inr (by decide +kernel)
  · exact Or.inr (by decide +kernel)
  · exact Or.inr (by decide +kernel)
  · exact Or.inr (by decide +kernel)
  · exact Or.inr (by decide +kernel)
  · exact Or.inr (by decide +kernel)
  · exact Or.inl rfl
theorem ok_204 : am_ok1 204 := pg_Model_exchange
theorem pg_Model_rank : ∀ pc, k_Model_rank pc = [] ∨ am_chk (am_Lk 9) (decide ("rank" = "<init>")) (some .int) am_tf am_Ms prog_11_method_71_code pc (k_Model_rank pc) = true := by
  intro pc
  unfold k_Model_rank
  split
  · exact Or.inr (by decide +kernel)
  · exact Or.inr (by decide +kernel)
  · exact Or.inr (by decide +kernel)
  · exact Or.inr (by decide +kernel)
  · exact Or.inr (by decide +kernel)
  · exact Or.inr (by decide +kernel)
  · exact Or.inr (by decide +kernel)
  · exact Or.inr (by decide +kernel)
  · exact Or.inr (by decide +kernel)
  · exact Or.inr (by decide +kernel)
  · exact Or.inr (by decide +kernel)
  · exact Or.inl rfl
theorem ok_205 : am_ok1 205 := pg_Model_rank
theorem pg_Model_common : ∀ pc, k_Model_common pc = [] ∨ am_chk (am_Lk 9) (decide ("common" = "<init>")) (some .int) am_tf am_Ms prog_11_method_72_code pc (k_Model_common pc) = true := by
  intro pc
  unfold k_Model_common
  split
  · exact Or.inr (by decide +kernel)
  · exact Or.inr (by decide +kernel)
  · exact Or.inr (by decide +kernel)
  · exact Or.inr (by decide +kernel)
  · exact Or.inl rfl
theorem ok_206 : am_ok1 206 := pg_Model_common
theorem pg_Model_share : ∀ pc, k_Model_share pc = [] ∨ am_chk (am_Lk 9) (decide ("share" = "<init>")) (some .int) am_tf am_Ms prog_11_method_73_code pc (k_Model_share pc) = true := by
  intro pc
  unfold k_Model_share
  split
  · exact Or.inr (by decide +kernel)
  · exact Or.inr (by decide +kernel)
  · exact Or.inr (by decide +kernel)
  · exact Or.inr (by decide +kernel)
  · exact Or.inr (by decide +kernel)
  · exact Or.inr (by decide +kernel)
  · exact Or.inr (by decide +kernel)
  · exact Or.inr (by decide +kernel)
  · exact Or.inr (by decide +kernel)
  · exact Or.inr (by decide +kernel)
  · exact Or.inr (by decide +kernel)
  · exact Or.inr (by decide +kernel)
  · exact Or.inr (by decide +kernel)
  · exact Or.inr (by decide +kernel)
  · exact Or.inr (by decide +kernel)
  · exact Or.inr (by decide +kernel)
  · exact Or.inl rfl
theorem ok_207 : am_ok1 207 := pg_Model_share
theorem pg_Model_there : ∀ pc, k_Model_there pc = [] ∨ am_chk (am_Lk 9) (decide ("there" = "<init>")) (some .int) am_tf am_Ms prog_11_method_74_code pc (k_Model_there pc) = true := by
  intro pc
  unfold k_Model_there
  split
  · exact Or.inr (by decide +kernel)
  · exact Or.inr (by decide +kernel)
  · exact Or.inr (by decide +kernel)
  · exact Or.inr (by decide +kernel)
  · exact Or.inr (by decide +kernel)
  · exact Or.inr (by decide +kernel)
  · exact Or.inr (by decide +kernel)
  · exact Or.inr (by decide +kernel)
  · exact Or.inr (by decide +kernel)
  · exact Or.inl rfl
theorem ok_208 : am_ok1 208 := pg_Model_there
theorem pg_Model_sumOf : ∀ pc, k_Model_sumOf pc = [] ∨ am_chk (am_Lk 9) (decide ("sumOf" = "<init>")) (some .int) am_tf am_Ms prog_11_method_75_code pc (k_Model_sumOf pc) = true := by
  intro pc
  unfold k_Model_sumOf
  split
  · exact Or.inr (by decide +kernel)
  · exact Or.inr (by decide +kernel)
  · exact Or.inr (by decide +kernel)
  · exact Or.inr (by decide +kernel)
  · exact Or.inr (by decide +kernel)
  · exact Or.inr (by decide +kernel)
  · exact Or.inl rfl
theorem ok_209 : am_ok1 209 := pg_Model_sumOf
theorem pg_Model_onNow : ∀ pc, k_Model_onNow pc = [] ∨ am_chk (am_Lk 9) (decide ("onNow" = "<init>")) (some .int) am_tf am_Ms prog_11_method_76_code pc (k_Model_onNow pc) = true := by
  intro pc
  unfold k_Model_onNow
  split
  · exact Or.inr (by decide +kernel)
  · exact Or.inr (by decide +kernel)
  · exact Or.inr (by decide +kernel)
  · exact Or.inr (by decide +kernel)
  · exact Or.inr (by decide +kernel)
  · exact Or.inr (by decide +kernel)
  · exact Or.inl rfl
theorem ok_210 : am_ok1 210 := pg_Model_onNow
theorem pg_Model_kneelers : ∀ pc, k_Model_kneelers pc = [] ∨ am_chk (am_Lk 9) (decide ("kneelers" = "<init>")) (some .int) am_tf am_Ms prog_11_method_77_code pc (k_Model_kneelers pc) = true := by
  intro pc
  unfold k_Model_kneelers
  split
  · exact Or.inr (by decide +kernel)
  · exact Or.inr (by decide +kernel)
  · exact Or.inr (by decide +kernel)
  · exact Or.inr (by decide +kernel)
  · exact Or.inr (by decide +kernel)
  · exact Or.inr (by decide +kernel)
  · exact Or.inr (by decide +kernel)
  · exact Or.inr (by decide +kernel)
  · exact Or.inr (by decide +kernel)
  · exact Or.inr (by decide +kernel)
  · exact Or.inr (by decide +kernel)
  · exact Or.inr (by decide +kernel)
  · exact Or.inr (by decide +kernel)
  · exact Or.inr (by decide +kernel)
  · exact Or.inr (by decide +kernel)
  · exact Or.inr (by decide +kernel)
  · exact Or.inr (by decide +kernel)
  · exact Or.inr (by decide +kernel)
  · exact Or.inr (by decide +kernel)
  · exact Or.inr (by decide +kernel)
  · exact Or.inr (by decide +kernel)
  · exact Or.inr (by decide +kernel)
  · exact Or.inr (by decide +kernel)
  · exact Or.inr (by decide +kernel)
  · exact Or.inr (by decide +kernel)
  · exact Or.inr (by decide +kernel)
  · exact Or.inr (by decide +kernel)
  · exact Or.inr (by decide +kernel)
  · exact Or.inr (by decide +kernel)
  · exact Or.inr (by decide +kernel)
  · exact Or.inr (by decide +kernel)
  · exact Or.inl rfl
theorem ok_211 : am_ok1 211 := pg_Model_kneelers
theorem pg_Model_fillsRests : ∀ pc, k_Model_fillsRests pc = [] ∨ am_chk (am_Lk 9) (decide ("fillsRests" = "<init>")) none am_tf am_Ms prog_11_method_78_code pc (k_Model_fillsRests pc) = true := by
  intro pc
  unfold k_Model_fillsRests
  split
  · exact Or.inr (by decide +kernel)
  · exact Or.inr (by decide +kernel)
  · exact Or.inr (by decide +kernel)
  · exact Or.inr (by decide +kernel)
  · exact Or.inr (by decide +kernel)
  · exact Or.inr (by decide +kernel)
  · exact Or.inr (by decide +kernel)
  · exact Or.inr (by decide +kernel)
  · exact Or.inr (by decide +kernel)
  · exact Or.inr (by decide +kernel)
  · exact Or.inr (by decide +kernel)
  · exact Or.inr (by decide +kernel)
  · exact Or.inl rfl
theorem ok_212 : am_ok1 212 := pg_Model_fillsRests
theorem pg_Model_isResting : ∀ pc, k_Model_isResting pc = [] ∨ am_chk (am_Lk 9) (decide ("isResting" = "<init>")) (some .boolean) am_tf am_Ms prog_11_method_79_code pc (k_Model_isResting pc) = true := by
  intro pc
  unfold k_Model_isResting
  split
  · exact Or.inr (by decide +kernel)
  · exact Or.inr (by decide +kernel)
  · exact Or.inr (by decide +kernel)
  · exact Or.inr (by decide +kernel)
  · exact Or.inr (by decide +kernel)
  · exact Or.inr (by decide +kernel)
  · exact Or.inr (by decide +kernel)
  · exact Or.inr (by decide +kernel)
  · exact Or.inr (by decide +kernel)
  · exact Or.inl rfl
theorem ok_213 : am_ok1 213 := pg_Model_isResting
theorem pg_Model_rests : ∀ pc, k_Model_rests pc = [] ∨ am_chk (am_Lk 9) (decide ("rests" = "<init>")) (some .int) am_tf am_Ms prog_11_method_80_code pc (k_Model_rests pc) = true := by
  intro pc
  unfold k_Model_rests
  split
  · exact Or.inr (by decide +kernel)
  · exact Or.inr (by decide +kernel)
  · exact Or.inr (by decide +kernel)
  · exact Or.inr (by decide +kernel)
  · exact Or.inr (by decide +kernel)
  · exact Or.inr (by decide +kernel)
  · exact Or.inr (by decide +kernel)
  · exact Or.inr (by decide +kernel)
  · exact Or.inr (by decide +kernel)
  · exact Or.inr (by decide +kernel)
  · exact Or.inr (by decide +kernel)
  · exact Or.inr (by decide +kernel)
  · exact Or.inr (by decide +kernel)
  · exact Or.inr (by decide +kernel)
  · exact Or.inr (by decide +kernel)
  · exact Or.inr (by decide +kernel)
  · exact Or.inr (by decide +kernel)
  · exact Or.inr (by decide +kernel)
  · exact Or.inl rfl
theorem ok_214 : am_ok1 214 := pg_Model_rests
theorem pg_Model_tell_ : ∀ pc, k_Model_tell_ pc = [] ∨ am_chk (am_Lk 9) (decide ("tell" = "<init>")) (some .int) am_tf am_Ms prog_11_method_81_code pc (k_Model_tell_ pc) = true := by
  intro pc
  unfold k_Model_tell_
  split
  · exact Or.inr (by decide +kernel)
  · exact Or.inr (by decide +kernel)
  · exact Or.inr (by decide +kernel)
  · exact Or.inr (by decide +kernel)
  · exact Or.inr (by decide +kernel)
  · exact Or.inr (by decide +kernel)
  · exact Or.inr (by decide +kernel)
  · exact Or.inr (by decide +kernel)
  · exact Or.inr (by decide +kernel)
  · exact Or.inl rfl
theorem ok_215 : am_ok1 215 := pg_Model_tell_
theorem pg_Model_forget : ∀ pc, k_Model_forget pc = [] ∨ am_chk (am_Lk 9) (decide ("forget" = "<init>")) (some .int) am_tf am_Ms prog_11_method_82_code pc (k_Model_forget pc) = true := by
  intro pc
  unfold k_Model_forget
  split
  · exact Or.inr (by decide +kernel)
  · exact Or.inl rfl
theorem ok_216 : am_ok1 216 := pg_Model_forget
theorem pg_Model_lastOf : ∀ pc, k_Model_lastOf pc = [] ∨ am_chk (am_Lk 9) (decide ("lastOf" = "<init>")) (some .int) am_tf am_Ms prog_11_method_83_code pc (k_Model_lastOf pc) = true := by
  intro pc
  unfold k_Model_lastOf
  split
  · exact Or.inr (by decide +kernel)
  · exact Or.inr (by decide +kernel)
  · exact Or.inr (by decide +kernel)
  · exact Or.inr (by decide +kernel)
  · exact Or.inr (by decide +kernel)
  · exact Or.inr (by decide +kernel)
  · exact Or.inl rfl
theorem ok_217 : am_ok1 217 := pg_Model_lastOf
theorem pg_Model_wrongAt : ∀ pc, k_Model_wrongAt pc = [] ∨ am_chk (am_Lk 9) (decide ("wrongAt" = "<init>")) (some .int) am_tf am_Ms prog_11_method_84_code pc (k_Model_wrongAt pc) = true := by
  intro pc
  unfold k_Model_wrongAt
  split
  · exact Or.inr (by decide +kernel)
  · exact Or.inr (by decide +kernel)
  · exact Or.inr (by decide +kernel)
  · exact Or.inr (by decide +kernel)
  · exact Or.inr (by decide +kernel)
  · exact Or.inr (by decide +kernel)
  · exact Or.inr (by decide +kernel)
  · exact Or.inr (by decide +kernel)
  · exact Or.inr (by decide +kernel)
  · exact Or.inr (by decide +kernel)
  · exact Or.inr (by decide +kernel)
  · exact Or.inr (by decide +kernel)
  · exact Or.inr (by decide +kernel)
  · exact Or.inr (by decide +kernel)
  · exact Or.inr (by decide +kernel)
  · exact Or.inr (by decide +kernel)
  · exact Or.inr (by decide +kernel)
  · exact Or.inl rfl
theorem ok_218 : am_ok1 218 := pg_Model_wrongAt
theorem pg_Model_secret : ∀ pc, k_Model_secret pc = [] ∨ am_chk (am_Lk 9) (decide ("secret" = "<init>")) (some .int) am_tf am_Ms prog_11_method_85_code pc (k_Model_secret pc) = true := by
  intro pc
  unfold k_Model_secret
  split
  · exact Or.inr (by decide +kernel)
  · exact Or.inr (by decide +kernel)
  · exact Or.inr (by decide +kernel)
  · exact Or.inr (by decide +kernel)
  · exact Or.inr (by decide +kernel)
  · exact Or.inr (by decide +kernel)
  · exact Or.inr (by decide +kernel)
  · exact Or.inr (by decide +kernel)
  · exact Or.inr (by decide +kernel)
  · exact Or.inr (by decide +kernel)
  · exact Or.inr (by decide +kernel)
  · exact Or.inr (by decide +kernel)
  · exact Or.inr (by decide +kernel)
  · exact Or.inr (by decide +kernel)
  · exact Or.inr (by decide +kernel)
  · exact Or.inr (by decide +kernel)
  · exact Or.inr (by decide +kernel)
  · exact Or.inr (by decide +kernel)
  · exact Or.inr (by decide +kernel)
  · exact Or.inr (by decide +kernel)
  · exact Or.inr (by decide +kernel)
  · exact Or.inr (by decide +kernel)
  · exact Or.inr (by decide +kernel)
  · exact Or.inr (by decide +kernel)
  · exact Or.inl rfl
theorem ok_219 : am_ok1 219 := pg_Model_secret
theorem pg_Model_off : ∀ pc, k_Model_off pc = [] ∨ am_chk (am_Lk 9) (decide ("off" = "<init>")) (some .int) am_tf am_Ms prog_11_method_86_code pc (k_Model_off pc) = true := by
  intro pc
  unfold k_Model_off
  split
  · exact Or.inr (by decide +kernel)
  · exact Or.inr (by decide +kernel)
  · exact Or.inr (by decide +kernel)
  · exact Or.inr (by decide +kernel)
  · exact Or.inr (by decide +kernel)
  · exact Or.inr (by decide +kernel)
  · exact Or.inr (by decide +kernel)
  · exact Or.inr (by decide +kernel)
  · exact Or.inl rfl
theorem ok_220 : am_ok1 220 := pg_Model_off
theorem pg_Model_hold : ∀ pc, k_Model_hold pc = [] ∨ am_chk (am_Lk 9) (decide ("hold" = "<init>")) (some .boolean) am_tf am_Ms prog_11_method_87_code pc (k_Model_hold pc) = true := by
  intro pc
  unfold k_Model_hold
  split
  · exact Or.inr (by decide +kernel)
  · exact Or.inr (by decide +kernel)
  · exact Or.inr (by decide +kernel)
  · exact Or.inr (by decide +kernel)
  · exact Or.inr (by decide +kernel)
  · exact Or.inr (by decide +kernel)
  · exact Or.inr (by decide +kernel)
  · exact Or.inl rfl
theorem ok_221 : am_ok1 221 := pg_Model_hold
theorem pg_Model_restore : ∀ pc, k_Model_restore pc = [] ∨ am_chk (am_Lk 9) (decide ("restore" = "<init>")) (some .boolean) am_tf am_Ms prog_11_method_88_code pc (k_Model_restore pc) = true := by
  intro pc
  unfold k_Model_restore
  split
  · exact Or.inr (by decide +kernel)
  · exact Or.inr (by decide +kernel)
  · exact Or.inr (by decide +kernel)
  · exact Or.inr (by decide +kernel)
  · exact Or.inr (by decide +kernel)
  · exact Or.inr (by decide +kernel)
  · exact Or.inr (by decide +kernel)
  · exact Or.inr (by decide +kernel)
  · exact Or.inl rfl
theorem ok_222 : am_ok1 222 := pg_Model_restore
theorem pg_Model_count : ∀ pc, k_Model_count pc = [] ∨ am_chk (am_Lk 9) (decide ("count" = "<init>")) (some .int) am_tf am_Ms prog_11_method_89_code pc (k_Model_count pc) = true := by
  intro pc
  unfold k_Model_count
  split
  · exact Or.inr (by decide +kernel)
  · exact Or.inr (by decide +kernel)
  · exact Or.inr (by decide +kernel)
  · exact Or.inr (by decide +kernel)
  · exact Or.inr (by decide +kernel)
  · exact Or.inr (by decide +kernel)
  · exact Or.inr (by decide +kernel)
  · exact Or.inr (by decide +kernel)
  · exact Or.inr (by decide +kernel)
  · exact Or.inr (by decide +kernel)
  · exact Or.inr (by decide +kernel)
  · exact Or.inr (by decide +kernel)
  · exact Or.inr (by decide +kernel)
  · exact Or.inr (by decide +kernel)
  · exact Or.inr (by decide +kernel)
  · exact Or.inr (by decide +kernel)
  · exact Or.inr (by decide +kernel)
  · exact Or.inr (by decide +kernel)
  · exact Or.inr (by decide +kernel)
  · exact Or.inr (by decide +kernel)
  · exact Or.inr (by decide +kernel)
  · exact Or.inr (by decide +kernel)
  · exact Or.inr (by decide +kernel)
  · exact Or.inr (by decide +kernel)
  · exact Or.inr (by decide +kernel)
  · exact Or.inr (by decide +kernel)
  · exact Or.inr (by decide +kernel)
  · exact Or.inl rfl
theorem ok_223 : am_ok1 223 := pg_Model_count
