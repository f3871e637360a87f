/-! printed by wip/whole/gen2.py: each stretch is the bytecode at its place -/
theorem pg_Model_feed : ∀ pc, k_Model_feed pc = [] ∨ am_chk (am_Lk 9) (decide ("feed" = "<init>")) (some .int) am_tf am_Ms prog_11_method_3_code pc (k_Model_feed pc) = true := by
  intro pc
  unfold k_Model_feed
  split
  · exact Or.inr (by decide +kernel)
  · exact Or.inr (by decide +kernel)
  · exact Or.inr (by decide +kernel)
  · exact Or.inr (by decide +kernel)
  · exact Or.inr (by decide +kernel)
  · exact Or.inr (by decide +kernel)
  · exact Or.inr (by decide +kernel)
  · exact Or.inr (by decide +kernel)
  · exact Or.inl rfl
theorem ok_137 : am_ok1 137 := pg_Model_feed
theorem pg_Model_put : ∀ pc, k_Model_put pc = [] ∨ am_chk (am_Lk 9) (decide ("put" = "<init>")) none am_tf am_Ms prog_11_method_4_code pc (k_Model_put pc) = true := by
  intro pc
  unfold k_Model_put
  split
  · exact Or.inr (by decide +kernel)
  · exact Or.inr (by decide +kernel)
  · exact Or.inr (by decide +kernel)
  · exact Or.inr (by decide +kernel)
  · exact Or.inl rfl
theorem ok_138 : am_ok1 138 := pg_Model_put
theorem pg_Model_back : ∀ pc, k_Model_back pc = [] ∨ am_chk (am_Lk 9) (decide ("back" = "<init>")) (some .int) am_tf am_Ms prog_11_method_5_code pc (k_Model_back pc) = true := by
  intro pc
  unfold k_Model_back
  split
  · exact Or.inr (by decide +kernel)
  · exact Or.inr (by decide +kernel)
  · exact Or.inr (by decide +kernel)
  · exact Or.inr (by decide +kernel)
  · exact Or.inl rfl
theorem ok_139 : am_ok1 139 := pg_Model_back
theorem pg_Model_byteAt : ∀ pc, k_Model_byteAt pc = [] ∨ am_chk (am_Lk 9) (decide ("byteAt" = "<init>")) (some .int) am_tf am_Ms prog_11_method_6_code pc (k_Model_byteAt pc) = true := by
  intro pc
  unfold k_Model_byteAt
  split
  · exact Or.inr (by decide +kernel)
  · exact Or.inr (by decide +kernel)
  · exact Or.inr (by decide +kernel)
  · exact Or.inr (by decide +kernel)
  · exact Or.inl rfl
theorem ok_140 : am_ok1 140 := pg_Model_byteAt
theorem pg_Model_isDigit : ∀ pc, k_Model_isDigit pc = [] ∨ am_chk (am_Lk 9) (decide ("isDigit" = "<init>")) (some .boolean) am_tf am_Ms prog_11_method_7_code pc (k_Model_isDigit pc) = true := by
  intro pc
  unfold k_Model_isDigit
  split
  · exact Or.inr (by decide +kernel)
  · exact Or.inr (by decide +kernel)
  · exact Or.inr (by decide +kernel)
  · exact Or.inr (by decide +kernel)
  · exact Or.inr (by decide +kernel)
  · exact Or.inl rfl
theorem ok_141 : am_ok1 141 := pg_Model_isDigit
theorem pg_Model_isLetter : ∀ pc, k_Model_isLetter pc = [] ∨ am_chk (am_Lk 9) (decide ("isLetter" = "<init>")) (some .boolean) am_tf am_Ms prog_11_method_8_code pc (k_Model_isLetter pc) = true := by
  intro pc
  unfold k_Model_isLetter
  split
  · exact Or.inr (by decide +kernel)
  · exact Or.inr (by decide +kernel)
  · exact Or.inr (by decide +kernel)
  · exact Or.inr (by decide +kernel)
  · exact Or.inr (by decide +kernel)
  · exact Or.inl rfl
theorem ok_142 : am_ok1 142 := pg_Model_isLetter
theorem pg_Model_appends : ∀ pc, k_Model_appends pc = [] ∨ am_chk (am_Lk 9) (decide ("appends" = "<init>")) (some .long) am_tf am_Ms prog_11_method_9_code pc (k_Model_appends pc) = true := by
  intro pc
  unfold k_Model_appends
  split
  · exact Or.inr (by decide +kernel)
  · exact Or.inr (by decide +kernel)
  · exact Or.inr (by decide +kernel)
  · exact Or.inr (by decide +kernel)
  · exact Or.inl rfl
theorem ok_143 : am_ok1 143 := pg_Model_appends
theorem pg_Model_word : ∀ pc, k_Model_word pc = [] ∨ am_chk (am_Lk 9) (decide ("word" = "<init>")) (some .long) am_tf am_Ms prog_11_method_10_code pc (k_Model_word pc) = true := by
  intro pc
  unfold k_Model_word
  split
  · exact Or.inr (by decide +kernel)
  · exact Or.inr (by decide +kernel)
  · exact Or.inr (by decide +kernel)
  · exact Or.inr (by decide +kernel)
  · exact Or.inr (by decide +kernel)
  · exact Or.inr (by decide +kernel)
  · exact Or.inr (by decide +kernel)
  · exact Or.inr (by decide +kernel)
  · exact Or.inl rfl
theorem ok_144 : am_ok1 144 := pg_Model_word
theorem pg_Model_token : ∀ pc, k_Model_token pc = [] ∨ am_chk (am_Lk 9) (decide ("token" = "<init>")) none am_tf am_Ms prog_11_method_11_code pc (k_Model_token pc) = true := by
  intro pc
  unfold k_Model_token
  split
  · exact Or.inr (by decide +kernel)
  · exact Or.inl rfl
theorem ok_145 : am_ok1 145 := pg_Model_token
theorem pg_Model_cut : ∀ pc, k_Model_cut pc = [] ∨ am_chk (am_Lk 9) (decide ("cut" = "<init>")) none am_tf am_Ms prog_11_method_12_code pc (k_Model_cut pc) = true := by
  intro pc
  unfold k_Model_cut
  split
  · exact Or.inr (by decide +kernel)
  · exact Or.inr (by decide +kernel)
  · exact Or.inr (by decide +kernel)
  · exact Or.inr (by decide +kernel)
  · exact Or.inr (by decide +kernel)
  · exact Or.inr (by decide +kernel)
  · exact Or.inr (by decide +kernel)
  · exact Or.inr (by decide +kernel)
  · exact Or.inr (by decide +kernel)
  · exact Or.inr (by decide +kernel)
  · exact Or.inr (by decide +kernel)
  · exact Or.inr (by decide +kernel)
  · exact Or.inr (by decide +kernel)
  · exact Or.inr (by decide +kernel)
  · exact Or.inr (by decide +kernel)
  · exact Or.inr (by decide +kernel)
  · exact Or.inr (by decide +kernel)
  · exact Or.inr (by decide +kernel)
  · exact Or.inr (by decide +kernel)
  · exact Or.inr (by decide +kernel)
  · exact Or.inr (by decide +kernel)
  · exact Or.inr (by decide +kernel)
  · exact Or.inr (by decide +kernel)
  · exact Or.inr (by decide +kernel)
  · exact Or.inr (by decide +kernel)
  · exact Or.inr (by decide +kernel)
  · exact Or.inr (by decide +kernel)
  · exact Or.inr (by decide +kernel)
  · exact Or.inr (by decide +kernel)
  · exact Or.inr (by decide +kernel)
  · exact Or.inr (by decide +kernel)
  · exact Or.inr (by decide +kernel)
  · exact Or.inr (by decide +kernel)
  · exact Or.inr (by decide +kernel)
  · exact Or.inr (by decide +kernel)
  · exact Or.inr (by decide +kernel)
  · exact Or.inr (by decide +kernel)
  · exact Or.inr (by decide +kernel)
  · exact Or.inr (by decide +kernel)
  · exact Or.inr (by decide +kernel)
  · exact Or.inr (by decide +kernel)
  · exact Or.inr (by decide +kernel)
  · exact Or.inr (by decide +kernel)
  · exact Or.inr (by decide +kernel)
  · exact Or.inr (by decide +kernel)
  · exact Or.inr (by decide +kernel)
  · exact Or.inr (by decide +kernel)
  · exact Or.inr (by decide +kernel)
  · exact Or.inr (by decide +kernel)
  · exact Or.inr (by decide +kernel)
  · exact Or.inr (by decide +kernel)
  · exact Or.inr (by decide +kernel)
  · exact Or.inr (by decide +kernel)
  · exact Or.inl rfl
theorem ok_146 : am_ok1 146 := pg_Model_cut
theorem pg_Model_sign : ∀ pc, k_Model_sign pc = [] ∨ am_chk (am_Lk 9) (decide ("sign" = "<init>")) (some .int) am_tf am_Ms prog_11_method_13_code pc (k_Model_sign pc) = true := by
  intro pc
  unfold k_Model_sign
  split
  · exact Or.inr (by decide +kernel)
  · exact Or.inr (by decide +kernel)
  · exact Or.inr (by decide +kernel)
  · exact Or.inr (by decide +kernel)
  · exact Or.inr (by decide +kernel)
  · exact Or.inr (by decide +kernel)
  · exact Or.inr (by decide +kernel)
  · exact Or.inr (by decide +kernel)
  · exact Or.inr (by decide +kernel)
  · exact Or.inr (by decide +kernel)
  · exact Or.inr (by decide +kernel)
  · exact Or.inr (by decide +kernel)
  · exact Or.inr (by decide +kernel)
  · exact Or.inr (by decide +kernel)
  · exact Or.inr (by decide +kernel)
  · exact Or.inr (by decide +kernel)
  · exact Or.inr (by decide +kernel)
  · exact Or.inr (by decide +kernel)
  · exact Or.inr (by decide +kernel)
  · exact Or.inr (by decide +kernel)
  · exact Or.inr (by decide +kernel)
  · exact Or.inl rfl
theorem ok_147 : am_ok1 147 := pg_Model_sign
theorem pg_Model_is : ∀ pc, k_Model_is pc = [] ∨ am_chk (am_Lk 9) (decide ("is" = "<init>")) (some .boolean) am_tf am_Ms prog_11_method_14_code pc (k_Model_is pc) = true := by
  intro pc
  unfold k_Model_is
  split
  · exact Or.inr (by decide +kernel)
  · exact Or.inr (by decide +kernel)
  · exact Or.inr (by decide +kernel)
  · exact Or.inr (by decide +kernel)
  · exact Or.inr (by decide +kernel)
  · exact Or.inl rfl
theorem ok_148 : am_ok1 148 := pg_Model_is
theorem pg_Model_fail : ∀ pc, k_Model_fail pc = [] ∨ am_chk (am_Lk 9) (decide ("fail" = "<init>")) none am_tf am_Ms prog_11_method_15_code pc (k_Model_fail pc) = true := by
  intro pc
  unfold k_Model_fail
  split
  · exact Or.inr (by decide +kernel)
  · exact Or.inr (by decide +kernel)
  · exact Or.inr (by decide +kernel)
  · exact Or.inl rfl
theorem ok_149 : am_ok1 149 := pg_Model_fail
theorem pg_Model_wrong : ∀ pc, k_Model_wrong pc = [] ∨ am_chk (am_Lk 9) (decide ("wrong" = "<init>")) none am_tf am_Ms prog_11_method_16_code pc (k_Model_wrong pc) = true := by
  intro pc
  unfold k_Model_wrong
  split
  · exact Or.inr (by decide +kernel)
  · exact Or.inr (by decide +kernel)
  · exact Or.inr (by decide +kernel)
  · exact Or.inr (by decide +kernel)
  · exact Or.inr (by decide +kernel)
  · exact Or.inr (by decide +kernel)
  · exact Or.inr (by decide +kernel)
  · exact Or.inl rfl
theorem ok_150 : am_ok1 150 := pg_Model_wrong
theorem pg_Model_goesOn : ∀ pc, k_Model_goesOn pc = [] ∨ am_chk (am_Lk 9) (decide ("goesOn" = "<init>")) none am_tf am_Ms prog_11_method_17_code pc (k_Model_goesOn pc) = true := by
  intro pc
  unfold k_Model_goesOn
  split
  · exact Or.inr (by decide +kernel)
  · exact Or.inr (by decide +kernel)
  · exact Or.inr (by decide +kernel)
  · exact Or.inr (by decide +kernel)
  · exact Or.inr (by decide +kernel)
  · exact Or.inl rfl
theorem ok_151 : am_ok1 151 := pg_Model_goesOn
theorem pg_Model_must : ∀ pc, k_Model_must pc = [] ∨ am_chk (am_Lk 9) (decide ("must" = "<init>")) none am_tf am_Ms prog_11_method_18_code pc (k_Model_must pc) = true := by
  intro pc
  unfold k_Model_must
  split
  · exact Or.inr (by decide +kernel)
  · exact Or.inr (by decide +kernel)
  · exact Or.inr (by decide +kernel)
  · exact Or.inr (by decide +kernel)
  · exact Or.inr (by decide +kernel)
  · exact Or.inr (by decide +kernel)
  · exact Or.inl rfl
theorem ok_152 : am_ok1 152 := pg_Model_must
theorem pg_Model_plain : ∀ pc, k_Model_plain pc = [] ∨ am_chk (am_Lk 9) (decide ("plain" = "<init>")) none am_tf am_Ms prog_11_method_19_code pc (k_Model_plain pc) = true := by
  intro pc
  unfold k_Model_plain
  split
  · exact Or.inr (by decide +kernel)
  · exact Or.inr (by decide +kernel)
  · exact Or.inr (by decide +kernel)
  · exact Or.inr (by decide +kernel)
  · exact Or.inl rfl
theorem ok_153 : am_ok1 153 := pg_Model_plain
theorem pg_Model_read : ∀ pc, k_Model_read pc = [] ∨ am_chk (am_Lk 9) (decide ("read" = "<init>")) (some .int) am_tf am_Ms prog_11_method_20_code pc (k_Model_read pc) = true := by
  intro pc
  unfold k_Model_read
  split
  · exact Or.inr (by decide +kernel)
  · exact Or.inr (by decide +kernel)
  · exact Or.inr (by decide +kernel)
  · exact Or.inr (by decide +kernel)
  · exact Or.inr (by decide +kernel)
  · exact Or.inr (by decide +kernel)
  · exact Or.inr (by decide +kernel)
  · exact Or.inr (by decide +kernel)
  · exact Or.inr (by decide +kernel)
  · exact Or.inr (by decide +kernel)
  · exact Or.inr (by decide +kernel)
  · exact Or.inr (by decide +kernel)
  · exact Or.inr (by decide +kernel)
  · exact Or.inr (by decide +kernel)
  · exact Or.inr (by decide +kernel)
  · exact Or.inr (by decide +kernel)
  · exact Or.inr (by decide +kernel)
  · exact Or.inr (by decide +kernel)
  · exact Or.inr (by decide +kernel)
  · exact Or.inr (by decide +kernel)
  · exact Or.inr (by decide +kernel)
  · exact Or.inr (by decide +kernel)
  · exact Or.inr (by decide +kernel)
  · exact Or.inr (by decide +kernel)
  · exact Or.inr (by decide +kernel)
  · exact Or.inr (by decide +kernel)
  · exact Or.inr (by decide +kernel)
  · exact Or.inr (by decide +kernel)
  · exact Or.inl rfl
theorem ok_154 : am_ok1 154 := pg_Model_read
theorem pg_Model_place : ∀ pc, k_Model_place pc = [] ∨ am_chk (am_Lk 9) (decide ("place" = "<init>")) (some .int) am_tf am_Ms prog_11_method_21_code pc (k_Model_place pc) = true := by
  intro pc
  unfold k_Model_place
  split
  · exact Or.inr (by decide +kernel)
  · exact Or.inl rfl
theorem ok_155 : am_ok1 155 := pg_Model_place
theorem pg_Model_tell : ∀ pc, k_Model_tell pc = [] ∨ am_chk (am_Lk 9) (decide ("tell" = "<init>")) none am_tf am_Ms prog_11_method_22_code pc (k_Model_tell pc) = true := by
  intro pc
  unfold k_Model_tell
  split
  · exact Or.inr (by decide +kernel)
  · exact Or.inr (by decide +kernel)
  · exact Or.inr (by decide +kernel)
  · exact Or.inr (by decide +kernel)
  · exact Or.inr (by decide +kernel)
  · exact Or.inr (by decide +kernel)
  · exact Or.inr (by decide +kernel)
  · exact Or.inr (by decide +kernel)
  · exact Or.inr (by decide +kernel)
  · exact Or.inr (by decide +kernel)
  · exact Or.inr (by decide +kernel)
  · exact Or.inr (by decide +kernel)
  · exact Or.inr (by decide +kernel)
  · exact Or.inr (by decide +kernel)
  · exact Or.inr (by decide +kernel)
  · exact Or.inr (by decide +kernel)
  · exact Or.inr (by decide +kernel)
  · exact Or.inr (by decide +kernel)
  · exact Or.inr (by decide +kernel)
  · exact Or.inl rfl
theorem ok_156 : am_ok1 156 := pg_Model_tell
theorem pg_Model_bounded : ∀ pc, k_Model_bounded pc = [] ∨ am_chk (am_Lk 9) (decide ("bounded" = "<init>")) (some .int) am_tf am_Ms prog_11_method_23_code pc (k_Model_bounded pc) = true := by
  intro pc
  unfold k_Model_bounded
  split
  · exact Or.inr (by decide +kernel)
  · exact Or.inr (by decide +kernel)
  · exact Or.inr (by decide +kernel)
  · exact Or.inr (by decide +kernel)
  · exact Or.inr (by decide +kernel)
  · exact Or.inr (by decide +kernel)
  · exact Or.inr (by decide +kernel)
  · exact Or.inr (by decide +kernel)
  · exact Or.inr (by decide +kernel)
  · exact Or.inr (by decide +kernel)
  · exact Or.inl rfl
theorem ok_157 : am_ok1 157 := pg_Model_bounded
theorem pg_Model_tellPilgrim : ∀ pc, k_Model_tellPilgrim pc = [] ∨ am_chk (am_Lk 9) (decide ("tellPilgrim" = "<init>")) none am_tf am_Ms prog_11_method_24_code pc (k_Model_tellPilgrim pc) = true := by
  intro pc
  unfold k_Model_tellPilgrim
  split
  · exact Or.inr (by decide +kernel)
  · exact Or.inr (by decide +kernel)
  · exact Or.inr (by decide +kernel)
  · exact Or.inr (by decide +kernel)
  · exact Or.inr (by decide +kernel)
  · exact Or.inr (by decide +kernel)
  · exact Or.inr (by decide +kernel)
  · exact Or.inr (by decide +kernel)
  · exact Or.inr (by decide +kernel)
  · exact Or.inr (by decide +kernel)
  · exact Or.inr (by decide +kernel)
  · exact Or.inr (by decide +kernel)
  · exact Or.inr (by decide +kernel)
  · exact Or.inr (by decide +kernel)
  · exact Or.inr (by decide +kernel)
  · exact Or.inr (by decide +kernel)
  · exact Or.inr (by decide +kernel)
  · exact Or.inr (by decide +kernel)
  · exact Or.inr (by decide +kernel)
  · exact Or.inr (by decide +kernel)
  · exact Or.inr (by decide +kernel)
  · exact Or.inr (by decide +kernel)
  · exact Or.inr (by decide +kernel)
  · exact Or.inr (by decide +kernel)
  · exact Or.inl rfl
theorem ok_158 : am_ok1 158 := pg_Model_tellPilgrim
theorem pg_Model_tellLaw : ∀ pc, k_Model_tellLaw pc = [] ∨ am_chk (am_Lk 9) (decide ("tellLaw" = "<init>")) none am_tf am_Ms prog_11_method_25_code pc (k_Model_tellLaw pc) = true := by
  intro pc
  unfold k_Model_tellLaw
  split
  · exact Or.inr (by decide +kernel)
  · exact Or.inr (by decide +kernel)
  · exact Or.inr (by decide +kernel)
  · exact Or.inr (by decide +kernel)
  · exact Or.inr (by decide +kernel)
  · exact Or.inr (by decide +kernel)
  · exact Or.inr (by decide +kernel)
  · exact Or.inr (by decide +kernel)
  · exact Or.inr (by decide +kernel)
  · exact Or.inr (by decide +kernel)
  · exact Or.inr (by decide +kernel)
  · exact Or.inr (by decide +kernel)
  · exact Or.inr (by decide +kernel)
  · exact Or.inr (by decide +kernel)
  · exact Or.inr (by decide +kernel)
  · exact Or.inr (by decide +kernel)
  · exact Or.inr (by decide +kernel)
  · exact Or.inr (by decide +kernel)
  · exact Or.inr (by decide +kernel)
  · exact Or.inr (by decide +kernel)
  · exact Or.inr (by decide +kernel)
  · exact Or.inr (by decide +kernel)
  · exact Or.inr (by decide +kernel)
  · exact Or.inl rfl
theorem ok_159 : am_ok1 159 := pg_Model_tellLaw
theorem pg_Model_term : ∀ pc, k_Model_term pc = [] ∨ am_chk (am_Lk 9) (decide ("term" = "<init>")) none am_tf am_Ms prog_11_method_26_code pc (k_Model_term pc) = true := by
  intro pc
  unfold k_Model_term
  split
  · exact Or.inr (by decide +kernel)
  · exact Or.inr (by decide +kernel)
  · exact Or.inr (by decide +kernel)
  · exact Or.inl rfl
theorem ok_160 : am_ok1 160 := pg_Model_term
theorem pg_Model_emit : ∀ pc, k_Model_emit pc = [] ∨ am_chk (am_Lk 9) (decide ("emit" = "<init>")) none am_tf am_Ms prog_11_method_27_code pc (k_Model_emit pc) = true := by
  intro pc
  unfold k_Model_emit
  split
  · exact Or.inr (by decide +kernel)
  · exact Or.inl rfl
theorem ok_161 : am_ok1 161 := pg_Model_emit
theorem pg_Model_comesOut : ∀ pc, k_Model_comesOut pc = [] ∨ am_chk (am_Lk 9) (decide ("comesOut" = "<init>")) none am_tf am_Ms prog_11_method_28_code pc (k_Model_comesOut pc) = true := by
  intro pc
  unfold k_Model_comesOut
  split
  · exact Or.inr (by decide +kernel)
  · exact Or.inr (by decide +kernel)
  · exact Or.inr (by decide +kernel)
  · exact Or.inr (by decide +kernel)
  · exact Or.inr (by decide +kernel)
  · exact Or.inr (by decide +kernel)
  · exact Or.inr (by decide +kernel)
  · exact Or.inr (by decide +kernel)
  · exact Or.inr (by decide +kernel)
  · exact Or.inr (by decide +kernel)
  · exact Or.inr (by decide +kernel)
  · exact Or.inr (by decide +kernel)
  · exact Or.inr (by decide +kernel)
  · exact Or.inr (by decide +kernel)
  · exact Or.inr (by decide +kernel)
  · exact Or.inr (by decide +kernel)
  · exact Or.inl rfl
theorem ok_162 : am_ok1 162 := pg_Model_comesOut
theorem pg_Model_expression : ∀ pc, k_Model_expression pc = [] ∨ am_chk (am_Lk 9) (decide ("expression" = "<init>")) none am_tf am_Ms prog_11_method_29_code pc (k_Model_expression pc) = true := by
  intro pc
  unfold k_Model_expression
  split
  · exact Or.inr (by decide +kernel)
  · exact Or.inr (by decide +kernel)
  · exact Or.inr (by decide +kernel)
  · exact Or.inr (by decide +kernel)
  · exact Or.inr (by decide +kernel)
  · exact Or.inr (by decide +kernel)
  · exact Or.inr (by decide +kernel)
  · exact Or.inr (by decide +kernel)
  · exact Or.inr (by decide +kernel)
  · exact Or.inr (by decide +kernel)
  · exact Or.inr (by decide +kernel)
  · exact Or.inr (by decide +kernel)
  · exact Or.inr (by decide +kernel)
  · exact Or.inr (by decide +kernel)
  · exact Or.inr (by decide +kernel)
  · exact Or.inr (by decide +kernel)
  · exact Or.inr (by decide +kernel)
  · exact Or.inr (by decide +kernel)
  · exact Or.inr (by decide +kernel)
  · exact Or.inr (by decide +kernel)
  · exact Or.inr (by decide +kernel)
  · exact Or.inr (by decide +kernel)
  · exact Or.inr (by decide +kernel)
  · exact Or.inr (by decide +kernel)
  · exact Or.inr (by decide +kernel)
  · exact Or.inr (by decide +kernel)
  · exact Or.inr (by decide +kernel)
  · exact Or.inr (by decide +kernel)
  · exact Or.inr (by decide +kernel)
  · exact Or.inr (by decide +kernel)
  · exact Or.inr (by decide +kernel)
  · exact Or.inr (by decide +kernel)
  · exact Or.inr (by decide +kernel)
  · exact Or.inr (by decide +kernel)
  · exact Or.inr (by decide +kernel)
  · exact Or.inr (by decide +kernel)
  · exact Or.inr (by decide +kernel)
  · exact Or.inr (by decide +kernel)
  · exact Or.inr (by decide +kernel)
  · exact Or.inr (by decide +kernel)
  · exact Or.inr (by decide +kernel)
  · exact Or.inr (by decide +kernel)
  · exact Or.inr (by decide +kernel)
  · exact Or.inl rfl
theorem ok_163 : am_ok1 163 := pg_Model_expression
theorem pg_Model_unit : ∀ pc, k_Model_unit pc = [] ∨ am_chk (am_Lk 9) (decide ("unit" = "<init>")) none am_tf am_Ms prog_11_method_30_code pc (k_Model_unit pc) = true := by
  intro pc
  unfold k_Model_unit
  split
  · exact Or.inr (by decide +kernel)
  · exact Or.inr (by decide +kernel)
  · exact Or.inr (by decide +kernel)
  · exact Or.inr (by decide +kernel)
  · exact Or.inr (by decide +kernel)
  · exact Or.inr (by decide +kernel)
  · exact Or.inr (by decide +kernel)
  · exact Or.inr (by decide +kernel)
  · exact Or.inr (by decide +kernel)
  · exact Or.inr (by decide +kernel)
  · exact Or.inr (by decide +kernel)
  · exact Or.inr (by decide +kernel)
  · exact Or.inr (by decide +kernel)
  · exact Or.inl rfl
theorem ok_164 : am_ok1 164 := pg_Model_unit
theorem pg_Model_termOf : ∀ pc, k_Model_termOf pc = [] ∨ am_chk (am_Lk 9) (decide ("termOf" = "<init>")) (some .int) am_tf am_Ms prog_11_method_31_code pc (k_Model_termOf pc) = true := by
  intro pc
  unfold k_Model_termOf
  split
  · exact Or.inr (by decide +kernel)
  · exact Or.inr (by decide +kernel)
  · exact Or.inr (by decide +kernel)
  · exact Or.inr (by decide +kernel)
  · exact Or.inr (by decide +kernel)
  · exact Or.inr (by decide +kernel)
  · exact Or.inr (by decide +kernel)
  · exact Or.inr (by decide +kernel)
  · exact Or.inr (by decide +kernel)
  · exact Or.inr (by decide +kernel)
  · exact Or.inr (by decide +kernel)
  · exact Or.inr (by decide +kernel)
  · exact Or.inr (by decide +kernel)
  · exact Or.inr (by decide +kernel)
  · exact Or.inr (by decide +kernel)
  · exact Or.inr (by decide +kernel)
  · exact Or.inr (by decide +kernel)
  · exact Or.inr (by decide +kernel)
  · exact Or.inr (by decide +kernel)
  · exact Or.inr (by decide +kernel)
  · exact Or.inl rfl
theorem ok_165 : am_ok1 165 := pg_Model_termOf
theorem pg_Model_in : ∀ pc, k_Model_in pc = [] ∨ am_chk (am_Lk 9) (decide ("in" = "<init>")) (some .boolean) am_tf am_Ms prog_11_method_32_code pc (k_Model_in pc) = true := by
  intro pc
  unfold k_Model_in
  split
  · exact Or.inr (by decide +kernel)
  · exact Or.inr (by decide +kernel)
  · exact Or.inr (by decide +kernel)
  · exact Or.inr (by decide +kernel)
  · exact Or.inr (by decide +kernel)
  · exact Or.inl rfl
theorem ok_166 : am_ok1 166 := pg_Model_in
theorem pg_Model_isPilgrim : ∀ pc, k_Model_isPilgrim pc = [] ∨ am_chk (am_Lk 9) (decide ("isPilgrim" = "<init>")) (some .boolean) am_tf am_Ms prog_11_method_33_code pc (k_Model_isPilgrim pc) = true := by
  intro pc
  unfold k_Model_isPilgrim
  split
  · exact Or.inr (by decide +kernel)
  · exact Or.inr (by decide +kernel)
  · exact Or.inl rfl
theorem ok_167 : am_ok1 167 := pg_Model_isPilgrim
theorem pg_Model_plainly : ∀ pc, k_Model_plainly pc = [] ∨ am_chk (am_Lk 9) (decide ("plainly" = "<init>")) none am_tf am_Ms prog_11_method_34_code pc (k_Model_plainly pc) = true := by
  intro pc
  unfold k_Model_plainly
  split
  · exact Or.inr (by decide +kernel)
  · exact Or.inl rfl
theorem ok_168 : am_ok1 168 := pg_Model_plainly
theorem pg_Model_begins : ∀ pc, k_Model_begins pc = [] ∨ am_chk (am_Lk 9) (decide ("begins" = "<init>")) none am_tf am_Ms prog_11_method_35_code pc (k_Model_begins pc) = true := by
  intro pc
  unfold k_Model_begins
  split
  · exact Or.inr (by decide +kernel)
  · exact Or.inr (by decide +kernel)
  · exact Or.inr (by decide +kernel)
  · exact Or.inr (by decide +kernel)
  · exact Or.inr (by decide +kernel)
  · exact Or.inr (by decide +kernel)
  · exact Or.inr (by decide +kernel)
  · exact Or.inr (by decide +kernel)
  · exact Or.inr (by decide +kernel)
  · exact Or.inr (by decide +kernel)
  · exact Or.inr (by decide +kernel)
  · exact Or.inr (by decide +kernel)
  · exact Or.inr (by decide +kernel)
  · exact Or.inr (by decide +kernel)
  · exact Or.inr (by decide +kernel)
  · exact Or.inr (by decide +kernel)
  · exact Or.inr (by decide +kernel)
  · exact Or.inr (by decide +kernel)
  · exact Or.inr (by decide +kernel)
  · exact Or.inr (by decide +kernel)
  · exact Or.inr (by decide +kernel)
  · exact Or.inr (by decide +kernel)
  · exact Or.inr (by decide +kernel)
  · exact Or.inr (by decide +kernel)
  · exact Or.inl rfl
theorem ok_169 : am_ok1 169 := pg_Model_begins
theorem pg_Model_copies : ∀ pc, k_Model_copies pc = [] ∨ am_chk (am_Lk 9) (decide ("copies" = "<init>")) none am_tf am_Ms prog_11_method_36_code pc (k_Model_copies pc) = true := by
  intro pc
  unfold k_Model_copies
  split
  · exact Or.inr (by decide +kernel)
  · exact Or.inr (by decide +kernel)
  · exact Or.inr (by decide +kernel)
  · exact Or.inr (by decide +kernel)
  · exact Or.inr (by decide +kernel)
  · exact Or.inl rfl
theorem ok_170 : am_ok1 170 := pg_Model_copies
theorem pg_Model_isOn : ∀ pc, k_Model_isOn pc = [] ∨ am_chk (am_Lk 9) (decide ("isOn" = "<init>")) (some .boolean) am_tf am_Ms prog_11_method_37_code pc (k_Model_isOn pc) = true := by
  intro pc
  unfold k_Model_isOn
  split
  · exact Or.inr (by decide +kernel)
  · exact Or.inr (by decide +kernel)
  · exact Or.inr (by decide +kernel)
  · exact Or.inr (by decide +kernel)
  · exact Or.inr (by decide +kernel)
  · exact Or.inl rfl
theorem ok_171 : am_ok1 171 := pg_Model_isOn
theorem pg_Model_onAll : ∀ pc, k_Model_onAll pc = [] ∨ am_chk (am_Lk 9) (decide ("onAll" = "<init>")) (some .int) am_tf am_Ms prog_11_method_38_code pc (k_Model_onAll pc) = true := by
  intro pc
  unfold k_Model_onAll
  split
  · exact Or.inr (by decide +kernel)
  · exact Or.inr (by decide +kernel)
  · exact Or.inr (by decide +kernel)
  · exact Or.inr (by decide +kernel)
  · exact Or.inr (by decide +kernel)
  · exact Or.inr (by decide +kernel)
  · exact Or.inr (by decide +kernel)
  · exact Or.inl rfl
theorem ok_172 : am_ok1 172 := pg_Model_onAll
theorem pg_Model_mayKneel : ∀ pc, k_Model_mayKneel pc = [] ∨ am_chk (am_Lk 9) (decide ("mayKneel" = "<init>")) (some .boolean) am_tf am_Ms prog_11_method_39_code pc (k_Model_mayKneel pc) = true := by
  intro pc
  unfold k_Model_mayKneel
  split
  · exact Or.inr (by decide +kernel)
  · exact Or.inr (by decide +kernel)
  · exact Or.inr (by decide +kernel)
  · exact Or.inr (by decide +kernel)
  · exact Or.inr (by decide +kernel)
  · exact Or.inr (by decide +kernel)
  · exact Or.inl rfl
theorem ok_173 : am_ok1 173 := pg_Model_mayKneel
theorem pg_Model_tells : ∀ pc, k_Model_tells pc = [] ∨ am_chk (am_Lk 9) (decide ("tells" = "<init>")) (some .int) am_tf am_Ms prog_11_method_40_code pc (k_Model_tells pc) = true := by
  intro pc
  unfold k_Model_tells
  split
  · exact Or.inr (by decide +kernel)
  · exact Or.inr (by decide +kernel)
  · exact Or.inr (by decide +kernel)
  · exact Or.inr (by decide +kernel)
  · exact Or.inr (by decide +kernel)
  · exact Or.inr (by decide +kernel)
  · exact Or.inr (by decide +kernel)
  · exact Or.inr (by decide +kernel)
  · exact Or.inr (by decide +kernel)
  · exact Or.inr (by decide +kernel)
  · exact Or.inr (by decide +kernel)
  · exact Or.inr (by decide +kernel)
  · exact Or.inr (by decide +kernel)
  · exact Or.inr (by decide +kernel)
  · exact Or.inr (by decide +kernel)
  · exact Or.inr (by decide +kernel)
  · exact Or.inr (by decide +kernel)
  · exact Or.inr (by decide +kernel)
  · exact Or.inr (by decide +kernel)
  · exact Or.inr (by decide +kernel)
  · exact Or.inr (by decide +kernel)
  · exact Or.inr (by decide +kernel)
  · exact Or.inr (by decide +kernel)
  · exact Or.inr (by decide +kernel)
  · exact Or.inr (by decide +kernel)
  · exact Or.inr (by decide +kernel)
  · exact Or.inr (by decide +kernel)
  · exact Or.inl rfl
theorem ok_174 : am_ok1 174 := pg_Model_tells
theorem pg_Model_setsOf : ∀ pc, k_Model_setsOf pc = [] ∨ am_chk (am_Lk 9) (decide ("setsOf" = "<init>")) none am_tf am_Ms prog_11_method_41_code pc (k_Model_setsOf pc) = true := by
  intro pc
  unfold k_Model_setsOf
  split
  · exact Or.inr (by decide +kernel)
  · exact Or.inr (by decide +kernel)
  · exact Or.inr (by decide +kernel)
  · exact Or.inr (by decide +kernel)
  · exact Or.inr (by decide +kernel)
  · exact Or.inr (by decide +kernel)
  · exact Or.inr (by decide +kernel)
  · exact Or.inr (by decide +kernel)
  · exact Or.inr (by decide +kernel)
  · exact Or.inr (by decide +kernel)
  · exact Or.inr (by decide +kernel)
  · exact Or.inl rfl
theorem ok_175 : am_ok1 175 := pg_Model_setsOf
theorem pg_Model_movesNow : ∀ pc, k_Model_movesNow pc = [] ∨ am_chk (am_Lk 9) (decide ("movesNow" = "<init>")) (some .int) am_tf am_Ms prog_11_method_42_code pc (k_Model_movesNow pc) = true := by
  intro pc
  unfold k_Model_movesNow
  split
  · exact Or.inr (by decide +kernel)
  · exact Or.inr (by decide +kernel)
  · exact Or.inr (by decide +kernel)
  · exact Or.inl rfl
theorem ok_176 : am_ok1 176 := pg_Model_movesNow
theorem pg_Model_hasOf : ∀ pc, k_Model_hasOf pc = [] ∨ am_chk (am_Lk 9) (decide ("hasOf" = "<init>")) (some .int) am_tf am_Ms prog_11_method_43_code pc (k_Model_hasOf pc) = true := by
  intro pc
  unfold k_Model_hasOf
  split
  · exact Or.inr (by decide +kernel)
  · exact Or.inr (by decide +kernel)
  · exact Or.inr (by decide +kernel)
  · exact Or.inl rfl
theorem ok_177 : am_ok1 177 := pg_Model_hasOf
theorem pg_Model_minuteGoes : ∀ pc, k_Model_minuteGoes pc = [] ∨ am_chk (am_Lk 9) (decide ("minuteGoes" = "<init>")) none am_tf am_Ms prog_11_method_44_code pc (k_Model_minuteGoes pc) = true := by
  intro pc
  unfold k_Model_minuteGoes
  split
  · exact Or.inr (by decide +kernel)
  · exact Or.inr (by decide +kernel)
  · exact Or.inr (by decide +kernel)
  · exact Or.inr (by decide +kernel)
  · exact Or.inr (by decide +kernel)
  · exact Or.inr (by decide +kernel)
  · exact Or.inr (by decide +kernel)
  · exact Or.inr (by decide +kernel)
  · exact Or.inr (by decide +kernel)
  · exact Or.inr (by decide +kernel)
  · exact Or.inr (by decide +kernel)
  · exact Or.inr (by decide +kernel)
  · exact Or.inr (by decide +kernel)
  · exact Or.inr (by decide +kernel)
  · exact Or.inr (by decide +kernel)
  · exact Or.inr (by decide +kernel)
  · exact Or.inr (by decide +kernel)
  · exact Or.inr (by decide +kernel)
  · exact Or.inr (by decide +kernel)
  · exact Or.inr (by decide +kernel)
  · exact Or.inr (by decide +kernel)
  · exact Or.inr (by decide +kernel)
  · exact Or.inr (by decide +kernel)
  · exact Or.inr (by decide +kernel)
  · exact Or.inr (by decide +kernel)
  · exact Or.inl rfl
theorem ok_178 : am_ok1 178 := pg_Model_minuteGoes
theorem pg_Model_soresOf : ∀ pc, k_Model_soresOf pc = [] ∨ am_chk (am_Lk 9) (decide ("soresOf" = "<init>")) none am_tf am_Ms prog_11_method_45_code pc (k_Model_soresOf pc) = true := by
  intro pc
  unfold k_Model_soresOf
  split
  · exact Or.inr (by decide +kernel)
  · exact Or.inr (by decide +kernel)
  · exact Or.inr (by decide +kernel)
  · exact Or.inr (by decide +kernel)
  · exact Or.inr (by decide +kernel)
  · exact Or.inr (by decide +kernel)
  · exact Or.inr (by decide +kernel)
  · exact Or.inl rfl
theorem ok_179 : am_ok1 179 := pg_Model_soresOf
theorem pg_Model_goes : ∀ pc, k_Model_goes pc = [] ∨ am_chk (am_Lk 9) (decide ("goes" = "<init>")) none am_tf am_Ms prog_11_method_46_code pc (k_Model_goes pc) = true := by
  intro pc
  unfold k_Model_goes
  split
  · exact Or.inr (by decide +kernel)
  · exact Or.inr (by decide +kernel)
  · exact Or.inr (by decide +kernel)
  · exact Or.inr (by decide +kernel)
  · exact Or.inr (by decide +kernel)
  · exact Or.inl rfl
theorem ok_180 : am_ok1 180 := pg_Model_goes
theorem pg_Model_pilgrim : ∀ pc, k_Model_pilgrim pc = [] ∨ am_chk (am_Lk 9) (decide ("pilgrim" = "<init>")) (some .int) am_tf am_Ms prog_11_method_47_code pc (k_Model_pilgrim pc) = true := by
  intro pc
  unfold k_Model_pilgrim
  split
  · exact Or.inr (by decide +kernel)
  · exact Or.inr (by decide +kernel)
  · exact Or.inr (by decide +kernel)
  · exact Or.inr (by decide +kernel)
  · exact Or.inr (by decide +kernel)
  · exact Or.inr (by decide +kernel)
  · exact Or.inr (by decide +kernel)
  · exact Or.inr (by decide +kernel)
  · exact Or.inr (by decide +kernel)
  · exact Or.inr (by decide +kernel)
  · exact Or.inr (by decide +kernel)
  · exact Or.inr (by decide +kernel)
  · exact Or.inr (by decide +kernel)
  · exact Or.inr (by decide +kernel)
  · exact Or.inr (by decide +kernel)
  · exact Or.inr (by decide +kernel)
  · exact Or.inr (by decide +kernel)
  · exact Or.inr (by decide +kernel)
  · exact Or.inl rfl
theorem ok_181 : am_ok1 181 := pg_Model_pilgrim
theorem pg_Model_moves : ∀ pc, k_Model_moves pc = [] ∨ am_chk (am_Lk 9) (decide ("moves" = "<init>")) (some .int) am_tf am_Ms prog_11_method_48_code pc (k_Model_moves pc) = true := by
  intro pc
  unfold k_Model_moves
  split
  · exact Or.inr (by decide +kernel)
  · exact Or.inr (by decide +kernel)
  · exact Or.inr (by decide +kernel)
  · exact Or.inl rfl
theorem ok_182 : am_ok1 182 := pg_Model_moves
theorem pg_Model_keeps : ∀ pc, k_Model_keeps pc = [] ∨ am_chk (am_Lk 9) (decide ("keeps" = "<init>")) none am_tf am_Ms prog_11_method_49_code pc (k_Model_keeps pc) = true := by
  intro pc
  unfold k_Model_keeps
  split
  · exact Or.inr (by decide +kernel)
  · exact Or.inr (by decide +kernel)
  · exact Or.inr (by decide +kernel)
  · exact Or.inr (by decide +kernel)
  · exact Or.inr (by decide +kernel)
  · exact Or.inr (by decide +kernel)
  · exact Or.inr (by decide +kernel)
  · exact Or.inr (by decide +kernel)
  · exact Or.inr (by decide +kernel)
  · exact Or.inr (by decide +kernel)
  · exact Or.inr (by decide +kernel)
  · exact Or.inr (by decide +kernel)
  · exact Or.inl rfl
theorem ok_183 : am_ok1 183 := pg_Model_keeps
theorem pg_Model_kneel : ∀ pc, k_Model_kneel pc = [] ∨ am_chk (am_Lk 9) (decide ("kneel" = "<init>")) (some .boolean) am_tf am_Ms prog_11_method_50_code pc (k_Model_kneel pc) = true := by
  intro pc
  unfold k_Model_kneel
  split
  · exact Or.inr (by decide +kernel)
  · exact Or.inr (by decide +kernel)
  · exact Or.inr (by decide +kernel)
  · exact Or.inr (by decide +kernel)
  · exact Or.inr (by decide +kernel)
  · exact Or.inr (by decide +kernel)
  · exact Or.inr (by decide +kernel)
  · exact Or.inr (by decide +kernel)
  · exact Or.inr (by decide +kernel)
  · exact Or.inr (by decide +kernel)
  · exact Or.inl rfl
theorem ok_184 : am_ok1 184 := pg_Model_kneel
