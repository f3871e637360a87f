/-! printed by wip/whole/gen2.py: each stretch is the bytecode at its place -/
theorem pg_Stair_howManyArrived : ∀ pc, k_Stair_howManyArrived pc = [] ∨ am_chk (am_Lk 4) (decide ("howManyArrived" = "<init>")) (some .int) am_tf am_Ms prog_6_method_9_code pc (k_Stair_howManyArrived pc) = true := by
  intro pc
  unfold k_Stair_howManyArrived
  split
  · exact Or.inr (by decide +kernel)
  · exact Or.inr (by decide +kernel)
  · exact Or.inr (by decide +kernel)
  · exact Or.inr (by decide +kernel)
  · exact Or.inr (by decide +kernel)
  · exact Or.inr (by decide +kernel)
  · exact Or.inr (by decide +kernel)
  · exact Or.inl rfl
theorem ok_60 : am_ok1 60 := pg_Stair_howManyArrived
theorem pg_Stair_howManyKneel : ∀ pc, k_Stair_howManyKneel pc = [] ∨ am_chk (am_Lk 4) (decide ("howManyKneel" = "<init>")) (some .int) am_tf am_Ms prog_6_method_10_code pc (k_Stair_howManyKneel pc) = true := by
  intro pc
  unfold k_Stair_howManyKneel
  split
  · exact Or.inr (by decide +kernel)
  · exact Or.inr (by decide +kernel)
  · exact Or.inr (by decide +kernel)
  · exact Or.inr (by decide +kernel)
  · exact Or.inr (by decide +kernel)
  · exact Or.inr (by decide +kernel)
  · exact Or.inl rfl
theorem ok_61 : am_ok1 61 := pg_Stair_howManyKneel
theorem pg_Stair_movesNow : ∀ pc, k_Stair_movesNow pc = [] ∨ am_chk (am_Lk 4) (decide ("movesNow" = "<init>")) (some .int) am_tf am_Ms prog_6_method_11_code pc (k_Stair_movesNow pc) = true := by
  intro pc
  unfold k_Stair_movesNow
  split
  · exact Or.inr (by decide +kernel)
  · exact Or.inr (by decide +kernel)
  · exact Or.inr (by decide +kernel)
  · exact Or.inr (by decide +kernel)
  · exact Or.inl rfl
theorem ok_62 : am_ok1 62 := pg_Stair_movesNow
theorem pg_Stair_hasNow : ∀ pc, k_Stair_hasNow pc = [] ∨ am_chk (am_Lk 4) (decide ("hasNow" = "<init>")) (some .int) am_tf am_Ms prog_6_method_12_code pc (k_Stair_hasNow pc) = true := by
  intro pc
  unfold k_Stair_hasNow
  split
  · exact Or.inr (by decide +kernel)
  · exact Or.inr (by decide +kernel)
  · exact Or.inr (by decide +kernel)
  · exact Or.inr (by decide +kernel)
  · exact Or.inl rfl
theorem ok_63 : am_ok1 63 := pg_Stair_hasNow
theorem pg_Stair_heldTo : ∀ pc, k_Stair_heldTo pc = [] ∨ am_chk (am_Lk 4) (decide ("heldTo" = "<init>")) (some .int) am_tf am_Ms prog_6_method_13_code pc (k_Stair_heldTo pc) = true := by
  intro pc
  unfold k_Stair_heldTo
  split
  · exact Or.inr (by decide +kernel)
  · exact Or.inl rfl
theorem ok_64 : am_ok1 64 := pg_Stair_heldTo
theorem pg_Stair_lookAround : ∀ pc, k_Stair_lookAround pc = [] ∨ am_chk (am_Lk 4) (decide ("lookAround" = "<init>")) none am_tf am_Ms prog_6_method_14_code pc (k_Stair_lookAround pc) = true := by
  intro pc
  unfold k_Stair_lookAround
  split
  · exact Or.inr (by decide +kernel)
  · exact Or.inr (by decide +kernel)
  · exact Or.inr (by decide +kernel)
  · exact Or.inr (by decide +kernel)
  · exact Or.inr (by decide +kernel)
  · exact Or.inr (by decide +kernel)
  · exact Or.inr (by decide +kernel)
  · exact Or.inr (by decide +kernel)
  · exact Or.inr (by decide +kernel)
  · exact Or.inr (by decide +kernel)
  · exact Or.inr (by decide +kernel)
  · exact Or.inr (by decide +kernel)
  · exact Or.inr (by decide +kernel)
  · exact Or.inl rfl
theorem ok_65 : am_ok1 65 := pg_Stair_lookAround
theorem pg_Stair_pass : ∀ pc, k_Stair_pass pc = [] ∨ am_chk (am_Lk 4) (decide ("pass" = "<init>")) none am_tf am_Ms prog_6_method_15_code pc (k_Stair_pass pc) = true := by
  intro pc
  unfold k_Stair_pass
  split
  · exact Or.inr (by decide +kernel)
  · exact Or.inr (by decide +kernel)
  · exact Or.inr (by decide +kernel)
  · exact Or.inr (by decide +kernel)
  · exact Or.inr (by decide +kernel)
  · exact Or.inr (by decide +kernel)
  · exact Or.inr (by decide +kernel)
  · exact Or.inr (by decide +kernel)
  · exact Or.inr (by decide +kernel)
  · exact Or.inr (by decide +kernel)
  · exact Or.inr (by decide +kernel)
  · exact Or.inl rfl
theorem ok_66 : am_ok1 66 := pg_Stair_pass
theorem pg_Stair_carry : ∀ pc, k_Stair_carry pc = [] ∨ am_chk (am_Lk 4) (decide ("carry" = "<init>")) none am_tf am_Ms prog_6_method_16_code pc (k_Stair_carry pc) = true := by
  intro pc
  unfold k_Stair_carry
  split
  · exact Or.inr (by decide +kernel)
  · exact Or.inr (by decide +kernel)
  · exact Or.inr (by decide +kernel)
  · exact Or.inr (by decide +kernel)
  · exact Or.inr (by decide +kernel)
  · exact Or.inr (by decide +kernel)
  · exact Or.inr (by decide +kernel)
  · exact Or.inr (by decide +kernel)
  · exact Or.inr (by decide +kernel)
  · exact Or.inr (by decide +kernel)
  · exact Or.inr (by decide +kernel)
  · exact Or.inr (by decide +kernel)
  · exact Or.inr (by decide +kernel)
  · exact Or.inl rfl
theorem ok_67 : am_ok1 67 := pg_Stair_carry
theorem pg_Stair_arriveIn : ∀ pc, k_Stair_arriveIn pc = [] ∨ am_chk (am_Lk 4) (decide ("arriveIn" = "<init>")) none am_tf am_Ms prog_6_method_17_code pc (k_Stair_arriveIn pc) = true := by
  intro pc
  unfold k_Stair_arriveIn
  split
  · exact Or.inr (by decide +kernel)
  · exact Or.inl rfl
theorem ok_68 : am_ok1 68 := pg_Stair_arriveIn
theorem pg_Text_init : ∀ pc, k_Text_init pc = [] ∨ am_chk (am_Lk 5) (decide ("<init>" = "<init>")) none am_tf am_Ms prog_7_method_1_code pc (k_Text_init pc) = true := by
  intro pc
  unfold k_Text_init
  split
  · exact Or.inr (by decide +kernel)
  · exact Or.inr (by decide +kernel)
  · exact Or.inr (by decide +kernel)
  · exact Or.inr (by decide +kernel)
  · exact Or.inl rfl
theorem ok_69 : am_ok1 69 := pg_Text_init
theorem pg_Text_clear : ∀ pc, k_Text_clear pc = [] ∨ am_chk (am_Lk 5) (decide ("clear" = "<init>")) none am_tf am_Ms prog_7_method_2_code pc (k_Text_clear pc) = true := by
  intro pc
  unfold k_Text_clear
  split
  · exact Or.inr (by decide +kernel)
  · exact Or.inr (by decide +kernel)
  · exact Or.inr (by decide +kernel)
  · exact Or.inr (by decide +kernel)
  · exact Or.inr (by decide +kernel)
  · exact Or.inr (by decide +kernel)
  · exact Or.inr (by decide +kernel)
  · exact Or.inl rfl
theorem ok_70 : am_ok1 70 := pg_Text_clear
theorem pg_Text_copyFrom : ∀ pc, k_Text_copyFrom pc = [] ∨ am_chk (am_Lk 5) (decide ("copyFrom" = "<init>")) none am_tf am_Ms prog_7_method_3_code pc (k_Text_copyFrom pc) = true := by
  intro pc
  unfold k_Text_copyFrom
  split
  · exact Or.inr (by decide +kernel)
  · exact Or.inr (by decide +kernel)
  · exact Or.inr (by decide +kernel)
  · exact Or.inr (by decide +kernel)
  · exact Or.inr (by decide +kernel)
  · exact Or.inr (by decide +kernel)
  · exact Or.inl rfl
theorem ok_71 : am_ok1 71 := pg_Text_copyFrom
theorem pg_Tokens_init : ∀ pc, k_Tokens_init pc = [] ∨ am_chk (am_Lk 6) (decide ("<init>" = "<init>")) none am_tf am_Ms prog_8_method_1_code pc (k_Tokens_init pc) = true := by
  intro pc
  unfold k_Tokens_init
  split
  · exact Or.inr (by decide +kernel)
  · exact Or.inl rfl
theorem ok_72 : am_ok1 72 := pg_Tokens_init
theorem pg_Tokens_scan : ∀ pc, k_Tokens_scan pc = [] ∨ am_chk (am_Lk 6) (decide ("scan" = "<init>")) none am_tf am_Ms prog_8_method_2_code pc (k_Tokens_scan pc) = true := by
  intro pc
  unfold k_Tokens_scan
  split
  · exact Or.inr (by decide +kernel)
  · exact Or.inr (by decide +kernel)
  · exact Or.inr (by decide +kernel)
  · exact Or.inr (by decide +kernel)
  · exact Or.inr (by decide +kernel)
  · exact Or.inr (by decide +kernel)
  · exact Or.inr (by decide +kernel)
  · exact Or.inr (by decide +kernel)
  · exact Or.inr (by decide +kernel)
  · exact Or.inr (by decide +kernel)
  · exact Or.inl rfl
theorem ok_73 : am_ok1 73 := pg_Tokens_scan
theorem pg_Tokens_behindBlanks : ∀ pc, k_Tokens_behindBlanks pc = [] ∨ am_chk (am_Lk 6) (decide ("behindBlanks" = "<init>")) (some .int) am_tf am_Ms prog_8_method_3_code pc (k_Tokens_behindBlanks pc) = true := by
  intro pc
  unfold k_Tokens_behindBlanks
  split
  · exact Or.inr (by decide +kernel)
  · exact Or.inr (by decide +kernel)
  · exact Or.inr (by decide +kernel)
  · exact Or.inr (by decide +kernel)
  · exact Or.inr (by decide +kernel)
  · exact Or.inr (by decide +kernel)
  · exact Or.inl rfl
theorem ok_74 : am_ok1 74 := pg_Tokens_behindBlanks
theorem pg_Tokens_scanToken : ∀ pc, k_Tokens_scanToken pc = [] ∨ am_chk (am_Lk 6) (decide ("scanToken" = "<init>")) (some .int) am_tf am_Ms prog_8_method_4_code pc (k_Tokens_scanToken pc) = true := by
  intro pc
  unfold k_Tokens_scanToken
  split
  · exact Or.inr (by decide +kernel)
  · exact Or.inr (by decide +kernel)
  · exact Or.inr (by decide +kernel)
  · exact Or.inr (by decide +kernel)
  · exact Or.inr (by decide +kernel)
  · exact Or.inr (by decide +kernel)
  · exact Or.inr (by decide +kernel)
  · exact Or.inr (by decide +kernel)
  · exact Or.inr (by decide +kernel)
  · exact Or.inr (by decide +kernel)
  · exact Or.inr (by decide +kernel)
  · exact Or.inr (by decide +kernel)
  · exact Or.inr (by decide +kernel)
  · exact Or.inr (by decide +kernel)
  · exact Or.inr (by decide +kernel)
  · exact Or.inr (by decide +kernel)
  · exact Or.inl rfl
theorem ok_75 : am_ok1 75 := pg_Tokens_scanToken
theorem pg_Tokens_scanLetters : ∀ pc, k_Tokens_scanLetters pc = [] ∨ am_chk (am_Lk 6) (decide ("scanLetters" = "<init>")) (some .int) am_tf am_Ms prog_8_method_5_code pc (k_Tokens_scanLetters pc) = true := by
  intro pc
  unfold k_Tokens_scanLetters
  split
  · exact Or.inr (by decide +kernel)
  · exact Or.inr (by decide +kernel)
  · exact Or.inr (by decide +kernel)
  · exact Or.inr (by decide +kernel)
  · exact Or.inr (by decide +kernel)
  · exact Or.inr (by decide +kernel)
  · exact Or.inr (by decide +kernel)
  · exact Or.inr (by decide +kernel)
  · exact Or.inr (by decide +kernel)
  · exact Or.inl rfl
theorem ok_76 : am_ok1 76 := pg_Tokens_scanLetters
theorem pg_Tokens_scanDigits : ∀ pc, k_Tokens_scanDigits pc = [] ∨ am_chk (am_Lk 6) (decide ("scanDigits" = "<init>")) (some .int) am_tf am_Ms prog_8_method_6_code pc (k_Tokens_scanDigits pc) = true := by
  intro pc
  unfold k_Tokens_scanDigits
  split
  · exact Or.inr (by decide +kernel)
  · exact Or.inr (by decide +kernel)
  · exact Or.inr (by decide +kernel)
  · exact Or.inr (by decide +kernel)
  · exact Or.inr (by decide +kernel)
  · exact Or.inr (by decide +kernel)
  · exact Or.inr (by decide +kernel)
  · exact Or.inr (by decide +kernel)
  · exact Or.inr (by decide +kernel)
  · exact Or.inl rfl
theorem ok_77 : am_ok1 77 := pg_Tokens_scanDigits
theorem pg_Tokens_wordKind : ∀ pc, k_Tokens_wordKind pc = [] ∨ am_chk (am_Lk 6) (decide ("wordKind" = "<init>")) (some .int) am_tf am_Ms prog_8_method_7_code pc (k_Tokens_wordKind pc) = true := by
  intro pc
  unfold k_Tokens_wordKind
  split
  · exact Or.inr (by decide +kernel)
  · exact Or.inr (by decide +kernel)
  · exact Or.inr (by decide +kernel)
  · exact Or.inr (by decide +kernel)
  · exact Or.inr (by decide +kernel)
  · exact Or.inr (by decide +kernel)
  · exact Or.inr (by decide +kernel)
  · exact Or.inl rfl
theorem ok_78 : am_ok1 78 := pg_Tokens_wordKind
theorem pg_Tokens_isWord : ∀ pc, k_Tokens_isWord pc = [] ∨ am_chk (am_Lk 6) (decide ("isWord" = "<init>")) (some .boolean) am_tf am_Ms prog_8_method_8_code pc (k_Tokens_isWord pc) = true := by
  intro pc
  unfold k_Tokens_isWord
  split
  · exact Or.inr (by decide +kernel)
  · exact Or.inr (by decide +kernel)
  · exact Or.inr (by decide +kernel)
  · exact Or.inr (by decide +kernel)
  · exact Or.inr (by decide +kernel)
  · exact Or.inr (by decide +kernel)
  · exact Or.inr (by decide +kernel)
  · exact Or.inr (by decide +kernel)
  · exact Or.inr (by decide +kernel)
  · exact Or.inl rfl
theorem ok_79 : am_ok1 79 := pg_Tokens_isWord
theorem pg_Tokens_isBlank : ∀ pc, k_Tokens_isBlank pc = [] ∨ am_chk (am_Lk 6) (decide ("isBlank" = "<init>")) (some .boolean) am_tf am_Ms prog_8_method_9_code pc (k_Tokens_isBlank pc) = true := by
  intro pc
  unfold k_Tokens_isBlank
  split
  · exact Or.inr (by decide +kernel)
  · exact Or.inr (by decide +kernel)
  · exact Or.inr (by decide +kernel)
  · exact Or.inr (by decide +kernel)
  · exact Or.inr (by decide +kernel)
  · exact Or.inr (by decide +kernel)
  · exact Or.inr (by decide +kernel)
  · exact Or.inl rfl
theorem ok_80 : am_ok1 80 := pg_Tokens_isBlank
theorem pg_Tokens_isLetter : ∀ pc, k_Tokens_isLetter pc = [] ∨ am_chk (am_Lk 6) (decide ("isLetter" = "<init>")) (some .boolean) am_tf am_Ms prog_8_method_10_code pc (k_Tokens_isLetter pc) = true := by
  intro pc
  unfold k_Tokens_isLetter
  split
  · exact Or.inr (by decide +kernel)
  · exact Or.inr (by decide +kernel)
  · exact Or.inr (by decide +kernel)
  · exact Or.inr (by decide +kernel)
  · exact Or.inr (by decide +kernel)
  · exact Or.inl rfl
theorem ok_81 : am_ok1 81 := pg_Tokens_isLetter
theorem pg_Tokens_isDigit : ∀ pc, k_Tokens_isDigit pc = [] ∨ am_chk (am_Lk 6) (decide ("isDigit" = "<init>")) (some .boolean) am_tf am_Ms prog_8_method_11_code pc (k_Tokens_isDigit pc) = true := by
  intro pc
  unfold k_Tokens_isDigit
  split
  · exact Or.inr (by decide +kernel)
  · exact Or.inr (by decide +kernel)
  · exact Or.inr (by decide +kernel)
  · exact Or.inr (by decide +kernel)
  · exact Or.inr (by decide +kernel)
  · exact Or.inl rfl
theorem ok_82 : am_ok1 82 := pg_Tokens_isDigit
theorem pg_Witness_init : ∀ pc, k_Witness_init pc = [] ∨ am_chk (am_Lk 7) (decide ("<init>" = "<init>")) none am_tf am_Ms prog_9_method_1_code pc (k_Witness_init pc) = true := by
  intro pc
  unfold k_Witness_init
  split
  · exact Or.inr (by decide +kernel)
  · exact Or.inr (by decide +kernel)
  · exact Or.inl rfl
theorem ok_83 : am_ok1 83 := pg_Witness_init
theorem pg_Witness_clear : ∀ pc, k_Witness_clear pc = [] ∨ am_chk (am_Lk 7) (decide ("clear" = "<init>")) none am_tf am_Ms prog_9_method_2_code pc (k_Witness_clear pc) = true := by
  intro pc
  unfold k_Witness_clear
  split
  · exact Or.inr (by decide +kernel)
  · exact Or.inl rfl
theorem ok_84 : am_ok1 84 := pg_Witness_clear
theorem pg_Witness_add : ∀ pc, k_Witness_add pc = [] ∨ am_chk (am_Lk 7) (decide ("add" = "<init>")) (some .int) am_tf am_Ms prog_9_method_3_code pc (k_Witness_add pc) = true := by
  intro pc
  unfold k_Witness_add
  split
  · exact Or.inr (by decide +kernel)
  · exact Or.inr (by decide +kernel)
  · exact Or.inr (by decide +kernel)
  · exact Or.inl rfl
theorem ok_85 : am_ok1 85 := pg_Witness_add
theorem pg_Witness_lastMinute : ∀ pc, k_Witness_lastMinute pc = [] ∨ am_chk (am_Lk 7) (decide ("lastMinute" = "<init>")) (some .int) am_tf am_Ms prog_9_method_4_code pc (k_Witness_lastMinute pc) = true := by
  intro pc
  unfold k_Witness_lastMinute
  split
  · exact Or.inr (by decide +kernel)
  · exact Or.inr (by decide +kernel)
  · exact Or.inr (by decide +kernel)
  · exact Or.inr (by decide +kernel)
  · exact Or.inl rfl
theorem ok_86 : am_ok1 86 := pg_Witness_lastMinute
theorem pg_Witness_firstNotSo : ∀ pc, k_Witness_firstNotSo pc = [] ∨ am_chk (am_Lk 7) (decide ("firstNotSo" = "<init>")) (some .int) am_tf am_Ms prog_9_method_5_code pc (k_Witness_firstNotSo pc) = true := by
  intro pc
  unfold k_Witness_firstNotSo
  split
  · exact Or.inr (by decide +kernel)
  · exact Or.inr (by decide +kernel)
  · exact Or.inr (by decide +kernel)
  · exact Or.inr (by decide +kernel)
  · exact Or.inr (by decide +kernel)
  · exact Or.inr (by decide +kernel)
  · exact Or.inr (by decide +kernel)
  · exact Or.inr (by decide +kernel)
  · exact Or.inr (by decide +kernel)
  · exact Or.inr (by decide +kernel)
  · exact Or.inr (by decide +kernel)
  · exact Or.inr (by decide +kernel)
  · exact Or.inl rfl
theorem ok_87 : am_ok1 87 := pg_Witness_firstNotSo
theorem pg_Witness_firstNotSoBehind : ∀ pc, k_Witness_firstNotSoBehind pc = [] ∨ am_chk (am_Lk 7) (decide ("firstNotSoBehind" = "<init>")) (some .int) am_tf am_Ms prog_9_method_6_code pc (k_Witness_firstNotSoBehind pc) = true := by
  intro pc
  unfold k_Witness_firstNotSoBehind
  split
  · exact Or.inr (by decide +kernel)
  · exact Or.inr (by decide +kernel)
  · exact Or.inr (by decide +kernel)
  · exact Or.inr (by decide +kernel)
  · exact Or.inr (by decide +kernel)
  · exact Or.inr (by decide +kernel)
  · exact Or.inr (by decide +kernel)
  · exact Or.inl rfl
theorem ok_88 : am_ok1 88 := pg_Witness_firstNotSoBehind
theorem pg_Witness_waysToRise : ∀ pc, k_Witness_waysToRise pc = [] ∨ am_chk (am_Lk 7) (decide ("waysToRise" = "<init>")) (some .int) am_tf am_Ms prog_9_method_7_code pc (k_Witness_waysToRise pc) = true := by
  intro pc
  unfold k_Witness_waysToRise
  split
  · exact Or.inr (by decide +kernel)
  · exact Or.inr (by decide +kernel)
  · exact Or.inr (by decide +kernel)
  · exact Or.inr (by decide +kernel)
  · exact Or.inr (by decide +kernel)
  · exact Or.inr (by decide +kernel)
  · exact Or.inr (by decide +kernel)
  · exact Or.inr (by decide +kernel)
  · exact Or.inr (by decide +kernel)
  · exact Or.inr (by decide +kernel)
  · exact Or.inr (by decide +kernel)
  · exact Or.inr (by decide +kernel)
  · exact Or.inr (by decide +kernel)
  · exact Or.inr (by decide +kernel)
  · exact Or.inr (by decide +kernel)
  · exact Or.inr (by decide +kernel)
  · exact Or.inr (by decide +kernel)
  · exact Or.inr (by decide +kernel)
  · exact Or.inl rfl
theorem ok_89 : am_ok1 89 := pg_Witness_waysToRise
theorem pg_Witness_isAllSo : ∀ pc, k_Witness_isAllSo pc = [] ∨ am_chk (am_Lk 7) (decide ("isAllSo" = "<init>")) (some .boolean) am_tf am_Ms prog_9_method_8_code pc (k_Witness_isAllSo pc) = true := by
  intro pc
  unfold k_Witness_isAllSo
  split
  · exact Or.inr (by decide +kernel)
  · exact Or.inr (by decide +kernel)
  · exact Or.inr (by decide +kernel)
  · exact Or.inr (by decide +kernel)
  · exact Or.inr (by decide +kernel)
  · exact Or.inr (by decide +kernel)
  · exact Or.inr (by decide +kernel)
  · exact Or.inr (by decide +kernel)
  · exact Or.inr (by decide +kernel)
  · exact Or.inr (by decide +kernel)
  · exact Or.inr (by decide +kernel)
  · exact Or.inl rfl
theorem ok_90 : am_ok1 90 := pg_Witness_isAllSo
theorem pg_KneeStair_init : ∀ pc, k_KneeStair_init pc = [] ∨ am_chk (am_Lk 8) (decide ("<init>" = "<init>")) none am_tf am_Ms prog_1_method_1_code pc (k_KneeStair_init pc) = true := by
  intro pc
  unfold k_KneeStair_init
  split
  · exact Or.inr (by decide +kernel)
  · exact Or.inr (by decide +kernel)
  · exact Or.inr (by decide +kernel)
  · exact Or.inr (by decide +kernel)
  · exact Or.inr (by decide +kernel)
  · exact Or.inr (by decide +kernel)
  · exact Or.inr (by decide +kernel)
  · exact Or.inr (by decide +kernel)
  · exact Or.inr (by decide +kernel)
  · exact Or.inr (by decide +kernel)
  · exact Or.inr (by decide +kernel)
  · exact Or.inr (by decide +kernel)
  · exact Or.inl rfl
theorem ok_91 : am_ok1 91 := pg_KneeStair_init
theorem pg_KneeStair_feed : ∀ pc, k_KneeStair_feed pc = [] ∨ am_chk (am_Lk 8) (decide ("feed" = "<init>")) (some .int) am_tf am_Ms prog_1_method_2_code pc (k_KneeStair_feed pc) = true := by
  intro pc
  unfold k_KneeStair_feed
  split
  · exact Or.inr (by decide +kernel)
  · exact Or.inr (by decide +kernel)
  · exact Or.inr (by decide +kernel)
  · exact Or.inr (by decide +kernel)
  · exact Or.inr (by decide +kernel)
  · exact Or.inr (by decide +kernel)
  · exact Or.inr (by decide +kernel)
  · exact Or.inr (by decide +kernel)
  · exact Or.inl rfl
theorem ok_92 : am_ok1 92 := pg_KneeStair_feed
theorem pg_KneeStair_putWord : ∀ pc, k_KneeStair_putWord pc = [] ∨ am_chk (am_Lk 8) (decide ("putWord" = "<init>")) none am_tf am_Ms prog_1_method_3_code pc (k_KneeStair_putWord pc) = true := by
  intro pc
  unfold k_KneeStair_putWord
  split
  · exact Or.inr (by decide +kernel)
  · exact Or.inr (by decide +kernel)
  · exact Or.inr (by decide +kernel)
  · exact Or.inr (by decide +kernel)
  · exact Or.inl rfl
theorem ok_93 : am_ok1 93 := pg_KneeStair_putWord
theorem pg_KneeStair_back : ∀ pc, k_KneeStair_back pc = [] ∨ am_chk (am_Lk 8) (decide ("back" = "<init>")) (some .int) am_tf am_Ms prog_1_method_4_code pc (k_KneeStair_back pc) = true := by
  intro pc
  unfold k_KneeStair_back
  split
  · exact Or.inr (by decide +kernel)
  · exact Or.inr (by decide +kernel)
  · exact Or.inr (by decide +kernel)
  · exact Or.inr (by decide +kernel)
  · exact Or.inl rfl
theorem ok_94 : am_ok1 94 := pg_KneeStair_back
theorem pg_KneeStair_read : ∀ pc, k_KneeStair_read pc = [] ∨ am_chk (am_Lk 8) (decide ("read" = "<init>")) (some .int) am_tf am_Ms prog_1_method_5_code pc (k_KneeStair_read pc) = true := by
  intro pc
  unfold k_KneeStair_read
  split
  · exact Or.inr (by decide +kernel)
  · exact Or.inr (by decide +kernel)
  · exact Or.inr (by decide +kernel)
  · exact Or.inr (by decide +kernel)
  · exact Or.inr (by decide +kernel)
  · exact Or.inr (by decide +kernel)
  · exact Or.inr (by decide +kernel)
  · exact Or.inr (by decide +kernel)
  · exact Or.inl rfl
theorem ok_95 : am_ok1 95 := pg_KneeStair_read
theorem pg_KneeStair_emptySlots : ∀ pc, k_KneeStair_emptySlots pc = [] ∨ am_chk (am_Lk 8) (decide ("emptySlots" = "<init>")) none am_tf am_Ms prog_1_method_6_code pc (k_KneeStair_emptySlots pc) = true := by
  intro pc
  unfold k_KneeStair_emptySlots
  split
  · exact Or.inr (by decide +kernel)
  · exact Or.inr (by decide +kernel)
  · exact Or.inr (by decide +kernel)
  · exact Or.inr (by decide +kernel)
  · exact Or.inl rfl
theorem ok_96 : am_ok1 96 := pg_KneeStair_emptySlots
theorem pg_KneeStair_place : ∀ pc, k_KneeStair_place pc = [] ∨ am_chk (am_Lk 8) (decide ("place" = "<init>")) (some .int) am_tf am_Ms prog_1_method_7_code pc (k_KneeStair_place pc) = true := by
  intro pc
  unfold k_KneeStair_place
  split
  · exact Or.inr (by decide +kernel)
  · exact Or.inl rfl
theorem ok_97 : am_ok1 97 := pg_KneeStair_place
theorem pg_KneeStair_pilgrim : ∀ pc, k_KneeStair_pilgrim pc = [] ∨ am_chk (am_Lk 8) (decide ("pilgrim" = "<init>")) (some .int) am_tf am_Ms prog_1_method_8_code pc (k_KneeStair_pilgrim pc) = true := by
  intro pc
  unfold k_KneeStair_pilgrim
  split
  · exact Or.inr (by decide +kernel)
  · exact Or.inr (by decide +kernel)
  · exact Or.inr (by decide +kernel)
  · exact Or.inr (by decide +kernel)
  · exact Or.inr (by decide +kernel)
  · exact Or.inr (by decide +kernel)
  · exact Or.inr (by decide +kernel)
  · exact Or.inr (by decide +kernel)
  · exact Or.inr (by decide +kernel)
  · exact Or.inr (by decide +kernel)
  · exact Or.inr (by decide +kernel)
  · exact Or.inr (by decide +kernel)
  · exact Or.inr (by decide +kernel)
  · exact Or.inr (by decide +kernel)
  · exact Or.inr (by decide +kernel)
  · exact Or.inr (by decide +kernel)
  · exact Or.inr (by decide +kernel)
  · exact Or.inl rfl
theorem ok_98 : am_ok1 98 := pg_KneeStair_pilgrim
theorem pg_KneeStair_moves : ∀ pc, k_KneeStair_moves pc = [] ∨ am_chk (am_Lk 8) (decide ("moves" = "<init>")) (some .int) am_tf am_Ms prog_1_method_9_code pc (k_KneeStair_moves pc) = true := by
  intro pc
  unfold k_KneeStair_moves
  split
  · exact Or.inr (by decide +kernel)
  · exact Or.inr (by decide +kernel)
  · exact Or.inl rfl
theorem ok_99 : am_ok1 99 := pg_KneeStair_moves
theorem pg_KneeStair_most : ∀ pc, k_KneeStair_most pc = [] ∨ am_chk (am_Lk 8) (decide ("most" = "<init>")) (some .int) am_tf am_Ms prog_1_method_10_code pc (k_KneeStair_most pc) = true := by
  intro pc
  unfold k_KneeStair_most
  split
  · exact Or.inr (by decide +kernel)
  · exact Or.inr (by decide +kernel)
  · exact Or.inr (by decide +kernel)
  · exact Or.inr (by decide +kernel)
  · exact Or.inr (by decide +kernel)
  · exact Or.inr (by decide +kernel)
  · exact Or.inr (by decide +kernel)
  · exact Or.inr (by decide +kernel)
  · exact Or.inr (by decide +kernel)
  · exact Or.inr (by decide +kernel)
  · exact Or.inr (by decide +kernel)
  · exact Or.inr (by decide +kernel)
  · exact Or.inr (by decide +kernel)
  · exact Or.inr (by decide +kernel)
  · exact Or.inl rfl
theorem ok_100 : am_ok1 100 := pg_KneeStair_most
theorem pg_KneeStair_rank : ∀ pc, k_KneeStair_rank pc = [] ∨ am_chk (am_Lk 8) (decide ("rank" = "<init>")) (some .int) am_tf am_Ms prog_1_method_11_code pc (k_KneeStair_rank pc) = true := by
  intro pc
  unfold k_KneeStair_rank
  split
  · exact Or.inr (by decide +kernel)
  · exact Or.inr (by decide +kernel)
  · exact Or.inr (by decide +kernel)
  · exact Or.inr (by decide +kernel)
  · exact Or.inr (by decide +kernel)
  · exact Or.inr (by decide +kernel)
  · exact Or.inr (by decide +kernel)
  · exact Or.inr (by decide +kernel)
  · exact Or.inr (by decide +kernel)
  · exact Or.inr (by decide +kernel)
  · exact Or.inr (by decide +kernel)
  · exact Or.inr (by decide +kernel)
  · exact Or.inr (by decide +kernel)
  · exact Or.inr (by decide +kernel)
  · exact Or.inl rfl
theorem ok_101 : am_ok1 101 := pg_KneeStair_rank
theorem pg_KneeStair_share : ∀ pc, k_KneeStair_share pc = [] ∨ am_chk (am_Lk 8) (decide ("share" = "<init>")) (some .int) am_tf am_Ms prog_1_method_12_code pc (k_KneeStair_share pc) = true := by
  intro pc
  unfold k_KneeStair_share
  split
  · exact Or.inr (by decide +kernel)
  · exact Or.inr (by decide +kernel)
  · exact Or.inr (by decide +kernel)
  · exact Or.inr (by decide +kernel)
  · exact Or.inr (by decide +kernel)
  · exact Or.inr (by decide +kernel)
  · exact Or.inr (by decide +kernel)
  · exact Or.inr (by decide +kernel)
  · exact Or.inr (by decide +kernel)
  · exact Or.inr (by decide +kernel)
  · exact Or.inr (by decide +kernel)
  · exact Or.inr (by decide +kernel)
  · exact Or.inr (by decide +kernel)
  · exact Or.inr (by decide +kernel)
  · exact Or.inr (by decide +kernel)
  · exact Or.inr (by decide +kernel)
  · exact Or.inl rfl
theorem ok_102 : am_ok1 102 := pg_KneeStair_share
theorem pg_KneeStair_commonDivisor : ∀ pc, k_KneeStair_commonDivisor pc = [] ∨ am_chk (am_Lk 8) (decide ("commonDivisor" = "<init>")) (some .int) am_tf am_Ms prog_1_method_13_code pc (k_KneeStair_commonDivisor pc) = true := by
  intro pc
  unfold k_KneeStair_commonDivisor
  split
  · exact Or.inr (by decide +kernel)
  · exact Or.inr (by decide +kernel)
  · exact Or.inr (by decide +kernel)
  · exact Or.inr (by decide +kernel)
  · exact Or.inr (by decide +kernel)
  · exact Or.inl rfl
theorem ok_103 : am_ok1 103 := pg_KneeStair_commonDivisor
theorem pg_KneeStair_there : ∀ pc, k_KneeStair_there pc = [] ∨ am_chk (am_Lk 8) (decide ("there" = "<init>")) (some .int) am_tf am_Ms prog_1_method_14_code pc (k_KneeStair_there pc) = true := by
  intro pc
  unfold k_KneeStair_there
  split
  · exact Or.inr (by decide +kernel)
  · exact Or.inr (by decide +kernel)
  · exact Or.inr (by decide +kernel)
  · exact Or.inr (by decide +kernel)
  · exact Or.inr (by decide +kernel)
  · exact Or.inr (by decide +kernel)
  · exact Or.inr (by decide +kernel)
  · exact Or.inr (by decide +kernel)
  · exact Or.inr (by decide +kernel)
  · exact Or.inl rfl
theorem ok_104 : am_ok1 104 := pg_KneeStair_there
theorem pg_KneeStair_count : ∀ pc, k_KneeStair_count pc = [] ∨ am_chk (am_Lk 8) (decide ("count" = "<init>")) (some .int) am_tf am_Ms prog_1_method_15_code pc (k_KneeStair_count pc) = true := by
  intro pc
  unfold k_KneeStair_count
  split
  · exact Or.inr (by decide +kernel)
  · exact Or.inr (by decide +kernel)
  · exact Or.inr (by decide +kernel)
  · exact Or.inr (by decide +kernel)
  · exact Or.inr (by decide +kernel)
  · exact Or.inr (by decide +kernel)
  · exact Or.inr (by decide +kernel)
  · exact Or.inr (by decide +kernel)
  · exact Or.inr (by decide +kernel)
  · exact Or.inr (by decide +kernel)
  · exact Or.inr (by decide +kernel)
  · exact Or.inr (by decide +kernel)
  · exact Or.inr (by decide +kernel)
  · exact Or.inr (by decide +kernel)
  · exact Or.inr (by decide +kernel)
  · exact Or.inr (by decide +kernel)
  · exact Or.inl rfl
theorem ok_105 : am_ok1 105 := pg_KneeStair_count
theorem pg_KneeStair_howManyHeld : ∀ pc, k_KneeStair_howManyHeld pc = [] ∨ am_chk (am_Lk 8) (decide ("howManyHeld" = "<init>")) (some .int) am_tf am_Ms prog_1_method_16_code pc (k_KneeStair_howManyHeld pc) = true := by
  intro pc
  unfold k_KneeStair_howManyHeld
  split
  · exact Or.inr (by decide +kernel)
  · exact Or.inr (by decide +kernel)
  · exact Or.inr (by decide +kernel)
  · exact Or.inr (by decide +kernel)
  · exact Or.inr (by decide +kernel)
  · exact Or.inr (by decide +kernel)
  · exact Or.inl rfl
theorem ok_106 : am_ok1 106 := pg_KneeStair_howManyHeld
theorem pg_KneeStair_kneel : ∀ pc, k_KneeStair_kneel pc = [] ∨ am_chk (am_Lk 8) (decide ("kneel" = "<init>")) (some .boolean) am_tf am_Ms prog_1_method_17_code pc (k_KneeStair_kneel pc) = true := by
  intro pc
  unfold k_KneeStair_kneel
  split
  · exact Or.inr (by decide +kernel)
  · exact Or.inr (by decide +kernel)
  · exact Or.inr (by decide +kernel)
  · exact Or.inr (by decide +kernel)
  · exact Or.inr (by decide +kernel)
  · exact Or.inr (by decide +kernel)
  · exact Or.inr (by decide +kernel)
  · exact Or.inr (by decide +kernel)
  · exact Or.inl rfl
theorem ok_107 : am_ok1 107 := pg_KneeStair_kneel
theorem pg_KneeStair_rise : ∀ pc, k_KneeStair_rise pc = [] ∨ am_chk (am_Lk 8) (decide ("rise" = "<init>")) (some .boolean) am_tf am_Ms prog_1_method_18_code pc (k_KneeStair_rise pc) = true := by
  intro pc
  unfold k_KneeStair_rise
  split
  · exact Or.inr (by decide +kernel)
  · exact Or.inr (by decide +kernel)
  · exact Or.inr (by decide +kernel)
  · exact Or.inr (by decide +kernel)
  · exact Or.inr (by decide +kernel)
  · exact Or.inr (by decide +kernel)
  · exact Or.inl rfl
theorem ok_108 : am_ok1 108 := pg_KneeStair_rise
theorem pg_KneeStair_board : ∀ pc, k_KneeStair_board pc = [] ∨ am_chk (am_Lk 8) (decide ("board" = "<init>")) (some .boolean) am_tf am_Ms prog_1_method_19_code pc (k_KneeStair_board pc) = true := by
  intro pc
  unfold k_KneeStair_board
  split
  · exact Or.inr (by decide +kernel)
  · exact Or.inr (by decide +kernel)
  · exact Or.inr (by decide +kernel)
  · exact Or.inr (by decide +kernel)
  · exact Or.inr (by decide +kernel)
  · exact Or.inr (by decide +kernel)
  · exact Or.inr (by decide +kernel)
  · exact Or.inl rfl
theorem ok_109 : am_ok1 109 := pg_KneeStair_board
theorem pg_KneeStair_oil : ∀ pc, k_KneeStair_oil pc = [] ∨ am_chk (am_Lk 8) (decide ("oil" = "<init>")) (some .int) am_tf am_Ms prog_1_method_20_code pc (k_KneeStair_oil pc) = true := by
  intro pc
  unfold k_KneeStair_oil
  split
  · exact Or.inr (by decide +kernel)
  · exact Or.inr (by decide +kernel)
  · exact Or.inr (by decide +kernel)
  · exact Or.inr (by decide +kernel)
  · exact Or.inr (by decide +kernel)
  · exact Or.inr (by decide +kernel)
  · exact Or.inl rfl
theorem ok_110 : am_ok1 110 := pg_KneeStair_oil
theorem pg_KneeStair_run : ∀ pc, k_KneeStair_run pc = [] ∨ am_chk (am_Lk 8) (decide ("run" = "<init>")) (some .int) am_tf am_Ms prog_1_method_21_code pc (k_KneeStair_run pc) = true := by
  intro pc
  unfold k_KneeStair_run
  split
  · exact Or.inr (by decide +kernel)
  · exact Or.inr (by decide +kernel)
  · exact Or.inr (by decide +kernel)
  · exact Or.inr (by decide +kernel)
  · exact Or.inr (by decide +kernel)
  · exact Or.inr (by decide +kernel)
  · exact Or.inr (by decide +kernel)
  · exact Or.inl rfl
theorem ok_111 : am_ok1 111 := pg_KneeStair_run
theorem pg_KneeStair_undo : ∀ pc, k_KneeStair_undo pc = [] ∨ am_chk (am_Lk 8) (decide ("undo" = "<init>")) (some .boolean) am_tf am_Ms prog_1_method_22_code pc (k_KneeStair_undo pc) = true := by
  intro pc
  unfold k_KneeStair_undo
  split
  · exact Or.inr (by decide +kernel)
  · exact Or.inr (by decide +kernel)
  · exact Or.inl rfl
theorem ok_112 : am_ok1 112 := pg_KneeStair_undo
theorem pg_KneeStair_hold : ∀ pc, k_KneeStair_hold pc = [] ∨ am_chk (am_Lk 8) (decide ("hold" = "<init>")) (some .boolean) am_tf am_Ms prog_1_method_23_code pc (k_KneeStair_hold pc) = true := by
  intro pc
  unfold k_KneeStair_hold
  split
  · exact Or.inr (by decide +kernel)
  · exact Or.inr (by decide +kernel)
  · exact Or.inr (by decide +kernel)
  · exact Or.inr (by decide +kernel)
  · exact Or.inr (by decide +kernel)
  · exact Or.inl rfl
theorem ok_113 : am_ok1 113 := pg_KneeStair_hold
theorem pg_KneeStair_restore : ∀ pc, k_KneeStair_restore pc = [] ∨ am_chk (am_Lk 8) (decide ("restore" = "<init>")) (some .boolean) am_tf am_Ms prog_1_method_24_code pc (k_KneeStair_restore pc) = true := by
  intro pc
  unfold k_KneeStair_restore
  split
  · exact Or.inr (by decide +kernel)
  · exact Or.inr (by decide +kernel)
  · exact Or.inr (by decide +kernel)
  · exact Or.inr (by decide +kernel)
  · exact Or.inr (by decide +kernel)
  · exact Or.inr (by decide +kernel)
  · exact Or.inr (by decide +kernel)
  · exact Or.inl rfl
theorem ok_114 : am_ok1 114 := pg_KneeStair_restore
theorem pg_KneeStair_arrives : ∀ pc, k_KneeStair_arrives pc = [] ∨ am_chk (am_Lk 8) (decide ("arrives" = "<init>")) (some .int) am_tf am_Ms prog_1_method_25_code pc (k_KneeStair_arrives pc) = true := by
  intro pc
  unfold k_KneeStair_arrives
  split
  · exact Or.inr (by decide +kernel)
  · exact Or.inr (by decide +kernel)
  · exact Or.inr (by decide +kernel)
  · exact Or.inr (by decide +kernel)
  · exact Or.inr (by decide +kernel)
  · exact Or.inr (by decide +kernel)
  · exact Or.inl rfl
theorem ok_115 : am_ok1 115 := pg_KneeStair_arrives
theorem pg_KneeStair_still : ∀ pc, k_KneeStair_still pc = [] ∨ am_chk (am_Lk 8) (decide ("still" = "<init>")) (some .int) am_tf am_Ms prog_1_method_26_code pc (k_KneeStair_still pc) = true := by
  intro pc
  unfold k_KneeStair_still
  split
  · exact Or.inr (by decide +kernel)
  · exact Or.inr (by decide +kernel)
  · exact Or.inl rfl
theorem ok_116 : am_ok1 116 := pg_KneeStair_still
theorem pg_KneeStair_highest : ∀ pc, k_KneeStair_highest pc = [] ∨ am_chk (am_Lk 8) (decide ("highest" = "<init>")) (some .int) am_tf am_Ms prog_1_method_27_code pc (k_KneeStair_highest pc) = true := by
  intro pc
  unfold k_KneeStair_highest
  split
  · exact Or.inr (by decide +kernel)
  · exact Or.inr (by decide +kernel)
  · exact Or.inr (by decide +kernel)
  · exact Or.inr (by decide +kernel)
  · exact Or.inr (by decide +kernel)
  · exact Or.inr (by decide +kernel)
  · exact Or.inr (by decide +kernel)
  · exact Or.inl rfl
theorem ok_117 : am_ok1 117 := pg_KneeStair_highest
theorem pg_KneeStair_first : ∀ pc, k_KneeStair_first pc = [] ∨ am_chk (am_Lk 8) (decide ("first" = "<init>")) (some .int) am_tf am_Ms prog_1_method_28_code pc (k_KneeStair_first pc) = true := by
  intro pc
  unfold k_KneeStair_first
  split
  · exact Or.inr (by decide +kernel)
  · exact Or.inr (by decide +kernel)
  · exact Or.inr (by decide +kernel)
  · exact Or.inr (by decide +kernel)
  · exact Or.inr (by decide +kernel)
  · exact Or.inr (by decide +kernel)
  · exact Or.inl rfl
theorem ok_118 : am_ok1 118 := pg_KneeStair_first
theorem pg_KneeStair_means : ∀ pc, k_KneeStair_means pc = [] ∨ am_chk (am_Lk 8) (decide ("means" = "<init>")) (some .int) am_tf am_Ms prog_1_method_29_code pc (k_KneeStair_means pc) = true := by
  intro pc
  unfold k_KneeStair_means
  split
  · exact Or.inr (by decide +kernel)
  · exact Or.inr (by decide +kernel)
  · exact Or.inr (by decide +kernel)
  · exact Or.inr (by decide +kernel)
  · exact Or.inr (by decide +kernel)
  · exact Or.inr (by decide +kernel)
  · exact Or.inr (by decide +kernel)
  · exact Or.inr (by decide +kernel)
  · exact Or.inr (by decide +kernel)
  · exact Or.inr (by decide +kernel)
  · exact Or.inl rfl
theorem ok_119 : am_ok1 119 := pg_KneeStair_means
theorem pg_KneeStair_oiled : ∀ pc, k_KneeStair_oiled pc = [] ∨ am_chk (am_Lk 8) (decide ("oiled" = "<init>")) (some .int) am_tf am_Ms prog_1_method_30_code pc (k_KneeStair_oiled pc) = true := by
  intro pc
  unfold k_KneeStair_oiled
  split
  · exact Or.inr (by decide +kernel)
  · exact Or.inr (by decide +kernel)
  · exact Or.inr (by decide +kernel)
  · exact Or.inr (by decide +kernel)
  · exact Or.inr (by decide +kernel)
  · exact Or.inr (by decide +kernel)
  · exact Or.inr (by decide +kernel)
  · exact Or.inr (by decide +kernel)
  · exact Or.inl rfl
theorem ok_120 : am_ok1 120 := pg_KneeStair_oiled
theorem pg_KneeStair_doubted : ∀ pc, k_KneeStair_doubted pc = [] ∨ am_chk (am_Lk 8) (decide ("doubted" = "<init>")) (some .int) am_tf am_Ms prog_1_method_31_code pc (k_KneeStair_doubted pc) = true := by
  intro pc
  unfold k_KneeStair_doubted
  split
  · exact Or.inr (by decide +kernel)
  · exact Or.inr (by decide +kernel)
  · exact Or.inr (by decide +kernel)
  · exact Or.inr (by decide +kernel)
  · exact Or.inr (by decide +kernel)
  · exact Or.inr (by decide +kernel)
  · exact Or.inr (by decide +kernel)
  · exact Or.inr (by decide +kernel)
  · exact Or.inl rfl
theorem ok_121 : am_ok1 121 := pg_KneeStair_doubted
theorem pg_KneeStair_bestStart : ∀ pc, k_KneeStair_bestStart pc = [] ∨ am_chk (am_Lk 8) (decide ("bestStart" = "<init>")) (some .int) am_tf am_Ms prog_1_method_32_code pc (k_KneeStair_bestStart pc) = true := by
  intro pc
  unfold k_KneeStair_bestStart
  split
  · exact Or.inr (by decide +kernel)
  · exact Or.inr (by decide +kernel)
  · exact Or.inr (by decide +kernel)
  · exact Or.inr (by decide +kernel)
  · exact Or.inr (by decide +kernel)
  · exact Or.inr (by decide +kernel)
  · exact Or.inr (by decide +kernel)
  · exact Or.inr (by decide +kernel)
  · exact Or.inr (by decide +kernel)
  · exact Or.inr (by decide +kernel)
  · exact Or.inr (by decide +kernel)
  · exact Or.inl rfl
theorem ok_122 : am_ok1 122 := pg_KneeStair_bestStart
theorem pg_KneeStair_meet : ∀ pc, k_KneeStair_meet pc = [] ∨ am_chk (am_Lk 8) (decide ("meet" = "<init>")) (some .int) am_tf am_Ms prog_1_method_33_code pc (k_KneeStair_meet pc) = true := by
  intro pc
  unfold k_KneeStair_meet
  split
  · exact Or.inr (by decide +kernel)
  · exact Or.inr (by decide +kernel)
  · exact Or.inr (by decide +kernel)
  · exact Or.inr (by decide +kernel)
  · exact Or.inr (by decide +kernel)
  · exact Or.inr (by decide +kernel)
  · exact Or.inr (by decide +kernel)
  · exact Or.inr (by decide +kernel)
  · exact Or.inl rfl
theorem ok_123 : am_ok1 123 := pg_KneeStair_meet
theorem pg_KneeStair_lowest : ∀ pc, k_KneeStair_lowest pc = [] ∨ am_chk (am_Lk 8) (decide ("lowest" = "<init>")) (some .int) am_tf am_Ms prog_1_method_34_code pc (k_KneeStair_lowest pc) = true := by
  intro pc
  unfold k_KneeStair_lowest
  split
  · exact Or.inr (by decide +kernel)
  · exact Or.inr (by decide +kernel)
  · exact Or.inr (by decide +kernel)
  · exact Or.inr (by decide +kernel)
  · exact Or.inr (by decide +kernel)
  · exact Or.inl rfl
theorem ok_124 : am_ok1 124 := pg_KneeStair_lowest
theorem pg_KneeStair_bestTwo : ∀ pc, k_KneeStair_bestTwo pc = [] ∨ am_chk (am_Lk 8) (decide ("bestTwo" = "<init>")) (some .int) am_tf am_Ms prog_1_method_35_code pc (k_KneeStair_bestTwo pc) = true := by
  intro pc
  unfold k_KneeStair_bestTwo
  split
  · exact Or.inr (by decide +kernel)
  · exact Or.inr (by decide +kernel)
  · exact Or.inr (by decide +kernel)
  · exact Or.inr (by decide +kernel)
  · exact Or.inr (by decide +kernel)
  · exact Or.inr (by decide +kernel)
  · exact Or.inr (by decide +kernel)
  · exact Or.inr (by decide +kernel)
  · exact Or.inl rfl
theorem ok_125 : am_ok1 125 := pg_KneeStair_bestTwo
theorem pg_KneeStair_exchange : ∀ pc, k_KneeStair_exchange pc = [] ∨ am_chk (am_Lk 8) (decide ("exchange" = "<init>")) (some .int) am_tf am_Ms prog_1_method_36_code pc (k_KneeStair_exchange pc) = true := by
  intro pc
  unfold k_KneeStair_exchange
  split
  · exact Or.inr (by decide +kernel)
  · exact Or.inr (by decide +kernel)
  · exact Or.inr (by decide +kernel)
  · exact Or.inr (by decide +kernel)
  · exact Or.inr (by decide +kernel)
  · exact Or.inr (by decide +kernel)
  · exact Or.inr (by decide +kernel)
  · exact Or.inr (by decide +kernel)
  · exact Or.inr (by decide +kernel)
  · exact Or.inl rfl
theorem ok_126 : am_ok1 126 := pg_KneeStair_exchange
theorem pg_KneeStair_kneelers : ∀ pc, k_KneeStair_kneelers pc = [] ∨ am_chk (am_Lk 8) (decide ("kneelers" = "<init>")) (some .int) am_tf am_Ms prog_1_method_37_code pc (k_KneeStair_kneelers pc) = true := by
  intro pc
  unfold k_KneeStair_kneelers
  split
  · exact Or.inr (by decide +kernel)
  · exact Or.inr (by decide +kernel)
  · exact Or.inr (by decide +kernel)
  · exact Or.inr (by decide +kernel)
  · exact Or.inr (by decide +kernel)
  · exact Or.inr (by decide +kernel)
  · exact Or.inr (by decide +kernel)
  · exact Or.inr (by decide +kernel)
  · exact Or.inr (by decide +kernel)
  · exact Or.inl rfl
theorem ok_127 : am_ok1 127 := pg_KneeStair_kneelers
theorem pg_KneeStair_rests : ∀ pc, k_KneeStair_rests pc = [] ∨ am_chk (am_Lk 8) (decide ("rests" = "<init>")) (some .int) am_tf am_Ms prog_1_method_38_code pc (k_KneeStair_rests pc) = true := by
  intro pc
  unfold k_KneeStair_rests
  split
  · exact Or.inr (by decide +kernel)
  · exact Or.inr (by decide +kernel)
  · exact Or.inr (by decide +kernel)
  · exact Or.inr (by decide +kernel)
  · exact Or.inr (by decide +kernel)
  · exact Or.inr (by decide +kernel)
  · exact Or.inl rfl
theorem ok_128 : am_ok1 128 := pg_KneeStair_rests
theorem pg_KneeStair_tell : ∀ pc, k_KneeStair_tell pc = [] ∨ am_chk (am_Lk 8) (decide ("tell" = "<init>")) (some .int) am_tf am_Ms prog_1_method_39_code pc (k_KneeStair_tell pc) = true := by
  intro pc
  unfold k_KneeStair_tell
  split
  · exact Or.inr (by decide +kernel)
  · exact Or.inr (by decide +kernel)
  · exact Or.inr (by decide +kernel)
  · exact Or.inr (by decide +kernel)
  · exact Or.inr (by decide +kernel)
  · exact Or.inr (by decide +kernel)
  · exact Or.inr (by decide +kernel)
  · exact Or.inr (by decide +kernel)
  · exact Or.inr (by decide +kernel)
  · exact Or.inr (by decide +kernel)
  · exact Or.inr (by decide +kernel)
  · exact Or.inr (by decide +kernel)
  · exact Or.inr (by decide +kernel)
  · exact Or.inr (by decide +kernel)
  · exact Or.inr (by decide +kernel)
  · exact Or.inl rfl
theorem ok_129 : am_ok1 129 := pg_KneeStair_tell
theorem pg_KneeStair_forget : ∀ pc, k_KneeStair_forget pc = [] ∨ am_chk (am_Lk 8) (decide ("forget" = "<init>")) (some .int) am_tf am_Ms prog_1_method_40_code pc (k_KneeStair_forget pc) = true := by
  intro pc
  unfold k_KneeStair_forget
  split
  · exact Or.inr (by decide +kernel)
  · exact Or.inr (by decide +kernel)
  · exact Or.inl rfl
theorem ok_130 : am_ok1 130 := pg_KneeStair_forget
theorem pg_KneeStair_secret : ∀ pc, k_KneeStair_secret pc = [] ∨ am_chk (am_Lk 8) (decide ("secret" = "<init>")) (some .int) am_tf am_Ms prog_1_method_41_code pc (k_KneeStair_secret pc) = true := by
  intro pc
  unfold k_KneeStair_secret
  split
  · exact Or.inr (by decide +kernel)
  · exact Or.inr (by decide +kernel)
  · exact Or.inr (by decide +kernel)
  · exact Or.inr (by decide +kernel)
  · exact Or.inr (by decide +kernel)
  · exact Or.inr (by decide +kernel)
  · exact Or.inl rfl
theorem ok_131 : am_ok1 131 := pg_KneeStair_secret
theorem pg_KneeStair_off : ∀ pc, k_KneeStair_off pc = [] ∨ am_chk (am_Lk 8) (decide ("off" = "<init>")) (some .int) am_tf am_Ms prog_1_method_42_code pc (k_KneeStair_off pc) = true := by
  intro pc
  unfold k_KneeStair_off
  split
  · exact Or.inr (by decide +kernel)
  · exact Or.inr (by decide +kernel)
  · exact Or.inr (by decide +kernel)
  · exact Or.inr (by decide +kernel)
  · exact Or.inr (by decide +kernel)
  · exact Or.inl rfl
theorem ok_132 : am_ok1 132 := pg_KneeStair_off
theorem pg_KneeStair_isPilgrim : ∀ pc, k_KneeStair_isPilgrim pc = [] ∨ am_chk (am_Lk 8) (decide ("isPilgrim" = "<init>")) (some .boolean) am_tf am_Ms prog_1_method_43_code pc (k_KneeStair_isPilgrim pc) = true := by
  intro pc
  unfold k_KneeStair_isPilgrim
  split
  · exact Or.inr (by decide +kernel)
  · exact Or.inr (by decide +kernel)
  · exact Or.inr (by decide +kernel)
  · exact Or.inr (by decide +kernel)
  · exact Or.inr (by decide +kernel)
  · exact Or.inl rfl
theorem ok_133 : am_ok1 133 := pg_KneeStair_isPilgrim
theorem pg_KneeStair_isSpan : ∀ pc, k_KneeStair_isSpan pc = [] ∨ am_chk (am_Lk 8) (decide ("isSpan" = "<init>")) (some .boolean) am_tf am_Ms prog_1_method_44_code pc (k_KneeStair_isSpan pc) = true := by
  intro pc
  unfold k_KneeStair_isSpan
  split
  · exact Or.inr (by decide +kernel)
  · exact Or.inr (by decide +kernel)
  · exact Or.inr (by decide +kernel)
  · exact Or.inr (by decide +kernel)
  · exact Or.inr (by decide +kernel)
  · exact Or.inl rfl
theorem ok_134 : am_ok1 134 := pg_KneeStair_isSpan
theorem pg_KneeStair_isOneOfTwo : ∀ pc, k_KneeStair_isOneOfTwo pc = [] ∨ am_chk (am_Lk 8) (decide ("isOneOfTwo" = "<init>")) (some .boolean) am_tf am_Ms prog_1_method_45_code pc (k_KneeStair_isOneOfTwo pc) = true := by
  intro pc
  unfold k_KneeStair_isOneOfTwo
  split
  · exact Or.inr (by decide +kernel)
  · exact Or.inr (by decide +kernel)
  · exact Or.inr (by decide +kernel)
  · exact Or.inr (by decide +kernel)
  · exact Or.inr (by decide +kernel)
  · exact Or.inl rfl
theorem ok_135 : am_ok1 135 := pg_KneeStair_isOneOfTwo
theorem pg_Model_init : ∀ pc, k_Model_init pc = [] ∨ am_chk (am_Lk 9) (decide ("<init>" = "<init>")) none am_tf am_Ms prog_11_method_2_code pc (k_Model_init pc) = true := by
  intro pc
  unfold k_Model_init
  split
  · exact Or.inr (by decide +kernel)
  · exact Or.inr (by decide +kernel)
  · exact Or.inr (by decide +kernel)
  · exact Or.inr (by decide +kernel)
  · exact Or.inr (by decide +kernel)
  · exact Or.inr (by decide +kernel)
  · exact Or.inr (by decide +kernel)
  · exact Or.inr (by decide +kernel)
  · exact Or.inr (by decide +kernel)
  · exact Or.inr (by decide +kernel)
  · exact Or.inr (by decide +kernel)
  · exact Or.inr (by decide +kernel)
  · exact Or.inr (by decide +kernel)
  · exact Or.inr (by decide +kernel)
  · exact Or.inr (by decide +kernel)
  · exact Or.inr (by decide +kernel)
  · exact Or.inr (by decide +kernel)
  · exact Or.inr (by decide +kernel)
  · exact Or.inr (by decide +kernel)
  · exact Or.inl rfl
theorem ok_136 : am_ok1 136 := pg_Model_init
