/-! printed by wip/whole/gen2.py: each stretch is the bytecode at its place -/
def am_ok1 (m : Nat) : Prop := ∀ pc, (am_Pr m).2 pc = [] ∨ am_chk (am_Lk (am_Ms m).2.2.2.2.2) (decide ((am_Ms m).1.name = "<init>")) (am_Ms m).2.2.2.1 am_tf am_Ms (am_Ms m).2.1 pc ((am_Pr m).2 pc) = true
theorem pg_Forecast_init : ∀ pc, k_Forecast_init pc = [] ∨ am_chk (am_Lk 0) (decide ("<init>" = "<init>")) none am_tf am_Ms prog_2_method_1_code pc (k_Forecast_init pc) = true := by
  intro pc
  unfold k_Forecast_init
  split
  · exact Or.inr (by decide +kernel)
  · exact Or.inr (by decide +kernel)
  · exact Or.inl rfl
theorem ok_0 : am_ok1 0 := pg_Forecast_init
theorem pg_Forecast_arrivesBehind : ∀ pc, k_Forecast_arrivesBehind pc = [] ∨ am_chk (am_Lk 0) (decide ("arrivesBehind" = "<init>")) (some .int) am_tf am_Ms prog_2_method_2_code pc (k_Forecast_arrivesBehind pc) = true := by
  intro pc
  unfold k_Forecast_arrivesBehind
  split
  · exact Or.inr (by decide +kernel)
  · exact Or.inr (by decide +kernel)
  · exact Or.inl rfl
theorem ok_1 : am_ok1 1 := pg_Forecast_arrivesBehind
theorem pg_Forecast_arrivalBehind : ∀ pc, k_Forecast_arrivalBehind pc = [] ∨ am_chk (am_Lk 0) (decide ("arrivalBehind" = "<init>")) (some .int) am_tf am_Ms prog_2_method_3_code pc (k_Forecast_arrivalBehind pc) = true := by
  intro pc
  unfold k_Forecast_arrivalBehind
  split
  · exact Or.inr (by decide +kernel)
  · exact Or.inr (by decide +kernel)
  · exact Or.inr (by decide +kernel)
  · exact Or.inr (by decide +kernel)
  · exact Or.inr (by decide +kernel)
  · exact Or.inr (by decide +kernel)
  · exact Or.inr (by decide +kernel)
  · exact Or.inr (by decide +kernel)
  · exact Or.inr (by decide +kernel)
  · exact Or.inl rfl
theorem ok_2 : am_ok1 2 := pg_Forecast_arrivalBehind
theorem pg_Forecast_stillBehind : ∀ pc, k_Forecast_stillBehind pc = [] ∨ am_chk (am_Lk 0) (decide ("stillBehind" = "<init>")) (some .int) am_tf am_Ms prog_2_method_4_code pc (k_Forecast_stillBehind pc) = true := by
  intro pc
  unfold k_Forecast_stillBehind
  split
  · exact Or.inr (by decide +kernel)
  · exact Or.inr (by decide +kernel)
  · exact Or.inr (by decide +kernel)
  · exact Or.inr (by decide +kernel)
  · exact Or.inr (by decide +kernel)
  · exact Or.inr (by decide +kernel)
  · exact Or.inr (by decide +kernel)
  · exact Or.inr (by decide +kernel)
  · exact Or.inr (by decide +kernel)
  · exact Or.inl rfl
theorem ok_3 : am_ok1 3 := pg_Forecast_stillBehind
theorem pg_Forecast_highestOf : ∀ pc, k_Forecast_highestOf pc = [] ∨ am_chk (am_Lk 0) (decide ("highestOf" = "<init>")) (some .int) am_tf am_Ms prog_2_method_5_code pc (k_Forecast_highestOf pc) = true := by
  intro pc
  unfold k_Forecast_highestOf
  split
  · exact Or.inr (by decide +kernel)
  · exact Or.inr (by decide +kernel)
  · exact Or.inr (by decide +kernel)
  · exact Or.inr (by decide +kernel)
  · exact Or.inr (by decide +kernel)
  · exact Or.inr (by decide +kernel)
  · exact Or.inl rfl
theorem ok_4 : am_ok1 4 := pg_Forecast_highestOf
theorem pg_Forecast_firstToArrive : ∀ pc, k_Forecast_firstToArrive pc = [] ∨ am_chk (am_Lk 0) (decide ("firstToArrive" = "<init>")) (some .int) am_tf am_Ms prog_2_method_6_code pc (k_Forecast_firstToArrive pc) = true := by
  intro pc
  unfold k_Forecast_firstToArrive
  split
  · exact Or.inr (by decide +kernel)
  · exact Or.inr (by decide +kernel)
  · exact Or.inr (by decide +kernel)
  · exact Or.inr (by decide +kernel)
  · exact Or.inr (by decide +kernel)
  · exact Or.inr (by decide +kernel)
  · exact Or.inr (by decide +kernel)
  · exact Or.inr (by decide +kernel)
  · exact Or.inr (by decide +kernel)
  · exact Or.inr (by decide +kernel)
  · exact Or.inr (by decide +kernel)
  · exact Or.inr (by decide +kernel)
  · exact Or.inr (by decide +kernel)
  · exact Or.inr (by decide +kernel)
  · exact Or.inr (by decide +kernel)
  · exact Or.inr (by decide +kernel)
  · exact Or.inr (by decide +kernel)
  · exact Or.inl rfl
theorem ok_5 : am_ok1 5 := pg_Forecast_firstToArrive
theorem pg_Forecast_meansOf : ∀ pc, k_Forecast_meansOf pc = [] ∨ am_chk (am_Lk 0) (decide ("meansOf" = "<init>")) (some .int) am_tf am_Ms prog_2_method_7_code pc (k_Forecast_meansOf pc) = true := by
  intro pc
  unfold k_Forecast_meansOf
  split
  · exact Or.inr (by decide +kernel)
  · exact Or.inr (by decide +kernel)
  · exact Or.inr (by decide +kernel)
  · exact Or.inr (by decide +kernel)
  · exact Or.inr (by decide +kernel)
  · exact Or.inr (by decide +kernel)
  · exact Or.inl rfl
theorem ok_6 : am_ok1 6 := pg_Forecast_meansOf
theorem pg_Forecast_leastOil : ∀ pc, k_Forecast_leastOil pc = [] ∨ am_chk (am_Lk 0) (decide ("leastOil" = "<init>")) (some .int) am_tf am_Ms prog_2_method_8_code pc (k_Forecast_leastOil pc) = true := by
  intro pc
  unfold k_Forecast_leastOil
  split
  · exact Or.inr (by decide +kernel)
  · exact Or.inr (by decide +kernel)
  · exact Or.inr (by decide +kernel)
  · exact Or.inr (by decide +kernel)
  · exact Or.inr (by decide +kernel)
  · exact Or.inr (by decide +kernel)
  · exact Or.inr (by decide +kernel)
  · exact Or.inr (by decide +kernel)
  · exact Or.inr (by decide +kernel)
  · exact Or.inr (by decide +kernel)
  · exact Or.inr (by decide +kernel)
  · exact Or.inl rfl
theorem ok_7 : am_ok1 7 := pg_Forecast_leastOil
theorem pg_Forecast_greatestDoubt : ∀ pc, k_Forecast_greatestDoubt pc = [] ∨ am_chk (am_Lk 0) (decide ("greatestDoubt" = "<init>")) (some .int) am_tf am_Ms prog_2_method_9_code pc (k_Forecast_greatestDoubt pc) = true := by
  intro pc
  unfold k_Forecast_greatestDoubt
  split
  · exact Or.inr (by decide +kernel)
  · exact Or.inr (by decide +kernel)
  · exact Or.inr (by decide +kernel)
  · exact Or.inr (by decide +kernel)
  · exact Or.inr (by decide +kernel)
  · exact Or.inr (by decide +kernel)
  · exact Or.inr (by decide +kernel)
  · exact Or.inr (by decide +kernel)
  · exact Or.inr (by decide +kernel)
  · exact Or.inr (by decide +kernel)
  · exact Or.inr (by decide +kernel)
  · exact Or.inl rfl
theorem ok_8 : am_ok1 8 := pg_Forecast_greatestDoubt
theorem pg_Forecast_bestStartOf : ∀ pc, k_Forecast_bestStartOf pc = [] ∨ am_chk (am_Lk 0) (decide ("bestStartOf" = "<init>")) (some .int) am_tf am_Ms prog_2_method_10_code pc (k_Forecast_bestStartOf pc) = true := by
  intro pc
  unfold k_Forecast_bestStartOf
  split
  · exact Or.inr (by decide +kernel)
  · exact Or.inr (by decide +kernel)
  · exact Or.inr (by decide +kernel)
  · exact Or.inr (by decide +kernel)
  · exact Or.inr (by decide +kernel)
  · exact Or.inr (by decide +kernel)
  · exact Or.inr (by decide +kernel)
  · exact Or.inr (by decide +kernel)
  · exact Or.inr (by decide +kernel)
  · exact Or.inr (by decide +kernel)
  · exact Or.inl rfl
theorem ok_9 : am_ok1 9 := pg_Forecast_bestStartOf
theorem pg_Forecast_stepKneelingFrom : ∀ pc, k_Forecast_stepKneelingFrom pc = [] ∨ am_chk (am_Lk 0) (decide ("stepKneelingFrom" = "<init>")) (some .int) am_tf am_Ms prog_2_method_11_code pc (k_Forecast_stepKneelingFrom pc) = true := by
  intro pc
  unfold k_Forecast_stepKneelingFrom
  split
  · exact Or.inr (by decide +kernel)
  · exact Or.inr (by decide +kernel)
  · exact Or.inr (by decide +kernel)
  · exact Or.inr (by decide +kernel)
  · exact Or.inr (by decide +kernel)
  · exact Or.inl rfl
theorem ok_10 : am_ok1 10 := pg_Forecast_stepKneelingFrom
theorem pg_Forecast_meetBehind : ∀ pc, k_Forecast_meetBehind pc = [] ∨ am_chk (am_Lk 0) (decide ("meetBehind" = "<init>")) (some .int) am_tf am_Ms prog_2_method_12_code pc (k_Forecast_meetBehind pc) = true := by
  intro pc
  unfold k_Forecast_meetBehind
  split
  · exact Or.inr (by decide +kernel)
  · exact Or.inr (by decide +kernel)
  · exact Or.inr (by decide +kernel)
  · exact Or.inr (by decide +kernel)
  · exact Or.inr (by decide +kernel)
  · exact Or.inr (by decide +kernel)
  · exact Or.inr (by decide +kernel)
  · exact Or.inr (by decide +kernel)
  · exact Or.inl rfl
theorem ok_11 : am_ok1 11 := pg_Forecast_meetBehind
theorem pg_Forecast_lowestIn : ∀ pc, k_Forecast_lowestIn pc = [] ∨ am_chk (am_Lk 0) (decide ("lowestIn" = "<init>")) (some .int) am_tf am_Ms prog_2_method_13_code pc (k_Forecast_lowestIn pc) = true := by
  intro pc
  unfold k_Forecast_lowestIn
  split
  · exact Or.inr (by decide +kernel)
  · exact Or.inr (by decide +kernel)
  · exact Or.inr (by decide +kernel)
  · exact Or.inr (by decide +kernel)
  · exact Or.inr (by decide +kernel)
  · exact Or.inr (by decide +kernel)
  · exact Or.inr (by decide +kernel)
  · exact Or.inr (by decide +kernel)
  · exact Or.inr (by decide +kernel)
  · exact Or.inr (by decide +kernel)
  · exact Or.inr (by decide +kernel)
  · exact Or.inr (by decide +kernel)
  · exact Or.inr (by decide +kernel)
  · exact Or.inr (by decide +kernel)
  · exact Or.inl rfl
theorem ok_12 : am_ok1 12 := pg_Forecast_lowestIn
theorem pg_Forecast_tryKneelers : ∀ pc, k_Forecast_tryKneelers pc = [] ∨ am_chk (am_Lk 0) (decide ("tryKneelers" = "<init>")) none am_tf am_Ms prog_2_method_14_code pc (k_Forecast_tryKneelers pc) = true := by
  intro pc
  unfold k_Forecast_tryKneelers
  split
  · exact Or.inr (by decide +kernel)
  · exact Or.inr (by decide +kernel)
  · exact Or.inr (by decide +kernel)
  · exact Or.inr (by decide +kernel)
  · exact Or.inl rfl
theorem ok_13 : am_ok1 13 := pg_Forecast_tryKneelers
theorem pg_Forecast_bestPair : ∀ pc, k_Forecast_bestPair pc = [] ∨ am_chk (am_Lk 0) (decide ("bestPair" = "<init>")) (some .int) am_tf am_Ms prog_2_method_15_code pc (k_Forecast_bestPair pc) = true := by
  intro pc
  unfold k_Forecast_bestPair
  split
  · exact Or.inr (by decide +kernel)
  · exact Or.inr (by decide +kernel)
  · exact Or.inr (by decide +kernel)
  · exact Or.inr (by decide +kernel)
  · exact Or.inr (by decide +kernel)
  · exact Or.inr (by decide +kernel)
  · exact Or.inr (by decide +kernel)
  · exact Or.inr (by decide +kernel)
  · exact Or.inr (by decide +kernel)
  · exact Or.inr (by decide +kernel)
  · exact Or.inr (by decide +kernel)
  · exact Or.inr (by decide +kernel)
  · exact Or.inr (by decide +kernel)
  · exact Or.inr (by decide +kernel)
  · exact Or.inr (by decide +kernel)
  · exact Or.inr (by decide +kernel)
  · exact Or.inr (by decide +kernel)
  · exact Or.inr (by decide +kernel)
  · exact Or.inr (by decide +kernel)
  · exact Or.inl rfl
theorem ok_14 : am_ok1 14 := pg_Forecast_bestPair
theorem pg_Forecast_allSteps : ∀ pc, k_Forecast_allSteps pc = [] ∨ am_chk (am_Lk 0) (decide ("allSteps" = "<init>")) (some .int) am_tf am_Ms prog_2_method_16_code pc (k_Forecast_allSteps pc) = true := by
  intro pc
  unfold k_Forecast_allSteps
  split
  · exact Or.inr (by decide +kernel)
  · exact Or.inr (by decide +kernel)
  · exact Or.inr (by decide +kernel)
  · exact Or.inr (by decide +kernel)
  · exact Or.inl rfl
theorem ok_15 : am_ok1 15 := pg_Forecast_allSteps
theorem pg_Forecast_bestExchange : ∀ pc, k_Forecast_bestExchange pc = [] ∨ am_chk (am_Lk 0) (decide ("bestExchange" = "<init>")) (some .int) am_tf am_Ms prog_2_method_17_code pc (k_Forecast_bestExchange pc) = true := by
  intro pc
  unfold k_Forecast_bestExchange
  split
  · exact Or.inr (by decide +kernel)
  · exact Or.inr (by decide +kernel)
  · exact Or.inr (by decide +kernel)
  · exact Or.inr (by decide +kernel)
  · exact Or.inr (by decide +kernel)
  · exact Or.inr (by decide +kernel)
  · exact Or.inr (by decide +kernel)
  · exact Or.inr (by decide +kernel)
  · exact Or.inr (by decide +kernel)
  · exact Or.inr (by decide +kernel)
  · exact Or.inr (by decide +kernel)
  · exact Or.inr (by decide +kernel)
  · exact Or.inr (by decide +kernel)
  · exact Or.inr (by decide +kernel)
  · exact Or.inr (by decide +kernel)
  · exact Or.inr (by decide +kernel)
  · exact Or.inr (by decide +kernel)
  · exact Or.inr (by decide +kernel)
  · exact Or.inr (by decide +kernel)
  · exact Or.inr (by decide +kernel)
  · exact Or.inr (by decide +kernel)
  · exact Or.inl rfl
theorem ok_16 : am_ok1 16 := pg_Forecast_bestExchange
theorem pg_Forecast_stepWithExchange : ∀ pc, k_Forecast_stepWithExchange pc = [] ∨ am_chk (am_Lk 0) (decide ("stepWithExchange" = "<init>")) (some .int) am_tf am_Ms prog_2_method_18_code pc (k_Forecast_stepWithExchange pc) = true := by
  intro pc
  unfold k_Forecast_stepWithExchange
  split
  · exact Or.inr (by decide +kernel)
  · exact Or.inr (by decide +kernel)
  · exact Or.inr (by decide +kernel)
  · exact Or.inl rfl
theorem ok_17 : am_ok1 17 := pg_Forecast_stepWithExchange
theorem pg_Forecast_cheapestKneelers : ∀ pc, k_Forecast_cheapestKneelers pc = [] ∨ am_chk (am_Lk 0) (decide ("cheapestKneelers" = "<init>")) (some .int) am_tf am_Ms prog_2_method_19_code pc (k_Forecast_cheapestKneelers pc) = true := by
  intro pc
  unfold k_Forecast_cheapestKneelers
  split
  · exact Or.inr (by decide +kernel)
  · exact Or.inr (by decide +kernel)
  · exact Or.inr (by decide +kernel)
  · exact Or.inr (by decide +kernel)
  · exact Or.inr (by decide +kernel)
  · exact Or.inr (by decide +kernel)
  · exact Or.inr (by decide +kernel)
  · exact Or.inr (by decide +kernel)
  · exact Or.inr (by decide +kernel)
  · exact Or.inr (by decide +kernel)
  · exact Or.inr (by decide +kernel)
  · exact Or.inr (by decide +kernel)
  · exact Or.inr (by decide +kernel)
  · exact Or.inr (by decide +kernel)
  · exact Or.inr (by decide +kernel)
  · exact Or.inr (by decide +kernel)
  · exact Or.inr (by decide +kernel)
  · exact Or.inr (by decide +kernel)
  · exact Or.inr (by decide +kernel)
  · exact Or.inr (by decide +kernel)
  · exact Or.inr (by decide +kernel)
  · exact Or.inr (by decide +kernel)
  · exact Or.inr (by decide +kernel)
  · exact Or.inr (by decide +kernel)
  · exact Or.inr (by decide +kernel)
  · exact Or.inr (by decide +kernel)
  · exact Or.inl rfl
theorem ok_18 : am_ok1 18 := pg_Forecast_cheapestKneelers
theorem pg_Forecast_isCheaper : ∀ pc, k_Forecast_isCheaper pc = [] ∨ am_chk (am_Lk 0) (decide ("isCheaper" = "<init>")) (some .boolean) am_tf am_Ms prog_2_method_20_code pc (k_Forecast_isCheaper pc) = true := by
  intro pc
  unfold k_Forecast_isCheaper
  split
  · exact Or.inr (by decide +kernel)
  · exact Or.inr (by decide +kernel)
  · exact Or.inr (by decide +kernel)
  · exact Or.inr (by decide +kernel)
  · exact Or.inr (by decide +kernel)
  · exact Or.inr (by decide +kernel)
  · exact Or.inr (by decide +kernel)
  · exact Or.inr (by decide +kernel)
  · exact Or.inr (by decide +kernel)
  · exact Or.inr (by decide +kernel)
  · exact Or.inr (by decide +kernel)
  · exact Or.inr (by decide +kernel)
  · exact Or.inr (by decide +kernel)
  · exact Or.inl rfl
theorem ok_19 : am_ok1 19 := pg_Forecast_isCheaper
theorem pg_Forecast_sumOf : ∀ pc, k_Forecast_sumOf pc = [] ∨ am_chk (am_Lk 0) (decide ("sumOf" = "<init>")) (some .int) am_tf am_Ms prog_2_method_21_code pc (k_Forecast_sumOf pc) = true := by
  intro pc
  unfold k_Forecast_sumOf
  split
  · exact Or.inr (by decide +kernel)
  · exact Or.inr (by decide +kernel)
  · exact Or.inr (by decide +kernel)
  · exact Or.inr (by decide +kernel)
  · exact Or.inr (by decide +kernel)
  · exact Or.inr (by decide +kernel)
  · exact Or.inr (by decide +kernel)
  · exact Or.inl rfl
theorem ok_20 : am_ok1 20 := pg_Forecast_sumOf
theorem pg_Forecast_restingSets : ∀ pc, k_Forecast_restingSets pc = [] ∨ am_chk (am_Lk 0) (decide ("restingSets" = "<init>")) (some .int) am_tf am_Ms prog_2_method_22_code pc (k_Forecast_restingSets pc) = true := by
  intro pc
  unfold k_Forecast_restingSets
  split
  · exact Or.inr (by decide +kernel)
  · exact Or.inr (by decide +kernel)
  · exact Or.inr (by decide +kernel)
  · exact Or.inr (by decide +kernel)
  · exact Or.inr (by decide +kernel)
  · exact Or.inr (by decide +kernel)
  · exact Or.inr (by decide +kernel)
  · exact Or.inr (by decide +kernel)
  · exact Or.inr (by decide +kernel)
  · exact Or.inr (by decide +kernel)
  · exact Or.inr (by decide +kernel)
  · exact Or.inr (by decide +kernel)
  · exact Or.inr (by decide +kernel)
  · exact Or.inr (by decide +kernel)
  · exact Or.inr (by decide +kernel)
  · exact Or.inr (by decide +kernel)
  · exact Or.inr (by decide +kernel)
  · exact Or.inr (by decide +kernel)
  · exact Or.inr (by decide +kernel)
  · exact Or.inr (by decide +kernel)
  · exact Or.inr (by decide +kernel)
  · exact Or.inr (by decide +kernel)
  · exact Or.inr (by decide +kernel)
  · exact Or.inl rfl
theorem ok_21 : am_ok1 21 := pg_Forecast_restingSets
theorem pg_Forecast_isRest : ∀ pc, k_Forecast_isRest pc = [] ∨ am_chk (am_Lk 0) (decide ("isRest" = "<init>")) (some .boolean) am_tf am_Ms prog_2_method_23_code pc (k_Forecast_isRest pc) = true := by
  intro pc
  unfold k_Forecast_isRest
  split
  · exact Or.inr (by decide +kernel)
  · exact Or.inr (by decide +kernel)
  · exact Or.inr (by decide +kernel)
  · exact Or.inr (by decide +kernel)
  · exact Or.inr (by decide +kernel)
  · exact Or.inr (by decide +kernel)
  · exact Or.inr (by decide +kernel)
  · exact Or.inr (by decide +kernel)
  · exact Or.inr (by decide +kernel)
  · exact Or.inr (by decide +kernel)
  · exact Or.inl rfl
theorem ok_22 : am_ok1 22 := pg_Forecast_isRest
theorem pg_Law_init : ∀ pc, k_Law_init pc = [] ∨ am_chk (am_Lk 1) (decide ("<init>" = "<init>")) none am_tf am_Ms prog_3_method_1_code pc (k_Law_init pc) = true := by
  intro pc
  unfold k_Law_init
  split
  · exact Or.inr (by decide +kernel)
  · exact Or.inl rfl
theorem ok_23 : am_ok1 23 := pg_Law_init
theorem pg_Law_clear : ∀ pc, k_Law_clear pc = [] ∨ am_chk (am_Lk 1) (decide ("clear" = "<init>")) none am_tf am_Ms prog_3_method_2_code pc (k_Law_clear pc) = true := by
  intro pc
  unfold k_Law_clear
  split
  · exact Or.inr (by decide +kernel)
  · exact Or.inl rfl
theorem ok_24 : am_ok1 24 := pg_Law_clear
theorem pg_Law_put : ∀ pc, k_Law_put pc = [] ∨ am_chk (am_Lk 1) (decide ("put" = "<init>")) (some .int) am_tf am_Ms prog_3_method_3_code pc (k_Law_put pc) = true := by
  intro pc
  unfold k_Law_put
  split
  · exact Or.inr (by decide +kernel)
  · exact Or.inr (by decide +kernel)
  · exact Or.inr (by decide +kernel)
  · exact Or.inl rfl
theorem ok_25 : am_ok1 25 := pg_Law_put
theorem pg_Law_skipToHere : ∀ pc, k_Law_skipToHere pc = [] ∨ am_chk (am_Lk 1) (decide ("skipToHere" = "<init>")) none am_tf am_Ms prog_3_method_4_code pc (k_Law_skipToHere pc) = true := by
  intro pc
  unfold k_Law_skipToHere
  split
  · exact Or.inr (by decide +kernel)
  · exact Or.inr (by decide +kernel)
  · exact Or.inr (by decide +kernel)
  · exact Or.inr (by decide +kernel)
  · exact Or.inl rfl
theorem ok_26 : am_ok1 26 := pg_Law_skipToHere
theorem pg_Law_looksAt : ∀ pc, k_Law_looksAt pc = [] ∨ am_chk (am_Lk 1) (decide ("looksAt" = "<init>")) (some .boolean) am_tf am_Ms prog_3_method_5_code pc (k_Law_looksAt pc) = true := by
  intro pc
  unfold k_Law_looksAt
  split
  · exact Or.inr (by decide +kernel)
  · exact Or.inr (by decide +kernel)
  · exact Or.inr (by decide +kernel)
  · exact Or.inr (by decide +kernel)
  · exact Or.inr (by decide +kernel)
  · exact Or.inr (by decide +kernel)
  · exact Or.inr (by decide +kernel)
  · exact Or.inl rfl
theorem ok_27 : am_ok1 27 := pg_Law_looksAt
theorem pg_Law_copyFrom : ∀ pc, k_Law_copyFrom pc = [] ∨ am_chk (am_Lk 1) (decide ("copyFrom" = "<init>")) none am_tf am_Ms prog_3_method_6_code pc (k_Law_copyFrom pc) = true := by
  intro pc
  unfold k_Law_copyFrom
  split
  · exact Or.inr (by decide +kernel)
  · exact Or.inl rfl
theorem ok_28 : am_ok1 28 := pg_Law_copyFrom
theorem pg_Law_tellsNow : ∀ pc, k_Law_tellsNow pc = [] ∨ am_chk (am_Lk 1) (decide ("tellsNow" = "<init>")) (some .int) am_tf am_Ms prog_3_method_7_code pc (k_Law_tellsNow pc) = true := by
  intro pc
  unfold k_Law_tellsNow
  split
  · exact Or.inr (by decide +kernel)
  · exact Or.inr (by decide +kernel)
  · exact Or.inr (by decide +kernel)
  · exact Or.inr (by decide +kernel)
  · exact Or.inr (by decide +kernel)
  · exact Or.inr (by decide +kernel)
  · exact Or.inr (by decide +kernel)
  · exact Or.inr (by decide +kernel)
  · exact Or.inr (by decide +kernel)
  · exact Or.inr (by decide +kernel)
  · exact Or.inr (by decide +kernel)
  · exact Or.inr (by decide +kernel)
  · exact Or.inr (by decide +kernel)
  · exact Or.inr (by decide +kernel)
  · exact Or.inr (by decide +kernel)
  · exact Or.inr (by decide +kernel)
  · exact Or.inr (by decide +kernel)
  · exact Or.inr (by decide +kernel)
  · exact Or.inr (by decide +kernel)
  · exact Or.inr (by decide +kernel)
  · exact Or.inr (by decide +kernel)
  · exact Or.inr (by decide +kernel)
  · exact Or.inr (by decide +kernel)
  · exact Or.inr (by decide +kernel)
  · exact Or.inr (by decide +kernel)
  · exact Or.inr (by decide +kernel)
  · exact Or.inl rfl
theorem ok_29 : am_ok1 29 := pg_Law_tellsNow
theorem pg_Law_varSeen : ∀ pc, k_Law_varSeen pc = [] ∨ am_chk (am_Lk 1) (decide ("varSeen" = "<init>")) (some .int) am_tf am_Ms prog_3_method_8_code pc (k_Law_varSeen pc) = true := by
  intro pc
  unfold k_Law_varSeen
  split
  · exact Or.inr (by decide +kernel)
  · exact Or.inr (by decide +kernel)
  · exact Or.inr (by decide +kernel)
  · exact Or.inr (by decide +kernel)
  · exact Or.inr (by decide +kernel)
  · exact Or.inl rfl
theorem ok_30 : am_ok1 30 := pg_Law_varSeen
theorem pg_Law_reckon : ∀ pc, k_Law_reckon pc = [] ∨ am_chk (am_Lk 1) (decide ("reckon" = "<init>")) (some .int) am_tf am_Ms prog_3_method_9_code pc (k_Law_reckon pc) = true := by
  intro pc
  unfold k_Law_reckon
  split
  · exact Or.inr (by decide +kernel)
  · exact Or.inr (by decide +kernel)
  · exact Or.inr (by decide +kernel)
  · exact Or.inr (by decide +kernel)
  · exact Or.inr (by decide +kernel)
  · exact Or.inr (by decide +kernel)
  · exact Or.inr (by decide +kernel)
  · exact Or.inr (by decide +kernel)
  · exact Or.inl rfl
theorem ok_31 : am_ok1 31 := pg_Law_reckon
theorem pg_Past_init : ∀ pc, k_Past_init pc = [] ∨ am_chk (am_Lk 2) (decide ("<init>" = "<init>")) none am_tf am_Ms prog_4_method_1_code pc (k_Past_init pc) = true := by
  intro pc
  unfold k_Past_init
  split
  · exact Or.inr (by decide +kernel)
  · exact Or.inr (by decide +kernel)
  · exact Or.inr (by decide +kernel)
  · exact Or.inr (by decide +kernel)
  · exact Or.inr (by decide +kernel)
  · exact Or.inl rfl
theorem ok_32 : am_ok1 32 := pg_Past_init
theorem pg_Past_clear : ∀ pc, k_Past_clear pc = [] ∨ am_chk (am_Lk 2) (decide ("clear" = "<init>")) none am_tf am_Ms prog_4_method_2_code pc (k_Past_clear pc) = true := by
  intro pc
  unfold k_Past_clear
  split
  · exact Or.inr (by decide +kernel)
  · exact Or.inl rfl
theorem ok_33 : am_ok1 33 := pg_Past_clear
theorem pg_Past_keep : ∀ pc, k_Past_keep pc = [] ∨ am_chk (am_Lk 2) (decide ("keep" = "<init>")) none am_tf am_Ms prog_4_method_3_code pc (k_Past_keep pc) = true := by
  intro pc
  unfold k_Past_keep
  split
  · exact Or.inr (by decide +kernel)
  · exact Or.inr (by decide +kernel)
  · exact Or.inl rfl
theorem ok_34 : am_ok1 34 := pg_Past_keep
theorem pg_Past_giveBack : ∀ pc, k_Past_giveBack pc = [] ∨ am_chk (am_Lk 2) (decide ("giveBack" = "<init>")) (some .boolean) am_tf am_Ms prog_4_method_4_code pc (k_Past_giveBack pc) = true := by
  intro pc
  unfold k_Past_giveBack
  split
  · exact Or.inr (by decide +kernel)
  · exact Or.inr (by decide +kernel)
  · exact Or.inr (by decide +kernel)
  · exact Or.inr (by decide +kernel)
  · exact Or.inl rfl
theorem ok_35 : am_ok1 35 := pg_Past_giveBack
theorem pg_Reader_init : ∀ pc, k_Reader_init pc = [] ∨ am_chk (am_Lk 3) (decide ("<init>" = "<init>")) none am_tf am_Ms prog_5_method_1_code pc (k_Reader_init pc) = true := by
  intro pc
  unfold k_Reader_init
  split
  · exact Or.inr (by decide +kernel)
  · exact Or.inr (by decide +kernel)
  · exact Or.inr (by decide +kernel)
  · exact Or.inl rfl
theorem ok_36 : am_ok1 36 := pg_Reader_init
theorem pg_Reader_readTape : ∀ pc, k_Reader_readTape pc = [] ∨ am_chk (am_Lk 3) (decide ("readTape" = "<init>")) (some .int) am_tf am_Ms prog_5_method_2_code pc (k_Reader_readTape pc) = true := by
  intro pc
  unfold k_Reader_readTape
  split
  · exact Or.inr (by decide +kernel)
  · exact Or.inr (by decide +kernel)
  · exact Or.inr (by decide +kernel)
  · exact Or.inr (by decide +kernel)
  · exact Or.inr (by decide +kernel)
  · exact Or.inr (by decide +kernel)
  · exact Or.inr (by decide +kernel)
  · exact Or.inr (by decide +kernel)
  · exact Or.inr (by decide +kernel)
  · exact Or.inr (by decide +kernel)
  · exact Or.inr (by decide +kernel)
  · exact Or.inr (by decide +kernel)
  · exact Or.inr (by decide +kernel)
  · exact Or.inl rfl
theorem ok_37 : am_ok1 37 := pg_Reader_readTape
theorem pg_Reader_kind : ∀ pc, k_Reader_kind pc = [] ∨ am_chk (am_Lk 3) (decide ("kind" = "<init>")) (some .int) am_tf am_Ms prog_5_method_3_code pc (k_Reader_kind pc) = true := by
  intro pc
  unfold k_Reader_kind
  split
  · exact Or.inr (by decide +kernel)
  · exact Or.inr (by decide +kernel)
  · exact Or.inr (by decide +kernel)
  · exact Or.inr (by decide +kernel)
  · exact Or.inl rfl
theorem ok_38 : am_ok1 38 := pg_Reader_kind
theorem pg_Reader_fail : ∀ pc, k_Reader_fail pc = [] ∨ am_chk (am_Lk 3) (decide ("fail" = "<init>")) none am_tf am_Ms prog_5_method_4_code pc (k_Reader_fail pc) = true := by
  intro pc
  unfold k_Reader_fail
  split
  · exact Or.inr (by decide +kernel)
  · exact Or.inr (by decide +kernel)
  · exact Or.inr (by decide +kernel)
  · exact Or.inl rfl
theorem ok_39 : am_ok1 39 := pg_Reader_fail
theorem pg_Reader_failLate : ∀ pc, k_Reader_failLate pc = [] ∨ am_chk (am_Lk 3) (decide ("failLate" = "<init>")) none am_tf am_Ms prog_5_method_5_code pc (k_Reader_failLate pc) = true := by
  intro pc
  unfold k_Reader_failLate
  split
  · exact Or.inr (by decide +kernel)
  · exact Or.inr (by decide +kernel)
  · exact Or.inr (by decide +kernel)
  · exact Or.inl rfl
theorem ok_40 : am_ok1 40 := pg_Reader_failLate
theorem pg_Reader_take : ∀ pc, k_Reader_take pc = [] ∨ am_chk (am_Lk 3) (decide ("take" = "<init>")) none am_tf am_Ms prog_5_method_6_code pc (k_Reader_take pc) = true := by
  intro pc
  unfold k_Reader_take
  split
  · exact Or.inr (by decide +kernel)
  · exact Or.inr (by decide +kernel)
  · exact Or.inr (by decide +kernel)
  · exact Or.inr (by decide +kernel)
  · exact Or.inl rfl
theorem ok_41 : am_ok1 41 := pg_Reader_take
theorem pg_Reader_want : ∀ pc, k_Reader_want pc = [] ∨ am_chk (am_Lk 3) (decide ("want" = "<init>")) none am_tf am_Ms prog_5_method_7_code pc (k_Reader_want pc) = true := by
  intro pc
  unfold k_Reader_want
  split
  · exact Or.inr (by decide +kernel)
  · exact Or.inr (by decide +kernel)
  · exact Or.inr (by decide +kernel)
  · exact Or.inr (by decide +kernel)
  · exact Or.inr (by decide +kernel)
  · exact Or.inr (by decide +kernel)
  · exact Or.inl rfl
theorem ok_42 : am_ok1 42 := pg_Reader_want
theorem pg_Reader_wantNumber : ∀ pc, k_Reader_wantNumber pc = [] ∨ am_chk (am_Lk 3) (decide ("wantNumber" = "<init>")) (some .int) am_tf am_Ms prog_5_method_8_code pc (k_Reader_wantNumber pc) = true := by
  intro pc
  unfold k_Reader_wantNumber
  split
  · exact Or.inr (by decide +kernel)
  · exact Or.inr (by decide +kernel)
  · exact Or.inr (by decide +kernel)
  · exact Or.inr (by decide +kernel)
  · exact Or.inr (by decide +kernel)
  · exact Or.inr (by decide +kernel)
  · exact Or.inr (by decide +kernel)
  · exact Or.inr (by decide +kernel)
  · exact Or.inr (by decide +kernel)
  · exact Or.inl rfl
theorem ok_43 : am_ok1 43 := pg_Reader_wantNumber
theorem pg_Reader_readTell : ∀ pc, k_Reader_readTell pc = [] ∨ am_chk (am_Lk 3) (decide ("readTell" = "<init>")) none am_tf am_Ms prog_5_method_9_code pc (k_Reader_readTell pc) = true := by
  intro pc
  unfold k_Reader_readTell
  split
  · exact Or.inr (by decide +kernel)
  · exact Or.inr (by decide +kernel)
  · exact Or.inr (by decide +kernel)
  · exact Or.inr (by decide +kernel)
  · exact Or.inr (by decide +kernel)
  · exact Or.inr (by decide +kernel)
  · exact Or.inr (by decide +kernel)
  · exact Or.inr (by decide +kernel)
  · exact Or.inr (by decide +kernel)
  · exact Or.inr (by decide +kernel)
  · exact Or.inr (by decide +kernel)
  · exact Or.inr (by decide +kernel)
  · exact Or.inr (by decide +kernel)
  · exact Or.inr (by decide +kernel)
  · exact Or.inr (by decide +kernel)
  · exact Or.inr (by decide +kernel)
  · exact Or.inr (by decide +kernel)
  · exact Or.inr (by decide +kernel)
  · exact Or.inr (by decide +kernel)
  · exact Or.inl rfl
theorem ok_44 : am_ok1 44 := pg_Reader_readTell
theorem pg_Reader_readPilgrim : ∀ pc, k_Reader_readPilgrim pc = [] ∨ am_chk (am_Lk 3) (decide ("readPilgrim" = "<init>")) none am_tf am_Ms prog_5_method_10_code pc (k_Reader_readPilgrim pc) = true := by
  intro pc
  unfold k_Reader_readPilgrim
  split
  · exact Or.inr (by decide +kernel)
  · exact Or.inr (by decide +kernel)
  · exact Or.inr (by decide +kernel)
  · exact Or.inr (by decide +kernel)
  · exact Or.inr (by decide +kernel)
  · exact Or.inr (by decide +kernel)
  · exact Or.inr (by decide +kernel)
  · exact Or.inr (by decide +kernel)
  · exact Or.inr (by decide +kernel)
  · exact Or.inr (by decide +kernel)
  · exact Or.inr (by decide +kernel)
  · exact Or.inr (by decide +kernel)
  · exact Or.inr (by decide +kernel)
  · exact Or.inr (by decide +kernel)
  · exact Or.inr (by decide +kernel)
  · exact Or.inr (by decide +kernel)
  · exact Or.inr (by decide +kernel)
  · exact Or.inl rfl
theorem ok_45 : am_ok1 45 := pg_Reader_readPilgrim
theorem pg_Reader_wantName : ∀ pc, k_Reader_wantName pc = [] ∨ am_chk (am_Lk 3) (decide ("wantName" = "<init>")) (some .long) am_tf am_Ms prog_5_method_11_code pc (k_Reader_wantName pc) = true := by
  intro pc
  unfold k_Reader_wantName
  split
  · exact Or.inr (by decide +kernel)
  · exact Or.inr (by decide +kernel)
  · exact Or.inr (by decide +kernel)
  · exact Or.inr (by decide +kernel)
  · exact Or.inr (by decide +kernel)
  · exact Or.inr (by decide +kernel)
  · exact Or.inr (by decide +kernel)
  · exact Or.inr (by decide +kernel)
  · exact Or.inr (by decide +kernel)
  · exact Or.inl rfl
theorem ok_46 : am_ok1 46 := pg_Reader_wantName
theorem pg_Reader_isNameTold : ∀ pc, k_Reader_isNameTold pc = [] ∨ am_chk (am_Lk 3) (decide ("isNameTold" = "<init>")) (some .boolean) am_tf am_Ms prog_5_method_12_code pc (k_Reader_isNameTold pc) = true := by
  intro pc
  unfold k_Reader_isNameTold
  split
  · exact Or.inr (by decide +kernel)
  · exact Or.inr (by decide +kernel)
  · exact Or.inr (by decide +kernel)
  · exact Or.inr (by decide +kernel)
  · exact Or.inr (by decide +kernel)
  · exact Or.inr (by decide +kernel)
  · exact Or.inl rfl
theorem ok_47 : am_ok1 47 := pg_Reader_isNameTold
theorem pg_Reader_readLaw : ∀ pc, k_Reader_readLaw pc = [] ∨ am_chk (am_Lk 3) (decide ("readLaw" = "<init>")) none am_tf am_Ms prog_5_method_13_code pc (k_Reader_readLaw pc) = true := by
  intro pc
  unfold k_Reader_readLaw
  split
  · exact Or.inr (by decide +kernel)
  · exact Or.inr (by decide +kernel)
  · exact Or.inr (by decide +kernel)
  · exact Or.inr (by decide +kernel)
  · exact Or.inr (by decide +kernel)
  · exact Or.inr (by decide +kernel)
  · exact Or.inr (by decide +kernel)
  · exact Or.inr (by decide +kernel)
  · exact Or.inr (by decide +kernel)
  · exact Or.inr (by decide +kernel)
  · exact Or.inr (by decide +kernel)
  · exact Or.inr (by decide +kernel)
  · exact Or.inr (by decide +kernel)
  · exact Or.inr (by decide +kernel)
  · exact Or.inr (by decide +kernel)
  · exact Or.inr (by decide +kernel)
  · exact Or.inr (by decide +kernel)
  · exact Or.inr (by decide +kernel)
  · exact Or.inr (by decide +kernel)
  · exact Or.inr (by decide +kernel)
  · exact Or.inr (by decide +kernel)
  · exact Or.inr (by decide +kernel)
  · exact Or.inl rfl
theorem ok_48 : am_ok1 48 := pg_Reader_readLaw
theorem pg_Reader_readSum : ∀ pc, k_Reader_readSum pc = [] ∨ am_chk (am_Lk 3) (decide ("readSum" = "<init>")) none am_tf am_Ms prog_5_method_14_code pc (k_Reader_readSum pc) = true := by
  intro pc
  unfold k_Reader_readSum
  split
  · exact Or.inr (by decide +kernel)
  · exact Or.inr (by decide +kernel)
  · exact Or.inr (by decide +kernel)
  · exact Or.inr (by decide +kernel)
  · exact Or.inr (by decide +kernel)
  · exact Or.inr (by decide +kernel)
  · exact Or.inr (by decide +kernel)
  · exact Or.inr (by decide +kernel)
  · exact Or.inr (by decide +kernel)
  · exact Or.inr (by decide +kernel)
  · exact Or.inr (by decide +kernel)
  · exact Or.inr (by decide +kernel)
  · exact Or.inr (by decide +kernel)
  · exact Or.inr (by decide +kernel)
  · exact Or.inr (by decide +kernel)
  · exact Or.inr (by decide +kernel)
  · exact Or.inl rfl
theorem ok_49 : am_ok1 49 := pg_Reader_readSum
theorem pg_Reader_readProduct : ∀ pc, k_Reader_readProduct pc = [] ∨ am_chk (am_Lk 3) (decide ("readProduct" = "<init>")) none am_tf am_Ms prog_5_method_15_code pc (k_Reader_readProduct pc) = true := by
  intro pc
  unfold k_Reader_readProduct
  split
  · exact Or.inr (by decide +kernel)
  · exact Or.inr (by decide +kernel)
  · exact Or.inr (by decide +kernel)
  · exact Or.inr (by decide +kernel)
  · exact Or.inr (by decide +kernel)
  · exact Or.inr (by decide +kernel)
  · exact Or.inr (by decide +kernel)
  · exact Or.inr (by decide +kernel)
  · exact Or.inr (by decide +kernel)
  · exact Or.inr (by decide +kernel)
  · exact Or.inr (by decide +kernel)
  · exact Or.inr (by decide +kernel)
  · exact Or.inr (by decide +kernel)
  · exact Or.inr (by decide +kernel)
  · exact Or.inr (by decide +kernel)
  · exact Or.inr (by decide +kernel)
  · exact Or.inl rfl
theorem ok_50 : am_ok1 50 := pg_Reader_readProduct
theorem pg_Reader_readUnit : ∀ pc, k_Reader_readUnit pc = [] ∨ am_chk (am_Lk 3) (decide ("readUnit" = "<init>")) none am_tf am_Ms prog_5_method_16_code pc (k_Reader_readUnit pc) = true := by
  intro pc
  unfold k_Reader_readUnit
  split
  · exact Or.inr (by decide +kernel)
  · exact Or.inr (by decide +kernel)
  · exact Or.inr (by decide +kernel)
  · exact Or.inr (by decide +kernel)
  · exact Or.inr (by decide +kernel)
  · exact Or.inr (by decide +kernel)
  · exact Or.inr (by decide +kernel)
  · exact Or.inr (by decide +kernel)
  · exact Or.inr (by decide +kernel)
  · exact Or.inr (by decide +kernel)
  · exact Or.inr (by decide +kernel)
  · exact Or.inr (by decide +kernel)
  · exact Or.inr (by decide +kernel)
  · exact Or.inr (by decide +kernel)
  · exact Or.inr (by decide +kernel)
  · exact Or.inr (by decide +kernel)
  · exact Or.inr (by decide +kernel)
  · exact Or.inr (by decide +kernel)
  · exact Or.inr (by decide +kernel)
  · exact Or.inr (by decide +kernel)
  · exact Or.inl rfl
theorem ok_51 : am_ok1 51 := pg_Reader_readUnit
theorem pg_Stair_init : ∀ pc, k_Stair_init pc = [] ∨ am_chk (am_Lk 4) (decide ("<init>" = "<init>")) none am_tf am_Ms prog_6_method_1_code pc (k_Stair_init pc) = true := by
  intro pc
  unfold k_Stair_init
  split
  · exact Or.inr (by decide +kernel)
  · exact Or.inl rfl
theorem ok_52 : am_ok1 52 := pg_Stair_init
theorem pg_Stair_begin : ∀ pc, k_Stair_begin pc = [] ∨ am_chk (am_Lk 4) (decide ("begin" = "<init>")) none am_tf am_Ms prog_6_method_2_code pc (k_Stair_begin pc) = true := by
  intro pc
  unfold k_Stair_begin
  split
  · exact Or.inr (by decide +kernel)
  · exact Or.inr (by decide +kernel)
  · exact Or.inr (by decide +kernel)
  · exact Or.inr (by decide +kernel)
  · exact Or.inr (by decide +kernel)
  · exact Or.inr (by decide +kernel)
  · exact Or.inl rfl
theorem ok_53 : am_ok1 53 := pg_Stair_begin
theorem pg_Stair_copyFrom : ∀ pc, k_Stair_copyFrom pc = [] ∨ am_chk (am_Lk 4) (decide ("copyFrom" = "<init>")) none am_tf am_Ms prog_6_method_3_code pc (k_Stair_copyFrom pc) = true := by
  intro pc
  unfold k_Stair_copyFrom
  split
  · exact Or.inr (by decide +kernel)
  · exact Or.inr (by decide +kernel)
  · exact Or.inr (by decide +kernel)
  · exact Or.inr (by decide +kernel)
  · exact Or.inl rfl
theorem ok_54 : am_ok1 54 := pg_Stair_copyFrom
theorem pg_Stair_isOn : ∀ pc, k_Stair_isOn pc = [] ∨ am_chk (am_Lk 4) (decide ("isOn" = "<init>")) (some .boolean) am_tf am_Ms prog_6_method_4_code pc (k_Stair_isOn pc) = true := by
  intro pc
  unfold k_Stair_isOn
  split
  · exact Or.inr (by decide +kernel)
  · exact Or.inr (by decide +kernel)
  · exact Or.inr (by decide +kernel)
  · exact Or.inr (by decide +kernel)
  · exact Or.inl rfl
theorem ok_55 : am_ok1 55 := pg_Stair_isOn
theorem pg_Stair_mayKneel : ∀ pc, k_Stair_mayKneel pc = [] ∨ am_chk (am_Lk 4) (decide ("mayKneel" = "<init>")) (some .boolean) am_tf am_Ms prog_6_method_5_code pc (k_Stair_mayKneel pc) = true := by
  intro pc
  unfold k_Stair_mayKneel
  split
  · exact Or.inr (by decide +kernel)
  · exact Or.inr (by decide +kernel)
  · exact Or.inr (by decide +kernel)
  · exact Or.inr (by decide +kernel)
  · exact Or.inr (by decide +kernel)
  · exact Or.inr (by decide +kernel)
  · exact Or.inl rfl
theorem ok_56 : am_ok1 56 := pg_Stair_mayKneel
theorem pg_Stair_whoMayKneel : ∀ pc, k_Stair_whoMayKneel pc = [] ∨ am_chk (am_Lk 4) (decide ("whoMayKneel" = "<init>")) (some .int) am_tf am_Ms prog_6_method_6_code pc (k_Stair_whoMayKneel pc) = true := by
  intro pc
  unfold k_Stair_whoMayKneel
  split
  · exact Or.inr (by decide +kernel)
  · exact Or.inr (by decide +kernel)
  · exact Or.inr (by decide +kernel)
  · exact Or.inr (by decide +kernel)
  · exact Or.inr (by decide +kernel)
  · exact Or.inr (by decide +kernel)
  · exact Or.inr (by decide +kernel)
  · exact Or.inl rfl
theorem ok_57 : am_ok1 57 := pg_Stair_whoMayKneel
theorem pg_Stair_letKneelJust : ∀ pc, k_Stair_letKneelJust pc = [] ∨ am_chk (am_Lk 4) (decide ("letKneelJust" = "<init>")) none am_tf am_Ms prog_6_method_7_code pc (k_Stair_letKneelJust pc) = true := by
  intro pc
  unfold k_Stair_letKneelJust
  split
  · exact Or.inr (by decide +kernel)
  · exact Or.inr (by decide +kernel)
  · exact Or.inr (by decide +kernel)
  · exact Or.inr (by decide +kernel)
  · exact Or.inr (by decide +kernel)
  · exact Or.inr (by decide +kernel)
  · exact Or.inr (by decide +kernel)
  · exact Or.inl rfl
theorem ok_58 : am_ok1 58 := pg_Stair_letKneelJust
theorem pg_Stair_takeAway : ∀ pc, k_Stair_takeAway pc = [] ∨ am_chk (am_Lk 4) (decide ("takeAway" = "<init>")) none am_tf am_Ms prog_6_method_8_code pc (k_Stair_takeAway pc) = true := by
  intro pc
  unfold k_Stair_takeAway
  split
  · exact Or.inr (by decide +kernel)
  · exact Or.inr (by decide +kernel)
  · exact Or.inr (by decide +kernel)
  · exact Or.inr (by decide +kernel)
  · exact Or.inl rfl
theorem ok_59 : am_ok1 59 := pg_Stair_takeAway
