/-! printed by wip/whole/gen.py: names, tables of methods, links -/
def RX0 : String := "KneeStair$Forecast"
def TX0 : u_T := fun k => match k with
  | 0 => ("KneeStair$Forecast", "text", "LKneeStair$Text;", true)
  | 1 => ("KneeStair$Forecast", "now", "LKneeStair$Stair;", true)
  | 2 => ("KneeStair$Forecast", "trial", "LKneeStair$Stair;", true)
  | _ => ("KneeStair$Forecast", "gains", "[I", true)
def tyX0 : Nat → FieldType := fun k => match k with
  | 0 => .object "KneeStair$Text"
  | 1 => .object "KneeStair$Stair"
  | 2 => .object "KneeStair$Stair"
  | _ => .array .int
theorem nmX0 : ∀ a, a < 4 → ∀ b, b < 4 → a ≠ b → (TX0 a).2.1 ≠ (TX0 b).2.1 := by decide +kernel
theorem tyX0_ok : ∀ k, k < 4 → parseFieldDescriptor (TX0 k).2.2.1 = some (tyX0 k) := by decide +kernel
def RX1 : String := "KneeStair$Law"
def TX1 : u_T := fun k => match k with
  | 0 => ("KneeStair$Law", "code", "[I", true)
  | 1 => ("KneeStair$Law", "value", "[I", true)
  | 2 => ("KneeStair$Law", "length", "I", false)
  | 3 => ("KneeStair$Law", "seen", "[I", true)
  | _ => ("KneeStair$Law", "waiting", "[I", true)
def tyX1 : Nat → FieldType := fun k => match k with
  | 0 => .array .int
  | 1 => .array .int
  | 2 => .int
  | 3 => .array .int
  | _ => .array .int
theorem nmX1 : ∀ a, a < 5 → ∀ b, b < 5 → a ≠ b → (TX1 a).2.1 ≠ (TX1 b).2.1 := by decide +kernel
theorem tyX1_ok : ∀ k, k < 5 → parseFieldDescriptor (TX1 k).2.2.1 = some (tyX1 k) := by decide +kernel
def RX2 : String := "KneeStair$Past"
def TX2 : u_T := fun k => match k with
  | 0 => ("KneeStair$Past", "kept", "[LKneeStair$Stair;", true)
  | 1 => ("KneeStair$Past", "next", "I", false)
  | _ => ("KneeStair$Past", "size", "I", false)
def tyX2 : Nat → FieldType := fun k => match k with
  | 0 => .array (.object "KneeStair$Stair")
  | 1 => .int
  | _ => .int
theorem nmX2 : ∀ a, a < 3 → ∀ b, b < 3 → a ≠ b → (TX2 a).2.1 ≠ (TX2 b).2.1 := by decide +kernel
theorem tyX2_ok : ∀ k, k < 3 → parseFieldDescriptor (TX2 k).2.2.1 = some (tyX2 k) := by decide +kernel
def RX3 : String := "KneeStair$Reader"
def TX3 : u_T := fun k => match k with
  | 0 => ("KneeStair$Reader", "draft", "LKneeStair$Text;", true)
  | 1 => ("KneeStair$Reader", "place", "I", false)
  | 2 => ("KneeStair$Reader", "tokens", "LKneeStair$Tokens;", true)
  | 3 => ("KneeStair$Reader", "names", "[J", true)
  | 4 => ("KneeStair$Reader", "at", "I", false)
  | 5 => ("KneeStair$Reader", "fault", "I", false)
  | 6 => ("KneeStair$Reader", "lateFault", "I", false)
  | _ => ("KneeStair$Reader", "latePlace", "I", false)
def tyX3 : Nat → FieldType := fun k => match k with
  | 0 => .object "KneeStair$Text"
  | 1 => .int
  | 2 => .object "KneeStair$Tokens"
  | 3 => .array .long
  | 4 => .int
  | 5 => .int
  | 6 => .int
  | _ => .int
theorem nmX3 : ∀ a, a < 8 → ∀ b, b < 8 → a ≠ b → (TX3 a).2.1 ≠ (TX3 b).2.1 := by decide +kernel
theorem tyX3_ok : ∀ k, k < 8 → parseFieldDescriptor (TX3 k).2.2.1 = some (tyX3 k) := by decide +kernel
def RX4 : String := "KneeStair$Stair"
def TX4 : u_T := fun k => match k with
  | 0 => ("KneeStair$Stair", "text", "LKneeStair$Text;", true)
  | 1 => ("KneeStair$Stair", "step", "[I", true)
  | 2 => ("KneeStair$Stair", "kneels", "[Z", true)
  | 3 => ("KneeStair$Stair", "sore", "[I", true)
  | 4 => ("KneeStair$Stair", "borne", "[I", true)
  | 5 => ("KneeStair$Stair", "arrived", "[I", true)
  | 6 => ("KneeStair$Stair", "oil", "I", false)
  | 7 => ("KneeStair$Stair", "minute", "I", false)
  | 8 => ("KneeStair$Stair", "moved", "I", false)
  | _ => ("KneeStair$Stair", "doubtMore", "I", false)
def tyX4 : Nat → FieldType := fun k => match k with
  | 0 => .object "KneeStair$Text"
  | 1 => .array .int
  | 2 => .array .boolean
  | 3 => .array .int
  | 4 => .array .int
  | 5 => .array .int
  | 6 => .int
  | 7 => .int
  | 8 => .int
  | _ => .int
theorem nmX4 : ∀ a, a < 10 → ∀ b, b < 10 → a ≠ b → (TX4 a).2.1 ≠ (TX4 b).2.1 := by decide +kernel
theorem tyX4_ok : ∀ k, k < 10 → parseFieldDescriptor (TX4 k).2.2.1 = some (tyX4 k) := by decide +kernel
def RX5 : String := "KneeStair$Text"
def TX5 : u_T := fun k => match k with
  | 0 => ("KneeStair$Text", "top", "I", false)
  | 1 => ("KneeStair$Text", "oil", "I", false)
  | 2 => ("KneeStair$Text", "pilgrims", "I", false)
  | 3 => ("KneeStair$Text", "step", "[I", true)
  | 4 => ("KneeStair$Text", "knees", "[I", true)
  | 5 => ("KneeStair$Text", "doubt", "[I", true)
  | 6 => ("KneeStair$Text", "sorest", "[I", true)
  | 7 => ("KneeStair$Text", "wage", "[I", true)
  | 8 => ("KneeStair$Text", "kneels", "[Z", true)
  | 9 => ("KneeStair$Text", "moves", "LKneeStair$Law;", true)
  | _ => ("KneeStair$Text", "has", "LKneeStair$Law;", true)
def tyX5 : Nat → FieldType := fun k => match k with
  | 0 => .int
  | 1 => .int
  | 2 => .int
  | 3 => .array .int
  | 4 => .array .int
  | 5 => .array .int
  | 6 => .array .int
  | 7 => .array .int
  | 8 => .array .boolean
  | 9 => .object "KneeStair$Law"
  | _ => .object "KneeStair$Law"
theorem nmX5 : ∀ a, a < 11 → ∀ b, b < 11 → a ≠ b → (TX5 a).2.1 ≠ (TX5 b).2.1 := by decide +kernel
theorem tyX5_ok : ∀ k, k < 11 → parseFieldDescriptor (TX5 k).2.2.1 = some (tyX5 k) := by decide +kernel
def RX6 : String := "KneeStair$Tokens"
def TX6 : u_T := fun k => match k with
  | 0 => ("KneeStair$Tokens", "kind", "[I", true)
  | 1 => ("KneeStair$Tokens", "place", "[I", true)
  | _ => ("KneeStair$Tokens", "value", "[J", true)
def tyX6 : Nat → FieldType := fun k => match k with
  | 0 => .array .int
  | 1 => .array .int
  | _ => .array .long
theorem nmX6 : ∀ a, a < 3 → ∀ b, b < 3 → a ≠ b → (TX6 a).2.1 ≠ (TX6 b).2.1 := by decide +kernel
theorem tyX6_ok : ∀ k, k < 3 → parseFieldDescriptor (TX6 k).2.2.1 = some (tyX6 k) := by decide +kernel
def RX7 : String := "KneeStair$Witness"
def TX7 : u_T := fun k => match k with
  | 0 => ("KneeStair$Witness", "text", "LKneeStair$Text;", true)
  | 1 => ("KneeStair$Witness", "trial", "LKneeStair$Stair;", true)
  | 2 => ("KneeStair$Witness", "pilgrim", "[I", true)
  | 3 => ("KneeStair$Witness", "minute", "[I", true)
  | 4 => ("KneeStair$Witness", "step", "[I", true)
  | _ => ("KneeStair$Witness", "size", "I", false)
def tyX7 : Nat → FieldType := fun k => match k with
  | 0 => .object "KneeStair$Text"
  | 1 => .object "KneeStair$Stair"
  | 2 => .array .int
  | 3 => .array .int
  | 4 => .array .int
  | _ => .int
theorem nmX7 : ∀ a, a < 6 → ∀ b, b < 6 → a ≠ b → (TX7 a).2.1 ≠ (TX7 b).2.1 := by decide +kernel
theorem tyX7_ok : ∀ k, k < 6 → parseFieldDescriptor (TX7 k).2.2.1 = some (tyX7 k) := by decide +kernel
def RX8 : String := "KneeStair"
def TX8 : u_T := fun k => match k with
  | 0 => ("KneeStair", "tape", "[B", true)
  | 1 => ("KneeStair", "taped", "I", false)
  | 2 => ("KneeStair", "faultPlace", "I", false)
  | 3 => ("KneeStair", "reader", "LKneeStair$Reader;", true)
  | 4 => ("KneeStair", "text", "LKneeStair$Text;", true)
  | 5 => ("KneeStair", "now", "LKneeStair$Stair;", true)
  | 6 => ("KneeStair", "past", "LKneeStair$Past;", true)
  | 7 => ("KneeStair", "forecast", "LKneeStair$Forecast;", true)
  | 8 => ("KneeStair", "witness", "LKneeStair$Witness;", true)
  | 9 => ("KneeStair", "slots", "[LKneeStair$Stair;", true)
  | _ => ("KneeStair", "held", "[Z", true)
def tyX8 : Nat → FieldType := fun k => match k with
  | 0 => .array .byte
  | 1 => .int
  | 2 => .int
  | 3 => .object "KneeStair$Reader"
  | 4 => .object "KneeStair$Text"
  | 5 => .object "KneeStair$Stair"
  | 6 => .object "KneeStair$Past"
  | 7 => .object "KneeStair$Forecast"
  | 8 => .object "KneeStair$Witness"
  | 9 => .array (.object "KneeStair$Stair")
  | _ => .array .boolean
theorem nmX8 : ∀ a, a < 11 → ∀ b, b < 11 → a ≠ b → (TX8 a).2.1 ≠ (TX8 b).2.1 := by decide +kernel
theorem tyX8_ok : ∀ k, k < 11 → parseFieldDescriptor (TX8 k).2.2.1 = some (tyX8 k) := by decide +kernel
def RX9 : String := "KneeStairModel"
def TX9 : u_T := fun k => match k with
  | 0 => ("KneeStairModel", "thrown", "I", false)
  | 1 => ("KneeStairModel", "tape", "[B", true)
  | 2 => ("KneeStairModel", "taped", "I", false)
  | 3 => ("KneeStairModel", "text", "[B", true)
  | 4 => ("KneeStairModel", "size", "I", false)
  | 5 => ("KneeStairModel", "tKind", "[I", true)
  | 6 => ("KneeStairModel", "tPlace", "[I", true)
  | 7 => ("KneeStairModel", "tValue", "[I", true)
  | 8 => ("KneeStairModel", "tName", "[J", true)
  | 9 => ("KneeStairModel", "keys", "[J", true)
  | 10 => ("KneeStairModel", "tokens", "I", false)
  | 11 => ("KneeStairModel", "t", "I", false)
  | 12 => ("KneeStairModel", "open", "I", false)
  | 13 => ("KneeStairModel", "fault", "I", false)
  | 14 => ("KneeStairModel", "faultPlace", "I", false)
  | 15 => ("KneeStairModel", "worst", "I", false)
  | 16 => ("KneeStairModel", "worstPlace", "I", false)
  | 17 => ("KneeStairModel", "place", "I", false)
  | 18 => ("KneeStairModel", "live", "I", false)
  | 19 => ("KneeStairModel", "side", "I", false)
  | 20 => ("KneeStairModel", "names", "I", false)
  | 21 => ("KneeStairModel", "nameOf", "[J", true)
  | 22 => ("KneeStairModel", "top", "[I", true)
  | 23 => ("KneeStairModel", "pilgrims", "[I", true)
  | 24 => ("KneeStairModel", "stepTold", "[I", true)
  | 25 => ("KneeStairModel", "kneesOf", "[I", true)
  | 26 => ("KneeStairModel", "doubtOf", "[I", true)
  | 27 => ("KneeStairModel", "soreMost", "[I", true)
  | 28 => ("KneeStairModel", "wage", "[I", true)
  | 29 => ("KneeStairModel", "kneelsTold", "[Z", true)
  | 30 => ("KneeStairModel", "oilTold", "[I", true)
  | 31 => ("KneeStairModel", "lawFirst", "[I", true)
  | 32 => ("KneeStairModel", "lawLast", "[I", true)
  | 33 => ("KneeStairModel", "branches", "I", false)
  | 34 => ("KneeStairModel", "hasTest", "[Z", true)
  | 35 => ("KneeStairModel", "testFrom", "[I", true)
  | 36 => ("KneeStairModel", "testMid", "[I", true)
  | 37 => ("KneeStairModel", "testTo", "[I", true)
  | 38 => ("KneeStairModel", "termTo", "[I", true)
  | 39 => ("KneeStairModel", "codes", "I", false)
  | 40 => ("KneeStairModel", "code", "[I", true)
  | 41 => ("KneeStairModel", "codeInt", "[I", true)
  | 42 => ("KneeStairModel", "waits", "[I", true)
  | 43 => ("KneeStairModel", "waiting", "I", false)
  | 44 => ("KneeStairModel", "variables", "[I", true)
  | 45 => ("KneeStairModel", "pile", "[I", true)
  | 46 => ("KneeStairModel", "isBroken", "Z", false)
  | 47 => ("KneeStairModel", "now", "[I", true)
  | 48 => ("KneeStairModel", "row", "[I", true)
  | 49 => ("KneeStairModel", "noOne", "I", false)
  | 50 => ("KneeStairModel", "moreDoubt", "I", false)
  | 51 => ("KneeStairModel", "undos", "I", false)
  | 52 => ("KneeStairModel", "history", "[I", true)
  | 53 => ("KneeStairModel", "hasBy", "[I", true)
  | 54 => ("KneeStairModel", "maySet", "[Z", true)
  | 55 => ("KneeStairModel", "told", "I", false)
  | 56 => ("KneeStairModel", "toldPilgrim", "[I", true)
  | 57 => ("KneeStairModel", "toldMinute", "[I", true)
  | 58 => ("KneeStairModel", "toldStep", "[I", true)
  | 59 => ("KneeStairModel", "isHeld", "[Z", true)
  | _ => ("KneeStairModel", "held", "[I", true)
def tyX9 : Nat → FieldType := fun k => match k with
  | 0 => .int
  | 1 => .array .byte
  | 2 => .int
  | 3 => .array .byte
  | 4 => .int
  | 5 => .array .int
  | 6 => .array .int
  | 7 => .array .int
  | 8 => .array .long
  | 9 => .array .long
  | 10 => .int
  | 11 => .int
  | 12 => .int
  | 13 => .int
  | 14 => .int
  | 15 => .int
  | 16 => .int
  | 17 => .int
  | 18 => .int
  | 19 => .int
  | 20 => .int
  | 21 => .array .long
  | 22 => .array .int
  | 23 => .array .int
  | 24 => .array .int
  | 25 => .array .int
  | 26 => .array .int
  | 27 => .array .int
  | 28 => .array .int
  | 29 => .array .boolean
  | 30 => .array .int
  | 31 => .array .int
  | 32 => .array .int
  | 33 => .int
  | 34 => .array .boolean
  | 35 => .array .int
  | 36 => .array .int
  | 37 => .array .int
  | 38 => .array .int
  | 39 => .int
  | 40 => .array .int
  | 41 => .array .int
  | 42 => .array .int
  | 43 => .int
  | 44 => .array .int
  | 45 => .array .int
  | 46 => .boolean
  | 47 => .array .int
  | 48 => .array .int
  | 49 => .int
  | 50 => .int
  | 51 => .int
  | 52 => .array .int
  | 53 => .array .int
  | 54 => .array .boolean
  | 55 => .int
  | 56 => .array .int
  | 57 => .array .int
  | 58 => .array .int
  | 59 => .array .boolean
  | _ => .array .int
theorem nmX9 : ∀ a, a < 61 → ∀ b, b < 61 → a ≠ b → (TX9 a).2.1 ≠ (TX9 b).2.1 := by decide +kernel
theorem tyX9_ok : ∀ k, k < 61 → parseFieldDescriptor (TX9 k).2.2.1 = some (tyX9 k) := by decide +kernel
abbrev vwCl : List vw_C := [(RX0, TX0, 4), (RX1, TX1, 5), (RX2, TX2, 3), (RX3, TX3, 8), (RX4, TX4, 10), (RX5, TX5, 11), (RX6, TX6, 3), (RX7, TX7, 6), (RX8, TX8, 11), (RX9, TX9, 61)]
def am_nf : Nat → Nat
  | 0 => 4
  | 1 => 5
  | 2 => 3
  | 3 => 8
  | 4 => 10
  | 5 => 11
  | 6 => 3
  | 7 => 6
  | 8 => 11
  | 9 => 61
  | _ => 0
def am_tf : Nat → Nat → FieldType
  | 0 => tyX0
  | 1 => tyX1
  | 2 => tyX2
  | 3 => tyX3
  | 4 => tyX4
  | 5 => tyX5
  | 6 => tyX6
  | 7 => tyX7
  | 8 => tyX8
  | 9 => tyX9
  | _ => fun _ => .int
/-- the words that a callee may take over -/
def am_T : List Cond := lw_tbl.filter goodWord
def am_ML : List am_M := [
  (⟨RX0, "<init>", "(LKneeStair$Text;LKneeStair$Stair;)V"⟩, prog_2_method_1_code, 3, none, 2, 0),
  (⟨RX0, "arrivesBehind", "(I)I"⟩, prog_2_method_2_code, 2, (some .int), 1, 0),
  (⟨RX0, "arrivalBehind", "(IIII)I"⟩, prog_2_method_3_code, 6, (some .int), 4, 0),
  (⟨RX0, "stillBehind", "()I"⟩, prog_2_method_4_code, 2, (some .int), 0, 0),
  (⟨RX0, "highestOf", "(II)I"⟩, prog_2_method_5_code, 5, (some .int), 2, 0),
  (⟨RX0, "firstToArrive", "(I)I"⟩, prog_2_method_6_code, 4, (some .int), 1, 0),
  (⟨RX0, "meansOf", "(III)I"⟩, prog_2_method_7_code, 5, (some .int), 3, 0),
  (⟨RX0, "leastOil", "(II)I"⟩, prog_2_method_8_code, 5, (some .int), 2, 0),
  (⟨RX0, "greatestDoubt", "(II)I"⟩, prog_2_method_9_code, 5, (some .int), 2, 0),
  (⟨RX0, "bestStartOf", "(III)I"⟩, prog_2_method_10_code, 8, (some .int), 3, 0),
  (⟨RX0, "stepKneelingFrom", "(III)I"⟩, prog_2_method_11_code, 4, (some .int), 3, 0),
  (⟨RX0, "meetBehind", "(II)I"⟩, prog_2_method_12_code, 4, (some .int), 2, 0),
  (⟨RX0, "lowestIn", "(I)I"⟩, prog_2_method_13_code, 5, (some .int), 1, 0),
  (⟨RX0, "tryKneelers", "(II)V"⟩, prog_2_method_14_code, 3, none, 2, 0),
  (⟨RX0, "bestPair", "(II)I"⟩, prog_2_method_15_code, 8, (some .int), 2, 0),
  (⟨RX0, "allSteps", "()I"⟩, prog_2_method_16_code, 3, (some .int), 0, 0),
  (⟨RX0, "bestExchange", "(III)I"⟩, prog_2_method_17_code, 9, (some .int), 3, 0),
  (⟨RX0, "stepWithExchange", "(IIII)I"⟩, prog_2_method_18_code, 5, (some .int), 4, 0),
  (⟨RX0, "cheapestKneelers", "(III)I"⟩, prog_2_method_19_code, 9, (some .int), 3, 0),
  (⟨RX0, "isCheaper", "(II)Z"⟩, prog_2_method_20_code, 6, (some .boolean), 2, 0),
  (⟨RX0, "sumOf", "([II)I"⟩, prog_2_method_21_code, 5, (some .int), 2, 0),
  (⟨RX0, "restingSets", "(II)I"⟩, prog_2_method_22_code, 6, (some .int), 2, 0),
  (⟨RX0, "isRest", "(II)Z"⟩, prog_2_method_23_code, 6, (some .boolean), 2, 0),
  (⟨RX1, "<init>", "()V"⟩, prog_3_method_1_code, 1, none, 0, 1),
  (⟨RX1, "clear", "()V"⟩, prog_3_method_2_code, 1, none, 0, 1),
  (⟨RX1, "put", "(II)I"⟩, prog_3_method_3_code, 3, (some .int), 2, 1),
  (⟨RX1, "skipToHere", "(I)V"⟩, prog_3_method_4_code, 2, none, 1, 1),
  (⟨RX1, "looksAt", "(I)Z"⟩, prog_3_method_5_code, 3, (some .boolean), 1, 1),
  (⟨RX1, "copyFrom", "(LKneeStair$Law;)V"⟩, prog_3_method_6_code, 2, none, 1, 1),
  (⟨RX1, "tellsNow", "()I"⟩, prog_3_method_7_code, 6, (some .int), 0, 1),
  (⟨RX1, "varSeen", "(I)I"⟩, prog_3_method_8_code, 2, (some .int), 1, 1),
  (⟨RX1, "reckon", "(III)I"⟩, prog_3_method_9_code, 3, (some .int), 3, 1),
  (⟨RX2, "<init>", "(LKneeStair$Text;)V"⟩, prog_4_method_1_code, 3, none, 1, 2),
  (⟨RX2, "clear", "()V"⟩, prog_4_method_2_code, 1, none, 0, 2),
  (⟨RX2, "keep", "(LKneeStair$Stair;)V"⟩, prog_4_method_3_code, 2, none, 1, 2),
  (⟨RX2, "giveBack", "(LKneeStair$Stair;)Z"⟩, prog_4_method_4_code, 2, (some .boolean), 1, 2),
  (⟨RX3, "<init>", "()V"⟩, prog_5_method_1_code, 1, none, 0, 3),
  (⟨RX3, "readTape", "([BI)I"⟩, prog_5_method_2_code, 4, (some .int), 2, 3),
  (⟨RX3, "kind", "()I"⟩, prog_5_method_3_code, 1, (some .int), 0, 3),
  (⟨RX3, "fail", "(I)V"⟩, prog_5_method_4_code, 2, none, 1, 3),
  (⟨RX3, "failLate", "(I)V"⟩, prog_5_method_5_code, 2, none, 1, 3),
  (⟨RX3, "take", "()V"⟩, prog_5_method_6_code, 1, none, 0, 3),
  (⟨RX3, "want", "(I)V"⟩, prog_5_method_7_code, 2, none, 1, 3),
  (⟨RX3, "wantNumber", "(II)I"⟩, prog_5_method_8_code, 4, (some .int), 2, 3),
  (⟨RX3, "readTell", "()V"⟩, prog_5_method_9_code, 1, none, 0, 3),
  (⟨RX3, "readPilgrim", "()V"⟩, prog_5_method_10_code, 2, none, 0, 3),
  (⟨RX3, "wantName", "()J"⟩, prog_5_method_11_code, 3, (some .long), 0, 3),
  (⟨RX3, "isNameTold", "(J)Z"⟩, prog_5_method_12_code, 4, (some .boolean), 1, 3),
  (⟨RX3, "readLaw", "(LKneeStair$Law;)V"⟩, prog_5_method_13_code, 4, none, 1, 3),
  (⟨RX3, "readSum", "(LKneeStair$Law;I)V"⟩, prog_5_method_14_code, 5, none, 2, 3),
  (⟨RX3, "readProduct", "(LKneeStair$Law;I)V"⟩, prog_5_method_15_code, 5, none, 2, 3),
  (⟨RX3, "readUnit", "(LKneeStair$Law;I)V"⟩, prog_5_method_16_code, 4, none, 2, 3),
  (⟨RX4, "<init>", "(LKneeStair$Text;)V"⟩, prog_6_method_1_code, 2, none, 1, 4),
  (⟨RX4, "begin", "()V"⟩, prog_6_method_2_code, 2, none, 0, 4),
  (⟨RX4, "copyFrom", "(LKneeStair$Stair;)V"⟩, prog_6_method_3_code, 3, none, 1, 4),
  (⟨RX4, "isOn", "(I)Z"⟩, prog_6_method_4_code, 2, (some .boolean), 1, 4),
  (⟨RX4, "mayKneel", "(I)Z"⟩, prog_6_method_5_code, 2, (some .boolean), 1, 4),
  (⟨RX4, "whoMayKneel", "()I"⟩, prog_6_method_6_code, 3, (some .int), 0, 4),
  (⟨RX4, "letKneelJust", "(I)V"⟩, prog_6_method_7_code, 3, none, 1, 4),
  (⟨RX4, "takeAway", "(I)V"⟩, prog_6_method_8_code, 2, none, 1, 4),
  (⟨RX4, "howManyArrived", "()I"⟩, prog_6_method_9_code, 3, (some .int), 0, 4),
  (⟨RX4, "howManyKneel", "()I"⟩, prog_6_method_10_code, 3, (some .int), 0, 4),
  (⟨RX4, "movesNow", "()I"⟩, prog_6_method_11_code, 2, (some .int), 0, 4),
  (⟨RX4, "hasNow", "(I)I"⟩, prog_6_method_12_code, 3, (some .int), 1, 4),
  (⟨RX4, "heldTo", "(II)I"⟩, prog_6_method_13_code, 2, (some .int), 2, 4),
  (⟨RX4, "lookAround", "([I)V"⟩, prog_6_method_14_code, 6, none, 1, 4),
  (⟨RX4, "pass", "(I)V"⟩, prog_6_method_15_code, 5, none, 1, 4),
  (⟨RX4, "carry", "(II)V"⟩, prog_6_method_16_code, 3, none, 2, 4),
  (⟨RX4, "arriveIn", "(II)V"⟩, prog_6_method_17_code, 3, none, 2, 4),
  (⟨RX5, "<init>", "()V"⟩, prog_7_method_1_code, 1, none, 0, 5),
  (⟨RX5, "clear", "()V"⟩, prog_7_method_2_code, 1, none, 0, 5),
  (⟨RX5, "copyFrom", "(LKneeStair$Text;)V"⟩, prog_7_method_3_code, 3, none, 1, 5),
  (⟨RX6, "<init>", "()V"⟩, prog_8_method_1_code, 1, none, 0, 6),
  (⟨RX6, "scan", "([BI)V"⟩, prog_8_method_2_code, 5, none, 2, 6),
  (⟨RX6, "behindBlanks", "([BII)I"⟩, prog_8_method_3_code, 4, (some .int), 3, 6),
  (⟨RX6, "scanToken", "(I[BII)I"⟩, prog_8_method_4_code, 7, (some .int), 4, 6),
  (⟨RX6, "scanLetters", "(I[BII)I"⟩, prog_8_method_5_code, 8, (some .int), 4, 6),
  (⟨RX6, "scanDigits", "(I[BII)I"⟩, prog_8_method_6_code, 8, (some .int), 4, 6),
  (⟨RX6, "wordKind", "([BII)I"⟩, prog_8_method_7_code, 4, (some .int), 3, 6),
  (⟨RX6, "isWord", "(I[BII)Z"⟩, prog_8_method_8_code, 6, (some .boolean), 4, 6),
  (⟨RX6, "isBlank", "(B)Z"⟩, prog_8_method_9_code, 1, (some .boolean), 1, 6),
  (⟨RX6, "isLetter", "(B)Z"⟩, prog_8_method_10_code, 1, (some .boolean), 1, 6),
  (⟨RX6, "isDigit", "(B)Z"⟩, prog_8_method_11_code, 1, (some .boolean), 1, 6),
  (⟨RX7, "<init>", "(LKneeStair$Text;)V"⟩, prog_9_method_1_code, 2, none, 1, 7),
  (⟨RX7, "clear", "()V"⟩, prog_9_method_2_code, 1, none, 0, 7),
  (⟨RX7, "add", "(III)I"⟩, prog_9_method_3_code, 4, (some .int), 3, 7),
  (⟨RX7, "lastMinute", "(I)I"⟩, prog_9_method_4_code, 4, (some .int), 1, 7),
  (⟨RX7, "firstNotSo", "(I)I"⟩, prog_9_method_5_code, 6, (some .int), 1, 7),
  (⟨RX7, "firstNotSoBehind", "(II)I"⟩, prog_9_method_6_code, 4, (some .int), 2, 7),
  (⟨RX7, "waysToRise", "(II)I"⟩, prog_9_method_7_code, 8, (some .int), 2, 7),
  (⟨RX7, "isAllSo", "(IIII)Z"⟩, prog_9_method_8_code, 6, (some .boolean), 4, 7),
  (⟨RX8, "<init>", "()V"⟩, prog_1_method_1_code, 2, none, 0, 8),
  (⟨RX8, "feed", "(IIIII)I"⟩, prog_1_method_2_code, 6, (some .int), 5, 8),
  (⟨RX8, "putWord", "(I)V"⟩, prog_1_method_3_code, 3, none, 1, 8),
  (⟨RX8, "back", "(I)I"⟩, prog_1_method_4_code, 2, (some .int), 1, 8),
  (⟨RX8, "read", "()I"⟩, prog_1_method_5_code, 2, (some .int), 0, 8),
  (⟨RX8, "emptySlots", "()V"⟩, prog_1_method_6_code, 2, none, 0, 8),
  (⟨RX8, "place", "()I"⟩, prog_1_method_7_code, 1, (some .int), 0, 8),
  (⟨RX8, "pilgrim", "(II)I"⟩, prog_1_method_8_code, 3, (some .int), 2, 8),
  (⟨RX8, "moves", "()I"⟩, prog_1_method_9_code, 1, (some .int), 0, 8),
  (⟨RX8, "most", "(I)I"⟩, prog_1_method_10_code, 4, (some .int), 1, 8),
  (⟨RX8, "rank", "(I)I"⟩, prog_1_method_11_code, 5, (some .int), 1, 8),
  (⟨RX8, "share", "(IZ)I"⟩, prog_1_method_12_code, 5, (some .int), 2, 8),
  (⟨RX8, "commonDivisor", "(II)I"⟩, prog_1_method_13_code, 6, (some .int), 2, 8),
  (⟨RX8, "there", "(I)I"⟩, prog_1_method_14_code, 4, (some .int), 1, 8),
  (⟨RX8, "count", "(I)I"⟩, prog_1_method_15_code, 2, (some .int), 1, 8),
  (⟨RX8, "howManyHeld", "()I"⟩, prog_1_method_16_code, 3, (some .int), 0, 8),
  (⟨RX8, "kneel", "(I)Z"⟩, prog_1_method_17_code, 2, (some .boolean), 1, 8),
  (⟨RX8, "rise", "(I)Z"⟩, prog_1_method_18_code, 2, (some .boolean), 1, 8),
  (⟨RX8, "board", "(I)Z"⟩, prog_1_method_19_code, 2, (some .boolean), 1, 8),
  (⟨RX8, "oil", "(I)I"⟩, prog_1_method_20_code, 2, (some .int), 1, 8),
  (⟨RX8, "run", "(I)I"⟩, prog_1_method_21_code, 2, (some .int), 1, 8),
  (⟨RX8, "undo", "()Z"⟩, prog_1_method_22_code, 1, (some .boolean), 0, 8),
  (⟨RX8, "hold", "(I)Z"⟩, prog_1_method_23_code, 2, (some .boolean), 1, 8),
  (⟨RX8, "restore", "(I)Z"⟩, prog_1_method_24_code, 2, (some .boolean), 1, 8),
  (⟨RX8, "arrives", "(I)I"⟩, prog_1_method_25_code, 2, (some .int), 1, 8),
  (⟨RX8, "still", "()I"⟩, prog_1_method_26_code, 1, (some .int), 0, 8),
  (⟨RX8, "highest", "(II)I"⟩, prog_1_method_27_code, 3, (some .int), 2, 8),
  (⟨RX8, "first", "(I)I"⟩, prog_1_method_28_code, 2, (some .int), 1, 8),
  (⟨RX8, "means", "(III)I"⟩, prog_1_method_29_code, 4, (some .int), 3, 8),
  (⟨RX8, "oiled", "(II)I"⟩, prog_1_method_30_code, 3, (some .int), 2, 8),
  (⟨RX8, "doubted", "(II)I"⟩, prog_1_method_31_code, 3, (some .int), 2, 8),
  (⟨RX8, "bestStart", "(III)I"⟩, prog_1_method_32_code, 4, (some .int), 3, 8),
  (⟨RX8, "meet", "(II)I"⟩, prog_1_method_33_code, 3, (some .int), 2, 8),
  (⟨RX8, "lowest", "(I)I"⟩, prog_1_method_34_code, 2, (some .int), 1, 8),
  (⟨RX8, "bestTwo", "(II)I"⟩, prog_1_method_35_code, 3, (some .int), 2, 8),
  (⟨RX8, "exchange", "(III)I"⟩, prog_1_method_36_code, 4, (some .int), 3, 8),
  (⟨RX8, "kneelers", "(III)I"⟩, prog_1_method_37_code, 4, (some .int), 3, 8),
  (⟨RX8, "rests", "(II)I"⟩, prog_1_method_38_code, 3, (some .int), 2, 8),
  (⟨RX8, "tell", "(III)I"⟩, prog_1_method_39_code, 6, (some .int), 3, 8),
  (⟨RX8, "forget", "()I"⟩, prog_1_method_40_code, 2, (some .int), 0, 8),
  (⟨RX8, "secret", "(II)I"⟩, prog_1_method_41_code, 3, (some .int), 2, 8),
  (⟨RX8, "off", "(I)I"⟩, prog_1_method_42_code, 2, (some .int), 1, 8),
  (⟨RX8, "isPilgrim", "(I)Z"⟩, prog_1_method_43_code, 2, (some .boolean), 1, 8),
  (⟨RX8, "isSpan", "(I)Z"⟩, prog_1_method_44_code, 1, (some .boolean), 1, 8),
  (⟨RX8, "isOneOfTwo", "(I)Z"⟩, prog_1_method_45_code, 1, (some .boolean), 1, 8),
  (⟨RX9, "<init>", "()V"⟩, prog_11_method_2_code, 1, none, 0, 9),
  (⟨RX9, "feed", "(IIIII)I"⟩, prog_11_method_3_code, 6, (some .int), 5, 9),
  (⟨RX9, "put", "(I)V"⟩, prog_11_method_4_code, 3, none, 1, 9),
  (⟨RX9, "back", "(I)I"⟩, prog_11_method_5_code, 2, (some .int), 1, 9),
  (⟨RX9, "byteAt", "(I)I"⟩, prog_11_method_6_code, 2, (some .int), 1, 9),
  (⟨RX9, "isDigit", "(I)Z"⟩, prog_11_method_7_code, 1, (some .boolean), 1, 9),
  (⟨RX9, "isLetter", "(I)Z"⟩, prog_11_method_8_code, 1, (some .boolean), 1, 9),
  (⟨RX9, "appends", "(JI)J"⟩, prog_11_method_9_code, 3, (some .long), 2, 9),
  (⟨RX9, "word", "(IIIIIII)J"⟩, prog_11_method_10_code, 7, (some .long), 7, 9),
  (⟨RX9, "token", "(IIIJ)V"⟩, prog_11_method_11_code, 6, none, 4, 9),
  (⟨RX9, "cut", "()V"⟩, prog_11_method_12_code, 8, none, 0, 9),
  (⟨RX9, "sign", "(III)I"⟩, prog_11_method_13_code, 5, (some .int), 3, 9),
  (⟨RX9, "is", "(I)Z"⟩, prog_11_method_14_code, 2, (some .boolean), 1, 9),
  (⟨RX9, "fail", "(I)V"⟩, prog_11_method_15_code, 2, none, 1, 9),
  (⟨RX9, "wrong", "(II)V"⟩, prog_11_method_16_code, 4, none, 2, 9),
  (⟨RX9, "goesOn", "()V"⟩, prog_11_method_17_code, 1, none, 0, 9),
  (⟨RX9, "must", "(I)V"⟩, prog_11_method_18_code, 2, none, 1, 9),
  (⟨RX9, "plain", "(I)V"⟩, prog_11_method_19_code, 3, none, 1, 9),
  (⟨RX9, "read", "()I"⟩, prog_11_method_20_code, 2, (some .int), 0, 9),
  (⟨RX9, "place", "()I"⟩, prog_11_method_21_code, 1, (some .int), 0, 9),
  (⟨RX9, "tell", "()V"⟩, prog_11_method_22_code, 2, none, 0, 9),
  (⟨RX9, "bounded", "(II)I"⟩, prog_11_method_23_code, 4, (some .int), 2, 9),
  (⟨RX9, "tellPilgrim", "()V"⟩, prog_11_method_24_code, 4, none, 0, 9),
  (⟨RX9, "tellLaw", "(I)V"⟩, prog_11_method_25_code, 4, none, 1, 9),
  (⟨RX9, "term", "()V"⟩, prog_11_method_26_code, 1, none, 0, 9),
  (⟨RX9, "emit", "(II)V"⟩, prog_11_method_27_code, 3, none, 2, 9),
  (⟨RX9, "comesOut", "(Z)V"⟩, prog_11_method_28_code, 3, none, 1, 9),
  (⟨RX9, "expression", "()V"⟩, prog_11_method_29_code, 3, none, 0, 9),
  (⟨RX9, "unit", "()V"⟩, prog_11_method_30_code, 1, none, 0, 9),
  (⟨RX9, "termOf", "(II)I"⟩, prog_11_method_31_code, 8, (some .int), 2, 9),
  (⟨RX9, "in", "(III)Z"⟩, prog_11_method_32_code, 3, (some .boolean), 3, 9),
  (⟨RX9, "isPilgrim", "(I)Z"⟩, prog_11_method_33_code, 2, (some .boolean), 1, 9),
  (⟨RX9, "plainly", "()V"⟩, prog_11_method_34_code, 1, none, 0, 9),
  (⟨RX9, "begins", "()V"⟩, prog_11_method_35_code, 4, none, 0, 9),
  (⟨RX9, "copies", "()V"⟩, prog_11_method_36_code, 2, none, 0, 9),
  (⟨RX9, "isOn", "(I)Z"⟩, prog_11_method_37_code, 2, (some .boolean), 1, 9),
  (⟨RX9, "onAll", "()I"⟩, prog_11_method_38_code, 3, (some .int), 0, 9),
  (⟨RX9, "mayKneel", "(I)Z"⟩, prog_11_method_39_code, 2, (some .boolean), 1, 9),
  (⟨RX9, "tells", "(IIII)I"⟩, prog_11_method_40_code, 9, (some .int), 4, 9),
  (⟨RX9, "setsOf", "(III)V"⟩, prog_11_method_41_code, 5, none, 3, 9),
  (⟨RX9, "movesNow", "()I"⟩, prog_11_method_42_code, 1, (some .int), 0, 9),
  (⟨RX9, "hasOf", "(I)I"⟩, prog_11_method_43_code, 2, (some .int), 1, 9),
  (⟨RX9, "minuteGoes", "()V"⟩, prog_11_method_44_code, 3, none, 0, 9),
  (⟨RX9, "soresOf", "(I)V"⟩, prog_11_method_45_code, 2, none, 1, 9),
  (⟨RX9, "goes", "(I)V"⟩, prog_11_method_46_code, 3, none, 1, 9),
  (⟨RX9, "pilgrim", "(II)I"⟩, prog_11_method_47_code, 3, (some .int), 2, 9),
  (⟨RX9, "moves", "()I"⟩, prog_11_method_48_code, 1, (some .int), 0, 9),
  (⟨RX9, "keeps", "()V"⟩, prog_11_method_49_code, 2, none, 0, 9),
  (⟨RX9, "kneel", "(I)Z"⟩, prog_11_method_50_code, 2, (some .boolean), 1, 9),
  (⟨RX9, "rise", "(I)Z"⟩, prog_11_method_51_code, 2, (some .boolean), 1, 9),
  (⟨RX9, "board", "(I)Z"⟩, prog_11_method_52_code, 2, (some .boolean), 1, 9),
  (⟨RX9, "oil", "(I)I"⟩, prog_11_method_53_code, 2, (some .int), 1, 9),
  (⟨RX9, "run", "(I)I"⟩, prog_11_method_54_code, 2, (some .int), 1, 9),
  (⟨RX9, "undo", "()Z"⟩, prog_11_method_55_code, 2, (some .boolean), 0, 9),
  (⟨RX9, "arrives", "(I)I"⟩, prog_11_method_56_code, 3, (some .int), 1, 9),
  (⟨RX9, "still", "()I"⟩, prog_11_method_57_code, 2, (some .int), 0, 9),
  (⟨RX9, "highest", "(II)I"⟩, prog_11_method_58_code, 5, (some .int), 2, 9),
  (⟨RX9, "first", "(I)I"⟩, prog_11_method_59_code, 4, (some .int), 1, 9),
  (⟨RX9, "means", "(III)I"⟩, prog_11_method_60_code, 5, (some .int), 3, 9),
  (⟨RX9, "isThereBy", "(IIII)Z"⟩, prog_11_method_61_code, 6, (some .boolean), 4, 9),
  (⟨RX9, "oiled", "(II)I"⟩, prog_11_method_62_code, 4, (some .int), 2, 9),
  (⟨RX9, "doubted", "(II)I"⟩, prog_11_method_63_code, 4, (some .int), 2, 9),
  (⟨RX9, "bestStart", "(III)I"⟩, prog_11_method_64_code, 7, (some .int), 3, 9),
  (⟨RX9, "meet", "(II)I"⟩, prog_11_method_65_code, 4, (some .int), 2, 9),
  (⟨RX9, "most", "(I)I"⟩, prog_11_method_66_code, 4, (some .int), 1, 9),
  (⟨RX9, "lowest", "(I)I"⟩, prog_11_method_67_code, 5, (some .int), 1, 9),
  (⟨RX9, "kneelsBy", "(I)Z"⟩, prog_11_method_68_code, 4, (some .boolean), 1, 9),
  (⟨RX9, "bestTwo", "(II)I"⟩, prog_11_method_69_code, 9, (some .int), 2, 9),
  (⟨RX9, "exchange", "(III)I"⟩, prog_11_method_70_code, 8, (some .int), 3, 9),
  (⟨RX9, "rank", "(I)I"⟩, prog_11_method_71_code, 4, (some .int), 1, 9),
  (⟨RX9, "common", "(II)I"⟩, prog_11_method_72_code, 5, (some .int), 2, 9),
  (⟨RX9, "share", "(IZ)I"⟩, prog_11_method_73_code, 5, (some .int), 2, 9),
  (⟨RX9, "there", "(I)I"⟩, prog_11_method_74_code, 4, (some .int), 1, 9),
  (⟨RX9, "sumOf", "(I[I)I"⟩, prog_11_method_75_code, 5, (some .int), 2, 9),
  (⟨RX9, "onNow", "()I"⟩, prog_11_method_76_code, 3, (some .int), 0, 9),
  (⟨RX9, "kneelers", "(III)I"⟩, prog_11_method_77_code, 8, (some .int), 3, 9),
  (⟨RX9, "fillsRests", "(I)V"⟩, prog_11_method_78_code, 4, none, 1, 9),
  (⟨RX9, "isResting", "(I)Z"⟩, prog_11_method_79_code, 4, (some .boolean), 1, 9),
  (⟨RX9, "rests", "(II)I"⟩, prog_11_method_80_code, 5, (some .int), 2, 9),
  (⟨RX9, "tell", "(III)I"⟩, prog_11_method_81_code, 4, (some .int), 3, 9),
  (⟨RX9, "forget", "()I"⟩, prog_11_method_82_code, 2, (some .int), 0, 9),
  (⟨RX9, "lastOf", "(I)I"⟩, prog_11_method_83_code, 4, (some .int), 1, 9),
  (⟨RX9, "wrongAt", "(III)I"⟩, prog_11_method_84_code, 8, (some .int), 3, 9),
  (⟨RX9, "secret", "(II)I"⟩, prog_11_method_85_code, 7, (some .int), 2, 9),
  (⟨RX9, "off", "(I)I"⟩, prog_11_method_86_code, 3, (some .int), 1, 9),
  (⟨RX9, "hold", "(I)Z"⟩, prog_11_method_87_code, 3, (some .boolean), 1, 9),
  (⟨RX9, "restore", "(I)Z"⟩, prog_11_method_88_code, 3, (some .boolean), 1, 9),
  (⟨RX9, "count", "(I)I"⟩, prog_11_method_89_code, 4, (some .int), 1, 9)]
def am_no : am_M := (⟨"", "", ""⟩, ⟨#[]⟩, 0, none, 0, 0)
def am_Ms (m : Nat) : am_M := am_ML.getD m am_no
abbrev M_Forecast_init : Nat := 0
abbrev M_Forecast_arrivesBehind : Nat := 1
abbrev M_Forecast_arrivalBehind : Nat := 2
abbrev M_Forecast_stillBehind : Nat := 3
abbrev M_Forecast_highestOf : Nat := 4
abbrev M_Forecast_firstToArrive : Nat := 5
abbrev M_Forecast_meansOf : Nat := 6
abbrev M_Forecast_leastOil : Nat := 7
abbrev M_Forecast_greatestDoubt : Nat := 8
abbrev M_Forecast_bestStartOf : Nat := 9
abbrev M_Forecast_stepKneelingFrom : Nat := 10
abbrev M_Forecast_meetBehind : Nat := 11
abbrev M_Forecast_lowestIn : Nat := 12
abbrev M_Forecast_tryKneelers : Nat := 13
abbrev M_Forecast_bestPair : Nat := 14
abbrev M_Forecast_allSteps : Nat := 15
abbrev M_Forecast_bestExchange : Nat := 16
abbrev M_Forecast_stepWithExchange : Nat := 17
abbrev M_Forecast_cheapestKneelers : Nat := 18
abbrev M_Forecast_isCheaper : Nat := 19
abbrev M_Forecast_sumOf : Nat := 20
abbrev M_Forecast_restingSets : Nat := 21
abbrev M_Forecast_isRest : Nat := 22
abbrev M_Law_init : Nat := 23
abbrev M_Law_clear : Nat := 24
abbrev M_Law_put : Nat := 25
abbrev M_Law_skipToHere : Nat := 26
abbrev M_Law_looksAt : Nat := 27
abbrev M_Law_copyFrom : Nat := 28
abbrev M_Law_tellsNow : Nat := 29
abbrev M_Law_varSeen : Nat := 30
abbrev M_Law_reckon : Nat := 31
abbrev M_Past_init : Nat := 32
abbrev M_Past_clear : Nat := 33
abbrev M_Past_keep : Nat := 34
abbrev M_Past_giveBack : Nat := 35
abbrev M_Reader_init : Nat := 36
abbrev M_Reader_readTape : Nat := 37
abbrev M_Reader_kind : Nat := 38
abbrev M_Reader_fail : Nat := 39
abbrev M_Reader_failLate : Nat := 40
abbrev M_Reader_take : Nat := 41
abbrev M_Reader_want : Nat := 42
abbrev M_Reader_wantNumber : Nat := 43
abbrev M_Reader_readTell : Nat := 44
abbrev M_Reader_readPilgrim : Nat := 45
abbrev M_Reader_wantName : Nat := 46
abbrev M_Reader_isNameTold : Nat := 47
abbrev M_Reader_readLaw : Nat := 48
abbrev M_Reader_readSum : Nat := 49
abbrev M_Reader_readProduct : Nat := 50
abbrev M_Reader_readUnit : Nat := 51
abbrev M_Stair_init : Nat := 52
abbrev M_Stair_begin : Nat := 53
abbrev M_Stair_copyFrom : Nat := 54
abbrev M_Stair_isOn : Nat := 55
abbrev M_Stair_mayKneel : Nat := 56
abbrev M_Stair_whoMayKneel : Nat := 57
abbrev M_Stair_letKneelJust : Nat := 58
abbrev M_Stair_takeAway : Nat := 59
abbrev M_Stair_howManyArrived : Nat := 60
abbrev M_Stair_howManyKneel : Nat := 61
abbrev M_Stair_movesNow : Nat := 62
abbrev M_Stair_hasNow : Nat := 63
abbrev M_Stair_heldTo : Nat := 64
abbrev M_Stair_lookAround : Nat := 65
abbrev M_Stair_pass : Nat := 66
abbrev M_Stair_carry : Nat := 67
abbrev M_Stair_arriveIn : Nat := 68
abbrev M_Text_init : Nat := 69
abbrev M_Text_clear : Nat := 70
abbrev M_Text_copyFrom : Nat := 71
abbrev M_Tokens_init : Nat := 72
abbrev M_Tokens_scan : Nat := 73
abbrev M_Tokens_behindBlanks : Nat := 74
abbrev M_Tokens_scanToken : Nat := 75
abbrev M_Tokens_scanLetters : Nat := 76
abbrev M_Tokens_scanDigits : Nat := 77
abbrev M_Tokens_wordKind : Nat := 78
abbrev M_Tokens_isWord : Nat := 79
abbrev M_Tokens_isBlank : Nat := 80
abbrev M_Tokens_isLetter : Nat := 81
abbrev M_Tokens_isDigit : Nat := 82
abbrev M_Witness_init : Nat := 83
abbrev M_Witness_clear : Nat := 84
abbrev M_Witness_add : Nat := 85
abbrev M_Witness_lastMinute : Nat := 86
abbrev M_Witness_firstNotSo : Nat := 87
abbrev M_Witness_firstNotSoBehind : Nat := 88
abbrev M_Witness_waysToRise : Nat := 89
abbrev M_Witness_isAllSo : Nat := 90
abbrev M_KneeStair_init : Nat := 91
abbrev M_KneeStair_feed : Nat := 92
abbrev M_KneeStair_putWord : Nat := 93
abbrev M_KneeStair_back : Nat := 94
abbrev M_KneeStair_read : Nat := 95
abbrev M_KneeStair_emptySlots : Nat := 96
abbrev M_KneeStair_place : Nat := 97
abbrev M_KneeStair_pilgrim : Nat := 98
abbrev M_KneeStair_moves : Nat := 99
abbrev M_KneeStair_most : Nat := 100
abbrev M_KneeStair_rank : Nat := 101
abbrev M_KneeStair_share : Nat := 102
abbrev M_KneeStair_commonDivisor : Nat := 103
abbrev M_KneeStair_there : Nat := 104
abbrev M_KneeStair_count : Nat := 105
abbrev M_KneeStair_howManyHeld : Nat := 106
abbrev M_KneeStair_kneel : Nat := 107
abbrev M_KneeStair_rise : Nat := 108
abbrev M_KneeStair_board : Nat := 109
abbrev M_KneeStair_oil : Nat := 110
abbrev M_KneeStair_run : Nat := 111
abbrev M_KneeStair_undo : Nat := 112
abbrev M_KneeStair_hold : Nat := 113
abbrev M_KneeStair_restore : Nat := 114
abbrev M_KneeStair_arrives : Nat := 115
abbrev M_KneeStair_still : Nat := 116
abbrev M_KneeStair_highest : Nat := 117
abbrev M_KneeStair_first : Nat := 118
abbrev M_KneeStair_means : Nat := 119
abbrev M_KneeStair_oiled : Nat := 120
abbrev M_KneeStair_doubted : Nat := 121
abbrev M_KneeStair_bestStart : Nat := 122
abbrev M_KneeStair_meet : Nat := 123
abbrev M_KneeStair_lowest : Nat := 124
abbrev M_KneeStair_bestTwo : Nat := 125
abbrev M_KneeStair_exchange : Nat := 126
abbrev M_KneeStair_kneelers : Nat := 127
abbrev M_KneeStair_rests : Nat := 128
abbrev M_KneeStair_tell : Nat := 129
abbrev M_KneeStair_forget : Nat := 130
abbrev M_KneeStair_secret : Nat := 131
abbrev M_KneeStair_off : Nat := 132
abbrev M_KneeStair_isPilgrim : Nat := 133
abbrev M_KneeStair_isSpan : Nat := 134
abbrev M_KneeStair_isOneOfTwo : Nat := 135
abbrev M_Model_init : Nat := 136
abbrev M_Model_feed : Nat := 137
abbrev M_Model_put : Nat := 138
abbrev M_Model_back : Nat := 139
abbrev M_Model_byteAt : Nat := 140
abbrev M_Model_isDigit : Nat := 141
abbrev M_Model_isLetter : Nat := 142
abbrev M_Model_appends : Nat := 143
abbrev M_Model_word : Nat := 144
abbrev M_Model_token : Nat := 145
abbrev M_Model_cut : Nat := 146
abbrev M_Model_sign : Nat := 147
abbrev M_Model_is : Nat := 148
abbrev M_Model_fail : Nat := 149
abbrev M_Model_wrong : Nat := 150
abbrev M_Model_goesOn : Nat := 151
abbrev M_Model_must : Nat := 152
abbrev M_Model_plain : Nat := 153
abbrev M_Model_read : Nat := 154
abbrev M_Model_place : Nat := 155
abbrev M_Model_tell : Nat := 156
abbrev M_Model_bounded : Nat := 157
abbrev M_Model_tellPilgrim : Nat := 158
abbrev M_Model_tellLaw : Nat := 159
abbrev M_Model_term : Nat := 160
abbrev M_Model_emit : Nat := 161
abbrev M_Model_comesOut : Nat := 162
abbrev M_Model_expression : Nat := 163
abbrev M_Model_unit : Nat := 164
abbrev M_Model_termOf : Nat := 165
abbrev M_Model_in : Nat := 166
abbrev M_Model_isPilgrim : Nat := 167
abbrev M_Model_plainly : Nat := 168
abbrev M_Model_begins : Nat := 169
abbrev M_Model_copies : Nat := 170
abbrev M_Model_isOn : Nat := 171
abbrev M_Model_onAll : Nat := 172
abbrev M_Model_mayKneel : Nat := 173
abbrev M_Model_tells : Nat := 174
abbrev M_Model_setsOf : Nat := 175
abbrev M_Model_movesNow : Nat := 176
abbrev M_Model_hasOf : Nat := 177
abbrev M_Model_minuteGoes : Nat := 178
abbrev M_Model_soresOf : Nat := 179
abbrev M_Model_goes : Nat := 180
abbrev M_Model_pilgrim : Nat := 181
abbrev M_Model_moves : Nat := 182
abbrev M_Model_keeps : Nat := 183
abbrev M_Model_kneel : Nat := 184
abbrev M_Model_rise : Nat := 185
abbrev M_Model_board : Nat := 186
abbrev M_Model_oil : Nat := 187
abbrev M_Model_run : Nat := 188
abbrev M_Model_undo : Nat := 189
abbrev M_Model_arrives : Nat := 190
abbrev M_Model_still : Nat := 191
abbrev M_Model_highest : Nat := 192
abbrev M_Model_first : Nat := 193
abbrev M_Model_means : Nat := 194
abbrev M_Model_isThereBy : Nat := 195
abbrev M_Model_oiled : Nat := 196
abbrev M_Model_doubted : Nat := 197
abbrev M_Model_bestStart : Nat := 198
abbrev M_Model_meet : Nat := 199
abbrev M_Model_most : Nat := 200
abbrev M_Model_lowest : Nat := 201
abbrev M_Model_kneelsBy : Nat := 202
abbrev M_Model_bestTwo : Nat := 203
abbrev M_Model_exchange : Nat := 204
abbrev M_Model_rank : Nat := 205
abbrev M_Model_common : Nat := 206
abbrev M_Model_share : Nat := 207
abbrev M_Model_there : Nat := 208
abbrev M_Model_sumOf : Nat := 209
abbrev M_Model_onNow : Nat := 210
abbrev M_Model_kneelers : Nat := 211
abbrev M_Model_fillsRests : Nat := 212
abbrev M_Model_isResting : Nat := 213
abbrev M_Model_rests : Nat := 214
abbrev M_Model_tell_ : Nat := 215
abbrev M_Model_forget : Nat := 216
abbrev M_Model_lastOf : Nat := 217
abbrev M_Model_wrongAt : Nat := 218
abbrev M_Model_secret : Nat := 219
abbrev M_Model_off : Nat := 220
abbrev M_Model_hold : Nat := 221
abbrev M_Model_restore : Nat := 222
abbrev M_Model_count : Nat := 223
