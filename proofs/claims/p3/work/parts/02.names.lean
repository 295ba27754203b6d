def RX0 : String := "FearLocks$City"
def TX0 : u_T := fun k => match k with
  | 0 => ("FearLocks$City", "dread", "[[I", true)
  | 1 => ("FearLocks$City", "knows", "[I", true)
  | 2 => ("FearLocks$City", "doorFear", "[I", true)
  | 3 => ("FearLocks$City", "strength", "[I", true)
  | 4 => ("FearLocks$City", "opened", "[I", true)
  | 5 => ("FearLocks$City", "people", "I", false)
  | 6 => ("FearLocks$City", "doors", "I", false)
  | 7 => ("FearLocks$City", "night", "I", false)
  | _ => ("FearLocks$City", "x", "I", false)
def tyX0 : Nat → FieldType := fun k => match k with
  | 0 => .array (.array .int)
  | 1 => .array .int
  | 2 => .array .int
  | 3 => .array .int
  | 4 => .array .int
  | 5 => .int
  | 6 => .int
  | 7 => .int
  | _ => .int
theorem nmX0 : ∀ a, a < 9 → ∀ b, b < 9 → a ≠ b → (TX0 a).2.1 ≠ (TX0 b).2.1 := by decide +kernel
theorem tyX0_ok : ∀ k, k < 9 → parseFieldDescriptor (TX0 k).2.2.1 = some (tyX0 k) := by decide +kernel
abbrev cX0_init : ByteArray := prog_2_method_1_code
def yX0_init : MethodName := ⟨RX0, "<init>", "()V"⟩
abbrev cX0_isPerson : ByteArray := prog_2_method_2_code
def yX0_isPerson : MethodName := ⟨RX0, "isPerson", "(I)Z"⟩
abbrev cX0_isDoor : ByteArray := prog_2_method_3_code
def yX0_isDoor : MethodName := ⟨RX0, "isDoor", "(I)Z"⟩
abbrev cX0_dreadOf : ByteArray := prog_2_method_4_code
def yX0_dreadOf : MethodName := ⟨RX0, "dreadOf", "(II)I"⟩
abbrev cX0_setDread : ByteArray := prog_2_method_5_code
def yX0_setDread : MethodName := ⟨RX0, "setDread", "(III)V"⟩
abbrev cX0_greatestDread : ByteArray := prog_2_method_6_code
def yX0_greatestDread : MethodName := ⟨RX0, "greatestDread", "(I)I"⟩
abbrev cX0_dreadInAll : ByteArray := prog_2_method_7_code
def yX0_dreadInAll : MethodName := ⟨RX0, "dreadInAll", "(I)I"⟩
abbrev cX0_fearOf : ByteArray := prog_2_method_8_code
def yX0_fearOf : MethodName := ⟨RX0, "fearOf", "(I)I"⟩
abbrev cX0_havingFear : ByteArray := prog_2_method_9_code
def yX0_havingFear : MethodName := ⟨RX0, "havingFear", "(I)I"⟩
abbrev cX0_nobodysFears : ByteArray := prog_2_method_10_code
def yX0_nobodysFears : MethodName := ⟨RX0, "nobodysFears", "()I"⟩
abbrev cX0_allsFears : ByteArray := prog_2_method_11_code
def yX0_allsFears : MethodName := ⟨RX0, "allsFears", "()I"⟩
abbrev cX0_fearsFrom : ByteArray := prog_2_method_12_code
def yX0_fearsFrom : MethodName := ⟨RX0, "fearsFrom", "(II)I"⟩
abbrev cX0_knownTo : ByteArray := prog_2_method_13_code
def yX0_knownTo : MethodName := ⟨RX0, "knownTo", "(I)I"⟩
abbrev cX0_acquaint : ByteArray := prog_2_method_14_code
def yX0_acquaint : MethodName := ⟨RX0, "acquaint", "(IIZ)V"⟩
abbrev cX0_acquaintances : ByteArray := prog_2_method_15_code
def yX0_acquaintances : MethodName := ⟨RX0, "acquaintances", "()I"⟩
abbrev cX0_tellDoor : ByteArray := prog_2_method_16_code
def yX0_tellDoor : MethodName := ⟨RX0, "tellDoor", "(III)V"⟩
abbrev cX0_dropDoor : ByteArray := prog_2_method_17_code
def yX0_dropDoor : MethodName := ⟨RX0, "dropDoor", "(I)V"⟩
abbrev cX0_opens : ByteArray := prog_2_method_18_code
def yX0_opens : MethodName := ⟨RX0, "opens", "(II)Z"⟩
abbrev cX0_doorsOpenTo : ByteArray := prog_2_method_19_code
def yX0_doorsOpenTo : MethodName := ⟨RX0, "doorsOpenTo", "(I)I"⟩
abbrev cX0_openersOf : ByteArray := prog_2_method_20_code
def yX0_openersOf : MethodName := ⟨RX0, "openersOf", "(I)I"⟩
abbrev cX0_openedOf : ByteArray := prog_2_method_21_code
def yX0_openedOf : MethodName := ⟨RX0, "openedOf", "(I)I"⟩
abbrev cX0_openedInAll : ByteArray := prog_2_method_22_code
def yX0_openedInAll : MethodName := ⟨RX0, "openedInAll", "()I"⟩
abbrev cX0_draw : ByteArray := prog_2_method_23_code
def yX0_draw : MethodName := ⟨RX0, "draw", "()I"⟩
abbrev cX0_copyFrom : ByteArray := prog_2_method_24_code
def yX0_copyFrom : MethodName := ⟨RX0, "copyFrom", "(LFearLocks$City;)V"⟩
abbrev cX0_copyDreads : ByteArray := prog_2_method_25_code
def yX0_copyDreads : MethodName := ⟨RX0, "copyDreads", "(LFearLocks$City;)V"⟩
abbrev cX0_goBackTo : ByteArray := prog_2_method_26_code
def yX0_goBackTo : MethodName := ⟨RX0, "goBackTo", "(LFearLocks$City;)V"⟩
def RX1 : String := "FearLocks$Company"
def TX1 : u_T := fun k => match k with
  | 0 => ("FearLocks$Company", "links", "[I", true)
  | _ => ("FearLocks$Company", "couplesIn", "[I", true)
def tyX1 : Nat → FieldType := fun k => match k with
  | 0 => .array .int
  | _ => .array .int
theorem nmX1 : ∀ a, a < 2 → ∀ b, b < 2 → a ≠ b → (TX1 a).2.1 ≠ (TX1 b).2.1 := by decide +kernel
theorem tyX1_ok : ∀ k, k < 2 → parseFieldDescriptor (TX1 k).2.2.1 = some (tyX1 k) := by decide +kernel
abbrev cX1_init : ByteArray := prog_3_method_1_code
def yX1_init : MethodName := ⟨RX1, "<init>", "()V"⟩
abbrev cX1_beside : ByteArray := prog_3_method_2_code
def yX1_beside : MethodName := ⟨RX1, "beside", "([II)I"⟩
abbrev cX1_reached : ByteArray := prog_3_method_3_code
def yX1_reached : MethodName := ⟨RX1, "reached", "([III)I"⟩
abbrev cX1_holdersTogether : ByteArray := prog_3_method_4_code
def yX1_holdersTogether : MethodName := ⟨RX1, "holdersTogether", "(LFearLocks$City;)I"⟩
abbrev cX1_stepsBetween : ByteArray := prog_3_method_5_code
def yX1_stepsBetween : MethodName := ⟨RX1, "stepsBetween", "(LFearLocks$City;II)I"⟩
abbrev cX1_grownFashion : ByteArray := prog_3_method_6_code
def yX1_grownFashion : MethodName := ⟨RX1, "grownFashion", "(LFearLocks$City;II)I"⟩
abbrev cX1_difference : ByteArray := prog_3_method_7_code
def yX1_difference : MethodName := ⟨RX1, "difference", "(LFearLocks$City;II)I"⟩
abbrev cX1_nearestTo : ByteArray := prog_3_method_8_code
def yX1_nearestTo : MethodName := ⟨RX1, "nearestTo", "(LFearLocks$City;I)I"⟩
abbrev cX1_linkAlike : ByteArray := prog_3_method_9_code
def yX1_linkAlike : MethodName := ⟨RX1, "linkAlike", "(LFearLocks$City;I)V"⟩
abbrev cX1_circleOf : ByteArray := prog_3_method_10_code
def yX1_circleOf : MethodName := ⟨RX1, "circleOf", "(II)I"⟩
abbrev cX1_circlesOf : ByteArray := prog_3_method_11_code
def yX1_circlesOf : MethodName := ⟨RX1, "circlesOf", "(I)I"⟩
abbrev cX1_mostCouples : ByteArray := prog_3_method_12_code
def yX1_mostCouples : MethodName := ⟨RX1, "mostCouples", "(LFearLocks$City;I)I"⟩
abbrev cX1_linkFellows : ByteArray := prog_3_method_13_code
def yX1_linkFellows : MethodName := ⟨RX1, "linkFellows", "(LFearLocks$City;I)V"⟩
abbrev cX1_mostWith : ByteArray := prog_3_method_14_code
def yX1_mostWith : MethodName := ⟨RX1, "mostWith", "(II)I"⟩
def RX2 : String := "FearLocks$DreadsReader"
def TX2 : u_T := fun k => match k with
  | 0 => ("FearLocks$LinesReader", "text", "LFearLocks$Tape;", true)
  | 1 => ("FearLocks$DreadsReader", "city", "LFearLocks$City;", true)
  | _ => ("FearLocks$DreadsReader", "person", "I", true)
def tyX2 : Nat → FieldType := fun k => match k with
  | 0 => .object "FearLocks$Tape"
  | 1 => .object "FearLocks$City"
  | _ => .int
theorem nmX2 : ∀ a, a < 3 → ∀ b, b < 3 → a ≠ b → (TX2 a).2.1 ≠ (TX2 b).2.1 := by decide +kernel
theorem tyX2_ok : ∀ k, k < 3 → parseFieldDescriptor (TX2 k).2.2.1 = some (tyX2 k) := by decide +kernel
abbrev cX2_init : ByteArray := prog_4_method_1_code
def yX2_init : MethodName := ⟨RX2, "<init>", "(LFearLocks$Tape;LFearLocks$City;I)V"⟩
abbrev cX2_startsLine : ByteArray := prog_4_method_2_code
def yX2_startsLine : MethodName := ⟨RX2, "startsLine", "(I)Z"⟩
abbrev cX2_readLine : ByteArray := prog_4_method_3_code
def yX2_readLine : MethodName := ⟨RX2, "readLine", "()Z"⟩
abbrev cX2_readFears : ByteArray := prog_4_method_4_code
def yX2_readFears : MethodName := ⟨RX2, "readFears", "()I"⟩
abbrev cX2_change : ByteArray := prog_4_method_5_code
def yX2_change : MethodName := ⟨RX2, "change", "(III)V"⟩
def RX3 : String := "FearLocks$Keys"
def TX3 : u_T := fun k => match k with
  | _ => ("FearLocks$Keys", "opens", "[I", true)
def tyX3 : Nat → FieldType := fun k => match k with
  | _ => .array .int
theorem nmX3 : ∀ a, a < 1 → ∀ b, b < 1 → a ≠ b → (TX3 a).2.1 ≠ (TX3 b).2.1 := by decide +kernel
theorem tyX3_ok : ∀ k, k < 1 → parseFieldDescriptor (TX3 k).2.2.1 = some (tyX3 k) := by decide +kernel
abbrev cX3_init : ByteArray := prog_5_method_1_code
def yX3_init : MethodName := ⟨RX3, "<init>", "()V"⟩
abbrev cX3_lessons : ByteArray := prog_5_method_2_code
def yX3_lessons : MethodName := ⟨RX3, "lessons", "(LFearLocks$City;II)I"⟩
abbrev cX3_fewestForAllDoors : ByteArray := prog_5_method_3_code
def yX3_fewestForAllDoors : MethodName := ⟨RX3, "fewestForAllDoors", "(LFearLocks$City;)I"⟩
abbrev cX3_openedBy : ByteArray := prog_5_method_4_code
def yX3_openedBy : MethodName := ⟨RX3, "openedBy", "(I)I"⟩
abbrev cX3_mostLet : ByteArray := prog_5_method_5_code
def yX3_mostLet : MethodName := ⟨RX3, "mostLet", "(LFearLocks$City;)I"⟩
abbrev cX3_triesFit : ByteArray := prog_5_method_6_code
def yX3_triesFit : MethodName := ⟨RX3, "triesFit", "(LFearLocks$Tape;LFearLocks$City;I)Z"⟩
abbrev cX3_possibleFears : ByteArray := prog_5_method_7_code
def yX3_possibleFears : MethodName := ⟨RX3, "possibleFears", "(LFearLocks$Tape;LFearLocks$City;I)I"⟩
abbrev cX3_leastStrength : ByteArray := prog_5_method_8_code
def yX3_leastStrength : MethodName := ⟨RX3, "leastStrength", "(LFearLocks$Tape;LFearLocks$City;II)I"⟩
abbrev cX3_greatestStrength : ByteArray := prog_5_method_9_code
def yX3_greatestStrength : MethodName := ⟨RX3, "greatestStrength", "(LFearLocks$Tape;LFearLocks$City;II)I"⟩
abbrev cX3_bestToSend : ByteArray := prog_5_method_10_code
def yX3_bestToSend : MethodName := ⟨RX3, "bestToSend", "(LFearLocks$City;I)I"⟩
abbrev cX3_leftAtWorst : ByteArray := prog_5_method_11_code
def yX3_leftAtWorst : MethodName := ⟨RX3, "leftAtWorst", "(LFearLocks$City;II)I"⟩
def RX4 : String := "FearLocks$Law"
def TX4 : u_T := fun k => match k with
  | 0 => ("FearLocks$Law", "step", "[I", true)
  | 1 => ("FearLocks$Law", "detail", "[I", true)
  | 2 => ("FearLocks$Law", "steps", "I", false)
  | 3 => ("FearLocks$Law", "kind", "[I", true)
  | 4 => ("FearLocks$Law", "worthFrom", "[I", true)
  | 5 => ("FearLocks$Law", "conditionFrom", "[I", true)
  | 6 => ("FearLocks$Law", "rules", "I", false)
  | 7 => ("FearLocks$Law", "meaning", "[I", true)
  | 8 => ("FearLocks$Law", "stack", "[I", true)
  | _ => ("FearLocks$Law", "high", "I", false)
def tyX4 : Nat → FieldType := fun k => match k with
  | 0 => .array .int
  | 1 => .array .int
  | 2 => .int
  | 3 => .array .int
  | 4 => .array .int
  | 5 => .array .int
  | 6 => .int
  | 7 => .array .int
  | 8 => .array .int
  | _ => .int
theorem nmX4 : ∀ a, a < 10 → ∀ b, b < 10 → a ≠ b → (TX4 a).2.1 ≠ (TX4 b).2.1 := by decide +kernel
theorem tyX4_ok : ∀ k, k < 10 → parseFieldDescriptor (TX4 k).2.2.1 = some (tyX4 k) := by decide +kernel
abbrev cX4_init : ByteArray := prog_6_method_1_code
def yX4_init : MethodName := ⟨RX4, "<init>", "()V"⟩
abbrev cX4_clear : ByteArray := prog_6_method_2_code
def yX4_clear : MethodName := ⟨RX4, "clear", "()V"⟩
abbrev cX4_startRule : ByteArray := prog_6_method_3_code
def yX4_startRule : MethodName := ⟨RX4, "startRule", "(I)V"⟩
abbrev cX4_startCondition : ByteArray := prog_6_method_4_code
def yX4_startCondition : MethodName := ⟨RX4, "startCondition", "()V"⟩
abbrev cX4_endRule : ByteArray := prog_6_method_5_code
def yX4_endRule : MethodName := ⟨RX4, "endRule", "()V"⟩
abbrev cX4_add : ByteArray := prog_6_method_6_code
def yX4_add : MethodName := ⟨RX4, "add", "(II)I"⟩
abbrev cX4_leadHere : ByteArray := prog_6_method_7_code
def yX4_leadHere : MethodName := ⟨RX4, "leadHere", "(I)V"⟩
abbrev cX4_meanPerson : ByteArray := prog_6_method_8_code
def yX4_meanPerson : MethodName := ⟨RX4, "meanPerson", "(III)V"⟩
abbrev cX4_meanOther : ByteArray := prog_6_method_9_code
def yX4_meanOther : MethodName := ⟨RX4, "meanOther", "(III)V"⟩
abbrev cX4_meanDoor : ByteArray := prog_6_method_10_code
def yX4_meanDoor : MethodName := ⟨RX4, "meanDoor", "(II)V"⟩
abbrev cX4_meanTime : ByteArray := prog_6_method_11_code
def yX4_meanTime : MethodName := ⟨RX4, "meanTime", "(II)V"⟩
abbrev cX4_anyHolds : ByteArray := prog_6_method_12_code
def yX4_anyHolds : MethodName := ⟨RX4, "anyHolds", "(I)Z"⟩
abbrev cX4_worth : ByteArray := prog_6_method_13_code
def yX4_worth : MethodName := ⟨RX4, "worth", "(II)I"⟩
abbrev cX4_reckon : ByteArray := prog_6_method_14_code
def yX4_reckon : MethodName := ⟨RX4, "reckon", "(I)I"⟩
abbrev cX4_joined : ByteArray := prog_6_method_15_code
def yX4_joined : MethodName := ⟨RX4, "joined", "(III)I"⟩
abbrev cX4_meaningOf : ByteArray := prog_6_method_16_code
def yX4_meaningOf : MethodName := ⟨RX4, "meaningOf", "(I)I"⟩
abbrev cX4_push : ByteArray := prog_6_method_17_code
def yX4_push : MethodName := ⟨RX4, "push", "(I)V"⟩
abbrev cX4_pop : ByteArray := prog_6_method_18_code
def yX4_pop : MethodName := ⟨RX4, "pop", "()I"⟩
def RX5 : String := "FearLocks$LawReader"
def TX5 : u_T := fun k => match k with
  | 0 => ("FearLocks$LinesReader", "text", "LFearLocks$Tape;", true)
  | _ => ("FearLocks$LawReader", "law", "LFearLocks$Law;", true)
def tyX5 : Nat → FieldType := fun k => match k with
  | 0 => .object "FearLocks$Tape"
  | _ => .object "FearLocks$Law"
theorem nmX5 : ∀ a, a < 2 → ∀ b, b < 2 → a ≠ b → (TX5 a).2.1 ≠ (TX5 b).2.1 := by decide +kernel
theorem tyX5_ok : ∀ k, k < 2 → parseFieldDescriptor (TX5 k).2.2.1 = some (tyX5 k) := by decide +kernel
abbrev cX5_init : ByteArray := prog_7_method_1_code
def yX5_init : MethodName := ⟨RX5, "<init>", "(LFearLocks$Tape;LFearLocks$Law;)V"⟩
abbrev cX5_startsLine : ByteArray := prog_7_method_2_code
def yX5_startsLine : MethodName := ⟨RX5, "startsLine", "(I)Z"⟩
abbrev cX5_readLine : ByteArray := prog_7_method_3_code
def yX5_readLine : MethodName := ⟨RX5, "readLine", "()Z"⟩
abbrev cX5_readAnyOf : ByteArray := prog_7_method_4_code
def yX5_readAnyOf : MethodName := ⟨RX5, "readAnyOf", "(I)Z"⟩
abbrev cX5_readAllOf : ByteArray := prog_7_method_5_code
def yX5_readAllOf : MethodName := ⟨RX5, "readAllOf", "(I)Z"⟩
abbrev cX5_readTest : ByteArray := prog_7_method_6_code
def yX5_readTest : MethodName := ⟨RX5, "readTest", "(I)Z"⟩
abbrev cX5_readNegation : ByteArray := prog_7_method_7_code
def yX5_readNegation : MethodName := ⟨RX5, "readNegation", "(I)Z"⟩
abbrev cX5_open : ByteArray := prog_7_method_8_code
def yX5_open : MethodName := ⟨RX5, "open", "(I)Z"⟩
abbrev cX5_readComparison : ByteArray := prog_7_method_9_code
def yX5_readComparison : MethodName := ⟨RX5, "readComparison", "(I)Z"⟩
abbrev cX5_readSum : ByteArray := prog_7_method_10_code
def yX5_readSum : MethodName := ⟨RX5, "readSum", "(I)Z"⟩
abbrev cX5_readProduct : ByteArray := prog_7_method_11_code
def yX5_readProduct : MethodName := ⟨RX5, "readProduct", "(I)Z"⟩
abbrev cX5_joinsFactors : ByteArray := prog_7_method_12_code
def yX5_joinsFactors : MethodName := ⟨RX5, "joinsFactors", "(I)Z"⟩
abbrev cX5_readFactor : ByteArray := prog_7_method_13_code
def yX5_readFactor : MethodName := ⟨RX5, "readFactor", "(I)Z"⟩
def RX6 : String := "FearLocks$LinesReader"
def TX6 : u_T := fun k => match k with
  | _ => ("", "", "", false)
def tyX6 : Nat → FieldType := fun k => match k with
  | _ => .int
theorem nmX6 : ∀ a, a < 0 → ∀ b, b < 0 → a ≠ b → (TX6 a).2.1 ≠ (TX6 b).2.1 := by decide +kernel
theorem tyX6_ok : ∀ k, k < 0 → parseFieldDescriptor (TX6 k).2.2.1 = some (tyX6 k) := by decide +kernel
abbrev cX6_init : ByteArray := prog_8_method_1_code
def yX6_init : MethodName := ⟨RX6, "<init>", "(LFearLocks$Tape;)V"⟩
abbrev cX6_readLines : ByteArray := prog_8_method_4_code
def yX6_readLines : MethodName := ⟨RX6, "readLines", "(I)I"⟩
def RX7 : String := "FearLocks$Nightfall"
def TX7 : u_T := fun k => match k with
  | 0 => ("FearLocks$Nightfall", "behindDoors", "LFearLocks$City;", true)
  | 1 => ("FearLocks$Nightfall", "openings", "I", false)
  | _ => ("FearLocks$Nightfall", "failures", "I", false)
def tyX7 : Nat → FieldType := fun k => match k with
  | 0 => .object "FearLocks$City"
  | 1 => .int
  | _ => .int
theorem nmX7 : ∀ a, a < 3 → ∀ b, b < 3 → a ≠ b → (TX7 a).2.1 ≠ (TX7 b).2.1 := by decide +kernel
theorem tyX7_ok : ∀ k, k < 3 → parseFieldDescriptor (TX7 k).2.2.1 = some (tyX7 k) := by decide +kernel
abbrev cX7_init : ByteArray := prog_9_method_1_code
def yX7_init : MethodName := ⟨RX7, "<init>", "()V"⟩
abbrev cX7_pass : ByteArray := prog_9_method_2_code
def yX7_pass : MethodName := ⟨RX7, "pass", "(LFearLocks$City;LFearLocks$Law;I)V"⟩
abbrev cX7_goOut : ByteArray := prog_9_method_3_code
def yX7_goOut : MethodName := ⟨RX7, "goOut", "(LFearLocks$City;LFearLocks$Law;I)V"⟩
abbrev cX7_doorTried : ByteArray := prog_9_method_4_code
def yX7_doorTried : MethodName := ⟨RX7, "doorTried", "(LFearLocks$City;LFearLocks$Law;I)I"⟩
abbrev cX7_meanDoorFor : ByteArray := prog_9_method_5_code
def yX7_meanDoorFor : MethodName := ⟨RX7, "meanDoorFor", "(LFearLocks$City;LFearLocks$Law;II)V"⟩
abbrev cX7_tryDoor : ByteArray := prog_9_method_6_code
def yX7_tryDoor : MethodName := ⟨RX7, "tryDoor", "(LFearLocks$City;LFearLocks$Law;II)V"⟩
abbrev cX7_spreadDread : ByteArray := prog_9_method_7_code
def yX7_spreadDread : MethodName := ⟨RX7, "spreadDread", "(LFearLocks$City;LFearLocks$Law;)V"⟩
abbrev cX7_catchDread : ByteArray := prog_9_method_8_code
def yX7_catchDread : MethodName := ⟨RX7, "catchDread", "(LFearLocks$City;LFearLocks$Law;II)V"⟩
def RX8 : String := "FearLocks$OrdersReader"
def TX8 : u_T := fun k => match k with
  | 0 => ("FearLocks$LinesReader", "text", "LFearLocks$Tape;", true)
  | _ => ("FearLocks$OrdersReader", "city", "LFearLocks$City;", true)
def tyX8 : Nat → FieldType := fun k => match k with
  | 0 => .object "FearLocks$Tape"
  | _ => .object "FearLocks$City"
theorem nmX8 : ∀ a, a < 2 → ∀ b, b < 2 → a ≠ b → (TX8 a).2.1 ≠ (TX8 b).2.1 := by decide +kernel
theorem tyX8_ok : ∀ k, k < 2 → parseFieldDescriptor (TX8 k).2.2.1 = some (tyX8 k) := by decide +kernel
abbrev cX8_init : ByteArray := prog_10_method_1_code
def yX8_init : MethodName := ⟨RX8, "<init>", "(LFearLocks$Tape;LFearLocks$City;)V"⟩
abbrev cX8_startsLine : ByteArray := prog_10_method_2_code
def yX8_startsLine : MethodName := ⟨RX8, "startsLine", "(I)Z"⟩
abbrev cX8_readLine : ByteArray := prog_10_method_3_code
def yX8_readLine : MethodName := ⟨RX8, "readLine", "()Z"⟩
abbrev cX8_readAcquaintance : ByteArray := prog_10_method_4_code
def yX8_readAcquaintance : MethodName := ⟨RX8, "readAcquaintance", "()Z"⟩
abbrev cX8_readPerson : ByteArray := prog_10_method_5_code
def yX8_readPerson : MethodName := ⟨RX8, "readPerson", "()I"⟩
abbrev cX8_readDoor : ByteArray := prog_10_method_6_code
def yX8_readDoor : MethodName := ⟨RX8, "readDoor", "()Z"⟩
abbrev cX8_readLock : ByteArray := prog_10_method_7_code
def yX8_readLock : MethodName := ⟨RX8, "readLock", "(I)Z"⟩
def RX9 : String := "FearLocks$Pastimes"
def TX9 : u_T := fun k => match k with
  | 0 => ("FearLocks$Pastimes", "guardFear", "[I", true)
  | _ => ("FearLocks$Pastimes", "words", "[J", true)
def tyX9 : Nat → FieldType := fun k => match k with
  | 0 => .array .int
  | _ => .array .long
theorem nmX9 : ∀ a, a < 2 → ∀ b, b < 2 → a ≠ b → (TX9 a).2.1 ≠ (TX9 b).2.1 := by decide +kernel
theorem tyX9_ok : ∀ k, k < 2 → parseFieldDescriptor (TX9 k).2.2.1 = some (tyX9 k) := by decide +kernel
abbrev cX9_init : ByteArray := prog_11_method_1_code
def yX9_init : MethodName := ⟨RX9, "<init>", "()V"⟩
abbrev cX9_waysToStand : ByteArray := prog_11_method_2_code
def yX9_waysToStand : MethodName := ⟨RX9, "waysToStand", "(LFearLocks$Tape;LFearLocks$City;I)I"⟩
abbrev cX9_waysOn : ByteArray := prog_11_method_3_code
def yX9_waysOn : MethodName := ⟨RX9, "waysOn", "([IIIII)I"⟩
abbrev cX9_canStandTogether : ByteArray := prog_11_method_4_code
def yX9_canStandTogether : MethodName := ⟨RX9, "canStandTogether", "([III)Z"⟩
abbrev cX9_wordsWeighing : ByteArray := prog_11_method_5_code
def yX9_wordsWeighing : MethodName := ⟨RX9, "wordsWeighing", "(III)J"⟩
abbrev cX9_wordsWithOneMore : ByteArray := prog_11_method_6_code
def yX9_wordsWithOneMore : MethodName := ⟨RX9, "wordsWithOneMore", "(II)J"⟩
abbrev cX9_leastDreadBehindRooms : ByteArray := prog_11_method_7_code
def yX9_leastDreadBehindRooms : MethodName := ⟨RX9, "leastDreadBehindRooms", "(LFearLocks$Tape;II)I"⟩
abbrev cX9_roomsOfCommonest : ByteArray := prog_11_method_8_code
def yX9_roomsOfCommonest : MethodName := ⟨RX9, "roomsOfCommonest", "(LFearLocks$Tape;I)I"⟩
def RX10 : String := "FearLocks$Tape"
def TX10 : u_T := fun k => match k with
  | 0 => ("FearLocks$Tape", "bytes", "[I", true)
  | 1 => ("FearLocks$Tape", "size", "I", false)
  | 2 => ("FearLocks$Tape", "end", "I", false)
  | 3 => ("FearLocks$Tape", "at", "I", false)
  | _ => ("FearLocks$Tape", "fault", "I", false)
def tyX10 : Nat → FieldType := fun k => match k with
  | 0 => .array .int
  | 1 => .int
  | 2 => .int
  | 3 => .int
  | _ => .int
theorem nmX10 : ∀ a, a < 5 → ∀ b, b < 5 → a ≠ b → (TX10 a).2.1 ≠ (TX10 b).2.1 := by decide +kernel
theorem tyX10_ok : ∀ k, k < 5 → parseFieldDescriptor (TX10 k).2.2.1 = some (tyX10 k) := by decide +kernel
abbrev cX10_init : ByteArray := prog_12_method_1_code
def yX10_init : MethodName := ⟨RX10, "<init>", "()V"⟩
abbrev cX10_append : ByteArray := prog_12_method_2_code
def yX10_append : MethodName := ⟨RX10, "append", "(I)V"⟩
abbrev cX10_holds : ByteArray := prog_12_method_3_code
def yX10_holds : MethodName := ⟨RX10, "holds", "(III)Z"⟩
abbrev cX10_take : ByteArray := prog_12_method_4_code
def yX10_take : MethodName := ⟨RX10, "take", "(I)V"⟩
abbrev cX10_byteAt : ByteArray := prog_12_method_5_code
def yX10_byteAt : MethodName := ⟨RX10, "byteAt", "(I)I"⟩
abbrev cX10_now : ByteArray := prog_12_method_6_code
def yX10_now : MethodName := ⟨RX10, "now", "()I"⟩
abbrev cX10_fail : ByteArray := prog_12_method_7_code
def yX10_fail : MethodName := ⟨RX10, "fail", "(II)Z"⟩
abbrev cX10_cannotStand : ByteArray := prog_12_method_8_code
def yX10_cannotStand : MethodName := ⟨RX10, "cannotStand", "()Z"⟩
abbrev cX10_expect : ByteArray := prog_12_method_9_code
def yX10_expect : MethodName := ⟨RX10, "expect", "(I)Z"⟩
abbrev cX10_readNumber : ByteArray := prog_12_method_10_code
def yX10_readNumber : MethodName := ⟨RX10, "readNumber", "(I)I"⟩
abbrev cX10_isDigit : ByteArray := prog_12_method_11_code
def yX10_isDigit : MethodName := ⟨RX10, "isDigit", "(I)Z"⟩
abbrev cX10_isFear : ByteArray := prog_12_method_12_code
def yX10_isFear : MethodName := ⟨RX10, "isFear", "(I)Z"⟩
def RX11 : String := "FearLocks"
def TX11 : u_T := fun k => match k with
  | 0 => ("FearLocks", "tape", "LFearLocks$Tape;", true)
  | 1 => ("FearLocks", "city", "LFearLocks$City;", true)
  | 2 => ("FearLocks", "draft", "LFearLocks$City;", true)
  | 3 => ("FearLocks", "kept", "LFearLocks$City;", true)
  | 4 => ("FearLocks", "everKept", "Z", false)
  | 5 => ("FearLocks", "inForce", "LFearLocks$Law;", false)
  | 6 => ("FearLocks", "spare", "LFearLocks$Law;", false)
  | 7 => ("FearLocks", "nightfall", "LFearLocks$Nightfall;", true)
  | 8 => ("FearLocks", "keys", "LFearLocks$Keys;", true)
  | 9 => ("FearLocks", "company", "LFearLocks$Company;", true)
  | _ => ("FearLocks", "pastimes", "LFearLocks$Pastimes;", true)
def tyX11 : Nat → FieldType := fun k => match k with
  | 0 => .object "FearLocks$Tape"
  | 1 => .object "FearLocks$City"
  | 2 => .object "FearLocks$City"
  | 3 => .object "FearLocks$City"
  | 4 => .boolean
  | 5 => .object "FearLocks$Law"
  | 6 => .object "FearLocks$Law"
  | 7 => .object "FearLocks$Nightfall"
  | 8 => .object "FearLocks$Keys"
  | 9 => .object "FearLocks$Company"
  | _ => .object "FearLocks$Pastimes"
theorem nmX11 : ∀ a, a < 11 → ∀ b, b < 11 → a ≠ b → (TX11 a).2.1 ≠ (TX11 b).2.1 := by decide +kernel
theorem tyX11_ok : ∀ k, k < 11 → parseFieldDescriptor (TX11 k).2.2.1 = some (tyX11 k) := by decide +kernel
abbrev cX11_init : ByteArray := prog_1_method_1_code
def yX11_init : MethodName := ⟨RX11, "<init>", "()V"⟩
abbrev cX11_feed : ByteArray := prog_1_method_2_code
def yX11_feed : MethodName := ⟨RX11, "feed", "(IIIII)I"⟩
abbrev cX11_law : ByteArray := prog_1_method_3_code
def yX11_law : MethodName := ⟨RX11, "law", "(I)I"⟩
abbrev cX11_dreads : ByteArray := prog_1_method_4_code
def yX11_dreads : MethodName := ⟨RX11, "dreads", "(II)I"⟩
abbrev cX11_orders : ByteArray := prog_1_method_5_code
def yX11_orders : MethodName := ⟨RX11, "orders", "(I)I"⟩
abbrev cX11_nights : ByteArray := prog_1_method_6_code
def yX11_nights : MethodName := ⟨RX11, "nights", "(I)I"⟩
abbrev cX11_tried : ByteArray := prog_1_method_7_code
def yX11_tried : MethodName := ⟨RX11, "tried", "(II)I"⟩
abbrev cX11_canBeTried : ByteArray := prog_1_method_8_code
def yX11_canBeTried : MethodName := ⟨RX11, "canBeTried", "(I)Z"⟩
abbrev cX11_personIs : ByteArray := prog_1_method_9_code
def yX11_personIs : MethodName := ⟨RX11, "personIs", "(II)I"⟩
abbrev cX11_doorIs : ByteArray := prog_1_method_10_code
def yX11_doorIs : MethodName := ⟨RX11, "doorIs", "(II)I"⟩
abbrev cX11_taught : ByteArray := prog_1_method_11_code
def yX11_taught : MethodName := ⟨RX11, "taught", "(II)I"⟩
abbrev cX11_crew : ByteArray := prog_1_method_12_code
def yX11_crew : MethodName := ⟨RX11, "crew", "(I)I"⟩
abbrev cX11_lodgings : ByteArray := prog_1_method_13_code
def yX11_lodgings : MethodName := ⟨RX11, "lodgings", "()I"⟩
abbrev cX11_couples : ByteArray := prog_1_method_14_code
def yX11_couples : MethodName := ⟨RX11, "couples", "(I)I"⟩
abbrev cX11_fashion : ByteArray := prog_1_method_15_code
def yX11_fashion : MethodName := ⟨RX11, "fashion", "(III)I"⟩
abbrev cX11_fears : ByteArray := prog_1_method_16_code
def yX11_fears : MethodName := ⟨RX11, "fears", "(I)I"⟩
abbrev cX11_unlike : ByteArray := prog_1_method_17_code
def yX11_unlike : MethodName := ⟨RX11, "unlike", "(II)I"⟩
abbrev cX11_mostLike : ByteArray := prog_1_method_18_code
def yX11_mostLike : MethodName := ⟨RX11, "mostLike", "(I)I"⟩
abbrev cX11_circles : ByteArray := prog_1_method_19_code
def yX11_circles : MethodName := ⟨RX11, "circles", "(II)I"⟩
abbrev cX11_keystones : ByteArray := prog_1_method_20_code
def yX11_keystones : MethodName := ⟨RX11, "keystones", "()I"⟩
abbrev cX11_steps : ByteArray := prog_1_method_21_code
def yX11_steps : MethodName := ⟨RX11, "steps", "(II)I"⟩
abbrev cX11_guess : ByteArray := prog_1_method_22_code
def yX11_guess : MethodName := ⟨RX11, "guess", "(II)I"⟩
abbrev cX11_sentNext : ByteArray := prog_1_method_23_code
def yX11_sentNext : MethodName := ⟨RX11, "sentNext", "(II)I"⟩
abbrev cX11_guards : ByteArray := prog_1_method_24_code
def yX11_guards : MethodName := ⟨RX11, "guards", "(I)I"⟩
abbrev cX11_word : ByteArray := prog_1_method_25_code
def yX11_word : MethodName := ⟨RX11, "word", "(III)J"⟩
abbrev cX11_rooms : ByteArray := prog_1_method_26_code
def yX11_rooms : MethodName := ⟨RX11, "rooms", "(II)I"⟩
abbrev cX11_seed : ByteArray := prog_1_method_27_code
def yX11_seed : MethodName := ⟨RX11, "seed", "(I)Z"⟩
abbrev cX11_keep : ByteArray := prog_1_method_28_code
def yX11_keep : MethodName := ⟨RX11, "keep", "()I"⟩
abbrev cX11_undo : ByteArray := prog_1_method_29_code
def yX11_undo : MethodName := ⟨RX11, "undo", "()Z"⟩
abbrev cX11_check : ByteArray := prog_1_method_30_code
def yX11_check : MethodName := ⟨RX11, "check", "(I)I"⟩
abbrev cX11_count : ByteArray := prog_1_method_31_code
def yX11_count : MethodName := ⟨RX11, "count", "(I)I"⟩
abbrev cX11_bounded : ByteArray := prog_1_method_32_code
def yX11_bounded : MethodName := ⟨RX11, "bounded", "(III)I"⟩
abbrev cX11_has : ByteArray := prog_1_method_33_code
def yX11_has : MethodName := ⟨RX11, "has", "(II)Z"⟩
def RX12 : String := "FearLocksModel"
def TX12 : u_T := fun k => match k with
  | 0 => ("FearLocksModel", "now", "[I", true)
  | 1 => ("FearLocksModel", "aside", "[I", true)
  | 2 => ("FearLocksModel", "kept", "[I", true)
  | 3 => ("FearLocksModel", "knownOf", "[I", true)
  | 4 => ("FearLocksModel", "wasKnown", "[I", true)
  | 5 => ("FearLocksModel", "fearAt", "[I", true)
  | 6 => ("FearLocksModel", "strengthAt", "[I", true)
  | 7 => ("FearLocksModel", "wasFear", "[I", true)
  | 8 => ("FearLocksModel", "wasStrength", "[I", true)
  | 9 => ("FearLocksModel", "toldPeople", "I", false)
  | 10 => ("FearLocksModel", "toldDoors", "I", false)
  | 11 => ("FearLocksModel", "wasDoors", "I", false)
  | 12 => ("FearLocksModel", "tape", "[B", true)
  | 13 => ("FearLocksModel", "taped", "I", false)
  | 14 => ("FearLocksModel", "place0", "I", false)
  | 15 => ("FearLocksModel", "length0", "I", false)
  | 16 => ("FearLocksModel", "fault", "I", false)
  | 17 => ("FearLocksModel", "number0", "I", false)
  | 18 => ("FearLocksModel", "open", "I", false)
  | 19 => ("FearLocksModel", "codeMany", "I", false)
  | 20 => ("FearLocksModel", "waiting", "I", false)
  | 21 => ("FearLocksModel", "saidMany", "I", false)
  | 22 => ("FearLocksModel", "clauses", "I", false)
  | 23 => ("FearLocksModel", "said", "[I", true)
  | 24 => ("FearLocksModel", "waitsAt", "[I", true)
  | 25 => ("FearLocksModel", "saidLetter", "[I", true)
  | 26 => ("FearLocksModel", "saidFrom", "[I", true)
  | 27 => ("FearLocksModel", "saidHalf", "[I", true)
  | 28 => ("FearLocksModel", "saidTo", "[I", true)
  | 29 => ("FearLocksModel", "codes", "[I", true)
  | 30 => ("FearLocksModel", "clauseOf", "[I", true)
  | 31 => ("FearLocksModel", "codeFrom", "[I", true)
  | 32 => ("FearLocksModel", "codeHalf", "[I", true)
  | 33 => ("FearLocksModel", "codeTo", "[I", true)
  | 34 => ("FearLocksModel", "stack", "[I", true)
  | 35 => ("FearLocksModel", "facts", "[I", true)
  | 36 => ("FearLocksModel", "lines", "I", false)
  | 37 => ("FearLocksModel", "meantSet", "I", false)
  | 38 => ("FearLocksModel", "openedNow", "I", false)
  | 39 => ("FearLocksModel", "vainNow", "I", false)
  | 40 => ("FearLocksModel", "fearThen", "[I", true)
  | 41 => ("FearLocksModel", "moreBy", "[I", true)
  | 42 => ("FearLocksModel", "canBe", "[Z", true)
  | 43 => ("FearLocksModel", "mostOf", "[I", true)
  | 44 => ("FearLocksModel", "whoOf", "[I", true)
  | 45 => ("FearLocksModel", "lowNow", "I", false)
  | 46 => ("FearLocksModel", "highNow", "I", false)
  | 47 => ("FearLocksModel", "orderNow", "[I", true)
  | 48 => ("FearLocksModel", "wordsOf", "[J", true)
  | 49 => ("FearLocksModel", "wordsThen", "[J", true)
  | 50 => ("FearLocksModel", "leastBy", "[I", true)
  | _ => ("FearLocksModel", "isKept", "Z", false)
def tyX12 : Nat → FieldType := fun k => match k with
  | 0 => .array .int
  | 1 => .array .int
  | 2 => .array .int
  | 3 => .array .int
  | 4 => .array .int
  | 5 => .array .int
  | 6 => .array .int
  | 7 => .array .int
  | 8 => .array .int
  | 9 => .int
  | 10 => .int
  | 11 => .int
  | 12 => .array .byte
  | 13 => .int
  | 14 => .int
  | 15 => .int
  | 16 => .int
  | 17 => .int
  | 18 => .int
  | 19 => .int
  | 20 => .int
  | 21 => .int
  | 22 => .int
  | 23 => .array .int
  | 24 => .array .int
  | 25 => .array .int
  | 26 => .array .int
  | 27 => .array .int
  | 28 => .array .int
  | 29 => .array .int
  | 30 => .array .int
  | 31 => .array .int
  | 32 => .array .int
  | 33 => .array .int
  | 34 => .array .int
  | 35 => .array .int
  | 36 => .int
  | 37 => .int
  | 38 => .int
  | 39 => .int
  | 40 => .array .int
  | 41 => .array .int
  | 42 => .array .boolean
  | 43 => .array .int
  | 44 => .array .int
  | 45 => .int
  | 46 => .int
  | 47 => .array .int
  | 48 => .array .long
  | 49 => .array .long
  | 50 => .array .int
  | _ => .boolean
theorem nmX12 : ∀ a, a < 52 → ∀ b, b < 52 → a ≠ b → (TX12 a).2.1 ≠ (TX12 b).2.1 := by decide +kernel
theorem tyX12_ok : ∀ k, k < 52 → parseFieldDescriptor (TX12 k).2.2.1 = some (tyX12 k) := by decide +kernel
abbrev cX12_init : ByteArray := prog_14_method_1_code
def yX12_init : MethodName := ⟨RX12, "<init>", "()V"⟩
abbrev cX12_in : ByteArray := prog_14_method_2_code
def yX12_in : MethodName := ⟨RX12, "in", "(III)Z"⟩
abbrev cX12_min : ByteArray := prog_14_method_3_code
def yX12_min : MethodName := ⟨RX12, "min", "(II)I"⟩
abbrev cX12_max : ByteArray := prog_14_method_4_code
def yX12_max : MethodName := ⟨RX12, "max", "(II)I"⟩
abbrev cX12_size : ByteArray := prog_14_method_5_code
def yX12_size : MethodName := ⟨RX12, "size", "(I)I"⟩
abbrev cX12_limit : ByteArray := prog_14_method_6_code
def yX12_limit : MethodName := ⟨RX12, "limit", "(I)I"⟩
abbrev cX12_has : ByteArray := prog_14_method_7_code
def yX12_has : MethodName := ⟨RX12, "has", "(II)Z"⟩
abbrev cX12_bits : ByteArray := prog_14_method_8_code
def yX12_bits : MethodName := ⟨RX12, "bits", "(I)I"⟩
abbrev cX12_copies : ByteArray := prog_14_method_9_code
def yX12_copies : MethodName := ⟨RX12, "copies", "([I[I)V"⟩
abbrev cX12_isTold : ByteArray := prog_14_method_10_code
def yX12_isTold : MethodName := ⟨RX12, "isTold", "(I)Z"⟩
abbrev cX12_isDoor : ByteArray := prog_14_method_11_code
def yX12_isDoor : MethodName := ⟨RX12, "isDoor", "(I)Z"⟩
abbrev cX12_dread : ByteArray := prog_14_method_12_code
def yX12_dread : MethodName := ⟨RX12, "dread", "(II)I"⟩
abbrev cX12_greatest : ByteArray := prog_14_method_13_code
def yX12_greatest : MethodName := ⟨RX12, "greatest", "(I)I"⟩
abbrev cX12_fearOf : ByteArray := prog_14_method_14_code
def yX12_fearOf : MethodName := ⟨RX12, "fearOf", "(I)I"⟩
abbrev cX12_unlocks : ByteArray := prog_14_method_15_code
def yX12_unlocks : MethodName := ⟨RX12, "unlocks", "(II)Z"⟩
abbrev cX12_doorsOf : ByteArray := prog_14_method_16_code
def yX12_doorsOf : MethodName := ⟨RX12, "doorsOf", "(I)I"⟩
abbrev cX12_whoUnlocks : ByteArray := prog_14_method_17_code
def yX12_whoUnlocks : MethodName := ⟨RX12, "whoUnlocks", "(I)I"⟩
abbrev cX12_types : ByteArray := prog_14_method_18_code
def yX12_types : MethodName := ⟨RX12, "types", "(I)V"⟩
abbrev cX12_feed : ByteArray := prog_14_method_19_code
def yX12_feed : MethodName := ⟨RX12, "feed", "(IIIII)I"⟩
abbrev cX12_octet : ByteArray := prog_14_method_20_code
def yX12_octet : MethodName := ⟨RX12, "octet", "(I)I"⟩
abbrev cX12_here : ByteArray := prog_14_method_21_code
def yX12_here : MethodName := ⟨RX12, "here", "()I"⟩
abbrev cX12_isDigit : ByteArray := prog_14_method_22_code
def yX12_isDigit : MethodName := ⟨RX12, "isDigit", "()Z"⟩
abbrev cX12_wrongAt : ByteArray := prog_14_method_23_code
def yX12_wrongAt : MethodName := ⟨RX12, "wrongAt", "(II)Z"⟩
abbrev cX12_takes : ByteArray := prog_14_method_24_code
def yX12_takes : MethodName := ⟨RX12, "takes", "(I)Z"⟩
abbrev cX12_readsNumber : ByteArray := prog_14_method_25_code
def yX12_readsNumber : MethodName := ⟨RX12, "readsNumber", "()Z"⟩
abbrev cX12_notes : ByteArray := prog_14_method_26_code
def yX12_notes : MethodName := ⟨RX12, "notes", "(II)V"⟩
abbrev cX12_opens : ByteArray := prog_14_method_27_code
def yX12_opens : MethodName := ⟨RX12, "opens", "(I)Z"⟩
abbrev cX12_waitTop : ByteArray := prog_14_method_28_code
def yX12_waitTop : MethodName := ⟨RX12, "waitTop", "()I"⟩
abbrev cX12_factOf : ByteArray := prog_14_method_29_code
def yX12_factOf : MethodName := ⟨RX12, "factOf", "(I)I"⟩
abbrev cX12_sumSign : ByteArray := prog_14_method_30_code
def yX12_sumSign : MethodName := ⟨RX12, "sumSign", "(I)I"⟩
abbrev cX12_closesSums : ByteArray := prog_14_method_31_code
def yX12_closesSums : MethodName := ⟨RX12, "closesSums", "(Z)V"⟩
abbrev cX12_readsFactor : ByteArray := prog_14_method_32_code
def yX12_readsFactor : MethodName := ⟨RX12, "readsFactor", "()Z"⟩
abbrev cX12_hasOpenSum : ByteArray := prog_14_method_33_code
def yX12_hasOpenSum : MethodName := ⟨RX12, "hasOpenSum", "(I)Z"⟩
abbrev cX12_readsSum : ByteArray := prog_14_method_34_code
def yX12_readsSum : MethodName := ⟨RX12, "readsSum", "()Z"⟩
abbrev cX12_endsPiece : ByteArray := prog_14_method_35_code
def yX12_endsPiece : MethodName := ⟨RX12, "endsPiece", "()V"⟩
abbrev cX12_lands : ByteArray := prog_14_method_36_code
def yX12_lands : MethodName := ⟨RX12, "lands", "(Z)V"⟩
abbrev cX12_jumps : ByteArray := prog_14_method_37_code
def yX12_jumps : MethodName := ⟨RX12, "jumps", "(I)V"⟩
abbrev cX12_readsCompared : ByteArray := prog_14_method_38_code
def yX12_readsCompared : MethodName := ⟨RX12, "readsCompared", "()Z"⟩
abbrev cX12_readsCondition : ByteArray := prog_14_method_39_code
def yX12_readsCondition : MethodName := ⟨RX12, "readsCondition", "()Z"⟩
abbrev cX12_readsRule : ByteArray := prog_14_method_40_code
def yX12_readsRule : MethodName := ⟨RX12, "readsRule", "()Z"⟩
abbrev cX12_beginsText : ByteArray := prog_14_method_41_code
def yX12_beginsText : MethodName := ⟨RX12, "beginsText", "(I)V"⟩
abbrev cX12_law : ByteArray := prog_14_method_42_code
def yX12_law : MethodName := ⟨RX12, "law", "(I)I"⟩
abbrev cX12_reckon : ByteArray := prog_14_method_43_code
def yX12_reckon : MethodName := ⟨RX12, "reckon", "(III)I"⟩
abbrev cX12_reckonsTo : ByteArray := prog_14_method_44_code
def yX12_reckonsTo : MethodName := ⟨RX12, "reckonsTo", "(II)I"⟩
abbrev cX12_byLaw : ByteArray := prog_14_method_45_code
def yX12_byLaw : MethodName := ⟨RX12, "byLaw", "(II)I"⟩
abbrev cX12_holdsAny : ByteArray := prog_14_method_46_code
def yX12_holdsAny : MethodName := ⟨RX12, "holdsAny", "(I)Z"⟩
abbrev cX12_isLetter : ByteArray := prog_14_method_47_code
def yX12_isLetter : MethodName := ⟨RX12, "isLetter", "()Z"⟩
abbrev cX12_readsAmount : ByteArray := prog_14_method_48_code
def yX12_readsAmount : MethodName := ⟨RX12, "readsAmount", "()Z"⟩
abbrev cX12_readsMeant : ByteArray := prog_14_method_49_code
def yX12_readsMeant : MethodName := ⟨RX12, "readsMeant", "()Z"⟩
abbrev cX12_readsDread : ByteArray := prog_14_method_50_code
def yX12_readsDread : MethodName := ⟨RX12, "readsDread", "(I)Z"⟩
abbrev cX12_dreads : ByteArray := prog_14_method_51_code
def yX12_dreads : MethodName := ⟨RX12, "dreads", "(II)I"⟩
abbrev cX12_readsOne : ByteArray := prog_14_method_52_code
def yX12_readsOne : MethodName := ⟨RX12, "readsOne", "()Z"⟩
abbrev cX12_readsTwo : ByteArray := prog_14_method_53_code
def yX12_readsTwo : MethodName := ⟨RX12, "readsTwo", "()Z"⟩
abbrev cX12_readsDoor : ByteArray := prog_14_method_54_code
def yX12_readsDoor : MethodName := ⟨RX12, "readsDoor", "()Z"⟩
abbrev cX12_readsOrder : ByteArray := prog_14_method_55_code
def yX12_readsOrder : MethodName := ⟨RX12, "readsOrder", "()Z"⟩
abbrev cX12_laysAside : ByteArray := prog_14_method_56_code
def yX12_laysAside : MethodName := ⟨RX12, "laysAside", "()V"⟩
abbrev cX12_putsBack : ByteArray := prog_14_method_57_code
def yX12_putsBack : MethodName := ⟨RX12, "putsBack", "()V"⟩
abbrev cX12_orders : ByteArray := prog_14_method_58_code
def yX12_orders : MethodName := ⟨RX12, "orders", "(I)I"⟩
abbrev cX12_feels : ByteArray := prog_14_method_59_code
def yX12_feels : MethodName := ⟨RX12, "feels", "(II)V"⟩
abbrev cX12_feelsDoor : ByteArray := prog_14_method_60_code
def yX12_feelsDoor : MethodName := ⟨RX12, "feelsDoor", "(III)V"⟩
abbrev cX12_likedMost : ByteArray := prog_14_method_61_code
def yX12_likedMost : MethodName := ⟨RX12, "likedMost", "(II)I"⟩
abbrev cX12_triesDoor : ByteArray := prog_14_method_62_code
def yX12_triesDoor : MethodName := ⟨RX12, "triesDoor", "(III)V"⟩
abbrev cX12_goesOut : ByteArray := prog_14_method_63_code
def yX12_goesOut : MethodName := ⟨RX12, "goesOut", "(I)V"⟩
abbrev cX12_caughtBy : ByteArray := prog_14_method_64_code
def yX12_caughtBy : MethodName := ⟨RX12, "caughtBy", "(II)I"⟩
abbrev cX12_catches : ByteArray := prog_14_method_65_code
def yX12_catches : MethodName := ⟨RX12, "catches", "()V"⟩
abbrev cX12_nightGoes : ByteArray := prog_14_method_66_code
def yX12_nightGoes : MethodName := ⟨RX12, "nightGoes", "()V"⟩
abbrev cX12_nightsGo : ByteArray := prog_14_method_67_code
def yX12_nightsGo : MethodName := ⟨RX12, "nightsGo", "(I)V"⟩
abbrev cX12_nights : ByteArray := prog_14_method_68_code
def yX12_nights : MethodName := ⟨RX12, "nights", "(I)I"⟩
abbrev cX12_orNone : ByteArray := prog_14_method_69_code
def yX12_orNone : MethodName := ⟨RX12, "orNone", "(I)I"⟩
abbrev cX12_tried : ByteArray := prog_14_method_70_code
def yX12_tried : MethodName := ⟨RX12, "tried", "(II)I"⟩
abbrev cX12_dreadSum : ByteArray := prog_14_method_71_code
def yX12_dreadSum : MethodName := ⟨RX12, "dreadSum", "(I)I"⟩
abbrev cX12_personIs : ByteArray := prog_14_method_72_code
def yX12_personIs : MethodName := ⟨RX12, "personIs", "(II)I"⟩
abbrev cX12_doorIs : ByteArray := prog_14_method_73_code
def yX12_doorIs : MethodName := ⟨RX12, "doorIs", "(II)I"⟩
abbrev cX12_taught : ByteArray := prog_14_method_74_code
def yX12_taught : MethodName := ⟨RX12, "taught", "(II)I"⟩
abbrev cX12_laysWho : ByteArray := prog_14_method_75_code
def yX12_laysWho : MethodName := ⟨RX12, "laysWho", "()V"⟩
abbrev cX12_isCrew : ByteArray := prog_14_method_76_code
def yX12_isCrew : MethodName := ⟨RX12, "isCrew", "(I)Z"⟩
abbrev cX12_crew : ByteArray := prog_14_method_77_code
def yX12_crew : MethodName := ⟨RX12, "crew", "(I)I"⟩
abbrev cX12_lodgings : ByteArray := prog_14_method_78_code
def yX12_lodgings : MethodName := ⟨RX12, "lodgings", "()I"⟩
abbrev cX12_areCouple : ByteArray := prog_14_method_79_code
def yX12_areCouple : MethodName := ⟨RX12, "areCouple", "(III)Z"⟩
abbrev cX12_couples : ByteArray := prog_14_method_80_code
def yX12_couples : MethodName := ⟨RX12, "couples", "(I)I"⟩
abbrev cX12_lowest : ByteArray := prog_14_method_81_code
def yX12_lowest : MethodName := ⟨RX12, "lowest", "(I)I"⟩
abbrev cX12_firstWith : ByteArray := prog_14_method_82_code
def yX12_firstWith : MethodName := ⟨RX12, "firstWith", "(I)I"⟩
abbrev cX12_fashion : ByteArray := prog_14_method_83_code
def yX12_fashion : MethodName := ⟨RX12, "fashion", "(III)I"⟩
abbrev cX12_fears : ByteArray := prog_14_method_84_code
def yX12_fears : MethodName := ⟨RX12, "fears", "(I)I"⟩
abbrev cX12_unlikeBy : ByteArray := prog_14_method_85_code
def yX12_unlikeBy : MethodName := ⟨RX12, "unlikeBy", "(II)I"⟩
abbrev cX12_unlike : ByteArray := prog_14_method_86_code
def yX12_unlike : MethodName := ⟨RX12, "unlike", "(II)I"⟩
abbrev cX12_mostLike : ByteArray := prog_14_method_87_code
def yX12_mostLike : MethodName := ⟨RX12, "mostLike", "(I)I"⟩
abbrev cX12_circleOf : ByteArray := prog_14_method_88_code
def yX12_circleOf : MethodName := ⟨RX12, "circleOf", "(II)I"⟩
abbrev cX12_circles : ByteArray := prog_14_method_89_code
def yX12_circles : MethodName := ⟨RX12, "circles", "(II)I"⟩
abbrev cX12_groupOf : ByteArray := prog_14_method_90_code
def yX12_groupOf : MethodName := ⟨RX12, "groupOf", "(II)I"⟩
abbrev cX12_isKeystone : ByteArray := prog_14_method_91_code
def yX12_isKeystone : MethodName := ⟨RX12, "isKeystone", "(I)Z"⟩
abbrev cX12_keystones : ByteArray := prog_14_method_92_code
def yX12_keystones : MethodName := ⟨RX12, "keystones", "()I"⟩
abbrev cX12_steps : ByteArray := prog_14_method_93_code
def yX12_steps : MethodName := ⟨RX12, "steps", "(II)I"⟩
abbrev cX12_bounds : ByteArray := prog_14_method_94_code
def yX12_bounds : MethodName := ⟨RX12, "bounds", "(II)Z"⟩
abbrev cX12_guess : ByteArray := prog_14_method_95_code
def yX12_guess : MethodName := ⟨RX12, "guess", "(II)I"⟩
abbrev cX12_leaves : ByteArray := prog_14_method_96_code
def yX12_leaves : MethodName := ⟨RX12, "leaves", "(II)I"⟩
abbrev cX12_sentNext : ByteArray := prog_14_method_97_code
def yX12_sentNext : MethodName := ⟨RX12, "sentNext", "(II)I"⟩
abbrev cX12_changesOrder : ByteArray := prog_14_method_98_code
def yX12_changesOrder : MethodName := ⟨RX12, "changesOrder", "(II)V"⟩
abbrev cX12_nextOrder : ByteArray := prog_14_method_99_code
def yX12_nextOrder : MethodName := ⟨RX12, "nextOrder", "(I)Z"⟩
abbrev cX12_canStand : ByteArray := prog_14_method_100_code
def yX12_canStand : MethodName := ⟨RX12, "canStand", "(I)Z"⟩
abbrev cX12_guards : ByteArray := prog_14_method_101_code
def yX12_guards : MethodName := ⟨RX12, "guards", "(I)I"⟩
abbrev cX12_word : ByteArray := prog_14_method_102_code
def yX12_word : MethodName := ⟨RX12, "word", "(III)J"⟩
abbrev cX12_rooms : ByteArray := prog_14_method_103_code
def yX12_rooms : MethodName := ⟨RX12, "rooms", "(II)I"⟩
abbrev cX12_sleeps : ByteArray := prog_14_method_104_code
def yX12_sleeps : MethodName := ⟨RX12, "sleeps", "(III)I"⟩
abbrev cX12_seed : ByteArray := prog_14_method_105_code
def yX12_seed : MethodName := ⟨RX12, "seed", "(I)Z"⟩
abbrev cX12_keep : ByteArray := prog_14_method_106_code
def yX12_keep : MethodName := ⟨RX12, "keep", "()I"⟩
abbrev cX12_undo : ByteArray := prog_14_method_107_code
def yX12_undo : MethodName := ⟨RX12, "undo", "()Z"⟩
abbrev cX12_check : ByteArray := prog_14_method_108_code
def yX12_check : MethodName := ⟨RX12, "check", "(I)I"⟩
abbrev cX12_twos : ByteArray := prog_14_method_109_code
def yX12_twos : MethodName := ⟨RX12, "twos", "()I"⟩
abbrev cX12_openedOfAll : ByteArray := prog_14_method_110_code
def yX12_openedOfAll : MethodName := ⟨RX12, "openedOfAll", "()I"⟩
abbrev cX12_count : ByteArray := prog_14_method_111_code
def yX12_count : MethodName := ⟨RX12, "count", "(I)I"⟩
def RJ11 : String := "java/lang/Character"
abbrev cJ11_isValidCodePoint_9a6ad : ByteArray := prog_15_method_11_code
def yJ11_isValidCodePoint_9a6ad : MethodName := ⟨RJ11, "isValidCodePoint", "(I)Z"⟩
abbrev cJ11_highSurrogate_5068e : ByteArray := prog_15_method_28_code
def yJ11_highSurrogate_5068e : MethodName := ⟨RJ11, "highSurrogate", "(I)C"⟩
abbrev cJ11_lowSurrogate_5068e : ByteArray := prog_15_method_29_code
def yJ11_lowSurrogate_5068e : MethodName := ⟨RJ11, "lowSurrogate", "(I)C"⟩
def RJ6 : String := "java/lang/Integer"
abbrev cJ6_bitCount_0f7a4 : ByteArray := prog_16_method_49_code
def yJ6_bitCount_0f7a4 : MethodName := ⟨RJ6, "bitCount", "(I)I"⟩
def RJ9 : String := "java/lang/Math"
abbrev cJ9_abs_0f7a4 : ByteArray := prog_17_method_59_code
def yJ9_abs_0f7a4 : MethodName := ⟨RJ9, "abs", "(I)I"⟩
abbrev cJ9_max_7cf53 : ByteArray := prog_17_method_65_code
def yJ9_max_7cf53 : MethodName := ⟨RJ9, "max", "(II)I"⟩
abbrev cJ9_min_7cf53 : ByteArray := prog_17_method_69_code
def yJ9_min_7cf53 : MethodName := ⟨RJ9, "min", "(II)I"⟩
def RJ0 : String := "java/lang/String"
abbrev cJ0_length_8abf5 : ByteArray := prog_18_method_54_code
def yJ0_length_8abf5 : MethodName := ⟨RJ0, "length", "()I"⟩
abbrev cJ0_indexOf_0f7a4 : ByteArray := prog_18_method_79_code
def yJ0_indexOf_0f7a4 : MethodName := ⟨RJ0, "indexOf", "(I)I"⟩
abbrev cJ0_indexOf_7cf53 : ByteArray := prog_18_method_80_code
def yJ0_indexOf_7cf53 : MethodName := ⟨RJ0, "indexOf", "(II)I"⟩
abbrev cJ0_coder_7d493 : ByteArray := prog_18_method_152_code
def yJ0_coder_7d493 : MethodName := ⟨RJ0, "coder", "()B"⟩
abbrev cJ0_isLatin1_aae02 : ByteArray := prog_18_method_154_code
def yJ0_isLatin1_aae02 : MethodName := ⟨RJ0, "isLatin1", "()Z"⟩
abbrev cJ0_checkBoundsBeginEnd_23922 : ByteArray := prog_18_method_158_code
def yJ0_checkBoundsBeginEnd_23922 : MethodName := ⟨RJ0, "checkBoundsBeginEnd", "(III)V"⟩
def RJ1 : String := "java/lang/StringLatin1"
abbrev cJ1_canEncode_9a6ad : ByteArray := prog_19_method_4_code
def yJ1_canEncode_9a6ad : MethodName := ⟨RJ1, "canEncode", "(I)Z"⟩
abbrev cJ1_indexOf_4cfef : ByteArray := prog_19_method_22_code
def yJ1_indexOf_4cfef : MethodName := ⟨RJ1, "indexOf", "([BIII)I"⟩
abbrev cJ1_indexOfChar_4cfef : ByteArray := prog_19_method_23_code
def yJ1_indexOfChar_4cfef : MethodName := ⟨RJ1, "indexOfChar", "([BIII)I"⟩
def RJ2 : String := "java/lang/StringUTF16"
abbrev cJ2_getChar_3b067 : ByteArray := prog_20_method_5_code
def yJ2_getChar_3b067 : MethodName := ⟨RJ2, "getChar", "([BI)C"⟩
abbrev cJ2_length_9d52b : ByteArray := prog_20_method_6_code
def yJ2_length_9d52b : MethodName := ⟨RJ2, "length", "([B)I"⟩
abbrev cJ2_indexOf_4cfef : ByteArray := prog_20_method_40_code
def yJ2_indexOf_4cfef : MethodName := ⟨RJ2, "indexOf", "([BIII)I"⟩
abbrev cJ2_indexOfChar_4cfef : ByteArray := prog_20_method_47_code
def yJ2_indexOfChar_4cfef : MethodName := ⟨RJ2, "indexOfChar", "([BIII)I"⟩
abbrev cJ2_indexOfCharUnsafe_4cfef : ByteArray := prog_20_method_48_code
def yJ2_indexOfCharUnsafe_4cfef : MethodName := ⟨RJ2, "indexOfCharUnsafe", "([BIII)I"⟩
abbrev cJ2_indexOfSupplementary_4cfef : ByteArray := prog_20_method_49_code
def yJ2_indexOfSupplementary_4cfef : MethodName := ⟨RJ2, "indexOfSupplementary", "([BIII)I"⟩
abbrev cJ2_checkBoundsBeginEnd_d044e : ByteArray := prog_20_method_93_code
def yJ2_checkBoundsBeginEnd_d044e : MethodName := ⟨RJ2, "checkBoundsBeginEnd", "(II[B)V"⟩
def RJ3 : String := "jdk/internal/util/Preconditions"
abbrev cJ3_checkFromToIndex_8c36e : ByteArray := prog_21_method_12_code
def yJ3_checkFromToIndex_8c36e : MethodName := ⟨RJ3, "checkFromToIndex", "(IIILjava/util/function/BiFunction;)I"⟩
def RL : String := "FearLocksLaw"
abbrev cL_law : ByteArray := code
def yL_law : MethodName := ⟨RL, "law", "([I)Z"⟩
abbrev vwCl : List vw_C := [(RX0, TX0, 9), (RX1, TX1, 2), (RX2, TX2, 3), (RX3, TX3, 1), (RX4, TX4, 10), (RX5, TX5, 2), (RX7, TX7, 3), (RX8, TX8, 2), (RX9, TX9, 2), (RX10, TX10, 5), (RX11, TX11, 11), (RX12, TX12, 52)]
def jJ0_checkBoundsBeginEnd_23922 : MethodName × ByteArray × Nat × Option FieldType := (yJ0_checkBoundsBeginEnd_23922, cJ0_checkBoundsBeginEnd_23922, 3, none)
def jJ0_coder_7d493 : MethodName × ByteArray × Nat × Option FieldType := (yJ0_coder_7d493, cJ0_coder_7d493, 1, (some .byte))
def jJ0_indexOf_0f7a4 : MethodName × ByteArray × Nat × Option FieldType := (yJ0_indexOf_0f7a4, cJ0_indexOf_0f7a4, 2, (some .int))
def jJ0_indexOf_7cf53 : MethodName × ByteArray × Nat × Option FieldType := (yJ0_indexOf_7cf53, cJ0_indexOf_7cf53, 3, (some .int))
def jJ0_isLatin1_aae02 : MethodName × ByteArray × Nat × Option FieldType := (yJ0_isLatin1_aae02, cJ0_isLatin1_aae02, 1, (some .boolean))
def jJ0_length_8abf5 : MethodName × ByteArray × Nat × Option FieldType := (yJ0_length_8abf5, cJ0_length_8abf5, 1, (some .int))
def jJ11_highSurrogate_5068e : MethodName × ByteArray × Nat × Option FieldType := (yJ11_highSurrogate_5068e, cJ11_highSurrogate_5068e, 1, (some .char))
def jJ11_isValidCodePoint_9a6ad : MethodName × ByteArray × Nat × Option FieldType := (yJ11_isValidCodePoint_9a6ad, cJ11_isValidCodePoint_9a6ad, 2, (some .boolean))
def jJ11_lowSurrogate_5068e : MethodName × ByteArray × Nat × Option FieldType := (yJ11_lowSurrogate_5068e, cJ11_lowSurrogate_5068e, 1, (some .char))
def jJ1_canEncode_9a6ad : MethodName × ByteArray × Nat × Option FieldType := (yJ1_canEncode_9a6ad, cJ1_canEncode_9a6ad, 1, (some .boolean))
def jJ1_indexOfChar_4cfef : MethodName × ByteArray × Nat × Option FieldType := (yJ1_indexOfChar_4cfef, cJ1_indexOfChar_4cfef, 6, (some .int))
def jJ1_indexOf_4cfef : MethodName × ByteArray × Nat × Option FieldType := (yJ1_indexOf_4cfef, cJ1_indexOf_4cfef, 4, (some .int))
def jJ2_checkBoundsBeginEnd_d044e : MethodName × ByteArray × Nat × Option FieldType := (yJ2_checkBoundsBeginEnd_d044e, cJ2_checkBoundsBeginEnd_d044e, 3, none)
def jJ2_getChar_3b067 : MethodName × ByteArray × Nat × Option FieldType := (yJ2_getChar_3b067, cJ2_getChar_3b067, 2, (some .char))
def jJ2_indexOfCharUnsafe_4cfef : MethodName × ByteArray × Nat × Option FieldType := (yJ2_indexOfCharUnsafe_4cfef, cJ2_indexOfCharUnsafe_4cfef, 5, (some .int))
def jJ2_indexOfChar_4cfef : MethodName × ByteArray × Nat × Option FieldType := (yJ2_indexOfChar_4cfef, cJ2_indexOfChar_4cfef, 4, (some .int))
def jJ2_indexOfSupplementary_4cfef : MethodName × ByteArray × Nat × Option FieldType := (yJ2_indexOfSupplementary_4cfef, cJ2_indexOfSupplementary_4cfef, 7, (some .int))
def jJ2_indexOf_4cfef : MethodName × ByteArray × Nat × Option FieldType := (yJ2_indexOf_4cfef, cJ2_indexOf_4cfef, 4, (some .int))
def jJ2_length_9d52b : MethodName × ByteArray × Nat × Option FieldType := (yJ2_length_9d52b, cJ2_length_9d52b, 1, (some .int))
def jJ3_checkFromToIndex_8c36e : MethodName × ByteArray × Nat × Option FieldType := (yJ3_checkFromToIndex_8c36e, cJ3_checkFromToIndex_8c36e, 4, (some .int))
def jJ6_bitCount_0f7a4 : MethodName × ByteArray × Nat × Option FieldType := (yJ6_bitCount_0f7a4, cJ6_bitCount_0f7a4, 1, (some .int))
def jJ9_abs_0f7a4 : MethodName × ByteArray × Nat × Option FieldType := (yJ9_abs_0f7a4, cJ9_abs_0f7a4, 1, (some .int))
def jJ9_max_7cf53 : MethodName × ByteArray × Nat × Option FieldType := (yJ9_max_7cf53, cJ9_max_7cf53, 2, (some .int))
def jJ9_min_7cf53 : MethodName × ByteArray × Nat × Option FieldType := (yJ9_min_7cf53, cJ9_min_7cf53, 2, (some .int))
def jX0_acquaint : MethodName × ByteArray × Nat × Option FieldType := (yX0_acquaint, cX0_acquaint, 4, none)
def jX0_acquaintances : MethodName × ByteArray × Nat × Option FieldType := (yX0_acquaintances, cX0_acquaintances, 3, (some .int))
def jX0_allsFears : MethodName × ByteArray × Nat × Option FieldType := (yX0_allsFears, cX0_allsFears, 3, (some .int))
def jX0_copyDreads : MethodName × ByteArray × Nat × Option FieldType := (yX0_copyDreads, cX0_copyDreads, 4, none)
def jX0_copyFrom : MethodName × ByteArray × Nat × Option FieldType := (yX0_copyFrom, cX0_copyFrom, 3, none)
def jX0_doorsOpenTo : MethodName × ByteArray × Nat × Option FieldType := (yX0_doorsOpenTo, cX0_doorsOpenTo, 4, (some .int))
def jX0_draw : MethodName × ByteArray × Nat × Option FieldType := (yX0_draw, cX0_draw, 1, (some .int))
def jX0_dreadInAll : MethodName × ByteArray × Nat × Option FieldType := (yX0_dreadInAll, cX0_dreadInAll, 4, (some .int))
def jX0_dreadOf : MethodName × ByteArray × Nat × Option FieldType := (yX0_dreadOf, cX0_dreadOf, 3, (some .int))
def jX0_dropDoor : MethodName × ByteArray × Nat × Option FieldType := (yX0_dropDoor, cX0_dropDoor, 2, none)
def jX0_fearOf : MethodName × ByteArray × Nat × Option FieldType := (yX0_fearOf, cX0_fearOf, 5, (some .int))
def jX0_fearsFrom : MethodName × ByteArray × Nat × Option FieldType := (yX0_fearsFrom, cX0_fearsFrom, 5, (some .int))
def jX0_goBackTo : MethodName × ByteArray × Nat × Option FieldType := (yX0_goBackTo, cX0_goBackTo, 3, none)
def jX0_greatestDread : MethodName × ByteArray × Nat × Option FieldType := (yX0_greatestDread, cX0_greatestDread, 4, (some .int))
def jX0_havingFear : MethodName × ByteArray × Nat × Option FieldType := (yX0_havingFear, cX0_havingFear, 4, (some .int))
def jX0_init : MethodName × ByteArray × Nat × Option FieldType := (yX0_init, cX0_init, 1, none)
def jX0_isDoor : MethodName × ByteArray × Nat × Option FieldType := (yX0_isDoor, cX0_isDoor, 2, (some .boolean))
def jX0_isPerson : MethodName × ByteArray × Nat × Option FieldType := (yX0_isPerson, cX0_isPerson, 2, (some .boolean))
def jX0_knownTo : MethodName × ByteArray × Nat × Option FieldType := (yX0_knownTo, cX0_knownTo, 2, (some .int))
def jX0_nobodysFears : MethodName × ByteArray × Nat × Option FieldType := (yX0_nobodysFears, cX0_nobodysFears, 3, (some .int))
def jX0_openedInAll : MethodName × ByteArray × Nat × Option FieldType := (yX0_openedInAll, cX0_openedInAll, 3, (some .int))
def jX0_openedOf : MethodName × ByteArray × Nat × Option FieldType := (yX0_openedOf, cX0_openedOf, 2, (some .int))
def jX0_openersOf : MethodName × ByteArray × Nat × Option FieldType := (yX0_openersOf, cX0_openersOf, 4, (some .int))
def jX0_opens : MethodName × ByteArray × Nat × Option FieldType := (yX0_opens, cX0_opens, 3, (some .boolean))
def jX0_setDread : MethodName × ByteArray × Nat × Option FieldType := (yX0_setDread, cX0_setDread, 4, none)
def jX0_tellDoor : MethodName × ByteArray × Nat × Option FieldType := (yX0_tellDoor, cX0_tellDoor, 4, none)
def jX10_append : MethodName × ByteArray × Nat × Option FieldType := (yX10_append, cX10_append, 3, none)
def jX10_byteAt : MethodName × ByteArray × Nat × Option FieldType := (yX10_byteAt, cX10_byteAt, 2, (some .int))
def jX10_cannotStand : MethodName × ByteArray × Nat × Option FieldType := (yX10_cannotStand, cX10_cannotStand, 1, (some .boolean))
def jX10_expect : MethodName × ByteArray × Nat × Option FieldType := (yX10_expect, cX10_expect, 2, (some .boolean))
def jX10_fail : MethodName × ByteArray × Nat × Option FieldType := (yX10_fail, cX10_fail, 3, (some .boolean))
def jX10_holds : MethodName × ByteArray × Nat × Option FieldType := (yX10_holds, cX10_holds, 4, (some .boolean))
def jX10_init : MethodName × ByteArray × Nat × Option FieldType := (yX10_init, cX10_init, 1, none)
def jX10_isDigit : MethodName × ByteArray × Nat × Option FieldType := (yX10_isDigit, cX10_isDigit, 1, (some .boolean))
def jX10_isFear : MethodName × ByteArray × Nat × Option FieldType := (yX10_isFear, cX10_isFear, 1, (some .boolean))
def jX10_now : MethodName × ByteArray × Nat × Option FieldType := (yX10_now, cX10_now, 1, (some .int))
def jX10_readNumber : MethodName × ByteArray × Nat × Option FieldType := (yX10_readNumber, cX10_readNumber, 4, (some .int))
def jX10_take : MethodName × ByteArray × Nat × Option FieldType := (yX10_take, cX10_take, 2, none)
def jX11_bounded : MethodName × ByteArray × Nat × Option FieldType := (yX11_bounded, cX11_bounded, 3, (some .int))
def jX11_canBeTried : MethodName × ByteArray × Nat × Option FieldType := (yX11_canBeTried, cX11_canBeTried, 2, (some .boolean))
def jX11_check : MethodName × ByteArray × Nat × Option FieldType := (yX11_check, cX11_check, 4, (some .int))
def jX11_circles : MethodName × ByteArray × Nat × Option FieldType := (yX11_circles, cX11_circles, 3, (some .int))
def jX11_count : MethodName × ByteArray × Nat × Option FieldType := (yX11_count, cX11_count, 2, (some .int))
def jX11_couples : MethodName × ByteArray × Nat × Option FieldType := (yX11_couples, cX11_couples, 2, (some .int))
def jX11_crew : MethodName × ByteArray × Nat × Option FieldType := (yX11_crew, cX11_crew, 3, (some .int))
def jX11_doorIs : MethodName × ByteArray × Nat × Option FieldType := (yX11_doorIs, cX11_doorIs, 3, (some .int))
def jX11_dreads : MethodName × ByteArray × Nat × Option FieldType := (yX11_dreads, cX11_dreads, 4, (some .int))
def jX11_fashion : MethodName × ByteArray × Nat × Option FieldType := (yX11_fashion, cX11_fashion, 7, (some .int))
def jX11_fears : MethodName × ByteArray × Nat × Option FieldType := (yX11_fears, cX11_fears, 2, (some .int))
def jX11_feed : MethodName × ByteArray × Nat × Option FieldType := (yX11_feed, cX11_feed, 6, (some .int))
def jX11_guards : MethodName × ByteArray × Nat × Option FieldType := (yX11_guards, cX11_guards, 2, (some .int))
def jX11_guess : MethodName × ByteArray × Nat × Option FieldType := (yX11_guess, cX11_guess, 8, (some .int))
def jX11_has : MethodName × ByteArray × Nat × Option FieldType := (yX11_has, cX11_has, 2, (some .boolean))
def jX11_init : MethodName × ByteArray × Nat × Option FieldType := (yX11_init, cX11_init, 1, none)
def jX11_keep : MethodName × ByteArray × Nat × Option FieldType := (yX11_keep, cX11_keep, 1, (some .int))
def jX11_keystones : MethodName × ByteArray × Nat × Option FieldType := (yX11_keystones, cX11_keystones, 1, (some .int))
def jX11_law : MethodName × ByteArray × Nat × Option FieldType := (yX11_law, cX11_law, 4, (some .int))
def jX11_lodgings : MethodName × ByteArray × Nat × Option FieldType := (yX11_lodgings, cX11_lodgings, 1, (some .int))
def jX11_mostLike : MethodName × ByteArray × Nat × Option FieldType := (yX11_mostLike, cX11_mostLike, 2, (some .int))
def jX11_nights : MethodName × ByteArray × Nat × Option FieldType := (yX11_nights, cX11_nights, 2, (some .int))
def jX11_orders : MethodName × ByteArray × Nat × Option FieldType := (yX11_orders, cX11_orders, 3, (some .int))
def jX11_personIs : MethodName × ByteArray × Nat × Option FieldType := (yX11_personIs, cX11_personIs, 3, (some .int))
def jX11_rooms : MethodName × ByteArray × Nat × Option FieldType := (yX11_rooms, cX11_rooms, 4, (some .int))
def jX11_seed : MethodName × ByteArray × Nat × Option FieldType := (yX11_seed, cX11_seed, 2, (some .boolean))
def jX11_sentNext : MethodName × ByteArray × Nat × Option FieldType := (yX11_sentNext, cX11_sentNext, 4, (some .int))
def jX11_steps : MethodName × ByteArray × Nat × Option FieldType := (yX11_steps, cX11_steps, 3, (some .int))
def jX11_taught : MethodName × ByteArray × Nat × Option FieldType := (yX11_taught, cX11_taught, 3, (some .int))
def jX11_tried : MethodName × ByteArray × Nat × Option FieldType := (yX11_tried, cX11_tried, 3, (some .int))
def jX11_undo : MethodName × ByteArray × Nat × Option FieldType := (yX11_undo, cX11_undo, 1, (some .boolean))
def jX11_unlike : MethodName × ByteArray × Nat × Option FieldType := (yX11_unlike, cX11_unlike, 3, (some .int))
def jX11_word : MethodName × ByteArray × Nat × Option FieldType := (yX11_word, cX11_word, 4, (some .long))
def jX12_areCouple : MethodName × ByteArray × Nat × Option FieldType := (yX12_areCouple, cX12_areCouple, 5, (some .boolean))
def jX12_beginsText : MethodName × ByteArray × Nat × Option FieldType := (yX12_beginsText, cX12_beginsText, 2, none)
def jX12_bits : MethodName × ByteArray × Nat × Option FieldType := (yX12_bits, cX12_bits, 3, (some .int))
def jX12_bounds : MethodName × ByteArray × Nat × Option FieldType := (yX12_bounds, cX12_bounds, 6, (some .boolean))
def jX12_byLaw : MethodName × ByteArray × Nat × Option FieldType := (yX12_byLaw, cX12_byLaw, 5, (some .int))
def jX12_canStand : MethodName × ByteArray × Nat × Option FieldType := (yX12_canStand, cX12_canStand, 4, (some .boolean))
def jX12_catches : MethodName × ByteArray × Nat × Option FieldType := (yX12_catches, cX12_catches, 5, none)
def jX12_caughtBy : MethodName × ByteArray × Nat × Option FieldType := (yX12_caughtBy, cX12_caughtBy, 3, (some .int))
def jX12_changesOrder : MethodName × ByteArray × Nat × Option FieldType := (yX12_changesOrder, cX12_changesOrder, 4, none)
def jX12_check : MethodName × ByteArray × Nat × Option FieldType := (yX12_check, cX12_check, 3, (some .int))
def jX12_circleOf : MethodName × ByteArray × Nat × Option FieldType := (yX12_circleOf, cX12_circleOf, 7, (some .int))
def jX12_circles : MethodName × ByteArray × Nat × Option FieldType := (yX12_circles, cX12_circles, 6, (some .int))
def jX12_closesSums : MethodName × ByteArray × Nat × Option FieldType := (yX12_closesSums, cX12_closesSums, 2, none)
def jX12_copies : MethodName × ByteArray × Nat × Option FieldType := (yX12_copies, cX12_copies, 3, none)
def jX12_count : MethodName × ByteArray × Nat × Option FieldType := (yX12_count, cX12_count, 2, (some .int))
def jX12_couples : MethodName × ByteArray × Nat × Option FieldType := (yX12_couples, cX12_couples, 5, (some .int))
def jX12_crew : MethodName × ByteArray × Nat × Option FieldType := (yX12_crew, cX12_crew, 4, (some .int))
def jX12_doorIs : MethodName × ByteArray × Nat × Option FieldType := (yX12_doorIs, cX12_doorIs, 3, (some .int))
def jX12_doorsOf : MethodName × ByteArray × Nat × Option FieldType := (yX12_doorsOf, cX12_doorsOf, 4, (some .int))
def jX12_dread : MethodName × ByteArray × Nat × Option FieldType := (yX12_dread, cX12_dread, 3, (some .int))
def jX12_dreadSum : MethodName × ByteArray × Nat × Option FieldType := (yX12_dreadSum, cX12_dreadSum, 4, (some .int))
def jX12_dreads : MethodName × ByteArray × Nat × Option FieldType := (yX12_dreads, cX12_dreads, 4, (some .int))
def jX12_endsPiece : MethodName × ByteArray × Nat × Option FieldType := (yX12_endsPiece, cX12_endsPiece, 1, none)
def jX12_factOf : MethodName × ByteArray × Nat × Option FieldType := (yX12_factOf, cX12_factOf, 1, (some .int))
def jX12_fashion : MethodName × ByteArray × Nat × Option FieldType := (yX12_fashion, cX12_fashion, 8, (some .int))
def jX12_fearOf : MethodName × ByteArray × Nat × Option FieldType := (yX12_fearOf, cX12_fearOf, 6, (some .int))
def jX12_fears : MethodName × ByteArray × Nat × Option FieldType := (yX12_fears, cX12_fears, 5, (some .int))
def jX12_feed : MethodName × ByteArray × Nat × Option FieldType := (yX12_feed, cX12_feed, 6, (some .int))
def jX12_feels : MethodName × ByteArray × Nat × Option FieldType := (yX12_feels, cX12_feels, 4, none)
def jX12_feelsDoor : MethodName × ByteArray × Nat × Option FieldType := (yX12_feelsDoor, cX12_feelsDoor, 4, none)
def jX12_firstWith : MethodName × ByteArray × Nat × Option FieldType := (yX12_firstWith, cX12_firstWith, 4, (some .int))
def jX12_goesOut : MethodName × ByteArray × Nat × Option FieldType := (yX12_goesOut, cX12_goesOut, 4, none)
def jX12_greatest : MethodName × ByteArray × Nat × Option FieldType := (yX12_greatest, cX12_greatest, 4, (some .int))
def jX12_groupOf : MethodName × ByteArray × Nat × Option FieldType := (yX12_groupOf, cX12_groupOf, 6, (some .int))
def jX12_guards : MethodName × ByteArray × Nat × Option FieldType := (yX12_guards, cX12_guards, 5, (some .int))
def jX12_guess : MethodName × ByteArray × Nat × Option FieldType := (yX12_guess, cX12_guess, 5, (some .int))
def jX12_has : MethodName × ByteArray × Nat × Option FieldType := (yX12_has, cX12_has, 2, (some .boolean))
def jX12_hasOpenSum : MethodName × ByteArray × Nat × Option FieldType := (yX12_hasOpenSum, cX12_hasOpenSum, 3, (some .boolean))
def jX12_here : MethodName × ByteArray × Nat × Option FieldType := (yX12_here, cX12_here, 1, (some .int))
def jX12_holdsAny : MethodName × ByteArray × Nat × Option FieldType := (yX12_holdsAny, cX12_holdsAny, 3, (some .boolean))
def jX12_in : MethodName × ByteArray × Nat × Option FieldType := (yX12_in, cX12_in, 3, (some .boolean))
def jX12_init : MethodName × ByteArray × Nat × Option FieldType := (yX12_init, cX12_init, 1, none)
def jX12_isCrew : MethodName × ByteArray × Nat × Option FieldType := (yX12_isCrew, cX12_isCrew, 3, (some .boolean))
def jX12_isDigit : MethodName × ByteArray × Nat × Option FieldType := (yX12_isDigit, cX12_isDigit, 1, (some .boolean))
def jX12_isDoor : MethodName × ByteArray × Nat × Option FieldType := (yX12_isDoor, cX12_isDoor, 2, (some .boolean))
def jX12_isKeystone : MethodName × ByteArray × Nat × Option FieldType := (yX12_isKeystone, cX12_isKeystone, 3, (some .boolean))
def jX12_isLetter : MethodName × ByteArray × Nat × Option FieldType := (yX12_isLetter, cX12_isLetter, 1, (some .boolean))
def jX12_isTold : MethodName × ByteArray × Nat × Option FieldType := (yX12_isTold, cX12_isTold, 2, (some .boolean))
def jX12_jumps : MethodName × ByteArray × Nat × Option FieldType := (yX12_jumps, cX12_jumps, 2, none)
def jX12_keep : MethodName × ByteArray × Nat × Option FieldType := (yX12_keep, cX12_keep, 1, (some .int))
def jX12_keystones : MethodName × ByteArray × Nat × Option FieldType := (yX12_keystones, cX12_keystones, 3, (some .int))
def jX12_lands : MethodName × ByteArray × Nat × Option FieldType := (yX12_lands, cX12_lands, 3, none)
def jX12_law : MethodName × ByteArray × Nat × Option FieldType := (yX12_law, cX12_law, 4, (some .int))
def jX12_laysAside : MethodName × ByteArray × Nat × Option FieldType := (yX12_laysAside, cX12_laysAside, 2, none)
def jX12_laysWho : MethodName × ByteArray × Nat × Option FieldType := (yX12_laysWho, cX12_laysWho, 2, none)
def jX12_leaves : MethodName × ByteArray × Nat × Option FieldType := (yX12_leaves, cX12_leaves, 4, (some .int))
def jX12_likedMost : MethodName × ByteArray × Nat × Option FieldType := (yX12_likedMost, cX12_likedMost, 7, (some .int))
def jX12_limit : MethodName × ByteArray × Nat × Option FieldType := (yX12_limit, cX12_limit, 1, (some .int))
def jX12_lodgings : MethodName × ByteArray × Nat × Option FieldType := (yX12_lodgings, cX12_lodgings, 5, (some .int))
def jX12_lowest : MethodName × ByteArray × Nat × Option FieldType := (yX12_lowest, cX12_lowest, 2, (some .int))
def jX12_max : MethodName × ByteArray × Nat × Option FieldType := (yX12_max, cX12_max, 2, (some .int))
def jX12_min : MethodName × ByteArray × Nat × Option FieldType := (yX12_min, cX12_min, 2, (some .int))
def jX12_mostLike : MethodName × ByteArray × Nat × Option FieldType := (yX12_mostLike, cX12_mostLike, 4, (some .int))
def jX12_nextOrder : MethodName × ByteArray × Nat × Option FieldType := (yX12_nextOrder, cX12_nextOrder, 6, (some .boolean))
def jX12_nightGoes : MethodName × ByteArray × Nat × Option FieldType := (yX12_nightGoes, cX12_nightGoes, 2, none)
def jX12_nights : MethodName × ByteArray × Nat × Option FieldType := (yX12_nights, cX12_nights, 2, (some .int))
def jX12_nightsGo : MethodName × ByteArray × Nat × Option FieldType := (yX12_nightsGo, cX12_nightsGo, 3, none)
def jX12_notes : MethodName × ByteArray × Nat × Option FieldType := (yX12_notes, cX12_notes, 3, none)
def jX12_octet : MethodName × ByteArray × Nat × Option FieldType := (yX12_octet, cX12_octet, 2, (some .int))
def jX12_openedOfAll : MethodName × ByteArray × Nat × Option FieldType := (yX12_openedOfAll, cX12_openedOfAll, 3, (some .int))
def jX12_opens : MethodName × ByteArray × Nat × Option FieldType := (yX12_opens, cX12_opens, 2, (some .boolean))
def jX12_orNone : MethodName × ByteArray × Nat × Option FieldType := (yX12_orNone, cX12_orNone, 1, (some .int))
def jX12_orders : MethodName × ByteArray × Nat × Option FieldType := (yX12_orders, cX12_orders, 3, (some .int))
def jX12_personIs : MethodName × ByteArray × Nat × Option FieldType := (yX12_personIs, cX12_personIs, 3, (some .int))
def jX12_putsBack : MethodName × ByteArray × Nat × Option FieldType := (yX12_putsBack, cX12_putsBack, 2, none)
def jX12_readsAmount : MethodName × ByteArray × Nat × Option FieldType := (yX12_readsAmount, cX12_readsAmount, 2, (some .boolean))
def jX12_readsCompared : MethodName × ByteArray × Nat × Option FieldType := (yX12_readsCompared, cX12_readsCompared, 2, (some .boolean))
def jX12_readsCondition : MethodName × ByteArray × Nat × Option FieldType := (yX12_readsCondition, cX12_readsCondition, 1, (some .boolean))
def jX12_readsDoor : MethodName × ByteArray × Nat × Option FieldType := (yX12_readsDoor, cX12_readsDoor, 4, (some .boolean))
def jX12_readsDread : MethodName × ByteArray × Nat × Option FieldType := (yX12_readsDread, cX12_readsDread, 5, (some .boolean))
def jX12_readsFactor : MethodName × ByteArray × Nat × Option FieldType := (yX12_readsFactor, cX12_readsFactor, 2, (some .boolean))
def jX12_readsMeant : MethodName × ByteArray × Nat × Option FieldType := (yX12_readsMeant, cX12_readsMeant, 1, (some .boolean))
def jX12_readsNumber : MethodName × ByteArray × Nat × Option FieldType := (yX12_readsNumber, cX12_readsNumber, 2, (some .boolean))
def jX12_readsOne : MethodName × ByteArray × Nat × Option FieldType := (yX12_readsOne, cX12_readsOne, 2, (some .boolean))
def jX12_readsOrder : MethodName × ByteArray × Nat × Option FieldType := (yX12_readsOrder, cX12_readsOrder, 1, (some .boolean))
def jX12_readsRule : MethodName × ByteArray × Nat × Option FieldType := (yX12_readsRule, cX12_readsRule, 2, (some .boolean))
def jX12_readsSum : MethodName × ByteArray × Nat × Option FieldType := (yX12_readsSum, cX12_readsSum, 3, (some .boolean))
def jX12_readsTwo : MethodName × ByteArray × Nat × Option FieldType := (yX12_readsTwo, cX12_readsTwo, 5, (some .boolean))
def jX12_reckon : MethodName × ByteArray × Nat × Option FieldType := (yX12_reckon, cX12_reckon, 3, (some .int))
def jX12_reckonsTo : MethodName × ByteArray × Nat × Option FieldType := (yX12_reckonsTo, cX12_reckonsTo, 8, (some .int))
def jX12_rooms : MethodName × ByteArray × Nat × Option FieldType := (yX12_rooms, cX12_rooms, 5, (some .int))
def jX12_seed : MethodName × ByteArray × Nat × Option FieldType := (yX12_seed, cX12_seed, 2, (some .boolean))
def jX12_sentNext : MethodName × ByteArray × Nat × Option FieldType := (yX12_sentNext, cX12_sentNext, 5, (some .int))
def jX12_size : MethodName × ByteArray × Nat × Option FieldType := (yX12_size, cX12_size, 1, (some .int))
def jX12_sleeps : MethodName × ByteArray × Nat × Option FieldType := (yX12_sleeps, cX12_sleeps, 7, (some .int))
def jX12_steps : MethodName × ByteArray × Nat × Option FieldType := (yX12_steps, cX12_steps, 7, (some .int))
def jX12_sumSign : MethodName × ByteArray × Nat × Option FieldType := (yX12_sumSign, cX12_sumSign, 1, (some .int))
def jX12_takes : MethodName × ByteArray × Nat × Option FieldType := (yX12_takes, cX12_takes, 2, (some .boolean))
def jX12_taught : MethodName × ByteArray × Nat × Option FieldType := (yX12_taught, cX12_taught, 7, (some .int))
def jX12_tried : MethodName × ByteArray × Nat × Option FieldType := (yX12_tried, cX12_tried, 4, (some .int))
def jX12_triesDoor : MethodName × ByteArray × Nat × Option FieldType := (yX12_triesDoor, cX12_triesDoor, 6, none)
def jX12_twos : MethodName × ByteArray × Nat × Option FieldType := (yX12_twos, cX12_twos, 3, (some .int))
def jX12_types : MethodName × ByteArray × Nat × Option FieldType := (yX12_types, cX12_types, 3, none)
def jX12_undo : MethodName × ByteArray × Nat × Option FieldType := (yX12_undo, cX12_undo, 1, (some .boolean))
def jX12_unlike : MethodName × ByteArray × Nat × Option FieldType := (yX12_unlike, cX12_unlike, 3, (some .int))
def jX12_unlikeBy : MethodName × ByteArray × Nat × Option FieldType := (yX12_unlikeBy, cX12_unlikeBy, 5, (some .int))
def jX12_unlocks : MethodName × ByteArray × Nat × Option FieldType := (yX12_unlocks, cX12_unlocks, 3, (some .boolean))
def jX12_waitTop : MethodName × ByteArray × Nat × Option FieldType := (yX12_waitTop, cX12_waitTop, 1, (some .int))
def jX12_whoUnlocks : MethodName × ByteArray × Nat × Option FieldType := (yX12_whoUnlocks, cX12_whoUnlocks, 4, (some .int))
def jX12_word : MethodName × ByteArray × Nat × Option FieldType := (yX12_word, cX12_word, 7, (some .long))
def jX12_wrongAt : MethodName × ByteArray × Nat × Option FieldType := (yX12_wrongAt, cX12_wrongAt, 3, (some .boolean))
def jX1_beside : MethodName × ByteArray × Nat × Option FieldType := (yX1_beside, cX1_beside, 4, (some .int))
def jX1_circleOf : MethodName × ByteArray × Nat × Option FieldType := (yX1_circleOf, cX1_circleOf, 3, (some .int))
def jX1_circlesOf : MethodName × ByteArray × Nat × Option FieldType := (yX1_circlesOf, cX1_circlesOf, 5, (some .int))
def jX1_difference : MethodName × ByteArray × Nat × Option FieldType := (yX1_difference, cX1_difference, 5, (some .int))
def jX1_grownFashion : MethodName × ByteArray × Nat × Option FieldType := (yX1_grownFashion, cX1_grownFashion, 5, (some .int))
def jX1_holdersTogether : MethodName × ByteArray × Nat × Option FieldType := (yX1_holdersTogether, cX1_holdersTogether, 6, (some .int))
def jX1_init : MethodName × ByteArray × Nat × Option FieldType := (yX1_init, cX1_init, 1, none)
def jX1_linkAlike : MethodName × ByteArray × Nat × Option FieldType := (yX1_linkAlike, cX1_linkAlike, 5, none)
def jX1_linkFellows : MethodName × ByteArray × Nat × Option FieldType := (yX1_linkFellows, cX1_linkFellows, 5, none)
def jX1_mostCouples : MethodName × ByteArray × Nat × Option FieldType := (yX1_mostCouples, cX1_mostCouples, 5, (some .int))
def jX1_mostWith : MethodName × ByteArray × Nat × Option FieldType := (yX1_mostWith, cX1_mostWith, 5, (some .int))
def jX1_nearestTo : MethodName × ByteArray × Nat × Option FieldType := (yX1_nearestTo, cX1_nearestTo, 5, (some .int))
def jX1_reached : MethodName × ByteArray × Nat × Option FieldType := (yX1_reached, cX1_reached, 5, (some .int))
def jX1_stepsBetween : MethodName × ByteArray × Nat × Option FieldType := (yX1_stepsBetween, cX1_stepsBetween, 5, (some .int))
def jX2_change : MethodName × ByteArray × Nat × Option FieldType := (yX2_change, cX2_change, 6, none)
def jX2_init : MethodName × ByteArray × Nat × Option FieldType := (yX2_init, cX2_init, 4, none)
def jX2_readFears : MethodName × ByteArray × Nat × Option FieldType := (yX2_readFears, cX2_readFears, 3, (some .int))
def jX2_readLine : MethodName × ByteArray × Nat × Option FieldType := (yX2_readLine, cX2_readLine, 4, (some .boolean))
def jX2_startsLine : MethodName × ByteArray × Nat × Option FieldType := (yX2_startsLine, cX2_startsLine, 2, (some .boolean))
def jX3_bestToSend : MethodName × ByteArray × Nat × Option FieldType := (yX3_bestToSend, cX3_bestToSend, 5, (some .int))
def jX3_fewestForAllDoors : MethodName × ByteArray × Nat × Option FieldType := (yX3_fewestForAllDoors, cX3_fewestForAllDoors, 6, (some .int))
def jX3_greatestStrength : MethodName × ByteArray × Nat × Option FieldType := (yX3_greatestStrength, cX3_greatestStrength, 8, (some .int))
def jX3_init : MethodName × ByteArray × Nat × Option FieldType := (yX3_init, cX3_init, 1, none)
def jX3_leastStrength : MethodName × ByteArray × Nat × Option FieldType := (yX3_leastStrength, cX3_leastStrength, 7, (some .int))
def jX3_leftAtWorst : MethodName × ByteArray × Nat × Option FieldType := (yX3_leftAtWorst, cX3_leftAtWorst, 4, (some .int))
def jX3_lessons : MethodName × ByteArray × Nat × Option FieldType := (yX3_lessons, cX3_lessons, 8, (some .int))
def jX3_mostLet : MethodName × ByteArray × Nat × Option FieldType := (yX3_mostLet, cX3_mostLet, 5, (some .int))
def jX3_openedBy : MethodName × ByteArray × Nat × Option FieldType := (yX3_openedBy, cX3_openedBy, 4, (some .int))
def jX3_possibleFears : MethodName × ByteArray × Nat × Option FieldType := (yX3_possibleFears, cX3_possibleFears, 5, (some .int))
def jX3_triesFit : MethodName × ByteArray × Nat × Option FieldType := (yX3_triesFit, cX3_triesFit, 4, (some .boolean))
def jX4_add : MethodName × ByteArray × Nat × Option FieldType := (yX4_add, cX4_add, 3, (some .int))
def jX4_anyHolds : MethodName × ByteArray × Nat × Option FieldType := (yX4_anyHolds, cX4_anyHolds, 3, (some .boolean))
def jX4_clear : MethodName × ByteArray × Nat × Option FieldType := (yX4_clear, cX4_clear, 1, none)
def jX4_endRule : MethodName × ByteArray × Nat × Option FieldType := (yX4_endRule, cX4_endRule, 1, none)
def jX4_init : MethodName × ByteArray × Nat × Option FieldType := (yX4_init, cX4_init, 1, none)
def jX4_joined : MethodName × ByteArray × Nat × Option FieldType := (yX4_joined, cX4_joined, 3, (some .int))
def jX4_leadHere : MethodName × ByteArray × Nat × Option FieldType := (yX4_leadHere, cX4_leadHere, 2, none)
def jX4_meanDoor : MethodName × ByteArray × Nat × Option FieldType := (yX4_meanDoor, cX4_meanDoor, 3, none)
def jX4_meanOther : MethodName × ByteArray × Nat × Option FieldType := (yX4_meanOther, cX4_meanOther, 4, none)
def jX4_meanPerson : MethodName × ByteArray × Nat × Option FieldType := (yX4_meanPerson, cX4_meanPerson, 4, none)
def jX4_meanTime : MethodName × ByteArray × Nat × Option FieldType := (yX4_meanTime, cX4_meanTime, 3, none)
def jX4_meaningOf : MethodName × ByteArray × Nat × Option FieldType := (yX4_meaningOf, cX4_meaningOf, 2, (some .int))
def jX4_pop : MethodName × ByteArray × Nat × Option FieldType := (yX4_pop, cX4_pop, 1, (some .int))
def jX4_push : MethodName × ByteArray × Nat × Option FieldType := (yX4_push, cX4_push, 2, none)
def jX4_reckon : MethodName × ByteArray × Nat × Option FieldType := (yX4_reckon, cX4_reckon, 6, (some .int))
def jX4_startCondition : MethodName × ByteArray × Nat × Option FieldType := (yX4_startCondition, cX4_startCondition, 1, none)
def jX4_startRule : MethodName × ByteArray × Nat × Option FieldType := (yX4_startRule, cX4_startRule, 2, none)
def jX4_worth : MethodName × ByteArray × Nat × Option FieldType := (yX4_worth, cX4_worth, 4, (some .int))
def jX5_init : MethodName × ByteArray × Nat × Option FieldType := (yX5_init, cX5_init, 3, none)
def jX5_joinsFactors : MethodName × ByteArray × Nat × Option FieldType := (yX5_joinsFactors, cX5_joinsFactors, 1, (some .boolean))
def jX5_open : MethodName × ByteArray × Nat × Option FieldType := (yX5_open, cX5_open, 2, (some .boolean))
def jX5_readAllOf : MethodName × ByteArray × Nat × Option FieldType := (yX5_readAllOf, cX5_readAllOf, 3, (some .boolean))
def jX5_readAnyOf : MethodName × ByteArray × Nat × Option FieldType := (yX5_readAnyOf, cX5_readAnyOf, 3, (some .boolean))
def jX5_readComparison : MethodName × ByteArray × Nat × Option FieldType := (yX5_readComparison, cX5_readComparison, 3, (some .boolean))
def jX5_readFactor : MethodName × ByteArray × Nat × Option FieldType := (yX5_readFactor, cX5_readFactor, 4, (some .boolean))
def jX5_readLine : MethodName × ByteArray × Nat × Option FieldType := (yX5_readLine, cX5_readLine, 2, (some .boolean))
def jX5_readNegation : MethodName × ByteArray × Nat × Option FieldType := (yX5_readNegation, cX5_readNegation, 2, (some .boolean))
def jX5_readProduct : MethodName × ByteArray × Nat × Option FieldType := (yX5_readProduct, cX5_readProduct, 3, (some .boolean))
def jX5_readSum : MethodName × ByteArray × Nat × Option FieldType := (yX5_readSum, cX5_readSum, 3, (some .boolean))
def jX5_readTest : MethodName × ByteArray × Nat × Option FieldType := (yX5_readTest, cX5_readTest, 3, (some .boolean))
def jX5_startsLine : MethodName × ByteArray × Nat × Option FieldType := (yX5_startsLine, cX5_startsLine, 2, (some .boolean))
def jX6_init : MethodName × ByteArray × Nat × Option FieldType := (yX6_init, cX6_init, 2, none)
def jX6_readLines : MethodName × ByteArray × Nat × Option FieldType := (yX6_readLines, cX6_readLines, 3, (some .int))
def jX7_catchDread : MethodName × ByteArray × Nat × Option FieldType := (yX7_catchDread, cX7_catchDread, 7, none)
def jX7_doorTried : MethodName × ByteArray × Nat × Option FieldType := (yX7_doorTried, cX7_doorTried, 7, (some .int))
def jX7_goOut : MethodName × ByteArray × Nat × Option FieldType := (yX7_goOut, cX7_goOut, 5, none)
def jX7_init : MethodName × ByteArray × Nat × Option FieldType := (yX7_init, cX7_init, 1, none)
def jX7_meanDoorFor : MethodName × ByteArray × Nat × Option FieldType := (yX7_meanDoorFor, cX7_meanDoorFor, 5, none)
def jX7_pass : MethodName × ByteArray × Nat × Option FieldType := (yX7_pass, cX7_pass, 6, none)
def jX7_spreadDread : MethodName × ByteArray × Nat × Option FieldType := (yX7_spreadDread, cX7_spreadDread, 5, none)
def jX7_tryDoor : MethodName × ByteArray × Nat × Option FieldType := (yX7_tryDoor, cX7_tryDoor, 8, none)
def jX8_init : MethodName × ByteArray × Nat × Option FieldType := (yX8_init, cX8_init, 3, none)
def jX8_readAcquaintance : MethodName × ByteArray × Nat × Option FieldType := (yX8_readAcquaintance, cX8_readAcquaintance, 5, (some .boolean))
def jX8_readDoor : MethodName × ByteArray × Nat × Option FieldType := (yX8_readDoor, cX8_readDoor, 3, (some .boolean))
def jX8_readLine : MethodName × ByteArray × Nat × Option FieldType := (yX8_readLine, cX8_readLine, 1, (some .boolean))
def jX8_readLock : MethodName × ByteArray × Nat × Option FieldType := (yX8_readLock, cX8_readLock, 4, (some .boolean))
def jX8_readPerson : MethodName × ByteArray × Nat × Option FieldType := (yX8_readPerson, cX8_readPerson, 3, (some .int))
def jX8_startsLine : MethodName × ByteArray × Nat × Option FieldType := (yX8_startsLine, cX8_startsLine, 2, (some .boolean))
def jX9_canStandTogether : MethodName × ByteArray × Nat × Option FieldType := (yX9_canStandTogether, cX9_canStandTogether, 3, (some .boolean))
def jX9_init : MethodName × ByteArray × Nat × Option FieldType := (yX9_init, cX9_init, 1, none)
def jX9_leastDreadBehindRooms : MethodName × ByteArray × Nat × Option FieldType := (yX9_leastDreadBehindRooms, cX9_leastDreadBehindRooms, 6, (some .int))
def jX9_roomsOfCommonest : MethodName × ByteArray × Nat × Option FieldType := (yX9_roomsOfCommonest, cX9_roomsOfCommonest, 6, (some .int))
def jX9_waysOn : MethodName × ByteArray × Nat × Option FieldType := (yX9_waysOn, cX9_waysOn, 7, (some .int))
def jX9_waysToStand : MethodName × ByteArray × Nat × Option FieldType := (yX9_waysToStand, cX9_waysToStand, 7, (some .int))
def jX9_wordsWeighing : MethodName × ByteArray × Nat × Option FieldType := (yX9_wordsWeighing, cX9_wordsWeighing, 6, (some .long))
def jX9_wordsWithOneMore : MethodName × ByteArray × Nat × Option FieldType := (yX9_wordsWithOneMore, cX9_wordsWithOneMore, 7, (some .long))
/-! ===== BEGIN new T[n][m]: the outer array a place, the inner ones among the pooled ===== -/
/-- f, but v at every address of l -/
def vr_up {α : Type} (f : Nat → α) (l : List Nat) (v : α) : Nat → α := fun a => if a ∈ l then v else f a
theorem vr_up_in {α : Type} {f : Nat → α} {l : List Nat} {v : α} {a : Nat} (h : a ∈ l) : vr_up f l v a = v := if_pos h
theorem vr_up_ne {α : Type} {f : Nat → α} {l : List Nat} {v : α} {a : Nat} (h : a ∉ l) : vr_up f l v a = f a := if_neg h
theorem vr_rows {L l : List Nat} {f : Nat → va_E} {e : va_E} (h : ∀ a, a ∈ l → a ∉ L) : va_pl L f ++ l.map (fun a => (a, e)) = va_pl (L ++ l) (vr_up f l e) := by
  unfold va_pl
  rw [List.map_append]
  congr 1
  · apply List.map_congr_left
    intro a ha
    rw [vr_up_ne (fun q => h a q ha)]
  · apply List.map_congr_left
    intro a ha
    rw [vr_up_in ha]
theorem vr_lay {X rows : va_W} {x : Nat × va_E} {pl : va_W} {D : va_G} {cl : List vw_C} {H : Heap} (hP : va_P D cl (((X ++ pl) ++ [x]) ++ rows) H) : va_P D cl ((X ++ [x]) ++ (pl ++ rows)) H := by
  rw [List.append_assoc (X ++ pl)] at hP
  have h := va_P.swap hP
  rw [← List.append_assoc X] at h
  have h2 := va_P.swap h
  rw [List.append_assoc (X ++ [x])] at h2
  exact h2
theorem vr_layD {X rows : va_W} {x : Nat × va_E} {pl : va_W} {A : Nat → Prop} (hD : va_D A (((X ++ pl) ++ [x]) ++ rows)) : va_D A ((X ++ [x]) ++ (pl ++ rows)) := by
  rw [List.append_assoc (X ++ pl)] at hD
  have h := va_D.swap hD
  rw [← List.append_assoc X] at h
  have h2 := va_D.swap h
  rw [List.append_assoc (X ++ [x])] at h2
  exact h2
theorem vr_outer (c : ClassId) (N h0 : Nat) : ∀ i : Nat, Jvm.Free.Multi.outerC c N h0 i = arrV c N (fun j => va_rf (if j < i then some (h0 + 1 + j) else none))
  | 0 => by
    show ({ cls := c, slots := Array.replicate N .null, vm := .none } : Cell) = _
    rw [arrV_new]
    refine congrArg (arrV c N) (funext fun j => ?_)
    simp [va_rf]
  | i + 1 => by
    show (Jvm.Free.Multi.outerC c N h0 i).setSlot i (.ref (h0 + 1 + i)) = _
    rw [vr_outer c N h0 i, arrV_store]
    refine congrArg (arrV c N) (funext fun j => ?_)
    by_cases e : j = i
    · subst e
      simp [updV, va_rf]
    · by_cases h : j < i
      · simp [updV, e, h, Nat.lt_succ_of_lt h]
      · simp [updV, e, h, show ¬ j < i + 1 by omega]
section VGM
variable {p : Program} {l : Launch} {e : Env} {R : Room} {s : State} {m : MethodId} {args : Array Value} {below : List Frame} {meth : Method} {c : Code} {H : Heap} {locs : List Loc} {cells slots : Nat} {Q : State → Prop}
variable {cc : ByteArray} {pc : Nat} {ls : Array Slot} {rest : List Value} {D : va_G} {cl : List vw_C} {A : Nat → Prop} {a : Nat} {tys : List (ClassId × FieldType)} {ws : va_W} {H0 : Heap}
theorem va_mna {X : va_W} {L : List Nat} {f : Nat → va_E} {cc : ByteArray} (hexec : p.tables.exec = Jvm.exec) (hb : c.code = cc) {own : String} {index : Nat} {ty : FieldType} {cy : ClassId} (hown : s.vm.findClass own = some m.cls) (hclink : (Cond.classLink own index ("[" ++ (FieldType.array ty).toString)).before args s = true) (hover : (Cond.arrayOver (.array ty)).before args s = true) (harr : (Cond.arrayClass ty).before args s = true) (hcy : s.vm.findClass (FieldType.array ty).toString = some cy)
    (hK : va_K D cl tys s) (hP : va_P D cl (X ++ va_pl L f) H) (hD : va_D A (X ++ va_pl L f)) (hS : va_S A H0 H locs) (hA : ∀ q, H0.size ≤ q → A q) {n k : Int32} {N' K' : Nat} {z : vp_A} (hn : ¬ n < 0) (hk : ¬ k < 0) (hN : n.toNatClampNeg = N') (hM : k.toNatClampNeg = K')
    (hb1 : N' * 4 ≤ 536870912) (hb2 : K' * componentBytes ty ≤ 536870912) (hb3 : K' ≤ 536870912) (hdf : fits ty (defaultValue ty) = true) (hdd : (defaultValue ty).isDefault = true) (hcells : cells + (1 + N') ≤ R.cells) (hslots : slots + (N' + N' * K') ≤ R.slots) (hz : ∀ c : ClassId, Jvm.Free.Multi.innerC c K' (defaultValue ty) = vp_cell c z) (hdg : decode cc pc = .ok (.multianewarray index 2, 4))
    (kk : ∀ (q : Nat) (r : Nat → Nat) (cA : ClassId) (H1 : Heap), (∀ i j : Nat, i < N' → j < N' → r i = r j → i = j) → (∀ i : Nat, i < N' → r i ∉ L) → va_K D cl (tys ++ [(cA, .array ty)]) s →
      va_P D cl ((X ++ [(q, .inl (cA, N', .inr (.inr (.inr (.inr (fun i => if i < N' then some (r i) else none))))))]) ++ va_pl (L ++ (List.range N').map r) (vr_up f ((List.range N').map r) (.inl (cy, z)))) H1 → va_D A ((X ++ [(q, .inl (cA, N', .inr (.inr (.inr (.inr (fun i => if i < N' then some (r i) else none))))))]) ++ va_pl (L ++ (List.range N').map r) (vr_up f ((List.range N').map r) (.inl (cy, z)))) → va_S A H0 H1 locs →
      W p l e R s m args below meth c H1 locs (cells + 1 + N') (slots + N' + N' * K') Q (F0 m (pc + 4) ls (.ref q :: rest))) : W p l e R s m args below meth c H locs cells slots Q (F0 m pc ls (.int k :: .int n :: rest)) := by
  subst hN
  subst hM
  intro T hT Xs
  obtain ⟨vm₁, cA, comp, -, fA, fC, hO, -, X', step⟩ := Xs.multianewarray2F hexec hown hclink hover harr (g := F0 m pc ls (.int k :: .int n :: rest)) rfl (by rw [hb]; exact hdg) rfl hn hk hb1 hb2 hb3 hdf hdd hcells hslots
  have ec : some cy = some comp := hcy.symm.trans fC
  cases ec
  generalize hF : Jvm.Free.Multi.fill (T.setVm vm₁) cA cy n.toNatClampNeg k.toNatClampNeg (defaultValue ty) n.toNatClampNeg = F at X' step
  have hTh : (T.setVm vm₁).heap = H := hT
  obtain ⟨f1, f2, -, -⟩ := Jvm.Free.Multi.fill_facts (T.setVm vm₁) cA cy n.toNatClampNeg k.toNatClampNeg (defaultValue ty) n.toNatClampNeg
  rw [hF, hTh] at f1 f2
  have hold : ∀ x : Nat, x < H.size → F.heap[x]? = H[x]? := fun x hx => by
    have := Jvm.Free.Multi.fill_old (T.setVm vm₁) cA cy n.toNatClampNeg k.toNatClampNeg (defaultValue ty) (a := x) (by rw [hTh]; exact hx) n.toNatClampNeg
    rw [hF, hTh] at this
    exact this
  have hrow : ∀ j : Nat, j < n.toNatClampNeg → F.heap[H.size + 1 + j]? = some (vp_cell cy z) := fun j hj => by
    have := Jvm.Free.Multi.fill_inner (T.setVm vm₁) cA cy n.toNatClampNeg k.toNatClampNeg (defaultValue ty) n.toNatClampNeg j hj
    rw [hF, hTh, hz] at this
    exact this
  have hout : Jvm.Free.Multi.outerC cA n.toNatClampNeg H.size n.toNatClampNeg = vp_cell cA (n.toNatClampNeg, .inr (.inr (.inr (.inr (fun i => if i < n.toNatClampNeg then some (H.size + 1 + i) else none))))) := by
    rw [vp_cell_q]
    exact vr_outer cA n.toNatClampNeg H.size n.toNatClampNeg
  rw [hout] at f2
  have hlt : ∀ a, a ∈ L → a < H.size := fun a ha => by
    obtain ⟨k9, hk9⟩ := va_pl_get (X := X) (f := f) ha
    exact (hP k9 _ hk9).lt
  have hnl : ∀ i : Nat, i < n.toNatClampNeg → H.size + 1 + i ∉ L := fun i _ h => by
    have := hlt _ h
    omega
  have hnm : ∀ a, a ∈ (List.range n.toNatClampNeg).map (fun i => H.size + 1 + i) → a ∉ L := fun a ha h => by
    obtain ⟨i, -, rfl⟩ := List.mem_map.mp ha
    have := hlt _ h
    omega
  have hP0 : va_P D cl (X ++ va_pl L f) F.heap := hP.kept (fun k9 x hx => hold x.1 ((hP k9 x hx).lt))
  have hP1 : va_P D cl ((X ++ va_pl L f) ++ [(H.size, .inl (cA, n.toNatClampNeg, .inr (.inr (.inr (.inr (fun i => if i < n.toNatClampNeg then some (H.size + 1 + i) else none))))))]) F.heap := hP0.app (fun k9 x hx => by
    have h0 : k9 < 1 := (List.getElem?_eq_some_iff.mp hx).1
    rw [show k9 = 0 by omega] at hx
    cases hx
    exact f2)
  have hP2 : va_P D cl (((X ++ va_pl L f) ++ [(H.size, .inl (cA, n.toNatClampNeg, .inr (.inr (.inr (.inr (fun i => if i < n.toNatClampNeg then some (H.size + 1 + i) else none))))))]) ++ ((List.range n.toNatClampNeg).map (fun i => H.size + 1 + i)).map (fun a => (a, .inl (cy, z)))) F.heap := hP1.app (fun k9 x hx => by
    obtain ⟨a, ha, rfl⟩ := List.mem_map.mp (List.mem_of_getElem? hx)
    obtain ⟨i, hi, rfl⟩ := List.mem_map.mp ha
    exact hrow i (List.mem_range.mp hi))
  have hD2 : va_D A (((X ++ va_pl L f) ++ [(H.size, .inl (cA, n.toNatClampNeg, .inr (.inr (.inr (.inr (fun i => if i < n.toNatClampNeg then some (H.size + 1 + i) else none))))))]) ++ ((List.range n.toNatClampNeg).map (fun i => H.size + 1 + i)).map (fun a => (a, .inl (cy, z)))) := by
    have hD1 := hD.push (e := .inl (cA, n.toNatClampNeg, .inr (.inr (.inr (.inr (fun i => if i < n.toNatClampNeg then some (H.size + 1 + i) else none)))))) hP rfl (hA _ hS.1)
    generalize hW1 : (X ++ va_pl L f) ++ [(H.size, .inl (cA, n.toNatClampNeg, .inr (.inr (.inr (.inr (fun i => if i < n.toNatClampNeg then some (H.size + 1 + i) else none))))))] = W1 at hD1 hP1 ⊢
    have hle : ∀ (k9 : Nat) (x : Nat × va_E), W1[k9]? = some x → x.1 ≤ H.size := fun k9 x hx => by
      rw [← hW1] at hx
      by_cases hl : k9 < (X ++ va_pl L f).length
      · rw [List.getElem?_append_left hl] at hx
        exact Nat.le_of_lt ((hP k9 x hx).lt)
      · rw [List.getElem?_append_right (by omega)] at hx
        have h0 : k9 - (X ++ va_pl L f).length < 1 := (List.getElem?_eq_some_iff.mp hx).1
        rw [show k9 - (X ++ va_pl L f).length = 0 by omega] at hx
        cases hx
        exact Nat.le_refl _
    have hr : ∀ (k9 : Nat) (x : Nat × va_E), (((List.range n.toNatClampNeg).map (fun i => H.size + 1 + i)).map (fun a => ((a, .inl (cy, z)) : Nat × va_E)))[k9]? = some x → x.1 = H.size + 1 + k9 := fun k9 x hx => by
      rw [List.getElem?_map, List.getElem?_map] at hx
      by_cases h9 : k9 < n.toNatClampNeg
      · rw [List.getElem?_range h9] at hx
        cases hx
        rfl
      · have hn0 : (List.range n.toNatClampNeg)[k9]? = none := List.getElem?_eq_none (by rw [List.length_range]; omega)
        rw [hn0] at hx
        cases hx
    refine ⟨fun i j x y hi hj hxy => ?_, fun k9 x hx => ?_⟩
    · by_cases h1 : i < W1.length <;> by_cases h2 : j < W1.length
      · rw [List.getElem?_append_left h1] at hi
        rw [List.getElem?_append_left h2] at hj
        exact hD1.1 i j x y hi hj hxy
      · rw [List.getElem?_append_left h1] at hi
        rw [List.getElem?_append_right (by omega)] at hj
        have := hle _ _ hi
        have := hr _ _ hj
        omega
      · rw [List.getElem?_append_right (by omega)] at hi
        rw [List.getElem?_append_left h2] at hj
        have := hle _ _ hj
        have := hr _ _ hi
        omega
      · rw [List.getElem?_append_right (by omega)] at hi hj
        have := hr _ _ hi
        have := hr _ _ hj
        omega
    · by_cases h1 : k9 < W1.length
      · rw [List.getElem?_append_left h1] at hx
        exact hD1.2 k9 x hx
      · rw [List.getElem?_append_right (by omega)] at hx
        have := hr _ _ hx
        exact hA _ (by have := hS.1; omega)
  have hAr : ArrOfT s cA (.array ty) := fun N9 z9 => by
    obtain ⟨-, k9, hk9, cm9, hkk9⟩ := (hO 0 0 0).1
    exact ⟨(fun q hq => by cases hq), k9, hk9, cm9, hkk9⟩
  have hK2 : va_K D cl (tys ++ [(cA, .array ty)]) s := ⟨hK.1, fun k9 x hx => by
    by_cases hl : k9 < tys.length
    · rw [List.getElem?_append_left hl] at hx
      exact hK.2 k9 x hx
    · rw [List.getElem?_append_right (by omega)] at hx
      have h0 : k9 - tys.length < 1 := (List.getElem?_eq_some_iff.mp hx).1
      rw [show k9 - tys.length = 0 by omega] at hx
      cases hx
      exact ⟨hAr, fA⟩⟩
  obtain ⟨t, a1, b1⟩ := kk H.size (fun i => H.size + 1 + i) cA F.heap (fun i j _ _ h => by have h9 : H.size + 1 + i = H.size + 1 + j := h; omega) hnl hK2 (by rw [← vr_rows hnm]; exact vr_lay hP2) (by rw [← vr_rows hnm]; exact vr_layD hD2) ⟨by rw [f1]; have := hS.1; omega, fun x h1 h2 => (hold x (Nat.lt_of_lt_of_le h1 hS.1)).trans (hS.2.1 x h1 h2), hS.2.2⟩ F rfl X'
  refine ⟨t, step t ?_, b1⟩
  have e : T.heap.size = H.size := by rw [hT]
  rw [e]
  exact a1
end VGM
/-! ===== END ===== -/
