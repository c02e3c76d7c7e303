def RX0 : String := "TwistyBarrels$Barrel"
def TX0 : u_T := fun k => match k with
  | 0 => ("TwistyBarrels$Barrel", "stickers", "[I", true)
  | 1 => ("TwistyBarrels$Barrel", "slots", "[I", true)
  | _ => ("TwistyBarrels$Barrel", "colours", "[I", true)
def tyX0 : Nat → FieldType := fun k => match k with
  | 0 => .array .int
  | 1 => .array .int
  | _ => .array .int
theorem nmX0 : ∀ a, a < 3 → ∀ b, b < 3 → a ≠ b → (TX0 a).2.1 ≠ (TX0 b).2.1 := by decide +kernel
theorem tyX0_ok : ∀ k, k < 3 → parseFieldDescriptor (TX0 k).2.2.1 = some (tyX0 k) := by decide +kernel
abbrev cX0_init : ByteArray := prog_2_method_1_code
def yX0_init : MethodName := ⟨RX0, "<init>", "()V"⟩
abbrev cX0_copyFrom : ByteArray := prog_2_method_2_code
def yX0_copyFrom : MethodName := ⟨RX0, "copyFrom", "(LTwistyBarrels$Barrel;)V"⟩
abbrev cX0_stickerIn : ByteArray := prog_2_method_3_code
def yX0_stickerIn : MethodName := ⟨RX0, "stickerIn", "(I)I"⟩
abbrev cX0_slotOf : ByteArray := prog_2_method_4_code
def yX0_slotOf : MethodName := ⟨RX0, "slotOf", "(I)I"⟩
abbrev cX0_colourOf : ByteArray := prog_2_method_5_code
def yX0_colourOf : MethodName := ⟨RX0, "colourOf", "(I)I"⟩
abbrev cX0_colourIn : ByteArray := prog_2_method_6_code
def yX0_colourIn : MethodName := ⟨RX0, "colourIn", "(I)I"⟩
abbrev cX0_giveColour : ByteArray := prog_2_method_7_code
def yX0_giveColour : MethodName := ⟨RX0, "giveColour", "(II)V"⟩
abbrev cX0_follow : ByteArray := prog_2_method_8_code
def yX0_follow : MethodName := ⟨RX0, "follow", "(LTwistyBarrels$Permutation;)V"⟩
abbrev cX0_countHome : ByteArray := prog_2_method_9_code
def yX0_countHome : MethodName := ⟨RX0, "countHome", "()I"⟩
abbrev cX0_hasOneColour : ByteArray := prog_2_method_10_code
def yX0_hasOneColour : MethodName := ⟨RX0, "hasOneColour", "(I)Z"⟩
abbrev cX0_countDone : ByteArray := prog_2_method_11_code
def yX0_countDone : MethodName := ⟨RX0, "countDone", "()I"⟩
abbrev cX0_countSeams : ByteArray := prog_2_method_12_code
def yX0_countSeams : MethodName := ⟨RX0, "countSeams", "()I"⟩
abbrev cX0_movesToHomes : ByteArray := prog_2_method_13_code
def yX0_movesToHomes : MethodName := ⟨RX0, "movesToHomes", "()I"⟩
abbrev cX0_isEachWhereTold : ByteArray := prog_2_method_14_code
def yX0_isEachWhereTold : MethodName := ⟨RX0, "isEachWhereTold", "()Z"⟩
def RX1 : String := "TwistyBarrels$MoveLog"
def TX1 : u_T := fun k => match k with
  | 0 => ("TwistyBarrels$MoveLog", "parts", "[I", true)
  | _ => ("TwistyBarrels$MoveLog", "moves", "I", false)
def tyX1 : Nat → FieldType := fun k => match k with
  | 0 => .array .int
  | _ => .int
theorem nmX1 : ∀ a, a < 2 → ∀ b, b < 2 → a ≠ b → (TX1 a).2.1 ≠ (TX1 b).2.1 := by decide +kernel
theorem tyX1_ok : ∀ k, k < 2 → parseFieldDescriptor (TX1 k).2.2.1 = some (tyX1 k) := by decide +kernel
abbrev cX1_init : ByteArray := prog_3_method_1_code
def yX1_init : MethodName := ⟨RX1, "<init>", "()V"⟩
abbrev cX1_copyFrom : ByteArray := prog_3_method_2_code
def yX1_copyFrom : MethodName := ⟨RX1, "copyFrom", "(LTwistyBarrels$MoveLog;)V"⟩
abbrev cX1_size : ByteArray := prog_3_method_3_code
def yX1_size : MethodName := ⟨RX1, "size", "()I"⟩
abbrev cX1_part : ByteArray := prog_3_method_4_code
def yX1_part : MethodName := ⟨RX1, "part", "(II)I"⟩
abbrev cX1_add : ByteArray := prog_3_method_5_code
def yX1_add : MethodName := ⟨RX1, "add", "(III)V"⟩
abbrev cX1_dropLast : ByteArray := prog_3_method_6_code
def yX1_dropLast : MethodName := ⟨RX1, "dropLast", "()V"⟩
abbrev cX1_clear : ByteArray := prog_3_method_7_code
def yX1_clear : MethodName := ⟨RX1, "clear", "()V"⟩
def RX2 : String := "TwistyBarrels$Past"
def TX2 : u_T := fun k => match k with
  | 0 => ("TwistyBarrels$Past", "states", "[LTwistyBarrels$State;", true)
  | _ => ("TwistyBarrels$Past", "held", "I", false)
def tyX2 : Nat → FieldType := fun k => match k with
  | 0 => .array (.object "TwistyBarrels$State")
  | _ => .int
theorem nmX2 : ∀ a, a < 2 → ∀ b, b < 2 → a ≠ b → (TX2 a).2.1 ≠ (TX2 b).2.1 := by decide +kernel
theorem tyX2_ok : ∀ k, k < 2 → parseFieldDescriptor (TX2 k).2.2.1 = some (tyX2 k) := by decide +kernel
abbrev cX2_init : ByteArray := prog_4_method_1_code
def yX2_init : MethodName := ⟨RX2, "<init>", "()V"⟩
abbrev cX2_size : ByteArray := prog_4_method_2_code
def yX2_size : MethodName := ⟨RX2, "size", "()I"⟩
abbrev cX2_hold : ByteArray := prog_4_method_4_code
def yX2_hold : MethodName := ⟨RX2, "hold", "(LTwistyBarrels$State;)V"⟩
abbrev cX2_giveBack : ByteArray := prog_4_method_5_code
def yX2_giveBack : MethodName := ⟨RX2, "giveBack", "(LTwistyBarrels$State;)V"⟩
def RX3 : String := "TwistyBarrels$Permutation"
def TX3 : u_T := fun k => match k with
  | _ => ("TwistyBarrels$Permutation", "goes", "[I", true)
def tyX3 : Nat → FieldType := fun k => match k with
  | _ => .array .int
theorem nmX3 : ∀ a, a < 1 → ∀ b, b < 1 → a ≠ b → (TX3 a).2.1 ≠ (TX3 b).2.1 := by decide +kernel
theorem tyX3_ok : ∀ k, k < 1 → parseFieldDescriptor (TX3 k).2.2.1 = some (tyX3 k) := by decide +kernel
abbrev cX3_init : ByteArray := prog_5_method_1_code
def yX3_init : MethodName := ⟨RX3, "<init>", "()V"⟩
abbrev cX3_of : ByteArray := prog_5_method_2_code
def yX3_of : MethodName := ⟨RX3, "of", "(I)I"⟩
abbrev cX3_toNothing : ByteArray := prog_5_method_3_code
def yX3_toNothing : MethodName := ⟨RX3, "toNothing", "()V"⟩
abbrev cX3_toCopy : ByteArray := prog_5_method_4_code
def yX3_toCopy : MethodName := ⟨RX3, "toCopy", "(LTwistyBarrels$Permutation;)V"⟩
abbrev cX3_toMove : ByteArray := prog_5_method_5_code
def yX3_toMove : MethodName := ⟨RX3, "toMove", "(III)V"⟩
abbrev cX3_toTurn : ByteArray := prog_5_method_6_code
def yX3_toTurn : MethodName := ⟨RX3, "toTurn", "(II)V"⟩
abbrev cX3_toShift : ByteArray := prog_5_method_7_code
def yX3_toShift : MethodName := ⟨RX3, "toShift", "(II)V"⟩
abbrev cX3_toInverse : ByteArray := prog_5_method_8_code
def yX3_toInverse : MethodName := ⟨RX3, "toInverse", "(LTwistyBarrels$Permutation;)V"⟩
abbrev cX3_then : ByteArray := prog_5_method_9_code
def yX3_then : MethodName := ⟨RX3, "then", "(LTwistyBarrels$Permutation;)V"⟩
abbrev cX3_toPower : ByteArray := prog_5_method_10_code
def yX3_toPower : MethodName := ⟨RX3, "toPower", "(LTwistyBarrels$Permutation;I)V"⟩
abbrev cX3_toCommuted : ByteArray := prog_5_method_11_code
def yX3_toCommuted : MethodName := ⟨RX3, "toCommuted", "(LTwistyBarrels$Permutation;LTwistyBarrels$Permutation;LTwistyBarrels$Permutation;)V"⟩
abbrev cX3_movesNothing : ByteArray := prog_5_method_12_code
def yX3_movesNothing : MethodName := ⟨RX3, "movesNothing", "()Z"⟩
abbrev cX3_countMoved : ByteArray := prog_5_method_13_code
def yX3_countMoved : MethodName := ⟨RX3, "countMoved", "()I"⟩
abbrev cX3_cycleLength : ByteArray := prog_5_method_14_code
def yX3_cycleLength : MethodName := ⟨RX3, "cycleLength", "(I)I"⟩
abbrev cX3_isLowestOfCycle : ByteArray := prog_5_method_15_code
def yX3_isLowestOfCycle : MethodName := ⟨RX3, "isLowestOfCycle", "(I)Z"⟩
abbrev cX3_countCycles : ByteArray := prog_5_method_16_code
def yX3_countCycles : MethodName := ⟨RX3, "countCycles", "(I)I"⟩
abbrev cX3_longestCycle : ByteArray := prog_5_method_17_code
def yX3_longestCycle : MethodName := ⟨RX3, "longestCycle", "()I"⟩
abbrev cX3_orderByCycles : ByteArray := prog_5_method_18_code
def yX3_orderByCycles : MethodName := ⟨RX3, "orderByCycles", "()I"⟩
abbrev cX3_orderByDoing : ByteArray := prog_5_method_19_code
def yX3_orderByDoing : MethodName := ⟨RX3, "orderByDoing", "(LTwistyBarrels$Permutation;)I"⟩
abbrev cX3_isEvenByCycles : ByteArray := prog_5_method_20_code
def yX3_isEvenByCycles : MethodName := ⟨RX3, "isEvenByCycles", "()Z"⟩
abbrev cX3_isEvenByPairs : ByteArray := prog_5_method_21_code
def yX3_isEvenByPairs : MethodName := ⟨RX3, "isEvenByPairs", "()Z"⟩
abbrev cX3_isInEitherOrder : ByteArray := prog_5_method_22_code
def yX3_isInEitherOrder : MethodName := ⟨RX3, "isInEitherOrder", "(LTwistyBarrels$Permutation;)Z"⟩
abbrev cX3_leastCommonMultiple : ByteArray := prog_5_method_23_code
def yX3_leastCommonMultiple : MethodName := ⟨RX3, "leastCommonMultiple", "(II)I"⟩
def RX4 : String := "TwistyBarrels$SequenceReader"
def TX4 : u_T := fun k => match k with
  | 0 => ("TwistyBarrels$SequenceReader", "text", "LTwistyBarrels$Signs;", true)
  | 1 => ("TwistyBarrels$SequenceReader", "place", "I", false)
  | 2 => ("TwistyBarrels$SequenceReader", "sequences", "[LTwistyBarrels$Permutation;", true)
  | 3 => ("TwistyBarrels$SequenceReader", "items", "[LTwistyBarrels$Permutation;", true)
  | 4 => ("TwistyBarrels$SequenceReader", "firsts", "[LTwistyBarrels$Permutation;", true)
  | _ => ("TwistyBarrels$SequenceReader", "inverse", "LTwistyBarrels$Permutation;", true)
def tyX4 : Nat → FieldType := fun k => match k with
  | 0 => .object "TwistyBarrels$Signs"
  | 1 => .int
  | 2 => .array (.object "TwistyBarrels$Permutation")
  | 3 => .array (.object "TwistyBarrels$Permutation")
  | 4 => .array (.object "TwistyBarrels$Permutation")
  | _ => .object "TwistyBarrels$Permutation"
theorem nmX4 : ∀ a, a < 6 → ∀ b, b < 6 → a ≠ b → (TX4 a).2.1 ≠ (TX4 b).2.1 := by decide +kernel
theorem tyX4_ok : ∀ k, k < 6 → parseFieldDescriptor (TX4 k).2.2.1 = some (tyX4 k) := by decide +kernel
abbrev cX4_init : ByteArray := prog_6_method_1_code
def yX4_init : MethodName := ⟨RX4, "<init>", "()V"⟩
abbrev cX4_place : ByteArray := prog_6_method_2_code
def yX4_place : MethodName := ⟨RX4, "place", "()I"⟩
abbrev cX4_result : ByteArray := prog_6_method_3_code
def yX4_result : MethodName := ⟨RX4, "result", "()LTwistyBarrels$Permutation;"⟩
abbrev cX4_understand : ByteArray := prog_6_method_4_code
def yX4_understand : MethodName := ⟨RX4, "understand", "(LTwistyBarrels$State;)I"⟩
abbrev cX4_isItemNext : ByteArray := prog_6_method_5_code
def yX4_isItemNext : MethodName := ⟨RX4, "isItemNext", "()Z"⟩
abbrev cX4_sequence : ByteArray := prog_6_method_6_code
def yX4_sequence : MethodName := ⟨RX4, "sequence", "(ILTwistyBarrels$State;)I"⟩
abbrev cX4_item : ByteArray := prog_6_method_7_code
def yX4_item : MethodName := ⟨RX4, "item", "(ILTwistyBarrels$State;LTwistyBarrels$Permutation;)I"⟩
abbrev cX4_digit : ByteArray := prog_6_method_8_code
def yX4_digit : MethodName := ⟨RX4, "digit", "(II)I"⟩
abbrev cX4_moveItem : ByteArray := prog_6_method_9_code
def yX4_moveItem : MethodName := ⟨RX4, "moveItem", "(ILTwistyBarrels$Permutation;)I"⟩
abbrev cX4_shelfItem : ByteArray := prog_6_method_10_code
def yX4_shelfItem : MethodName := ⟨RX4, "shelfItem", "(LTwistyBarrels$State;LTwistyBarrels$Permutation;)I"⟩
abbrev cX4_repeatedItem : ByteArray := prog_6_method_11_code
def yX4_repeatedItem : MethodName := ⟨RX4, "repeatedItem", "(ILTwistyBarrels$State;LTwistyBarrels$Permutation;)I"⟩
abbrev cX4_commutedItem : ByteArray := prog_6_method_12_code
def yX4_commutedItem : MethodName := ⟨RX4, "commutedItem", "(ILTwistyBarrels$State;LTwistyBarrels$Permutation;)I"⟩
def RX5 : String := "TwistyBarrels$Signs"
def TX5 : u_T := fun k => match k with
  | 0 => ("TwistyBarrels$Signs", "signs", "[C", true)
  | _ => ("TwistyBarrels$Signs", "length", "I", false)
def tyX5 : Nat → FieldType := fun k => match k with
  | 0 => .array .char
  | _ => .int
theorem nmX5 : ∀ a, a < 2 → ∀ b, b < 2 → a ≠ b → (TX5 a).2.1 ≠ (TX5 b).2.1 := by decide +kernel
theorem tyX5_ok : ∀ k, k < 2 → parseFieldDescriptor (TX5 k).2.2.1 = some (tyX5 k) := by decide +kernel
abbrev cX5_init : ByteArray := prog_7_method_1_code
def yX5_init : MethodName := ⟨RX5, "<init>", "()V"⟩
abbrev cX5_size : ByteArray := prog_7_method_2_code
def yX5_size : MethodName := ⟨RX5, "size", "()I"⟩
abbrev cX5_clear : ByteArray := prog_7_method_3_code
def yX5_clear : MethodName := ⟨RX5, "clear", "()V"⟩
abbrev cX5_signAt : ByteArray := prog_7_method_4_code
def yX5_signAt : MethodName := ⟨RX5, "signAt", "(I)I"⟩
abbrev cX5_addSign : ByteArray := prog_7_method_5_code
def yX5_addSign : MethodName := ⟨RX5, "addSign", "(C)V"⟩
abbrev cX5_addNumber : ByteArray := prog_7_method_6_code
def yX5_addNumber : MethodName := ⟨RX5, "addNumber", "(I)V"⟩
abbrev cX5_addCycle : ByteArray := prog_7_method_7_code
def yX5_addCycle : MethodName := ⟨RX5, "addCycle", "(LTwistyBarrels$Permutation;I)V"⟩
def RX6 : String := "TwistyBarrels$State"
def TX6 : u_T := fun k => match k with
  | 0 => ("TwistyBarrels$State", "barrel", "LTwistyBarrels$Barrel;", true)
  | 1 => ("TwistyBarrels$State", "log", "LTwistyBarrels$MoveLog;", true)
  | 2 => ("TwistyBarrels$State", "movesDone", "I", false)
  | 3 => ("TwistyBarrels$State", "sequencesRead", "I", false)
  | 4 => ("TwistyBarrels$State", "learnt", "[LTwistyBarrels$Permutation;", true)
  | _ => ("TwistyBarrels$State", "filled", "[Z", true)
def tyX6 : Nat → FieldType := fun k => match k with
  | 0 => .object "TwistyBarrels$Barrel"
  | 1 => .object "TwistyBarrels$MoveLog"
  | 2 => .int
  | 3 => .int
  | 4 => .array (.object "TwistyBarrels$Permutation")
  | _ => .array .boolean
theorem nmX6 : ∀ a, a < 6 → ∀ b, b < 6 → a ≠ b → (TX6 a).2.1 ≠ (TX6 b).2.1 := by decide +kernel
theorem tyX6_ok : ∀ k, k < 6 → parseFieldDescriptor (TX6 k).2.2.1 = some (tyX6 k) := by decide +kernel
abbrev cX6_init : ByteArray := prog_8_method_1_code
def yX6_init : MethodName := ⟨RX6, "<init>", "()V"⟩
abbrev cX6_copyFrom : ByteArray := prog_8_method_2_code
def yX6_copyFrom : MethodName := ⟨RX6, "copyFrom", "(LTwistyBarrels$State;)V"⟩
abbrev cX6_isFilled : ByteArray := prog_8_method_3_code
def yX6_isFilled : MethodName := ⟨RX6, "isFilled", "(I)Z"⟩
abbrev cX6_onShelf : ByteArray := prog_8_method_4_code
def yX6_onShelf : MethodName := ⟨RX6, "onShelf", "(I)LTwistyBarrels$Permutation;"⟩
abbrev cX6_putOn : ByteArray := prog_8_method_5_code
def yX6_putOn : MethodName := ⟨RX6, "putOn", "(ILTwistyBarrels$Permutation;)V"⟩
abbrev cX6_takeFrom : ByteArray := prog_8_method_6_code
def yX6_takeFrom : MethodName := ⟨RX6, "takeFrom", "(I)V"⟩
abbrev cX6_countFilled : ByteArray := prog_8_method_7_code
def yX6_countFilled : MethodName := ⟨RX6, "countFilled", "()I"⟩
def RX7 : String := "TwistyBarrels"
def TX7 : u_T := fun k => match k with
  | 0 => ("TwistyBarrels", "now", "LTwistyBarrels$State;", true)
  | 1 => ("TwistyBarrels", "past", "LTwistyBarrels$Past;", true)
  | 2 => ("TwistyBarrels", "snapshot", "LTwistyBarrels$State;", true)
  | 3 => ("TwistyBarrels", "hasSnapshot", "Z", false)
  | 4 => ("TwistyBarrels", "reader", "LTwistyBarrels$SequenceReader;", true)
  | 5 => ("TwistyBarrels", "written", "LTwistyBarrels$Signs;", true)
  | 6 => ("TwistyBarrels", "made", "LTwistyBarrels$Permutation;", true)
  | 7 => ("TwistyBarrels", "spare", "LTwistyBarrels$Permutation;", true)
  | 8 => ("TwistyBarrels", "errorKept", "I", false)
  | 9 => ("TwistyBarrels", "reasonKept", "I", false)
  | _ => ("TwistyBarrels", "detailKept", "I", false)
def tyX7 : Nat → FieldType := fun k => match k with
  | 0 => .object "TwistyBarrels$State"
  | 1 => .object "TwistyBarrels$Past"
  | 2 => .object "TwistyBarrels$State"
  | 3 => .boolean
  | 4 => .object "TwistyBarrels$SequenceReader"
  | 5 => .object "TwistyBarrels$Signs"
  | 6 => .object "TwistyBarrels$Permutation"
  | 7 => .object "TwistyBarrels$Permutation"
  | 8 => .int
  | 9 => .int
  | _ => .int
theorem nmX7 : ∀ a, a < 11 → ∀ b, b < 11 → a ≠ b → (TX7 a).2.1 ≠ (TX7 b).2.1 := by decide +kernel
theorem tyX7_ok : ∀ k, k < 11 → parseFieldDescriptor (TX7 k).2.2.1 = some (tyX7 k) := by decide +kernel
abbrev cX7_init : ByteArray := prog_1_method_1_code
def yX7_init : MethodName := ⟨RX7, "<init>", "()V"⟩
abbrev cX7_turn : ByteArray := prog_1_method_2_code
def yX7_turn : MethodName := ⟨RX7, "turn", "(II)I"⟩
abbrev cX7_shift : ByteArray := prog_1_method_3_code
def yX7_shift : MethodName := ⟨RX7, "shift", "(II)I"⟩
abbrev cX7_back : ByteArray := prog_1_method_4_code
def yX7_back : MethodName := ⟨RX7, "back", "()I"⟩
abbrev cX7_scramble : ByteArray := prog_1_method_5_code
def yX7_scramble : MethodName := ⟨RX7, "scramble", "(II)I"⟩
abbrev cX7_logOf : ByteArray := prog_1_method_6_code
def yX7_logOf : MethodName := ⟨RX7, "logOf", "(II)I"⟩
abbrev cX7_at : ByteArray := prog_1_method_7_code
def yX7_at : MethodName := ⟨RX7, "at", "(I)I"⟩
abbrev cX7_where : ByteArray := prog_1_method_8_code
def yX7_where : MethodName := ⟨RX7, "where", "(I)I"⟩
abbrev cX7_paint : ByteArray := prog_1_method_9_code
def yX7_paint : MethodName := ⟨RX7, "paint", "(II)I"⟩
abbrev cX7_colour : ByteArray := prog_1_method_10_code
def yX7_colour : MethodName := ⟨RX7, "colour", "(I)I"⟩
abbrev cX7_isDone : ByteArray := prog_1_method_11_code
def yX7_isDone : MethodName := ⟨RX7, "isDone", "(I)Z"⟩
abbrev cX7_seams : ByteArray := prog_1_method_12_code
def yX7_seams : MethodName := ⟨RX7, "seams", "()I"⟩
abbrev cX7_fewest : ByteArray := prog_1_method_13_code
def yX7_fewest : MethodName := ⟨RX7, "fewest", "(II)I"⟩
abbrev cX7_learn : ByteArray := prog_1_method_14_code
def yX7_learn : MethodName := ⟨RX7, "learn", "(I)I"⟩
abbrev cX7_use : ByteArray := prog_1_method_15_code
def yX7_use : MethodName := ⟨RX7, "use", "(II)I"⟩
abbrev cX7_join : ByteArray := prog_1_method_16_code
def yX7_join : MethodName := ⟨RX7, "join", "(III)I"⟩
abbrev cX7_invert : ByteArray := prog_1_method_17_code
def yX7_invert : MethodName := ⟨RX7, "invert", "(II)I"⟩
abbrev cX7_commute : ByteArray := prog_1_method_18_code
def yX7_commute : MethodName := ⟨RX7, "commute", "(III)I"⟩
abbrev cX7_forget : ByteArray := prog_1_method_19_code
def yX7_forget : MethodName := ⟨RX7, "forget", "(I)I"⟩
abbrev cX7_goesTo : ByteArray := prog_1_method_20_code
def yX7_goesTo : MethodName := ⟨RX7, "goesTo", "(II)I"⟩
abbrev cX7_shelfOf : ByteArray := prog_1_method_21_code
def yX7_shelfOf : MethodName := ⟨RX7, "shelfOf", "(II)I"⟩
abbrev cX7_orderAgain : ByteArray := prog_1_method_22_code
def yX7_orderAgain : MethodName := ⟨RX7, "orderAgain", "(I)I"⟩
abbrev cX7_isEven : ByteArray := prog_1_method_23_code
def yX7_isEven : MethodName := ⟨RX7, "isEven", "(IZ)Z"⟩
abbrev cX7_cycle : ByteArray := prog_1_method_24_code
def yX7_cycle : MethodName := ⟨RX7, "cycle", "(II)I"⟩
abbrev cX7_commutes : ByteArray := prog_1_method_25_code
def yX7_commutes : MethodName := ⟨RX7, "commutes", "(II)Z"⟩
abbrev cX7_line : ByteArray := prog_1_method_26_code
def yX7_line : MethodName := ⟨RX7, "line", "(I)I"⟩
abbrev cX7_logLine : ByteArray := prog_1_method_27_code
def yX7_logLine : MethodName := ⟨RX7, "logLine", "()I"⟩
abbrev cX7_cycleLine : ByteArray := prog_1_method_28_code
def yX7_cycleLine : MethodName := ⟨RX7, "cycleLine", "(I)I"⟩
abbrev cX7_character : ByteArray := prog_1_method_29_code
def yX7_character : MethodName := ⟨RX7, "character", "(I)C"⟩
abbrev cX7_append : ByteArray := prog_1_method_30_code
def yX7_append : MethodName := ⟨RX7, "append", "(C)I"⟩
abbrev cX7_read : ByteArray := prog_1_method_31_code
def yX7_read : MethodName := ⟨RX7, "read", "()I"⟩
abbrev cX7_account : ByteArray := prog_1_method_34_code
def yX7_account : MethodName := ⟨RX7, "account", "(I)I"⟩
abbrev cX7_isWell : ByteArray := prog_1_method_35_code
def yX7_isWell : MethodName := ⟨RX7, "isWell", "()Z"⟩
abbrev cX7_meanAway : ByteArray := prog_1_method_36_code
def yX7_meanAway : MethodName := ⟨RX7, "meanAway", "()D"⟩
abbrev cX7_seamShare : ByteArray := prog_1_method_37_code
def yX7_seamShare : MethodName := ⟨RX7, "seamShare", "()F"⟩
abbrev cX7_undo : ByteArray := prog_1_method_38_code
def yX7_undo : MethodName := ⟨RX7, "undo", "()I"⟩
abbrev cX7_isIndex : ByteArray := prog_1_method_41_code
def yX7_isIndex : MethodName := ⟨RX7, "isIndex", "(II)Z"⟩
abbrev cX7_needIndex : ByteArray := prog_1_method_42_code
def yX7_needIndex : MethodName := ⟨RX7, "needIndex", "(II)V"⟩
abbrev cX7_needRing : ByteArray := prog_1_method_43_code
def yX7_needRing : MethodName := ⟨RX7, "needRing", "(I)V"⟩
abbrev cX7_needSlot : ByteArray := prog_1_method_44_code
def yX7_needSlot : MethodName := ⟨RX7, "needSlot", "(I)V"⟩
abbrev cX7_needShelf : ByteArray := prog_1_method_45_code
def yX7_needShelf : MethodName := ⟨RX7, "needShelf", "(I)V"⟩
abbrev cX7_needFromTo : ByteArray := prog_1_method_46_code
def yX7_needFromTo : MethodName := ⟨RX7, "needFromTo", "(III)V"⟩
abbrev cX7_needFilled : ByteArray := prog_1_method_47_code
def yX7_needFilled : MethodName := ⟨RX7, "needFilled", "(I)V"⟩
abbrev cX7_needLearnt : ByteArray := prog_1_method_48_code
def yX7_needLearnt : MethodName := ⟨RX7, "needLearnt", "(I)V"⟩
abbrev cX7_refuse : ByteArray := prog_1_method_49_code
def yX7_refuse : MethodName := ⟨RX7, "refuse", "(II)V"⟩
abbrev cX7_roundOf : ByteArray := prog_1_method_50_code
def yX7_roundOf : MethodName := ⟨RX7, "roundOf", "(I)I"⟩
abbrev cX7_doMove : ByteArray := prog_1_method_51_code
def yX7_doMove : MethodName := ⟨RX7, "doMove", "(III)V"⟩
abbrev cX7_doLoggedMove : ByteArray := prog_1_method_52_code
def yX7_doLoggedMove : MethodName := ⟨RX7, "doLoggedMove", "(III)V"⟩
abbrev cX7_putMade : ByteArray := prog_1_method_53_code
def yX7_putMade : MethodName := ⟨RX7, "putMade", "(I)I"⟩
abbrev cX7_isUndoneByInverse : ByteArray := prog_1_method_54_code
def yX7_isUndoneByInverse : MethodName := ⟨RX7, "isUndoneByInverse", "(LTwistyBarrels$Permutation;)Z"⟩
abbrev cX7_takeSequence : ByteArray := prog_1_method_55_code
def yX7_takeSequence : MethodName := ⟨RX7, "takeSequence", "()I"⟩
abbrev cX7_movesBetween : ByteArray := prog_1_method_56_code
def yX7_movesBetween : MethodName := ⟨RX7, "movesBetween", "(II)I"⟩
def RX8 : String := "TwistyBarrelsModel"
def TX8 : u_T := fun k => match k with
  | _ => ("", "", "", false)
def tyX8 : Nat → FieldType := fun k => match k with
  | _ => .int
theorem nmX8 : ∀ a, a < 0 → ∀ b, b < 0 → a ≠ b → (TX8 a).2.1 ≠ (TX8 b).2.1 := by decide +kernel
theorem tyX8_ok : ∀ k, k < 0 → parseFieldDescriptor (TX8 k).2.2.1 = some (tyX8 k) := by decide +kernel
def RJx145de : String := "java/io/Serializable"
def TJx145de : u_T := fun k => match k with
  | _ => ("", "", "", false)
def tyJx145de : Nat → FieldType := fun k => match k with
  | _ => .int
theorem nmJx145de : ∀ a, a < 0 → ∀ b, b < 0 → a ≠ b → (TJx145de a).2.1 ≠ (TJx145de b).2.1 := by decide +kernel
theorem tyJx145de_ok : ∀ k, k < 0 → parseFieldDescriptor (TJx145de k).2.2.1 = some (tyJx145de k) := by decide +kernel
def RJ5 : String := "java/lang/AbstractStringBuilder"
def TJ5 : u_T := fun k => match k with
  | _ => ("", "", "", false)
def tyJ5 : Nat → FieldType := fun k => match k with
  | _ => .int
theorem nmJ5 : ∀ a, a < 0 → ∀ b, b < 0 → a ≠ b → (TJ5 a).2.1 ≠ (TJ5 b).2.1 := by decide +kernel
theorem tyJ5_ok : ∀ k, k < 0 → parseFieldDescriptor (TJ5 k).2.2.1 = some (tyJ5 k) := by decide +kernel
abbrev cJ5_init_d00df : ByteArray := prog_12_method_2_code
def yJ5_init_d00df : MethodName := ⟨RJ5, "<init>", "(I)V"⟩
abbrev cJ5_length_8abf5 : ByteArray := prog_12_method_6_code
def yJ5_length_8abf5 : MethodName := ⟨RJ5, "length", "()I"⟩
abbrev cJ5_ensureCapacityInternal_d00df : ByteArray := prog_12_method_9_code
def yJ5_ensureCapacityInternal_d00df : MethodName := ⟨RJ5, "ensureCapacityInternal", "(I)V"⟩
abbrev cJ5_newCapacity_0f7a4 : ByteArray := prog_12_method_10_code
def yJ5_newCapacity_0f7a4 : MethodName := ⟨RJ5, "newCapacity", "(I)I"⟩
abbrev cJ5_inflate_da8c8 : ByteArray := prog_12_method_11_code
def yJ5_inflate_da8c8 : MethodName := ⟨RJ5, "inflate", "()V"⟩
abbrev cJ5_charAt_5068e : ByteArray := prog_12_method_14_code
def yJ5_charAt_5068e : MethodName := ⟨RJ5, "charAt", "(I)C"⟩
abbrev cJ5_append_cf1ce : ByteArray := prog_12_method_22_code
def yJ5_append_cf1ce : MethodName := ⟨RJ5, "append", "(Ljava/lang/String;)Ljava/lang/AbstractStringBuilder;"⟩
abbrev cJ5_append_2ceeb : ByteArray := prog_12_method_24_code
def yJ5_append_2ceeb : MethodName := ⟨RJ5, "append", "(Ljava/lang/AbstractStringBuilder;)Ljava/lang/AbstractStringBuilder;"⟩
abbrev cJ5_append_8f9a3 : ByteArray := prog_12_method_25_code
def yJ5_append_8f9a3 : MethodName := ⟨RJ5, "append", "(Ljava/lang/CharSequence;)Ljava/lang/AbstractStringBuilder;"⟩
abbrev cJ5_appendNull_278bc : ByteArray := prog_12_method_26_code
def yJ5_appendNull_278bc : MethodName := ⟨RJ5, "appendNull", "()Ljava/lang/AbstractStringBuilder;"⟩
abbrev cJ5_append_e1f22 : ByteArray := prog_12_method_27_code
def yJ5_append_e1f22 : MethodName := ⟨RJ5, "append", "(Ljava/lang/CharSequence;II)Ljava/lang/AbstractStringBuilder;"⟩
abbrev cJ5_append_3fe6f : ByteArray := prog_12_method_31_code
def yJ5_append_3fe6f : MethodName := ⟨RJ5, "append", "(C)Ljava/lang/AbstractStringBuilder;"⟩
abbrev cJ5_append_c97b9 : ByteArray := prog_12_method_32_code
def yJ5_append_c97b9 : MethodName := ⟨RJ5, "append", "(I)Ljava/lang/AbstractStringBuilder;"⟩
abbrev cJ5_getValue_6d5f1 : ByteArray := prog_12_method_64_code
def yJ5_getValue_6d5f1 : MethodName := ⟨RJ5, "getValue", "()[B"⟩
abbrev cJ5_getBytes_840e7 : ByteArray := prog_12_method_65_code
def yJ5_getBytes_840e7 : MethodName := ⟨RJ5, "getBytes", "([BIB)V"⟩
abbrev cJ5_getCoder_7d493 : ByteArray := prog_12_method_67_code
def yJ5_getCoder_7d493 : MethodName := ⟨RJ5, "getCoder", "()B"⟩
abbrev cJ5_isLatin1_aae02 : ByteArray := prog_12_method_68_code
def yJ5_isLatin1_aae02 : MethodName := ⟨RJ5, "isLatin1", "()Z"⟩
abbrev cJ5_inflateIfNeededFor_a7421 : ByteArray := prog_12_method_71_code
def yJ5_inflateIfNeededFor_a7421 : MethodName := ⟨RJ5, "inflateIfNeededFor", "(Ljava/lang/String;)V"⟩
abbrev cJ5_inflateIfNeededFor_56e69 : ByteArray := prog_12_method_72_code
def yJ5_inflateIfNeededFor_56e69 : MethodName := ⟨RJ5, "inflateIfNeededFor", "(Ljava/lang/AbstractStringBuilder;)V"⟩
abbrev cJ5_putStringAt_47b60 : ByteArray := prog_12_method_73_code
def yJ5_putStringAt_47b60 : MethodName := ⟨RJ5, "putStringAt", "(ILjava/lang/String;)V"⟩
abbrev cJ5_appendChars_3135b : ByteArray := prog_12_method_75_code
def yJ5_appendChars_3135b : MethodName := ⟨RJ5, "appendChars", "(Ljava/lang/String;II)V"⟩
abbrev cJ5_appendChars_a91ff : ByteArray := prog_12_method_76_code
def yJ5_appendChars_a91ff : MethodName := ⟨RJ5, "appendChars", "(Ljava/lang/CharSequence;II)V"⟩
def RJx2cfe8 : String := "java/lang/Appendable"
def TJx2cfe8 : u_T := fun k => match k with
  | _ => ("", "", "", false)
def tyJx2cfe8 : Nat → FieldType := fun k => match k with
  | _ => .int
theorem nmJx2cfe8 : ∀ a, a < 0 → ∀ b, b < 0 → a ≠ b → (TJx2cfe8 a).2.1 ≠ (TJx2cfe8 b).2.1 := by decide +kernel
theorem tyJx2cfe8_ok : ∀ k, k < 0 → parseFieldDescriptor (TJx2cfe8 k).2.2.1 = some (tyJx2cfe8 k) := by decide +kernel
def RJx9f9b0 : String := "java/lang/CharSequence"
def TJx9f9b0 : u_T := fun k => match k with
  | _ => ("", "", "", false)
def tyJx9f9b0 : Nat → FieldType := fun k => match k with
  | _ => .int
theorem nmJx9f9b0 : ∀ a, a < 0 → ∀ b, b < 0 → a ≠ b → (TJx9f9b0 a).2.1 ≠ (TJx9f9b0 b).2.1 := by decide +kernel
theorem tyJx9f9b0_ok : ∀ k, k < 0 → parseFieldDescriptor (TJx9f9b0 k).2.2.1 = some (tyJx9f9b0 k) := by decide +kernel
def RJx8e188 : String := "java/lang/Cloneable"
def TJx8e188 : u_T := fun k => match k with
  | _ => ("", "", "", false)
def tyJx8e188 : Nat → FieldType := fun k => match k with
  | _ => .int
theorem nmJx8e188 : ∀ a, a < 0 → ∀ b, b < 0 → a ≠ b → (TJx8e188 a).2.1 ≠ (TJx8e188 b).2.1 := by decide +kernel
theorem tyJx8e188_ok : ∀ k, k < 0 → parseFieldDescriptor (TJx8e188 k).2.2.1 = some (tyJx8e188 k) := by decide +kernel
def RJxb160c : String := "java/lang/Comparable"
def TJxb160c : u_T := fun k => match k with
  | _ => ("", "", "", false)
def tyJxb160c : Nat → FieldType := fun k => match k with
  | _ => .int
theorem nmJxb160c : ∀ a, a < 0 → ∀ b, b < 0 → a ≠ b → (TJxb160c a).2.1 ≠ (TJxb160c b).2.1 := by decide +kernel
theorem tyJxb160c_ok : ∀ k, k < 0 → parseFieldDescriptor (TJxb160c k).2.2.1 = some (tyJxb160c k) := by decide +kernel
def RJ6 : String := "java/lang/Integer"
def TJ6 : u_T := fun k => match k with
  | _ => ("", "", "", false)
def tyJ6 : Nat → FieldType := fun k => match k with
  | _ => .int
theorem nmJ6 : ∀ a, a < 0 → ∀ b, b < 0 → a ≠ b → (TJ6 a).2.1 ≠ (TJ6 b).2.1 := by decide +kernel
theorem tyJ6_ok : ∀ k, k < 0 → parseFieldDescriptor (TJ6 k).2.2.1 = some (tyJ6 k) := by decide +kernel
abbrev cJ6_getChars_ba4f3 : ByteArray := prog_21_method_12_code
def yJ6_getChars_ba4f3 : MethodName := ⟨RJ6, "getChars", "(II[B)I"⟩
abbrev cJ6_stringSize_0f7a4 : ByteArray := prog_21_method_13_code
def yJ6_stringSize_0f7a4 : MethodName := ⟨RJ6, "stringSize", "(I)I"⟩
def RJ9 : String := "java/lang/Math"
def TJ9 : u_T := fun k => match k with
  | _ => ("", "", "", false)
def tyJ9 : Nat → FieldType := fun k => match k with
  | _ => .int
theorem nmJ9 : ∀ a, a < 0 → ∀ b, b < 0 → a ≠ b → (TJ9 a).2.1 ≠ (TJ9 b).2.1 := by decide +kernel
theorem tyJ9_ok : ∀ k, k < 0 → parseFieldDescriptor (TJ9 k).2.2.1 = some (tyJ9 k) := by decide +kernel
abbrev cJ9_max_7cf53 : ByteArray := prog_22_method_65_code
def yJ9_max_7cf53 : MethodName := ⟨RJ9, "max", "(II)I"⟩
abbrev cJ9_min_7cf53 : ByteArray := prog_22_method_69_code
def yJ9_min_7cf53 : MethodName := ⟨RJ9, "min", "(II)I"⟩
def RJxd2413 : String := "java/lang/Number"
def TJxd2413 : u_T := fun k => match k with
  | _ => ("", "", "", false)
def tyJxd2413 : Nat → FieldType := fun k => match k with
  | _ => .int
theorem nmJxd2413 : ∀ a, a < 0 → ∀ b, b < 0 → a ≠ b → (TJxd2413 a).2.1 ≠ (TJxd2413 b).2.1 := by decide +kernel
theorem tyJxd2413_ok : ∀ k, k < 0 → parseFieldDescriptor (TJxd2413 k).2.2.1 = some (tyJxd2413 k) := by decide +kernel
def RJ0 : String := "java/lang/String"
def TJ0 : u_T := fun k => match k with
  | 0 => ("java/lang/String", "value", "[B", true)
  | 1 => ("java/lang/String", "coder", "B", true)
  | 2 => ("java/lang/String", "hash", "I", false)
  | _ => ("java/lang/String", "hashIsZero", "Z", false)
def tyJ0 : Nat → FieldType := fun k => match k with
  | 0 => .array .byte
  | 1 => .byte
  | 2 => .int
  | _ => .boolean
theorem nmJ0 : ∀ a, a < 4 → ∀ b, b < 4 → a ≠ b → (TJ0 a).2.1 ≠ (TJ0 b).2.1 := by decide +kernel
theorem tyJ0_ok : ∀ k, k < 4 → parseFieldDescriptor (TJ0 k).2.2.1 = some (tyJ0 k) := by decide +kernel
abbrev cJ0_init_81219 : ByteArray := prog_25_method_53_code
def yJ0_init_81219 : MethodName := ⟨RJ0, "<init>", "(Ljava/lang/StringBuilder;)V"⟩
abbrev cJ0_length_8abf5 : ByteArray := prog_25_method_54_code
def yJ0_length_8abf5 : MethodName := ⟨RJ0, "length", "()I"⟩
abbrev cJ0_charAt_5068e : ByteArray := prog_25_method_56_code
def yJ0_charAt_5068e : MethodName := ⟨RJ0, "charAt", "(I)C"⟩
abbrev cJ0_getBytes_840e7 : ByteArray := prog_25_method_147_code
def yJ0_getBytes_840e7 : MethodName := ⟨RJ0, "getBytes", "([BIB)V"⟩
abbrev cJ0_init_db425 : ByteArray := prog_25_method_150_code
def yJ0_init_db425 : MethodName := ⟨RJ0, "<init>", "(Ljava/lang/AbstractStringBuilder;Ljava/lang/Void;)V"⟩
abbrev cJ0_coder_7d493 : ByteArray := prog_25_method_152_code
def yJ0_coder_7d493 : MethodName := ⟨RJ0, "coder", "()B"⟩
abbrev cJ0_value_6d5f1 : ByteArray := prog_25_method_153_code
def yJ0_value_6d5f1 : MethodName := ⟨RJ0, "value", "()[B"⟩
abbrev cJ0_isLatin1_aae02 : ByteArray := prog_25_method_154_code
def yJ0_isLatin1_aae02 : MethodName := ⟨RJ0, "isLatin1", "()Z"⟩
abbrev cJ0_checkIndex_df160 : ByteArray := prog_25_method_155_code
def yJ0_checkIndex_df160 : MethodName := ⟨RJ0, "checkIndex", "(II)V"⟩
abbrev cJ0_checkBoundsOffCount_cabcc : ByteArray := prog_25_method_157_code
def yJ0_checkBoundsOffCount_cabcc : MethodName := ⟨RJ0, "checkBoundsOffCount", "(III)I"⟩
abbrev cJ0_checkBoundsBeginEnd_23922 : ByteArray := prog_25_method_158_code
def yJ0_checkBoundsBeginEnd_23922 : MethodName := ⟨RJ0, "checkBoundsBeginEnd", "(III)V"⟩
def RJ4 : String := "java/lang/StringBuilder"
def TJ4 : u_T := fun k => match k with
  | 0 => ("java/lang/AbstractStringBuilder", "value", "[B", false)
  | 1 => ("java/lang/AbstractStringBuilder", "coder", "B", false)
  | 2 => ("java/lang/AbstractStringBuilder", "maybeLatin1", "Z", false)
  | _ => ("java/lang/AbstractStringBuilder", "count", "I", false)
def tyJ4 : Nat → FieldType := fun k => match k with
  | 0 => .array .byte
  | 1 => .byte
  | 2 => .boolean
  | _ => .int
theorem nmJ4 : ∀ a, a < 4 → ∀ b, b < 4 → a ≠ b → (TJ4 a).2.1 ≠ (TJ4 b).2.1 := by decide +kernel
theorem tyJ4_ok : ∀ k, k < 4 → parseFieldDescriptor (TJ4 k).2.2.1 = some (tyJ4 k) := by decide +kernel
abbrev cJ4_init_da8c8 : ByteArray := prog_26_method_1_code
def yJ4_init_da8c8 : MethodName := ⟨RJ4, "<init>", "()V"⟩
abbrev cJ4_append_15ec4 : ByteArray := prog_26_method_7_code
def yJ4_append_15ec4 : MethodName := ⟨RJ4, "append", "(Ljava/lang/String;)Ljava/lang/StringBuilder;"⟩
abbrev cJ4_append_1fab5 : ByteArray := prog_26_method_9_code
def yJ4_append_1fab5 : MethodName := ⟨RJ4, "append", "(Ljava/lang/CharSequence;)Ljava/lang/StringBuilder;"⟩
abbrev cJ4_append_69d29 : ByteArray := prog_26_method_10_code
def yJ4_append_69d29 : MethodName := ⟨RJ4, "append", "(Ljava/lang/CharSequence;II)Ljava/lang/StringBuilder;"⟩
abbrev cJ4_append_cf468 : ByteArray := prog_26_method_14_code
def yJ4_append_cf468 : MethodName := ⟨RJ4, "append", "(C)Ljava/lang/StringBuilder;"⟩
abbrev cJ4_append_bf812 : ByteArray := prog_26_method_15_code
def yJ4_append_bf812 : MethodName := ⟨RJ4, "append", "(I)Ljava/lang/StringBuilder;"⟩
abbrev cJ4_toString_0e30d : ByteArray := prog_26_method_42_code
def yJ4_toString_0e30d : MethodName := ⟨RJ4, "toString", "()Ljava/lang/String;"⟩
abbrev cJ4_append_e1f22 : ByteArray := prog_26_method_77_code
def yJ4_append_e1f22 : MethodName := ⟨RJ4, "append", "(Ljava/lang/CharSequence;II)Ljava/lang/AbstractStringBuilder;"⟩
abbrev cJ4_append_cf1ce : ByteArray := prog_26_method_80_code
def yJ4_append_cf1ce : MethodName := ⟨RJ4, "append", "(Ljava/lang/String;)Ljava/lang/AbstractStringBuilder;"⟩
abbrev cJ4_charAt_5068e : ByteArray := prog_26_method_88_code
def yJ4_charAt_5068e : MethodName := ⟨RJ4, "charAt", "(I)C"⟩
abbrev cJ4_length_8abf5 : ByteArray := prog_26_method_93_code
def yJ4_length_8abf5 : MethodName := ⟨RJ4, "length", "()I"⟩
def RJ1 : String := "java/lang/StringLatin1"
def TJ1 : u_T := fun k => match k with
  | _ => ("", "", "", false)
def tyJ1 : Nat → FieldType := fun k => match k with
  | _ => .int
theorem nmJ1 : ∀ a, a < 0 → ∀ b, b < 0 → a ≠ b → (TJ1 a).2.1 ≠ (TJ1 b).2.1 := by decide +kernel
theorem tyJ1_ok : ∀ k, k < 0 → parseFieldDescriptor (TJ1 k).2.2.1 = some (tyJ1 k) := by decide +kernel
abbrev cJ1_charAt_3b067 : ByteArray := prog_27_method_2_code
def yJ1_charAt_3b067 : MethodName := ⟨RJ1, "charAt", "([BI)C"⟩
abbrev cJ1_canEncode_fc78d : ByteArray := prog_27_method_3_code
def yJ1_canEncode_fc78d : MethodName := ⟨RJ1, "canEncode", "(C)Z"⟩
abbrev cJ1_inflate_0e8fd : ByteArray := prog_27_method_50_code
def yJ1_inflate_0e8fd : MethodName := ⟨RJ1, "inflate", "([BI[BII)V"⟩
def RJ2 : String := "java/lang/StringUTF16"
def TJ2 : u_T := fun k => match k with
  | _ => ("", "", "", false)
def tyJ2 : Nat → FieldType := fun k => match k with
  | _ => .int
theorem nmJ2 : ∀ a, a < 0 → ∀ b, b < 0 → a ≠ b → (TJ2 a).2.1 ≠ (TJ2 b).2.1 := by decide +kernel
theorem tyJ2_ok : ∀ k, k < 0 → parseFieldDescriptor (TJ2 k).2.2.1 = some (tyJ2 k) := by decide +kernel
abbrev cJ2_newBytesFor_77867 : ByteArray := prog_28_method_2_code
def yJ2_newBytesFor_77867 : MethodName := ⟨RJ2, "newBytesFor", "(I)[B"⟩
abbrev cJ2_newBytesLength_0f7a4 : ByteArray := prog_28_method_3_code
def yJ2_newBytesLength_0f7a4 : MethodName := ⟨RJ2, "newBytesLength", "(I)I"⟩
abbrev cJ2_putChar_b72d1 : ByteArray := prog_28_method_4_code
def yJ2_putChar_b72d1 : MethodName := ⟨RJ2, "putChar", "([BII)V"⟩
abbrev cJ2_getChar_3b067 : ByteArray := prog_28_method_5_code
def yJ2_getChar_3b067 : MethodName := ⟨RJ2, "getChar", "([BI)C"⟩
abbrev cJ2_length_9d52b : ByteArray := prog_28_method_6_code
def yJ2_length_9d52b : MethodName := ⟨RJ2, "length", "([B)I"⟩
abbrev cJ2_coderFromArrayLen_85cad : ByteArray := prog_28_method_15_code
def yJ2_coderFromArrayLen_85cad : MethodName := ⟨RJ2, "coderFromArrayLen", "([BI)B"⟩
abbrev cJ2_compress_39247 : ByteArray := prog_28_method_17_code
def yJ2_compress_39247 : MethodName := ⟨RJ2, "compress", "([BII)[B"⟩
abbrev cJ2_compress_5af95 : ByteArray := prog_28_method_22_code
def yJ2_compress_5af95 : MethodName := ⟨RJ2, "compress", "([BI[BII)I"⟩
abbrev cJ2_putCharSB_b72d1 : ByteArray := prog_28_method_71_code
def yJ2_putCharSB_b72d1 : MethodName := ⟨RJ2, "putCharSB", "([BII)V"⟩
abbrev cJ2_putCharsSB_8fd6a : ByteArray := prog_28_method_73_code
def yJ2_putCharsSB_8fd6a : MethodName := ⟨RJ2, "putCharsSB", "([BILjava/lang/CharSequence;II)V"⟩
abbrev cJ2_getChars_46870 : ByteArray := prog_28_method_77_code
def yJ2_getChars_46870 : MethodName := ⟨RJ2, "getChars", "(III[B)I"⟩
abbrev cJ2_putCharsAt_cd4e5 : ByteArray := prog_28_method_81_code
def yJ2_putCharsAt_cd4e5 : MethodName := ⟨RJ2, "putCharsAt", "([BICCCC)I"⟩
abbrev cJ2_charAt_3b067 : ByteArray := prog_28_method_83_code
def yJ2_charAt_3b067 : MethodName := ⟨RJ2, "charAt", "([BI)C"⟩
abbrev cJ2_inflate_0e8fd : ByteArray := prog_28_method_86_code
def yJ2_inflate_0e8fd : MethodName := ⟨RJ2, "inflate", "([BI[BII)V"⟩
abbrev cJ2_getChars_ba4f3 : ByteArray := prog_28_method_89_code
def yJ2_getChars_ba4f3 : MethodName := ⟨RJ2, "getChars", "(II[B)I"⟩
abbrev cJ2_checkIndex_2214a : ByteArray := prog_28_method_91_code
def yJ2_checkIndex_2214a : MethodName := ⟨RJ2, "checkIndex", "(I[B)V"⟩
abbrev cJ2_checkBoundsBeginEnd_d044e : ByteArray := prog_28_method_93_code
def yJ2_checkBoundsBeginEnd_d044e : MethodName := ⟨RJ2, "checkBoundsBeginEnd", "(II[B)V"⟩
abbrev cJ2_checkBoundsOffCount_d044e : ByteArray := prog_28_method_94_code
def yJ2_checkBoundsOffCount_d044e : MethodName := ⟨RJ2, "checkBoundsOffCount", "(II[B)V"⟩
def RJ10 : String := "java/lang/System"
def TJ10 : u_T := fun k => match k with
  | _ => ("", "", "", false)
def tyJ10 : Nat → FieldType := fun k => match k with
  | _ => .int
theorem nmJ10 : ∀ a, a < 0 → ∀ b, b < 0 → a ≠ b → (TJ10 a).2.1 ≠ (TJ10 b).2.1 := by decide +kernel
theorem tyJ10_ok : ∀ k, k < 0 → parseFieldDescriptor (TJ10 k).2.2.1 = some (tyJ10 k) := by decide +kernel
def RJxfd54e : String := "java/lang/constant/Constable"
def TJxfd54e : u_T := fun k => match k with
  | _ => ("", "", "", false)
def tyJxfd54e : Nat → FieldType := fun k => match k with
  | _ => .int
theorem nmJxfd54e : ∀ a, a < 0 → ∀ b, b < 0 → a ≠ b → (TJxfd54e a).2.1 ≠ (TJxfd54e b).2.1 := by decide +kernel
theorem tyJxfd54e_ok : ∀ k, k < 0 → parseFieldDescriptor (TJxfd54e k).2.2.1 = some (tyJxfd54e k) := by decide +kernel
def RJx3cf43 : String := "java/lang/constant/ConstantDesc"
def TJx3cf43 : u_T := fun k => match k with
  | _ => ("", "", "", false)
def tyJx3cf43 : Nat → FieldType := fun k => match k with
  | _ => .int
theorem nmJx3cf43 : ∀ a, a < 0 → ∀ b, b < 0 → a ≠ b → (TJx3cf43 a).2.1 ≠ (TJx3cf43 b).2.1 := by decide +kernel
theorem tyJx3cf43_ok : ∀ k, k < 0 → parseFieldDescriptor (TJx3cf43 k).2.2.1 = some (tyJx3cf43 k) := by decide +kernel
def RJ7 : String := "java/util/Arrays"
def TJ7 : u_T := fun k => match k with
  | _ => ("", "", "", false)
def tyJ7 : Nat → FieldType := fun k => match k with
  | _ => .int
theorem nmJ7 : ∀ a, a < 0 → ∀ b, b < 0 → a ≠ b → (TJ7 a).2.1 ≠ (TJ7 b).2.1 := by decide +kernel
theorem tyJ7_ok : ∀ k, k < 0 → parseFieldDescriptor (TJ7 k).2.2.1 = some (tyJ7 k) := by decide +kernel
abbrev cJ7_copyOf_9075b : ByteArray := prog_34_method_121_code
def yJ7_copyOf_9075b : MethodName := ⟨RJ7, "copyOf", "([BI)[B"⟩
abbrev cJ7_checkLength_df160 : ByteArray := prog_34_method_131_code
def yJ7_checkLength_df160 : MethodName := ⟨RJ7, "checkLength", "(II)V"⟩
abbrev cJ7_copyOfRange_39247 : ByteArray := prog_34_method_132_code
def yJ7_copyOfRange_39247 : MethodName := ⟨RJ7, "copyOfRange", "([BII)[B"⟩
abbrev cJ7_copyOfRangeByte_39247 : ByteArray := prog_34_method_133_code
def yJ7_copyOfRangeByte_39247 : MethodName := ⟨RJ7, "copyOfRangeByte", "([BII)[B"⟩
def RJ8 : String := "jdk/internal/util/ArraysSupport"
def TJ8 : u_T := fun k => match k with
  | _ => ("", "", "", false)
def tyJ8 : Nat → FieldType := fun k => match k with
  | _ => .int
theorem nmJ8 : ∀ a, a < 0 → ∀ b, b < 0 → a ≠ b → (TJ8 a).2.1 ≠ (TJ8 b).2.1 := by decide +kernel
theorem tyJ8_ok : ∀ k, k < 0 → parseFieldDescriptor (TJ8 k).2.2.1 = some (tyJ8 k) := by decide +kernel
abbrev cJ8_newLength_cabcc : ByteArray := prog_36_method_27_code
def yJ8_newLength_cabcc : MethodName := ⟨RJ8, "newLength", "(III)I"⟩
abbrev cJ8_hugeLength_7cf53 : ByteArray := prog_36_method_28_code
def yJ8_hugeLength_7cf53 : MethodName := ⟨RJ8, "hugeLength", "(II)I"⟩
def RJ3 : String := "jdk/internal/util/Preconditions"
def TJ3 : u_T := fun k => match k with
  | _ => ("", "", "", false)
def tyJ3 : Nat → FieldType := fun k => match k with
  | _ => .int
theorem nmJ3 : ∀ a, a < 0 → ∀ b, b < 0 → a ≠ b → (TJ3 a).2.1 ≠ (TJ3 b).2.1 := by decide +kernel
theorem tyJ3_ok : ∀ k, k < 0 → parseFieldDescriptor (TJ3 k).2.2.1 = some (tyJ3 k) := by decide +kernel
abbrev cJ3_checkIndex_8e157 : ByteArray := prog_37_method_11_code
def yJ3_checkIndex_8e157 : MethodName := ⟨RJ3, "checkIndex", "(IILjava/util/function/BiFunction;)I"⟩
abbrev cJ3_checkFromToIndex_8c36e : ByteArray := prog_37_method_12_code
def yJ3_checkFromToIndex_8c36e : MethodName := ⟨RJ3, "checkFromToIndex", "(IIILjava/util/function/BiFunction;)I"⟩
abbrev cJ3_checkFromIndexSize_8c36e : ByteArray := prog_37_method_13_code
def yJ3_checkFromIndexSize_8c36e : MethodName := ⟨RJ3, "checkFromIndexSize", "(IIILjava/util/function/BiFunction;)I"⟩
def RL : String := "TwistyBarrelsLaw"
abbrev cL_cell : ByteArray := method_2_code
def yL_cell : MethodName := ⟨RL, "cell", "([II)I"⟩
abbrev cL_turn : ByteArray := method_3_code
def yL_turn : MethodName := ⟨RL, "turn", "(LTwistyBarrels;II)I"⟩
abbrev cL_shift : ByteArray := method_4_code
def yL_shift : MethodName := ⟨RL, "shift", "(LTwistyBarrels;II)I"⟩
abbrev cL_back : ByteArray := method_5_code
def yL_back : MethodName := ⟨RL, "back", "(LTwistyBarrels;)I"⟩
abbrev cL_scramble : ByteArray := method_6_code
def yL_scramble : MethodName := ⟨RL, "scramble", "(LTwistyBarrels;II)I"⟩
abbrev cL_logOf : ByteArray := method_7_code
def yL_logOf : MethodName := ⟨RL, "logOf", "(LTwistyBarrels;II)I"⟩
abbrev cL_at : ByteArray := method_8_code
def yL_at : MethodName := ⟨RL, "at", "(LTwistyBarrels;I)I"⟩
abbrev cL_where : ByteArray := method_9_code
def yL_where : MethodName := ⟨RL, "where", "(LTwistyBarrels;I)I"⟩
abbrev cL_paint : ByteArray := method_10_code
def yL_paint : MethodName := ⟨RL, "paint", "(LTwistyBarrels;II)I"⟩
abbrev cL_colour : ByteArray := method_11_code
def yL_colour : MethodName := ⟨RL, "colour", "(LTwistyBarrels;I)I"⟩
abbrev cL_isDone : ByteArray := method_12_code
def yL_isDone : MethodName := ⟨RL, "isDone", "(LTwistyBarrels;I)I"⟩
abbrev cL_fewest : ByteArray := method_13_code
def yL_fewest : MethodName := ⟨RL, "fewest", "(LTwistyBarrels;II)I"⟩
abbrev cL_learns : ByteArray := method_14_code
def yL_learns : MethodName := ⟨RL, "learns", "(LTwistyBarrels;I)I"⟩
abbrev cL_use : ByteArray := method_15_code
def yL_use : MethodName := ⟨RL, "use", "(LTwistyBarrels;II)I"⟩
abbrev cL_join : ByteArray := method_16_code
def yL_join : MethodName := ⟨RL, "join", "(LTwistyBarrels;III)I"⟩
abbrev cL_invert : ByteArray := method_17_code
def yL_invert : MethodName := ⟨RL, "invert", "(LTwistyBarrels;II)I"⟩
abbrev cL_commute : ByteArray := method_18_code
def yL_commute : MethodName := ⟨RL, "commute", "(LTwistyBarrels;III)I"⟩
abbrev cL_forget : ByteArray := method_19_code
def yL_forget : MethodName := ⟨RL, "forget", "(LTwistyBarrels;I)I"⟩
abbrev cL_goesTo : ByteArray := method_20_code
def yL_goesTo : MethodName := ⟨RL, "goesTo", "(LTwistyBarrels;II)I"⟩
abbrev cL_shelfOf : ByteArray := method_21_code
def yL_shelfOf : MethodName := ⟨RL, "shelfOf", "(LTwistyBarrels;II)I"⟩
abbrev cL_orderAgain : ByteArray := method_22_code
def yL_orderAgain : MethodName := ⟨RL, "orderAgain", "(LTwistyBarrels;I)I"⟩
abbrev cL_isEven : ByteArray := method_23_code
def yL_isEven : MethodName := ⟨RL, "isEven", "(LTwistyBarrels;IZ)I"⟩
abbrev cL_cycle : ByteArray := method_24_code
def yL_cycle : MethodName := ⟨RL, "cycle", "(LTwistyBarrels;II)I"⟩
abbrev cL_commutes : ByteArray := method_25_code
def yL_commutes : MethodName := ⟨RL, "commutes", "(LTwistyBarrels;II)I"⟩
abbrev cL_line : ByteArray := method_26_code
def yL_line : MethodName := ⟨RL, "line", "(LTwistyBarrels;I)I"⟩
abbrev cL_cycleLine : ByteArray := method_27_code
def yL_cycleLine : MethodName := ⟨RL, "cycleLine", "(LTwistyBarrels;I)I"⟩
abbrev cL_character : ByteArray := method_28_code
def yL_character : MethodName := ⟨RL, "character", "(LTwistyBarrels;I)I"⟩
abbrev cL_append : ByteArray := method_29_code
def yL_append : MethodName := ⟨RL, "append", "(LTwistyBarrels;C)I"⟩
abbrev cL_reads : ByteArray := method_30_code
def yL_reads : MethodName := ⟨RL, "reads", "(LTwistyBarrels;)I"⟩
abbrev cL_types : ByteArray := method_31_code
def yL_types : MethodName := ⟨RL, "types", "(LTwistyBarrels;Ljava/lang/String;)Z"⟩
abbrev cL_read : ByteArray := method_32_code
def yL_read : MethodName := ⟨RL, "read", "(LTwistyBarrels;Ljava/lang/String;)I"⟩
abbrev cL_learn : ByteArray := method_33_code
def yL_learn : MethodName := ⟨RL, "learn", "(LTwistyBarrels;Ljava/lang/String;I)I"⟩
abbrev cL_undo : ByteArray := method_36_code
def yL_undo : MethodName := ⟨RL, "undo", "(LTwistyBarrels;)I"⟩
abbrev cL_then : ByteArray := method_37_code
def yL_then : MethodName := ⟨RL, "then", "([I[I)[I"⟩
abbrev cL_inverse : ByteArray := method_38_code
def yL_inverse : MethodName := ⟨RL, "inverse", "([I)[I"⟩
abbrev cL_move : ByteArray := method_39_code
def yL_move : MethodName := ⟨RL, "move", "(ZII)[I"⟩
abbrev cL_sequence : ByteArray := method_40_code
def yL_sequence : MethodName := ⟨RL, "sequence", "([I[ILjava/lang/StringBuilder;I)[I"⟩
abbrev cL_drawn : ByteArray := method_41_code
def yL_drawn : MethodName := ⟨RL, "drawn", "([I)LTwistyBarrels;"⟩
abbrev cL_shelf : ByteArray := method_42_code
def yL_shelf : MethodName := ⟨RL, "shelf", "(LTwistyBarrels;I)[I"⟩
abbrev cL_law : ByteArray := code
def yL_law : MethodName := ⟨RL, "law", "([I)Z"⟩
abbrev cL_slots : ByteArray := method_46_code
def yL_slots : MethodName := ⟨RL, "slots", "(LTwistyBarrels;)Z"⟩
abbrev cL_spells : ByteArray := method_47_code
def yL_spells : MethodName := ⟨RL, "spells", "(LTwistyBarrels;ILjava/lang/String;)Z"⟩
abbrev cL_seams : ByteArray := method_48_code
def yL_seams : MethodName := ⟨RL, "seams", "(LTwistyBarrels;)Z"⟩
abbrev cL_shelves : ByteArray := method_49_code
def yL_shelves : MethodName := ⟨RL, "shelves", "(LTwistyBarrels;)Z"⟩
abbrev cL_isNothing : ByteArray := method_50_code
def yL_isNothing : MethodName := ⟨RL, "isNothing", "([I)Z"⟩
abbrev cL_logs : ByteArray := method_51_code
def yL_logs : MethodName := ⟨RL, "logs", "(LTwistyBarrels;)Z"⟩
abbrev cL_sum : ByteArray := method_52_code
def yL_sum : MethodName := ⟨RL, "sum", "(LTwistyBarrels;)J"⟩
abbrev cL_undone : ByteArray := method_53_code
def yL_undone : MethodName := ⟨RL, "undone", "([ILTwistyBarrels;)Z"⟩
abbrev vwCl : List vw_C := [(RX0, TX0, 3), (RX1, TX1, 2), (RX2, TX2, 2), (RX3, TX3, 1), (RX4, TX4, 6), (RX5, TX5, 2), (RX6, TX6, 6), (RX7, TX7, 11), (RJ0, TJ0, 4), (RJ4, TJ4, 4)]
