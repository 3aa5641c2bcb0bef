/-! ===== BEGIN printed: names, fields, word lists, decode rows ===== -/
def RX0 : String := "DustReads$Corner"
def TX0 : u_T := fun k => match k with
  | 0 => ("DustReads$Place", "number", "I", true)
  | _ => ("DustReads$Place", "draught", "I", true)
def tyX0 : Nat → FieldType := fun k => match k with
  | 0 => .int
  | _ => .int
abbrev wsX00 : List Cond := u_ws RX0 TX0 2
theorem nmX0 : ∀ a, a < 2 → ∀ b, b < 2 → a ≠ b → (TX0 a).2.1 ≠ (TX0 b).2.1 := by decide +kernel
theorem tyX0_ok : ∀ k, k < 2 → parseFieldDescriptor (TX0 k).2.2.1 = some (tyX0 k) := by decide +kernel
abbrev cX0_init : ByteArray := prog_2_method_1_code
def yX0_init : MethodName := ⟨RX0, "<init>", "(II)V"⟩
abbrev cX0_kindTold : ByteArray := prog_2_method_2_code
def yX0_kindTold : MethodName := ⟨RX0, "kindTold", "()I"⟩
abbrev cX0_fallBy : ByteArray := prog_2_method_3_code
def yX0_fallBy : MethodName := ⟨RX0, "fallBy", "(II)I"⟩
abbrev cX0_askSize : ByteArray := prog_2_method_4_code
def yX0_askSize : MethodName := ⟨RX0, "askSize", "(LDustReads$Trace;I)I"⟩
abbrev cX0_askMark : ByteArray := prog_2_method_5_code
def yX0_askMark : MethodName := ⟨RX0, "askMark", "(LDustReads$Trace;I)I"⟩
def RX1 : String := "DustReads$Glass"
def TX1 : u_T := fun k => match k with
  | 0 => ("DustReads$Place", "number", "I", true)
  | _ => ("DustReads$Place", "draught", "I", true)
def tyX1 : Nat → FieldType := fun k => match k with
  | 0 => .int
  | _ => .int
abbrev wsX10 : List Cond := u_ws RX1 TX1 2
theorem nmX1 : ∀ a, a < 2 → ∀ b, b < 2 → a ≠ b → (TX1 a).2.1 ≠ (TX1 b).2.1 := by decide +kernel
theorem tyX1_ok : ∀ k, k < 2 → parseFieldDescriptor (TX1 k).2.2.1 = some (tyX1 k) := by decide +kernel
abbrev cX1_init : ByteArray := prog_3_method_1_code
def yX1_init : MethodName := ⟨RX1, "<init>", "(II)V"⟩
abbrev cX1_kindTold : ByteArray := prog_3_method_2_code
def yX1_kindTold : MethodName := ⟨RX1, "kindTold", "()I"⟩
abbrev cX1_fallBy : ByteArray := prog_3_method_3_code
def yX1_fallBy : MethodName := ⟨RX1, "fallBy", "(II)I"⟩
abbrev cX1_askSize : ByteArray := prog_3_method_4_code
def yX1_askSize : MethodName := ⟨RX1, "askSize", "(LDustReads$Trace;I)I"⟩
def RX2 : String := "DustReads$Hearth"
def TX2 : u_T := fun k => match k with
  | 0 => ("DustReads$Place", "number", "I", true)
  | _ => ("DustReads$Place", "draught", "I", true)
def tyX2 : Nat → FieldType := fun k => match k with
  | 0 => .int
  | _ => .int
abbrev wsX20 : List Cond := u_ws RX2 TX2 2
theorem nmX2 : ∀ a, a < 2 → ∀ b, b < 2 → a ≠ b → (TX2 a).2.1 ≠ (TX2 b).2.1 := by decide +kernel
theorem tyX2_ok : ∀ k, k < 2 → parseFieldDescriptor (TX2 k).2.2.1 = some (tyX2 k) := by decide +kernel
abbrev cX2_init : ByteArray := prog_4_method_1_code
def yX2_init : MethodName := ⟨RX2, "<init>", "(II)V"⟩
abbrev cX2_kindTold : ByteArray := prog_4_method_2_code
def yX2_kindTold : MethodName := ⟨RX2, "kindTold", "()I"⟩
abbrev cX2_fallBy : ByteArray := prog_4_method_3_code
def yX2_fallBy : MethodName := ⟨RX2, "fallBy", "(II)I"⟩
abbrev cX2_askMark : ByteArray := prog_4_method_4_code
def yX2_askMark : MethodName := ⟨RX2, "askMark", "(LDustReads$Trace;I)I"⟩
def RX3 : String := "DustReads$Library"
def TX3 : u_T := fun k => match k with
  | 0 => ("DustReads$Library", "plan", "LDustReads$Plan;", false)
  | 1 => ("DustReads$Library", "hour", "I", false)
  | 2 => ("DustReads$Library", "dust", "[I", true)
  | 3 => ("DustReads$Library", "book", "[I", true)
  | 4 => ("DustReads$Library", "faded", "[I", true)
  | _ => ("DustReads$Library", "out", "[I", true)
def tyX3 : Nat → FieldType := fun k => match k with
  | 0 => .object "DustReads$Plan"
  | 1 => .int
  | 2 => .array .int
  | 3 => .array .int
  | 4 => .array .int
  | _ => .array .int
abbrev wsX30 : List Cond := u_ws RX3 TX3 6
theorem nmX3 : ∀ a, a < 6 → ∀ b, b < 6 → a ≠ b → (TX3 a).2.1 ≠ (TX3 b).2.1 := by decide +kernel
theorem tyX3_ok : ∀ k, k < 6 → parseFieldDescriptor (TX3 k).2.2.1 = some (tyX3 k) := by decide +kernel
abbrev cX3_init : ByteArray := prog_5_method_1_code
def yX3_init : MethodName := ⟨RX3, "<init>", "(LDustReads$Plan;)V"⟩
abbrev cX3_become : ByteArray := prog_5_method_2_code
def yX3_become : MethodName := ⟨RX3, "become", "(LDustReads$Library;)V"⟩
abbrev cX3_isThere : ByteArray := prog_5_method_3_code
def yX3_isThere : MethodName := ⟨RX3, "isThere", "()Z"⟩
abbrev cX3_spots : ByteArray := prog_5_method_4_code
def yX3_spots : MethodName := ⟨RX3, "spots", "()I"⟩
abbrev cX3_readers : ByteArray := prog_5_method_5_code
def yX3_readers : MethodName := ⟨RX3, "readers", "()I"⟩
abbrev cX3_allSpots : ByteArray := prog_5_method_6_code
def yX3_allSpots : MethodName := ⟨RX3, "allSpots", "()I"⟩
abbrev cX3_allReaders : ByteArray := prog_5_method_7_code
def yX3_allReaders : MethodName := ⟨RX3, "allReaders", "()I"⟩
abbrev cX3_isSpot : ByteArray := prog_5_method_8_code
def yX3_isSpot : MethodName := ⟨RX3, "isSpot", "(I)Z"⟩
abbrev cX3_isSet : ByteArray := prog_5_method_9_code
def yX3_isSet : MethodName := ⟨RX3, "isSet", "(I)Z"⟩
abbrev cX3_placeAt : ByteArray := prog_5_method_10_code
def yX3_placeAt : MethodName := ⟨RX3, "placeAt", "(I)LDustReads$Place;"⟩
abbrev cX3_isOut : ByteArray := prog_5_method_11_code
def yX3_isOut : MethodName := ⟨RX3, "isOut", "(I)Z"⟩
abbrev cX3_howManyOut : ByteArray := prog_5_method_12_code
def yX3_howManyOut : MethodName := ⟨RX3, "howManyOut", "()I"⟩
abbrev cX3_passHour : ByteArray := prog_5_method_13_code
def yX3_passHour : MethodName := ⟨RX3, "passHour", "()V"⟩
abbrev cX3_wipe : ByteArray := prog_5_method_14_code
def yX3_wipe : MethodName := ⟨RX3, "wipe", "(I)I"⟩
abbrev cX3_swap : ByteArray := prog_5_method_15_code
def yX3_swap : MethodName := ⟨RX3, "swap", "(II)V"⟩
abbrev cX3_dustNext : ByteArray := prog_5_method_16_code
def yX3_dustNext : MethodName := ⟨RX3, "dustNext", "(III)I"⟩
abbrev cX3_fadedNext : ByteArray := prog_5_method_17_code
def yX3_fadedNext : MethodName := ⟨RX3, "fadedNext", "(III)I"⟩
abbrev cX3_fallAt : ByteArray := prog_5_method_18_code
def yX3_fallAt : MethodName := ⟨RX3, "fallAt", "(II)I"⟩
abbrev cX3_dustBehind : ByteArray := prog_5_method_19_code
def yX3_dustBehind : MethodName := ⟨RX3, "dustBehind", "(II)I"⟩
abbrev cX3_fadedBehind : ByteArray := prog_5_method_20_code
def yX3_fadedBehind : MethodName := ⟨RX3, "fadedBehind", "(II)I"⟩
abbrev cX3_lastTouch : ByteArray := prog_5_method_21_code
def yX3_lastTouch : MethodName := ⟨RX3, "lastTouch", "(II)I"⟩
abbrev cX3_firstTouch : ByteArray := prog_5_method_22_code
def yX3_firstTouch : MethodName := ⟨RX3, "firstTouch", "(II)I"⟩
abbrev cX3_suspects : ByteArray := prog_5_method_23_code
def yX3_suspects : MethodName := ⟨RX3, "suspects", "(IIZ)I"⟩
abbrev cX3_spreadWithout : ByteArray := prog_5_method_24_code
def yX3_spreadWithout : MethodName := ⟨RX3, "spreadWithout", "(I)I"⟩
def RX4 : String := "DustReads$Open"
def TX4 : u_T := fun k => match k with
  | 0 => ("DustReads$Place", "number", "I", true)
  | _ => ("DustReads$Place", "draught", "I", true)
def tyX4 : Nat → FieldType := fun k => match k with
  | 0 => .int
  | _ => .int
abbrev wsX40 : List Cond := u_ws RX4 TX4 2
theorem nmX4 : ∀ a, a < 2 → ∀ b, b < 2 → a ≠ b → (TX4 a).2.1 ≠ (TX4 b).2.1 := by decide +kernel
theorem tyX4_ok : ∀ k, k < 2 → parseFieldDescriptor (TX4 k).2.2.1 = some (tyX4 k) := by decide +kernel
abbrev cX4_init : ByteArray := prog_6_method_1_code
def yX4_init : MethodName := ⟨RX4, "<init>", "(II)V"⟩
abbrev cX4_kindTold : ByteArray := prog_6_method_2_code
def yX4_kindTold : MethodName := ⟨RX4, "kindTold", "()I"⟩
abbrev cX4_askSize : ByteArray := prog_6_method_3_code
def yX4_askSize : MethodName := ⟨RX4, "askSize", "(LDustReads$Trace;I)I"⟩
abbrev cX4_askMark : ByteArray := prog_6_method_4_code
def yX4_askMark : MethodName := ⟨RX4, "askMark", "(LDustReads$Trace;I)I"⟩
def RX5 : String := "DustReads$Place"
def TX5 : u_T := fun k => match k with
  | _ => ("", "", "", false)
def tyX5 : Nat → FieldType := fun k => match k with
  | _ => .int
abbrev wsX50 : List Cond := u_ws RX5 TX5 0
theorem nmX5 : ∀ a, a < 0 → ∀ b, b < 0 → a ≠ b → (TX5 a).2.1 ≠ (TX5 b).2.1 := by decide +kernel
theorem tyX5_ok : ∀ k, k < 0 → parseFieldDescriptor (TX5 k).2.2.1 = some (tyX5 k) := by decide +kernel
abbrev cX5_init : ByteArray := prog_7_method_1_code
def yX5_init : MethodName := ⟨RX5, "<init>", "(II)V"⟩
abbrev cX5_fallBy : ByteArray := prog_7_method_3_code
def yX5_fallBy : MethodName := ⟨RX5, "fallBy", "(II)I"⟩
abbrev cX5_sunIn : ByteArray := prog_7_method_4_code
def yX5_sunIn : MethodName := ⟨RX5, "sunIn", "(I)I"⟩
abbrev cX5_askSize : ByteArray := prog_7_method_5_code
def yX5_askSize : MethodName := ⟨RX5, "askSize", "(LDustReads$Trace;I)I"⟩
abbrev cX5_askMark : ByteArray := prog_7_method_6_code
def yX5_askMark : MethodName := ⟨RX5, "askMark", "(LDustReads$Trace;I)I"⟩
def RX6 : String := "DustReads$Plan"
def TX6 : u_T := fun k => match k with
  | 0 => ("DustReads$Plan", "places", "[LDustReads$Place;", true)
  | 1 => ("DustReads$Plan", "spots", "I", false)
  | 2 => ("DustReads$Plan", "from", "[I", true)
  | 3 => ("DustReads$Plan", "to", "[I", true)
  | _ => ("DustReads$Plan", "readers", "I", false)
def tyX6 : Nat → FieldType := fun k => match k with
  | 0 => .array (.object "DustReads$Place")
  | 1 => .int
  | 2 => .array .int
  | 3 => .array .int
  | _ => .int
abbrev wsX60 : List Cond := u_ws RX6 TX6 5
theorem nmX6 : ∀ a, a < 5 → ∀ b, b < 5 → a ≠ b → (TX6 a).2.1 ≠ (TX6 b).2.1 := by decide +kernel
theorem tyX6_ok : ∀ k, k < 5 → parseFieldDescriptor (TX6 k).2.2.1 = some (tyX6 k) := by decide +kernel
abbrev cX6_init : ByteArray := prog_8_method_1_code
def yX6_init : MethodName := ⟨RX6, "<init>", "()V"⟩
abbrev cX6_addPlace : ByteArray := prog_8_method_2_code
def yX6_addPlace : MethodName := ⟨RX6, "addPlace", "(LDustReads$Place;)V"⟩
abbrev cX6_addReader : ByteArray := prog_8_method_3_code
def yX6_addReader : MethodName := ⟨RX6, "addReader", "(II)V"⟩
abbrev cX6_comers : ByteArray := prog_8_method_4_code
def yX6_comers : MethodName := ⟨RX6, "comers", "(I)I"⟩
def RX7 : String := "DustReads$Reading"
def TX7 : u_T := fun k => match k with
  | 0 => ("DustReads$Reading", "text", "[B", true)
  | 1 => ("DustReads$Reading", "length", "I", true)
  | 2 => ("DustReads$Reading", "form", "I", false)
  | 3 => ("DustReads$Reading", "first", "I", false)
  | 4 => ("DustReads$Reading", "behind", "I", false)
  | 5 => ("DustReads$Reading", "fault", "I", false)
  | 6 => ("DustReads$Reading", "plan", "LDustReads$Plan;", true)
  | _ => ("DustReads$Reading", "told", "LDustReads$Library;", true)
def tyX7 : Nat → FieldType := fun k => match k with
  | 0 => .array .byte
  | 1 => .int
  | 2 => .int
  | 3 => .int
  | 4 => .int
  | 5 => .int
  | 6 => .object "DustReads$Plan"
  | _ => .object "DustReads$Library"
abbrev wsX70 : List Cond := u_ws RX7 TX7 8
theorem nmX7 : ∀ a, a < 8 → ∀ b, b < 8 → a ≠ b → (TX7 a).2.1 ≠ (TX7 b).2.1 := by decide +kernel
theorem tyX7_ok : ∀ k, k < 8 → parseFieldDescriptor (TX7 k).2.2.1 = some (tyX7 k) := by decide +kernel
abbrev cX7_init : ByteArray := prog_9_method_1_code
def yX7_init : MethodName := ⟨RX7, "<init>", "([BI)V"⟩
abbrev cX7_isWhole : ByteArray := prog_9_method_2_code
def yX7_isWhole : MethodName := ⟨RX7, "isWhole", "()Z"⟩
abbrev cX7_readSpots : ByteArray := prog_9_method_3_code
def yX7_readSpots : MethodName := ⟨RX7, "readSpots", "()V"⟩
abbrev cX7_readSpot : ByteArray := prog_9_method_4_code
def yX7_readSpot : MethodName := ⟨RX7, "readSpot", "(I)V"⟩
abbrev cX7_readReaders : ByteArray := prog_9_method_5_code
def yX7_readReaders : MethodName := ⟨RX7, "readReaders", "()V"⟩
abbrev cX7_readReader : ByteArray := prog_9_method_6_code
def yX7_readReader : MethodName := ⟨RX7, "readReader", "()V"⟩
abbrev cX7_readKind : ByteArray := prog_9_method_7_code
def yX7_readKind : MethodName := ⟨RX7, "readKind", "()I"⟩
abbrev cX7_kindOfWord : ByteArray := prog_9_method_8_code
def yX7_kindOfWord : MethodName := ⟨RX7, "kindOfWord", "()I"⟩
abbrev cX7_newPlace : ByteArray := prog_9_method_9_code
def yX7_newPlace : MethodName := ⟨RX7, "newPlace", "(III)LDustReads$Place;"⟩
abbrev cX7_readNumber : ByteArray := prog_9_method_10_code
def yX7_readNumber : MethodName := ⟨RX7, "readNumber", "(II)I"⟩
abbrev cX7_readEnd : ByteArray := prog_9_method_11_code
def yX7_readEnd : MethodName := ⟨RX7, "readEnd", "()V"⟩
abbrev cX7_fail : ByteArray := prog_9_method_12_code
def yX7_fail : MethodName := ⟨RX7, "fail", "(I)V"⟩
abbrev cX7_isWord : ByteArray := prog_9_method_13_code
def yX7_isWord : MethodName := ⟨RX7, "isWord", "(Ljava/lang/String;)Z"⟩
abbrev cX7_advance : ByteArray := prog_9_method_14_code
def yX7_advance : MethodName := ⟨RX7, "advance", "()V"⟩
abbrev cX7_advanceOverSign : ByteArray := prog_9_method_15_code
def yX7_advanceOverSign : MethodName := ⟨RX7, "advanceOverSign", "()V"⟩
abbrev cX7_isLetter : ByteArray := prog_9_method_16_code
def yX7_isLetter : MethodName := ⟨RX7, "isLetter", "(B)Z"⟩
abbrev cX7_isFigure : ByteArray := prog_9_method_17_code
def yX7_isFigure : MethodName := ⟨RX7, "isFigure", "(B)Z"⟩
def RX8 : String := "DustReads$Rows"
def TX8 : u_T := fun k => match k with
  | 0 => ("DustReads$Rows", "items", "[[I", true)
  | 1 => ("DustReads$Rows", "lanes", "[I", true)
  | _ => ("DustReads$Rows", "sizes", "[I", true)
def tyX8 : Nat → FieldType := fun k => match k with
  | 0 => .array (.array .int)
  | 1 => .array .int
  | _ => .array .int
abbrev wsX80 : List Cond := u_ws RX8 TX8 3
theorem nmX8 : ∀ a, a < 3 → ∀ b, b < 3 → a ≠ b → (TX8 a).2.1 ≠ (TX8 b).2.1 := by decide +kernel
theorem tyX8_ok : ∀ k, k < 3 → parseFieldDescriptor (TX8 k).2.2.1 = some (tyX8 k) := by decide +kernel
abbrev cX8_init : ByteArray := prog_10_method_1_code
def yX8_init : MethodName := ⟨RX8, "<init>", "()V"⟩
abbrev cX8_isRow : ByteArray := prog_10_method_2_code
def yX8_isRow : MethodName := ⟨RX8, "isRow", "(I)Z"⟩
abbrev cX8_isMissing : ByteArray := prog_10_method_3_code
def yX8_isMissing : MethodName := ⟨RX8, "isMissing", "(I)Z"⟩
abbrev cX8_howMany : ByteArray := prog_10_method_4_code
def yX8_howMany : MethodName := ⟨RX8, "howMany", "()I"⟩
abbrev cX8_lay : ByteArray := prog_10_method_5_code
def yX8_lay : MethodName := ⟨RX8, "lay", "(III)V"⟩
abbrev cX8_remove : ByteArray := prog_10_method_6_code
def yX8_remove : MethodName := ⟨RX8, "remove", "(I)I"⟩
abbrev cX8_findingAt : ByteArray := prog_10_method_7_code
def yX8_findingAt : MethodName := ⟨RX8, "findingAt", "(III)I"⟩
abbrev cX8_findingBetween : ByteArray := prog_10_method_8_code
def yX8_findingBetween : MethodName := ⟨RX8, "findingBetween", "(IIIII)I"⟩
abbrev cX8_isWithin : ByteArray := prog_10_method_9_code
def yX8_isWithin : MethodName := ⟨RX8, "isWithin", "(III)Z"⟩
abbrev cX8_put : ByteArray := prog_10_method_10_code
def yX8_put : MethodName := ⟨RX8, "put", "(III)I"⟩
abbrev cX8_itemAt : ByteArray := prog_10_method_11_code
def yX8_itemAt : MethodName := ⟨RX8, "itemAt", "(II)I"⟩
abbrev cX8_carry : ByteArray := prog_10_method_12_code
def yX8_carry : MethodName := ⟨RX8, "carry", "(IIIII)V"⟩
def RX9 : String := "DustReads$Trace"
def TX9 : u_T := fun k => match k with
  | 0 => ("DustReads$Trace", "numbers", "[I", true)
  | _ => ("DustReads$Trace", "length", "I", false)
def tyX9 : Nat → FieldType := fun k => match k with
  | 0 => .array .int
  | _ => .int
abbrev wsX90 : List Cond := u_ws RX9 TX9 2
theorem nmX9 : ∀ a, a < 2 → ∀ b, b < 2 → a ≠ b → (TX9 a).2.1 ≠ (TX9 b).2.1 := by decide +kernel
theorem tyX9_ok : ∀ k, k < 2 → parseFieldDescriptor (TX9 k).2.2.1 = some (tyX9 k) := by decide +kernel
abbrev cX9_init : ByteArray := prog_11_method_1_code
def yX9_init : MethodName := ⟨RX9, "<init>", "()V"⟩
abbrev cX9_clear : ByteArray := prog_11_method_2_code
def yX9_clear : MethodName := ⟨RX9, "clear", "()V"⟩
abbrev cX9_leave : ByteArray := prog_11_method_3_code
def yX9_leave : MethodName := ⟨RX9, "leave", "(I)V"⟩
abbrev cX9_numberAt : ByteArray := prog_11_method_4_code
def yX9_numberAt : MethodName := ⟨RX9, "numberAt", "(I)I"⟩
def RX10 : String := "DustReads$Window"
def TX10 : u_T := fun k => match k with
  | 0 => ("DustReads$Place", "number", "I", true)
  | _ => ("DustReads$Place", "draught", "I", true)
def tyX10 : Nat → FieldType := fun k => match k with
  | 0 => .int
  | _ => .int
abbrev wsX100 : List Cond := u_ws RX10 TX10 2
theorem nmX10 : ∀ a, a < 2 → ∀ b, b < 2 → a ≠ b → (TX10 a).2.1 ≠ (TX10 b).2.1 := by decide +kernel
theorem tyX10_ok : ∀ k, k < 2 → parseFieldDescriptor (TX10 k).2.2.1 = some (tyX10 k) := by decide +kernel
abbrev cX10_init : ByteArray := prog_12_method_1_code
def yX10_init : MethodName := ⟨RX10, "<init>", "(II)V"⟩
abbrev cX10_kindTold : ByteArray := prog_12_method_2_code
def yX10_kindTold : MethodName := ⟨RX10, "kindTold", "()I"⟩
abbrev cX10_sunIn : ByteArray := prog_12_method_3_code
def yX10_sunIn : MethodName := ⟨RX10, "sunIn", "(I)I"⟩
abbrev cX10_askSize : ByteArray := prog_12_method_4_code
def yX10_askSize : MethodName := ⟨RX10, "askSize", "(LDustReads$Trace;I)I"⟩
abbrev cX10_askMark : ByteArray := prog_12_method_5_code
def yX10_askMark : MethodName := ⟨RX10, "askMark", "(LDustReads$Trace;I)I"⟩
def RX11 : String := "DustReads"
def TX11 : u_T := fun k => match k with
  | 0 => ("DustReads", "rows", "LDustReads$Rows;", true)
  | 1 => ("DustReads", "finding", "I", false)
  | 2 => ("DustReads", "tape", "[B", true)
  | 3 => ("DustReads", "taped", "I", false)
  | 4 => ("DustReads", "latestFault", "I", false)
  | 5 => ("DustReads", "library", "LDustReads$Library;", false)
  | 6 => ("DustReads", "past", "[LDustReads$Library;", true)
  | 7 => ("DustReads", "oldest", "I", false)
  | 8 => ("DustReads", "undoable", "I", false)
  | 9 => ("DustReads", "images", "[LDustReads$Library;", true)
  | _ => ("DustReads", "trace", "LDustReads$Trace;", true)
def tyX11 : Nat → FieldType := fun k => match k with
  | 0 => .object "DustReads$Rows"
  | 1 => .int
  | 2 => .array .byte
  | 3 => .int
  | 4 => .int
  | 5 => .object "DustReads$Library"
  | 6 => .array (.object "DustReads$Library")
  | 7 => .int
  | 8 => .int
  | 9 => .array (.object "DustReads$Library")
  | _ => .object "DustReads$Trace"
abbrev wsX110 : List Cond := u_ws RX11 TX11 11
theorem nmX11 : ∀ a, a < 11 → ∀ b, b < 11 → a ≠ b → (TX11 a).2.1 ≠ (TX11 b).2.1 := by decide +kernel
theorem tyX11_ok : ∀ k, k < 11 → parseFieldDescriptor (TX11 k).2.2.1 = some (tyX11 k) := by decide +kernel
abbrev cX11_init : ByteArray := prog_1_method_1_code
def yX11_init : MethodName := ⟨RX11, "<init>", "()V"⟩
abbrev cX11_row : ByteArray := prog_1_method_2_code
def yX11_row : MethodName := ⟨RX11, "row", "(III)I"⟩
abbrev cX11_set : ByteArray := prog_1_method_3_code
def yX11_set : MethodName := ⟨RX11, "set", "(III)I"⟩
abbrev cX11_copy : ByteArray := prog_1_method_4_code
def yX11_copy : MethodName := ⟨RX11, "copy", "(IIIII)I"⟩
abbrev cX11_drop : ByteArray := prog_1_method_5_code
def yX11_drop : MethodName := ⟨RX11, "drop", "(I)I"⟩
abbrev cX11_feed : ByteArray := prog_1_method_6_code
def yX11_feed : MethodName := ⟨RX11, "feed", "(JI)I"⟩
abbrev cX11_library : ByteArray := prog_1_method_7_code
def yX11_library : MethodName := ⟨RX11, "library", "()I"⟩
abbrev cX11_fault : ByteArray := prog_1_method_8_code
def yX11_fault : MethodName := ⟨RX11, "fault", "()I"⟩
abbrev cX11_hours : ByteArray := prog_1_method_9_code
def yX11_hours : MethodName := ⟨RX11, "hours", "(I)I"⟩
abbrev cX11_take : ByteArray := prog_1_method_10_code
def yX11_take : MethodName := ⟨RX11, "take", "(II)I"⟩
abbrev cX11_change : ByteArray := prog_1_method_11_code
def yX11_change : MethodName := ⟨RX11, "change", "(II)I"⟩
abbrev cX11_dusts : ByteArray := prog_1_method_12_code
def yX11_dusts : MethodName := ⟨RX11, "dusts", "(I)I"⟩
abbrev cX11_undo : ByteArray := prog_1_method_13_code
def yX11_undo : MethodName := ⟨RX11, "undo", "()I"⟩
abbrev cX11_spot : ByteArray := prog_1_method_14_code
def yX11_spot : MethodName := ⟨RX11, "spot", "(II)I"⟩
abbrev cX11_fall : ByteArray := prog_1_method_15_code
def yX11_fall : MethodName := ⟨RX11, "fall", "(III)I"⟩
abbrev cX11_ahead : ByteArray := prog_1_method_16_code
def yX11_ahead : MethodName := ⟨RX11, "ahead", "(III)I"⟩
abbrev cX11_when : ByteArray := prog_1_method_17_code
def yX11_when : MethodName := ⟨RX11, "when", "(III)I"⟩
abbrev cX11_who : ByteArray := prog_1_method_18_code
def yX11_who : MethodName := ⟨RX11, "who", "(III)I"⟩
abbrev cX11_oneHand : ByteArray := prog_1_method_19_code
def yX11_oneHand : MethodName := ⟨RX11, "oneHand", "(I)I"⟩
abbrev cX11_moved : ByteArray := prog_1_method_20_code
def yX11_moved : MethodName := ⟨RX11, "moved", "()I"⟩
abbrev cX11_like : ByteArray := prog_1_method_21_code
def yX11_like : MethodName := ⟨RX11, "like", "(II)I"⟩
abbrev cX11_hide : ByteArray := prog_1_method_22_code
def yX11_hide : MethodName := ⟨RX11, "hide", "(I)I"⟩
abbrev cX11_learnt : ByteArray := prog_1_method_23_code
def yX11_learnt : MethodName := ⟨RX11, "learnt", "(IIII)I"⟩
abbrev cX11_image : ByteArray := prog_1_method_24_code
def yX11_image : MethodName := ⟨RX11, "image", "(I)I"⟩
abbrev cX11_restore : ByteArray := prog_1_method_25_code
def yX11_restore : MethodName := ⟨RX11, "restore", "(I)I"⟩
abbrev cX11_kind : ByteArray := prog_1_method_26_code
def yX11_kind : MethodName := ⟨RX11, "kind", "(I)I"⟩
abbrev cX11_as : ByteArray := prog_1_method_27_code
def yX11_as : MethodName := ⟨RX11, "as", "(II)I"⟩
abbrev cX11_ask : ByteArray := prog_1_method_28_code
def yX11_ask : MethodName := ⟨RX11, "ask", "(II)I"⟩
abbrev cX11_trace : ByteArray := prog_1_method_29_code
def yX11_trace : MethodName := ⟨RX11, "trace", "(I)I"⟩
abbrev cX11_count : ByteArray := prog_1_method_30_code
def yX11_count : MethodName := ⟨RX11, "count", "(I)I"⟩
abbrev cX11_status : ByteArray := prog_1_method_31_code
def yX11_status : MethodName := ⟨RX11, "status", "()I"⟩
abbrev cX11_keepForUndo : ByteArray := prog_1_method_32_code
def yX11_keepForUndo : MethodName := ⟨RX11, "keepForUndo", "()V"⟩
abbrev cX11_forgetActs : ByteArray := prog_1_method_33_code
def yX11_forgetActs : MethodName := ⟨RX11, "forgetActs", "()V"⟩
abbrev cX11_canLie : ByteArray := prog_1_method_34_code
def yX11_canLie : MethodName := ⟨RX11, "canLie", "(II)Z"⟩
abbrev cX11_wouldTell : ByteArray := prog_1_method_35_code
def yX11_wouldTell : MethodName := ⟨RX11, "wouldTell", "(IIIILDustReads$Place;I)Z"⟩
abbrev cX11_isEither : ByteArray := prog_1_method_36_code
def yX11_isEither : MethodName := ⟨RX11, "isEither", "(I)Z"⟩
abbrev cX11_isIn : ByteArray := prog_1_method_37_code
def yX11_isIn : MethodName := ⟨RX11, "isIn", "(II)Z"⟩
abbrev cX11_atMost : ByteArray := prog_1_method_38_code
def yX11_atMost : MethodName := ⟨RX11, "atMost", "(I)I"⟩
abbrev cX11_isOfKind : ByteArray := prog_1_method_39_code
def yX11_isOfKind : MethodName := ⟨RX11, "isOfKind", "(LDustReads$Place;I)Z"⟩
def RX12 : String := "DustReadsModel"
def TX12 : u_T := fun k => match k with
  | 0 => ("DustReadsModel", "st", "[I", true)
  | 1 => ("DustReadsModel", "kept", "[I", true)
  | 2 => ("DustReadsModel", "isKept", "[Z", true)
  | 3 => ("DustReadsModel", "was", "[I", true)
  | 4 => ("DustReadsModel", "acts", "I", false)
  | 5 => ("DustReadsModel", "lanes", "[I", true)
  | 6 => ("DustReadsModel", "sizes", "[I", true)
  | 7 => ("DustReadsModel", "items", "[I", true)
  | 8 => ("DustReadsModel", "status", "I", false)
  | 9 => ("DustReadsModel", "tape", "[I", true)
  | 10 => ("DustReadsModel", "taped", "I", false)
  | 11 => ("DustReadsModel", "cursor", "I", false)
  | 12 => ("DustReadsModel", "start", "I", false)
  | 13 => ("DustReadsModel", "token", "I", false)
  | 14 => ("DustReadsModel", "number", "I", false)
  | 15 => ("DustReadsModel", "name", "J", false)
  | 16 => ("DustReadsModel", "fault", "I", false)
  | 17 => ("DustReadsModel", "latestFault", "I", false)
  | 18 => ("DustReadsModel", "read", "[I", true)
  | 19 => ("DustReadsModel", "thenDust", "I", false)
  | 20 => ("DustReadsModel", "thenFaded", "I", false)
  | 21 => ("DustReadsModel", "firstHour", "I", false)
  | 22 => ("DustReadsModel", "lastHour", "I", false)
  | 23 => ("DustReadsModel", "trace", "[I", true)
  | _ => ("DustReadsModel", "traced", "I", false)
def tyX12 : Nat → FieldType := fun k => match k with
  | 0 => .array .int
  | 1 => .array .int
  | 2 => .array .boolean
  | 3 => .array .int
  | 4 => .int
  | 5 => .array .int
  | 6 => .array .int
  | 7 => .array .int
  | 8 => .int
  | 9 => .array .int
  | 10 => .int
  | 11 => .int
  | 12 => .int
  | 13 => .int
  | 14 => .int
  | 15 => .long
  | 16 => .int
  | 17 => .int
  | 18 => .array .int
  | 19 => .int
  | 20 => .int
  | 21 => .int
  | 22 => .int
  | 23 => .array .int
  | _ => .int
abbrev wsX120 : List Cond := u_ws RX12 TX12 25
theorem nmX12 : ∀ a, a < 25 → ∀ b, b < 25 → a ≠ b → (TX12 a).2.1 ≠ (TX12 b).2.1 := by decide +kernel
theorem tyX12_ok : ∀ k, k < 25 → parseFieldDescriptor (TX12 k).2.2.1 = some (tyX12 k) := by decide +kernel
abbrev cX12_init : ByteArray := prog_14_method_1_code
def yX12_init : MethodName := ⟨RX12, "<init>", "()V"⟩
abbrev cX12_in : ByteArray := prog_14_method_3_code
def yX12_in : MethodName := ⟨RX12, "in", "(III)Z"⟩
abbrev cX12_has : ByteArray := prog_14_method_4_code
def yX12_has : MethodName := ⟨RX12, "has", "(II)Z"⟩
abbrev cX12_found : ByteArray := prog_14_method_5_code
def yX12_found : MethodName := ⟨RX12, "found", "(I)I"⟩
abbrev cX12_well : ByteArray := prog_14_method_6_code
def yX12_well : MethodName := ⟨RX12, "well", "(I)I"⟩
abbrev cX12_isRow : ByteArray := prog_14_method_7_code
def yX12_isRow : MethodName := ⟨RX12, "isRow", "(I)Z"⟩
abbrev cX12_row : ByteArray := prog_14_method_8_code
def yX12_row : MethodName := ⟨RX12, "row", "(III)I"⟩
abbrev cX12_set : ByteArray := prog_14_method_9_code
def yX12_set : MethodName := ⟨RX12, "set", "(III)I"⟩
abbrev cX12_isSpan : ByteArray := prog_14_method_10_code
def yX12_isSpan : MethodName := ⟨RX12, "isSpan", "(III)Z"⟩
abbrev cX12_copy : ByteArray := prog_14_method_11_code
def yX12_copy : MethodName := ⟨RX12, "copy", "(IIIII)I"⟩
abbrev cX12_drop : ByteArray := prog_14_method_12_code
def yX12_drop : MethodName := ⟨RX12, "drop", "(I)I"⟩
abbrev cX12_feed : ByteArray := prog_14_method_13_code
def yX12_feed : MethodName := ⟨RX12, "feed", "(JI)I"⟩
abbrev cX12_byteAt : ByteArray := prog_14_method_14_code
def yX12_byteAt : MethodName := ⟨RX12, "byteAt", "(I)I"⟩
abbrev cX12_next : ByteArray := prog_14_method_15_code
def yX12_next : MethodName := ⟨RX12, "next", "()V"⟩
abbrev cX12_isName : ByteArray := prog_14_method_16_code
def yX12_isName : MethodName := ⟨RX12, "isName", "(J)Z"⟩
abbrev cX12_must : ByteArray := prog_14_method_17_code
def yX12_must : MethodName := ⟨RX12, "must", "(ZI)V"⟩
abbrev cX12_goesOn : ByteArray := prog_14_method_18_code
def yX12_goesOn : MethodName := ⟨RX12, "goesOn", "()V"⟩
abbrev cX12_readNumber : ByteArray := prog_14_method_19_code
def yX12_readNumber : MethodName := ⟨RX12, "readNumber", "(III)I"⟩
abbrev cX12_readStop : ByteArray := prog_14_method_20_code
def yX12_readStop : MethodName := ⟨RX12, "readStop", "()V"⟩
abbrev cX12_sortNow : ByteArray := prog_14_method_21_code
def yX12_sortNow : MethodName := ⟨RX12, "sortNow", "()I"⟩
abbrev cX12_readSpot : ByteArray := prog_14_method_22_code
def yX12_readSpot : MethodName := ⟨RX12, "readSpot", "()V"⟩
abbrev cX12_readReader : ByteArray := prog_14_method_23_code
def yX12_readReader : MethodName := ⟨RX12, "readReader", "()V"⟩
abbrev cX12_library : ByteArray := prog_14_method_24_code
def yX12_library : MethodName := ⟨RX12, "library", "()I"⟩
abbrev cX12_fault : ByteArray := prog_14_method_25_code
def yX12_fault : MethodName := ⟨RX12, "fault", "()I"⟩
abbrev cX12_isLibrary : ByteArray := prog_14_method_26_code
def yX12_isLibrary : MethodName := ⟨RX12, "isLibrary", "()Z"⟩
abbrev cX12_isSpot : ByteArray := prog_14_method_27_code
def yX12_isSpot : MethodName := ⟨RX12, "isSpot", "(I)Z"⟩
abbrev cX12_isSet : ByteArray := prog_14_method_28_code
def yX12_isSet : MethodName := ⟨RX12, "isSet", "(I)Z"⟩
abbrev cX12_fallBy : ByteArray := prog_14_method_29_code
def yX12_fallBy : MethodName := ⟨RX12, "fallBy", "(III)I"⟩
abbrev cX12_fallOf : ByteArray := prog_14_method_30_code
def yX12_fallOf : MethodName := ⟨RX12, "fallOf", "(II)I"⟩
abbrev cX12_sunOf : ByteArray := prog_14_method_31_code
def yX12_sunOf : MethodName := ⟨RX12, "sunOf", "(II)I"⟩
abbrev cX12_atMost : ByteArray := prog_14_method_32_code
def yX12_atMost : MethodName := ⟨RX12, "atMost", "(I)I"⟩
abbrev cX12_remembers : ByteArray := prog_14_method_33_code
def yX12_remembers : MethodName := ⟨RX12, "remembers", "()V"⟩
abbrev cX12_hours : ByteArray := prog_14_method_34_code
def yX12_hours : MethodName := ⟨RX12, "hours", "(I)I"⟩
abbrev cX12_take : ByteArray := prog_14_method_35_code
def yX12_take : MethodName := ⟨RX12, "take", "(II)I"⟩
abbrev cX12_change : ByteArray := prog_14_method_36_code
def yX12_change : MethodName := ⟨RX12, "change", "(II)I"⟩
abbrev cX12_dusts : ByteArray := prog_14_method_37_code
def yX12_dusts : MethodName := ⟨RX12, "dusts", "(I)I"⟩
abbrev cX12_undo : ByteArray := prog_14_method_38_code
def yX12_undo : MethodName := ⟨RX12, "undo", "()I"⟩
abbrev cX12_spot : ByteArray := prog_14_method_39_code
def yX12_spot : MethodName := ⟨RX12, "spot", "(II)I"⟩
abbrev cX12_fall : ByteArray := prog_14_method_40_code
def yX12_fall : MethodName := ⟨RX12, "fall", "(III)I"⟩
abbrev cX12_goes : ByteArray := prog_14_method_41_code
def yX12_goes : MethodName := ⟨RX12, "goes", "(II)V"⟩
abbrev cX12_ahead : ByteArray := prog_14_method_42_code
def yX12_ahead : MethodName := ⟨RX12, "ahead", "(III)I"⟩
abbrev cX12_findWhen : ByteArray := prog_14_method_43_code
def yX12_findWhen : MethodName := ⟨RX12, "findWhen", "(II)V"⟩
abbrev cX12_when : ByteArray := prog_14_method_44_code
def yX12_when : MethodName := ⟨RX12, "when", "(III)I"⟩
abbrev cX12_whoOf : ByteArray := prog_14_method_45_code
def yX12_whoOf : MethodName := ⟨RX12, "whoOf", "(Z)I"⟩
abbrev cX12_who : ByteArray := prog_14_method_46_code
def yX12_who : MethodName := ⟨RX12, "who", "(III)I"⟩
abbrev cX12_oneHand : ByteArray := prog_14_method_47_code
def yX12_oneHand : MethodName := ⟨RX12, "oneHand", "(I)I"⟩
abbrev cX12_moved : ByteArray := prog_14_method_48_code
def yX12_moved : MethodName := ⟨RX12, "moved", "()I"⟩
abbrev cX12_like : ByteArray := prog_14_method_49_code
def yX12_like : MethodName := ⟨RX12, "like", "(II)I"⟩
abbrev cX12_bits : ByteArray := prog_14_method_50_code
def yX12_bits : MethodName := ⟨RX12, "bits", "(I)I"⟩
abbrev cX12_areLike : ByteArray := prog_14_method_51_code
def yX12_areLike : MethodName := ⟨RX12, "areLike", "(II)Z"⟩
abbrev cX12_hide : ByteArray := prog_14_method_52_code
def yX12_hide : MethodName := ⟨RX12, "hide", "(I)I"⟩
abbrev cX12_learnt : ByteArray := prog_14_method_53_code
def yX12_learnt : MethodName := ⟨RX12, "learnt", "(IIII)I"⟩
abbrev cX12_image : ByteArray := prog_14_method_54_code
def yX12_image : MethodName := ⟨RX12, "image", "(I)I"⟩
abbrev cX12_restore : ByteArray := prog_14_method_55_code
def yX12_restore : MethodName := ⟨RX12, "restore", "(I)I"⟩
abbrev cX12_kind : ByteArray := prog_14_method_56_code
def yX12_kind : MethodName := ⟨RX12, "kind", "(I)I"⟩
abbrev cX12_isA : ByteArray := prog_14_method_57_code
def yX12_isA : MethodName := ⟨RX12, "isA", "(II)Z"⟩
abbrev cX12_as : ByteArray := prog_14_method_58_code
def yX12_as : MethodName := ⟨RX12, "as", "(II)I"⟩
abbrev cX12_begins : ByteArray := prog_14_method_59_code
def yX12_begins : MethodName := ⟨RX12, "begins", "(I)V"⟩
abbrev cX12_lentSize : ByteArray := prog_14_method_60_code
def yX12_lentSize : MethodName := ⟨RX12, "lentSize", "(I)I"⟩
abbrev cX12_lentMark : ByteArray := prog_14_method_61_code
def yX12_lentMark : MethodName := ⟨RX12, "lentMark", "(I)I"⟩
abbrev cX12_openMark : ByteArray := prog_14_method_62_code
def yX12_openMark : MethodName := ⟨RX12, "openMark", "(I)I"⟩
abbrev cX12_markOfOpen : ByteArray := prog_14_method_63_code
def yX12_markOfOpen : MethodName := ⟨RX12, "markOfOpen", "(I)I"⟩
abbrev cX12_openSize : ByteArray := prog_14_method_64_code
def yX12_openSize : MethodName := ⟨RX12, "openSize", "(I)I"⟩
abbrev cX12_cornerSize : ByteArray := prog_14_method_65_code
def yX12_cornerSize : MethodName := ⟨RX12, "cornerSize", "(I)I"⟩
abbrev cX12_sizeOfCorners : ByteArray := prog_14_method_66_code
def yX12_sizeOfCorners : MethodName := ⟨RX12, "sizeOfCorners", "(I)I"⟩
abbrev cX12_sizeOf : ByteArray := prog_14_method_67_code
def yX12_sizeOf : MethodName := ⟨RX12, "sizeOf", "(I)I"⟩
abbrev cX12_markOf : ByteArray := prog_14_method_68_code
def yX12_markOf : MethodName := ⟨RX12, "markOf", "(I)I"⟩
abbrev cX12_ask : ByteArray := prog_14_method_69_code
def yX12_ask : MethodName := ⟨RX12, "ask", "(II)I"⟩
abbrev cX12_trace : ByteArray := prog_14_method_70_code
def yX12_trace : MethodName := ⟨RX12, "trace", "(I)I"⟩
abbrev cX12_outNow : ByteArray := prog_14_method_71_code
def yX12_outNow : MethodName := ⟨RX12, "outNow", "()I"⟩
abbrev cX12_count : ByteArray := prog_14_method_72_code
def yX12_count : MethodName := ⟨RX12, "count", "(I)I"⟩
abbrev cX12_status : ByteArray := prog_14_method_73_code
def yX12_status : MethodName := ⟨RX12, "status", "()I"⟩
def RJx145de : String := "java/io/Serializable"
def TJx145de : u_T := fun k => match k with
  | _ => ("", "", "", false)
def tyJx145de : Nat → FieldType := fun k => match k with
  | _ => .int
abbrev wsJx145de0 : List Cond := u_ws RJx145de TJx145de 0
theorem nmJx145de : ∀ a, a < 0 → ∀ b, b < 0 → a ≠ b → (TJx145de a).2.1 ≠ (TJx145de b).2.1 := by decide +kernel
theorem tyJx145de_ok : ∀ k, k < 0 → parseFieldDescriptor (TJx145de k).2.2.1 = some (tyJx145de k) := by decide +kernel
def RJx9f9b0 : String := "java/lang/CharSequence"
def TJx9f9b0 : u_T := fun k => match k with
  | _ => ("", "", "", false)
def tyJx9f9b0 : Nat → FieldType := fun k => match k with
  | _ => .int
abbrev wsJx9f9b00 : List Cond := u_ws RJx9f9b0 TJx9f9b0 0
theorem nmJx9f9b0 : ∀ a, a < 0 → ∀ b, b < 0 → a ≠ b → (TJx9f9b0 a).2.1 ≠ (TJx9f9b0 b).2.1 := by decide +kernel
theorem tyJx9f9b0_ok : ∀ k, k < 0 → parseFieldDescriptor (TJx9f9b0 k).2.2.1 = some (tyJx9f9b0 k) := by decide +kernel
def RJxb160c : String := "java/lang/Comparable"
def TJxb160c : u_T := fun k => match k with
  | _ => ("", "", "", false)
def tyJxb160c : Nat → FieldType := fun k => match k with
  | _ => .int
abbrev wsJxb160c0 : List Cond := u_ws RJxb160c TJxb160c 0
theorem nmJxb160c : ∀ a, a < 0 → ∀ b, b < 0 → a ≠ b → (TJxb160c a).2.1 ≠ (TJxb160c b).2.1 := by decide +kernel
theorem tyJxb160c_ok : ∀ k, k < 0 → parseFieldDescriptor (TJxb160c k).2.2.1 = some (tyJxb160c k) := by decide +kernel
def RJ6 : String := "java/lang/Integer"
def TJ6 : u_T := fun k => match k with
  | _ => ("", "", "", false)
def tyJ6 : Nat → FieldType := fun k => match k with
  | _ => .int
abbrev wsJ60 : List Cond := u_ws RJ6 TJ6 0
theorem nmJ6 : ∀ a, a < 0 → ∀ b, b < 0 → a ≠ b → (TJ6 a).2.1 ≠ (TJ6 b).2.1 := by decide +kernel
theorem tyJ6_ok : ∀ k, k < 0 → parseFieldDescriptor (TJ6 k).2.2.1 = some (tyJ6 k) := by decide +kernel
abbrev cJ6_bitCount_0f7a4 : ByteArray := prog_15_method_49_code
def yJ6_bitCount_0f7a4 : MethodName := ⟨RJ6, "bitCount", "(I)I"⟩
def RJ9 : String := "java/lang/Math"
def TJ9 : u_T := fun k => match k with
  | _ => ("", "", "", false)
def tyJ9 : Nat → FieldType := fun k => match k with
  | _ => .int
abbrev wsJ90 : List Cond := u_ws RJ9 TJ9 0
theorem nmJ9 : ∀ a, a < 0 → ∀ b, b < 0 → a ≠ b → (TJ9 a).2.1 ≠ (TJ9 b).2.1 := by decide +kernel
theorem tyJ9_ok : ∀ k, k < 0 → parseFieldDescriptor (TJ9 k).2.2.1 = some (tyJ9 k) := by decide +kernel
abbrev cJ9_max_7cf53 : ByteArray := prog_16_method_65_code
def yJ9_max_7cf53 : MethodName := ⟨RJ9, "max", "(II)I"⟩
abbrev cJ9_min_7cf53 : ByteArray := prog_16_method_69_code
def yJ9_min_7cf53 : MethodName := ⟨RJ9, "min", "(II)I"⟩
def RJ0 : String := "java/lang/String"
def TJ0 : u_T := fun k => match k with
  | _ => ("", "", "", false)
def tyJ0 : Nat → FieldType := fun k => match k with
  | _ => .int
abbrev wsJ00 : List Cond := u_ws RJ0 TJ0 0
theorem nmJ0 : ∀ a, a < 0 → ∀ b, b < 0 → a ≠ b → (TJ0 a).2.1 ≠ (TJ0 b).2.1 := by decide +kernel
theorem tyJ0_ok : ∀ k, k < 0 → parseFieldDescriptor (TJ0 k).2.2.1 = some (tyJ0 k) := by decide +kernel
abbrev cJ0_length_8abf5 : ByteArray := prog_17_method_54_code
def yJ0_length_8abf5 : MethodName := ⟨RJ0, "length", "()I"⟩
abbrev cJ0_charAt_5068e : ByteArray := prog_17_method_56_code
def yJ0_charAt_5068e : MethodName := ⟨RJ0, "charAt", "(I)C"⟩
abbrev cJ0_coder_7d493 : ByteArray := prog_17_method_152_code
def yJ0_coder_7d493 : MethodName := ⟨RJ0, "coder", "()B"⟩
abbrev cJ0_isLatin1_aae02 : ByteArray := prog_17_method_154_code
def yJ0_isLatin1_aae02 : MethodName := ⟨RJ0, "isLatin1", "()Z"⟩
abbrev cJ0_checkIndex_df160 : ByteArray := prog_17_method_155_code
def yJ0_checkIndex_df160 : MethodName := ⟨RJ0, "checkIndex", "(II)V"⟩
def RJ1 : String := "java/lang/StringLatin1"
def TJ1 : u_T := fun k => match k with
  | _ => ("", "", "", false)
def tyJ1 : Nat → FieldType := fun k => match k with
  | _ => .int
abbrev wsJ10 : List Cond := u_ws RJ1 TJ1 0
theorem nmJ1 : ∀ a, a < 0 → ∀ b, b < 0 → a ≠ b → (TJ1 a).2.1 ≠ (TJ1 b).2.1 := by decide +kernel
theorem tyJ1_ok : ∀ k, k < 0 → parseFieldDescriptor (TJ1 k).2.2.1 = some (tyJ1 k) := by decide +kernel
abbrev cJ1_charAt_3b067 : ByteArray := prog_18_method_2_code
def yJ1_charAt_3b067 : MethodName := ⟨RJ1, "charAt", "([BI)C"⟩
def RJ2 : String := "java/lang/StringUTF16"
def TJ2 : u_T := fun k => match k with
  | _ => ("", "", "", false)
def tyJ2 : Nat → FieldType := fun k => match k with
  | _ => .int
abbrev wsJ20 : List Cond := u_ws RJ2 TJ2 0
theorem nmJ2 : ∀ a, a < 0 → ∀ b, b < 0 → a ≠ b → (TJ2 a).2.1 ≠ (TJ2 b).2.1 := by decide +kernel
theorem tyJ2_ok : ∀ k, k < 0 → parseFieldDescriptor (TJ2 k).2.2.1 = some (tyJ2 k) := by decide +kernel
abbrev cJ2_getChar_3b067 : ByteArray := prog_19_method_5_code
def yJ2_getChar_3b067 : MethodName := ⟨RJ2, "getChar", "([BI)C"⟩
abbrev cJ2_length_9d52b : ByteArray := prog_19_method_6_code
def yJ2_length_9d52b : MethodName := ⟨RJ2, "length", "([B)I"⟩
abbrev cJ2_charAt_3b067 : ByteArray := prog_19_method_83_code
def yJ2_charAt_3b067 : MethodName := ⟨RJ2, "charAt", "([BI)C"⟩
abbrev cJ2_checkIndex_2214a : ByteArray := prog_19_method_91_code
def yJ2_checkIndex_2214a : MethodName := ⟨RJ2, "checkIndex", "(I[B)V"⟩
def RJ10 : String := "java/lang/System"
def TJ10 : u_T := fun k => match k with
  | _ => ("", "", "", false)
def tyJ10 : Nat → FieldType := fun k => match k with
  | _ => .int
abbrev wsJ100 : List Cond := u_ws RJ10 TJ10 0
theorem nmJ10 : ∀ a, a < 0 → ∀ b, b < 0 → a ≠ b → (TJ10 a).2.1 ≠ (TJ10 b).2.1 := by decide +kernel
theorem tyJ10_ok : ∀ k, k < 0 → parseFieldDescriptor (TJ10 k).2.2.1 = some (tyJ10 k) := by decide +kernel
def RJxfd54e : String := "java/lang/constant/Constable"
def TJxfd54e : u_T := fun k => match k with
  | _ => ("", "", "", false)
def tyJxfd54e : Nat → FieldType := fun k => match k with
  | _ => .int
abbrev wsJxfd54e0 : List Cond := u_ws RJxfd54e TJxfd54e 0
theorem nmJxfd54e : ∀ a, a < 0 → ∀ b, b < 0 → a ≠ b → (TJxfd54e a).2.1 ≠ (TJxfd54e b).2.1 := by decide +kernel
theorem tyJxfd54e_ok : ∀ k, k < 0 → parseFieldDescriptor (TJxfd54e k).2.2.1 = some (tyJxfd54e k) := by decide +kernel
def RJx3cf43 : String := "java/lang/constant/ConstantDesc"
def TJx3cf43 : u_T := fun k => match k with
  | _ => ("", "", "", false)
def tyJx3cf43 : Nat → FieldType := fun k => match k with
  | _ => .int
abbrev wsJx3cf430 : List Cond := u_ws RJx3cf43 TJx3cf43 0
theorem nmJx3cf43 : ∀ a, a < 0 → ∀ b, b < 0 → a ≠ b → (TJx3cf43 a).2.1 ≠ (TJx3cf43 b).2.1 := by decide +kernel
theorem tyJx3cf43_ok : ∀ k, k < 0 → parseFieldDescriptor (TJx3cf43 k).2.2.1 = some (tyJx3cf43 k) := by decide +kernel
def RJ7 : String := "java/util/Arrays"
def TJ7 : u_T := fun k => match k with
  | _ => ("", "", "", false)
def tyJ7 : Nat → FieldType := fun k => match k with
  | _ => .int
abbrev wsJ70 : List Cond := u_ws RJ7 TJ7 0
theorem nmJ7 : ∀ a, a < 0 → ∀ b, b < 0 → a ≠ b → (TJ7 a).2.1 ≠ (TJ7 b).2.1 := by decide +kernel
theorem tyJ7_ok : ∀ k, k < 0 → parseFieldDescriptor (TJ7 k).2.2.1 = some (tyJ7 k) := by decide +kernel
abbrev cJ7_fill_53178 : ByteArray := prog_21_method_103_code
def yJ7_fill_53178 : MethodName := ⟨RJ7, "fill", "([II)V"⟩
def RJ3 : String := "jdk/internal/util/Preconditions"
def TJ3 : u_T := fun k => match k with
  | _ => ("", "", "", false)
def tyJ3 : Nat → FieldType := fun k => match k with
  | _ => .int
abbrev wsJ30 : List Cond := u_ws RJ3 TJ3 0
theorem nmJ3 : ∀ a, a < 0 → ∀ b, b < 0 → a ≠ b → (TJ3 a).2.1 ≠ (TJ3 b).2.1 := by decide +kernel
theorem tyJ3_ok : ∀ k, k < 0 → parseFieldDescriptor (TJ3 k).2.2.1 = some (tyJ3 k) := by decide +kernel
abbrev cJ3_checkIndex_8e157 : ByteArray := prog_22_method_11_code
def yJ3_checkIndex_8e157 : MethodName := ⟨RJ3, "checkIndex", "(IILjava/util/function/BiFunction;)I"⟩
def RL : String := "DustReadsLaw"
abbrev cL_law : ByteArray := code
def yL_law : MethodName := ⟨RL, "law", "([I)Z"⟩
abbrev vwCl : List vw_C := [(RX0, TX0, 2), (RX1, TX1, 2), (RX2, TX2, 2), (RX3, TX3, 6), (RX4, TX4, 2), (RX6, TX6, 5), (RX7, TX7, 8), (RX8, TX8, 3), (RX9, TX9, 2), (RX10, TX10, 2), (RX11, TX11, 11), (RX12, TX12, 25)]
