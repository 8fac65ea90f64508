def RX0 : String := "ShadowRegistry$Book"
def TX0 : u_T := fun k => match k with
  | 0 => ("ShadowRegistry$Book", "names", "[J", true)
  | 1 => ("ShadowRegistry$Book", "places", "[I", true)
  | 2 => ("ShadowRegistry$Book", "heights", "[I", true)
  | 3 => ("ShadowRegistry$Book", "houseCount", "I", false)
  | 4 => ("ShadowRegistry$Book", "rows", "[LShadowRegistry$Law;", true)
  | 5 => ("ShadowRegistry$Book", "lawCount", "I", false)
  | 6 => ("ShadowRegistry$Book", "ops", "[I", true)
  | 7 => ("ShadowRegistry$Book", "firsts", "[I", true)
  | 8 => ("ShadowRegistry$Book", "seconds", "[I", true)
  | _ => ("ShadowRegistry$Book", "stepCount", "I", false)
def tyX0 : Nat → FieldType := fun k => match k with
  | 0 => .array .long
  | 1 => .array .int
  | 2 => .array .int
  | 3 => .int
  | 4 => .array (.object "ShadowRegistry$Law")
  | 5 => .int
  | 6 => .array .int
  | 7 => .array .int
  | 8 => .array .int
  | _ => .int
abbrev wsX00 : List Cond := u_ws RX0 TX0 10
theorem nmX0 : ∀ a, a < 10 → ∀ b, b < 10 → a ≠ b → (TX0 a).2.1 ≠ (TX0 b).2.1 := by decide +kernel
theorem tyX0_ok : ∀ k, k < 10 → parseFieldDescriptor (TX0 k).2.2.1 = some (tyX0 k) := by decide +kernel
abbrev cX0_init : ByteArray := prog_2_method_1_code
def yX0_init : MethodName := ⟨RX0, "<init>", "()V"⟩
abbrev cX0_empty : ByteArray := prog_2_method_2_code
def yX0_empty : MethodName := ⟨RX0, "empty", "()V"⟩
abbrev cX0_become : ByteArray := prog_2_method_3_code
def yX0_become : MethodName := ⟨RX0, "become", "(LShadowRegistry$Book;)V"⟩
abbrev cX0_addHouse : ByteArray := prog_2_method_4_code
def yX0_addHouse : MethodName := ⟨RX0, "addHouse", "(JII)V"⟩
abbrev cX0_addStep : ByteArray := prog_2_method_5_code
def yX0_addStep : MethodName := ⟨RX0, "addStep", "(III)V"⟩
abbrev cX0_addLaw : ByteArray := prog_2_method_6_code
def yX0_addLaw : MethodName := ⟨RX0, "addLaw", "(LShadowRegistry$Law;)V"⟩
abbrev cX0_lawAt : ByteArray := prog_2_method_7_code
def yX0_lawAt : MethodName := ⟨RX0, "lawAt", "(I)LShadowRegistry$Law;"⟩
abbrev cX0_houseNamed : ByteArray := prog_2_method_8_code
def yX0_houseNamed : MethodName := ⟨RX0, "houseNamed", "(J)I"⟩
abbrev cX0_isTaken : ByteArray := prog_2_method_9_code
def yX0_isTaken : MethodName := ⟨RX0, "isTaken", "(J)Z"⟩
def RX1 : String := "ShadowRegistry$Kind"
def TX1 : u_T := fun k => match k with
  | _ => ("", "", "", false)
def tyX1 : Nat → FieldType := fun k => match k with
  | _ => .int
abbrev wsX10 : List Cond := u_ws RX1 TX1 0
theorem nmX1 : ∀ a, a < 0 → ∀ b, b < 0 → a ≠ b → (TX1 a).2.1 ≠ (TX1 b).2.1 := by decide +kernel
theorem tyX1_ok : ∀ k, k < 0 → parseFieldDescriptor (TX1 k).2.2.1 = some (tyX1 k) := by decide +kernel
abbrev cX1_lengthened : ByteArray := prog_3_method_4_code
def yX1_lengthened : MethodName := ⟨RX1, "lengthened", "(JI)J"⟩
def RX2 : String := "ShadowRegistry$Law"
def TX2 : u_T := fun k => match k with
  | 0 => ("ShadowRegistry$Law", "order", "I", false)
  | 1 => ("ShadowRegistry$Law", "house", "I", false)
  | 2 => ("ShadowRegistry$Law", "begin", "I", false)
  | 3 => ("ShadowRegistry$Law", "secondBegin", "I", false)
  | 4 => ("ShadowRegistry$Law", "testBegin", "I", false)
  | _ => ("ShadowRegistry$Law", "end", "I", false)
def tyX2 : Nat → FieldType := fun k => match k with
  | 0 => .int
  | 1 => .int
  | 2 => .int
  | 3 => .int
  | 4 => .int
  | _ => .int
abbrev wsX20 : List Cond := u_ws RX2 TX2 6
theorem nmX2 : ∀ a, a < 6 → ∀ b, b < 6 → a ≠ b → (TX2 a).2.1 ≠ (TX2 b).2.1 := by decide +kernel
theorem tyX2_ok : ∀ k, k < 6 → parseFieldDescriptor (TX2 k).2.2.1 = some (tyX2 k) := by decide +kernel
abbrev cX2_init : ByteArray := prog_4_method_1_code
def yX2_init : MethodName := ⟨RX2, "<init>", "()V"⟩
abbrev cX2_become : ByteArray := prog_4_method_2_code
def yX2_become : MethodName := ⟨RX2, "become", "(LShadowRegistry$Law;)V"⟩
def RX3 : String := "ShadowRegistry$Parser"
def TX3 : u_T := fun k => match k with
  | 0 => ("ShadowRegistry$Parser", "tokens", "LShadowRegistry$Tokens;", true)
  | 1 => ("ShadowRegistry$Parser", "book", "LShadowRegistry$Book;", true)
  | 2 => ("ShadowRegistry$Parser", "law", "LShadowRegistry$Law;", true)
  | 3 => ("ShadowRegistry$Parser", "token", "I", false)
  | 4 => ("ShadowRegistry$Parser", "start", "I", false)
  | 5 => ("ShadowRegistry$Parser", "now", "LShadowRegistry$Kind;", false)
  | 6 => ("ShadowRegistry$Parser", "broken", "Z", false)
  | 7 => ("ShadowRegistry$Parser", "flaw", "I", false)
  | _ => ("ShadowRegistry$Parser", "flawAt", "I", false)
def tyX3 : Nat → FieldType := fun k => match k with
  | 0 => .object "ShadowRegistry$Tokens"
  | 1 => .object "ShadowRegistry$Book"
  | 2 => .object "ShadowRegistry$Law"
  | 3 => .int
  | 4 => .int
  | 5 => .object "ShadowRegistry$Kind"
  | 6 => .boolean
  | 7 => .int
  | _ => .int
abbrev wsX30 : List Cond := u_ws RX3 TX3 9
theorem nmX3 : ∀ a, a < 9 → ∀ b, b < 9 → a ≠ b → (TX3 a).2.1 ≠ (TX3 b).2.1 := by decide +kernel
theorem tyX3_ok : ∀ k, k < 9 → parseFieldDescriptor (TX3 k).2.2.1 = some (tyX3 k) := by decide +kernel
abbrev cX3_init : ByteArray := prog_5_method_1_code
def yX3_init : MethodName := ⟨RX3, "<init>", "(LShadowRegistry$Tokens;LShadowRegistry$Book;)V"⟩
abbrev cX3_read : ByteArray := prog_5_method_2_code
def yX3_read : MethodName := ⟨RX3, "read", "()I"⟩
abbrev cX3_houseLine : ByteArray := prog_5_method_3_code
def yX3_houseLine : MethodName := ⟨RX3, "houseLine", "()V"⟩
abbrev cX3_lawLine : ByteArray := prog_5_method_4_code
def yX3_lawLine : MethodName := ⟨RX3, "lawLine", "()V"⟩
abbrev cX3_order : ByteArray := prog_5_method_5_code
def yX3_order : MethodName := ⟨RX3, "order", "()V"⟩
abbrev cX3_test : ByteArray := prog_5_method_6_code
def yX3_test : MethodName := ⟨RX3, "test", "(I)V"⟩
abbrev cX3_both : ByteArray := prog_5_method_7_code
def yX3_both : MethodName := ⟨RX3, "both", "(I)V"⟩
abbrev cX3_single : ByteArray := prog_5_method_8_code
def yX3_single : MethodName := ⟨RX3, "single", "(I)V"⟩
abbrev cX3_comparisonOp : ByteArray := prog_5_method_9_code
def yX3_comparisonOp : MethodName := ⟨RX3, "comparisonOp", "(LShadowRegistry$Kind;)I"⟩
abbrev cX3_sum : ByteArray := prog_5_method_10_code
def yX3_sum : MethodName := ⟨RX3, "sum", "(I)V"⟩
abbrev cX3_product : ByteArray := prog_5_method_11_code
def yX3_product : MethodName := ⟨RX3, "product", "(I)V"⟩
abbrev cX3_value : ByteArray := prog_5_method_12_code
def yX3_value : MethodName := ⟨RX3, "value", "(I)V"⟩
abbrev cX3_choice : ByteArray := prog_5_method_13_code
def yX3_choice : MethodName := ⟨RX3, "choice", "(I)V"⟩
abbrev cX3_goesDeeper : ByteArray := prog_5_method_14_code
def yX3_goesDeeper : MethodName := ⟨RX3, "goesDeeper", "(LShadowRegistry$Kind;I)Z"⟩
abbrev cX3_knownHouse : ByteArray := prog_5_method_15_code
def yX3_knownHouse : MethodName := ⟨RX3, "knownHouse", "()I"⟩
abbrev cX3_take : ByteArray := prog_5_method_16_code
def yX3_take : MethodName := ⟨RX3, "take", "(LShadowRegistry$Kind;)J"⟩
abbrev cX3_fail : ByteArray := prog_5_method_17_code
def yX3_fail : MethodName := ⟨RX3, "fail", "()V"⟩
abbrev cX3_tell : ByteArray := prog_5_method_18_code
def yX3_tell : MethodName := ⟨RX3, "tell", "(II)V"⟩
def RX4 : String := "ShadowRegistry$Reckoner"
def TX4 : u_T := fun k => match k with
  | 0 => ("ShadowRegistry$Reckoner", "book", "LShadowRegistry$Book;", true)
  | 1 => ("ShadowRegistry$Reckoner", "stack", "[I", true)
  | _ => ("ShadowRegistry$Reckoner", "stacked", "I", false)
def tyX4 : Nat → FieldType := fun k => match k with
  | 0 => .object "ShadowRegistry$Book"
  | 1 => .array .int
  | _ => .int
abbrev wsX40 : List Cond := u_ws RX4 TX4 3
theorem nmX4 : ∀ a, a < 3 → ∀ b, b < 3 → a ≠ b → (TX4 a).2.1 ≠ (TX4 b).2.1 := by decide +kernel
theorem tyX4_ok : ∀ k, k < 3 → parseFieldDescriptor (TX4 k).2.2.1 = some (tyX4 k) := by decide +kernel
abbrev cX4_init : ByteArray := prog_6_method_1_code
def yX4_init : MethodName := ⟨RX4, "<init>", "(LShadowRegistry$Book;)V"⟩
abbrev cX4_passDay : ByteArray := prog_6_method_2_code
def yX4_passDay : MethodName := ⟨RX4, "passDay", "(LShadowRegistry$Street;)V"⟩
abbrev cX4_carryOut : ByteArray := prog_6_method_3_code
def yX4_carryOut : MethodName := ⟨RX4, "carryOut", "(LShadowRegistry$Law;LShadowRegistry$Street;)Z"⟩
abbrev cX4_reckon : ByteArray := prog_6_method_4_code
def yX4_reckon : MethodName := ⟨RX4, "reckon", "(IILShadowRegistry$Street;)I"⟩
abbrev cX4_leaf : ByteArray := prog_6_method_5_code
def yX4_leaf : MethodName := ⟨RX4, "leaf", "(IIILShadowRegistry$Street;)I"⟩
abbrev cX4_sumOf : ByteArray := prog_6_method_6_code
def yX4_sumOf : MethodName := ⟨RX4, "sumOf", "(III)I"⟩
abbrev cX4_testOf : ByteArray := prog_6_method_7_code
def yX4_testOf : MethodName := ⟨RX4, "testOf", "(III)Z"⟩
abbrev cX4_truth : ByteArray := prog_6_method_8_code
def yX4_truth : MethodName := ⟨RX4, "truth", "(Z)I"⟩
abbrev cX4_push : ByteArray := prog_6_method_9_code
def yX4_push : MethodName := ⟨RX4, "push", "(I)V"⟩
abbrev cX4_pop : ByteArray := prog_6_method_10_code
def yX4_pop : MethodName := ⟨RX4, "pop", "()I"⟩
def RX5 : String := "ShadowRegistry$Street"
def TX5 : u_T := fun k => match k with
  | 0 => ("ShadowRegistry$Street", "count", "I", false)
  | 1 => ("ShadowRegistry$Street", "daysGone", "I", false)
  | 2 => ("ShadowRegistry$Street", "carriedOut", "I", false)
  | 3 => ("ShadowRegistry$Street", "lostInAll", "I", false)
  | 4 => ("ShadowRegistry$Street", "places", "[I", true)
  | 5 => ("ShadowRegistry$Street", "heights", "[I", true)
  | 6 => ("ShadowRegistry$Street", "froms", "[I", true)
  | 7 => ("ShadowRegistry$Street", "tos", "[I", true)
  | 8 => ("ShadowRegistry$Street", "shaded", "[I", true)
  | 9 => ("ShadowRegistry$Street", "darks", "[I", true)
  | _ => ("ShadowRegistry$Street", "casts", "[I", true)
def tyX5 : Nat → FieldType := fun k => match k with
  | 0 => .int
  | 1 => .int
  | 2 => .int
  | 3 => .int
  | 4 => .array .int
  | 5 => .array .int
  | 6 => .array .int
  | 7 => .array .int
  | 8 => .array .int
  | 9 => .array .int
  | _ => .array .int
abbrev wsX50 : List Cond := u_ws RX5 TX5 11
theorem nmX5 : ∀ a, a < 11 → ∀ b, b < 11 → a ≠ b → (TX5 a).2.1 ≠ (TX5 b).2.1 := by decide +kernel
theorem tyX5_ok : ∀ k, k < 11 → parseFieldDescriptor (TX5 k).2.2.1 = some (tyX5 k) := by decide +kernel
abbrev cX5_init : ByteArray := prog_7_method_1_code
def yX5_init : MethodName := ⟨RX5, "<init>", "()V"⟩
abbrev cX5_beginWith : ByteArray := prog_7_method_2_code
def yX5_beginWith : MethodName := ⟨RX5, "beginWith", "(LShadowRegistry$Book;)V"⟩
abbrev cX5_become : ByteArray := prog_7_method_3_code
def yX5_become : MethodName := ⟨RX5, "become", "(LShadowRegistry$Street;)V"⟩
abbrev cX5_has : ByteArray := prog_7_method_4_code
def yX5_has : MethodName := ⟨RX5, "has", "(I)Z"⟩
abbrev cX5_place : ByteArray := prog_7_method_5_code
def yX5_place : MethodName := ⟨RX5, "place", "(I)I"⟩
abbrev cX5_height : ByteArray := prog_7_method_6_code
def yX5_height : MethodName := ⟨RX5, "height", "(I)I"⟩
abbrev cX5_firstLow : ByteArray := prog_7_method_7_code
def yX5_firstLow : MethodName := ⟨RX5, "firstLow", "(I)I"⟩
abbrev cX5_lastLow : ByteArray := prog_7_method_8_code
def yX5_lastLow : MethodName := ⟨RX5, "lastLow", "(I)I"⟩
abbrev cX5_wallAt : ByteArray := prog_7_method_9_code
def yX5_wallAt : MethodName := ⟨RX5, "wallAt", "(II)I"⟩
abbrev cX5_reach : ByteArray := prog_7_method_10_code
def yX5_reach : MethodName := ⟨RX5, "reach", "(II)I"⟩
abbrev cX5_hoursShaded : ByteArray := prog_7_method_11_code
def yX5_hoursShaded : MethodName := ⟨RX5, "hoursShaded", "(II)I"⟩
abbrev cX5_hoursDark : ByteArray := prog_7_method_12_code
def yX5_hoursDark : MethodName := ⟨RX5, "hoursDark", "(I)I"⟩
abbrev cX5_lost : ByteArray := prog_7_method_13_code
def yX5_lost : MethodName := ⟨RX5, "lost", "(I)I"⟩
abbrev cX5_cast : ByteArray := prog_7_method_14_code
def yX5_cast : MethodName := ⟨RX5, "cast", "(I)I"⟩
abbrev cX5_mostLost : ByteArray := prog_7_method_15_code
def yX5_mostLost : MethodName := ⟨RX5, "mostLost", "()I"⟩
abbrev cX5_giveCurfew : ByteArray := prog_7_method_16_code
def yX5_giveCurfew : MethodName := ⟨RX5, "giveCurfew", "(III)Z"⟩
abbrev cX5_giveHeight : ByteArray := prog_7_method_17_code
def yX5_giveHeight : MethodName := ⟨RX5, "giveHeight", "(II)Z"⟩
abbrev cX5_givePlace : ByteArray := prog_7_method_18_code
def yX5_givePlace : MethodName := ⟨RX5, "givePlace", "(II)V"⟩
abbrev cX5_renew : ByteArray := prog_7_method_19_code
def yX5_renew : MethodName := ⟨RX5, "renew", "(I)V"⟩
abbrev cX5_findHoursShaded : ByteArray := prog_7_method_20_code
def yX5_findHoursShaded : MethodName := ⟨RX5, "findHoursShaded", "(II)I"⟩
abbrev cX5_addUp : ByteArray := prog_7_method_21_code
def yX5_addUp : MethodName := ⟨RX5, "addUp", "()V"⟩
def RX6 : String := "ShadowRegistry$Tape"
def TX6 : u_T := fun k => match k with
  | 0 => ("ShadowRegistry$Tape", "bytes", "[B", true)
  | _ => ("ShadowRegistry$Tape", "length", "I", false)
def tyX6 : Nat → FieldType := fun k => match k with
  | 0 => .array .byte
  | _ => .int
abbrev wsX60 : List Cond := u_ws RX6 TX6 2
theorem nmX6 : ∀ a, a < 2 → ∀ b, b < 2 → a ≠ b → (TX6 a).2.1 ≠ (TX6 b).2.1 := by decide +kernel
theorem tyX6_ok : ∀ k, k < 2 → parseFieldDescriptor (TX6 k).2.2.1 = some (tyX6 k) := by decide +kernel
abbrev cX6_init : ByteArray := prog_8_method_1_code
def yX6_init : MethodName := ⟨RX6, "<init>", "()V"⟩
abbrev cX6_append : ByteArray := prog_8_method_2_code
def yX6_append : MethodName := ⟨RX6, "append", "(I)V"⟩
abbrev cX6_signAt : ByteArray := prog_8_method_3_code
def yX6_signAt : MethodName := ⟨RX6, "signAt", "(I)I"⟩
def RX7 : String := "ShadowRegistry$Tokens"
def TX7 : u_T := fun k => match k with
  | 0 => ("ShadowRegistry$Tokens", "tape", "LShadowRegistry$Tape;", true)
  | 1 => ("ShadowRegistry$Tokens", "kinds", "[LShadowRegistry$Kind;", true)
  | 2 => ("ShadowRegistry$Tokens", "starts", "[I", true)
  | 3 => ("ShadowRegistry$Tokens", "values", "[J", true)
  | _ => ("ShadowRegistry$Tokens", "count", "I", false)
def tyX7 : Nat → FieldType := fun k => match k with
  | 0 => .object "ShadowRegistry$Tape"
  | 1 => .array (.object "ShadowRegistry$Kind")
  | 2 => .array .int
  | 3 => .array .long
  | _ => .int
abbrev wsX70 : List Cond := u_ws RX7 TX7 5
theorem nmX7 : ∀ a, a < 5 → ∀ b, b < 5 → a ≠ b → (TX7 a).2.1 ≠ (TX7 b).2.1 := by decide +kernel
theorem tyX7_ok : ∀ k, k < 5 → parseFieldDescriptor (TX7 k).2.2.1 = some (tyX7 k) := by decide +kernel
abbrev cX7_init : ByteArray := prog_9_method_1_code
def yX7_init : MethodName := ⟨RX7, "<init>", "(LShadowRegistry$Tape;)V"⟩
abbrev cX7_scan : ByteArray := prog_9_method_2_code
def yX7_scan : MethodName := ⟨RX7, "scan", "()V"⟩
abbrev cX7_kindAt : ByteArray := prog_9_method_3_code
def yX7_kindAt : MethodName := ⟨RX7, "kindAt", "(I)LShadowRegistry$Kind;"⟩
abbrev cX7_startAt : ByteArray := prog_9_method_4_code
def yX7_startAt : MethodName := ⟨RX7, "startAt", "(I)I"⟩
abbrev cX7_valueAt : ByteArray := prog_9_method_5_code
def yX7_valueAt : MethodName := ⟨RX7, "valueAt", "(I)J"⟩
abbrev cX7_behindBlanks : ByteArray := prog_9_method_6_code
def yX7_behindBlanks : MethodName := ⟨RX7, "behindBlanks", "(I)I"⟩
abbrev cX7_isLetter : ByteArray := prog_9_method_7_code
def yX7_isLetter : MethodName := ⟨RX7, "isLetter", "(I)Z"⟩
abbrev cX7_isDigit : ByteArray := prog_9_method_8_code
def yX7_isDigit : MethodName := ⟨RX7, "isDigit", "(I)Z"⟩
abbrev cX7_scanToken : ByteArray := prog_9_method_9_code
def yX7_scanToken : MethodName := ⟨RX7, "scanToken", "(I)I"⟩
abbrev cX7_scanWord : ByteArray := prog_9_method_10_code
def yX7_scanWord : MethodName := ⟨RX7, "scanWord", "(I)I"⟩
abbrev cX7_scanNumber : ByteArray := prog_9_method_11_code
def yX7_scanNumber : MethodName := ⟨RX7, "scanNumber", "(I)I"⟩
abbrev cX7_scanSymbol : ByteArray := prog_9_method_12_code
def yX7_scanSymbol : MethodName := ⟨RX7, "scanSymbol", "(II)I"⟩
abbrev cX7_symbol : ByteArray := prog_9_method_13_code
def yX7_symbol : MethodName := ⟨RX7, "symbol", "(I)LShadowRegistry$Kind;"⟩
abbrev cX7_put : ByteArray := prog_9_method_14_code
def yX7_put : MethodName := ⟨RX7, "put", "(LShadowRegistry$Kind;IJI)I"⟩
def RX8 : String := "ShadowRegistry"
def TX8 : u_T := fun k => match k with
  | 0 => ("ShadowRegistry", "tape", "LShadowRegistry$Tape;", true)
  | 1 => ("ShadowRegistry", "draft", "LShadowRegistry$Book;", true)
  | 2 => ("ShadowRegistry", "parser", "LShadowRegistry$Parser;", true)
  | 3 => ("ShadowRegistry", "told", "LShadowRegistry$Book;", true)
  | 4 => ("ShadowRegistry", "reckoner", "LShadowRegistry$Reckoner;", true)
  | 5 => ("ShadowRegistry", "street", "LShadowRegistry$Street;", true)
  | 6 => ("ShadowRegistry", "trial", "LShadowRegistry$Street;", true)
  | _ => ("ShadowRegistry", "latestErrorAt", "I", false)
def tyX8 : Nat → FieldType := fun k => match k with
  | 0 => .object "ShadowRegistry$Tape"
  | 1 => .object "ShadowRegistry$Book"
  | 2 => .object "ShadowRegistry$Parser"
  | 3 => .object "ShadowRegistry$Book"
  | 4 => .object "ShadowRegistry$Reckoner"
  | 5 => .object "ShadowRegistry$Street"
  | 6 => .object "ShadowRegistry$Street"
  | _ => .int
abbrev wsX80 : List Cond := u_ws RX8 TX8 8
theorem nmX8 : ∀ a, a < 8 → ∀ b, b < 8 → a ≠ b → (TX8 a).2.1 ≠ (TX8 b).2.1 := by decide +kernel
theorem tyX8_ok : ∀ k, k < 8 → parseFieldDescriptor (TX8 k).2.2.1 = some (tyX8 k) := by decide +kernel
abbrev cX8_init : ByteArray := prog_1_method_1_code
def yX8_init : MethodName := ⟨RX8, "<init>", "()V"⟩
abbrev cX8_feed : ByteArray := prog_1_method_2_code
def yX8_feed : MethodName := ⟨RX8, "feed", "(IIIII)I"⟩
abbrev cX8_trim : ByteArray := prog_1_method_3_code
def yX8_trim : MethodName := ⟨RX8, "trim", "(I)I"⟩
abbrev cX8_teach : ByteArray := prog_1_method_4_code
def yX8_teach : MethodName := ⟨RX8, "teach", "()I"⟩
abbrev cX8_houses : ByteArray := prog_1_method_6_code
def yX8_houses : MethodName := ⟨RX8, "houses", "()I"⟩
abbrev cX8_laws : ByteArray := prog_1_method_7_code
def yX8_laws : MethodName := ⟨RX8, "laws", "()I"⟩
abbrev cX8_days : ByteArray := prog_1_method_8_code
def yX8_days : MethodName := ⟨RX8, "days", "()I"⟩
abbrev cX8_lawsCarriedOut : ByteArray := prog_1_method_9_code
def yX8_lawsCarriedOut : MethodName := ⟨RX8, "lawsCarriedOut", "()I"⟩
abbrev cX8_allHoursLost : ByteArray := prog_1_method_10_code
def yX8_allHoursLost : MethodName := ⟨RX8, "allHoursLost", "()I"⟩
abbrev cX8_lightHouses : ByteArray := prog_1_method_11_code
def yX8_lightHouses : MethodName := ⟨RX8, "lightHouses", "()I"⟩
abbrev cX8_worstHouse : ByteArray := prog_1_method_12_code
def yX8_worstHouse : MethodName := ⟨RX8, "worstHouse", "()I"⟩
abbrev cX8_darkestWall : ByteArray := prog_1_method_13_code
def yX8_darkestWall : MethodName := ⟨RX8, "darkestWall", "()I"⟩
abbrev cX8_placeOf : ByteArray := prog_1_method_14_code
def yX8_placeOf : MethodName := ⟨RX8, "placeOf", "(I)I"⟩
abbrev cX8_heightOf : ByteArray := prog_1_method_15_code
def yX8_heightOf : MethodName := ⟨RX8, "heightOf", "(I)I"⟩
abbrev cX8_hoursLost : ByteArray := prog_1_method_16_code
def yX8_hoursLost : MethodName := ⟨RX8, "hoursLost", "(I)I"⟩
abbrev cX8_castBy : ByteArray := prog_1_method_17_code
def yX8_castBy : MethodName := ⟨RX8, "castBy", "(I)I"⟩
abbrev cX8_hasCurfew : ByteArray := prog_1_method_18_code
def yX8_hasCurfew : MethodName := ⟨RX8, "hasCurfew", "(I)Z"⟩
abbrev cX8_curfewFrom : ByteArray := prog_1_method_19_code
def yX8_curfewFrom : MethodName := ⟨RX8, "curfewFrom", "(I)I"⟩
abbrev cX8_curfewTo : ByteArray := prog_1_method_20_code
def yX8_curfewTo : MethodName := ⟨RX8, "curfewTo", "(I)I"⟩
abbrev cX8_hoursLostTo : ByteArray := prog_1_method_21_code
def yX8_hoursLostTo : MethodName := ⟨RX8, "hoursLostTo", "(II)I"⟩
abbrev cX8_heightAt : ByteArray := prog_1_method_22_code
def yX8_heightAt : MethodName := ⟨RX8, "heightAt", "(II)I"⟩
abbrev cX8_shadowOf : ByteArray := prog_1_method_23_code
def yX8_shadowOf : MethodName := ⟨RX8, "shadowOf", "(II)I"⟩
abbrev cX8_shades : ByteArray := prog_1_method_24_code
def yX8_shades : MethodName := ⟨RX8, "shades", "(III)Z"⟩
abbrev cX8_isInTheDark : ByteArray := prog_1_method_25_code
def yX8_isInTheDark : MethodName := ⟨RX8, "isInTheDark", "(II)Z"⟩
abbrev cX8_shadedBy : ByteArray := prog_1_method_26_code
def yX8_shadedBy : MethodName := ⟨RX8, "shadedBy", "(II)I"⟩
abbrev cX8_housesInTheDark : ByteArray := prog_1_method_27_code
def yX8_housesInTheDark : MethodName := ⟨RX8, "housesInTheDark", "(I)I"⟩
abbrev cX8_setCurfew : ByteArray := prog_1_method_28_code
def yX8_setCurfew : MethodName := ⟨RX8, "setCurfew", "(III)I"⟩
abbrev cX8_endCurfew : ByteArray := prog_1_method_29_code
def yX8_endCurfew : MethodName := ⟨RX8, "endCurfew", "(I)I"⟩
abbrev cX8_build : ByteArray := prog_1_method_30_code
def yX8_build : MethodName := ⟨RX8, "build", "(II)I"⟩
abbrev cX8_move : ByteArray := prog_1_method_31_code
def yX8_move : MethodName := ⟨RX8, "move", "(II)I"⟩
abbrev cX8_passDays : ByteArray := prog_1_method_32_code
def yX8_passDays : MethodName := ⟨RX8, "passDays", "(I)I"⟩
abbrev cX8_lostAfter : ByteArray := prog_1_method_33_code
def yX8_lostAfter : MethodName := ⟨RX8, "lostAfter", "(I)I"⟩
abbrev cX8_daysUntilLight : ByteArray := prog_1_method_34_code
def yX8_daysUntilLight : MethodName := ⟨RX8, "daysUntilLight", "()I"⟩
abbrev cX8_fairCurfew : ByteArray := prog_1_method_35_code
def yX8_fairCurfew : MethodName := ⟨RX8, "fairCurfew", "(II)I"⟩
abbrev cX8_fairestWall : ByteArray := prog_1_method_36_code
def yX8_fairestWall : MethodName := ⟨RX8, "fairestWall", "(I)I"⟩
abbrev cX8_meanLost : ByteArray := prog_1_method_37_code
def yX8_meanLost : MethodName := ⟨RX8, "meanLost", "()D"⟩
abbrev cX8_digest : ByteArray := prog_1_method_38_code
def yX8_digest : MethodName := ⟨RX8, "digest", "()J"⟩
abbrev cX8_checkHouse : ByteArray := prog_1_method_39_code
def yX8_checkHouse : MethodName := ⟨RX8, "checkHouse", "(I)V"⟩
abbrev cX8_checkCurfew : ByteArray := prog_1_method_40_code
def yX8_checkCurfew : MethodName := ⟨RX8, "checkCurfew", "(I)V"⟩
abbrev cX8_checkHour : ByteArray := prog_1_method_41_code
def yX8_checkHour : MethodName := ⟨RX8, "checkHour", "(I)V"⟩
abbrev cX8_checkDays : ByteArray := prog_1_method_42_code
def yX8_checkDays : MethodName := ⟨RX8, "checkDays", "(I)V"⟩
abbrev cX8_checkCurfewHours : ByteArray := prog_1_method_43_code
def yX8_checkCurfewHours : MethodName := ⟨RX8, "checkCurfewHours", "(I)V"⟩
abbrev cX8_countDark : ByteArray := prog_1_method_44_code
def yX8_countDark : MethodName := ⟨RX8, "countDark", "(I)I"⟩
abbrev cX8_holdsHour : ByteArray := prog_1_method_45_code
def yX8_holdsHour : MethodName := ⟨RX8, "holdsHour", "(II)Z"⟩
abbrev cX8_held : ByteArray := prog_1_method_46_code
def yX8_held : MethodName := ⟨RX8, "held", "(JII)I"⟩
def RX9 : String := "ShadowRegistryLaw$Sim"
def TX9 : u_T := fun k => match k with
  | 0 => ("ShadowRegistryLaw$Sim", "houses", "[[I", false)
  | 1 => ("ShadowRegistryLaw$Sim", "laws", "[[I", false)
  | 2 => ("ShadowRegistryLaw$Sim", "ones", "[LShadowRegistryLaw$Tree;", false)
  | 3 => ("ShadowRegistryLaw$Sim", "twos", "[LShadowRegistryLaw$Tree;", false)
  | 4 => ("ShadowRegistryLaw$Sim", "tests", "[LShadowRegistryLaw$Tree;", false)
  | 5 => ("ShadowRegistryLaw$Sim", "days", "I", false)
  | _ => ("ShadowRegistryLaw$Sim", "carried", "I", false)
def tyX9 : Nat → FieldType := fun k => match k with
  | 0 => .array (.array .int)
  | 1 => .array (.array .int)
  | 2 => .array (.object "ShadowRegistryLaw$Tree")
  | 3 => .array (.object "ShadowRegistryLaw$Tree")
  | 4 => .array (.object "ShadowRegistryLaw$Tree")
  | 5 => .int
  | _ => .int
abbrev wsX90 : List Cond := u_ws RX9 TX9 7
theorem nmX9 : ∀ a, a < 7 → ∀ b, b < 7 → a ≠ b → (TX9 a).2.1 ≠ (TX9 b).2.1 := by decide +kernel
theorem tyX9_ok : ∀ k, k < 7 → parseFieldDescriptor (TX9 k).2.2.1 = some (tyX9 k) := by decide +kernel
abbrev cX9_init : ByteArray := prog_11_method_1_code
def yX9_init : MethodName := ⟨RX9, "<init>", "()V"⟩
abbrev cX9_with : ByteArray := prog_11_method_3_code
def yX9_with : MethodName := ⟨RX9, "with", "([[I[I)[[I"⟩
abbrev cX9_tall : ByteArray := prog_11_method_4_code
def yX9_tall : MethodName := ⟨RX9, "tall", "(II)I"⟩
abbrev cX9_reach : ByteArray := prog_11_method_5_code
def yX9_reach : MethodName := ⟨RX9, "reach", "(II)I"⟩
abbrev cX9_shades : ByteArray := prog_11_method_6_code
def yX9_shades : MethodName := ⟨RX9, "shades", "(III)Z"⟩
abbrev cX9_lostTo : ByteArray := prog_11_method_7_code
def yX9_lostTo : MethodName := ⟨RX9, "lostTo", "(II)I"⟩
abbrev cX9_shadedBy : ByteArray := prog_11_method_8_code
def yX9_shadedBy : MethodName := ⟨RX9, "shadedBy", "(II)I"⟩
abbrev cX9_lost : ByteArray := prog_11_method_9_code
def yX9_lost : MethodName := ⟨RX9, "lost", "(I)I"⟩
abbrev cX9_cast : ByteArray := prog_11_method_10_code
def yX9_cast : MethodName := ⟨RX9, "cast", "(I)I"⟩
abbrev cX9_worst : ByteArray := prog_11_method_11_code
def yX9_worst : MethodName := ⟨RX9, "worst", "()I"⟩
abbrev cX9_all : ByteArray := prog_11_method_12_code
def yX9_all : MethodName := ⟨RX9, "all", "()I"⟩
abbrev cX9_held : ByteArray := prog_11_method_13_code
def yX9_held : MethodName := ⟨RX9, "held", "(III)I"⟩
abbrev cX9_pass : ByteArray := prog_11_method_14_code
def yX9_pass : MethodName := ⟨RX9, "pass", "()V"⟩
abbrev cX9_isSame : ByteArray := prog_11_method_15_code
def yX9_isSame : MethodName := ⟨RX9, "isSame", "(LShadowRegistry;)Z"⟩
def RX10 : String := "ShadowRegistryLaw$Tree"
def TX10 : u_T := fun k => match k with
  | 0 => ("ShadowRegistryLaw$Tree", "kind", "I", false)
  | 1 => ("ShadowRegistryLaw$Tree", "number", "I", false)
  | 2 => ("ShadowRegistryLaw$Tree", "other", "I", false)
  | 3 => ("ShadowRegistryLaw$Tree", "a", "LShadowRegistryLaw$Tree;", false)
  | _ => ("ShadowRegistryLaw$Tree", "b", "LShadowRegistryLaw$Tree;", false)
def tyX10 : Nat → FieldType := fun k => match k with
  | 0 => .int
  | 1 => .int
  | 2 => .int
  | 3 => .object "ShadowRegistryLaw$Tree"
  | _ => .object "ShadowRegistryLaw$Tree"
abbrev wsX100 : List Cond := u_ws RX10 TX10 5
theorem nmX10 : ∀ a, a < 5 → ∀ b, b < 5 → a ≠ b → (TX10 a).2.1 ≠ (TX10 b).2.1 := by decide +kernel
theorem tyX10_ok : ∀ k, k < 5 → parseFieldDescriptor (TX10 k).2.2.1 = some (tyX10 k) := by decide +kernel
abbrev cX10_init : ByteArray := prog_12_method_1_code
def yX10_init : MethodName := ⟨RX10, "<init>", "()V"⟩
abbrev cX10_of : ByteArray := prog_12_method_2_code
def yX10_of : MethodName := ⟨RX10, "of", "(LShadowRegistryLaw$Sim;)I"⟩
abbrev cX10_ofTwo : ByteArray := prog_12_method_3_code
def yX10_ofTwo : MethodName := ⟨RX10, "ofTwo", "(II)I"⟩
abbrev cX10_text : ByteArray := prog_12_method_4_code
def yX10_text : MethodName := ⟨RX10, "text", "()Ljava/lang/String;"⟩
def RX11 : String := "ShadowRegistryModel$Plan"
def TX11 : u_T := fun k => match k with
  | _ => ("", "", "", false)
def tyX11 : Nat → FieldType := fun k => match k with
  | _ => .int
abbrev wsX110 : List Cond := u_ws RX11 TX11 0
theorem nmX11 : ∀ a, a < 0 → ∀ b, b < 0 → a ≠ b → (TX11 a).2.1 ≠ (TX11 b).2.1 := by decide +kernel
theorem tyX11_ok : ∀ k, k < 0 → parseFieldDescriptor (TX11 k).2.2.1 = some (tyX11 k) := by decide +kernel
def RX12 : String := "ShadowRegistryModel"
def TX12 : u_T := fun k => match k with
  | _ => ("", "", "", false)
def tyX12 : Nat → FieldType := fun k => match k with
  | _ => .int
abbrev wsX120 : List Cond := u_ws RX12 TX12 0
theorem nmX12 : ∀ a, a < 0 → ∀ b, b < 0 → a ≠ b → (TX12 a).2.1 ≠ (TX12 b).2.1 := by decide +kernel
theorem tyX12_ok : ∀ k, k < 0 → parseFieldDescriptor (TX12 k).2.2.1 = some (tyX12 k) := by decide +kernel
def RJ5 : String := "java/lang/AbstractStringBuilder"
def TJ5 : u_T := fun k => match k with
  | _ => ("", "", "", false)
def tyJ5 : Nat → FieldType := fun k => match k with
  | _ => .int
theorem nmJ5 : ∀ a, a < 0 → ∀ b, b < 0 → a ≠ b → (TJ5 a).2.1 ≠ (TJ5 b).2.1 := by decide +kernel
theorem tyJ5_ok : ∀ k, k < 0 → parseFieldDescriptor (TJ5 k).2.2.1 = some (tyJ5 k) := by decide +kernel
abbrev cJ5_init_d00df : ByteArray := prog_15_method_2_code
def yJ5_init_d00df : MethodName := ⟨RJ5, "<init>", "(I)V"⟩
abbrev cJ5_length_8abf5 : ByteArray := prog_15_method_6_code
def yJ5_length_8abf5 : MethodName := ⟨RJ5, "length", "()I"⟩
abbrev cJ5_ensureCapacityInternal_d00df : ByteArray := prog_15_method_9_code
def yJ5_ensureCapacityInternal_d00df : MethodName := ⟨RJ5, "ensureCapacityInternal", "(I)V"⟩
abbrev cJ5_newCapacity_0f7a4 : ByteArray := prog_15_method_10_code
def yJ5_newCapacity_0f7a4 : MethodName := ⟨RJ5, "newCapacity", "(I)I"⟩
abbrev cJ5_inflate_da8c8 : ByteArray := prog_15_method_11_code
def yJ5_inflate_da8c8 : MethodName := ⟨RJ5, "inflate", "()V"⟩
abbrev cJ5_append_cf1ce : ByteArray := prog_15_method_22_code
def yJ5_append_cf1ce : MethodName := ⟨RJ5, "append", "(Ljava/lang/String;)Ljava/lang/AbstractStringBuilder;"⟩
abbrev cJ5_appendNull_278bc : ByteArray := prog_15_method_26_code
def yJ5_appendNull_278bc : MethodName := ⟨RJ5, "appendNull", "()Ljava/lang/AbstractStringBuilder;"⟩
abbrev cJ5_append_c97b9 : ByteArray := prog_15_method_32_code
def yJ5_append_c97b9 : MethodName := ⟨RJ5, "append", "(I)Ljava/lang/AbstractStringBuilder;"⟩
abbrev cJ5_getValue_6d5f1 : ByteArray := prog_15_method_64_code
def yJ5_getValue_6d5f1 : MethodName := ⟨RJ5, "getValue", "()[B"⟩
abbrev cJ5_isLatin1_aae02 : ByteArray := prog_15_method_68_code
def yJ5_isLatin1_aae02 : MethodName := ⟨RJ5, "isLatin1", "()Z"⟩
abbrev cJ5_inflateIfNeededFor_a7421 : ByteArray := prog_15_method_71_code
def yJ5_inflateIfNeededFor_a7421 : MethodName := ⟨RJ5, "inflateIfNeededFor", "(Ljava/lang/String;)V"⟩
abbrev cJ5_putStringAt_47b60 : ByteArray := prog_15_method_73_code
def yJ5_putStringAt_47b60 : MethodName := ⟨RJ5, "putStringAt", "(ILjava/lang/String;)V"⟩
def RJx8e188 : String := "java/lang/Cloneable"
def TJx8e188 : u_T := fun k => match k with
  | _ => ("", "", "", false)
def tyJx8e188 : Nat → FieldType := fun k => match k with
  | _ => .int
theorem nmJx8e188 : ∀ a, a < 0 → ∀ b, b < 0 → a ≠ b → (TJx8e188 a).2.1 ≠ (TJx8e188 b).2.1 := by decide +kernel
theorem tyJx8e188_ok : ∀ k, k < 0 → parseFieldDescriptor (TJx8e188 k).2.2.1 = some (tyJx8e188 k) := by decide +kernel
def RJx29ce0 : String := "java/lang/Enum"
def TJx29ce0 : u_T := fun k => match k with
  | _ => ("", "", "", false)
def tyJx29ce0 : Nat → FieldType := fun k => match k with
  | _ => .int
theorem nmJx29ce0 : ∀ a, a < 0 → ∀ b, b < 0 → a ≠ b → (TJx29ce0 a).2.1 ≠ (TJx29ce0 b).2.1 := by decide +kernel
theorem tyJx29ce0_ok : ∀ k, k < 0 → parseFieldDescriptor (TJx29ce0 k).2.2.1 = some (tyJx29ce0 k) := by decide +kernel
def RJ6 : String := "java/lang/Integer"
def TJ6 : u_T := fun k => match k with
  | _ => ("", "", "", false)
def tyJ6 : Nat → FieldType := fun k => match k with
  | _ => .int
theorem nmJ6 : ∀ a, a < 0 → ∀ b, b < 0 → a ≠ b → (TJ6 a).2.1 ≠ (TJ6 b).2.1 := by decide +kernel
theorem tyJ6_ok : ∀ k, k < 0 → parseFieldDescriptor (TJ6 k).2.2.1 = some (tyJ6 k) := by decide +kernel
abbrev cJ6_getChars_ba4f3 : ByteArray := prog_22_method_12_code
def yJ6_getChars_ba4f3 : MethodName := ⟨RJ6, "getChars", "(II[B)I"⟩
abbrev cJ6_stringSize_0f7a4 : ByteArray := prog_22_method_13_code
def yJ6_stringSize_0f7a4 : MethodName := ⟨RJ6, "stringSize", "(I)I"⟩
abbrev cJ6_bitCount_0f7a4 : ByteArray := prog_22_method_49_code
def yJ6_bitCount_0f7a4 : MethodName := ⟨RJ6, "bitCount", "(I)I"⟩
def RJ9 : String := "java/lang/Math"
def TJ9 : u_T := fun k => match k with
  | _ => ("", "", "", false)
def tyJ9 : Nat → FieldType := fun k => match k with
  | _ => .int
theorem nmJ9 : ∀ a, a < 0 → ∀ b, b < 0 → a ≠ b → (TJ9 a).2.1 ≠ (TJ9 b).2.1 := by decide +kernel
theorem tyJ9_ok : ∀ k, k < 0 → parseFieldDescriptor (TJ9 k).2.2.1 = some (tyJ9 k) := by decide +kernel
abbrev cJ9_abs_0f7a4 : ByteArray := prog_23_method_59_code
def yJ9_abs_0f7a4 : MethodName := ⟨RJ9, "abs", "(I)I"⟩
abbrev cJ9_max_7cf53 : ByteArray := prog_23_method_65_code
def yJ9_max_7cf53 : MethodName := ⟨RJ9, "max", "(II)I"⟩
abbrev cJ9_max_f86c9 : ByteArray := prog_23_method_66_code
def yJ9_max_f86c9 : MethodName := ⟨RJ9, "max", "(JJ)J"⟩
abbrev cJ9_min_7cf53 : ByteArray := prog_23_method_69_code
def yJ9_min_7cf53 : MethodName := ⟨RJ9, "min", "(II)I"⟩
abbrev cJ9_min_f86c9 : ByteArray := prog_23_method_70_code
def yJ9_min_f86c9 : MethodName := ⟨RJ9, "min", "(JJ)J"⟩
def RJ0 : String := "java/lang/String"
def TJ0 : u_T := fun k => match k with
  | 0 => ("java/lang/String", "value", "[B", true)
  | 1 => ("java/lang/String", "coder", "B", true)
  | 2 => ("java/lang/String", "hash", "I", false)
  | _ => ("java/lang/String", "hashIsZero", "Z", false)
def tyJ0 : Nat → FieldType := fun k => match k with
  | 0 => .array .byte
  | 1 => .byte
  | 2 => .int
  | _ => .boolean
theorem nmJ0 : ∀ a, a < 4 → ∀ b, b < 4 → a ≠ b → (TJ0 a).2.1 ≠ (TJ0 b).2.1 := by decide +kernel
theorem tyJ0_ok : ∀ k, k < 4 → parseFieldDescriptor (TJ0 k).2.2.1 = some (tyJ0 k) := by decide +kernel
abbrev cJ0_init_81219 : ByteArray := prog_25_method_53_code
def yJ0_init_81219 : MethodName := ⟨RJ0, "<init>", "(Ljava/lang/StringBuilder;)V"⟩
abbrev cJ0_length_8abf5 : ByteArray := prog_25_method_54_code
def yJ0_length_8abf5 : MethodName := ⟨RJ0, "length", "()I"⟩
abbrev cJ0_charAt_5068e : ByteArray := prog_25_method_56_code
def yJ0_charAt_5068e : MethodName := ⟨RJ0, "charAt", "(I)C"⟩
abbrev cJ0_getBytes_840e7 : ByteArray := prog_25_method_147_code
def yJ0_getBytes_840e7 : MethodName := ⟨RJ0, "getBytes", "([BIB)V"⟩
abbrev cJ0_init_db425 : ByteArray := prog_25_method_150_code
def yJ0_init_db425 : MethodName := ⟨RJ0, "<init>", "(Ljava/lang/AbstractStringBuilder;Ljava/lang/Void;)V"⟩
abbrev cJ0_coder_7d493 : ByteArray := prog_25_method_152_code
def yJ0_coder_7d493 : MethodName := ⟨RJ0, "coder", "()B"⟩
abbrev cJ0_isLatin1_aae02 : ByteArray := prog_25_method_154_code
def yJ0_isLatin1_aae02 : MethodName := ⟨RJ0, "isLatin1", "()Z"⟩
abbrev cJ0_checkIndex_df160 : ByteArray := prog_25_method_155_code
def yJ0_checkIndex_df160 : MethodName := ⟨RJ0, "checkIndex", "(II)V"⟩
abbrev cJ0_checkBoundsOffCount_cabcc : ByteArray := prog_25_method_157_code
def yJ0_checkBoundsOffCount_cabcc : MethodName := ⟨RJ0, "checkBoundsOffCount", "(III)I"⟩
abbrev cJ0_checkBoundsBeginEnd_23922 : ByteArray := prog_25_method_158_code
def yJ0_checkBoundsBeginEnd_23922 : MethodName := ⟨RJ0, "checkBoundsBeginEnd", "(III)V"⟩
def RJ4 : String := "java/lang/StringBuilder"
def TJ4 : u_T := fun k => match k with
  | 0 => ("java/lang/AbstractStringBuilder", "value", "[B", false)
  | 1 => ("java/lang/AbstractStringBuilder", "coder", "B", false)
  | 2 => ("java/lang/AbstractStringBuilder", "maybeLatin1", "Z", false)
  | _ => ("java/lang/AbstractStringBuilder", "count", "I", false)
def tyJ4 : Nat → FieldType := fun k => match k with
  | 0 => .array .byte
  | 1 => .byte
  | 2 => .boolean
  | _ => .int
theorem nmJ4 : ∀ a, a < 4 → ∀ b, b < 4 → a ≠ b → (TJ4 a).2.1 ≠ (TJ4 b).2.1 := by decide +kernel
theorem tyJ4_ok : ∀ k, k < 4 → parseFieldDescriptor (TJ4 k).2.2.1 = some (tyJ4 k) := by decide +kernel
abbrev cJ4_init_da8c8 : ByteArray := prog_26_method_1_code
def yJ4_init_da8c8 : MethodName := ⟨RJ4, "<init>", "()V"⟩
abbrev cJ4_append_15ec4 : ByteArray := prog_26_method_7_code
def yJ4_append_15ec4 : MethodName := ⟨RJ4, "append", "(Ljava/lang/String;)Ljava/lang/StringBuilder;"⟩
abbrev cJ4_append_bf812 : ByteArray := prog_26_method_15_code
def yJ4_append_bf812 : MethodName := ⟨RJ4, "append", "(I)Ljava/lang/StringBuilder;"⟩
abbrev cJ4_toString_0e30d : ByteArray := prog_26_method_42_code
def yJ4_toString_0e30d : MethodName := ⟨RJ4, "toString", "()Ljava/lang/String;"⟩
abbrev cJ4_length_8abf5 : ByteArray := prog_26_method_93_code
def yJ4_length_8abf5 : MethodName := ⟨RJ4, "length", "()I"⟩
def RJ1 : String := "java/lang/StringLatin1"
def TJ1 : u_T := fun k => match k with
  | _ => ("", "", "", false)
def tyJ1 : Nat → FieldType := fun k => match k with
  | _ => .int
theorem nmJ1 : ∀ a, a < 0 → ∀ b, b < 0 → a ≠ b → (TJ1 a).2.1 ≠ (TJ1 b).2.1 := by decide +kernel
theorem tyJ1_ok : ∀ k, k < 0 → parseFieldDescriptor (TJ1 k).2.2.1 = some (tyJ1 k) := by decide +kernel
abbrev cJ1_charAt_3b067 : ByteArray := prog_27_method_2_code
def yJ1_charAt_3b067 : MethodName := ⟨RJ1, "charAt", "([BI)C"⟩
abbrev cJ1_inflate_0e8fd : ByteArray := prog_27_method_50_code
def yJ1_inflate_0e8fd : MethodName := ⟨RJ1, "inflate", "([BI[BII)V"⟩
def RJ2 : String := "java/lang/StringUTF16"
def TJ2 : u_T := fun k => match k with
  | _ => ("", "", "", false)
def tyJ2 : Nat → FieldType := fun k => match k with
  | _ => .int
theorem nmJ2 : ∀ a, a < 0 → ∀ b, b < 0 → a ≠ b → (TJ2 a).2.1 ≠ (TJ2 b).2.1 := by decide +kernel
theorem tyJ2_ok : ∀ k, k < 0 → parseFieldDescriptor (TJ2 k).2.2.1 = some (tyJ2 k) := by decide +kernel
abbrev cJ2_newBytesFor_77867 : ByteArray := prog_28_method_2_code
def yJ2_newBytesFor_77867 : MethodName := ⟨RJ2, "newBytesFor", "(I)[B"⟩
abbrev cJ2_newBytesLength_0f7a4 : ByteArray := prog_28_method_3_code
def yJ2_newBytesLength_0f7a4 : MethodName := ⟨RJ2, "newBytesLength", "(I)I"⟩
abbrev cJ2_putChar_b72d1 : ByteArray := prog_28_method_4_code
def yJ2_putChar_b72d1 : MethodName := ⟨RJ2, "putChar", "([BII)V"⟩
abbrev cJ2_getChar_3b067 : ByteArray := prog_28_method_5_code
def yJ2_getChar_3b067 : MethodName := ⟨RJ2, "getChar", "([BI)C"⟩
abbrev cJ2_length_9d52b : ByteArray := prog_28_method_6_code
def yJ2_length_9d52b : MethodName := ⟨RJ2, "length", "([B)I"⟩
abbrev cJ2_coderFromArrayLen_85cad : ByteArray := prog_28_method_15_code
def yJ2_coderFromArrayLen_85cad : MethodName := ⟨RJ2, "coderFromArrayLen", "([BI)B"⟩
abbrev cJ2_compress_39247 : ByteArray := prog_28_method_17_code
def yJ2_compress_39247 : MethodName := ⟨RJ2, "compress", "([BII)[B"⟩
abbrev cJ2_compress_5af95 : ByteArray := prog_28_method_22_code
def yJ2_compress_5af95 : MethodName := ⟨RJ2, "compress", "([BI[BII)I"⟩
abbrev cJ2_getChars_46870 : ByteArray := prog_28_method_77_code
def yJ2_getChars_46870 : MethodName := ⟨RJ2, "getChars", "(III[B)I"⟩
abbrev cJ2_putCharsAt_cd4e5 : ByteArray := prog_28_method_81_code
def yJ2_putCharsAt_cd4e5 : MethodName := ⟨RJ2, "putCharsAt", "([BICCCC)I"⟩
abbrev cJ2_charAt_3b067 : ByteArray := prog_28_method_83_code
def yJ2_charAt_3b067 : MethodName := ⟨RJ2, "charAt", "([BI)C"⟩
abbrev cJ2_inflate_0e8fd : ByteArray := prog_28_method_86_code
def yJ2_inflate_0e8fd : MethodName := ⟨RJ2, "inflate", "([BI[BII)V"⟩
abbrev cJ2_getChars_ba4f3 : ByteArray := prog_28_method_89_code
def yJ2_getChars_ba4f3 : MethodName := ⟨RJ2, "getChars", "(II[B)I"⟩
abbrev cJ2_checkIndex_2214a : ByteArray := prog_28_method_91_code
def yJ2_checkIndex_2214a : MethodName := ⟨RJ2, "checkIndex", "(I[B)V"⟩
abbrev cJ2_checkBoundsBeginEnd_d044e : ByteArray := prog_28_method_93_code
def yJ2_checkBoundsBeginEnd_d044e : MethodName := ⟨RJ2, "checkBoundsBeginEnd", "(II[B)V"⟩
abbrev cJ2_checkBoundsOffCount_d044e : ByteArray := prog_28_method_94_code
def yJ2_checkBoundsOffCount_d044e : MethodName := ⟨RJ2, "checkBoundsOffCount", "(II[B)V"⟩
def RJ10 : String := "java/lang/System"
def TJ10 : u_T := fun k => match k with
  | _ => ("", "", "", false)
def tyJ10 : Nat → FieldType := fun k => match k with
  | _ => .int
theorem nmJ10 : ∀ a, a < 0 → ∀ b, b < 0 → a ≠ b → (TJ10 a).2.1 ≠ (TJ10 b).2.1 := by decide +kernel
theorem tyJ10_ok : ∀ k, k < 0 → parseFieldDescriptor (TJ10 k).2.2.1 = some (tyJ10 k) := by decide +kernel
def RJ7 : String := "java/util/Arrays"
def TJ7 : u_T := fun k => match k with
  | _ => ("", "", "", false)
def tyJ7 : Nat → FieldType := fun k => match k with
  | _ => .int
theorem nmJ7 : ∀ a, a < 0 → ∀ b, b < 0 → a ≠ b → (TJ7 a).2.1 ≠ (TJ7 b).2.1 := by decide +kernel
theorem tyJ7_ok : ∀ k, k < 0 → parseFieldDescriptor (TJ7 k).2.2.1 = some (tyJ7 k) := by decide +kernel
abbrev cJ7_copyOf_9075b : ByteArray := prog_31_method_121_code
def yJ7_copyOf_9075b : MethodName := ⟨RJ7, "copyOf", "([BI)[B"⟩
abbrev cJ7_checkLength_df160 : ByteArray := prog_31_method_131_code
def yJ7_checkLength_df160 : MethodName := ⟨RJ7, "checkLength", "(II)V"⟩
abbrev cJ7_copyOfRange_39247 : ByteArray := prog_31_method_132_code
def yJ7_copyOfRange_39247 : MethodName := ⟨RJ7, "copyOfRange", "([BII)[B"⟩
abbrev cJ7_copyOfRangeByte_39247 : ByteArray := prog_31_method_133_code
def yJ7_copyOfRangeByte_39247 : MethodName := ⟨RJ7, "copyOfRangeByte", "([BII)[B"⟩
def RJ8 : String := "jdk/internal/util/ArraysSupport"
def TJ8 : u_T := fun k => match k with
  | _ => ("", "", "", false)
def tyJ8 : Nat → FieldType := fun k => match k with
  | _ => .int
theorem nmJ8 : ∀ a, a < 0 → ∀ b, b < 0 → a ≠ b → (TJ8 a).2.1 ≠ (TJ8 b).2.1 := by decide +kernel
theorem tyJ8_ok : ∀ k, k < 0 → parseFieldDescriptor (TJ8 k).2.2.1 = some (tyJ8 k) := by decide +kernel
abbrev cJ8_newLength_cabcc : ByteArray := prog_32_method_27_code
def yJ8_newLength_cabcc : MethodName := ⟨RJ8, "newLength", "(III)I"⟩
abbrev cJ8_hugeLength_7cf53 : ByteArray := prog_32_method_28_code
def yJ8_hugeLength_7cf53 : MethodName := ⟨RJ8, "hugeLength", "(II)I"⟩
def RJ3 : String := "jdk/internal/util/Preconditions"
def TJ3 : u_T := fun k => match k with
  | _ => ("", "", "", false)
def tyJ3 : Nat → FieldType := fun k => match k with
  | _ => .int
theorem nmJ3 : ∀ a, a < 0 → ∀ b, b < 0 → a ≠ b → (TJ3 a).2.1 ≠ (TJ3 b).2.1 := by decide +kernel
theorem tyJ3_ok : ∀ k, k < 0 → parseFieldDescriptor (TJ3 k).2.2.1 = some (tyJ3 k) := by decide +kernel
abbrev cJ3_checkIndex_8e157 : ByteArray := prog_33_method_11_code
def yJ3_checkIndex_8e157 : MethodName := ⟨RJ3, "checkIndex", "(IILjava/util/function/BiFunction;)I"⟩
abbrev cJ3_checkFromToIndex_8c36e : ByteArray := prog_33_method_12_code
def yJ3_checkFromToIndex_8c36e : MethodName := ⟨RJ3, "checkFromToIndex", "(IIILjava/util/function/BiFunction;)I"⟩
abbrev cJ3_checkFromIndexSize_8c36e : ByteArray := prog_33_method_13_code
def yJ3_checkFromIndexSize_8c36e : MethodName := ⟨RJ3, "checkFromIndexSize", "(IIILjava/util/function/BiFunction;)I"⟩
def RL : String := "ShadowRegistryLaw"
abbrev cL_below : ByteArray := method_2_code
def yL_below : MethodName := ⟨RL, "below", "(II)I"⟩
abbrev cL_cell : ByteArray := method_3_code
def yL_cell : MethodName := ⟨RL, "cell", "([II)I"⟩
abbrev cL_taught : ByteArray := method_4_code
def yL_taught : MethodName := ⟨RL, "taught", "(LShadowRegistry;Ljava/lang/String;)I"⟩
abbrev cL_sum : ByteArray := method_5_code
def yL_sum : MethodName := ⟨RL, "sum", "(III)LShadowRegistryLaw$Tree;"⟩
abbrev cL_test : ByteArray := method_6_code
def yL_test : MethodName := ⟨RL, "test", "(III)LShadowRegistryLaw$Tree;"⟩
abbrev cL_told : ByteArray := method_7_code
def yL_told : MethodName := ⟨RL, "told", "([IILjava/lang/StringBuilder;)LShadowRegistryLaw$Sim;"⟩
abbrev cL_act : ByteArray := method_8_code
def yL_act : MethodName := ⟨RL, "act", "(LShadowRegistry;LShadowRegistryLaw$Sim;I)Z"⟩
abbrev cL_law : ByteArray := code
def yL_law : MethodName := ⟨RL, "law", "([I)Z"⟩
abbrev vwCl : List vw_C := [(RX0, TX0, 10), (RX2, TX2, 6), (RX3, TX3, 9), (RX4, TX4, 3), (RX5, TX5, 11), (RX6, TX6, 2), (RX7, TX7, 5), (RX8, TX8, 8), (RX9, TX9, 7), (RX10, TX10, 5), (RJ0, TJ0, 4), (RJ4, TJ4, 4)]
/-- the instruction at pc: its length, and where the next one stands -/
def dI (cc : ByteArray) (pc : Nat) (i : Instr) (n nx : Nat) : Prop := decode cc pc = .ok (i, n) ∧ pc + n = nx
