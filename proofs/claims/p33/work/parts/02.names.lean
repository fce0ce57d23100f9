def RX0 : String := "SpokenBite$Course"
def TX0 : u_T := fun k => match k with
  | 0 => ("SpokenBite$Course", "dinne\x72", "LSpokenBite$Dinner;", false)
  | 1 => ("SpokenBite$Course", "rule", "LSpokenBite$Rule;", false)
  | 2 => ("SpokenBite$Course", "words", "[J", true)
  | 3 => ("SpokenBite$Course", "stack", "[J", true)
  | 4 => ("SpokenBite$Course", "speaking", "I", false)
  | 5 => ("SpokenBite$Course", "saying", "I", false)
  | 6 => ("SpokenBite$Course", "loudness", "I", false)
  | _ => ("SpokenBite$Course", "still", "Z", false)
def tyX0 : Nat → FieldType := fun k => match k with
  | 0 => .object "SpokenBite$Dinne\x72"
  | 1 => .object "SpokenBite$Rule"
  | 2 => .array .long
  | 3 => .array .long
  | 4 => .int
  | 5 => .int
  | 6 => .int
  | _ => .boolean
theorem nmX0 : ∀ a, a < 8 → ∀ b, b < 8 → a ≠ b → (TX0 a).2.1 ≠ (TX0 b).2.1 := by decide +kernel
theorem tyX0_ok : ∀ k, k < 8 → parseFieldDescriptor (TX0 k).2.2.1 = some (tyX0 k) := by decide +kernel
abbrev cX0_init : ByteArray := prog_2_method_1_code
def yX0_init : MethodName := ⟨RX0, "<init>", "()V"⟩
abbrev cX0_lay : ByteArray := prog_2_method_2_code
def yX0_lay : MethodName := ⟨RX0, "lay", "(LSpokenBite$Dinner;LSpokenBite$Rule;)V"⟩
abbrev cX0_pass : ByteArray := prog_2_method_3_code
def yX0_pass : MethodName := ⟨RX0, "pass", "(LSpokenBite$Evening;)V"⟩
abbrev cX0_waitsForMinute : ByteArray := prog_2_method_4_code
def yX0_waitsForMinute : MethodName := ⟨RX0, "waitsForMinute", "(LSpokenBite$Evening;)Z"⟩
abbrev cX0_passEating : ByteArray := prog_2_method_5_code
def yX0_passEating : MethodName := ⟨RX0, "passEating", "(LSpokenBite$Evening;I)V"⟩
abbrev cX0_passSome : ByteArray := prog_2_method_6_code
def yX0_passSome : MethodName := ⟨RX0, "passSome", "(LSpokenBite$Evening;I)V"⟩
abbrev cX0_choice : ByteArray := prog_2_method_7_code
def yX0_choice : MethodName := ⟨RX0, "choice", "(LSpokenBite$Evening;)I"⟩
abbrev cX0_fillWords : ByteArray := prog_2_method_8_code
def yX0_fillWords : MethodName := ⟨RX0, "fillWords", "(LSpokenBite$Evening;)V"⟩
abbrev cX0_fillWordsOfDish : ByteArray := prog_2_method_9_code
def yX0_fillWordsOfDish : MethodName := ⟨RX0, "fillWordsOfDish", "(LSpokenBite$Evening;II)V"⟩
abbrev cX0_speak : ByteArray := prog_2_method_10_code
def yX0_speak : MethodName := ⟨RX0, "speak", "(LSpokenBite$Evening;)V"⟩
abbrev cX0_hear : ByteArray := prog_2_method_11_code
def yX0_hear : MethodName := ⟨RX0, "hea\x72", "(LSpokenBite$Evening;)V"⟩
abbrev cX0_fits : ByteArray := prog_2_method_12_code
def yX0_fits : MethodName := ⟨RX0, "fits", "(LSpokenBite$Evening;LSpokenBite$Notes;)Z"⟩
def RX1 : String := "SpokenBite$Dinne\x72"
def TX1 : u_T := fun k => match k with
  | 0 => ("SpokenBite$Dinne\x72", "deep", "I", false)
  | 1 => ("SpokenBite$Dinne\x72", "dishes", "I", false)
  | 2 => ("SpokenBite$Dinne\x72", "guests", "I", false)
  | 3 => ("SpokenBite$Dinne\x72", "loud", "[I", true)
  | 4 => ("SpokenBite$Dinne\x72", "says", "[I", true)
  | 5 => ("SpokenBite$Dinne\x72", "ears", "[I", true)
  | _ => ("SpokenBite$Dinne\x72", "clash", "[I", true)
def tyX1 : Nat → FieldType := fun k => match k with
  | 0 => .int
  | 1 => .int
  | 2 => .int
  | 3 => .array .int
  | 4 => .array .int
  | 5 => .array .int
  | _ => .array .int
theorem nmX1 : ∀ a, a < 7 → ∀ b, b < 7 → a ≠ b → (TX1 a).2.1 ≠ (TX1 b).2.1 := by decide +kernel
theorem tyX1_ok : ∀ k, k < 7 → parseFieldDescriptor (TX1 k).2.2.1 = some (tyX1 k) := by decide +kernel
abbrev cX1_init : ByteArray := prog_3_method_1_code
def yX1_init : MethodName := ⟨RX1, "<init>", "()V"⟩
abbrev cX1_clear : ByteArray := prog_3_method_2_code
def yX1_clear : MethodName := ⟨RX1, "clea\x72", "()V"⟩
abbrev cX1_take : ByteArray := prog_3_method_3_code
def yX1_take : MethodName := ⟨RX1, "take", "(LSpokenBite$Dinner;)V"⟩
abbrev cX1_addDish : ByteArray := prog_3_method_4_code
def yX1_addDish : MethodName := ⟨RX1, "addDish", "(II)V"⟩
abbrev cX1_addGuest : ByteArray := prog_3_method_5_code
def yX1_addGuest : MethodName := ⟨RX1, "addGuest", "(I)V"⟩
abbrev cX1_addClash : ByteArray := prog_3_method_6_code
def yX1_addClash : MethodName := ⟨RX1, "addClash", "(II)V"⟩
abbrev cX1_isTorn : ByteArray := prog_3_method_7_code
def yX1_isTorn : MethodName := ⟨RX1, "isTorn", "(I)Z"⟩
def RX2 : String := "SpokenBite$DinnerReade\x72"
def TX2 : u_T := fun k => match k with
  | _ => ("SpokenBite$DinnerReade\x72", "reade\x72", "LSpokenBite$Reader;", true)
def tyX2 : Nat → FieldType := fun k => match k with
  | _ => .object "SpokenBite$Reade\x72"
theorem nmX2 : ∀ a, a < 1 → ∀ b, b < 1 → a ≠ b → (TX2 a).2.1 ≠ (TX2 b).2.1 := by decide +kernel
theorem tyX2_ok : ∀ k, k < 1 → parseFieldDescriptor (TX2 k).2.2.1 = some (tyX2 k) := by decide +kernel
abbrev cX2_init : ByteArray := prog_4_method_1_code
def yX2_init : MethodName := ⟨RX2, "<init>", "()V"⟩
abbrev cX2_read : ByteArray := prog_4_method_2_code
def yX2_read : MethodName := ⟨RX2, "read", "([IILSpokenBite$Dinner;)I"⟩
abbrev cX2_mayStand : ByteArray := prog_4_method_3_code
def yX2_mayStand : MethodName := ⟨RX2, "mayStand", "(IILSpokenBite$Dinner;)Z"⟩
abbrev cX2_readNumbers : ByteArray := prog_4_method_4_code
def yX2_readNumbers : MethodName := ⟨RX2, "readNumbers", "(ILSpokenBite$Dinner;)V"⟩
abbrev cX2_nextNumber : ByteArray := prog_4_method_5_code
def yX2_nextNumber : MethodName := ⟨RX2, "nextNumbe\x72", "(III)I"⟩
def RX3 : String := "SpokenBite$Evening"
def TX3 : u_T := fun k => match k with
  | 0 => ("SpokenBite$Evening", "minute", "I", false)
  | 1 => ("SpokenBite$Evening", "offered", "I", false)
  | 2 => ("SpokenBite$Evening", "table", "I", false)
  | 3 => ("SpokenBite$Evening", "sitting", "I", false)
  | 4 => ("SpokenBite$Evening", "gullet", "I", false)
  | _ => ("SpokenBite$Evening", "knows", "J", false)
def tyX3 : Nat → FieldType := fun k => match k with
  | 0 => .int
  | 1 => .int
  | 2 => .int
  | 3 => .int
  | 4 => .int
  | _ => .long
theorem nmX3 : ∀ a, a < 6 → ∀ b, b < 6 → a ≠ b → (TX3 a).2.1 ≠ (TX3 b).2.1 := by decide +kernel
theorem tyX3_ok : ∀ k, k < 6 → parseFieldDescriptor (TX3 k).2.2.1 = some (tyX3 k) := by decide +kernel
abbrev cX3_init : ByteArray := prog_5_method_1_code
def yX3_init : MethodName := ⟨RX3, "<init>", "()V"⟩
abbrev cX3_begin : ByteArray := prog_5_method_2_code
def yX3_begin : MethodName := ⟨RX3, "begin", "(LSpokenBite$Dinner;)V"⟩
abbrev cX3_take : ByteArray := prog_5_method_3_code
def yX3_take : MethodName := ⟨RX3, "take", "(LSpokenBite$Evening;)V"⟩
abbrev cX3_onTable : ByteArray := prog_5_method_4_code
def yX3_onTable : MethodName := ⟨RX3, "onTable", "(I)Z"⟩
abbrev cX3_sits : ByteArray := prog_5_method_5_code
def yX3_sits : MethodName := ⟨RX3, "sits", "(I)Z"⟩
abbrev cX3_knownBy : ByteArray := prog_5_method_6_code
def yX3_knownBy : MethodName := ⟨RX3, "knownBy", "(I)I"⟩
abbrev cX3_knownByAny : ByteArray := prog_5_method_7_code
def yX3_knownByAny : MethodName := ⟨RX3, "knownByAny", "(I)I"⟩
abbrev cX3_learn : ByteArray := prog_5_method_8_code
def yX3_learn : MethodName := ⟨RX3, "learn", "(II)V"⟩
abbrev cX3_forget : ByteArray := prog_5_method_9_code
def yX3_forget : MethodName := ⟨RX3, "forget", "(I)V"⟩
abbrev cX3_dishIn : ByteArray := prog_5_method_10_code
def yX3_dishIn : MethodName := ⟨RX3, "dishIn", "(I)I"⟩
abbrev cX3_placeOf : ByteArray := prog_5_method_11_code
def yX3_placeOf : MethodName := ⟨RX3, "placeOf", "(I)I"⟩
abbrev cX3_dishesInThroat : ByteArray := prog_5_method_12_code
def yX3_dishesInThroat : MethodName := ⟨RX3, "dishesInThroat", "()I"⟩
abbrev cX3_topDish : ByteArray := prog_5_method_13_code
def yX3_topDish : MethodName := ⟨RX3, "topDish", "()I"⟩
abbrev cX3_leaveOut : ByteArray := prog_5_method_14_code
def yX3_leaveOut : MethodName := ⟨RX3, "leaveOut", "(I)V"⟩
abbrev cX3_bringUp : ByteArray := prog_5_method_15_code
def yX3_bringUp : MethodName := ⟨RX3, "bringUp", "(I)V"⟩
abbrev cX3_knownBySitting : ByteArray := prog_5_method_16_code
def yX3_knownBySitting : MethodName := ⟨RX3, "knownBySitting", "()I"⟩
def RX4 : String := "SpokenBite$Image"
def TX4 : u_T := fun k => match k with
  | 0 => ("SpokenBite$Image", "made", "Z", false)
  | 1 => ("SpokenBite$Image", "told", "LSpokenBite$Dinner;", true)
  | 2 => ("SpokenBite$Image", "evening", "LSpokenBite$Evening;", true)
  | 3 => ("SpokenBite$Image", "notes", "LSpokenBite$Notes;", true)
  | 4 => ("SpokenBite$Image", "inForce", "I", false)
  | _ => ("SpokenBite$Image", "x", "I", false)
def tyX4 : Nat → FieldType := fun k => match k with
  | 0 => .boolean
  | 1 => .object "SpokenBite$Dinne\x72"
  | 2 => .object "SpokenBite$Evening"
  | 3 => .object "SpokenBite$Notes"
  | 4 => .int
  | _ => .int
theorem nmX4 : ∀ a, a < 6 → ∀ b, b < 6 → a ≠ b → (TX4 a).2.1 ≠ (TX4 b).2.1 := by decide +kernel
theorem tyX4_ok : ∀ k, k < 6 → parseFieldDescriptor (TX4 k).2.2.1 = some (tyX4 k) := by decide +kernel
abbrev cX4_init : ByteArray := prog_6_method_1_code
def yX4_init : MethodName := ⟨RX4, "<init>", "()V"⟩
def RX5 : String := "SpokenBite$Notes"
def TX5 : u_T := fun k => match k with
  | 0 => ("SpokenBite$Notes", "kept", "I", false)
  | 1 => ("SpokenBite$Notes", "when", "[I", true)
  | 2 => ("SpokenBite$Notes", "who", "[I", true)
  | 3 => ("SpokenBite$Notes", "secret", "[I", true)
  | _ => ("SpokenBite$Notes", "knew", "[I", true)
def tyX5 : Nat → FieldType := fun k => match k with
  | 0 => .int
  | 1 => .array .int
  | 2 => .array .int
  | 3 => .array .int
  | _ => .array .int
theorem nmX5 : ∀ a, a < 5 → ∀ b, b < 5 → a ≠ b → (TX5 a).2.1 ≠ (TX5 b).2.1 := by decide +kernel
theorem tyX5_ok : ∀ k, k < 5 → parseFieldDescriptor (TX5 k).2.2.1 = some (tyX5 k) := by decide +kernel
abbrev cX5_init : ByteArray := prog_7_method_1_code
def yX5_init : MethodName := ⟨RX5, "<init>", "()V"⟩
abbrev cX5_clear : ByteArray := prog_7_method_2_code
def yX5_clear : MethodName := ⟨RX5, "clea\x72", "()V"⟩
abbrev cX5_add : ByteArray := prog_7_method_3_code
def yX5_add : MethodName := ⟨RX5, "add", "(IIII)Z"⟩
abbrev cX5_take : ByteArray := prog_7_method_4_code
def yX5_take : MethodName := ⟨RX5, "take", "(LSpokenBite$Notes;)V"⟩
abbrev cX5_last : ByteArray := prog_7_method_5_code
def yX5_last : MethodName := ⟨RX5, "last", "()I"⟩
abbrev cX5_hold : ByteArray := prog_7_method_6_code
def yX5_hold : MethodName := ⟨RX5, "hold", "(LSpokenBite$Evening;II)Z"⟩
def RX6 : String := "SpokenBite$Past"
def TX6 : u_T := fun k => match k with
  | 0 => ("SpokenBite$Past", "ring", "[LSpokenBite$Evening;", true)
  | 1 => ("SpokenBite$Past", "next", "I", false)
  | _ => ("SpokenBite$Past", "kept", "I", false)
def tyX6 : Nat → FieldType := fun k => match k with
  | 0 => .array (.object "SpokenBite$Evening")
  | 1 => .int
  | _ => .int
theorem nmX6 : ∀ a, a < 3 → ∀ b, b < 3 → a ≠ b → (TX6 a).2.1 ≠ (TX6 b).2.1 := by decide +kernel
theorem tyX6_ok : ∀ k, k < 3 → parseFieldDescriptor (TX6 k).2.2.1 = some (tyX6 k) := by decide +kernel
abbrev cX6_init : ByteArray := prog_8_method_1_code
def yX6_init : MethodName := ⟨RX6, "<init>", "()V"⟩
abbrev cX6_clear : ByteArray := prog_8_method_2_code
def yX6_clear : MethodName := ⟨RX6, "clea\x72", "()V"⟩
abbrev cX6_slot : ByteArray := prog_8_method_3_code
def yX6_slot : MethodName := ⟨RX6, "slot", "(I)LSpokenBite$Evening;"⟩
abbrev cX6_keep : ByteArray := prog_8_method_4_code
def yX6_keep : MethodName := ⟨RX6, "keep", "(LSpokenBite$Evening;)V"⟩
abbrev cX6_giveBack : ByteArray := prog_8_method_5_code
def yX6_giveBack : MethodName := ⟨RX6, "giveBack", "(LSpokenBite$Evening;)Z"⟩
def RX7 : String := "SpokenBite$Reade\x72"
def TX7 : u_T := fun k => match k with
  | 0 => ("SpokenBite$Reade\x72", "text", "[I", false)
  | 1 => ("SpokenBite$Reade\x72", "length", "I", false)
  | 2 => ("SpokenBite$Reade\x72", "place", "I", false)
  | _ => ("SpokenBite$Reade\x72", "fault", "I", false)
def tyX7 : Nat → FieldType := fun k => match k with
  | 0 => .array .int
  | 1 => .int
  | 2 => .int
  | _ => .int
theorem nmX7 : ∀ a, a < 4 → ∀ b, b < 4 → a ≠ b → (TX7 a).2.1 ≠ (TX7 b).2.1 := by decide +kernel
theorem tyX7_ok : ∀ k, k < 4 → parseFieldDescriptor (TX7 k).2.2.1 = some (tyX7 k) := by decide +kernel
abbrev cX7_init : ByteArray := prog_9_method_1_code
def yX7_init : MethodName := ⟨RX7, "<init>", "()V"⟩
abbrev cX7_open : ByteArray := prog_9_method_2_code
def yX7_open : MethodName := ⟨RX7, "open", "([II)V"⟩
abbrev cX7_byteAt : ByteArray := prog_9_method_3_code
def yX7_byteAt : MethodName := ⟨RX7, "byteAt", "(I)I"⟩
abbrev cX7_blame : ByteArray := prog_9_method_4_code
def yX7_blame : MethodName := ⟨RX7, "blame", "(II)V"⟩
abbrev cX7_sign : ByteArray := prog_9_method_5_code
def yX7_sign : MethodName := ⟨RX7, "sign", "()I"⟩
abbrev cX7_takes : ByteArray := prog_9_method_6_code
def yX7_takes : MethodName := ⟨RX7, "takes", "(I)Z"⟩
abbrev cX7_wordAmong : ByteArray := prog_9_method_7_code
def yX7_wordAmong : MethodName := ⟨RX7, "wordAmong", "(Ljava/lang/String;)I"⟩
abbrev cX7_skipWord : ByteArray := prog_9_method_8_code
def yX7_skipWord : MethodName := ⟨RX7, "skipWord", "()V"⟩
abbrev cX7_isLetter : ByteArray := prog_9_method_9_code
def yX7_isLetter : MethodName := ⟨RX7, "isLette\x72", "(I)Z"⟩
abbrev cX7_isDigit : ByteArray := prog_9_method_10_code
def yX7_isDigit : MethodName := ⟨RX7, "isDigit", "(I)Z"⟩
abbrev cX7_number : ByteArray := prog_9_method_11_code
def yX7_number : MethodName := ⟨RX7, "numbe\x72", "(III)I"⟩
abbrev cX7_goesOn : ByteArray := prog_9_method_12_code
def yX7_goesOn : MethodName := ⟨RX7, "goesOn", "()Z"⟩
def RX8 : String := "SpokenBite$RowSearch"
def TX8 : u_T := fun k => match k with
  | 0 => ("SpokenBite$RowSearch", "steps", "[LSpokenBite$Evening;", true)
  | 1 => ("SpokenBite$RowSearch", "row", "[I", true)
  | 2 => ("SpokenBite$RowSearch", "first", "[I", true)
  | 3 => ("SpokenBite$RowSearch", "aim", "I", false)
  | 4 => ("SpokenBite$RowSearch", "length", "I", false)
  | 5 => ("SpokenBite$RowSearch", "best", "I", false)
  | _ => ("SpokenBite$RowSearch", "found", "I", false)
def tyX8 : Nat → FieldType := fun k => match k with
  | 0 => .array (.object "SpokenBite$Evening")
  | 1 => .array .int
  | 2 => .array .int
  | 3 => .int
  | 4 => .int
  | 5 => .int
  | _ => .int
theorem nmX8 : ∀ a, a < 7 → ∀ b, b < 7 → a ≠ b → (TX8 a).2.1 ≠ (TX8 b).2.1 := by decide +kernel
theorem tyX8_ok : ∀ k, k < 7 → parseFieldDescriptor (TX8 k).2.2.1 = some (tyX8 k) := by decide +kernel
abbrev cX8_init : ByteArray := prog_10_method_1_code
def yX8_init : MethodName := ⟨RX8, "<init>", "()V"⟩
abbrev cX8_prepare : ByteArray := prog_10_method_2_code
def yX8_prepare : MethodName := ⟨RX8, "prepare", "(IILSpokenBite$Evening;)V"⟩
abbrev cX8_stepAt : ByteArray := prog_10_method_3_code
def yX8_stepAt : MethodName := ⟨RX8, "stepAt", "(I)LSpokenBite$Evening;"⟩
abbrev cX8_amount : ByteArray := prog_10_method_4_code
def yX8_amount : MethodName := ⟨RX8, "amount", "()I"⟩
abbrev cX8_dishOfFirst : ByteArray := prog_10_method_5_code
def yX8_dishOfFirst : MethodName := ⟨RX8, "dishOfFirst", "(I)I"⟩
abbrev cX8_go : ByteArray := prog_10_method_6_code
def yX8_go : MethodName := ⟨RX8, "go", "(ILSpokenBite$Course;LSpokenBite$Notes;)V"⟩
abbrev cX8_mayEatNone : ByteArray := prog_10_method_7_code
def yX8_mayEatNone : MethodName := ⟨RX8, "mayEatNone", "(LSpokenBite$Evening;)Z"⟩
abbrev cX8_weigh : ByteArray := prog_10_method_8_code
def yX8_weigh : MethodName := ⟨RX8, "weigh", "(LSpokenBite$Evening;)V"⟩
abbrev cX8_worthOf : ByteArray := prog_10_method_9_code
def yX8_worthOf : MethodName := ⟨RX8, "worthOf", "(LSpokenBite$Evening;)I"⟩
def RX9 : String := "SpokenBite$Rule"
def TX9 : u_T := fun k => match k with
  | 0 => ("SpokenBite$Rule", "code", "[I", true)
  | 1 => ("SpokenBite$Rule", "steps", "I", false)
  | _ => ("SpokenBite$Rule", "asksMinute", "Z", false)
def tyX9 : Nat → FieldType := fun k => match k with
  | 0 => .array .int
  | 1 => .int
  | _ => .boolean
theorem nmX9 : ∀ a, a < 3 → ∀ b, b < 3 → a ≠ b → (TX9 a).2.1 ≠ (TX9 b).2.1 := by decide +kernel
theorem tyX9_ok : ∀ k, k < 3 → parseFieldDescriptor (TX9 k).2.2.1 = some (tyX9 k) := by decide +kernel
abbrev cX9_init : ByteArray := prog_11_method_1_code
def yX9_init : MethodName := ⟨RX9, "<init>", "()V"⟩
abbrev cX9_clear : ByteArray := prog_11_method_2_code
def yX9_clear : MethodName := ⟨RX9, "clea\x72", "()V"⟩
abbrev cX9_put : ByteArray := prog_11_method_3_code
def yX9_put : MethodName := ⟨RX9, "put", "(I)V"⟩
abbrev cX9_worth : ByteArray := prog_11_method_4_code
def yX9_worth : MethodName := ⟨RX9, "worth", "([J[J)J"⟩
abbrev cX9_joined : ByteArray := prog_11_method_5_code
def yX9_joined : MethodName := ⟨RX9, "joined", "(IJJ)J"⟩
def RX10 : String := "SpokenBite$RuleReade\x72"
def TX10 : u_T := fun k => match k with
  | 0 => ("SpokenBite$RuleReade\x72", "reade\x72", "LSpokenBite$Reader;", true)
  | 1 => ("SpokenBite$RuleReade\x72", "rule", "LSpokenBite$Rule;", false)
  | _ => ("SpokenBite$RuleReade\x72", "values", "I", false)
def tyX10 : Nat → FieldType := fun k => match k with
  | 0 => .object "SpokenBite$Reade\x72"
  | 1 => .object "SpokenBite$Rule"
  | _ => .int
theorem nmX10 : ∀ a, a < 3 → ∀ b, b < 3 → a ≠ b → (TX10 a).2.1 ≠ (TX10 b).2.1 := by decide +kernel
theorem tyX10_ok : ∀ k, k < 3 → parseFieldDescriptor (TX10 k).2.2.1 = some (tyX10 k) := by decide +kernel
abbrev cX10_init : ByteArray := prog_12_method_1_code
def yX10_init : MethodName := ⟨RX10, "<init>", "()V"⟩
abbrev cX10_read : ByteArray := prog_12_method_2_code
def yX10_read : MethodName := ⟨RX10, "read", "([IILSpokenBite$Rule;)I"⟩
abbrev cX10_readTest : ByteArray := prog_12_method_3_code
def yX10_readTest : MethodName := ⟨RX10, "readTest", "(I)V"⟩
abbrev cX10_readFact : ByteArray := prog_12_method_4_code
def yX10_readFact : MethodName := ⟨RX10, "readFact", "(I)V"⟩
abbrev cX10_closeBracket : ByteArray := prog_12_method_5_code
def yX10_closeBracket : MethodName := ⟨RX10, "closeBracket", "()V"⟩
abbrev cX10_readSign : ByteArray := prog_12_method_6_code
def yX10_readSign : MethodName := ⟨RX10, "readSign", "()I"⟩
abbrev cX10_readSum : ByteArray := prog_12_method_7_code
def yX10_readSum : MethodName := ⟨RX10, "readSum", "()V"⟩
abbrev cX10_stepOf : ByteArray := prog_12_method_8_code
def yX10_stepOf : MethodName := ⟨RX10, "stepOf", "(I)I"⟩
abbrev cX10_readValue : ByteArray := prog_12_method_9_code
def yX10_readValue : MethodName := ⟨RX10, "readValue", "()V"⟩
abbrev cX10_countValue : ByteArray := prog_12_method_10_code
def yX10_countValue : MethodName := ⟨RX10, "countValue", "(I)V"⟩
def RX11 : String := "SpokenBite"
def TX11 : u_T := fun k => match k with
  | 0 => ("SpokenBite", "tape", "[I", true)
  | 1 => ("SpokenBite", "taped", "I", false)
  | 2 => ("SpokenBite", "dinnerReade\x72", "LSpokenBite$DinnerReader;", true)
  | 3 => ("SpokenBite", "ruleReade\x72", "LSpokenBite$RuleReader;", true)
  | 4 => ("SpokenBite", "rules", "[LSpokenBite$Rule;", true)
  | 5 => ("SpokenBite", "ruleCount", "I", false)
  | 6 => ("SpokenBite", "inForce", "I", false)
  | 7 => ("SpokenBite", "told", "LSpokenBite$Dinner;", true)
  | 8 => ("SpokenBite", "draft", "LSpokenBite$Dinner;", true)
  | 9 => ("SpokenBite", "now", "LSpokenBite$Evening;", true)
  | 10 => ("SpokenBite", "trial", "LSpokenBite$Evening;", true)
  | 11 => ("SpokenBite", "notes", "LSpokenBite$Notes;", true)
  | 12 => ("SpokenBite", "past", "LSpokenBite$Past;", true)
  | 13 => ("SpokenBite", "images", "[LSpokenBite$Image;", true)
  | 14 => ("SpokenBite", "course", "LSpokenBite$Course;", true)
  | 15 => ("SpokenBite", "search", "LSpokenBite$RowSearch;", true)
  | 16 => ("SpokenBite", "gains", "[I", true)
  | 17 => ("SpokenBite", "parted", "[J", true)
  | _ => ("SpokenBite", "x", "I", false)
def tyX11 : Nat → FieldType := fun k => match k with
  | 0 => .array .int
  | 1 => .int
  | 2 => .object "SpokenBite$DinnerReade\x72"
  | 3 => .object "SpokenBite$RuleReade\x72"
  | 4 => .array (.object "SpokenBite$Rule")
  | 5 => .int
  | 6 => .int
  | 7 => .object "SpokenBite$Dinne\x72"
  | 8 => .object "SpokenBite$Dinne\x72"
  | 9 => .object "SpokenBite$Evening"
  | 10 => .object "SpokenBite$Evening"
  | 11 => .object "SpokenBite$Notes"
  | 12 => .object "SpokenBite$Past"
  | 13 => .array (.object "SpokenBite$Image")
  | 14 => .object "SpokenBite$Course"
  | 15 => .object "SpokenBite$RowSearch"
  | 16 => .array .int
  | 17 => .array .long
  | _ => .int
theorem nmX11 : ∀ a, a < 19 → ∀ b, b < 19 → a ≠ b → (TX11 a).2.1 ≠ (TX11 b).2.1 := by decide +kernel
theorem tyX11_ok : ∀ k, k < 19 → parseFieldDescriptor (TX11 k).2.2.1 = some (tyX11 k) := by decide +kernel
abbrev cX11_init : ByteArray := prog_1_method_1_code
def yX11_init : MethodName := ⟨RX11, "<init>", "()V"⟩
abbrev cX11_feed : ByteArray := prog_1_method_2_code
def yX11_feed : MethodName := ⟨RX11, "feed", "(IIIII)I"⟩
abbrev cX11_addBytes : ByteArray := prog_1_method_3_code
def yX11_addBytes : MethodName := ⟨RX11, "addBytes", "(I)V"⟩
abbrev cX11_end : ByteArray := prog_1_method_4_code
def yX11_end : MethodName := ⟨RX11, "end", "(I)I"⟩
abbrev cX11_dinner : ByteArray := prog_1_method_5_code
def yX11_dinner : MethodName := ⟨RX11, "dinne\x72", "()I"⟩
abbrev cX11_rule : ByteArray := prog_1_method_6_code
def yX11_rule : MethodName := ⟨RX11, "rule", "()I"⟩
abbrev cX11_ruleAt : ByteArray := prog_1_method_7_code
def yX11_ruleAt : MethodName := ⟨RX11, "ruleAt", "(I)LSpokenBite$Rule;"⟩
abbrev cX11_force : ByteArray := prog_1_method_8_code
def yX11_force : MethodName := ⟨RX11, "force", "(I)I"⟩
abbrev cX11_untold : ByteArray := prog_1_method_9_code
def yX11_untold : MethodName := ⟨RX11, "untold", "()Z"⟩
abbrev cX11_isDish : ByteArray := prog_1_method_10_code
def yX11_isDish : MethodName := ⟨RX11, "isDish", "(I)Z"⟩
abbrev cX11_isGuest : ByteArray := prog_1_method_11_code
def yX11_isGuest : MethodName := ⟨RX11, "isGuest", "(I)Z"⟩
abbrev cX11_isSecret : ByteArray := prog_1_method_12_code
def yX11_isSecret : MethodName := ⟨RX11, "isSecret", "(I)Z"⟩
abbrev cX11_within : ByteArray := prog_1_method_13_code
def yX11_within : MethodName := ⟨RX11, "within", "(III)Z"⟩
abbrev cX11_dish : ByteArray := prog_1_method_14_code
def yX11_dish : MethodName := ⟨RX11, "dish", "(II)I"⟩
abbrev cX11_guest : ByteArray := prog_1_method_15_code
def yX11_guest : MethodName := ⟨RX11, "guest", "(II)I"⟩
abbrev cX11_clashes : ByteArray := prog_1_method_16_code
def yX11_clashes : MethodName := ⟨RX11, "clashes", "(I)I"⟩
abbrev cX11_throat : ByteArray := prog_1_method_17_code
def yX11_throat : MethodName := ⟨RX11, "throat", "(I)I"⟩
abbrev cX11_minute : ByteArray := prog_1_method_18_code
def yX11_minute : MethodName := ⟨RX11, "minute", "()I"⟩
abbrev cX11_offer : ByteArray := prog_1_method_19_code
def yX11_offer : MethodName := ⟨RX11, "offe\x72", "(I)I"⟩
abbrev cX11_serve : ByteArray := prog_1_method_20_code
def yX11_serve : MethodName := ⟨RX11, "serve", "(I)I"⟩
abbrev cX11_fetch : ByteArray := prog_1_method_21_code
def yX11_fetch : MethodName := ⟨RX11, "fetch", "(I)I"⟩
abbrev cX11_tell : ByteArray := prog_1_method_22_code
def yX11_tell : MethodName := ⟨RX11, "tell", "(II)I"⟩
abbrev cX11_undo : ByteArray := prog_1_method_23_code
def yX11_undo : MethodName := ⟨RX11, "undo", "()I"⟩
abbrev cX11_layNow : ByteArray := prog_1_method_24_code
def yX11_layNow : MethodName := ⟨RX11, "layNow", "()V"⟩
abbrev cX11_startTrial : ByteArray := prog_1_method_25_code
def yX11_startTrial : MethodName := ⟨RX11, "startTrial", "()V"⟩
abbrev cX11_ahead : ByteArray := prog_1_method_26_code
def yX11_ahead : MethodName := ⟨RX11, "ahead", "(III)I"⟩
abbrev cX11_said : ByteArray := prog_1_method_27_code
def yX11_said : MethodName := ⟨RX11, "said", "(I)I"⟩
abbrev cX11_quiet : ByteArray := prog_1_method_28_code
def yX11_quiet : MethodName := ⟨RX11, "quiet", "()I"⟩
abbrev cX11_knowing : ByteArray := prog_1_method_29_code
def yX11_knowing : MethodName := ⟨RX11, "knowing", "(I)I"⟩
abbrev cX11_bestRow : ByteArray := prog_1_method_30_code
def yX11_bestRow : MethodName := ⟨RX11, "bestRow", "(II)I"⟩
abbrev cX11_hush : ByteArray := prog_1_method_31_code
def yX11_hush : MethodName := ⟨RX11, "hush", "(II)I"⟩
abbrev cX11_bestOfRows : ByteArray := prog_1_method_32_code
def yX11_bestOfRows : MethodName := ⟨RX11, "bestOfRows", "(III)I"⟩
abbrev cX11_rows : ByteArray := prog_1_method_33_code
def yX11_rows : MethodName := ⟨RX11, "rows", "(I)I"⟩
abbrev cX11_believed : ByteArray := prog_1_method_34_code
def yX11_believed : MethodName := ⟨RX11, "believed", "(I)I"⟩
abbrev cX11_dropped : ByteArray := prog_1_method_35_code
def yX11_dropped : MethodName := ⟨RX11, "dropped", "(I)I"⟩
abbrev cX11_leftOut : ByteArray := prog_1_method_36_code
def yX11_leftOut : MethodName := ⟨RX11, "leftOut", "(II)I"⟩
abbrev cX11_rests : ByteArray := prog_1_method_37_code
def yX11_rests : MethodName := ⟨RX11, "rests", "(IIII)I"⟩
abbrev cX11_fillGains : ByteArray := prog_1_method_38_code
def yX11_fillGains : MethodName := ⟨RX11, "fillGains", "(III)V"⟩
abbrev cX11_gainOf : ByteArray := prog_1_method_39_code
def yX11_gainOf : MethodName := ⟨RX11, "gainOf", "(I)I"⟩
abbrev cX11_isRest : ByteArray := prog_1_method_40_code
def yX11_isRest : MethodName := ⟨RX11, "isRest", "(II)Z"⟩
abbrev cX11_gainAt : ByteArray := prog_1_method_41_code
def yX11_gainAt : MethodName := ⟨RX11, "gainAt", "(III)I"⟩
abbrev cX11_crumbs : ByteArray := prog_1_method_42_code
def yX11_crumbs : MethodName := ⟨RX11, "crumbs", "(II)I"⟩
abbrev cX11_shareOf : ByteArray := prog_1_method_43_code
def yX11_shareOf : MethodName := ⟨RX11, "shareOf", "(II)I"⟩
abbrev cX11_loudest : ByteArray := prog_1_method_44_code
def yX11_loudest : MethodName := ⟨RX11, "loudest", "(II)I"⟩
abbrev cX11_note : ByteArray := prog_1_method_45_code
def yX11_note : MethodName := ⟨RX11, "note", "(IIII)I"⟩
abbrev cX11_fitsNotes : ByteArray := prog_1_method_46_code
def yX11_fitsNotes : MethodName := ⟨RX11, "fitsNotes", "(I)Z"⟩
abbrev cX11_ruled : ByteArray := prog_1_method_47_code
def yX11_ruled : MethodName := ⟨RX11, "ruled", "(I)I"⟩
abbrev cX11_look : ByteArray := prog_1_method_48_code
def yX11_look : MethodName := ⟨RX11, "look", "(II)I"⟩
abbrev cX11_gatherFitting : ByteArray := prog_1_method_49_code
def yX11_gatherFitting : MethodName := ⟨RX11, "gatherFitting", "(I)I"⟩
abbrev cX11_mostAlike : ByteArray := prog_1_method_50_code
def yX11_mostAlike : MethodName := ⟨RX11, "mostAlike", "(II)I"⟩
abbrev cX11_seed : ByteArray := prog_1_method_51_code
def yX11_seed : MethodName := ⟨RX11, "seed", "(I)I"⟩
abbrev cX11_hiccups : ByteArray := prog_1_method_52_code
def yX11_hiccups : MethodName := ⟨RX11, "hiccups", "(IIII)I"⟩
abbrev cX11_hiccupTrial : ByteArray := prog_1_method_53_code
def yX11_hiccupTrial : MethodName := ⟨RX11, "hiccupTrial", "(III)I"⟩
abbrev cX11_nextDrawn : ByteArray := prog_1_method_54_code
def yX11_nextDrawn : MethodName := ⟨RX11, "nextDrawn", "(I)I"⟩
abbrev cX11_count : ByteArray := prog_1_method_55_code
def yX11_count : MethodName := ⟨RX11, "count", "(I)I"⟩
abbrev cX11_imageAt : ByteArray := prog_1_method_56_code
def yX11_imageAt : MethodName := ⟨RX11, "imageAt", "(I)LSpokenBite$Image;"⟩
abbrev cX11_image : ByteArray := prog_1_method_57_code
def yX11_image : MethodName := ⟨RX11, "image", "(I)I"⟩
abbrev cX11_back : ByteArray := prog_1_method_58_code
def yX11_back : MethodName := ⟨RX11, "back", "(I)I"⟩
def RX12 : String := "SpokenBiteModel"
def TX12 : u_T := fun k => match k with
  | 0 => ("SpokenBiteModel", "tape", "[B", true)
  | 1 => ("SpokenBiteModel", "taped", "I", false)
  | 2 => ("SpokenBiteModel", "rules", "I", false)
  | 3 => ("SpokenBiteModel", "sign", "[I", true)
  | 4 => ("SpokenBiteModel", "length", "[I", true)
  | 5 => ("SpokenBiteModel", "clause", "[I", true)
  | 6 => ("SpokenBiteModel", "clauses", "[I", true)
  | 7 => ("SpokenBiteModel", "read", "[I", true)
  | 8 => ("SpokenBiteModel", "next", "I", false)
  | 9 => ("SpokenBiteModel", "wrong", "I", false)
  | 10 => ("SpokenBiteModel", "numbe\x72", "I", false)
  | 11 => ("SpokenBiteModel", "text", "I", false)
  | 12 => ("SpokenBiteModel", "made", "I", false)
  | 13 => ("SpokenBiteModel", "deep", "I", false)
  | 14 => ("SpokenBiteModel", "lines", "I", false)
  | 15 => ("SpokenBiteModel", "open", "[I", true)
  | 16 => ("SpokenBiteModel", "opened", "I", false)
  | 17 => ("SpokenBiteModel", "stack", "[J", true)
  | 18 => ("SpokenBiteModel", "top", "I", false)
  | 19 => ("SpokenBiteModel", "word", "[J", true)
  | 20 => ("SpokenBiteModel", "told", "[I", true)
  | 21 => ("SpokenBiteModel", "force", "I", false)
  | 22 => ("SpokenBiteModel", "x", "I", false)
  | 23 => ("SpokenBiteModel", "planned", "I", false)
  | 24 => ("SpokenBiteModel", "isPlanned", "Z", false)
  | 25 => ("SpokenBiteModel", "sounds", "I", false)
  | 26 => ("SpokenBiteModel", "spoken", "I", false)
  | 27 => ("SpokenBiteModel", "wasTold", "[I", true)
  | 28 => ("SpokenBiteModel", "undone", "I", false)
  | 29 => ("SpokenBiteModel", "kept", "[I", true)
  | 30 => ("SpokenBiteModel", "row", "[I", true)
  | 31 => ("SpokenBiteModel", "bestRowSoFa\x72", "[I", true)
  | 32 => ("SpokenBiteModel", "bestSits", "I", false)
  | 33 => ("SpokenBiteModel", "bestKnown", "I", false)
  | 34 => ("SpokenBiteModel", "bestOut", "I", false)
  | 35 => ("SpokenBiteModel", "hasBy", "[I", true)
  | 36 => ("SpokenBiteModel", "isFit", "[Z", true)
  | 37 => ("SpokenBiteModel", "knowThen", "[I", true)
  | 38 => ("SpokenBiteModel", "drawX", "J", false)
  | 39 => ("SpokenBiteModel", "images", "[I", true)
  | 40 => ("SpokenBiteModel", "imageForce", "[I", true)
  | 41 => ("SpokenBiteModel", "imageX", "[I", true)
  | _ => ("SpokenBiteModel", "isMade", "[Z", true)
def tyX12 : Nat → FieldType := fun k => match k with
  | 0 => .array .byte
  | 1 => .int
  | 2 => .int
  | 3 => .array .int
  | 4 => .array .int
  | 5 => .array .int
  | 6 => .array .int
  | 7 => .array .int
  | 8 => .int
  | 9 => .int
  | 10 => .int
  | 11 => .int
  | 12 => .int
  | 13 => .int
  | 14 => .int
  | 15 => .array .int
  | 16 => .int
  | 17 => .array .long
  | 18 => .int
  | 19 => .array .long
  | 20 => .array .int
  | 21 => .int
  | 22 => .int
  | 23 => .int
  | 24 => .boolean
  | 25 => .int
  | 26 => .int
  | 27 => .array .int
  | 28 => .int
  | 29 => .array .int
  | 30 => .array .int
  | 31 => .array .int
  | 32 => .int
  | 33 => .int
  | 34 => .int
  | 35 => .array .int
  | 36 => .array .boolean
  | 37 => .array .int
  | 38 => .long
  | 39 => .array .int
  | 40 => .array .int
  | 41 => .array .int
  | _ => .array .boolean
theorem nmX12 : ∀ a, a < 43 → ∀ b, b < 43 → a ≠ b → (TX12 a).2.1 ≠ (TX12 b).2.1 := by decide +kernel
theorem tyX12_ok : ∀ k, k < 43 → parseFieldDescriptor (TX12 k).2.2.1 = some (tyX12 k) := by decide +kernel
abbrev cX12_init : ByteArray := prog_14_method_1_code
def yX12_init : MethodName := ⟨RX12, "<init>", "()V"⟩
abbrev cX12_in : ByteArray := prog_14_method_2_code
def yX12_in : MethodName := ⟨RX12, "in", "(JJJ)Z"⟩
abbrev cX12_isOf : ByteArray := prog_14_method_3_code
def yX12_isOf : MethodName := ⟨RX12, "isOf", "(II)Z"⟩
abbrev cX12_bits : ByteArray := prog_14_method_4_code
def yX12_bits : MethodName := ⟨RX12, "bits", "(I)I"⟩
abbrev cX12_four : ByteArray := prog_14_method_5_code
def yX12_four : MethodName := ⟨RX12, "fou\x72", "(I)V"⟩
abbrev cX12_feed : ByteArray := prog_14_method_6_code
def yX12_feed : MethodName := ⟨RX12, "feed", "(IIIII)I"⟩
abbrev cX12_end : ByteArray := prog_14_method_7_code
def yX12_end : MethodName := ⟨RX12, "end", "(I)I"⟩
abbrev cX12_fails : ByteArray := prog_14_method_8_code
def yX12_fails : MethodName := ⟨RX12, "fails", "(II)Z"⟩
abbrev cX12_see : ByteArray := prog_14_method_9_code
def yX12_see : MethodName := ⟨RX12, "see", "()I"⟩
abbrev cX12_isDigit : ByteArray := prog_14_method_10_code
def yX12_isDigit : MethodName := ⟨RX12, "isDigit", "(I)Z"⟩
abbrev cX12_isLetter : ByteArray := prog_14_method_11_code
def yX12_isLetter : MethodName := ⟨RX12, "isLette\x72", "(I)Z"⟩
abbrev cX12_isWord : ByteArray := prog_14_method_12_code
def yX12_isWord : MethodName := ⟨RX12, "isWord", "(J)Z"⟩
abbrev cX12_passWord : ByteArray := prog_14_method_13_code
def yX12_passWord : MethodName := ⟨RX12, "passWord", "()V"⟩
abbrev cX12_takesWord : ByteArray := prog_14_method_14_code
def yX12_takesWord : MethodName := ⟨RX12, "takesWord", "(J)Z"⟩
abbrev cX12_numberHere : ByteArray := prog_14_method_15_code
def yX12_numberHere : MethodName := ⟨RX12, "numberHere", "(II)Z"⟩
abbrev cX12_wordHere : ByteArray := prog_14_method_16_code
def yX12_wordHere : MethodName := ⟨RX12, "wordHere", "()I"⟩
abbrev cX12_puts : ByteArray := prog_14_method_17_code
def yX12_puts : MethodName := ⟨RX12, "puts", "(II)V"⟩
abbrev cX12_makes : ByteArray := prog_14_method_18_code
def yX12_makes : MethodName := ⟨RX12, "makes", "(I)Z"⟩
abbrev cX12_opens : ByteArray := prog_14_method_19_code
def yX12_opens : MethodName := ⟨RX12, "opens", "(I)Z"⟩
abbrev cX12_strength : ByteArray := prog_14_method_20_code
def yX12_strength : MethodName := ⟨RX12, "strength", "(I)I"⟩
abbrev cX12_layDown : ByteArray := prog_14_method_21_code
def yX12_layDown : MethodName := ⟨RX12, "layDown", "(I)V"⟩
abbrev cX12_value : ByteArray := prog_14_method_22_code
def yX12_value : MethodName := ⟨RX12, "value", "()Z"⟩
abbrev cX12_term : ByteArray := prog_14_method_23_code
def yX12_term : MethodName := ⟨RX12, "term", "()Z"⟩
abbrev cX12_sum : ByteArray := prog_14_method_24_code
def yX12_sum : MethodName := ⟨RX12, "sum", "()Z"⟩
abbrev cX12_compare : ByteArray := prog_14_method_25_code
def yX12_compare : MethodName := ⟨RX12, "compare", "()Z"⟩
abbrev cX12_fact : ByteArray := prog_14_method_26_code
def yX12_fact : MethodName := ⟨RX12, "fact", "()Z"⟩
abbrev cX12_isInside : ByteArray := prog_14_method_27_code
def yX12_isInside : MethodName := ⟨RX12, "isInside", "()Z"⟩
abbrev cX12_closes : ByteArray := prog_14_method_28_code
def yX12_closes : MethodName := ⟨RX12, "closes", "()V"⟩
abbrev cX12_tested : ByteArray := prog_14_method_29_code
def yX12_tested : MethodName := ⟨RX12, "tested", "()Z"⟩
abbrev cX12_isEatHere : ByteArray := prog_14_method_30_code
def yX12_isEatHere : MethodName := ⟨RX12, "isEatHere", "()Z"⟩
abbrev cX12_cellHere : ByteArray := prog_14_method_31_code
def yX12_cellHere : MethodName := ⟨RX12, "cellHere", "(III)Z"⟩
abbrev cX12_isDinnerHere : ByteArray := prog_14_method_32_code
def yX12_isDinnerHere : MethodName := ⟨RX12, "isDinnerHere", "(I)Z"⟩
abbrev cX12_isDishHere : ByteArray := prog_14_method_33_code
def yX12_isDishHere : MethodName := ⟨RX12, "isDishHere", "(I)Z"⟩
abbrev cX12_isGuestHere : ByteArray := prog_14_method_34_code
def yX12_isGuestHere : MethodName := ⟨RX12, "isGuestHere", "(I)Z"⟩
abbrev cX12_isClashHere : ByteArray := prog_14_method_35_code
def yX12_isClashHere : MethodName := ⟨RX12, "isClashHere", "()Z"⟩
abbrev cX12_dinnerLineHere : ByteArray := prog_14_method_36_code
def yX12_dinnerLineHere : MethodName := ⟨RX12, "dinnerLineHere", "(I)Z"⟩
abbrev cX12_isDinnerWord : ByteArray := prog_14_method_37_code
def yX12_isDinnerWord : MethodName := ⟨RX12, "isDinnerWord", "()Z"⟩
abbrev cX12_clauseHere : ByteArray := prog_14_method_38_code
def yX12_clauseHere : MethodName := ⟨RX12, "clauseHere", "()Z"⟩
abbrev cX12_readsAll : ByteArray := prog_14_method_39_code
def yX12_readsAll : MethodName := ⟨RX12, "readsAll", "()Z"⟩
abbrev cX12_rule : ByteArray := prog_14_method_40_code
def yX12_rule : MethodName := ⟨RX12, "rule", "()I"⟩
abbrev cX12_dinner : ByteArray := prog_14_method_41_code
def yX12_dinner : MethodName := ⟨RX12, "dinne\x72", "()I"⟩
abbrev cX12_isRule : ByteArray := prog_14_method_42_code
def yX12_isRule : MethodName := ⟨RX12, "isRule", "(I)Z"⟩
abbrev cX12_push : ByteArray := prog_14_method_43_code
def yX12_push : MethodName := ⟨RX12, "push", "(J)V"⟩
abbrev cX12_pop : ByteArray := prog_14_method_44_code
def yX12_pop : MethodName := ⟨RX12, "pop", "()J"⟩
abbrev cX12_one : ByteArray := prog_14_method_45_code
def yX12_one : MethodName := ⟨RX12, "one", "(IJJ)J"⟩
abbrev cX12_reckons : ByteArray := prog_14_method_46_code
def yX12_reckons : MethodName := ⟨RX12, "reckons", "(III)J"⟩
abbrev cX12_isDinner : ByteArray := prog_14_method_47_code
def yX12_isDinner : MethodName := ⟨RX12, "isDinne\x72", "()Z"⟩
abbrev cX12_isDish : ByteArray := prog_14_method_48_code
def yX12_isDish : MethodName := ⟨RX12, "isDish", "(I)Z"⟩
abbrev cX12_isGuest : ByteArray := prog_14_method_49_code
def yX12_isGuest : MethodName := ⟨RX12, "isGuest", "(I)Z"⟩
abbrev cX12_isSecret : ByteArray := prog_14_method_50_code
def yX12_isSecret : MethodName := ⟨RX12, "isSecret", "(I)Z"⟩
abbrev cX12_sits : ByteArray := prog_14_method_51_code
def yX12_sits : MethodName := ⟨RX12, "sits", "(I)Z"⟩
abbrev cX12_onTable : ByteArray := prog_14_method_52_code
def yX12_onTable : MethodName := ⟨RX12, "onTable", "()I"⟩
abbrev cX12_inThroat : ByteArray := prog_14_method_53_code
def yX12_inThroat : MethodName := ⟨RX12, "inThroat", "()I"⟩
abbrev cX12_sitting : ByteArray := prog_14_method_54_code
def yX12_sitting : MethodName := ⟨RX12, "sitting", "()I"⟩
abbrev cX12_knownMany : ByteArray := prog_14_method_55_code
def yX12_knownMany : MethodName := ⟨RX12, "knownMany", "(Z)I"⟩
abbrev cX12_knownOnes : ByteArray := prog_14_method_56_code
def yX12_knownOnes : MethodName := ⟨RX12, "knownOnes", "(Z)I"⟩
abbrev cX12_areClashing : ByteArray := prog_14_method_57_code
def yX12_areClashing : MethodName := ⟨RX12, "areClashing", "(I)Z"⟩
abbrev cX12_begins : ByteArray := prog_14_method_58_code
def yX12_begins : MethodName := ⟨RX12, "begins", "()V"⟩
abbrev cX12_force : ByteArray := prog_14_method_59_code
def yX12_force : MethodName := ⟨RX12, "force", "(I)I"⟩
abbrev cX12_dish : ByteArray := prog_14_method_60_code
def yX12_dish : MethodName := ⟨RX12, "dish", "(II)I"⟩
abbrev cX12_guest : ByteArray := prog_14_method_61_code
def yX12_guest : MethodName := ⟨RX12, "guest", "(II)I"⟩
abbrev cX12_clashes : ByteArray := prog_14_method_62_code
def yX12_clashes : MethodName := ⟨RX12, "clashes", "(I)I"⟩
abbrev cX12_dishIn : ByteArray := prog_14_method_63_code
def yX12_dishIn : MethodName := ⟨RX12, "dishIn", "(I)I"⟩
abbrev cX12_throat : ByteArray := prog_14_method_64_code
def yX12_throat : MethodName := ⟨RX12, "throat", "(I)I"⟩
abbrev cX12_summedBy : ByteArray := prog_14_method_65_code
def yX12_summedBy : MethodName := ⟨RX12, "summedBy", "(I)J"⟩
abbrev cX12_topLoud : ByteArray := prog_14_method_66_code
def yX12_topLoud : MethodName := ⟨RX12, "topLoud", "()I"⟩
abbrev cX12_sumOf : ByteArray := prog_14_method_67_code
def yX12_sumOf : MethodName := ⟨RX12, "sumOf", "(I)J"⟩
abbrev cX12_choice : ByteArray := prog_14_method_68_code
def yX12_choice : MethodName := ⟨RX12, "choice", "()I"⟩
abbrev cX12_speaks : ByteArray := prog_14_method_69_code
def yX12_speaks : MethodName := ⟨RX12, "speaks", "()V"⟩
abbrev cX12_hears : ByteArray := prog_14_method_70_code
def yX12_hears : MethodName := ⟨RX12, "hears", "(I)V"⟩
abbrev cX12_swallows : ByteArray := prog_14_method_71_code
def yX12_swallows : MethodName := ⟨RX12, "swallows", "()V"⟩
abbrev cX12_passes : ByteArray := prog_14_method_72_code
def yX12_passes : MethodName := ⟨RX12, "passes", "()I"⟩
abbrev cX12_passesAll : ByteArray := prog_14_method_73_code
def yX12_passesAll : MethodName := ⟨RX12, "passesAll", "(I)V"⟩
abbrev cX12_eats : ByteArray := prog_14_method_74_code
def yX12_eats : MethodName := ⟨RX12, "eats", "(I)V"⟩
abbrev cX12_keepsAct : ByteArray := prog_14_method_75_code
def yX12_keepsAct : MethodName := ⟨RX12, "keepsAct", "()V"⟩
abbrev cX12_undo : ByteArray := prog_14_method_76_code
def yX12_undo : MethodName := ⟨RX12, "undo", "()I"⟩
abbrev cX12_minute : ByteArray := prog_14_method_77_code
def yX12_minute : MethodName := ⟨RX12, "minute", "()I"⟩
abbrev cX12_offer : ByteArray := prog_14_method_78_code
def yX12_offer : MethodName := ⟨RX12, "offe\x72", "(I)I"⟩
abbrev cX12_serve : ByteArray := prog_14_method_79_code
def yX12_serve : MethodName := ⟨RX12, "serve", "(I)I"⟩
abbrev cX12_fetch : ByteArray := prog_14_method_80_code
def yX12_fetch : MethodName := ⟨RX12, "fetch", "(I)I"⟩
abbrev cX12_tell : ByteArray := prog_14_method_81_code
def yX12_tell : MethodName := ⟨RX12, "tell", "(II)I"⟩
abbrev cX12_keeps : ByteArray := prog_14_method_82_code
def yX12_keeps : MethodName := ⟨RX12, "keeps", "()V"⟩
abbrev cX12_laysBack : ByteArray := prog_14_method_83_code
def yX12_laysBack : MethodName := ⟨RX12, "laysBack", "()V"⟩
abbrev cX12_ahead : ByteArray := prog_14_method_84_code
def yX12_ahead : MethodName := ⟨RX12, "ahead", "(III)I"⟩
abbrev cX12_isSaid : ByteArray := prog_14_method_85_code
def yX12_isSaid : MethodName := ⟨RX12, "isSaid", "(I)Z"⟩
abbrev cX12_said : ByteArray := prog_14_method_86_code
def yX12_said : MethodName := ⟨RX12, "said", "(I)I"⟩
abbrev cX12_quiet : ByteArray := prog_14_method_87_code
def yX12_quiet : MethodName := ⟨RX12, "quiet", "()I"⟩
abbrev cX12_knowing : ByteArray := prog_14_method_88_code
def yX12_knowing : MethodName := ⟨RX12, "knowing", "(I)I"⟩
abbrev cX12_beginsRow : ByteArray := prog_14_method_89_code
def yX12_beginsRow : MethodName := ⟨RX12, "beginsRow", "()V"⟩
abbrev cX12_nextRow : ByteArray := prog_14_method_90_code
def yX12_nextRow : MethodName := ⟨RX12, "nextRow", "(I)Z"⟩
abbrev cX12_keepsRow : ByteArray := prog_14_method_91_code
def yX12_keepsRow : MethodName := ⟨RX12, "keepsRow", "()V"⟩
abbrev cX12_eatsRow : ByteArray := prog_14_method_92_code
def yX12_eatsRow : MethodName := ⟨RX12, "eatsRow", "(IZ)Z"⟩
abbrev cX12_bestOf : ByteArray := prog_14_method_93_code
def yX12_bestOf : MethodName := ⟨RX12, "bestOf", "(IZ)I"⟩
abbrev cX12_bestRow : ByteArray := prog_14_method_94_code
def yX12_bestRow : MethodName := ⟨RX12, "bestRow", "(II)I"⟩
abbrev cX12_hush : ByteArray := prog_14_method_95_code
def yX12_hush : MethodName := ⟨RX12, "hush", "(II)I"⟩
abbrev cX12_areUnlike : ByteArray := prog_14_method_96_code
def yX12_areUnlike : MethodName := ⟨RX12, "areUnlike", "()Z"⟩
abbrev cX12_areNotesSo : ByteArray := prog_14_method_97_code
def yX12_areNotesSo : MethodName := ⟨RX12, "areNotesSo", "(I)Z"⟩
abbrev cX12_isRowSo : ByteArray := prog_14_method_98_code
def yX12_isRowSo : MethodName := ⟨RX12, "isRowSo", "()Z"⟩
abbrev cX12_rows : ByteArray := prog_14_method_99_code
def yX12_rows : MethodName := ⟨RX12, "rows", "(I)I"⟩
abbrev cX12_believed : ByteArray := prog_14_method_100_code
def yX12_believed : MethodName := ⟨RX12, "believed", "(I)I"⟩
abbrev cX12_dropped : ByteArray := prog_14_method_101_code
def yX12_dropped : MethodName := ⟨RX12, "dropped", "(I)I"⟩
abbrev cX12_weighsOut : ByteArray := prog_14_method_102_code
def yX12_weighsOut : MethodName := ⟨RX12, "weighsOut", "(II)V"⟩
abbrev cX12_leftOut : ByteArray := prog_14_method_103_code
def yX12_leftOut : MethodName := ⟨RX12, "leftOut", "(II)I"⟩
abbrev cX12_isRest : ByteArray := prog_14_method_104_code
def yX12_isRest : MethodName := ⟨RX12, "isRest", "(II)Z"⟩
abbrev cX12_hasThen : ByteArray := prog_14_method_105_code
def yX12_hasThen : MethodName := ⟨RX12, "hasThen", "(I)I"⟩
abbrev cX12_fillsRests : ByteArray := prog_14_method_106_code
def yX12_fillsRests : MethodName := ⟨RX12, "fillsRests", "(III)V"⟩
abbrev cX12_rests : ByteArray := prog_14_method_107_code
def yX12_rests : MethodName := ⟨RX12, "rests", "(IIII)I"⟩
abbrev cX12_crumbs : ByteArray := prog_14_method_108_code
def yX12_crumbs : MethodName := ⟨RX12, "crumbs", "(II)I"⟩
abbrev cX12_loudest : ByteArray := prog_14_method_109_code
def yX12_loudest : MethodName := ⟨RX12, "loudest", "(II)I"⟩
abbrev cX12_note : ByteArray := prog_14_method_110_code
def yX12_note : MethodName := ⟨RX12, "note", "(IIII)I"⟩
abbrev cX12_fillsFits : ByteArray := prog_14_method_111_code
def yX12_fillsFits : MethodName := ⟨RX12, "fillsFits", "(I)V"⟩
abbrev cX12_ruled : ByteArray := prog_14_method_112_code
def yX12_ruled : MethodName := ⟨RX12, "ruled", "(I)I"⟩
abbrev cX12_alikeAt : ByteArray := prog_14_method_113_code
def yX12_alikeAt : MethodName := ⟨RX12, "alikeAt", "(I)I"⟩
abbrev cX12_look : ByteArray := prog_14_method_114_code
def yX12_look : MethodName := ⟨RX12, "look", "(II)I"⟩
abbrev cX12_seed : ByteArray := prog_14_method_115_code
def yX12_seed : MethodName := ⟨RX12, "seed", "(I)I"⟩
abbrev cX12_draw : ByteArray := prog_14_method_116_code
def yX12_draw : MethodName := ⟨RX12, "draw", "(I)I"⟩
abbrev cX12_comesUp : ByteArray := prog_14_method_117_code
def yX12_comesUp : MethodName := ⟨RX12, "comesUp", "()V"⟩
abbrev cX12_hiccups : ByteArray := prog_14_method_118_code
def yX12_hiccups : MethodName := ⟨RX12, "hiccups", "(IIII)I"⟩
abbrev cX12_count : ByteArray := prog_14_method_119_code
def yX12_count : MethodName := ⟨RX12, "count", "(I)I"⟩
abbrev cX12_image : ByteArray := prog_14_method_120_code
def yX12_image : MethodName := ⟨RX12, "image", "(I)I"⟩
abbrev cX12_back : ByteArray := prog_14_method_121_code
def yX12_back : MethodName := ⟨RX12, "back", "(I)I"⟩
def RJ6 : String := "java/lang/Intege\x72"
def TJ6 : u_T := fun k => match k with
  | _ => ("", "", "", false)
def tyJ6 : Nat → FieldType := fun k => match k with
  | _ => .int
abbrev cJ6_numberOfTrailingZeros_0f7a4 : ByteArray := prog_15_method_48_code
def yJ6_numberOfTrailingZeros_0f7a4 : MethodName := ⟨RJ6, "numberOfTrailingZeros", "(I)I"⟩
abbrev cJ6_bitCount_0f7a4 : ByteArray := prog_15_method_49_code
def yJ6_bitCount_0f7a4 : MethodName := ⟨RJ6, "bitCount", "(I)I"⟩
def RJ13 : String := "java/lang/Long"
def TJ13 : u_T := fun k => match k with
  | _ => ("", "", "", false)
def tyJ13 : Nat → FieldType := fun k => match k with
  | _ => .int
abbrev cJ13_bitCount_95d88 : ByteArray := prog_16_method_50_code
def yJ13_bitCount_95d88 : MethodName := ⟨RJ13, "bitCount", "(J)I"⟩
def RJ9 : String := "java/lang/Math"
def TJ9 : u_T := fun k => match k with
  | _ => ("", "", "", false)
def tyJ9 : Nat → FieldType := fun k => match k with
  | _ => .int
abbrev cJ9_max_7cf53 : ByteArray := prog_17_method_65_code
def yJ9_max_7cf53 : MethodName := ⟨RJ9, "max", "(II)I"⟩
abbrev cJ9_min_7cf53 : ByteArray := prog_17_method_69_code
def yJ9_min_7cf53 : MethodName := ⟨RJ9, "min", "(II)I"⟩
def RJ0 : String := "java/lang/String"
def TJ0 : u_T := fun k => match k with
  | _ => ("", "", "", false)
def tyJ0 : Nat → FieldType := fun k => match k with
  | _ => .int
abbrev cJ0_length_8abf5 : ByteArray := prog_18_method_54_code
def yJ0_length_8abf5 : MethodName := ⟨RJ0, "length", "()I"⟩
abbrev cJ0_charAt_5068e : ByteArray := prog_18_method_56_code
def yJ0_charAt_5068e : MethodName := ⟨RJ0, "charAt", "(I)C"⟩
abbrev cJ0_coder_7d493 : ByteArray := prog_18_method_152_code
def yJ0_coder_7d493 : MethodName := ⟨RJ0, "code\x72", "()B"⟩
abbrev cJ0_isLatin1_aae02 : ByteArray := prog_18_method_154_code
def yJ0_isLatin1_aae02 : MethodName := ⟨RJ0, "isLatin1", "()Z"⟩
abbrev cJ0_checkIndex_df160 : ByteArray := prog_18_method_155_code
def yJ0_checkIndex_df160 : MethodName := ⟨RJ0, "checkIndex", "(II)V"⟩
def RJ1 : String := "java/lang/StringLatin1"
def TJ1 : u_T := fun k => match k with
  | _ => ("", "", "", false)
def tyJ1 : Nat → FieldType := fun k => match k with
  | _ => .int
abbrev cJ1_charAt_3b067 : ByteArray := prog_19_method_2_code
def yJ1_charAt_3b067 : MethodName := ⟨RJ1, "charAt", "([BI)C"⟩
def RJ2 : String := "java/lang/StringUTF16"
def TJ2 : u_T := fun k => match k with
  | _ => ("", "", "", false)
def tyJ2 : Nat → FieldType := fun k => match k with
  | _ => .int
abbrev cJ2_getChar_3b067 : ByteArray := prog_20_method_5_code
def yJ2_getChar_3b067 : MethodName := ⟨RJ2, "getCha\x72", "([BI)C"⟩
abbrev cJ2_length_9d52b : ByteArray := prog_20_method_6_code
def yJ2_length_9d52b : MethodName := ⟨RJ2, "length", "([B)I"⟩
abbrev cJ2_charAt_3b067 : ByteArray := prog_20_method_83_code
def yJ2_charAt_3b067 : MethodName := ⟨RJ2, "charAt", "([BI)C"⟩
abbrev cJ2_checkIndex_2214a : ByteArray := prog_20_method_91_code
def yJ2_checkIndex_2214a : MethodName := ⟨RJ2, "checkIndex", "(I[B)V"⟩
def RJ3 : String := "jdk/internal/util/Preconditions"
def TJ3 : u_T := fun k => match k with
  | _ => ("", "", "", false)
def tyJ3 : Nat → FieldType := fun k => match k with
  | _ => .int
abbrev cJ3_checkIndex_8e157 : ByteArray := prog_21_method_11_code
def yJ3_checkIndex_8e157 : MethodName := ⟨RJ3, "checkIndex", "(IILjava/util/function/BiFunction;)I"⟩
def RL : String := "SpokenBiteLaw"
abbrev cL_law : ByteArray := code
def yL_law : MethodName := ⟨RL, "law", "([I)Z"⟩

/-- the words that a contract may carry: those of the tables that stay -/
def wsA : List Cond := lw_tbl.filter goodWord
theorem mA {w : Cond} {i : Nat} (h : lw_tbl[i]? = some w) (g : goodWord w = true) : w ∈ wsA := List.mem_filter.mpr ⟨List.mem_of_getElem? h, g⟩
theorem inA {ws : List Cond} (ps : List Nat) (hp : ws = ps.filterMap (fun i => lw_tbl[i]?)) (hg : ws.all goodWord = true) : ∀ w ∈ ws, w ∈ wsA := by
  intro w hw
  have h1 := List.all_eq_true.mp hg w hw
  rw [hp] at hw
  obtain ⟨i, -, hi⟩ := List.mem_filterMap.mp hw
  exact mA hi h1
theorem goodA {w : Cond} (h : w ∈ wsA) : w ∈ wsA ∧ ((w.onTables && w.keeps) = true ∨ ∃ ty, w = .arrayClass ty) := ⟨h, good_of_word (List.mem_filter.mp h).2⟩
theorem gC {w : Cond} (h : w ∈ wsA) : GoodIn wsA (w :: wsA) := fun v hv => (List.mem_cons.mp hv).elim (fun e => e ▸ goodA h) goodA
theorem gV {own C : String} {idx : Nat} {y : MethodName} {w : Cond} (h1 : .methodLink own idx y ∈ wsA) (h2 : .instanceMethod y ∈ wsA) (h3 : .selects C y y ∈ wsA) (h4 : .initialized C ∈ wsA) (h5 : w ∈ wsA) : GoodIn wsA (wsV own idx C y (w :: wsA)) := by
  intro v hv
  unfold wsV at hv
  rcases List.mem_append.mp hv with h | h
  · simp only [List.mem_cons, List.not_mem_nil, or_false] at h
    rcases h with rfl | rfl | rfl | rfl
    · exact goodA h1
    · exact goodA h2
    · exact goodA h3
    · exact goodA h4
  · exact gC h5 v h
theorem gS {own : String} {idx : Nat} {y : MethodName} {w : Cond} (h1 : .methodLink own idx y ∈ wsA) (h2 : .static y ∈ wsA) (h4 : .initialized own ∈ wsA) (h5 : w ∈ wsA) : GoodIn wsA (wsS own idx y (w :: wsA)) := by
  intro v hv
  unfold wsS at hv
  rcases List.mem_append.mp hv with h | h
  · simp only [List.mem_cons, List.not_mem_nil, or_false] at h
    rcases h with rfl | rfl | rfl
    · exact goodA h1
    · exact goodA h2
    · exact goodA h4
  · exact gC h5 v h
theorem gT {own : String} {idx : Nat} {y : MethodName} {w : Cond} (h1 : .methodLink own idx y ∈ wsA) (h2 : .static y ∈ wsA) (h4 : .initialized y.cls ∈ wsA) (h5 : w ∈ wsA) : GoodIn wsA (va_wsS own idx y (w :: wsA)) := by
  intro v hv
  unfold va_wsS at hv
  rcases List.mem_append.mp hv with h | h
  · simp only [List.mem_cons, List.not_mem_nil, or_false] at h
    rcases h with rfl | rfl | rfl
    · exact goodA h1
    · exact goodA h2
    · exact goodA h4
  · exact gC h5 v h
theorem inr_ok {i : Int32} {n : Nat} (h : decide (¬ (i < 0 ∨ n ≤ i.toNatClampNeg)) = true) : vp_in i n := by
  show ¬ (i < 0 ∨ n ≤ i.toNatClampNeg)
  exact of_decide_eq_true h
theorem dfl_ok {N : Nat} {ty : Nat → FieldType} {fs : List Value} (h : (List.range N).map (fun j => defaultValue (ty j)) = (List.range N).map (fun j => vp_V fs j)) : ∀ j, j < N → defaultValue (ty j) = vp_V fs j := by
  intro j hj
  have h1 := congrArg (fun l => l[j]?) h
  simpa [hj] using h1
theorem vP_nil {D : va_G} {cl : List vw_C} {H : Heap} : va_P D cl [] H := fun k q h => by simp at h
theorem vD_nil {A : Nat → Prop} : va_D A [] := ⟨fun i j p q h => by simp at h, fun k q h => by simp at h⟩
abbrev classes : List vw_C := [(RX0, TX0, 8), (RX1, TX1, 7), (RX2, TX2, 1), (RX3, TX3, 6), (RX4, TX4, 6), (RX5, TX5, 5), (RX6, TX6, 3), (RX7, TX7, 4), (RX8, TX8, 7), (RX9, TX9, 3), (RX10, TX10, 3), (RX11, TX11, 19), (RX12, TX12, 43)]
/-- private constructors of the nest, and arrays of own classes -/
def xN : List (String × Nat × MethodName × String) := [(RX11, 15, yX2_init, "SpokenBite"), (RX2, 11, yX7_init, "SpokenBite"), (RX11, 22, yX10_init, "SpokenBite"), (RX10, 11, yX7_init, "SpokenBite"), (RX10, 20, yX9_init, "SpokenBite"), (RX11, 39, yX1_init, "SpokenBite"), (RX11, 49, yX3_init, "SpokenBite"), (RX11, 59, yX5_init, "SpokenBite"), (RX6, 17, yX3_init, "SpokenBite"), (RX11, 79, yX0_init, "SpokenBite"), (RX0, 11, yX1_init, "SpokenBite"), (RX8, 24, yX3_init, "SpokenBite"), (RX11, 98, yX9_init, "SpokenBite"), (RX11, 99, yX4_init, "SpokenBite"), (RX4, 11, yX1_init, "SpokenBite"), (RX4, 20, yX3_init, "SpokenBite"), (RX4, 27, yX5_init, "SpokenBite")]
def xE (U : State) : Prop := (∀ q ∈ xN, va_Nw (.methodLinkNest q.1 q.2.1 q.2.2.1 q.2.2.2) U) ∧ va_AO RX9 U ∧ va_AO RX3 U ∧ va_AO RX4 U
theorem xE.same {u U : State} (h : u.vm = U.vm) (hE : xE u) : xE U := ⟨fun q hq => va_Nw.same rfl h (hE.1 q hq), va_AO.moved (by rw [h]; exact Vm.Alike.refl _) hE.2.1, va_AO.moved (by rw [h]; exact Vm.Alike.refl _) hE.2.2.1, va_AO.moved (by rw [h]; exact Vm.Alike.refl _) hE.2.2.2⟩
theorem xE.warm {s U : State} (hW : s.WarmedH U.vm) (hE : xE s) : xE U := ⟨fun q hq => va_Nw.warmM hW (hE.1 q hq), va_AO.moved hW.alike hE.2.1, va_AO.moved hW.alike hE.2.2.1, va_AO.moved hW.alike hE.2.2.2⟩
theorem xE_n {s : State} (hE : xE s) {k : Nat} {a : String} {i : Nat} {x : MethodName} {h : String} (hm : xN[k]? = some (a, i, x, h)) : va_Nw (.methodLinkNest a i x h) s := hE.1 (a, i, x, h) (List.mem_of_getElem? hm)
theorem xE_X9 {s : State} (hE : xE s) : va_AO RX9 s := hE.2.1
theorem xE_X3 {s : State} (hE : xE s) : va_AO RX3 s := hE.2.2.1
theorem xE_X4 {s : State} (hE : xE s) : va_AO RX4 s := hE.2.2.2
theorem inX0 : ∀ w ∈ u_ws RX0 TX0 8, w ∈ wsA := inA [365, 367, 369, 371, 373, 375, 377, 379] (by decide +kernel) (by decide +kernel)
theorem inX1 : ∀ w ∈ u_ws RX1 TX1 7, w ∈ wsA := inA [248, 250, 252, 254, 256, 258, 260] (by decide +kernel) (by decide +kernel)
theorem inX2 : ∀ w ∈ u_ws RX2 TX2 1, w ∈ wsA := inA [178] (by decide +kernel) (by decide +kernel)
theorem inX3 : ∀ w ∈ u_ws RX3 TX3 6, w ∈ wsA := inA [288, 290, 292, 294, 296, 298] (by decide +kernel) (by decide +kernel)
theorem inX4 : ∀ w ∈ u_ws RX4 TX4 6, w ∈ wsA := inA [436, 438, 440, 442, 444, 446] (by decide +kernel) (by decide +kernel)
theorem inX5 : ∀ w ∈ u_ws RX5 TX5 5, w ∈ wsA := inA [313, 315, 317, 319, 321] (by decide +kernel) (by decide +kernel)
theorem inX6 : ∀ w ∈ u_ws RX6 TX6 3, w ∈ wsA := inA [337, 339, 341] (by decide +kernel) (by decide +kernel)
theorem inX7 : ∀ w ∈ u_ws RX7 TX7 4, w ∈ wsA := inA [167, 169, 171, 173] (by decide +kernel) (by decide +kernel)
theorem inX8 : ∀ w ∈ u_ws RX8 TX8 7, w ∈ wsA := inA [399, 401, 403, 405, 407, 409, 411] (by decide +kernel) (by decide +kernel)
theorem inX9 : ∀ w ∈ u_ws RX9 TX9 3, w ∈ wsA := inA [199, 201, 203] (by decide +kernel) (by decide +kernel)
theorem inX10 : ∀ w ∈ u_ws RX10 TX10 3, w ∈ wsA := inA [209, 211, 213] (by decide +kernel) (by decide +kernel)
theorem inX11 : ∀ w ∈ u_ws RX11 TX11 19, w ∈ wsA := inA [468, 470, 472, 474, 476, 478, 480, 482, 484, 486, 488, 490, 492, 494, 496, 498, 500, 502, 504] (by decide +kernel) (by decide +kernel)
theorem inX12 : ∀ w ∈ u_ws RX12 TX12 43, w ∈ wsA := inA [1203, 1205, 1207, 1209, 1211, 1213, 1215, 1217, 1219, 1221, 1223, 1225, 1227, 1229, 1231, 1233, 1235, 1237, 1239, 1241, 1243, 1245, 1247, 1249, 1251, 1253, 1255, 1257, 1259, 1261, 1263, 1265, 1267, 1269, 1271, 1273, 1275, 1277, 1279, 1281, 1283, 1285, 1287] (by decide +kernel) (by decide +kernel)
