/-! names, fields, words: out of the printed names of this claim and its tables, by wip/whole/gen_names.py -/
def RX0 : String := "BareThursday$Kinds"
def TX0 : u_T := fun k => match k with
  | _ => ("", "", "", false)
def tyX0 : Nat → FieldType := fun k => match k with
  | _ => .int
abbrev wsX00 : List Cond := u_ws RX0 TX0 0
theorem nmX0 : ∀ a, a < 0 → ∀ b, b < 0 → a ≠ b → (TX0 a).2.1 ≠ (TX0 b).2.1 := by decide +kernel
theorem tyX0_ok : ∀ k, k < 0 → parseFieldDescriptor (TX0 k).2.2.1 = some (tyX0 k) := by decide +kernel
abbrev cX0_above : ByteArray := prog_2_method_2_code
def yX0_above : MethodName := ⟨RX0, "above", "(I)I"⟩
abbrev cX0_isUnder : ByteArray := prog_2_method_3_code
def yX0_isUnder : MethodName := ⟨RX0, "isUnder", "(II)Z"⟩
abbrev cX0_walk : ByteArray := prog_2_method_4_code
def yX0_walk : MethodName := ⟨RX0, "walk", "(II)I"⟩
abbrev cX0_shift : ByteArray := prog_2_method_5_code
def yX0_shift : MethodName := ⟨RX0, "shift", "(II)I"⟩
abbrev cX0_mind : ByteArray := prog_2_method_6_code
def yX0_mind : MethodName := ⟨RX0, "mind", "(IIIZ)Z"⟩
abbrev cX0_shine : ByteArray := prog_2_method_7_code
def yX0_shine : MethodName := ⟨RX0, "shine", "(I)I"⟩
abbrev cX0_gladden : ByteArray := prog_2_method_8_code
def yX0_gladden : MethodName := ⟨RX0, "gladden", "(II)I"⟩
def RX1 : String := "BareThursday$Sheets"
def TX1 : u_T := fun k => match k with
  | 0 => ("BareThursday$Sheets", "bits", "[I", true)
  | 1 => ("BareThursday$Sheets", "lengths", "[I", true)
  | _ => ("BareThursday$Sheets", "numbers", "[I", true)
def tyX1 : Nat → FieldType := fun k => match k with
  | 0 => .array .int
  | 1 => .array .int
  | _ => .array .int
abbrev wsX10 : List Cond := u_ws RX1 TX1 3
theorem nmX1 : ∀ a, a < 3 → ∀ b, b < 3 → a ≠ b → (TX1 a).2.1 ≠ (TX1 b).2.1 := by decide +kernel
theorem tyX1_ok : ∀ k, k < 3 → parseFieldDescriptor (TX1 k).2.2.1 = some (tyX1 k) := by decide +kernel
abbrev cX1_init : ByteArray := prog_3_method_1_code
def yX1_init : MethodName := ⟨RX1, "<init>", "()V"⟩
abbrev cX1_lay : ByteArray := prog_3_method_2_code
def yX1_lay : MethodName := ⟨RX1, "lay", "(III)V"⟩
abbrev cX1_isMissing : ByteArray := prog_3_method_3_code
def yX1_isMissing : MethodName := ⟨RX1, "isMissing", "(I)Z"⟩
abbrev cX1_bits : ByteArray := prog_3_method_4_code
def yX1_bits : MethodName := ⟨RX1, "bits", "(I)I"⟩
abbrev cX1_length : ByteArray := prog_3_method_5_code
def yX1_length : MethodName := ⟨RX1, "length", "(I)I"⟩
abbrev cX1_number : ByteArray := prog_3_method_6_code
def yX1_number : MethodName := ⟨RX1, "number", "(II)I"⟩
abbrev cX1_put : ByteArray := prog_3_method_7_code
def yX1_put : MethodName := ⟨RX1, "put", "(III)V"⟩
abbrev cX1_lowest : ByteArray := prog_3_method_8_code
def yX1_lowest : MethodName := ⟨RX1, "lowest", "(II)I"⟩
abbrev cX1_hasPart : ByteArray := prog_3_method_9_code
def yX1_hasPart : MethodName := ⟨RX1, "hasPart", "(III)Z"⟩
abbrev cX1_move : ByteArray := prog_3_method_10_code
def yX1_move : MethodName := ⟨RX1, "move", "(IIIII)V"⟩
def RX2 : String := "BareThursday$Tape"
def TX2 : u_T := fun k => match k with
  | 0 => ("BareThursday$Tape", "bytes", "[I", true)
  | 1 => ("BareThursday$Tape", "length", "I", false)
  | 2 => ("BareThursday$Tape", "token", "I", false)
  | 3 => ("BareThursday$Tape", "begin", "I", false)
  | 4 => ("BareThursday$Tape", "end", "I", false)
  | _ => ("BareThursday$Tape", "number", "I", false)
def tyX2 : Nat → FieldType := fun k => match k with
  | 0 => .array .int
  | 1 => .int
  | 2 => .int
  | 3 => .int
  | 4 => .int
  | _ => .int
abbrev wsX20 : List Cond := u_ws RX2 TX2 6
theorem nmX2 : ∀ a, a < 6 → ∀ b, b < 6 → a ≠ b → (TX2 a).2.1 ≠ (TX2 b).2.1 := by decide +kernel
theorem tyX2_ok : ∀ k, k < 6 → parseFieldDescriptor (TX2 k).2.2.1 = some (tyX2 k) := by decide +kernel
abbrev cX2_init : ByteArray := prog_4_method_1_code
def yX2_init : MethodName := ⟨RX2, "<init>", "()V"⟩
abbrev cX2_length : ByteArray := prog_4_method_2_code
def yX2_length : MethodName := ⟨RX2, "length", "()I"⟩
abbrev cX2_room : ByteArray := prog_4_method_3_code
def yX2_room : MethodName := ⟨RX2, "room", "()I"⟩
abbrev cX2_empty : ByteArray := prog_4_method_4_code
def yX2_empty : MethodName := ⟨RX2, "empty", "()I"⟩
abbrev cX2_add : ByteArray := prog_4_method_5_code
def yX2_add : MethodName := ⟨RX2, "add", "(I)V"⟩
abbrev cX2_readText : ByteArray := prog_4_method_6_code
def yX2_readText : MethodName := ⟨RX2, "readText", "(LBareThursday$Town;)I"⟩
abbrev cX2_readItem : ByteArray := prog_4_method_7_code
def yX2_readItem : MethodName := ⟨RX2, "readItem", "(LBareThursday$Town;)Z"⟩
abbrev cX2_kindOfWord : ByteArray := prog_4_method_8_code
def yX2_kindOfWord : MethodName := ⟨RX2, "kindOfWord", "()I"⟩
abbrev cX2_readOne : ByteArray := prog_4_method_9_code
def yX2_readOne : MethodName := ⟨RX2, "readOne", "(ILBareThursday$Town;)Z"⟩
abbrev cX2_readMet : ByteArray := prog_4_method_10_code
def yX2_readMet : MethodName := ⟨RX2, "readMet", "(LBareThursday$Town;)Z"⟩
abbrev cX2_readBell : ByteArray := prog_4_method_11_code
def yX2_readBell : MethodName := ⟨RX2, "readBell", "(LBareThursday$Town;)Z"⟩
abbrev cX2_isNumberBelow : ByteArray := prog_4_method_12_code
def yX2_isNumberBelow : MethodName := ⟨RX2, "isNumberBelow", "(I)Z"⟩
abbrev cX2_isWord : ByteArray := prog_4_method_13_code
def yX2_isWord : MethodName := ⟨RX2, "isWord", "(Ljava/lang/String;)Z"⟩
abbrev cX2_nextToken : ByteArray := prog_4_method_14_code
def yX2_nextToken : MethodName := ⟨RX2, "nextToken", "()V"⟩
abbrev cX2_passWord : ByteArray := prog_4_method_15_code
def yX2_passWord : MethodName := ⟨RX2, "passWord", "()V"⟩
abbrev cX2_passNumber : ByteArray := prog_4_method_16_code
def yX2_passNumber : MethodName := ⟨RX2, "passNumber", "()V"⟩
abbrev cX2_isLetter : ByteArray := prog_4_method_17_code
def yX2_isLetter : MethodName := ⟨RX2, "isLetter", "(I)Z"⟩
abbrev cX2_isDigit : ByteArray := prog_4_method_18_code
def yX2_isDigit : MethodName := ⟨RX2, "isDigit", "(I)Z"⟩
def RX3 : String := "BareThursday$Town"
def TX3 : u_T := fun k => match k with
  | 0 => ("BareThursday$Town", "people", "I", false)
  | 1 => ("BareThursday$Town", "day", "I", false)
  | 2 => ("BareThursday$Town", "joy", "I", false)
  | 3 => ("BareThursday$Town", "z", "I", false)
  | 4 => ("BareThursday$Town", "spots", "[I", true)
  | 5 => ("BareThursday$Town", "kind", "[I", true)
  | 6 => ("BareThursday$Town", "cell", "[I", true)
  | 7 => ("BareThursday$Town", "guise", "[I", true)
  | 8 => ("BareThursday$Town", "met", "[I", true)
  | 9 => ("BareThursday$Town", "knows", "[I", true)
  | 10 => ("BareThursday$Town", "out", "[I", true)
  | _ => ("BareThursday$Town", "passes", "[I", true)
def tyX3 : Nat → FieldType := fun k => match k with
  | 0 => .int
  | 1 => .int
  | 2 => .int
  | 3 => .int
  | 4 => .array .int
  | 5 => .array .int
  | 6 => .array .int
  | 7 => .array .int
  | 8 => .array .int
  | 9 => .array .int
  | 10 => .array .int
  | _ => .array .int
abbrev wsX30 : List Cond := u_ws RX3 TX3 12
theorem nmX3 : ∀ a, a < 12 → ∀ b, b < 12 → a ≠ b → (TX3 a).2.1 ≠ (TX3 b).2.1 := by decide +kernel
theorem tyX3_ok : ∀ k, k < 12 → parseFieldDescriptor (TX3 k).2.2.1 = some (tyX3 k) := by decide +kernel
abbrev cX3_init : ByteArray := prog_5_method_1_code
def yX3_init : MethodName := ⟨RX3, "<init>", "()V"⟩
abbrev cX3_become : ByteArray := prog_5_method_2_code
def yX3_become : MethodName := ⟨RX3, "become", "(LBareThursday$Town;)V"⟩
abbrev cX3_isTheDay : ByteArray := prog_5_method_3_code
def yX3_isTheDay : MethodName := ⟨RX3, "isTheDay", "(I)Z"⟩
abbrev cX3_isThere : ByteArray := prog_5_method_4_code
def yX3_isThere : MethodName := ⟨RX3, "isThere", "(I)Z"⟩
abbrev cX3_areTwo : ByteArray := prog_5_method_5_code
def yX3_areTwo : MethodName := ⟨RX3, "areTwo", "(II)Z"⟩
abbrev cX3_isFull : ByteArray := prog_5_method_6_code
def yX3_isFull : MethodName := ⟨RX3, "isFull", "()Z"⟩
abbrev cX3_everybody : ByteArray := prog_5_method_7_code
def yX3_everybody : MethodName := ⟨RX3, "everybody", "()I"⟩
abbrev cX3_add : ByteArray := prog_5_method_8_code
def yX3_add : MethodName := ⟨RX3, "add", "(II)I"⟩
abbrev cX3_trait : ByteArray := prog_5_method_9_code
def yX3_trait : MethodName := ⟨RX3, "trait", "(II)I"⟩
abbrev cX3_canBecome : ByteArray := prog_5_method_10_code
def yX3_canBecome : MethodName := ⟨RX3, "canBecome", "(III)Z"⟩
abbrev cX3_isSetOfOthers : ByteArray := prog_5_method_11_code
def yX3_isSetOfOthers : MethodName := ⟨RX3, "isSetOfOthers", "(II)Z"⟩
abbrev cX3_put : ByteArray := prog_5_method_12_code
def yX3_put : MethodName := ⟨RX3, "put", "(III)V"⟩
abbrev cX3_putOut : ByteArray := prog_5_method_13_code
def yX3_putOut : MethodName := ⟨RX3, "putOut", "(I)V"⟩
abbrev cX3_distance : ByteArray := prog_5_method_14_code
def yX3_distance : MethodName := ⟨RX3, "distance", "(II)I"⟩
abbrev cX3_peopleAt : ByteArray := prog_5_method_15_code
def yX3_peopleAt : MethodName := ⟨RX3, "peopleAt", "(I)I"⟩
abbrev cX3_mindsGuise : ByteArray := prog_5_method_16_code
def yX3_mindsGuise : MethodName := ⟨RX3, "mindsGuise", "(II)Z"⟩
abbrev cX3_mindedGuises : ByteArray := prog_5_method_17_code
def yX3_mindedGuises : MethodName := ⟨RX3, "mindedGuises", "(I)I"⟩
abbrev cX3_bothMet : ByteArray := prog_5_method_18_code
def yX3_bothMet : MethodName := ⟨RX3, "bothMet", "(II)Z"⟩
abbrev cX3_bothKnow : ByteArray := prog_5_method_19_code
def yX3_bothKnow : MethodName := ⟨RX3, "bothKnow", "(II)Z"⟩
abbrev cX3_wouldSee : ByteArray := prog_5_method_20_code
def yX3_wouldSee : MethodName := ⟨RX3, "wouldSee", "(II)Z"⟩
abbrev cX3_knowers : ByteArray := prog_5_method_21_code
def yX3_knowers : MethodName := ⟨RX3, "knowers", "()I"⟩
abbrev cX3_knowingPairs : ByteArray := prog_5_method_22_code
def yX3_knowingPairs : MethodName := ⟨RX3, "knowingPairs", "()I"⟩
abbrev cX3_metPairs : ByteArray := prog_5_method_23_code
def yX3_metPairs : MethodName := ⟨RX3, "metPairs", "()I"⟩
abbrev cX3_mutualPairs : ByteArray := prog_5_method_24_code
def yX3_mutualPairs : MethodName := ⟨RX3, "mutualPairs", "([I)I"⟩
abbrev cX3_isCircle : ByteArray := prog_5_method_25_code
def yX3_isCircle : MethodName := ⟨RX3, "isCircle", "(IZ)Z"⟩
abbrev cX3_wornGuises : ByteArray := prog_5_method_26_code
def yX3_wornGuises : MethodName := ⟨RX3, "wornGuises", "()I"⟩
abbrev cX3_passedInAll : ByteArray := prog_5_method_27_code
def yX3_passedInAll : MethodName := ⟨RX3, "passedInAll", "()I"⟩
abbrev cX3_heldSpots : ByteArray := prog_5_method_28_code
def yX3_heldSpots : MethodName := ⟨RX3, "heldSpots", "()I"⟩
abbrev cX3_isMutual : ByteArray := prog_5_method_29_code
def yX3_isMutual : MethodName := ⟨RX3, "isMutual", "([III)Z"⟩
abbrev cX3_holds : ByteArray := prog_5_method_30_code
def yX3_holds : MethodName := ⟨RX3, "holds", "(II)Z"⟩
abbrev cX3_hasDays : ByteArray := prog_5_method_31_code
def yX3_hasDays : MethodName := ⟨RX3, "hasDays", "(I)Z"⟩
abbrev cX3_skipDays : ByteArray := prog_5_method_32_code
def yX3_skipDays : MethodName := ⟨RX3, "skipDays", "(I)V"⟩
abbrev cX3_passDays : ByteArray := prog_5_method_33_code
def yX3_passDays : MethodName := ⟨RX3, "passDays", "(I)V"⟩
abbrev cX3_passDay : ByteArray := prog_5_method_34_code
def yX3_passDay : MethodName := ⟨RX3, "passDay", "()V"⟩
abbrev cX3_mingle : ByteArray := prog_5_method_35_code
def yX3_mingle : MethodName := ⟨RX3, "mingle", "(II)V"⟩
abbrev cX3_meetEachOther : ByteArray := prog_5_method_36_code
def yX3_meetEachOther : MethodName := ⟨RX3, "meetEachOther", "(II)V"⟩
abbrev cX3_seeEachOther : ByteArray := prog_5_method_37_code
def yX3_seeEachOther : MethodName := ⟨RX3, "seeEachOther", "(II)V"⟩
abbrev cX3_comeToKnow : ByteArray := prog_5_method_38_code
def yX3_comeToKnow : MethodName := ⟨RX3, "comeToKnow", "(II)V"⟩
abbrev cX3_goBy : ByteArray := prog_5_method_39_code
def yX3_goBy : MethodName := ⟨RX3, "goBy", "(I)V"⟩
abbrev cX3_draw : ByteArray := prog_5_method_40_code
def yX3_draw : MethodName := ⟨RX3, "draw", "()I"⟩
def RX4 : String := "BareThursday"
def TX4 : u_T := fun k => match k with
  | 0 => ("BareThursday", "town", "LBareThursday$Town;", true)
  | 1 => ("BareThursday", "trial", "LBareThursday$Town;", true)
  | 2 => ("BareThursday", "kept", "LBareThursday$Town;", true)
  | 3 => ("BareThursday", "isKept", "Z", false)
  | 4 => ("BareThursday", "tape", "LBareThursday$Tape;", true)
  | 5 => ("BareThursday", "sheets", "LBareThursday$Sheets;", true)
  | _ => ("BareThursday", "found", "[I", true)
def tyX4 : Nat → FieldType := fun k => match k with
  | 0 => .object "BareThursday$Town"
  | 1 => .object "BareThursday$Town"
  | 2 => .object "BareThursday$Town"
  | 3 => .boolean
  | 4 => .object "BareThursday$Tape"
  | 5 => .object "BareThursday$Sheets"
  | _ => .array .int
abbrev wsX40 : List Cond := u_ws RX4 TX4 7
theorem nmX4 : ∀ a, a < 7 → ∀ b, b < 7 → a ≠ b → (TX4 a).2.1 ≠ (TX4 b).2.1 := by decide +kernel
theorem tyX4_ok : ∀ k, k < 7 → parseFieldDescriptor (TX4 k).2.2.1 = some (tyX4 k) := by decide +kernel
abbrev cX4_init : ByteArray := prog_1_method_1_code
def yX4_init : MethodName := ⟨RX4, "<init>", "()V"⟩
abbrev cX4_person : ByteArray := prog_1_method_2_code
def yX4_person : MethodName := ⟨RX4, "person", "(II)I"⟩
abbrev cX4_of : ByteArray := prog_1_method_3_code
def yX4_of : MethodName := ⟨RX4, "of", "(II)I"⟩
abbrev cX4_change : ByteArray := prog_1_method_4_code
def yX4_change : MethodName := ⟨RX4, "change", "(III)I"⟩
abbrev cX4_minds : ByteArray := prog_1_method_5_code
def yX4_minds : MethodName := ⟨RX4, "minds", "(II)I"⟩
abbrev cX4_far : ByteArray := prog_1_method_6_code
def yX4_far : MethodName := ⟨RX4, "far", "(II)I"⟩
abbrev cX4_who : ByteArray := prog_1_method_7_code
def yX4_who : MethodName := ⟨RX4, "who", "(I)I"⟩
abbrev cX4_two : ByteArray := prog_1_method_8_code
def yX4_two : MethodName := ⟨RX4, "two", "(III)I"⟩
abbrev cX4_go : ByteArray := prog_1_method_9_code
def yX4_go : MethodName := ⟨RX4, "go", "(I)I"⟩
abbrev cX4_now : ByteArray := prog_1_method_10_code
def yX4_now : MethodName := ⟨RX4, "now", "(I)I"⟩
abbrev cX4_ahead : ByteArray := prog_1_method_11_code
def yX4_ahead : MethodName := ⟨RX4, "ahead", "(III)I"⟩
abbrev cX4_joy : ByteArray := prog_1_method_12_code
def yX4_joy : MethodName := ⟨RX4, "joy", "(I)I"⟩
abbrev cX4_when : ByteArray := prog_1_method_13_code
def yX4_when : MethodName := ⟨RX4, "when", "(III)I"⟩
abbrev cX4_isSo : ByteArray := prog_1_method_14_code
def yX4_isSo : MethodName := ⟨RX4, "isSo", "(LBareThursday$Town;III)Z"⟩
abbrev cX4_known : ByteArray := prog_1_method_15_code
def yX4_known : MethodName := ⟨RX4, "known", "()I"⟩
abbrev cX4_passed : ByteArray := prog_1_method_16_code
def yX4_passed : MethodName := ⟨RX4, "passed", "(II)I"⟩
abbrev cX4_standFor : ByteArray := prog_1_method_17_code
def yX4_standFor : MethodName := ⟨RX4, "standFor", "(II)I"⟩
abbrev cX4_guiseFor : ByteArray := prog_1_method_18_code
def yX4_guiseFor : MethodName := ⟨RX4, "guiseFor", "(II)I"⟩
abbrev cX4_kindFor : ByteArray := prog_1_method_19_code
def yX4_kindFor : MethodName := ⟨RX4, "kindFor", "(II)I"⟩
abbrev cX4_mostJoyous : ByteArray := prog_1_method_20_code
def yX4_mostJoyous : MethodName := ⟨RX4, "mostJoyous", "(IIII)I"⟩
abbrev cX4_dark : ByteArray := prog_1_method_21_code
def yX4_dark : MethodName := ⟨RX4, "dark", "(I)I"⟩
abbrev cX4_staysJoyless : ByteArray := prog_1_method_22_code
def yX4_staysJoyless : MethodName := ⟨RX4, "staysJoyless", "(II)Z"⟩
abbrev cX4_circle : ByteArray := prog_1_method_23_code
def yX4_circle : MethodName := ⟨RX4, "circle", "(I)I"⟩
abbrev cX4_fits : ByteArray := prog_1_method_24_code
def yX4_fits : MethodName := ⟨RX4, "fits", "(II)I"⟩
abbrev cX4_kinds : ByteArray := prog_1_method_25_code
def yX4_kinds : MethodName := ⟨RX4, "kinds", "(II)I"⟩
abbrev cX4_fitting : ByteArray := prog_1_method_26_code
def yX4_fitting : MethodName := ⟨RX4, "fitting", "(IIII)I"⟩
abbrev cX4_meetsAsTold : ByteArray := prog_1_method_27_code
def yX4_meetsAsTold : MethodName := ⟨RX4, "meetsAsTold", "(II)Z"⟩
abbrev cX4_night : ByteArray := prog_1_method_28_code
def yX4_night : MethodName := ⟨RX4, "night", "(I)I"⟩
abbrev cX4_odds : ByteArray := prog_1_method_29_code
def yX4_odds : MethodName := ⟨RX4, "odds", "(III)J"⟩
abbrev cX4_divisorWithGuises : ByteArray := prog_1_method_30_code
def yX4_divisorWithGuises : MethodName := ⟨RX4, "divisorWithGuises", "(I)I"⟩
abbrev cX4_seed : ByteArray := prog_1_method_31_code
def yX4_seed : MethodName := ⟨RX4, "seed", "(I)I"⟩
abbrev cX4_feed : ByteArray := prog_1_method_32_code
def yX4_feed : MethodName := ⟨RX4, "feed", "(II)I"⟩
abbrev cX4_wipe : ByteArray := prog_1_method_33_code
def yX4_wipe : MethodName := ⟨RX4, "wipe", "()I"⟩
abbrev cX4_text : ByteArray := prog_1_method_34_code
def yX4_text : MethodName := ⟨RX4, "text", "()I"⟩
abbrev cX4_hold : ByteArray := prog_1_method_35_code
def yX4_hold : MethodName := ⟨RX4, "hold", "(II)I"⟩
abbrev cX4_as : ByteArray := prog_1_method_36_code
def yX4_as : MethodName := ⟨RX4, "as", "(II)I"⟩
abbrev cX4_sheet : ByteArray := prog_1_method_37_code
def yX4_sheet : MethodName := ⟨RX4, "sheet", "(III)I"⟩
abbrev cX4_write : ByteArray := prog_1_method_38_code
def yX4_write : MethodName := ⟨RX4, "write", "(III)I"⟩
abbrev cX4_copy : ByteArray := prog_1_method_39_code
def yX4_copy : MethodName := ⟨RX4, "copy", "(IIIII)I"⟩
abbrev cX4_load : ByteArray := prog_1_method_40_code
def yX4_load : MethodName := ⟨RX4, "load", "(I)I"⟩
abbrev cX4_judge : ByteArray := prog_1_method_41_code
def yX4_judge : MethodName := ⟨RX4, "judge", "(I)I"⟩
abbrev cX4_image : ByteArray := prog_1_method_42_code
def yX4_image : MethodName := ⟨RX4, "image", "()I"⟩
abbrev cX4_undo : ByteArray := prog_1_method_43_code
def yX4_undo : MethodName := ⟨RX4, "undo", "()I"⟩
abbrev cX4_tear : ByteArray := prog_1_method_44_code
def yX4_tear : MethodName := ⟨RX4, "tear", "()I"⟩
abbrev cX4_count : ByteArray := prog_1_method_45_code
def yX4_count : MethodName := ⟨RX4, "count", "(I)I"⟩
abbrev cX4_status : ByteArray := prog_1_method_46_code
def yX4_status : MethodName := ⟨RX4, "status", "(I)I"⟩
abbrev cX4_finding : ByteArray := prog_1_method_47_code
def yX4_finding : MethodName := ⟨RX4, "finding", "(I)I"⟩
abbrev cX4_isIn : ByteArray := prog_1_method_48_code
def yX4_isIn : MethodName := ⟨RX4, "isIn", "(II)Z"⟩
abbrev cX4_bit : ByteArray := prog_1_method_49_code
def yX4_bit : MethodName := ⟨RX4, "bit", "(Z)I"⟩
def RX5 : String := "BareThursdayModel"
def TX5 : u_T := fun k => match k with
  | 0 => ("BareThursdayModel", "s", "[I", true)
  | 1 => ("BareThursdayModel", "kept", "[I", true)
  | 2 => ("BareThursdayModel", "aside", "[I", true)
  | 3 => ("BareThursdayModel", "isKept", "Z", false)
  | 4 => ("BareThursdayModel", "found", "[I", true)
  | 5 => ("BareThursdayModel", "tape", "[I", true)
  | 6 => ("BareThursdayModel", "taped", "I", false)
  | 7 => ("BareThursdayModel", "token", "I", false)
  | 8 => ("BareThursdayModel", "begun", "I", false)
  | 9 => ("BareThursdayModel", "ended", "I", false)
  | 10 => ("BareThursdayModel", "value", "J", false)
  | 11 => ("BareThursdayModel", "letters", "[C", true)
  | 12 => ("BareThursdayModel", "more", "[C", true)
  | 13 => ("BareThursdayModel", "others", "[C", true)
  | 14 => ("BareThursdayModel", "widths", "[I", true)
  | 15 => ("BareThursdayModel", "sizes", "[I", true)
  | 16 => ("BareThursdayModel", "cells", "[I", true)
  | _ => ("BareThursdayModel", "carried", "[I", true)
def tyX5 : Nat → FieldType := fun k => match k with
  | 0 => .array .int
  | 1 => .array .int
  | 2 => .array .int
  | 3 => .boolean
  | 4 => .array .int
  | 5 => .array .int
  | 6 => .int
  | 7 => .int
  | 8 => .int
  | 9 => .int
  | 10 => .long
  | 11 => .array .char
  | 12 => .array .char
  | 13 => .array .char
  | 14 => .array .int
  | 15 => .array .int
  | 16 => .array .int
  | _ => .array .int
abbrev wsX50 : List Cond := u_ws RX5 TX5 18
theorem nmX5 : ∀ a, a < 18 → ∀ b, b < 18 → a ≠ b → (TX5 a).2.1 ≠ (TX5 b).2.1 := by decide +kernel
theorem tyX5_ok : ∀ k, k < 18 → parseFieldDescriptor (TX5 k).2.2.1 = some (tyX5 k) := by decide +kernel
abbrev cX5_init : ByteArray := prog_7_method_1_code
def yX5_init : MethodName := ⟨RX5, "<init>", "()V"⟩
abbrev cX5_no : ByteArray := prog_7_method_2_code
def yX5_no : MethodName := ⟨RX5, "no", "(I)I"⟩
abbrev cX5_in1 : ByteArray := prog_7_method_3_code
def yX5_in1 : MethodName := ⟨RX5, "in1", "(III)Z"⟩
abbrev cX5_less : ByteArray := prog_7_method_4_code
def yX5_less : MethodName := ⟨RX5, "less", "(II)I"⟩
abbrev cX5_bits : ByteArray := prog_7_method_5_code
def yX5_bits : MethodName := ⟨RX5, "bits", "(I)I"⟩
abbrev cX5_isCell : ByteArray := prog_7_method_6_code
def yX5_isCell : MethodName := ⟨RX5, "isCell", "(I)Z"⟩
abbrev cX5_isGuise : ByteArray := prog_7_method_7_code
def yX5_isGuise : MethodName := ⟨RX5, "isGuise", "(I)Z"⟩
abbrev cX5_isPerson : ByteArray := prog_7_method_8_code
def yX5_isPerson : MethodName := ⟨RX5, "isPerson", "(I)Z"⟩
abbrev cX5_areTwo : ByteArray := prog_7_method_9_code
def yX5_areTwo : MethodName := ⟨RX5, "areTwo", "(II)Z"⟩
abbrev cX5_get : ByteArray := prog_7_method_10_code
def yX5_get : MethodName := ⟨RX5, "get", "(II)I"⟩
abbrev cX5_puts : ByteArray := prog_7_method_11_code
def yX5_puts : MethodName := ⟨RX5, "puts", "(III)V"⟩
abbrev cX5_setsAside : ByteArray := prog_7_method_12_code
def yX5_setsAside : MethodName := ⟨RX5, "setsAside", "()V"⟩
abbrev cX5_laysBack : ByteArray := prog_7_method_13_code
def yX5_laysBack : MethodName := ⟨RX5, "laysBack", "()V"⟩
abbrev cX5_isBare : ByteArray := prog_7_method_14_code
def yX5_isBare : MethodName := ⟨RX5, "isBare", "()Z"⟩
abbrev cX5_walksOf : ByteArray := prog_7_method_15_code
def yX5_walksOf : MethodName := ⟨RX5, "walksOf", "(I)I"⟩
abbrev cX5_shiftsOf : ByteArray := prog_7_method_16_code
def yX5_shiftsOf : MethodName := ⟨RX5, "shiftsOf", "(I)I"⟩
abbrev cX5_mindsOf : ByteArray := prog_7_method_17_code
def yX5_mindsOf : MethodName := ⟨RX5, "mindsOf", "(II)Z"⟩
abbrev cX5_shinesOf : ByteArray := prog_7_method_18_code
def yX5_shinesOf : MethodName := ⟨RX5, "shinesOf", "(I)I"⟩
abbrev cX5_gladdensOf : ByteArray := prog_7_method_19_code
def yX5_gladdensOf : MethodName := ⟨RX5, "gladdensOf", "(I)I"⟩
abbrev cX5_farOf : ByteArray := prog_7_method_20_code
def yX5_farOf : MethodName := ⟨RX5, "farOf", "(II)I"⟩
abbrev cX5_hasMet : ByteArray := prog_7_method_21_code
def yX5_hasMet : MethodName := ⟨RX5, "hasMet", "(II)Z"⟩
abbrev cX5_doesKnow : ByteArray := prog_7_method_22_code
def yX5_doesKnow : MethodName := ⟨RX5, "doesKnow", "(II)Z"⟩
abbrev cX5_wouldSee : ByteArray := prog_7_method_23_code
def yX5_wouldSee : MethodName := ⟨RX5, "wouldSee", "(II)Z"⟩
abbrev cX5_meets : ByteArray := prog_7_method_24_code
def yX5_meets : MethodName := ⟨RX5, "meets", "(II)V"⟩
abbrev cX5_comesToKnow : ByteArray := prog_7_method_25_code
def yX5_comesToKnow : MethodName := ⟨RX5, "comesToKnow", "(II)V"⟩
abbrev cX5_passesBy : ByteArray := prog_7_method_26_code
def yX5_passesBy : MethodName := ⟨RX5, "passesBy", "(I)V"⟩
abbrev cX5_barefaced : ByteArray := prog_7_method_27_code
def yX5_barefaced : MethodName := ⟨RX5, "barefaced", "(II)V"⟩
abbrev cX5_goesOn : ByteArray := prog_7_method_28_code
def yX5_goesOn : MethodName := ⟨RX5, "goesOn", "(IZ)V"⟩
abbrev cX5_day : ByteArray := prog_7_method_29_code
def yX5_day : MethodName := ⟨RX5, "day", "()V"⟩
abbrev cX5_goes : ByteArray := prog_7_method_30_code
def yX5_goes : MethodName := ⟨RX5, "goes", "(I)V"⟩
abbrev cX5_adds : ByteArray := prog_7_method_31_code
def yX5_adds : MethodName := ⟨RX5, "adds", "(I)V"⟩
abbrev cX5_person : ByteArray := prog_7_method_32_code
def yX5_person : MethodName := ⟨RX5, "person", "(II)I"⟩
abbrev cX5_of : ByteArray := prog_7_method_33_code
def yX5_of : MethodName := ⟨RX5, "of", "(II)I"⟩
abbrev cX5_canBe : ByteArray := prog_7_method_34_code
def yX5_canBe : MethodName := ⟨RX5, "canBe", "(III)Z"⟩
abbrev cX5_change : ByteArray := prog_7_method_35_code
def yX5_change : MethodName := ⟨RX5, "change", "(III)I"⟩
abbrev cX5_minds : ByteArray := prog_7_method_36_code
def yX5_minds : MethodName := ⟨RX5, "minds", "(II)I"⟩
abbrev cX5_far : ByteArray := prog_7_method_37_code
def yX5_far : MethodName := ⟨RX5, "far", "(II)I"⟩
abbrev cX5_who : ByteArray := prog_7_method_38_code
def yX5_who : MethodName := ⟨RX5, "who", "(I)I"⟩
abbrev cX5_two : ByteArray := prog_7_method_39_code
def yX5_two : MethodName := ⟨RX5, "two", "(III)I"⟩
abbrev cX5_go : ByteArray := prog_7_method_40_code
def yX5_go : MethodName := ⟨RX5, "go", "(I)I"⟩
abbrev cX5_passedAll : ByteArray := prog_7_method_41_code
def yX5_passedAll : MethodName := ⟨RX5, "passedAll", "()I"⟩
abbrev cX5_whoKnow : ByteArray := prog_7_method_42_code
def yX5_whoKnow : MethodName := ⟨RX5, "whoKnow", "()I"⟩
abbrev cX5_pairs : ByteArray := prog_7_method_43_code
def yX5_pairs : MethodName := ⟨RX5, "pairs", "(I)I"⟩
abbrev cX5_worn : ByteArray := prog_7_method_44_code
def yX5_worn : MethodName := ⟨RX5, "worn", "()I"⟩
abbrev cX5_now : ByteArray := prog_7_method_45_code
def yX5_now : MethodName := ⟨RX5, "now", "(I)I"⟩
abbrev cX5_thenAt : ByteArray := prog_7_method_46_code
def yX5_thenAt : MethodName := ⟨RX5, "thenAt", "(II)I"⟩
abbrev cX5_ahead : ByteArray := prog_7_method_47_code
def yX5_ahead : MethodName := ⟨RX5, "ahead", "(III)I"⟩
abbrev cX5_joy : ByteArray := prog_7_method_48_code
def yX5_joy : MethodName := ⟨RX5, "joy", "(I)I"⟩
abbrev cX5_isSo : ByteArray := prog_7_method_49_code
def yX5_isSo : MethodName := ⟨RX5, "isSo", "(III)Z"⟩
abbrev cX5_firstBy : ByteArray := prog_7_method_50_code
def yX5_firstBy : MethodName := ⟨RX5, "firstBy", "(III)I"⟩
abbrev cX5_when : ByteArray := prog_7_method_51_code
def yX5_when : MethodName := ⟨RX5, "when", "(III)I"⟩
abbrev cX5_known : ByteArray := prog_7_method_52_code
def yX5_known : MethodName := ⟨RX5, "known", "()I"⟩
abbrev cX5_passed : ByteArray := prog_7_method_53_code
def yX5_passed : MethodName := ⟨RX5, "passed", "(II)I"⟩
abbrev cX5_gladdestBy : ByteArray := prog_7_method_54_code
def yX5_gladdestBy : MethodName := ⟨RX5, "gladdestBy", "(IIII)I"⟩
abbrev cX5_isAsked : ByteArray := prog_7_method_55_code
def yX5_isAsked : MethodName := ⟨RX5, "isAsked", "(II)Z"⟩
abbrev cX5_standFor : ByteArray := prog_7_method_56_code
def yX5_standFor : MethodName := ⟨RX5, "standFor", "(II)I"⟩
abbrev cX5_guiseFor : ByteArray := prog_7_method_57_code
def yX5_guiseFor : MethodName := ⟨RX5, "guiseFor", "(II)I"⟩
abbrev cX5_kindFor : ByteArray := prog_7_method_58_code
def yX5_kindFor : MethodName := ⟨RX5, "kindFor", "(II)I"⟩
abbrev cX5_joyWith : ByteArray := prog_7_method_59_code
def yX5_joyWith : MethodName := ⟨RX5, "joyWith", "(II)I"⟩
abbrev cX5_dark : ByteArray := prog_7_method_60_code
def yX5_dark : MethodName := ⟨RX5, "dark", "(I)I"⟩
abbrev cX5_isCircle : ByteArray := prog_7_method_61_code
def yX5_isCircle : MethodName := ⟨RX5, "isCircle", "(II)Z"⟩
abbrev cX5_circle : ByteArray := prog_7_method_62_code
def yX5_circle : MethodName := ⟨RX5, "circle", "(I)I"⟩
abbrev cX5_isSheet : ByteArray := prog_7_method_63_code
def yX5_isSheet : MethodName := ⟨RX5, "isSheet", "(I)Z"⟩
abbrev cX5_wrongSheet : ByteArray := prog_7_method_64_code
def yX5_wrongSheet : MethodName := ⟨RX5, "wrongSheet", "(I)I"⟩
abbrev cX5_wrongTold : ByteArray := prog_7_method_65_code
def yX5_wrongTold : MethodName := ⟨RX5, "wrongTold", "(II)I"⟩
abbrev cX5_told : ByteArray := prog_7_method_66_code
def yX5_told : MethodName := ⟨RX5, "told", "(II)I"⟩
abbrev cX5_allThatFit : ByteArray := prog_7_method_67_code
def yX5_allThatFit : MethodName := ⟨RX5, "allThatFit", "(IIII)I"⟩
abbrev cX5_fits : ByteArray := prog_7_method_68_code
def yX5_fits : MethodName := ⟨RX5, "fits", "(II)I"⟩
abbrev cX5_kinds : ByteArray := prog_7_method_69_code
def yX5_kinds : MethodName := ⟨RX5, "kinds", "(II)I"⟩
abbrev cX5_draw : ByteArray := prog_7_method_70_code
def yX5_draw : MethodName := ⟨RX5, "draw", "()I"⟩
abbrev cX5_night : ByteArray := prog_7_method_71_code
def yX5_night : MethodName := ⟨RX5, "night", "(I)I"⟩
abbrev cX5_odds : ByteArray := prog_7_method_72_code
def yX5_odds : MethodName := ⟨RX5, "odds", "(III)J"⟩
abbrev cX5_seed : ByteArray := prog_7_method_73_code
def yX5_seed : MethodName := ⟨RX5, "seed", "(I)I"⟩
abbrev cX5_feed : ByteArray := prog_7_method_74_code
def yX5_feed : MethodName := ⟨RX5, "feed", "(II)I"⟩
abbrev cX5_wipe : ByteArray := prog_7_method_75_code
def yX5_wipe : MethodName := ⟨RX5, "wipe", "()I"⟩
abbrev cX5_isLetter : ByteArray := prog_7_method_76_code
def yX5_isLetter : MethodName := ⟨RX5, "isLetter", "(I)Z"⟩
abbrev cX5_isDigit : ByteArray := prog_7_method_77_code
def yX5_isDigit : MethodName := ⟨RX5, "isDigit", "(I)Z"⟩
abbrev cX5_nextToken : ByteArray := prog_7_method_78_code
def yX5_nextToken : MethodName := ⟨RX5, "nextToken", "()V"⟩
abbrev cX5_wordOf : ByteArray := prog_7_method_79_code
def yX5_wordOf : MethodName := ⟨RX5, "wordOf", "([C)I"⟩
abbrev cX5_takesNumber : ByteArray := prog_7_method_80_code
def yX5_takesNumber : MethodName := ⟨RX5, "takesNumber", "(II)I"⟩
abbrev cX5_readsPerson : ByteArray := prog_7_method_81_code
def yX5_readsPerson : MethodName := ⟨RX5, "readsPerson", "(I)Z"⟩
abbrev cX5_readsMet : ByteArray := prog_7_method_82_code
def yX5_readsMet : MethodName := ⟨RX5, "readsMet", "()Z"⟩
abbrev cX5_readsItem : ByteArray := prog_7_method_83_code
def yX5_readsItem : MethodName := ⟨RX5, "readsItem", "()Z"⟩
abbrev cX5_text : ByteArray := prog_7_method_84_code
def yX5_text : MethodName := ⟨RX5, "text", "()I"⟩
abbrev cX5_isSpot : ByteArray := prog_7_method_85_code
def yX5_isSpot : MethodName := ⟨RX5, "isSpot", "(I)Z"⟩
abbrev cX5_hold : ByteArray := prog_7_method_86_code
def yX5_hold : MethodName := ⟨RX5, "hold", "(II)I"⟩
abbrev cX5_above : ByteArray := prog_7_method_87_code
def yX5_above : MethodName := ⟨RX5, "above", "(I)I"⟩
abbrev cX5_as : ByteArray := prog_7_method_88_code
def yX5_as : MethodName := ⟨RX5, "as", "(II)I"⟩
abbrev cX5_sheet : ByteArray := prog_7_method_89_code
def yX5_sheet : MethodName := ⟨RX5, "sheet", "(III)I"⟩
abbrev cX5_write : ByteArray := prog_7_method_90_code
def yX5_write : MethodName := ⟨RX5, "write", "(III)I"⟩
abbrev cX5_copy : ByteArray := prog_7_method_91_code
def yX5_copy : MethodName := ⟨RX5, "copy", "(IIIII)I"⟩
abbrev cX5_load : ByteArray := prog_7_method_92_code
def yX5_load : MethodName := ⟨RX5, "load", "(I)I"⟩
abbrev cX5_judge : ByteArray := prog_7_method_93_code
def yX5_judge : MethodName := ⟨RX5, "judge", "(I)I"⟩
abbrev cX5_image : ByteArray := prog_7_method_94_code
def yX5_image : MethodName := ⟨RX5, "image", "()I"⟩
abbrev cX5_undo : ByteArray := prog_7_method_95_code
def yX5_undo : MethodName := ⟨RX5, "undo", "()I"⟩
abbrev cX5_tear : ByteArray := prog_7_method_96_code
def yX5_tear : MethodName := ⟨RX5, "tear", "()I"⟩
abbrev cX5_count : ByteArray := prog_7_method_97_code
def yX5_count : MethodName := ⟨RX5, "count", "(I)I"⟩
abbrev cX5_status : ByteArray := prog_7_method_98_code
def yX5_status : MethodName := ⟨RX5, "status", "(I)I"⟩
def RJx145de : String := "java/io/Serializable"
def TJx145de : u_T := fun k => match k with
  | _ => ("", "", "", false)
def tyJx145de : Nat → FieldType := fun k => match k with
  | _ => .int
abbrev wsJx145de0 : List Cond := u_ws RJx145de TJx145de 0
def RJx9f9b0 : String := "java/lang/CharSequence"
def TJx9f9b0 : u_T := fun k => match k with
  | _ => ("", "", "", false)
def tyJx9f9b0 : Nat → FieldType := fun k => match k with
  | _ => .int
abbrev wsJx9f9b00 : List Cond := u_ws RJx9f9b0 TJx9f9b0 0
def RJxb160c : String := "java/lang/Comparable"
def TJxb160c : u_T := fun k => match k with
  | _ => ("", "", "", false)
def tyJxb160c : Nat → FieldType := fun k => match k with
  | _ => .int
abbrev wsJxb160c0 : List Cond := u_ws RJxb160c TJxb160c 0
def RJ6 : String := "java/lang/Integer"
def TJ6 : u_T := fun k => match k with
  | _ => ("", "", "", false)
def tyJ6 : Nat → FieldType := fun k => match k with
  | _ => .int
abbrev wsJ60 : List Cond := u_ws RJ6 TJ6 0
abbrev cJ6_bitCount_0f7a4 : ByteArray := prog_8_method_49_code
def yJ6_bitCount_0f7a4 : MethodName := ⟨RJ6, "bitCount", "(I)I"⟩
def RJ9 : String := "java/lang/Math"
def TJ9 : u_T := fun k => match k with
  | _ => ("", "", "", false)
def tyJ9 : Nat → FieldType := fun k => match k with
  | _ => .int
abbrev wsJ90 : List Cond := u_ws RJ9 TJ9 0
abbrev cJ9_abs_0f7a4 : ByteArray := prog_9_method_59_code
def yJ9_abs_0f7a4 : MethodName := ⟨RJ9, "abs", "(I)I"⟩
abbrev cJ9_min_7cf53 : ByteArray := prog_9_method_69_code
def yJ9_min_7cf53 : MethodName := ⟨RJ9, "min", "(II)I"⟩
def RJ0 : String := "java/lang/String"
def TJ0 : u_T := fun k => match k with
  | _ => ("", "", "", false)
def tyJ0 : Nat → FieldType := fun k => match k with
  | _ => .int
abbrev wsJ00 : List Cond := u_ws RJ0 TJ0 0
abbrev cJ0_length_8abf5 : ByteArray := prog_10_method_54_code
def yJ0_length_8abf5 : MethodName := ⟨RJ0, "length", "()I"⟩
abbrev cJ0_charAt_5068e : ByteArray := prog_10_method_56_code
def yJ0_charAt_5068e : MethodName := ⟨RJ0, "charAt", "(I)C"⟩
abbrev cJ0_coder_7d493 : ByteArray := prog_10_method_152_code
def yJ0_coder_7d493 : MethodName := ⟨RJ0, "coder", "()B"⟩
abbrev cJ0_isLatin1_aae02 : ByteArray := prog_10_method_154_code
def yJ0_isLatin1_aae02 : MethodName := ⟨RJ0, "isLatin1", "()Z"⟩
abbrev cJ0_checkIndex_df160 : ByteArray := prog_10_method_155_code
def yJ0_checkIndex_df160 : MethodName := ⟨RJ0, "checkIndex", "(II)V"⟩
def RJ1 : String := "java/lang/StringLatin1"
def TJ1 : u_T := fun k => match k with
  | _ => ("", "", "", false)
def tyJ1 : Nat → FieldType := fun k => match k with
  | _ => .int
abbrev wsJ10 : List Cond := u_ws RJ1 TJ1 0
abbrev cJ1_charAt_3b067 : ByteArray := prog_11_method_2_code
def yJ1_charAt_3b067 : MethodName := ⟨RJ1, "charAt", "([BI)C"⟩
def RJ2 : String := "java/lang/StringUTF16"
def TJ2 : u_T := fun k => match k with
  | _ => ("", "", "", false)
def tyJ2 : Nat → FieldType := fun k => match k with
  | _ => .int
abbrev wsJ20 : List Cond := u_ws RJ2 TJ2 0
abbrev cJ2_getChar_3b067 : ByteArray := prog_12_method_5_code
def yJ2_getChar_3b067 : MethodName := ⟨RJ2, "getChar", "([BI)C"⟩
abbrev cJ2_length_9d52b : ByteArray := prog_12_method_6_code
def yJ2_length_9d52b : MethodName := ⟨RJ2, "length", "([B)I"⟩
abbrev cJ2_charAt_3b067 : ByteArray := prog_12_method_83_code
def yJ2_charAt_3b067 : MethodName := ⟨RJ2, "charAt", "([BI)C"⟩
abbrev cJ2_checkIndex_2214a : ByteArray := prog_12_method_91_code
def yJ2_checkIndex_2214a : MethodName := ⟨RJ2, "checkIndex", "(I[B)V"⟩
def RJ10 : String := "java/lang/System"
def TJ10 : u_T := fun k => match k with
  | _ => ("", "", "", false)
def tyJ10 : Nat → FieldType := fun k => match k with
  | _ => .int
abbrev wsJ100 : List Cond := u_ws RJ10 TJ10 0
def RJxfd54e : String := "java/lang/constant/Constable"
def TJxfd54e : u_T := fun k => match k with
  | _ => ("", "", "", false)
def tyJxfd54e : Nat → FieldType := fun k => match k with
  | _ => .int
abbrev wsJxfd54e0 : List Cond := u_ws RJxfd54e TJxfd54e 0
def RJx3cf43 : String := "java/lang/constant/ConstantDesc"
def TJx3cf43 : u_T := fun k => match k with
  | _ => ("", "", "", false)
def tyJx3cf43 : Nat → FieldType := fun k => match k with
  | _ => .int
abbrev wsJx3cf430 : List Cond := u_ws RJx3cf43 TJx3cf43 0
def RJ7 : String := "java/util/Arrays"
def TJ7 : u_T := fun k => match k with
  | _ => ("", "", "", false)
def tyJ7 : Nat → FieldType := fun k => match k with
  | _ => .int
abbrev wsJ70 : List Cond := u_ws RJ7 TJ7 0
abbrev cJ7_rangeCheck_23922 : ByteArray := prog_14_method_30_code
def yJ7_rangeCheck_23922 : MethodName := ⟨RJ7, "rangeCheck", "(III)V"⟩
abbrev cJ7_fill_53178 : ByteArray := prog_14_method_103_code
def yJ7_fill_53178 : MethodName := ⟨RJ7, "fill", "([II)V"⟩
abbrev cJ7_fill_fda19 : ByteArray := prog_14_method_104_code
def yJ7_fill_fda19 : MethodName := ⟨RJ7, "fill", "([IIII)V"⟩
def RJ3 : String := "jdk/internal/util/Preconditions"
def TJ3 : u_T := fun k => match k with
  | _ => ("", "", "", false)
def tyJ3 : Nat → FieldType := fun k => match k with
  | _ => .int
abbrev wsJ30 : List Cond := u_ws RJ3 TJ3 0
abbrev cJ3_checkIndex_8e157 : ByteArray := prog_15_method_11_code
def yJ3_checkIndex_8e157 : MethodName := ⟨RJ3, "checkIndex", "(IILjava/util/function/BiFunction;)I"⟩
def RL : String := "BareThursdayLaw"
abbrev cL_law : ByteArray := code
def yL_law : MethodName := ⟨RL, "law", "([I)Z"⟩
def wA : List Cond := lw_tbl.filter goodWord
theorem wA_of {w : Cond} (h : w ∈ lw_tbl) (g : goodWord w = true) : w ∈ wA := List.mem_filter.mpr ⟨h, g⟩
theorem wA_tbl {w : Cond} (h : w ∈ wA) : w ∈ lw_tbl := (List.mem_filter.mp h).1
theorem wA_good {w : Cond} (h : w ∈ wA) : goodWord w = true := (List.mem_filter.mp h).2
theorem tb_sub {w : Cond} (h : w ∈ tables_1) : w ∈ lw_tbl := List.mem_append_right _ h
theorem kA0 {w : Cond} {i : Nat} (h : (k2_sels lw_privs)[i]? = some w) (g : goodWord w = true) : w ∈ wA := wA_of (List.mem_append_left _ (List.mem_of_getElem? h)) g
theorem kA1 {w : Cond} {i : Nat} (h : tables_1_1[i]? = some w) (g : goodWord w = true) : w ∈ wA := wA_of (tb_sub (List.mem_append_left _ (List.mem_of_getElem? h))) g
theorem kA2 {w : Cond} {i : Nat} (h : tables_1_2[i]? = some w) (g : goodWord w = true) : w ∈ wA := wA_of (tb_sub (List.mem_append_right _ (List.mem_append_left _ (List.mem_of_getElem? h)))) g
theorem kA3 {w : Cond} {i : Nat} (h : tables_1_3[i]? = some w) (g : goodWord w = true) : w ∈ wA := wA_of (tb_sub (List.mem_append_right _ (List.mem_append_right _ (List.mem_append_left _ (List.mem_of_getElem? h))))) g
theorem kA4 {w : Cond} {i : Nat} (h : tables_1_4[i]? = some w) (g : goodWord w = true) : w ∈ wA := wA_of (tb_sub (List.mem_append_right _ (List.mem_append_right _ (List.mem_append_right _ (List.mem_append_left _ (List.mem_of_getElem? h)))))) g
theorem kA5 {w : Cond} {i : Nat} (h : tables_1_5[i]? = some w) (g : goodWord w = true) : w ∈ wA := wA_of (tb_sub (List.mem_append_right _ (List.mem_append_right _ (List.mem_append_right _ (List.mem_append_right _ (List.mem_of_getElem? h)))))) g
theorem k1_0 : (Jvm.Cond.initialized "BareThursdayLaw") ∈ wA := kA1 (i := 0) rfl rfl
theorem k1_1 : (Jvm.Cond.initialized "BareThursday") ∈ wA := kA1 (i := 1) rfl rfl
theorem k1_2 : (Jvm.Cond.initialized "BareThursday$Town") ∈ wA := kA1 (i := 2) rfl rfl
theorem k1_3 : (Jvm.Cond.initialized "java/util/Arrays") ∈ wA := kA1 (i := 3) rfl rfl
theorem k1_4 : (Jvm.Cond.initialized "BareThursday$Tape") ∈ wA := kA1 (i := 4) rfl rfl
theorem k1_5 : (Jvm.Cond.initialized "BareThursday$Sheets") ∈ wA := kA1 (i := 5) rfl rfl
theorem k1_6 : (Jvm.Cond.initialized "BareThursdayModel") ∈ wA := kA1 (i := 6) rfl rfl
theorem k1_7 : (Jvm.Cond.initialized "BareThursday$Kinds") ∈ wA := kA1 (i := 7) rfl rfl
theorem k1_8 : (Jvm.Cond.initialized "java/lang/Integer") ∈ wA := kA1 (i := 8) rfl rfl
theorem k1_9 : (Jvm.Cond.initialized "java/lang/Math") ∈ wA := kA1 (i := 9) rfl rfl
theorem k1_10 : (Jvm.Cond.initialized "java/lang/System") ∈ wA := kA1 (i := 10) rfl rfl
theorem k1_11 : (Jvm.Cond.initialized "java/lang/String") ∈ wA := kA1 (i := 11) rfl rfl
theorem k1_12 : (Jvm.Cond.initialized "java/lang/StringLatin1") ∈ wA := kA1 (i := 12) rfl rfl
theorem k1_13 : (Jvm.Cond.initialized "jdk/internal/util/Preconditions") ∈ wA := kA1 (i := 13) rfl rfl
theorem k1_14 : (Jvm.Cond.initialized "java/lang/StringUTF16") ∈ wA := kA1 (i := 14) rfl rfl
theorem k1_15 : (Jvm.Cond.classLink "BareThursdayLaw" (7 : Nat) "BareThursday") ∈ wA := kA1 (i := 15) rfl rfl
theorem k1_16 : (Jvm.Cond.instantiable "BareThursday" (7 : Nat)) ∈ wA := kA1 (i := 16) rfl rfl
theorem k1_17 : (Jvm.Cond.methodLink "BareThursdayLaw" (9 : Nat) ({ cls := "BareThursday", name := "<init>", desc := "()V" } : Jvm.MethodName)) ∈ wA := kA1 (i := 17) rfl rfl
theorem k1_18 : (Jvm.Cond.instanceMethod ({ cls := "BareThursday", name := "<init>", desc := "()V" } : Jvm.MethodName)) ∈ wA := kA1 (i := 18) rfl rfl
theorem k1_19 : (Jvm.Cond.code ({ cls := "BareThursday", name := "<init>", desc := "()V" } : Jvm.MethodName) prog_1_method_1_code (1 : Nat) (Option.none : Option Jvm.ClassFile.FieldType)) ∈ wA := kA1 (i := 19) rfl rfl
theorem k1_20 : (Jvm.Cond.methodLink "BareThursday" (1 : Nat) ({ cls := "java/lang/Object", name := "<init>", desc := "()V" } : Jvm.MethodName)) ∈ wA := kA1 (i := 20) rfl rfl
theorem k1_21 : (Jvm.Cond.instanceMethod ({ cls := "java/lang/Object", name := "<init>", desc := "()V" } : Jvm.MethodName)) ∈ wA := kA1 (i := 21) rfl rfl
theorem k1_22 : (Jvm.Cond.code ({ cls := "java/lang/Object", name := "<init>", desc := "()V" } : Jvm.MethodName) object_method_1_code (1 : Nat) (Option.none : Option Jvm.ClassFile.FieldType)) ∈ wA := kA1 (i := 22) rfl rfl
theorem k1_23 : (Jvm.Cond.classLink "BareThursday" (7 : Nat) "BareThursday$Town") ∈ wA := kA1 (i := 23) rfl rfl
theorem k1_24 : (Jvm.Cond.instantiable "BareThursday$Town" (12 : Nat)) ∈ wA := kA1 (i := 24) rfl rfl
theorem k1_25 : (Jvm.Cond.methodLink "BareThursday" (9 : Nat) ({ cls := "BareThursday$Town", name := "<init>", desc := "()V" } : Jvm.MethodName)) ∈ wA := kA1 (i := 25) rfl rfl
theorem k1_26 : (Jvm.Cond.instanceMethod ({ cls := "BareThursday$Town", name := "<init>", desc := "()V" } : Jvm.MethodName)) ∈ wA := kA1 (i := 26) rfl rfl
theorem k1_27 : (Jvm.Cond.code ({ cls := "BareThursday$Town", name := "<init>", desc := "()V" } : Jvm.MethodName) prog_5_method_1_code (1 : Nat) (Option.none : Option Jvm.ClassFile.FieldType)) ∈ wA := kA1 (i := 27) rfl rfl
theorem k1_28 : (Jvm.Cond.methodLink "BareThursday$Town" (1 : Nat) ({ cls := "java/lang/Object", name := "<init>", desc := "()V" } : Jvm.MethodName)) ∈ wA := kA1 (i := 28) rfl rfl
theorem k1_29 : (Jvm.Cond.methodLink "BareThursday$Town" (38 : Nat) ({ cls := "java/util/Arrays", name := "fill", desc := "([II)V" } : Jvm.MethodName)) ∈ wA := kA1 (i := 29) rfl rfl
theorem k1_30 : (Jvm.Cond.static ({ cls := "java/util/Arrays", name := "fill", desc := "([II)V" } : Jvm.MethodName)) ∈ wA := kA1 (i := 30) rfl rfl
theorem k1_31 : (Jvm.Cond.code ({ cls := "java/util/Arrays", name := "fill", desc := "([II)V" } : Jvm.MethodName) prog_14_method_103_code (4 : Nat) (Option.none : Option Jvm.ClassFile.FieldType)) ∈ wA := kA1 (i := 31) rfl rfl
theorem k1_32 : (Jvm.Cond.fieldLink "BareThursday$Town" (44 : Nat) "BareThursday$Town" "people" "I") ∈ wA := kA1 (i := 32) rfl rfl
theorem k1_33 : (Jvm.Cond.fieldLink "BareThursday$Tape" (98 : Nat) "BareThursday$Town" "people" "I") ∈ wA := kA1 (i := 33) rfl rfl
theorem k1_34 : (Jvm.Cond.fieldLink "BareThursday" (144 : Nat) "BareThursday$Town" "people" "I") ∈ wA := kA1 (i := 34) rfl rfl
theorem k1_35 : (Jvm.Cond.fieldLink "BareThursday$Town" (47 : Nat) "BareThursday$Town" "day" "I") ∈ wA := kA1 (i := 35) rfl rfl
theorem k1_36 : (Jvm.Cond.fieldLink "BareThursday" (107 : Nat) "BareThursday$Town" "day" "I") ∈ wA := kA1 (i := 36) rfl rfl
theorem k1_37 : (Jvm.Cond.fieldLink "BareThursday$Town" (50 : Nat) "BareThursday$Town" "joy" "I") ∈ wA := kA1 (i := 37) rfl rfl
theorem k1_38 : (Jvm.Cond.fieldLink "BareThursday" (103 : Nat) "BareThursday$Town" "joy" "I") ∈ wA := kA1 (i := 38) rfl rfl
theorem k1_39 : (Jvm.Cond.fieldLink "BareThursday$Town" (7 : Nat) "BareThursday$Town" "z" "I") ∈ wA := kA1 (i := 39) rfl rfl
theorem k1_40 : (Jvm.Cond.fieldLink "BareThursday" (189 : Nat) "BareThursday$Town" "z" "I") ∈ wA := kA1 (i := 40) rfl rfl
theorem k1_41 : (Jvm.Cond.fieldLink "BareThursday$Town" (13 : Nat) "BareThursday$Town" "spots" "[I") ∈ wA := kA1 (i := 41) rfl rfl
theorem k1_42 : (Jvm.Cond.fieldLink "BareThursday" (206 : Nat) "BareThursday$Town" "spots" "[I") ∈ wA := kA1 (i := 42) rfl rfl
theorem k1_43 : (Jvm.Cond.fieldLink "BareThursday$Town" (17 : Nat) "BareThursday$Town" "kind" "[I") ∈ wA := kA1 (i := 43) rfl rfl
theorem k1_44 : (Jvm.Cond.fieldLink "BareThursday$Town" (20 : Nat) "BareThursday$Town" "cell" "[I") ∈ wA := kA1 (i := 44) rfl rfl
theorem k1_45 : (Jvm.Cond.fieldLink "BareThursday$Town" (23 : Nat) "BareThursday$Town" "guise" "[I") ∈ wA := kA1 (i := 45) rfl rfl
theorem k1_46 : (Jvm.Cond.fieldLink "BareThursday$Town" (26 : Nat) "BareThursday$Town" "met" "[I") ∈ wA := kA1 (i := 46) rfl rfl
theorem k1_47 : (Jvm.Cond.fieldLink "BareThursday$Town" (29 : Nat) "BareThursday$Town" "knows" "[I") ∈ wA := kA1 (i := 47) rfl rfl
theorem k1_48 : (Jvm.Cond.fieldLink "BareThursday$Town" (32 : Nat) "BareThursday$Town" "out" "[I") ∈ wA := kA1 (i := 48) rfl rfl
theorem k1_49 : (Jvm.Cond.fieldLink "BareThursday$Town" (35 : Nat) "BareThursday$Town" "passes" "[I") ∈ wA := kA1 (i := 49) rfl rfl
theorem k1_75 : (Jvm.Cond.arrayClass Jvm.ClassFile.FieldType.int) ∈ wA := kA1 (i := 75) rfl rfl
theorem k1_76 : (Jvm.Cond.classLink "BareThursday" (22 : Nat) "BareThursday$Tape") ∈ wA := kA1 (i := 76) rfl rfl
theorem k1_77 : (Jvm.Cond.instantiable "BareThursday$Tape" (6 : Nat)) ∈ wA := kA1 (i := 77) rfl rfl
theorem k1_79 : (Jvm.Cond.instanceMethod ({ cls := "BareThursday$Tape", name := "<init>", desc := "()V" } : Jvm.MethodName)) ∈ wA := kA1 (i := 79) rfl rfl
theorem k1_80 : (Jvm.Cond.code ({ cls := "BareThursday$Tape", name := "<init>", desc := "()V" } : Jvm.MethodName) prog_4_method_1_code (1 : Nat) (Option.none : Option Jvm.ClassFile.FieldType)) ∈ wA := kA1 (i := 80) rfl rfl
theorem k1_81 : (Jvm.Cond.methodLink "BareThursday$Tape" (1 : Nat) ({ cls := "java/lang/Object", name := "<init>", desc := "()V" } : Jvm.MethodName)) ∈ wA := kA1 (i := 81) rfl rfl
theorem k1_82 : (Jvm.Cond.fieldLink "BareThursday$Tape" (9 : Nat) "BareThursday$Tape" "bytes" "[I") ∈ wA := kA1 (i := 82) rfl rfl
theorem k1_83 : (Jvm.Cond.fieldLink "BareThursday$Tape" (13 : Nat) "BareThursday$Tape" "length" "I") ∈ wA := kA1 (i := 83) rfl rfl
theorem k1_84 : (Jvm.Cond.fieldLink "BareThursday$Tape" (27 : Nat) "BareThursday$Tape" "token" "I") ∈ wA := kA1 (i := 84) rfl rfl
theorem k1_85 : (Jvm.Cond.fieldLink "BareThursday$Tape" (30 : Nat) "BareThursday$Tape" "begin" "I") ∈ wA := kA1 (i := 85) rfl rfl
theorem k1_86 : (Jvm.Cond.fieldLink "BareThursday$Tape" (17 : Nat) "BareThursday$Tape" "end" "I") ∈ wA := kA1 (i := 86) rfl rfl
theorem k1_87 : (Jvm.Cond.fieldLink "BareThursday$Tape" (83 : Nat) "BareThursday$Tape" "number" "I") ∈ wA := kA1 (i := 87) rfl rfl
theorem k1_101 : (Jvm.Cond.classLink "BareThursday" (29 : Nat) "BareThursday$Sheets") ∈ wA := kA1 (i := 101) rfl rfl
theorem k1_102 : (Jvm.Cond.instantiable "BareThursday$Sheets" (3 : Nat)) ∈ wA := kA1 (i := 102) rfl rfl
theorem k1_104 : (Jvm.Cond.instanceMethod ({ cls := "BareThursday$Sheets", name := "<init>", desc := "()V" } : Jvm.MethodName)) ∈ wA := kA1 (i := 104) rfl rfl
theorem k1_105 : (Jvm.Cond.code ({ cls := "BareThursday$Sheets", name := "<init>", desc := "()V" } : Jvm.MethodName) prog_3_method_1_code (1 : Nat) (Option.none : Option Jvm.ClassFile.FieldType)) ∈ wA := kA1 (i := 105) rfl rfl
theorem k1_106 : (Jvm.Cond.methodLink "BareThursday$Sheets" (1 : Nat) ({ cls := "java/lang/Object", name := "<init>", desc := "()V" } : Jvm.MethodName)) ∈ wA := kA1 (i := 106) rfl rfl
theorem k1_107 : (Jvm.Cond.fieldLink "BareThursday$Sheets" (9 : Nat) "BareThursday$Sheets" "bits" "[I") ∈ wA := kA1 (i := 107) rfl rfl
theorem k1_108 : (Jvm.Cond.fieldLink "BareThursday$Sheets" (13 : Nat) "BareThursday$Sheets" "lengths" "[I") ∈ wA := kA1 (i := 108) rfl rfl
theorem k1_109 : (Jvm.Cond.fieldLink "BareThursday$Sheets" (16 : Nat) "BareThursday$Sheets" "numbers" "[I") ∈ wA := kA1 (i := 109) rfl rfl
theorem k1_117 : (Jvm.Cond.fieldLink "BareThursday" (10 : Nat) "BareThursday" "town" "LBareThursday$Town;") ∈ wA := kA1 (i := 117) rfl rfl
theorem k1_118 : (Jvm.Cond.fieldLink "BareThursday" (16 : Nat) "BareThursday" "trial" "LBareThursday$Town;") ∈ wA := kA1 (i := 118) rfl rfl
theorem k1_119 : (Jvm.Cond.fieldLink "BareThursday" (19 : Nat) "BareThursday" "kept" "LBareThursday$Town;") ∈ wA := kA1 (i := 119) rfl rfl
theorem k1_120 : (Jvm.Cond.fieldLink "BareThursday" (233 : Nat) "BareThursday" "isKept" "Z") ∈ wA := kA1 (i := 120) rfl rfl
theorem k1_121 : (Jvm.Cond.fieldLink "BareThursday" (25 : Nat) "BareThursday" "tape" "LBareThursday$Tape;") ∈ wA := kA1 (i := 121) rfl rfl
theorem k1_122 : (Jvm.Cond.fieldLink "BareThursday" (32 : Nat) "BareThursday" "sheets" "LBareThursday$Sheets;") ∈ wA := kA1 (i := 122) rfl rfl
theorem k1_123 : (Jvm.Cond.fieldLink "BareThursday" (36 : Nat) "BareThursday" "found" "[I") ∈ wA := kA1 (i := 123) rfl rfl
theorem k1_139 : (Jvm.Cond.methodLink "BareThursdayLaw" (13 : Nat) ({ cls := "BareThursday", name := "person", desc := "(II)I" } : Jvm.MethodName)) ∈ wA := kA1 (i := 139) rfl rfl
theorem k1_140 : (Jvm.Cond.instanceMethod ({ cls := "BareThursday", name := "person", desc := "(II)I" } : Jvm.MethodName)) ∈ wA := kA1 (i := 140) rfl rfl
theorem k1_141 : (Jvm.Cond.selects "BareThursday" ({ cls := "BareThursday", name := "person", desc := "(II)I" } : Jvm.MethodName) ({ cls := "BareThursday", name := "person", desc := "(II)I" } : Jvm.MethodName)) ∈ wA := kA1 (i := 141) rfl rfl
theorem k1_142 : (Jvm.Cond.code ({ cls := "BareThursday", name := "person", desc := "(II)I" } : Jvm.MethodName) prog_1_method_2_code (3 : Nat) (Option.some Jvm.ClassFile.FieldType.int)) ∈ wA := kA1 (i := 142) rfl rfl
theorem k1_143 : (Jvm.Cond.methodLink "BareThursday" (40 : Nat) ({ cls := "BareThursday", name := "isIn", desc := "(II)Z" } : Jvm.MethodName)) ∈ wA := kA1 (i := 143) rfl rfl
theorem k1_144 : (Jvm.Cond.static ({ cls := "BareThursday", name := "isIn", desc := "(II)Z" } : Jvm.MethodName)) ∈ wA := kA1 (i := 144) rfl rfl
theorem k1_145 : (Jvm.Cond.code ({ cls := "BareThursday", name := "isIn", desc := "(II)Z" } : Jvm.MethodName) prog_1_method_48_code (2 : Nat) (Option.some Jvm.ClassFile.FieldType.boolean)) ∈ wA := kA1 (i := 145) rfl rfl
theorem k1_146 : (Jvm.Cond.methodLink "BareThursday" (44 : Nat) ({ cls := "BareThursday", name := "finding", desc := "(I)I" } : Jvm.MethodName)) ∈ wA := kA1 (i := 146) rfl rfl
theorem k1_148 : (Jvm.Cond.instanceMethod ({ cls := "BareThursday", name := "finding", desc := "(I)I" } : Jvm.MethodName)) ∈ wA := kA1 (i := 148) rfl rfl
theorem k1_149 : (Jvm.Cond.code ({ cls := "BareThursday", name := "finding", desc := "(I)I" } : Jvm.MethodName) prog_1_method_47_code (2 : Nat) (Option.some Jvm.ClassFile.FieldType.int)) ∈ wA := kA1 (i := 149) rfl rfl
theorem k1_150 : (Jvm.Cond.constant "BareThursday" (240 : Nat) (-1000001 : Int32)) ∈ wA := kA1 (i := 150) rfl rfl
theorem k1_151 : (Jvm.Cond.methodLink "BareThursday" (48 : Nat) ({ cls := "BareThursday$Town", name := "isFull", desc := "()Z" } : Jvm.MethodName)) ∈ wA := kA1 (i := 151) rfl rfl
theorem k1_152 : (Jvm.Cond.instanceMethod ({ cls := "BareThursday$Town", name := "isFull", desc := "()Z" } : Jvm.MethodName)) ∈ wA := kA1 (i := 152) rfl rfl
theorem k1_153 : (Jvm.Cond.selects "BareThursday$Town" ({ cls := "BareThursday$Town", name := "isFull", desc := "()Z" } : Jvm.MethodName) ({ cls := "BareThursday$Town", name := "isFull", desc := "()Z" } : Jvm.MethodName)) ∈ wA := kA1 (i := 153) rfl rfl
theorem k1_154 : (Jvm.Cond.code ({ cls := "BareThursday$Town", name := "isFull", desc := "()Z" } : Jvm.MethodName) prog_5_method_6_code (1 : Nat) (Option.some Jvm.ClassFile.FieldType.boolean)) ∈ wA := kA1 (i := 154) rfl rfl
theorem k1_155 : (Jvm.Cond.methodLink "BareThursday" (52 : Nat) ({ cls := "BareThursday$Town", name := "add", desc := "(II)I" } : Jvm.MethodName)) ∈ wA := kA1 (i := 155) rfl rfl
theorem k1_156 : (Jvm.Cond.instanceMethod ({ cls := "BareThursday$Town", name := "add", desc := "(II)I" } : Jvm.MethodName)) ∈ wA := kA1 (i := 156) rfl rfl
theorem k1_157 : (Jvm.Cond.selects "BareThursday$Town" ({ cls := "BareThursday$Town", name := "add", desc := "(II)I" } : Jvm.MethodName) ({ cls := "BareThursday$Town", name := "add", desc := "(II)I" } : Jvm.MethodName)) ∈ wA := kA1 (i := 157) rfl rfl
theorem k1_158 : (Jvm.Cond.code ({ cls := "BareThursday$Town", name := "add", desc := "(II)I" } : Jvm.MethodName) prog_5_method_8_code (4 : Nat) (Option.some Jvm.ClassFile.FieldType.int)) ∈ wA := kA1 (i := 158) rfl rfl
theorem k1_159 : (Jvm.Cond.methodLink "BareThursday$Town" (63 : Nat) ({ cls := "BareThursday$Town", name := "isFull", desc := "()Z" } : Jvm.MethodName)) ∈ wA := kA1 (i := 159) rfl rfl
theorem k1_160 : (Jvm.Cond.methodLink "BareThursday$Town" (67 : Nat) ({ cls := "BareThursday$Town", name := "put", desc := "(III)V" } : Jvm.MethodName)) ∈ wA := kA1 (i := 160) rfl rfl
theorem k1_161 : (Jvm.Cond.instanceMethod ({ cls := "BareThursday$Town", name := "put", desc := "(III)V" } : Jvm.MethodName)) ∈ wA := kA1 (i := 161) rfl rfl
theorem k1_162 : (Jvm.Cond.selects "BareThursday$Town" ({ cls := "BareThursday$Town", name := "put", desc := "(III)V" } : Jvm.MethodName) ({ cls := "BareThursday$Town", name := "put", desc := "(III)V" } : Jvm.MethodName)) ∈ wA := kA1 (i := 162) rfl rfl
theorem k1_163 : (Jvm.Cond.code ({ cls := "BareThursday$Town", name := "put", desc := "(III)V" } : Jvm.MethodName) prog_5_method_12_code (4 : Nat) (Option.none : Option Jvm.ClassFile.FieldType)) ∈ wA := kA1 (i := 163) rfl rfl
theorem k1_164 : (Jvm.Cond.methodLink "BareThursday$Town" (59 : Nat) ({ cls := "BareThursday$Town", name := "isThere", desc := "(I)Z" } : Jvm.MethodName)) ∈ wA := kA1 (i := 164) rfl rfl
theorem k1_165 : (Jvm.Cond.instanceMethod ({ cls := "BareThursday$Town", name := "isThere", desc := "(I)Z" } : Jvm.MethodName)) ∈ wA := kA1 (i := 165) rfl rfl
theorem k1_166 : (Jvm.Cond.selects "BareThursday$Town" ({ cls := "BareThursday$Town", name := "isThere", desc := "(I)Z" } : Jvm.MethodName) ({ cls := "BareThursday$Town", name := "isThere", desc := "(I)Z" } : Jvm.MethodName)) ∈ wA := kA1 (i := 166) rfl rfl
theorem k1_167 : (Jvm.Cond.code ({ cls := "BareThursday$Town", name := "isThere", desc := "(I)Z" } : Jvm.MethodName) prog_5_method_4_code (2 : Nat) (Option.some Jvm.ClassFile.FieldType.boolean)) ∈ wA := kA1 (i := 167) rfl rfl
theorem k1_168 : (Jvm.Cond.methodLink "BareThursdayLaw" (18 : Nat) ({ cls := "BareThursday", name := "of", desc := "(II)I" } : Jvm.MethodName)) ∈ wA := kA1 (i := 168) rfl rfl
theorem k1_169 : (Jvm.Cond.instanceMethod ({ cls := "BareThursday", name := "of", desc := "(II)I" } : Jvm.MethodName)) ∈ wA := kA1 (i := 169) rfl rfl
theorem k1_170 : (Jvm.Cond.selects "BareThursday" ({ cls := "BareThursday", name := "of", desc := "(II)I" } : Jvm.MethodName) ({ cls := "BareThursday", name := "of", desc := "(II)I" } : Jvm.MethodName)) ∈ wA := kA1 (i := 170) rfl rfl
theorem k1_171 : (Jvm.Cond.code ({ cls := "BareThursday", name := "of", desc := "(II)I" } : Jvm.MethodName) prog_1_method_3_code (3 : Nat) (Option.some Jvm.ClassFile.FieldType.int)) ∈ wA := kA1 (i := 171) rfl rfl
theorem k1_172 : (Jvm.Cond.methodLink "BareThursday" (56 : Nat) ({ cls := "BareThursday$Town", name := "isThere", desc := "(I)Z" } : Jvm.MethodName)) ∈ wA := kA1 (i := 172) rfl rfl
theorem k1_173 : (Jvm.Cond.methodLink "BareThursday" (60 : Nat) ({ cls := "BareThursday$Town", name := "trait", desc := "(II)I" } : Jvm.MethodName)) ∈ wA := kA1 (i := 173) rfl rfl
theorem k1_174 : (Jvm.Cond.instanceMethod ({ cls := "BareThursday$Town", name := "trait", desc := "(II)I" } : Jvm.MethodName)) ∈ wA := kA1 (i := 174) rfl rfl
theorem k1_175 : (Jvm.Cond.selects "BareThursday$Town" ({ cls := "BareThursday$Town", name := "trait", desc := "(II)I" } : Jvm.MethodName) ({ cls := "BareThursday$Town", name := "trait", desc := "(II)I" } : Jvm.MethodName)) ∈ wA := kA1 (i := 175) rfl rfl
theorem k1_176 : (Jvm.Cond.code ({ cls := "BareThursday$Town", name := "trait", desc := "(II)I" } : Jvm.MethodName) prog_5_method_9_code (3 : Nat) (Option.some Jvm.ClassFile.FieldType.int)) ∈ wA := kA1 (i := 176) rfl rfl
theorem k1_177 : (Jvm.Cond.methodLink "BareThursday$Town" (71 : Nat) ({ cls := "BareThursday$Kinds", name := "walk", desc := "(II)I" } : Jvm.MethodName)) ∈ wA := kA1 (i := 177) rfl rfl
theorem k1_178 : (Jvm.Cond.static ({ cls := "BareThursday$Kinds", name := "walk", desc := "(II)I" } : Jvm.MethodName)) ∈ wA := kA1 (i := 178) rfl rfl
theorem k1_179 : (Jvm.Cond.code ({ cls := "BareThursday$Kinds", name := "walk", desc := "(II)I" } : Jvm.MethodName) prog_2_method_4_code (3 : Nat) (Option.some Jvm.ClassFile.FieldType.int)) ∈ wA := kA1 (i := 179) rfl rfl
theorem k1_180 : (Jvm.Cond.methodLink "BareThursday$Kinds" (13 : Nat) ({ cls := "BareThursday$Town", name := "isTheDay", desc := "(I)Z" } : Jvm.MethodName)) ∈ wA := kA1 (i := 180) rfl rfl
theorem k1_181 : (Jvm.Cond.static ({ cls := "BareThursday$Town", name := "isTheDay", desc := "(I)Z" } : Jvm.MethodName)) ∈ wA := kA1 (i := 181) rfl rfl
theorem k1_182 : (Jvm.Cond.code ({ cls := "BareThursday$Town", name := "isTheDay", desc := "(I)Z" } : Jvm.MethodName) prog_5_method_3_code (1 : Nat) (Option.some Jvm.ClassFile.FieldType.boolean)) ∈ wA := kA1 (i := 182) rfl rfl
theorem k1_183 : (Jvm.Cond.methodLink "BareThursday$Town" (77 : Nat) ({ cls := "BareThursday$Kinds", name := "shift", desc := "(II)I" } : Jvm.MethodName)) ∈ wA := kA1 (i := 183) rfl rfl
theorem k1_184 : (Jvm.Cond.static ({ cls := "BareThursday$Kinds", name := "shift", desc := "(II)I" } : Jvm.MethodName)) ∈ wA := kA1 (i := 184) rfl rfl
theorem k1_185 : (Jvm.Cond.code ({ cls := "BareThursday$Kinds", name := "shift", desc := "(II)I" } : Jvm.MethodName) prog_2_method_5_code (2 : Nat) (Option.some Jvm.ClassFile.FieldType.int)) ∈ wA := kA1 (i := 185) rfl rfl
theorem k1_186 : (Jvm.Cond.methodLink "BareThursday$Town" (80 : Nat) ({ cls := "BareThursday$Kinds", name := "shine", desc := "(I)I" } : Jvm.MethodName)) ∈ wA := kA1 (i := 186) rfl rfl
theorem k1_187 : (Jvm.Cond.static ({ cls := "BareThursday$Kinds", name := "shine", desc := "(I)I" } : Jvm.MethodName)) ∈ wA := kA1 (i := 187) rfl rfl
theorem k1_188 : (Jvm.Cond.code ({ cls := "BareThursday$Kinds", name := "shine", desc := "(I)I" } : Jvm.MethodName) prog_2_method_7_code (1 : Nat) (Option.some Jvm.ClassFile.FieldType.int)) ∈ wA := kA1 (i := 188) rfl rfl
theorem k1_189 : (Jvm.Cond.methodLink "BareThursday$Town" (84 : Nat) ({ cls := "java/lang/Integer", name := "bitCount", desc := "(I)I" } : Jvm.MethodName)) ∈ wA := kA1 (i := 189) rfl rfl
theorem k1_190 : (Jvm.Cond.static ({ cls := "java/lang/Integer", name := "bitCount", desc := "(I)I" } : Jvm.MethodName)) ∈ wA := kA1 (i := 190) rfl rfl
theorem k1_191 : (Jvm.Cond.code ({ cls := "java/lang/Integer", name := "bitCount", desc := "(I)I" } : Jvm.MethodName) prog_8_method_49_code (1 : Nat) (Option.some Jvm.ClassFile.FieldType.int)) ∈ wA := kA1 (i := 191) rfl rfl
theorem k1_192 : (Jvm.Cond.constant "java/lang/Integer" (265 : Nat) (1431655765 : Int32)) ∈ wA := kA1 (i := 192) rfl rfl
theorem k1_193 : (Jvm.Cond.constant "java/lang/Integer" (266 : Nat) (858993459 : Int32)) ∈ wA := kA1 (i := 193) rfl rfl
theorem k1_194 : (Jvm.Cond.constant "java/lang/Integer" (267 : Nat) (252645135 : Int32)) ∈ wA := kA1 (i := 194) rfl rfl
theorem k1_195 : (Jvm.Cond.methodLink "BareThursday$Town" (89 : Nat) ({ cls := "BareThursday$Kinds", name := "gladden", desc := "(II)I" } : Jvm.MethodName)) ∈ wA := kA1 (i := 195) rfl rfl
theorem k1_196 : (Jvm.Cond.static ({ cls := "BareThursday$Kinds", name := "gladden", desc := "(II)I" } : Jvm.MethodName)) ∈ wA := kA1 (i := 196) rfl rfl
theorem k1_197 : (Jvm.Cond.code ({ cls := "BareThursday$Kinds", name := "gladden", desc := "(II)I" } : Jvm.MethodName) prog_2_method_8_code (3 : Nat) (Option.some Jvm.ClassFile.FieldType.int)) ∈ wA := kA1 (i := 197) rfl rfl
theorem k1_198 : (Jvm.Cond.methodLink "BareThursdayLaw" (22 : Nat) ({ cls := "BareThursday", name := "change", desc := "(III)I" } : Jvm.MethodName)) ∈ wA := kA1 (i := 198) rfl rfl
theorem k1_199 : (Jvm.Cond.instanceMethod ({ cls := "BareThursday", name := "change", desc := "(III)I" } : Jvm.MethodName)) ∈ wA := kA1 (i := 199) rfl rfl
theorem k1_200 : (Jvm.Cond.selects "BareThursday" ({ cls := "BareThursday", name := "change", desc := "(III)I" } : Jvm.MethodName) ({ cls := "BareThursday", name := "change", desc := "(III)I" } : Jvm.MethodName)) ∈ wA := kA1 (i := 200) rfl rfl
theorem k1_201 : (Jvm.Cond.code ({ cls := "BareThursday", name := "change", desc := "(III)I" } : Jvm.MethodName) prog_1_method_4_code (5 : Nat) (Option.some Jvm.ClassFile.FieldType.int)) ∈ wA := kA1 (i := 201) rfl rfl
theorem k1_202 : (Jvm.Cond.methodLink "BareThursday" (63 : Nat) ({ cls := "BareThursday$Town", name := "canBecome", desc := "(III)Z" } : Jvm.MethodName)) ∈ wA := kA1 (i := 202) rfl rfl
theorem k1_203 : (Jvm.Cond.instanceMethod ({ cls := "BareThursday$Town", name := "canBecome", desc := "(III)Z" } : Jvm.MethodName)) ∈ wA := kA1 (i := 203) rfl rfl
theorem k1_204 : (Jvm.Cond.selects "BareThursday$Town" ({ cls := "BareThursday$Town", name := "canBecome", desc := "(III)Z" } : Jvm.MethodName) ({ cls := "BareThursday$Town", name := "canBecome", desc := "(III)Z" } : Jvm.MethodName)) ∈ wA := kA1 (i := 204) rfl rfl
theorem k1_205 : (Jvm.Cond.code ({ cls := "BareThursday$Town", name := "canBecome", desc := "(III)Z" } : Jvm.MethodName) prog_5_method_10_code (4 : Nat) (Option.some Jvm.ClassFile.FieldType.boolean)) ∈ wA := kA1 (i := 205) rfl rfl
theorem k1_207 : (Jvm.Cond.methodLink "BareThursday$Town" (98 : Nat) ({ cls := "BareThursday$Town", name := "isSetOfOthers", desc := "(II)Z" } : Jvm.MethodName)) ∈ wA := kA1 (i := 207) rfl rfl
theorem k1_209 : (Jvm.Cond.instanceMethod ({ cls := "BareThursday$Town", name := "isSetOfOthers", desc := "(II)Z" } : Jvm.MethodName)) ∈ wA := kA1 (i := 209) rfl rfl
theorem k1_210 : (Jvm.Cond.code ({ cls := "BareThursday$Town", name := "isSetOfOthers", desc := "(II)Z" } : Jvm.MethodName) prog_5_method_11_code (4 : Nat) (Option.some Jvm.ClassFile.FieldType.boolean)) ∈ wA := kA1 (i := 210) rfl rfl
theorem k1_211 : (Jvm.Cond.methodLink "BareThursday$Town" (101 : Nat) ({ cls := "BareThursday$Town", name := "everybody", desc := "()I" } : Jvm.MethodName)) ∈ wA := kA1 (i := 211) rfl rfl
theorem k1_212 : (Jvm.Cond.instanceMethod ({ cls := "BareThursday$Town", name := "everybody", desc := "()I" } : Jvm.MethodName)) ∈ wA := kA1 (i := 212) rfl rfl
theorem k1_213 : (Jvm.Cond.selects "BareThursday$Town" ({ cls := "BareThursday$Town", name := "everybody", desc := "()I" } : Jvm.MethodName) ({ cls := "BareThursday$Town", name := "everybody", desc := "()I" } : Jvm.MethodName)) ∈ wA := kA1 (i := 213) rfl rfl
theorem k1_214 : (Jvm.Cond.code ({ cls := "BareThursday$Town", name := "everybody", desc := "()I" } : Jvm.MethodName) prog_5_method_7_code (1 : Nat) (Option.some Jvm.ClassFile.FieldType.int)) ∈ wA := kA1 (i := 214) rfl rfl
theorem k1_215 : (Jvm.Cond.methodLink "BareThursday" (67 : Nat) ({ cls := "BareThursday$Town", name := "put", desc := "(III)V" } : Jvm.MethodName)) ∈ wA := kA1 (i := 215) rfl rfl
theorem k1_216 : (Jvm.Cond.methodLink "BareThursdayLaw" (27 : Nat) ({ cls := "BareThursday", name := "minds", desc := "(II)I" } : Jvm.MethodName)) ∈ wA := kA1 (i := 216) rfl rfl
theorem k1_217 : (Jvm.Cond.instanceMethod ({ cls := "BareThursday", name := "minds", desc := "(II)I" } : Jvm.MethodName)) ∈ wA := kA1 (i := 217) rfl rfl
theorem k1_218 : (Jvm.Cond.selects "BareThursday" ({ cls := "BareThursday", name := "minds", desc := "(II)I" } : Jvm.MethodName) ({ cls := "BareThursday", name := "minds", desc := "(II)I" } : Jvm.MethodName)) ∈ wA := kA1 (i := 218) rfl rfl
theorem k1_219 : (Jvm.Cond.code ({ cls := "BareThursday", name := "minds", desc := "(II)I" } : Jvm.MethodName) prog_1_method_5_code (3 : Nat) (Option.some Jvm.ClassFile.FieldType.int)) ∈ wA := kA1 (i := 219) rfl rfl
theorem k1_220 : (Jvm.Cond.methodLink "BareThursday" (71 : Nat) ({ cls := "BareThursday$Town", name := "mindsGuise", desc := "(II)Z" } : Jvm.MethodName)) ∈ wA := kA1 (i := 220) rfl rfl
theorem k1_221 : (Jvm.Cond.instanceMethod ({ cls := "BareThursday$Town", name := "mindsGuise", desc := "(II)Z" } : Jvm.MethodName)) ∈ wA := kA1 (i := 221) rfl rfl
theorem k1_222 : (Jvm.Cond.selects "BareThursday$Town" ({ cls := "BareThursday$Town", name := "mindsGuise", desc := "(II)Z" } : Jvm.MethodName) ({ cls := "BareThursday$Town", name := "mindsGuise", desc := "(II)Z" } : Jvm.MethodName)) ∈ wA := kA1 (i := 222) rfl rfl
theorem k1_223 : (Jvm.Cond.code ({ cls := "BareThursday$Town", name := "mindsGuise", desc := "(II)Z" } : Jvm.MethodName) prog_5_method_16_code (3 : Nat) (Option.some Jvm.ClassFile.FieldType.boolean)) ∈ wA := kA1 (i := 223) rfl rfl
theorem k1_224 : (Jvm.Cond.methodLink "BareThursday$Town" (116 : Nat) ({ cls := "BareThursday$Kinds", name := "mind", desc := "(IIIZ)Z" } : Jvm.MethodName)) ∈ wA := kA1 (i := 224) rfl rfl
theorem k1_225 : (Jvm.Cond.static ({ cls := "BareThursday$Kinds", name := "mind", desc := "(IIIZ)Z" } : Jvm.MethodName)) ∈ wA := kA1 (i := 225) rfl rfl
theorem k1_226 : (Jvm.Cond.code ({ cls := "BareThursday$Kinds", name := "mind", desc := "(IIIZ)Z" } : Jvm.MethodName) prog_2_method_6_code (6 : Nat) (Option.some Jvm.ClassFile.FieldType.boolean)) ∈ wA := kA1 (i := 226) rfl rfl
theorem k1_227 : (Jvm.Cond.methodLink "BareThursday" (74 : Nat) ({ cls := "BareThursday", name := "bit", desc := "(Z)I" } : Jvm.MethodName)) ∈ wA := kA1 (i := 227) rfl rfl
theorem k1_228 : (Jvm.Cond.static ({ cls := "BareThursday", name := "bit", desc := "(Z)I" } : Jvm.MethodName)) ∈ wA := kA1 (i := 228) rfl rfl
theorem k1_229 : (Jvm.Cond.code ({ cls := "BareThursday", name := "bit", desc := "(Z)I" } : Jvm.MethodName) prog_1_method_49_code (1 : Nat) (Option.some Jvm.ClassFile.FieldType.int)) ∈ wA := kA1 (i := 229) rfl rfl
theorem k1_230 : (Jvm.Cond.methodLink "BareThursdayLaw" (31 : Nat) ({ cls := "BareThursday", name := "far", desc := "(II)I" } : Jvm.MethodName)) ∈ wA := kA1 (i := 230) rfl rfl
theorem k1_231 : (Jvm.Cond.instanceMethod ({ cls := "BareThursday", name := "far", desc := "(II)I" } : Jvm.MethodName)) ∈ wA := kA1 (i := 231) rfl rfl
theorem k1_232 : (Jvm.Cond.selects "BareThursday" ({ cls := "BareThursday", name := "far", desc := "(II)I" } : Jvm.MethodName) ({ cls := "BareThursday", name := "far", desc := "(II)I" } : Jvm.MethodName)) ∈ wA := kA1 (i := 232) rfl rfl
theorem k1_233 : (Jvm.Cond.code ({ cls := "BareThursday", name := "far", desc := "(II)I" } : Jvm.MethodName) prog_1_method_6_code (3 : Nat) (Option.some Jvm.ClassFile.FieldType.int)) ∈ wA := kA1 (i := 233) rfl rfl
theorem k1_234 : (Jvm.Cond.methodLink "BareThursday" (78 : Nat) ({ cls := "BareThursday$Town", name := "areTwo", desc := "(II)Z" } : Jvm.MethodName)) ∈ wA := kA1 (i := 234) rfl rfl
theorem k1_235 : (Jvm.Cond.instanceMethod ({ cls := "BareThursday$Town", name := "areTwo", desc := "(II)Z" } : Jvm.MethodName)) ∈ wA := kA1 (i := 235) rfl rfl
theorem k1_236 : (Jvm.Cond.selects "BareThursday$Town" ({ cls := "BareThursday$Town", name := "areTwo", desc := "(II)Z" } : Jvm.MethodName) ({ cls := "BareThursday$Town", name := "areTwo", desc := "(II)Z" } : Jvm.MethodName)) ∈ wA := kA1 (i := 236) rfl rfl
theorem k1_237 : (Jvm.Cond.code ({ cls := "BareThursday$Town", name := "areTwo", desc := "(II)Z" } : Jvm.MethodName) prog_5_method_5_code (3 : Nat) (Option.some Jvm.ClassFile.FieldType.boolean)) ∈ wA := kA1 (i := 237) rfl rfl
theorem k1_238 : (Jvm.Cond.methodLink "BareThursday" (81 : Nat) ({ cls := "BareThursday$Town", name := "distance", desc := "(II)I" } : Jvm.MethodName)) ∈ wA := kA1 (i := 238) rfl rfl
theorem k1_239 : (Jvm.Cond.instanceMethod ({ cls := "BareThursday$Town", name := "distance", desc := "(II)I" } : Jvm.MethodName)) ∈ wA := kA1 (i := 239) rfl rfl
theorem k2_0 : (Jvm.Cond.selects "BareThursday$Town" ({ cls := "BareThursday$Town", name := "distance", desc := "(II)I" } : Jvm.MethodName) ({ cls := "BareThursday$Town", name := "distance", desc := "(II)I" } : Jvm.MethodName)) ∈ wA := kA2 (i := 0) rfl rfl
theorem k2_1 : (Jvm.Cond.code ({ cls := "BareThursday$Town", name := "distance", desc := "(II)I" } : Jvm.MethodName) prog_5_method_14_code (4 : Nat) (Option.some Jvm.ClassFile.FieldType.int)) ∈ wA := kA2 (i := 1) rfl rfl
theorem k2_2 : (Jvm.Cond.methodLink "BareThursday$Town" (108 : Nat) ({ cls := "java/lang/Math", name := "abs", desc := "(I)I" } : Jvm.MethodName)) ∈ wA := kA2 (i := 2) rfl rfl
theorem k2_3 : (Jvm.Cond.static ({ cls := "java/lang/Math", name := "abs", desc := "(I)I" } : Jvm.MethodName)) ∈ wA := kA2 (i := 3) rfl rfl
theorem k2_4 : (Jvm.Cond.code ({ cls := "java/lang/Math", name := "abs", desc := "(I)I" } : Jvm.MethodName) prog_9_method_59_code (1 : Nat) (Option.some Jvm.ClassFile.FieldType.int)) ∈ wA := kA2 (i := 4) rfl rfl
theorem k2_5 : (Jvm.Cond.methodLink "BareThursday$Town" (113 : Nat) ({ cls := "java/lang/Math", name := "min", desc := "(II)I" } : Jvm.MethodName)) ∈ wA := kA2 (i := 5) rfl rfl
theorem k2_6 : (Jvm.Cond.static ({ cls := "java/lang/Math", name := "min", desc := "(II)I" } : Jvm.MethodName)) ∈ wA := kA2 (i := 6) rfl rfl
theorem k2_7 : (Jvm.Cond.code ({ cls := "java/lang/Math", name := "min", desc := "(II)I" } : Jvm.MethodName) prog_9_method_69_code (2 : Nat) (Option.some Jvm.ClassFile.FieldType.int)) ∈ wA := kA2 (i := 7) rfl rfl
theorem k2_8 : (Jvm.Cond.methodLink "BareThursdayLaw" (35 : Nat) ({ cls := "BareThursday", name := "who", desc := "(I)I" } : Jvm.MethodName)) ∈ wA := kA2 (i := 8) rfl rfl
theorem k2_9 : (Jvm.Cond.instanceMethod ({ cls := "BareThursday", name := "who", desc := "(I)I" } : Jvm.MethodName)) ∈ wA := kA2 (i := 9) rfl rfl
theorem k2_10 : (Jvm.Cond.selects "BareThursday" ({ cls := "BareThursday", name := "who", desc := "(I)I" } : Jvm.MethodName) ({ cls := "BareThursday", name := "who", desc := "(I)I" } : Jvm.MethodName)) ∈ wA := kA2 (i := 10) rfl rfl
theorem k2_11 : (Jvm.Cond.code ({ cls := "BareThursday", name := "who", desc := "(I)I" } : Jvm.MethodName) prog_1_method_7_code (2 : Nat) (Option.some Jvm.ClassFile.FieldType.int)) ∈ wA := kA2 (i := 11) rfl rfl
theorem k2_12 : (Jvm.Cond.methodLink "BareThursday" (84 : Nat) ({ cls := "BareThursday$Town", name := "peopleAt", desc := "(I)I" } : Jvm.MethodName)) ∈ wA := kA2 (i := 12) rfl rfl
theorem k2_13 : (Jvm.Cond.instanceMethod ({ cls := "BareThursday$Town", name := "peopleAt", desc := "(I)I" } : Jvm.MethodName)) ∈ wA := kA2 (i := 13) rfl rfl
theorem k2_14 : (Jvm.Cond.selects "BareThursday$Town" ({ cls := "BareThursday$Town", name := "peopleAt", desc := "(I)I" } : Jvm.MethodName) ({ cls := "BareThursday$Town", name := "peopleAt", desc := "(I)I" } : Jvm.MethodName)) ∈ wA := kA2 (i := 14) rfl rfl
theorem k2_15 : (Jvm.Cond.code ({ cls := "BareThursday$Town", name := "peopleAt", desc := "(I)I" } : Jvm.MethodName) prog_5_method_15_code (4 : Nat) (Option.some Jvm.ClassFile.FieldType.int)) ∈ wA := kA2 (i := 15) rfl rfl
theorem k2_16 : (Jvm.Cond.methodLink "BareThursdayLaw" (40 : Nat) ({ cls := "BareThursday", name := "two", desc := "(III)I" } : Jvm.MethodName)) ∈ wA := kA2 (i := 16) rfl rfl
theorem k2_17 : (Jvm.Cond.instanceMethod ({ cls := "BareThursday", name := "two", desc := "(III)I" } : Jvm.MethodName)) ∈ wA := kA2 (i := 17) rfl rfl
theorem k2_18 : (Jvm.Cond.selects "BareThursday" ({ cls := "BareThursday", name := "two", desc := "(III)I" } : Jvm.MethodName) ({ cls := "BareThursday", name := "two", desc := "(III)I" } : Jvm.MethodName)) ∈ wA := kA2 (i := 18) rfl rfl
theorem k2_19 : (Jvm.Cond.code ({ cls := "BareThursday", name := "two", desc := "(III)I" } : Jvm.MethodName) prog_1_method_8_code (4 : Nat) (Option.some Jvm.ClassFile.FieldType.int)) ∈ wA := kA2 (i := 19) rfl rfl
theorem k2_20 : (Jvm.Cond.methodLink "BareThursday" (87 : Nat) ({ cls := "BareThursday$Town", name := "bothMet", desc := "(II)Z" } : Jvm.MethodName)) ∈ wA := kA2 (i := 20) rfl rfl
theorem k2_21 : (Jvm.Cond.instanceMethod ({ cls := "BareThursday$Town", name := "bothMet", desc := "(II)Z" } : Jvm.MethodName)) ∈ wA := kA2 (i := 21) rfl rfl
theorem k2_22 : (Jvm.Cond.selects "BareThursday$Town" ({ cls := "BareThursday$Town", name := "bothMet", desc := "(II)Z" } : Jvm.MethodName) ({ cls := "BareThursday$Town", name := "bothMet", desc := "(II)Z" } : Jvm.MethodName)) ∈ wA := kA2 (i := 22) rfl rfl
theorem k2_23 : (Jvm.Cond.code ({ cls := "BareThursday$Town", name := "bothMet", desc := "(II)Z" } : Jvm.MethodName) prog_5_method_18_code (3 : Nat) (Option.some Jvm.ClassFile.FieldType.boolean)) ∈ wA := kA2 (i := 23) rfl rfl
theorem k2_24 : (Jvm.Cond.methodLink "BareThursday$Town" (123 : Nat) ({ cls := "BareThursday$Town", name := "isMutual", desc := "([III)Z" } : Jvm.MethodName)) ∈ wA := kA2 (i := 24) rfl rfl
theorem k2_25 : (Jvm.Cond.static ({ cls := "BareThursday$Town", name := "isMutual", desc := "([III)Z" } : Jvm.MethodName)) ∈ wA := kA2 (i := 25) rfl rfl
theorem k2_26 : (Jvm.Cond.code ({ cls := "BareThursday$Town", name := "isMutual", desc := "([III)Z" } : Jvm.MethodName) prog_5_method_29_code (3 : Nat) (Option.some Jvm.ClassFile.FieldType.boolean)) ∈ wA := kA2 (i := 26) rfl rfl
theorem k2_27 : (Jvm.Cond.methodLink "BareThursday$Town" (105 : Nat) ({ cls := "BareThursday$Town", name := "holds", desc := "(II)Z" } : Jvm.MethodName)) ∈ wA := kA2 (i := 27) rfl rfl
theorem k2_28 : (Jvm.Cond.static ({ cls := "BareThursday$Town", name := "holds", desc := "(II)Z" } : Jvm.MethodName)) ∈ wA := kA2 (i := 28) rfl rfl
theorem k2_29 : (Jvm.Cond.code ({ cls := "BareThursday$Town", name := "holds", desc := "(II)Z" } : Jvm.MethodName) prog_5_method_30_code (2 : Nat) (Option.some Jvm.ClassFile.FieldType.boolean)) ∈ wA := kA2 (i := 29) rfl rfl
theorem k2_30 : (Jvm.Cond.methodLink "BareThursday" (90 : Nat) ({ cls := "BareThursday$Town", name := "bothKnow", desc := "(II)Z" } : Jvm.MethodName)) ∈ wA := kA2 (i := 30) rfl rfl
theorem k2_31 : (Jvm.Cond.instanceMethod ({ cls := "BareThursday$Town", name := "bothKnow", desc := "(II)Z" } : Jvm.MethodName)) ∈ wA := kA2 (i := 31) rfl rfl
theorem k2_32 : (Jvm.Cond.selects "BareThursday$Town" ({ cls := "BareThursday$Town", name := "bothKnow", desc := "(II)Z" } : Jvm.MethodName) ({ cls := "BareThursday$Town", name := "bothKnow", desc := "(II)Z" } : Jvm.MethodName)) ∈ wA := kA2 (i := 32) rfl rfl
theorem k2_33 : (Jvm.Cond.code ({ cls := "BareThursday$Town", name := "bothKnow", desc := "(II)Z" } : Jvm.MethodName) prog_5_method_19_code (3 : Nat) (Option.some Jvm.ClassFile.FieldType.boolean)) ∈ wA := kA2 (i := 33) rfl rfl
theorem k2_34 : (Jvm.Cond.methodLink "BareThursday" (93 : Nat) ({ cls := "BareThursday$Town", name := "wouldSee", desc := "(II)Z" } : Jvm.MethodName)) ∈ wA := kA2 (i := 34) rfl rfl
theorem k2_35 : (Jvm.Cond.instanceMethod ({ cls := "BareThursday$Town", name := "wouldSee", desc := "(II)Z" } : Jvm.MethodName)) ∈ wA := kA2 (i := 35) rfl rfl
theorem k2_36 : (Jvm.Cond.selects "BareThursday$Town" ({ cls := "BareThursday$Town", name := "wouldSee", desc := "(II)Z" } : Jvm.MethodName) ({ cls := "BareThursday$Town", name := "wouldSee", desc := "(II)Z" } : Jvm.MethodName)) ∈ wA := kA2 (i := 36) rfl rfl
theorem k2_37 : (Jvm.Cond.code ({ cls := "BareThursday$Town", name := "wouldSee", desc := "(II)Z" } : Jvm.MethodName) prog_5_method_20_code (3 : Nat) (Option.some Jvm.ClassFile.FieldType.boolean)) ∈ wA := kA2 (i := 37) rfl rfl
theorem k2_38 : (Jvm.Cond.methodLink "BareThursday$Town" (127 : Nat) ({ cls := "BareThursday$Town", name := "distance", desc := "(II)I" } : Jvm.MethodName)) ∈ wA := kA2 (i := 38) rfl rfl
theorem k2_39 : (Jvm.Cond.methodLink "BareThursdayLaw" (44 : Nat) ({ cls := "BareThursday", name := "go", desc := "(I)I" } : Jvm.MethodName)) ∈ wA := kA2 (i := 39) rfl rfl
theorem k2_40 : (Jvm.Cond.instanceMethod ({ cls := "BareThursday", name := "go", desc := "(I)I" } : Jvm.MethodName)) ∈ wA := kA2 (i := 40) rfl rfl
theorem k2_41 : (Jvm.Cond.selects "BareThursday" ({ cls := "BareThursday", name := "go", desc := "(I)I" } : Jvm.MethodName) ({ cls := "BareThursday", name := "go", desc := "(I)I" } : Jvm.MethodName)) ∈ wA := kA2 (i := 41) rfl rfl
theorem k2_42 : (Jvm.Cond.code ({ cls := "BareThursday", name := "go", desc := "(I)I" } : Jvm.MethodName) prog_1_method_9_code (2 : Nat) (Option.some Jvm.ClassFile.FieldType.int)) ∈ wA := kA2 (i := 42) rfl rfl
theorem k2_43 : (Jvm.Cond.methodLink "BareThursday" (96 : Nat) ({ cls := "BareThursday$Town", name := "hasDays", desc := "(I)Z" } : Jvm.MethodName)) ∈ wA := kA2 (i := 43) rfl rfl
theorem k2_44 : (Jvm.Cond.instanceMethod ({ cls := "BareThursday$Town", name := "hasDays", desc := "(I)Z" } : Jvm.MethodName)) ∈ wA := kA2 (i := 44) rfl rfl
theorem k2_45 : (Jvm.Cond.selects "BareThursday$Town" ({ cls := "BareThursday$Town", name := "hasDays", desc := "(I)Z" } : Jvm.MethodName) ({ cls := "BareThursday$Town", name := "hasDays", desc := "(I)Z" } : Jvm.MethodName)) ∈ wA := kA2 (i := 45) rfl rfl
theorem k2_46 : (Jvm.Cond.code ({ cls := "BareThursday$Town", name := "hasDays", desc := "(I)Z" } : Jvm.MethodName) prog_5_method_31_code (2 : Nat) (Option.some Jvm.ClassFile.FieldType.boolean)) ∈ wA := kA2 (i := 46) rfl rfl
theorem k2_47 : (Jvm.Cond.constant "BareThursday$Town" (134 : Nat) (99999 : Int32)) ∈ wA := kA2 (i := 47) rfl rfl
theorem k2_48 : (Jvm.Cond.methodLink "BareThursday" (99 : Nat) ({ cls := "BareThursday$Town", name := "passDays", desc := "(I)V" } : Jvm.MethodName)) ∈ wA := kA2 (i := 48) rfl rfl
theorem k2_49 : (Jvm.Cond.instanceMethod ({ cls := "BareThursday$Town", name := "passDays", desc := "(I)V" } : Jvm.MethodName)) ∈ wA := kA2 (i := 49) rfl rfl
theorem k2_50 : (Jvm.Cond.selects "BareThursday$Town" ({ cls := "BareThursday$Town", name := "passDays", desc := "(I)V" } : Jvm.MethodName) ({ cls := "BareThursday$Town", name := "passDays", desc := "(I)V" } : Jvm.MethodName)) ∈ wA := kA2 (i := 50) rfl rfl
theorem k2_51 : (Jvm.Cond.code ({ cls := "BareThursday$Town", name := "passDays", desc := "(I)V" } : Jvm.MethodName) prog_5_method_33_code (3 : Nat) (Option.none : Option Jvm.ClassFile.FieldType)) ∈ wA := kA2 (i := 51) rfl rfl
theorem k2_52 : (Jvm.Cond.methodLink "BareThursday$Town" (135 : Nat) ({ cls := "BareThursday$Town", name := "passDay", desc := "()V" } : Jvm.MethodName)) ∈ wA := kA2 (i := 52) rfl rfl
theorem k2_53 : (Jvm.Cond.instanceMethod ({ cls := "BareThursday$Town", name := "passDay", desc := "()V" } : Jvm.MethodName)) ∈ wA := kA2 (i := 53) rfl rfl
theorem k2_54 : (Jvm.Cond.selects "BareThursday$Town" ({ cls := "BareThursday$Town", name := "passDay", desc := "()V" } : Jvm.MethodName) ({ cls := "BareThursday$Town", name := "passDay", desc := "()V" } : Jvm.MethodName)) ∈ wA := kA2 (i := 54) rfl rfl
theorem k2_55 : (Jvm.Cond.code ({ cls := "BareThursday$Town", name := "passDay", desc := "()V" } : Jvm.MethodName) prog_5_method_34_code (4 : Nat) (Option.none : Option Jvm.ClassFile.FieldType)) ∈ wA := kA2 (i := 55) rfl rfl
theorem k2_56 : (Jvm.Cond.methodLink "BareThursday$Town" (138 : Nat) ({ cls := "BareThursday$Town", name := "isTheDay", desc := "(I)Z" } : Jvm.MethodName)) ∈ wA := kA2 (i := 56) rfl rfl
theorem k2_57 : (Jvm.Cond.methodLink "BareThursday$Town" (141 : Nat) ({ cls := "BareThursday$Town", name := "seeEachOther", desc := "(II)V" } : Jvm.MethodName)) ∈ wA := kA2 (i := 57) rfl rfl
theorem k2_59 : (Jvm.Cond.instanceMethod ({ cls := "BareThursday$Town", name := "seeEachOther", desc := "(II)V" } : Jvm.MethodName)) ∈ wA := kA2 (i := 59) rfl rfl
theorem k2_60 : (Jvm.Cond.code ({ cls := "BareThursday$Town", name := "seeEachOther", desc := "(II)V" } : Jvm.MethodName) prog_5_method_37_code (3 : Nat) (Option.none : Option Jvm.ClassFile.FieldType)) ∈ wA := kA2 (i := 60) rfl rfl
theorem k2_61 : (Jvm.Cond.methodLink "BareThursday$Town" (155 : Nat) ({ cls := "BareThursday$Town", name := "wouldSee", desc := "(II)Z" } : Jvm.MethodName)) ∈ wA := kA2 (i := 61) rfl rfl
theorem k2_62 : (Jvm.Cond.methodLink "BareThursday$Town" (158 : Nat) ({ cls := "BareThursday$Town", name := "bothMet", desc := "(II)Z" } : Jvm.MethodName)) ∈ wA := kA2 (i := 62) rfl rfl
theorem k2_63 : (Jvm.Cond.methodLink "BareThursday$Town" (161 : Nat) ({ cls := "BareThursday$Town", name := "comeToKnow", desc := "(II)V" } : Jvm.MethodName)) ∈ wA := kA2 (i := 63) rfl rfl
theorem k2_65 : (Jvm.Cond.instanceMethod ({ cls := "BareThursday$Town", name := "comeToKnow", desc := "(II)V" } : Jvm.MethodName)) ∈ wA := kA2 (i := 65) rfl rfl
theorem k2_66 : (Jvm.Cond.code ({ cls := "BareThursday$Town", name := "comeToKnow", desc := "(II)V" } : Jvm.MethodName) prog_5_method_38_code (4 : Nat) (Option.none : Option Jvm.ClassFile.FieldType)) ∈ wA := kA2 (i := 66) rfl rfl
theorem k2_67 : (Jvm.Cond.methodLink "BareThursday$Town" (164 : Nat) ({ cls := "BareThursday$Town", name := "goBy", desc := "(I)V" } : Jvm.MethodName)) ∈ wA := kA2 (i := 67) rfl rfl
theorem k2_69 : (Jvm.Cond.instanceMethod ({ cls := "BareThursday$Town", name := "goBy", desc := "(I)V" } : Jvm.MethodName)) ∈ wA := kA2 (i := 69) rfl rfl
theorem k2_70 : (Jvm.Cond.code ({ cls := "BareThursday$Town", name := "goBy", desc := "(I)V" } : Jvm.MethodName) prog_5_method_39_code (2 : Nat) (Option.none : Option Jvm.ClassFile.FieldType)) ∈ wA := kA2 (i := 70) rfl rfl
theorem k2_71 : (Jvm.Cond.methodLink "BareThursday$Town" (145 : Nat) ({ cls := "BareThursday$Town", name := "mingle", desc := "(II)V" } : Jvm.MethodName)) ∈ wA := kA2 (i := 71) rfl rfl
theorem k2_73 : (Jvm.Cond.instanceMethod ({ cls := "BareThursday$Town", name := "mingle", desc := "(II)V" } : Jvm.MethodName)) ∈ wA := kA2 (i := 73) rfl rfl
theorem k2_74 : (Jvm.Cond.code ({ cls := "BareThursday$Town", name := "mingle", desc := "(II)V" } : Jvm.MethodName) prog_5_method_35_code (3 : Nat) (Option.none : Option Jvm.ClassFile.FieldType)) ∈ wA := kA2 (i := 74) rfl rfl
theorem k2_75 : (Jvm.Cond.methodLink "BareThursday$Town" (120 : Nat) ({ cls := "BareThursday$Town", name := "mindsGuise", desc := "(II)Z" } : Jvm.MethodName)) ∈ wA := kA2 (i := 75) rfl rfl
theorem k2_76 : (Jvm.Cond.methodLink "BareThursday$Town" (148 : Nat) ({ cls := "BareThursday$Town", name := "skipDays", desc := "(I)V" } : Jvm.MethodName)) ∈ wA := kA2 (i := 76) rfl rfl
theorem k2_77 : (Jvm.Cond.instanceMethod ({ cls := "BareThursday$Town", name := "skipDays", desc := "(I)V" } : Jvm.MethodName)) ∈ wA := kA2 (i := 77) rfl rfl
theorem k2_78 : (Jvm.Cond.selects "BareThursday$Town" ({ cls := "BareThursday$Town", name := "skipDays", desc := "(I)V" } : Jvm.MethodName) ({ cls := "BareThursday$Town", name := "skipDays", desc := "(I)V" } : Jvm.MethodName)) ∈ wA := kA2 (i := 78) rfl rfl
theorem k2_79 : (Jvm.Cond.code ({ cls := "BareThursday$Town", name := "skipDays", desc := "(I)V" } : Jvm.MethodName) prog_5_method_32_code (2 : Nat) (Option.none : Option Jvm.ClassFile.FieldType)) ∈ wA := kA2 (i := 79) rfl rfl
theorem k2_80 : (Jvm.Cond.methodLink "BareThursdayLaw" (48 : Nat) ({ cls := "BareThursday", name := "now", desc := "(I)I" } : Jvm.MethodName)) ∈ wA := kA2 (i := 80) rfl rfl
theorem k2_81 : (Jvm.Cond.instanceMethod ({ cls := "BareThursday", name := "now", desc := "(I)I" } : Jvm.MethodName)) ∈ wA := kA2 (i := 81) rfl rfl
theorem k2_82 : (Jvm.Cond.selects "BareThursday" ({ cls := "BareThursday", name := "now", desc := "(I)I" } : Jvm.MethodName) ({ cls := "BareThursday", name := "now", desc := "(I)I" } : Jvm.MethodName)) ∈ wA := kA2 (i := 82) rfl rfl
theorem k2_83 : (Jvm.Cond.code ({ cls := "BareThursday", name := "now", desc := "(I)I" } : Jvm.MethodName) prog_1_method_10_code (2 : Nat) (Option.some Jvm.ClassFile.FieldType.int)) ∈ wA := kA2 (i := 83) rfl rfl
theorem k2_84 : (Jvm.Cond.methodLink "BareThursday" (110 : Nat) ({ cls := "BareThursday$Town", name := "knowers", desc := "()I" } : Jvm.MethodName)) ∈ wA := kA2 (i := 84) rfl rfl
theorem k2_85 : (Jvm.Cond.instanceMethod ({ cls := "BareThursday$Town", name := "knowers", desc := "()I" } : Jvm.MethodName)) ∈ wA := kA2 (i := 85) rfl rfl
theorem k2_86 : (Jvm.Cond.selects "BareThursday$Town" ({ cls := "BareThursday$Town", name := "knowers", desc := "()I" } : Jvm.MethodName) ({ cls := "BareThursday$Town", name := "knowers", desc := "()I" } : Jvm.MethodName)) ∈ wA := kA2 (i := 86) rfl rfl
theorem k2_87 : (Jvm.Cond.code ({ cls := "BareThursday$Town", name := "knowers", desc := "()I" } : Jvm.MethodName) prog_5_method_21_code (3 : Nat) (Option.some Jvm.ClassFile.FieldType.int)) ∈ wA := kA2 (i := 87) rfl rfl
theorem k2_88 : (Jvm.Cond.methodLink "BareThursday" (114 : Nat) ({ cls := "BareThursday$Town", name := "knowingPairs", desc := "()I" } : Jvm.MethodName)) ∈ wA := kA2 (i := 88) rfl rfl
theorem k2_89 : (Jvm.Cond.instanceMethod ({ cls := "BareThursday$Town", name := "knowingPairs", desc := "()I" } : Jvm.MethodName)) ∈ wA := kA2 (i := 89) rfl rfl
theorem k2_90 : (Jvm.Cond.selects "BareThursday$Town" ({ cls := "BareThursday$Town", name := "knowingPairs", desc := "()I" } : Jvm.MethodName) ({ cls := "BareThursday$Town", name := "knowingPairs", desc := "()I" } : Jvm.MethodName)) ∈ wA := kA2 (i := 90) rfl rfl
theorem k2_91 : (Jvm.Cond.code ({ cls := "BareThursday$Town", name := "knowingPairs", desc := "()I" } : Jvm.MethodName) prog_5_method_22_code (1 : Nat) (Option.some Jvm.ClassFile.FieldType.int)) ∈ wA := kA2 (i := 91) rfl rfl
theorem k2_92 : (Jvm.Cond.methodLink "BareThursday$Town" (130 : Nat) ({ cls := "BareThursday$Town", name := "mutualPairs", desc := "([I)I" } : Jvm.MethodName)) ∈ wA := kA2 (i := 92) rfl rfl
theorem k2_94 : (Jvm.Cond.instanceMethod ({ cls := "BareThursday$Town", name := "mutualPairs", desc := "([I)I" } : Jvm.MethodName)) ∈ wA := kA2 (i := 94) rfl rfl
theorem k2_95 : (Jvm.Cond.code ({ cls := "BareThursday$Town", name := "mutualPairs", desc := "([I)I" } : Jvm.MethodName) prog_5_method_24_code (5 : Nat) (Option.some Jvm.ClassFile.FieldType.int)) ∈ wA := kA2 (i := 95) rfl rfl
theorem k2_96 : (Jvm.Cond.methodLink "BareThursday" (117 : Nat) ({ cls := "BareThursday$Town", name := "metPairs", desc := "()I" } : Jvm.MethodName)) ∈ wA := kA2 (i := 96) rfl rfl
theorem k2_97 : (Jvm.Cond.instanceMethod ({ cls := "BareThursday$Town", name := "metPairs", desc := "()I" } : Jvm.MethodName)) ∈ wA := kA2 (i := 97) rfl rfl
theorem k2_98 : (Jvm.Cond.selects "BareThursday$Town" ({ cls := "BareThursday$Town", name := "metPairs", desc := "()I" } : Jvm.MethodName) ({ cls := "BareThursday$Town", name := "metPairs", desc := "()I" } : Jvm.MethodName)) ∈ wA := kA2 (i := 98) rfl rfl
theorem k2_99 : (Jvm.Cond.code ({ cls := "BareThursday$Town", name := "metPairs", desc := "()I" } : Jvm.MethodName) prog_5_method_23_code (1 : Nat) (Option.some Jvm.ClassFile.FieldType.int)) ∈ wA := kA2 (i := 99) rfl rfl
theorem k2_100 : (Jvm.Cond.methodLink "BareThursday" (120 : Nat) ({ cls := "BareThursday$Town", name := "wornGuises", desc := "()I" } : Jvm.MethodName)) ∈ wA := kA2 (i := 100) rfl rfl
theorem k2_101 : (Jvm.Cond.instanceMethod ({ cls := "BareThursday$Town", name := "wornGuises", desc := "()I" } : Jvm.MethodName)) ∈ wA := kA2 (i := 101) rfl rfl
theorem k2_102 : (Jvm.Cond.selects "BareThursday$Town" ({ cls := "BareThursday$Town", name := "wornGuises", desc := "()I" } : Jvm.MethodName) ({ cls := "BareThursday$Town", name := "wornGuises", desc := "()I" } : Jvm.MethodName)) ∈ wA := kA2 (i := 102) rfl rfl
theorem k2_103 : (Jvm.Cond.code ({ cls := "BareThursday$Town", name := "wornGuises", desc := "()I" } : Jvm.MethodName) prog_5_method_26_code (3 : Nat) (Option.some Jvm.ClassFile.FieldType.int)) ∈ wA := kA2 (i := 103) rfl rfl
theorem k2_104 : (Jvm.Cond.methodLink "BareThursday" (123 : Nat) ({ cls := "BareThursday$Town", name := "passedInAll", desc := "()I" } : Jvm.MethodName)) ∈ wA := kA2 (i := 104) rfl rfl
theorem k2_105 : (Jvm.Cond.instanceMethod ({ cls := "BareThursday$Town", name := "passedInAll", desc := "()I" } : Jvm.MethodName)) ∈ wA := kA2 (i := 105) rfl rfl
theorem k2_106 : (Jvm.Cond.selects "BareThursday$Town" ({ cls := "BareThursday$Town", name := "passedInAll", desc := "()I" } : Jvm.MethodName) ({ cls := "BareThursday$Town", name := "passedInAll", desc := "()I" } : Jvm.MethodName)) ∈ wA := kA2 (i := 106) rfl rfl
theorem k2_107 : (Jvm.Cond.code ({ cls := "BareThursday$Town", name := "passedInAll", desc := "()I" } : Jvm.MethodName) prog_5_method_27_code (3 : Nat) (Option.some Jvm.ClassFile.FieldType.int)) ∈ wA := kA2 (i := 107) rfl rfl
theorem k2_108 : (Jvm.Cond.methodLink "BareThursday" (126 : Nat) ({ cls := "BareThursday$Town", name := "isTheDay", desc := "(I)Z" } : Jvm.MethodName)) ∈ wA := kA2 (i := 108) rfl rfl
theorem k2_109 : (Jvm.Cond.methodLink "BareThursdayLaw" (52 : Nat) ({ cls := "BareThursday", name := "ahead", desc := "(III)I" } : Jvm.MethodName)) ∈ wA := kA2 (i := 109) rfl rfl
theorem k2_110 : (Jvm.Cond.instanceMethod ({ cls := "BareThursday", name := "ahead", desc := "(III)I" } : Jvm.MethodName)) ∈ wA := kA2 (i := 110) rfl rfl
theorem k2_111 : (Jvm.Cond.selects "BareThursday" ({ cls := "BareThursday", name := "ahead", desc := "(III)I" } : Jvm.MethodName) ({ cls := "BareThursday", name := "ahead", desc := "(III)I" } : Jvm.MethodName)) ∈ wA := kA2 (i := 111) rfl rfl
theorem k2_112 : (Jvm.Cond.code ({ cls := "BareThursday", name := "ahead", desc := "(III)I" } : Jvm.MethodName) prog_1_method_11_code (5 : Nat) (Option.some Jvm.ClassFile.FieldType.int)) ∈ wA := kA2 (i := 112) rfl rfl
theorem k2_113 : (Jvm.Cond.methodLink "BareThursday" (129 : Nat) ({ cls := "BareThursday$Town", name := "become", desc := "(LBareThursday$Town;)V" } : Jvm.MethodName)) ∈ wA := kA2 (i := 113) rfl rfl
theorem k2_114 : (Jvm.Cond.instanceMethod ({ cls := "BareThursday$Town", name := "become", desc := "(LBareThursday$Town;)V" } : Jvm.MethodName)) ∈ wA := kA2 (i := 114) rfl rfl
theorem k2_115 : (Jvm.Cond.selects "BareThursday$Town" ({ cls := "BareThursday$Town", name := "become", desc := "(LBareThursday$Town;)V" } : Jvm.MethodName) ({ cls := "BareThursday$Town", name := "become", desc := "(LBareThursday$Town;)V" } : Jvm.MethodName)) ∈ wA := kA2 (i := 115) rfl rfl
theorem k2_116 : (Jvm.Cond.code ({ cls := "BareThursday$Town", name := "become", desc := "(LBareThursday$Town;)V" } : Jvm.MethodName) prog_5_method_2_code (2 : Nat) (Option.none : Option Jvm.ClassFile.FieldType)) ∈ wA := kA2 (i := 116) rfl rfl
theorem k2_117 : (Jvm.Cond.methodLink "BareThursday$Town" (53 : Nat) ({ cls := "java/lang/System", name := "arraycopy", desc := "(Ljava/lang/Object;ILjava/lang/Object;II)V" } : Jvm.MethodName)) ∈ wA := kA2 (i := 117) rfl rfl
theorem k2_118 : (Jvm.Cond.static ({ cls := "java/lang/System", name := "arraycopy", desc := "(Ljava/lang/Object;ILjava/lang/Object;II)V" } : Jvm.MethodName)) ∈ wA := kA2 (i := 118) rfl rfl
theorem k2_119 : (Jvm.Cond.native ({ cls := "java/lang/System", name := "arraycopy", desc := "(Ljava/lang/Object;ILjava/lang/Object;II)V" } : Jvm.MethodName)) ∈ wA := kA2 (i := 119) rfl rfl
theorem k2_120 : (Jvm.Cond.methodLink "BareThursdayLaw" (56 : Nat) ({ cls := "BareThursday", name := "joy", desc := "(I)I" } : Jvm.MethodName)) ∈ wA := kA2 (i := 120) rfl rfl
theorem k2_121 : (Jvm.Cond.instanceMethod ({ cls := "BareThursday", name := "joy", desc := "(I)I" } : Jvm.MethodName)) ∈ wA := kA2 (i := 121) rfl rfl
theorem k2_122 : (Jvm.Cond.selects "BareThursday" ({ cls := "BareThursday", name := "joy", desc := "(I)I" } : Jvm.MethodName) ({ cls := "BareThursday", name := "joy", desc := "(I)I" } : Jvm.MethodName)) ∈ wA := kA2 (i := 122) rfl rfl
theorem k2_123 : (Jvm.Cond.code ({ cls := "BareThursday", name := "joy", desc := "(I)I" } : Jvm.MethodName) prog_1_method_12_code (2 : Nat) (Option.some Jvm.ClassFile.FieldType.int)) ∈ wA := kA2 (i := 123) rfl rfl
theorem k2_124 : (Jvm.Cond.methodLink "BareThursdayLaw" (60 : Nat) ({ cls := "BareThursday", name := "when", desc := "(III)I" } : Jvm.MethodName)) ∈ wA := kA2 (i := 124) rfl rfl
theorem k2_125 : (Jvm.Cond.instanceMethod ({ cls := "BareThursday", name := "when", desc := "(III)I" } : Jvm.MethodName)) ∈ wA := kA2 (i := 125) rfl rfl
theorem k2_126 : (Jvm.Cond.selects "BareThursday" ({ cls := "BareThursday", name := "when", desc := "(III)I" } : Jvm.MethodName) ({ cls := "BareThursday", name := "when", desc := "(III)I" } : Jvm.MethodName)) ∈ wA := kA2 (i := 126) rfl rfl
theorem k2_127 : (Jvm.Cond.code ({ cls := "BareThursday", name := "when", desc := "(III)I" } : Jvm.MethodName) prog_1_method_13_code (5 : Nat) (Option.some Jvm.ClassFile.FieldType.int)) ∈ wA := kA2 (i := 127) rfl rfl
theorem k2_128 : (Jvm.Cond.methodLink "BareThursday" (133 : Nat) ({ cls := "BareThursday", name := "isSo", desc := "(LBareThursday$Town;III)Z" } : Jvm.MethodName)) ∈ wA := kA2 (i := 128) rfl rfl
theorem k2_129 : (Jvm.Cond.static ({ cls := "BareThursday", name := "isSo", desc := "(LBareThursday$Town;III)Z" } : Jvm.MethodName)) ∈ wA := kA2 (i := 129) rfl rfl
theorem k2_130 : (Jvm.Cond.code ({ cls := "BareThursday", name := "isSo", desc := "(LBareThursday$Town;III)Z" } : Jvm.MethodName) prog_1_method_14_code (4 : Nat) (Option.some Jvm.ClassFile.FieldType.boolean)) ∈ wA := kA2 (i := 130) rfl rfl
theorem k2_131 : (Jvm.Cond.methodLink "BareThursday" (137 : Nat) ({ cls := "BareThursday$Town", name := "passDay", desc := "()V" } : Jvm.MethodName)) ∈ wA := kA2 (i := 131) rfl rfl
theorem k2_132 : (Jvm.Cond.methodLink "BareThursdayLaw" (64 : Nat) ({ cls := "BareThursday", name := "known", desc := "()I" } : Jvm.MethodName)) ∈ wA := kA2 (i := 132) rfl rfl
theorem k2_133 : (Jvm.Cond.instanceMethod ({ cls := "BareThursday", name := "known", desc := "()I" } : Jvm.MethodName)) ∈ wA := kA2 (i := 133) rfl rfl
theorem k2_134 : (Jvm.Cond.selects "BareThursday" ({ cls := "BareThursday", name := "known", desc := "()I" } : Jvm.MethodName) ({ cls := "BareThursday", name := "known", desc := "()I" } : Jvm.MethodName)) ∈ wA := kA2 (i := 134) rfl rfl
theorem k2_135 : (Jvm.Cond.code ({ cls := "BareThursday", name := "known", desc := "()I" } : Jvm.MethodName) prog_1_method_15_code (2 : Nat) (Option.some Jvm.ClassFile.FieldType.int)) ∈ wA := kA2 (i := 135) rfl rfl
theorem k2_136 : (Jvm.Cond.methodLink "BareThursdayLaw" (69 : Nat) ({ cls := "BareThursday", name := "passed", desc := "(II)I" } : Jvm.MethodName)) ∈ wA := kA2 (i := 136) rfl rfl
theorem k2_137 : (Jvm.Cond.instanceMethod ({ cls := "BareThursday", name := "passed", desc := "(II)I" } : Jvm.MethodName)) ∈ wA := kA2 (i := 137) rfl rfl
theorem k2_138 : (Jvm.Cond.selects "BareThursday" ({ cls := "BareThursday", name := "passed", desc := "(II)I" } : Jvm.MethodName) ({ cls := "BareThursday", name := "passed", desc := "(II)I" } : Jvm.MethodName)) ∈ wA := kA2 (i := 138) rfl rfl
theorem k2_139 : (Jvm.Cond.code ({ cls := "BareThursday", name := "passed", desc := "(II)I" } : Jvm.MethodName) prog_1_method_16_code (4 : Nat) (Option.some Jvm.ClassFile.FieldType.int)) ∈ wA := kA2 (i := 139) rfl rfl
theorem k2_140 : (Jvm.Cond.methodLink "BareThursdayLaw" (73 : Nat) ({ cls := "BareThursday", name := "standFor", desc := "(II)I" } : Jvm.MethodName)) ∈ wA := kA2 (i := 140) rfl rfl
theorem k2_141 : (Jvm.Cond.instanceMethod ({ cls := "BareThursday", name := "standFor", desc := "(II)I" } : Jvm.MethodName)) ∈ wA := kA2 (i := 141) rfl rfl
theorem k2_142 : (Jvm.Cond.selects "BareThursday" ({ cls := "BareThursday", name := "standFor", desc := "(II)I" } : Jvm.MethodName) ({ cls := "BareThursday", name := "standFor", desc := "(II)I" } : Jvm.MethodName)) ∈ wA := kA2 (i := 142) rfl rfl
theorem k2_143 : (Jvm.Cond.code ({ cls := "BareThursday", name := "standFor", desc := "(II)I" } : Jvm.MethodName) prog_1_method_17_code (3 : Nat) (Option.some Jvm.ClassFile.FieldType.int)) ∈ wA := kA2 (i := 143) rfl rfl
theorem k2_144 : (Jvm.Cond.methodLink "BareThursday" (140 : Nat) ({ cls := "BareThursday", name := "mostJoyous", desc := "(IIII)I" } : Jvm.MethodName)) ∈ wA := kA2 (i := 144) rfl rfl
theorem k2_146 : (Jvm.Cond.instanceMethod ({ cls := "BareThursday", name := "mostJoyous", desc := "(IIII)I" } : Jvm.MethodName)) ∈ wA := kA2 (i := 146) rfl rfl
theorem k2_147 : (Jvm.Cond.code ({ cls := "BareThursday", name := "mostJoyous", desc := "(IIII)I" } : Jvm.MethodName) prog_1_method_20_code (8 : Nat) (Option.some Jvm.ClassFile.FieldType.int)) ∈ wA := kA2 (i := 147) rfl rfl
theorem k2_148 : (Jvm.Cond.methodLink "BareThursdayLaw" (77 : Nat) ({ cls := "BareThursday", name := "guiseFor", desc := "(II)I" } : Jvm.MethodName)) ∈ wA := kA2 (i := 148) rfl rfl
theorem k2_149 : (Jvm.Cond.instanceMethod ({ cls := "BareThursday", name := "guiseFor", desc := "(II)I" } : Jvm.MethodName)) ∈ wA := kA2 (i := 149) rfl rfl
theorem k2_150 : (Jvm.Cond.selects "BareThursday" ({ cls := "BareThursday", name := "guiseFor", desc := "(II)I" } : Jvm.MethodName) ({ cls := "BareThursday", name := "guiseFor", desc := "(II)I" } : Jvm.MethodName)) ∈ wA := kA2 (i := 150) rfl rfl
theorem k2_151 : (Jvm.Cond.code ({ cls := "BareThursday", name := "guiseFor", desc := "(II)I" } : Jvm.MethodName) prog_1_method_18_code (3 : Nat) (Option.some Jvm.ClassFile.FieldType.int)) ∈ wA := kA2 (i := 151) rfl rfl
theorem k2_152 : (Jvm.Cond.methodLink "BareThursdayLaw" (81 : Nat) ({ cls := "BareThursday", name := "kindFor", desc := "(II)I" } : Jvm.MethodName)) ∈ wA := kA2 (i := 152) rfl rfl
theorem k2_153 : (Jvm.Cond.instanceMethod ({ cls := "BareThursday", name := "kindFor", desc := "(II)I" } : Jvm.MethodName)) ∈ wA := kA2 (i := 153) rfl rfl
theorem k2_154 : (Jvm.Cond.selects "BareThursday" ({ cls := "BareThursday", name := "kindFor", desc := "(II)I" } : Jvm.MethodName) ({ cls := "BareThursday", name := "kindFor", desc := "(II)I" } : Jvm.MethodName)) ∈ wA := kA2 (i := 154) rfl rfl
theorem k2_155 : (Jvm.Cond.code ({ cls := "BareThursday", name := "kindFor", desc := "(II)I" } : Jvm.MethodName) prog_1_method_19_code (3 : Nat) (Option.some Jvm.ClassFile.FieldType.int)) ∈ wA := kA2 (i := 155) rfl rfl
theorem k2_156 : (Jvm.Cond.methodLink "BareThursdayLaw" (85 : Nat) ({ cls := "BareThursday", name := "dark", desc := "(I)I" } : Jvm.MethodName)) ∈ wA := kA2 (i := 156) rfl rfl
theorem k2_157 : (Jvm.Cond.instanceMethod ({ cls := "BareThursday", name := "dark", desc := "(I)I" } : Jvm.MethodName)) ∈ wA := kA2 (i := 157) rfl rfl
theorem k2_158 : (Jvm.Cond.selects "BareThursday" ({ cls := "BareThursday", name := "dark", desc := "(I)I" } : Jvm.MethodName) ({ cls := "BareThursday", name := "dark", desc := "(I)I" } : Jvm.MethodName)) ∈ wA := kA2 (i := 158) rfl rfl
theorem k2_159 : (Jvm.Cond.code ({ cls := "BareThursday", name := "dark", desc := "(I)I" } : Jvm.MethodName) prog_1_method_21_code (4 : Nat) (Option.some Jvm.ClassFile.FieldType.int)) ∈ wA := kA2 (i := 159) rfl rfl
theorem k2_160 : (Jvm.Cond.methodLink "BareThursday" (147 : Nat) ({ cls := "BareThursday$Town", name := "everybody", desc := "()I" } : Jvm.MethodName)) ∈ wA := kA2 (i := 160) rfl rfl
theorem k2_161 : (Jvm.Cond.methodLink "BareThursday" (150 : Nat) ({ cls := "java/lang/Integer", name := "bitCount", desc := "(I)I" } : Jvm.MethodName)) ∈ wA := kA2 (i := 161) rfl rfl
theorem k2_162 : (Jvm.Cond.methodLink "BareThursday" (155 : Nat) ({ cls := "BareThursday", name := "staysJoyless", desc := "(II)Z" } : Jvm.MethodName)) ∈ wA := kA2 (i := 162) rfl rfl
theorem k2_164 : (Jvm.Cond.instanceMethod ({ cls := "BareThursday", name := "staysJoyless", desc := "(II)Z" } : Jvm.MethodName)) ∈ wA := kA2 (i := 164) rfl rfl
theorem k2_165 : (Jvm.Cond.code ({ cls := "BareThursday", name := "staysJoyless", desc := "(II)Z" } : Jvm.MethodName) prog_1_method_22_code (4 : Nat) (Option.some Jvm.ClassFile.FieldType.boolean)) ∈ wA := kA2 (i := 165) rfl rfl
theorem k2_166 : (Jvm.Cond.methodLink "BareThursday" (158 : Nat) ({ cls := "BareThursday$Town", name := "putOut", desc := "(I)V" } : Jvm.MethodName)) ∈ wA := kA2 (i := 166) rfl rfl
theorem k2_167 : (Jvm.Cond.instanceMethod ({ cls := "BareThursday$Town", name := "putOut", desc := "(I)V" } : Jvm.MethodName)) ∈ wA := kA2 (i := 167) rfl rfl
theorem k2_168 : (Jvm.Cond.selects "BareThursday$Town" ({ cls := "BareThursday$Town", name := "putOut", desc := "(I)V" } : Jvm.MethodName) ({ cls := "BareThursday$Town", name := "putOut", desc := "(I)V" } : Jvm.MethodName)) ∈ wA := kA2 (i := 168) rfl rfl
theorem k2_169 : (Jvm.Cond.code ({ cls := "BareThursday$Town", name := "putOut", desc := "(I)V" } : Jvm.MethodName) prog_5_method_13_code (3 : Nat) (Option.none : Option Jvm.ClassFile.FieldType)) ∈ wA := kA2 (i := 169) rfl rfl
theorem k2_170 : (Jvm.Cond.methodLink "BareThursdayLaw" (89 : Nat) ({ cls := "BareThursday", name := "circle", desc := "(I)I" } : Jvm.MethodName)) ∈ wA := kA2 (i := 170) rfl rfl
theorem k2_171 : (Jvm.Cond.instanceMethod ({ cls := "BareThursday", name := "circle", desc := "(I)I" } : Jvm.MethodName)) ∈ wA := kA2 (i := 171) rfl rfl
theorem k2_172 : (Jvm.Cond.selects "BareThursday" ({ cls := "BareThursday", name := "circle", desc := "(I)I" } : Jvm.MethodName) ({ cls := "BareThursday", name := "circle", desc := "(I)I" } : Jvm.MethodName)) ∈ wA := kA2 (i := 172) rfl rfl
theorem k2_173 : (Jvm.Cond.code ({ cls := "BareThursday", name := "circle", desc := "(I)I" } : Jvm.MethodName) prog_1_method_23_code (4 : Nat) (Option.some Jvm.ClassFile.FieldType.int)) ∈ wA := kA2 (i := 173) rfl rfl
theorem k2_174 : (Jvm.Cond.methodLink "BareThursday" (161 : Nat) ({ cls := "BareThursday$Town", name := "isCircle", desc := "(IZ)Z" } : Jvm.MethodName)) ∈ wA := kA2 (i := 174) rfl rfl
theorem k2_175 : (Jvm.Cond.instanceMethod ({ cls := "BareThursday$Town", name := "isCircle", desc := "(IZ)Z" } : Jvm.MethodName)) ∈ wA := kA2 (i := 175) rfl rfl
theorem k2_176 : (Jvm.Cond.selects "BareThursday$Town" ({ cls := "BareThursday$Town", name := "isCircle", desc := "(IZ)Z" } : Jvm.MethodName) ({ cls := "BareThursday$Town", name := "isCircle", desc := "(IZ)Z" } : Jvm.MethodName)) ∈ wA := kA2 (i := 176) rfl rfl
theorem k2_177 : (Jvm.Cond.code ({ cls := "BareThursday$Town", name := "isCircle", desc := "(IZ)Z" } : Jvm.MethodName) prog_5_method_25_code (5 : Nat) (Option.some Jvm.ClassFile.FieldType.boolean)) ∈ wA := kA2 (i := 177) rfl rfl
theorem k2_178 : (Jvm.Cond.methodLink "BareThursdayLaw" (93 : Nat) ({ cls := "BareThursday", name := "fits", desc := "(II)I" } : Jvm.MethodName)) ∈ wA := kA2 (i := 178) rfl rfl
theorem k2_179 : (Jvm.Cond.instanceMethod ({ cls := "BareThursday", name := "fits", desc := "(II)I" } : Jvm.MethodName)) ∈ wA := kA2 (i := 179) rfl rfl
theorem k2_180 : (Jvm.Cond.selects "BareThursday" ({ cls := "BareThursday", name := "fits", desc := "(II)I" } : Jvm.MethodName) ({ cls := "BareThursday", name := "fits", desc := "(II)I" } : Jvm.MethodName)) ∈ wA := kA2 (i := 180) rfl rfl
theorem k2_181 : (Jvm.Cond.code ({ cls := "BareThursday", name := "fits", desc := "(II)I" } : Jvm.MethodName) prog_1_method_24_code (3 : Nat) (Option.some Jvm.ClassFile.FieldType.int)) ∈ wA := kA2 (i := 181) rfl rfl
theorem k2_182 : (Jvm.Cond.methodLink "BareThursday" (165 : Nat) ({ cls := "BareThursday", name := "fitting", desc := "(IIII)I" } : Jvm.MethodName)) ∈ wA := kA2 (i := 182) rfl rfl
theorem k2_184 : (Jvm.Cond.instanceMethod ({ cls := "BareThursday", name := "fitting", desc := "(IIII)I" } : Jvm.MethodName)) ∈ wA := kA2 (i := 184) rfl rfl
theorem k2_185 : (Jvm.Cond.code ({ cls := "BareThursday", name := "fitting", desc := "(IIII)I" } : Jvm.MethodName) prog_1_method_26_code (7 : Nat) (Option.some Jvm.ClassFile.FieldType.int)) ∈ wA := kA2 (i := 185) rfl rfl
theorem k2_186 : (Jvm.Cond.methodLink "BareThursday" (168 : Nat) ({ cls := "BareThursday$Sheets", name := "isMissing", desc := "(I)Z" } : Jvm.MethodName)) ∈ wA := kA2 (i := 186) rfl rfl
theorem k2_187 : (Jvm.Cond.instanceMethod ({ cls := "BareThursday$Sheets", name := "isMissing", desc := "(I)Z" } : Jvm.MethodName)) ∈ wA := kA2 (i := 187) rfl rfl
theorem k2_188 : (Jvm.Cond.selects "BareThursday$Sheets" ({ cls := "BareThursday$Sheets", name := "isMissing", desc := "(I)Z" } : Jvm.MethodName) ({ cls := "BareThursday$Sheets", name := "isMissing", desc := "(I)Z" } : Jvm.MethodName)) ∈ wA := kA2 (i := 188) rfl rfl
theorem k2_189 : (Jvm.Cond.code ({ cls := "BareThursday$Sheets", name := "isMissing", desc := "(I)Z" } : Jvm.MethodName) prog_3_method_3_code (2 : Nat) (Option.some Jvm.ClassFile.FieldType.boolean)) ∈ wA := kA2 (i := 189) rfl rfl
theorem k2_190 : (Jvm.Cond.methodLink "BareThursday" (171 : Nat) ({ cls := "BareThursday", name := "meetsAsTold", desc := "(II)Z" } : Jvm.MethodName)) ∈ wA := kA2 (i := 190) rfl rfl
theorem k2_192 : (Jvm.Cond.instanceMethod ({ cls := "BareThursday", name := "meetsAsTold", desc := "(II)Z" } : Jvm.MethodName)) ∈ wA := kA2 (i := 192) rfl rfl
theorem k2_193 : (Jvm.Cond.code ({ cls := "BareThursday", name := "meetsAsTold", desc := "(II)Z" } : Jvm.MethodName) prog_1_method_27_code (5 : Nat) (Option.some Jvm.ClassFile.FieldType.boolean)) ∈ wA := kA2 (i := 193) rfl rfl
theorem k2_194 : (Jvm.Cond.methodLink "BareThursday" (174 : Nat) ({ cls := "BareThursday$Sheets", name := "length", desc := "(I)I" } : Jvm.MethodName)) ∈ wA := kA2 (i := 194) rfl rfl
theorem k2_195 : (Jvm.Cond.instanceMethod ({ cls := "BareThursday$Sheets", name := "length", desc := "(I)I" } : Jvm.MethodName)) ∈ wA := kA2 (i := 195) rfl rfl
theorem k2_196 : (Jvm.Cond.selects "BareThursday$Sheets" ({ cls := "BareThursday$Sheets", name := "length", desc := "(I)I" } : Jvm.MethodName) ({ cls := "BareThursday$Sheets", name := "length", desc := "(I)I" } : Jvm.MethodName)) ∈ wA := kA2 (i := 196) rfl rfl
theorem k2_197 : (Jvm.Cond.code ({ cls := "BareThursday$Sheets", name := "length", desc := "(I)I" } : Jvm.MethodName) prog_3_method_5_code (2 : Nat) (Option.some Jvm.ClassFile.FieldType.int)) ∈ wA := kA2 (i := 197) rfl rfl
theorem k2_198 : (Jvm.Cond.methodLink "BareThursday" (177 : Nat) ({ cls := "BareThursday$Sheets", name := "number", desc := "(II)I" } : Jvm.MethodName)) ∈ wA := kA2 (i := 198) rfl rfl
theorem k2_199 : (Jvm.Cond.instanceMethod ({ cls := "BareThursday$Sheets", name := "number", desc := "(II)I" } : Jvm.MethodName)) ∈ wA := kA2 (i := 199) rfl rfl
theorem k2_200 : (Jvm.Cond.selects "BareThursday$Sheets" ({ cls := "BareThursday$Sheets", name := "number", desc := "(II)I" } : Jvm.MethodName) ({ cls := "BareThursday$Sheets", name := "number", desc := "(II)I" } : Jvm.MethodName)) ∈ wA := kA2 (i := 200) rfl rfl
theorem k2_201 : (Jvm.Cond.code ({ cls := "BareThursday$Sheets", name := "number", desc := "(II)I" } : Jvm.MethodName) prog_3_method_6_code (3 : Nat) (Option.some Jvm.ClassFile.FieldType.int)) ∈ wA := kA2 (i := 201) rfl rfl
theorem k2_202 : (Jvm.Cond.methodLink "BareThursdayLaw" (97 : Nat) ({ cls := "BareThursday", name := "kinds", desc := "(II)I" } : Jvm.MethodName)) ∈ wA := kA2 (i := 202) rfl rfl
theorem k2_203 : (Jvm.Cond.instanceMethod ({ cls := "BareThursday", name := "kinds", desc := "(II)I" } : Jvm.MethodName)) ∈ wA := kA2 (i := 203) rfl rfl
theorem k2_204 : (Jvm.Cond.selects "BareThursday" ({ cls := "BareThursday", name := "kinds", desc := "(II)I" } : Jvm.MethodName) ({ cls := "BareThursday", name := "kinds", desc := "(II)I" } : Jvm.MethodName)) ∈ wA := kA2 (i := 204) rfl rfl
theorem k2_205 : (Jvm.Cond.code ({ cls := "BareThursday", name := "kinds", desc := "(II)I" } : Jvm.MethodName) prog_1_method_25_code (3 : Nat) (Option.some Jvm.ClassFile.FieldType.int)) ∈ wA := kA2 (i := 205) rfl rfl
theorem k2_206 : (Jvm.Cond.methodLink "BareThursdayLaw" (101 : Nat) ({ cls := "BareThursday", name := "night", desc := "(I)I" } : Jvm.MethodName)) ∈ wA := kA2 (i := 206) rfl rfl
theorem k2_207 : (Jvm.Cond.instanceMethod ({ cls := "BareThursday", name := "night", desc := "(I)I" } : Jvm.MethodName)) ∈ wA := kA2 (i := 207) rfl rfl
theorem k2_208 : (Jvm.Cond.selects "BareThursday" ({ cls := "BareThursday", name := "night", desc := "(I)I" } : Jvm.MethodName) ({ cls := "BareThursday", name := "night", desc := "(I)I" } : Jvm.MethodName)) ∈ wA := kA2 (i := 208) rfl rfl
theorem k2_209 : (Jvm.Cond.code ({ cls := "BareThursday", name := "night", desc := "(I)I" } : Jvm.MethodName) prog_1_method_28_code (6 : Nat) (Option.some Jvm.ClassFile.FieldType.int)) ∈ wA := kA2 (i := 209) rfl rfl
theorem k2_210 : (Jvm.Cond.methodLink "BareThursday" (180 : Nat) ({ cls := "BareThursday$Town", name := "draw", desc := "()I" } : Jvm.MethodName)) ∈ wA := kA2 (i := 210) rfl rfl
theorem k2_211 : (Jvm.Cond.instanceMethod ({ cls := "BareThursday$Town", name := "draw", desc := "()I" } : Jvm.MethodName)) ∈ wA := kA2 (i := 211) rfl rfl
theorem k2_212 : (Jvm.Cond.selects "BareThursday$Town" ({ cls := "BareThursday$Town", name := "draw", desc := "()I" } : Jvm.MethodName) ({ cls := "BareThursday$Town", name := "draw", desc := "()I" } : Jvm.MethodName)) ∈ wA := kA2 (i := 212) rfl rfl
theorem k2_213 : (Jvm.Cond.code ({ cls := "BareThursday$Town", name := "draw", desc := "()I" } : Jvm.MethodName) prog_5_method_40_code (1 : Nat) (Option.some Jvm.ClassFile.FieldType.int)) ∈ wA := kA2 (i := 213) rfl rfl
theorem k2_214 : (Jvm.Cond.constant "BareThursday$Town" (167 : Nat) (1103515245 : Int32)) ∈ wA := kA2 (i := 214) rfl rfl
theorem k2_215 : (Jvm.Cond.methodLink "BareThursdayLaw" (105 : Nat) ({ cls := "BareThursday", name := "odds", desc := "(III)J" } : Jvm.MethodName)) ∈ wA := kA2 (i := 215) rfl rfl
theorem k2_216 : (Jvm.Cond.instanceMethod ({ cls := "BareThursday", name := "odds", desc := "(III)J" } : Jvm.MethodName)) ∈ wA := kA2 (i := 216) rfl rfl
theorem k2_217 : (Jvm.Cond.selects "BareThursday" ({ cls := "BareThursday", name := "odds", desc := "(III)J" } : Jvm.MethodName) ({ cls := "BareThursday", name := "odds", desc := "(III)J" } : Jvm.MethodName)) ∈ wA := kA2 (i := 217) rfl rfl
theorem k2_218 : (Jvm.Cond.code ({ cls := "BareThursday", name := "odds", desc := "(III)J" } : Jvm.MethodName) prog_1_method_29_code (11 : Nat) (Option.some Jvm.ClassFile.FieldType.long)) ∈ wA := kA2 (i := 218) rfl rfl
theorem k2_219 : (Jvm.Cond.methodLink "BareThursday" (183 : Nat) ({ cls := "BareThursday$Town", name := "mindedGuises", desc := "(I)I" } : Jvm.MethodName)) ∈ wA := kA2 (i := 219) rfl rfl
theorem k2_220 : (Jvm.Cond.instanceMethod ({ cls := "BareThursday$Town", name := "mindedGuises", desc := "(I)I" } : Jvm.MethodName)) ∈ wA := kA2 (i := 220) rfl rfl
theorem k2_221 : (Jvm.Cond.selects "BareThursday$Town" ({ cls := "BareThursday$Town", name := "mindedGuises", desc := "(I)I" } : Jvm.MethodName) ({ cls := "BareThursday$Town", name := "mindedGuises", desc := "(I)I" } : Jvm.MethodName)) ∈ wA := kA2 (i := 221) rfl rfl
theorem k2_222 : (Jvm.Cond.code ({ cls := "BareThursday$Town", name := "mindedGuises", desc := "(I)I" } : Jvm.MethodName) prog_5_method_17_code (4 : Nat) (Option.some Jvm.ClassFile.FieldType.int)) ∈ wA := kA2 (i := 222) rfl rfl
theorem k2_223 : (Jvm.Cond.methodLink "BareThursday" (186 : Nat) ({ cls := "BareThursday", name := "divisorWithGuises", desc := "(I)I" } : Jvm.MethodName)) ∈ wA := kA2 (i := 223) rfl rfl
theorem k2_224 : (Jvm.Cond.static ({ cls := "BareThursday", name := "divisorWithGuises", desc := "(I)I" } : Jvm.MethodName)) ∈ wA := kA2 (i := 224) rfl rfl
theorem k2_225 : (Jvm.Cond.code ({ cls := "BareThursday", name := "divisorWithGuises", desc := "(I)I" } : Jvm.MethodName) prog_1_method_30_code (2 : Nat) (Option.some Jvm.ClassFile.FieldType.int)) ∈ wA := kA2 (i := 225) rfl rfl
theorem k2_226 : (Jvm.Cond.methodLink "BareThursdayLaw" (110 : Nat) ({ cls := "BareThursday", name := "seed", desc := "(I)I" } : Jvm.MethodName)) ∈ wA := kA2 (i := 226) rfl rfl
theorem k2_227 : (Jvm.Cond.instanceMethod ({ cls := "BareThursday", name := "seed", desc := "(I)I" } : Jvm.MethodName)) ∈ wA := kA2 (i := 227) rfl rfl
theorem k2_228 : (Jvm.Cond.selects "BareThursday" ({ cls := "BareThursday", name := "seed", desc := "(I)I" } : Jvm.MethodName) ({ cls := "BareThursday", name := "seed", desc := "(I)I" } : Jvm.MethodName)) ∈ wA := kA2 (i := 228) rfl rfl
theorem k2_229 : (Jvm.Cond.code ({ cls := "BareThursday", name := "seed", desc := "(I)I" } : Jvm.MethodName) prog_1_method_31_code (3 : Nat) (Option.some Jvm.ClassFile.FieldType.int)) ∈ wA := kA2 (i := 229) rfl rfl
theorem k2_230 : (Jvm.Cond.methodLink "BareThursdayLaw" (114 : Nat) ({ cls := "BareThursday", name := "feed", desc := "(II)I" } : Jvm.MethodName)) ∈ wA := kA2 (i := 230) rfl rfl
theorem k2_231 : (Jvm.Cond.instanceMethod ({ cls := "BareThursday", name := "feed", desc := "(II)I" } : Jvm.MethodName)) ∈ wA := kA2 (i := 231) rfl rfl
theorem k2_232 : (Jvm.Cond.selects "BareThursday" ({ cls := "BareThursday", name := "feed", desc := "(II)I" } : Jvm.MethodName) ({ cls := "BareThursday", name := "feed", desc := "(II)I" } : Jvm.MethodName)) ∈ wA := kA2 (i := 232) rfl rfl
theorem k2_233 : (Jvm.Cond.code ({ cls := "BareThursday", name := "feed", desc := "(II)I" } : Jvm.MethodName) prog_1_method_32_code (4 : Nat) (Option.some Jvm.ClassFile.FieldType.int)) ∈ wA := kA2 (i := 233) rfl rfl
theorem k2_234 : (Jvm.Cond.methodLink "BareThursday" (192 : Nat) ({ cls := "BareThursday$Tape", name := "room", desc := "()I" } : Jvm.MethodName)) ∈ wA := kA2 (i := 234) rfl rfl
theorem k2_235 : (Jvm.Cond.instanceMethod ({ cls := "BareThursday$Tape", name := "room", desc := "()I" } : Jvm.MethodName)) ∈ wA := kA2 (i := 235) rfl rfl
theorem k2_236 : (Jvm.Cond.selects "BareThursday$Tape" ({ cls := "BareThursday$Tape", name := "room", desc := "()I" } : Jvm.MethodName) ({ cls := "BareThursday$Tape", name := "room", desc := "()I" } : Jvm.MethodName)) ∈ wA := kA2 (i := 236) rfl rfl
theorem k2_237 : (Jvm.Cond.code ({ cls := "BareThursday$Tape", name := "room", desc := "()I" } : Jvm.MethodName) prog_4_method_3_code (1 : Nat) (Option.some Jvm.ClassFile.FieldType.int)) ∈ wA := kA2 (i := 237) rfl rfl
theorem k2_238 : (Jvm.Cond.methodLink "BareThursday" (195 : Nat) ({ cls := "BareThursday$Tape", name := "add", desc := "(I)V" } : Jvm.MethodName)) ∈ wA := kA2 (i := 238) rfl rfl
theorem k2_239 : (Jvm.Cond.instanceMethod ({ cls := "BareThursday$Tape", name := "add", desc := "(I)V" } : Jvm.MethodName)) ∈ wA := kA2 (i := 239) rfl rfl
theorem k3_0 : (Jvm.Cond.selects "BareThursday$Tape" ({ cls := "BareThursday$Tape", name := "add", desc := "(I)V" } : Jvm.MethodName) ({ cls := "BareThursday$Tape", name := "add", desc := "(I)V" } : Jvm.MethodName)) ∈ wA := kA3 (i := 0) rfl rfl
theorem k3_1 : (Jvm.Cond.code ({ cls := "BareThursday$Tape", name := "add", desc := "(I)V" } : Jvm.MethodName) prog_4_method_5_code (2 : Nat) (Option.none : Option Jvm.ClassFile.FieldType)) ∈ wA := kA3 (i := 1) rfl rfl
theorem k3_2 : (Jvm.Cond.methodLink "BareThursday" (197 : Nat) ({ cls := "BareThursday$Tape", name := "length", desc := "()I" } : Jvm.MethodName)) ∈ wA := kA3 (i := 2) rfl rfl
theorem k3_3 : (Jvm.Cond.instanceMethod ({ cls := "BareThursday$Tape", name := "length", desc := "()I" } : Jvm.MethodName)) ∈ wA := kA3 (i := 3) rfl rfl
theorem k3_4 : (Jvm.Cond.selects "BareThursday$Tape" ({ cls := "BareThursday$Tape", name := "length", desc := "()I" } : Jvm.MethodName) ({ cls := "BareThursday$Tape", name := "length", desc := "()I" } : Jvm.MethodName)) ∈ wA := kA3 (i := 4) rfl rfl
theorem k3_5 : (Jvm.Cond.code ({ cls := "BareThursday$Tape", name := "length", desc := "()I" } : Jvm.MethodName) prog_4_method_2_code (1 : Nat) (Option.some Jvm.ClassFile.FieldType.int)) ∈ wA := kA3 (i := 5) rfl rfl
theorem k3_6 : (Jvm.Cond.methodLink "BareThursdayLaw" (118 : Nat) ({ cls := "BareThursday", name := "wipe", desc := "()I" } : Jvm.MethodName)) ∈ wA := kA3 (i := 6) rfl rfl
theorem k3_7 : (Jvm.Cond.instanceMethod ({ cls := "BareThursday", name := "wipe", desc := "()I" } : Jvm.MethodName)) ∈ wA := kA3 (i := 7) rfl rfl
theorem k3_8 : (Jvm.Cond.selects "BareThursday" ({ cls := "BareThursday", name := "wipe", desc := "()I" } : Jvm.MethodName) ({ cls := "BareThursday", name := "wipe", desc := "()I" } : Jvm.MethodName)) ∈ wA := kA3 (i := 8) rfl rfl
theorem k3_9 : (Jvm.Cond.code ({ cls := "BareThursday", name := "wipe", desc := "()I" } : Jvm.MethodName) prog_1_method_33_code (1 : Nat) (Option.some Jvm.ClassFile.FieldType.int)) ∈ wA := kA3 (i := 9) rfl rfl
theorem k3_10 : (Jvm.Cond.methodLink "BareThursday" (199 : Nat) ({ cls := "BareThursday$Tape", name := "empty", desc := "()I" } : Jvm.MethodName)) ∈ wA := kA3 (i := 10) rfl rfl
theorem k3_11 : (Jvm.Cond.instanceMethod ({ cls := "BareThursday$Tape", name := "empty", desc := "()I" } : Jvm.MethodName)) ∈ wA := kA3 (i := 11) rfl rfl
theorem k3_12 : (Jvm.Cond.selects "BareThursday$Tape" ({ cls := "BareThursday$Tape", name := "empty", desc := "()I" } : Jvm.MethodName) ({ cls := "BareThursday$Tape", name := "empty", desc := "()I" } : Jvm.MethodName)) ∈ wA := kA3 (i := 12) rfl rfl
theorem k3_13 : (Jvm.Cond.code ({ cls := "BareThursday$Tape", name := "empty", desc := "()I" } : Jvm.MethodName) prog_4_method_4_code (2 : Nat) (Option.some Jvm.ClassFile.FieldType.int)) ∈ wA := kA3 (i := 13) rfl rfl
theorem k3_14 : (Jvm.Cond.methodLink "BareThursdayLaw" (122 : Nat) ({ cls := "BareThursday", name := "text", desc := "()I" } : Jvm.MethodName)) ∈ wA := kA3 (i := 14) rfl rfl
theorem k3_15 : (Jvm.Cond.instanceMethod ({ cls := "BareThursday", name := "text", desc := "()I" } : Jvm.MethodName)) ∈ wA := kA3 (i := 15) rfl rfl
theorem k3_16 : (Jvm.Cond.selects "BareThursday" ({ cls := "BareThursday", name := "text", desc := "()I" } : Jvm.MethodName) ({ cls := "BareThursday", name := "text", desc := "()I" } : Jvm.MethodName)) ∈ wA := kA3 (i := 16) rfl rfl
theorem k3_17 : (Jvm.Cond.code ({ cls := "BareThursday", name := "text", desc := "()I" } : Jvm.MethodName) prog_1_method_34_code (2 : Nat) (Option.some Jvm.ClassFile.FieldType.int)) ∈ wA := kA3 (i := 17) rfl rfl
theorem k3_18 : (Jvm.Cond.methodLink "BareThursday" (202 : Nat) ({ cls := "BareThursday$Tape", name := "readText", desc := "(LBareThursday$Town;)I" } : Jvm.MethodName)) ∈ wA := kA3 (i := 18) rfl rfl
theorem k3_19 : (Jvm.Cond.instanceMethod ({ cls := "BareThursday$Tape", name := "readText", desc := "(LBareThursday$Town;)I" } : Jvm.MethodName)) ∈ wA := kA3 (i := 19) rfl rfl
theorem k3_20 : (Jvm.Cond.selects "BareThursday$Tape" ({ cls := "BareThursday$Tape", name := "readText", desc := "(LBareThursday$Town;)I" } : Jvm.MethodName) ({ cls := "BareThursday$Tape", name := "readText", desc := "(LBareThursday$Town;)I" } : Jvm.MethodName)) ∈ wA := kA3 (i := 20) rfl rfl
theorem k3_21 : (Jvm.Cond.code ({ cls := "BareThursday$Tape", name := "readText", desc := "(LBareThursday$Town;)I" } : Jvm.MethodName) prog_4_method_6_code (3 : Nat) (Option.some Jvm.ClassFile.FieldType.int)) ∈ wA := kA3 (i := 21) rfl rfl
theorem k3_22 : (Jvm.Cond.methodLink "BareThursday$Tape" (20 : Nat) ({ cls := "BareThursday$Tape", name := "nextToken", desc := "()V" } : Jvm.MethodName)) ∈ wA := kA3 (i := 22) rfl rfl
theorem k3_24 : (Jvm.Cond.instanceMethod ({ cls := "BareThursday$Tape", name := "nextToken", desc := "()V" } : Jvm.MethodName)) ∈ wA := kA3 (i := 24) rfl rfl
theorem k3_25 : (Jvm.Cond.code ({ cls := "BareThursday$Tape", name := "nextToken", desc := "()V" } : Jvm.MethodName) prog_4_method_14_code (1 : Nat) (Option.none : Option Jvm.ClassFile.FieldType)) ∈ wA := kA3 (i := 25) rfl rfl
theorem k3_26 : (Jvm.Cond.methodLink "BareThursday$Tape" (117 : Nat) ({ cls := "BareThursday$Tape", name := "isLetter", desc := "(I)Z" } : Jvm.MethodName)) ∈ wA := kA3 (i := 26) rfl rfl
theorem k3_27 : (Jvm.Cond.static ({ cls := "BareThursday$Tape", name := "isLetter", desc := "(I)Z" } : Jvm.MethodName)) ∈ wA := kA3 (i := 27) rfl rfl
theorem k3_28 : (Jvm.Cond.code ({ cls := "BareThursday$Tape", name := "isLetter", desc := "(I)Z" } : Jvm.MethodName) prog_4_method_17_code (1 : Nat) (Option.some Jvm.ClassFile.FieldType.boolean)) ∈ wA := kA3 (i := 28) rfl rfl
theorem k3_29 : (Jvm.Cond.methodLink "BareThursday$Tape" (120 : Nat) ({ cls := "BareThursday$Tape", name := "passWord", desc := "()V" } : Jvm.MethodName)) ∈ wA := kA3 (i := 29) rfl rfl
theorem k3_31 : (Jvm.Cond.instanceMethod ({ cls := "BareThursday$Tape", name := "passWord", desc := "()V" } : Jvm.MethodName)) ∈ wA := kA3 (i := 31) rfl rfl
theorem k3_32 : (Jvm.Cond.code ({ cls := "BareThursday$Tape", name := "passWord", desc := "()V" } : Jvm.MethodName) prog_4_method_15_code (1 : Nat) (Option.none : Option Jvm.ClassFile.FieldType)) ∈ wA := kA3 (i := 32) rfl rfl
theorem k3_33 : (Jvm.Cond.methodLink "BareThursday$Tape" (123 : Nat) ({ cls := "BareThursday$Tape", name := "isDigit", desc := "(I)Z" } : Jvm.MethodName)) ∈ wA := kA3 (i := 33) rfl rfl
theorem k3_34 : (Jvm.Cond.static ({ cls := "BareThursday$Tape", name := "isDigit", desc := "(I)Z" } : Jvm.MethodName)) ∈ wA := kA3 (i := 34) rfl rfl
theorem k3_35 : (Jvm.Cond.code ({ cls := "BareThursday$Tape", name := "isDigit", desc := "(I)Z" } : Jvm.MethodName) prog_4_method_18_code (1 : Nat) (Option.some Jvm.ClassFile.FieldType.boolean)) ∈ wA := kA3 (i := 35) rfl rfl
theorem k3_36 : (Jvm.Cond.methodLink "BareThursday$Tape" (126 : Nat) ({ cls := "BareThursday$Tape", name := "passNumber", desc := "()V" } : Jvm.MethodName)) ∈ wA := kA3 (i := 36) rfl rfl
theorem k3_38 : (Jvm.Cond.instanceMethod ({ cls := "BareThursday$Tape", name := "passNumber", desc := "()V" } : Jvm.MethodName)) ∈ wA := kA3 (i := 38) rfl rfl
theorem k3_39 : (Jvm.Cond.code ({ cls := "BareThursday$Tape", name := "passNumber", desc := "()V" } : Jvm.MethodName) prog_4_method_16_code (1 : Nat) (Option.none : Option Jvm.ClassFile.FieldType)) ∈ wA := kA3 (i := 39) rfl rfl
theorem k3_40 : (Jvm.Cond.methodLink "BareThursday$Tape" (129 : Nat) ({ cls := "java/lang/Math", name := "min", desc := "(II)I" } : Jvm.MethodName)) ∈ wA := kA3 (i := 40) rfl rfl
theorem k3_41 : (Jvm.Cond.methodLink "BareThursday$Tape" (23 : Nat) ({ cls := "BareThursday$Tape", name := "readItem", desc := "(LBareThursday$Town;)Z" } : Jvm.MethodName)) ∈ wA := kA3 (i := 41) rfl rfl
theorem k3_43 : (Jvm.Cond.instanceMethod ({ cls := "BareThursday$Tape", name := "readItem", desc := "(LBareThursday$Town;)Z" } : Jvm.MethodName)) ∈ wA := kA3 (i := 43) rfl rfl
theorem k3_44 : (Jvm.Cond.code ({ cls := "BareThursday$Tape", name := "readItem", desc := "(LBareThursday$Town;)Z" } : Jvm.MethodName) prog_4_method_7_code (3 : Nat) (Option.some Jvm.ClassFile.FieldType.boolean)) ∈ wA := kA3 (i := 44) rfl rfl
theorem k3_45 : (Jvm.Cond.methodLink "BareThursday$Tape" (33 : Nat) ({ cls := "BareThursday$Tape", name := "kindOfWord", desc := "()I" } : Jvm.MethodName)) ∈ wA := kA3 (i := 45) rfl rfl
theorem k3_47 : (Jvm.Cond.instanceMethod ({ cls := "BareThursday$Tape", name := "kindOfWord", desc := "()I" } : Jvm.MethodName)) ∈ wA := kA3 (i := 47) rfl rfl
theorem k3_48 : (Jvm.Cond.code ({ cls := "BareThursday$Tape", name := "kindOfWord", desc := "()I" } : Jvm.MethodName) prog_4_method_8_code (1 : Nat) (Option.some Jvm.ClassFile.FieldType.int)) ∈ wA := kA3 (i := 48) rfl rfl
theorem k3_50 : (Jvm.Cond.methodLink "BareThursday$Tape" (45 : Nat) ({ cls := "BareThursday$Tape", name := "isWord", desc := "(Ljava/lang/String;)Z" } : Jvm.MethodName)) ∈ wA := kA3 (i := 50) rfl rfl
theorem k3_52 : (Jvm.Cond.instanceMethod ({ cls := "BareThursday$Tape", name := "isWord", desc := "(Ljava/lang/String;)Z" } : Jvm.MethodName)) ∈ wA := kA3 (i := 52) rfl rfl
theorem k3_53 : (Jvm.Cond.code ({ cls := "BareThursday$Tape", name := "isWord", desc := "(Ljava/lang/String;)Z" } : Jvm.MethodName) prog_4_method_13_code (3 : Nat) (Option.some Jvm.ClassFile.FieldType.boolean)) ∈ wA := kA3 (i := 53) rfl rfl
theorem k3_54 : (Jvm.Cond.methodLink "BareThursday$Tape" (109 : Nat) ({ cls := "java/lang/String", name := "length", desc := "()I" } : Jvm.MethodName)) ∈ wA := kA3 (i := 54) rfl rfl
theorem k3_55 : (Jvm.Cond.instanceMethod ({ cls := "java/lang/String", name := "length", desc := "()I" } : Jvm.MethodName)) ∈ wA := kA3 (i := 55) rfl rfl
theorem k3_56 : (Jvm.Cond.selects "java/lang/String" ({ cls := "java/lang/String", name := "length", desc := "()I" } : Jvm.MethodName) ({ cls := "java/lang/String", name := "length", desc := "()I" } : Jvm.MethodName)) ∈ wA := kA3 (i := 56) rfl rfl
theorem k3_57 : (Jvm.Cond.code ({ cls := "java/lang/String", name := "length", desc := "()I" } : Jvm.MethodName) prog_10_method_54_code (1 : Nat) (Option.some Jvm.ClassFile.FieldType.int)) ∈ wA := kA3 (i := 57) rfl rfl
theorem k3_58 : (Jvm.Cond.methodLink "java/lang/String" (335 : Nat) ({ cls := "java/lang/String", name := "coder", desc := "()B" } : Jvm.MethodName)) ∈ wA := kA3 (i := 58) rfl rfl
theorem k3_59 : (Jvm.Cond.instanceMethod ({ cls := "java/lang/String", name := "coder", desc := "()B" } : Jvm.MethodName)) ∈ wA := kA3 (i := 59) rfl rfl
theorem k3_60 : (Jvm.Cond.selects "java/lang/String" ({ cls := "java/lang/String", name := "coder", desc := "()B" } : Jvm.MethodName) ({ cls := "java/lang/String", name := "coder", desc := "()B" } : Jvm.MethodName)) ∈ wA := kA3 (i := 60) rfl rfl
theorem k3_61 : (Jvm.Cond.code ({ cls := "java/lang/String", name := "coder", desc := "()B" } : Jvm.MethodName) prog_10_method_152_code (1 : Nat) (Option.some Jvm.ClassFile.FieldType.byte)) ∈ wA := kA3 (i := 61) rfl rfl
theorem k3_62 : (Jvm.Cond.fieldLink "java/lang/String" (38 : Nat) "java/lang/String" "COMPACT_STRINGS" "Z") ∈ wA := kA3 (i := 62) rfl rfl
theorem k3_64 : (Jvm.Cond.methodLink "BareThursday$Tape" (113 : Nat) ({ cls := "java/lang/String", name := "charAt", desc := "(I)C" } : Jvm.MethodName)) ∈ wA := kA3 (i := 64) rfl rfl
theorem k3_65 : (Jvm.Cond.instanceMethod ({ cls := "java/lang/String", name := "charAt", desc := "(I)C" } : Jvm.MethodName)) ∈ wA := kA3 (i := 65) rfl rfl
theorem k3_66 : (Jvm.Cond.selects "java/lang/String" ({ cls := "java/lang/String", name := "charAt", desc := "(I)C" } : Jvm.MethodName) ({ cls := "java/lang/String", name := "charAt", desc := "(I)C" } : Jvm.MethodName)) ∈ wA := kA3 (i := 66) rfl rfl
theorem k3_67 : (Jvm.Cond.code ({ cls := "java/lang/String", name := "charAt", desc := "(I)C" } : Jvm.MethodName) prog_10_method_56_code (2 : Nat) (Option.some Jvm.ClassFile.FieldType.char)) ∈ wA := kA3 (i := 67) rfl rfl
theorem k3_68 : (Jvm.Cond.methodLink "java/lang/String" (492 : Nat) ({ cls := "java/lang/String", name := "isLatin1", desc := "()Z" } : Jvm.MethodName)) ∈ wA := kA3 (i := 68) rfl rfl
theorem k3_69 : (Jvm.Cond.instanceMethod ({ cls := "java/lang/String", name := "isLatin1", desc := "()Z" } : Jvm.MethodName)) ∈ wA := kA3 (i := 69) rfl rfl
theorem k3_70 : (Jvm.Cond.selects "java/lang/String" ({ cls := "java/lang/String", name := "isLatin1", desc := "()Z" } : Jvm.MethodName) ({ cls := "java/lang/String", name := "isLatin1", desc := "()Z" } : Jvm.MethodName)) ∈ wA := kA3 (i := 70) rfl rfl
theorem k3_71 : (Jvm.Cond.code ({ cls := "java/lang/String", name := "isLatin1", desc := "()Z" } : Jvm.MethodName) prog_10_method_154_code (1 : Nat) (Option.some Jvm.ClassFile.FieldType.boolean)) ∈ wA := kA3 (i := 71) rfl rfl
theorem k3_72 : (Jvm.Cond.methodLink "java/lang/String" (495 : Nat) ({ cls := "java/lang/StringLatin1", name := "charAt", desc := "([BI)C" } : Jvm.MethodName)) ∈ wA := kA3 (i := 72) rfl rfl
theorem k3_73 : (Jvm.Cond.static ({ cls := "java/lang/StringLatin1", name := "charAt", desc := "([BI)C" } : Jvm.MethodName)) ∈ wA := kA3 (i := 73) rfl rfl
theorem k3_74 : (Jvm.Cond.code ({ cls := "java/lang/StringLatin1", name := "charAt", desc := "([BI)C" } : Jvm.MethodName) prog_11_method_2_code (2 : Nat) (Option.some Jvm.ClassFile.FieldType.char)) ∈ wA := kA3 (i := 74) rfl rfl
theorem k3_75 : (Jvm.Cond.methodLink "java/lang/StringLatin1" (9 : Nat) ({ cls := "java/lang/String", name := "checkIndex", desc := "(II)V" } : Jvm.MethodName)) ∈ wA := kA3 (i := 75) rfl rfl
theorem k3_76 : (Jvm.Cond.static ({ cls := "java/lang/String", name := "checkIndex", desc := "(II)V" } : Jvm.MethodName)) ∈ wA := kA3 (i := 76) rfl rfl
theorem k3_77 : (Jvm.Cond.code ({ cls := "java/lang/String", name := "checkIndex", desc := "(II)V" } : Jvm.MethodName) prog_10_method_155_code (2 : Nat) (Option.none : Option Jvm.ClassFile.FieldType)) ∈ wA := kA3 (i := 77) rfl rfl
theorem k3_78 : (Jvm.Cond.fieldLink "java/lang/String" (1053 : Nat) "jdk/internal/util/Preconditions" "SIOOBE_FORMATTER" "Ljava/util/function/BiFunction;") ∈ wA := kA3 (i := 78) rfl rfl
theorem k3_80 : (Jvm.Cond.methodLink "java/lang/String" (1059 : Nat) ({ cls := "jdk/internal/util/Preconditions", name := "checkIndex", desc := "(IILjava/util/function/BiFunction;)I" } : Jvm.MethodName)) ∈ wA := kA3 (i := 80) rfl rfl
theorem k3_81 : (Jvm.Cond.static ({ cls := "jdk/internal/util/Preconditions", name := "checkIndex", desc := "(IILjava/util/function/BiFunction;)I" } : Jvm.MethodName)) ∈ wA := kA3 (i := 81) rfl rfl
theorem k3_82 : (Jvm.Cond.code ({ cls := "jdk/internal/util/Preconditions", name := "checkIndex", desc := "(IILjava/util/function/BiFunction;)I" } : Jvm.MethodName) prog_15_method_11_code (3 : Nat) (Option.some Jvm.ClassFile.FieldType.int)) ∈ wA := kA3 (i := 82) rfl rfl
theorem k3_83 : (Jvm.Cond.methodLink "java/lang/String" (498 : Nat) ({ cls := "java/lang/StringUTF16", name := "charAt", desc := "([BI)C" } : Jvm.MethodName)) ∈ wA := kA3 (i := 83) rfl rfl
theorem k3_84 : (Jvm.Cond.static ({ cls := "java/lang/StringUTF16", name := "charAt", desc := "([BI)C" } : Jvm.MethodName)) ∈ wA := kA3 (i := 84) rfl rfl
theorem k3_85 : (Jvm.Cond.code ({ cls := "java/lang/StringUTF16", name := "charAt", desc := "([BI)C" } : Jvm.MethodName) prog_12_method_83_code (2 : Nat) (Option.some Jvm.ClassFile.FieldType.char)) ∈ wA := kA3 (i := 85) rfl rfl
theorem k3_86 : (Jvm.Cond.methodLink "java/lang/StringUTF16" (67 : Nat) ({ cls := "java/lang/StringUTF16", name := "checkIndex", desc := "(I[B)V" } : Jvm.MethodName)) ∈ wA := kA3 (i := 86) rfl rfl
theorem k3_87 : (Jvm.Cond.static ({ cls := "java/lang/StringUTF16", name := "checkIndex", desc := "(I[B)V" } : Jvm.MethodName)) ∈ wA := kA3 (i := 87) rfl rfl
theorem k3_88 : (Jvm.Cond.code ({ cls := "java/lang/StringUTF16", name := "checkIndex", desc := "(I[B)V" } : Jvm.MethodName) prog_12_method_91_code (2 : Nat) (Option.none : Option Jvm.ClassFile.FieldType)) ∈ wA := kA3 (i := 88) rfl rfl
theorem k3_89 : (Jvm.Cond.methodLink "java/lang/StringUTF16" (48 : Nat) ({ cls := "java/lang/StringUTF16", name := "length", desc := "([B)I" } : Jvm.MethodName)) ∈ wA := kA3 (i := 89) rfl rfl
theorem k3_90 : (Jvm.Cond.static ({ cls := "java/lang/StringUTF16", name := "length", desc := "([B)I" } : Jvm.MethodName)) ∈ wA := kA3 (i := 90) rfl rfl
theorem k3_91 : (Jvm.Cond.code ({ cls := "java/lang/StringUTF16", name := "length", desc := "([B)I" } : Jvm.MethodName) prog_12_method_6_code (1 : Nat) (Option.some Jvm.ClassFile.FieldType.int)) ∈ wA := kA3 (i := 91) rfl rfl
theorem k3_92 : (Jvm.Cond.methodLink "java/lang/StringUTF16" (414 : Nat) ({ cls := "java/lang/String", name := "checkIndex", desc := "(II)V" } : Jvm.MethodName)) ∈ wA := kA3 (i := 92) rfl rfl
theorem k3_93 : (Jvm.Cond.methodLink "java/lang/StringUTF16" (71 : Nat) ({ cls := "java/lang/StringUTF16", name := "getChar", desc := "([BI)C" } : Jvm.MethodName)) ∈ wA := kA3 (i := 93) rfl rfl
theorem k3_94 : (Jvm.Cond.static ({ cls := "java/lang/StringUTF16", name := "getChar", desc := "([BI)C" } : Jvm.MethodName)) ∈ wA := kA3 (i := 94) rfl rfl
theorem k3_95 : (Jvm.Cond.code ({ cls := "java/lang/StringUTF16", name := "getChar", desc := "([BI)C" } : Jvm.MethodName) prog_12_method_5_code (2 : Nat) (Option.some Jvm.ClassFile.FieldType.char)) ∈ wA := kA3 (i := 95) rfl rfl
theorem k3_96 : (Jvm.Cond.fieldLink "java/lang/StringUTF16" (44 : Nat) "java/lang/StringUTF16" "$assertionsDisabled" "Z") ∈ wA := kA3 (i := 96) rfl rfl
theorem k3_98 : (Jvm.Cond.fieldLink "java/lang/StringUTF16" (59 : Nat) "java/lang/StringUTF16" "HI_BYTE_SHIFT" "I") ∈ wA := kA3 (i := 98) rfl rfl
theorem k3_100 : (Jvm.Cond.fieldLink "java/lang/StringUTF16" (63 : Nat) "java/lang/StringUTF16" "LO_BYTE_SHIFT" "I") ∈ wA := kA3 (i := 100) rfl rfl
theorem k3_108 : (Jvm.Cond.methodLink "BareThursday$Tape" (39 : Nat) ({ cls := "BareThursday$Tape", name := "readOne", desc := "(ILBareThursday$Town;)Z" } : Jvm.MethodName)) ∈ wA := kA3 (i := 108) rfl rfl
theorem k3_110 : (Jvm.Cond.instanceMethod ({ cls := "BareThursday$Tape", name := "readOne", desc := "(ILBareThursday$Town;)Z" } : Jvm.MethodName)) ∈ wA := kA3 (i := 110) rfl rfl
theorem k3_111 : (Jvm.Cond.code ({ cls := "BareThursday$Tape", name := "readOne", desc := "(ILBareThursday$Town;)Z" } : Jvm.MethodName) prog_4_method_9_code (6 : Nat) (Option.some Jvm.ClassFile.FieldType.boolean)) ∈ wA := kA3 (i := 111) rfl rfl
theorem k3_112 : (Jvm.Cond.methodLink "BareThursday$Tape" (71 : Nat) ({ cls := "BareThursday$Town", name := "isFull", desc := "()Z" } : Jvm.MethodName)) ∈ wA := kA3 (i := 112) rfl rfl
theorem k3_114 : (Jvm.Cond.methodLink "BareThursday$Tape" (79 : Nat) ({ cls := "BareThursday$Tape", name := "isNumberBelow", desc := "(I)Z" } : Jvm.MethodName)) ∈ wA := kA3 (i := 114) rfl rfl
theorem k3_116 : (Jvm.Cond.instanceMethod ({ cls := "BareThursday$Tape", name := "isNumberBelow", desc := "(I)Z" } : Jvm.MethodName)) ∈ wA := kA3 (i := 116) rfl rfl
theorem k3_117 : (Jvm.Cond.code ({ cls := "BareThursday$Tape", name := "isNumberBelow", desc := "(I)Z" } : Jvm.MethodName) prog_4_method_12_code (2 : Nat) (Option.some Jvm.ClassFile.FieldType.boolean)) ∈ wA := kA3 (i := 117) rfl rfl
theorem k3_119 : (Jvm.Cond.methodLink "BareThursday$Tape" (88 : Nat) ({ cls := "BareThursday$Town", name := "add", desc := "(II)I" } : Jvm.MethodName)) ∈ wA := kA3 (i := 119) rfl rfl
theorem k3_120 : (Jvm.Cond.methodLink "BareThursday$Tape" (92 : Nat) ({ cls := "BareThursday$Town", name := "put", desc := "(III)V" } : Jvm.MethodName)) ∈ wA := kA3 (i := 120) rfl rfl
theorem k3_123 : (Jvm.Cond.methodLink "BareThursday$Tape" (49 : Nat) ({ cls := "BareThursday$Tape", name := "readMet", desc := "(LBareThursday$Town;)Z" } : Jvm.MethodName)) ∈ wA := kA3 (i := 123) rfl rfl
theorem k3_125 : (Jvm.Cond.instanceMethod ({ cls := "BareThursday$Tape", name := "readMet", desc := "(LBareThursday$Town;)Z" } : Jvm.MethodName)) ∈ wA := kA3 (i := 125) rfl rfl
theorem k3_126 : (Jvm.Cond.code ({ cls := "BareThursday$Tape", name := "readMet", desc := "(LBareThursday$Town;)Z" } : Jvm.MethodName) prog_4_method_10_code (3 : Nat) (Option.some Jvm.ClassFile.FieldType.boolean)) ∈ wA := kA3 (i := 126) rfl rfl
theorem k3_127 : (Jvm.Cond.methodLink "BareThursday$Tape" (101 : Nat) ({ cls := "BareThursday$Town", name := "meetEachOther", desc := "(II)V" } : Jvm.MethodName)) ∈ wA := kA3 (i := 127) rfl rfl
theorem k3_128 : (Jvm.Cond.instanceMethod ({ cls := "BareThursday$Town", name := "meetEachOther", desc := "(II)V" } : Jvm.MethodName)) ∈ wA := kA3 (i := 128) rfl rfl
theorem k3_129 : (Jvm.Cond.selects "BareThursday$Town" ({ cls := "BareThursday$Town", name := "meetEachOther", desc := "(II)V" } : Jvm.MethodName) ({ cls := "BareThursday$Town", name := "meetEachOther", desc := "(II)V" } : Jvm.MethodName)) ∈ wA := kA3 (i := 129) rfl rfl
theorem k3_130 : (Jvm.Cond.code ({ cls := "BareThursday$Town", name := "meetEachOther", desc := "(II)V" } : Jvm.MethodName) prog_5_method_36_code (3 : Nat) (Option.none : Option Jvm.ClassFile.FieldType)) ∈ wA := kA3 (i := 130) rfl rfl
theorem k3_131 : (Jvm.Cond.methodLink "BareThursday$Town" (152 : Nat) ({ cls := "BareThursday$Town", name := "areTwo", desc := "(II)Z" } : Jvm.MethodName)) ∈ wA := kA3 (i := 131) rfl rfl
theorem k3_133 : (Jvm.Cond.methodLink "BareThursday$Tape" (54 : Nat) ({ cls := "BareThursday$Tape", name := "readBell", desc := "(LBareThursday$Town;)Z" } : Jvm.MethodName)) ∈ wA := kA3 (i := 133) rfl rfl
theorem k3_135 : (Jvm.Cond.instanceMethod ({ cls := "BareThursday$Tape", name := "readBell", desc := "(LBareThursday$Town;)Z" } : Jvm.MethodName)) ∈ wA := kA3 (i := 135) rfl rfl
theorem k3_136 : (Jvm.Cond.code ({ cls := "BareThursday$Tape", name := "readBell", desc := "(LBareThursday$Town;)Z" } : Jvm.MethodName) prog_4_method_11_code (2 : Nat) (Option.some Jvm.ClassFile.FieldType.boolean)) ∈ wA := kA3 (i := 136) rfl rfl
theorem k3_137 : (Jvm.Cond.methodLink "BareThursday$Tape" (105 : Nat) ({ cls := "BareThursday$Town", name := "skipDays", desc := "(I)V" } : Jvm.MethodName)) ∈ wA := kA3 (i := 137) rfl rfl
theorem k3_138 : (Jvm.Cond.arrayClass Jvm.ClassFile.FieldType.byte) ∈ wA := kA3 (i := 138) rfl rfl
theorem k3_139 : (Jvm.Cond.methodLink "BareThursdayLaw" (126 : Nat) ({ cls := "BareThursday", name := "hold", desc := "(II)I" } : Jvm.MethodName)) ∈ wA := kA3 (i := 139) rfl rfl
theorem k3_140 : (Jvm.Cond.instanceMethod ({ cls := "BareThursday", name := "hold", desc := "(II)I" } : Jvm.MethodName)) ∈ wA := kA3 (i := 140) rfl rfl
theorem k3_141 : (Jvm.Cond.selects "BareThursday" ({ cls := "BareThursday", name := "hold", desc := "(II)I" } : Jvm.MethodName) ({ cls := "BareThursday", name := "hold", desc := "(II)I" } : Jvm.MethodName)) ∈ wA := kA3 (i := 141) rfl rfl
theorem k3_142 : (Jvm.Cond.code ({ cls := "BareThursday", name := "hold", desc := "(II)I" } : Jvm.MethodName) prog_1_method_35_code (3 : Nat) (Option.some Jvm.ClassFile.FieldType.int)) ∈ wA := kA3 (i := 142) rfl rfl
theorem k3_143 : (Jvm.Cond.methodLink "BareThursdayLaw" (130 : Nat) ({ cls := "BareThursday", name := "as", desc := "(II)I" } : Jvm.MethodName)) ∈ wA := kA3 (i := 143) rfl rfl
theorem k3_144 : (Jvm.Cond.instanceMethod ({ cls := "BareThursday", name := "as", desc := "(II)I" } : Jvm.MethodName)) ∈ wA := kA3 (i := 144) rfl rfl
theorem k3_145 : (Jvm.Cond.selects "BareThursday" ({ cls := "BareThursday", name := "as", desc := "(II)I" } : Jvm.MethodName) ({ cls := "BareThursday", name := "as", desc := "(II)I" } : Jvm.MethodName)) ∈ wA := kA3 (i := 145) rfl rfl
theorem k3_146 : (Jvm.Cond.code ({ cls := "BareThursday", name := "as", desc := "(II)I" } : Jvm.MethodName) prog_1_method_36_code (4 : Nat) (Option.some Jvm.ClassFile.FieldType.int)) ∈ wA := kA3 (i := 146) rfl rfl
theorem k3_147 : (Jvm.Cond.methodLink "BareThursday" (209 : Nat) ({ cls := "BareThursday$Kinds", name := "isUnder", desc := "(II)Z" } : Jvm.MethodName)) ∈ wA := kA3 (i := 147) rfl rfl
theorem k3_148 : (Jvm.Cond.static ({ cls := "BareThursday$Kinds", name := "isUnder", desc := "(II)Z" } : Jvm.MethodName)) ∈ wA := kA3 (i := 148) rfl rfl
theorem k3_149 : (Jvm.Cond.code ({ cls := "BareThursday$Kinds", name := "isUnder", desc := "(II)Z" } : Jvm.MethodName) prog_2_method_3_code (4 : Nat) (Option.some Jvm.ClassFile.FieldType.boolean)) ∈ wA := kA3 (i := 149) rfl rfl
theorem k3_150 : (Jvm.Cond.methodLink "BareThursday$Kinds" (9 : Nat) ({ cls := "BareThursday$Kinds", name := "above", desc := "(I)I" } : Jvm.MethodName)) ∈ wA := kA3 (i := 150) rfl rfl
theorem k3_151 : (Jvm.Cond.static ({ cls := "BareThursday$Kinds", name := "above", desc := "(I)I" } : Jvm.MethodName)) ∈ wA := kA3 (i := 151) rfl rfl
theorem k3_152 : (Jvm.Cond.code ({ cls := "BareThursday$Kinds", name := "above", desc := "(I)I" } : Jvm.MethodName) prog_2_method_2_code (1 : Nat) (Option.some Jvm.ClassFile.FieldType.int)) ∈ wA := kA3 (i := 152) rfl rfl
theorem k3_153 : (Jvm.Cond.methodLink "BareThursdayLaw" (134 : Nat) ({ cls := "BareThursday", name := "sheet", desc := "(III)I" } : Jvm.MethodName)) ∈ wA := kA3 (i := 153) rfl rfl
theorem k3_154 : (Jvm.Cond.instanceMethod ({ cls := "BareThursday", name := "sheet", desc := "(III)I" } : Jvm.MethodName)) ∈ wA := kA3 (i := 154) rfl rfl
theorem k3_155 : (Jvm.Cond.selects "BareThursday" ({ cls := "BareThursday", name := "sheet", desc := "(III)I" } : Jvm.MethodName) ({ cls := "BareThursday", name := "sheet", desc := "(III)I" } : Jvm.MethodName)) ∈ wA := kA3 (i := 155) rfl rfl
theorem k3_156 : (Jvm.Cond.code ({ cls := "BareThursday", name := "sheet", desc := "(III)I" } : Jvm.MethodName) prog_1_method_37_code (4 : Nat) (Option.some Jvm.ClassFile.FieldType.int)) ∈ wA := kA3 (i := 156) rfl rfl
theorem k3_157 : (Jvm.Cond.methodLink "BareThursday" (214 : Nat) ({ cls := "BareThursday$Sheets", name := "lay", desc := "(III)V" } : Jvm.MethodName)) ∈ wA := kA3 (i := 157) rfl rfl
theorem k3_158 : (Jvm.Cond.instanceMethod ({ cls := "BareThursday$Sheets", name := "lay", desc := "(III)V" } : Jvm.MethodName)) ∈ wA := kA3 (i := 158) rfl rfl
theorem k3_159 : (Jvm.Cond.selects "BareThursday$Sheets" ({ cls := "BareThursday$Sheets", name := "lay", desc := "(III)V" } : Jvm.MethodName) ({ cls := "BareThursday$Sheets", name := "lay", desc := "(III)V" } : Jvm.MethodName)) ∈ wA := kA3 (i := 159) rfl rfl
theorem k3_160 : (Jvm.Cond.code ({ cls := "BareThursday$Sheets", name := "lay", desc := "(III)V" } : Jvm.MethodName) prog_3_method_2_code (4 : Nat) (Option.none : Option Jvm.ClassFile.FieldType)) ∈ wA := kA3 (i := 160) rfl rfl
theorem k3_161 : (Jvm.Cond.methodLink "BareThursday$Sheets" (19 : Nat) ({ cls := "java/util/Arrays", name := "fill", desc := "([IIII)V" } : Jvm.MethodName)) ∈ wA := kA3 (i := 161) rfl rfl
theorem k3_162 : (Jvm.Cond.static ({ cls := "java/util/Arrays", name := "fill", desc := "([IIII)V" } : Jvm.MethodName)) ∈ wA := kA3 (i := 162) rfl rfl
theorem k3_163 : (Jvm.Cond.code ({ cls := "java/util/Arrays", name := "fill", desc := "([IIII)V" } : Jvm.MethodName) prog_14_method_104_code (5 : Nat) (Option.none : Option Jvm.ClassFile.FieldType)) ∈ wA := kA3 (i := 163) rfl rfl
theorem k3_164 : (Jvm.Cond.methodLink "java/util/Arrays" (13 : Nat) ({ cls := "java/util/Arrays", name := "rangeCheck", desc := "(III)V" } : Jvm.MethodName)) ∈ wA := kA3 (i := 164) rfl rfl
theorem k3_165 : (Jvm.Cond.static ({ cls := "java/util/Arrays", name := "rangeCheck", desc := "(III)V" } : Jvm.MethodName)) ∈ wA := kA3 (i := 165) rfl rfl
theorem k3_166 : (Jvm.Cond.code ({ cls := "java/util/Arrays", name := "rangeCheck", desc := "(III)V" } : Jvm.MethodName) prog_14_method_30_code (3 : Nat) (Option.none : Option Jvm.ClassFile.FieldType)) ∈ wA := kA3 (i := 166) rfl rfl
theorem k3_167 : (Jvm.Cond.methodLink "BareThursdayLaw" (138 : Nat) ({ cls := "BareThursday", name := "write", desc := "(III)I" } : Jvm.MethodName)) ∈ wA := kA3 (i := 167) rfl rfl
theorem k3_168 : (Jvm.Cond.instanceMethod ({ cls := "BareThursday", name := "write", desc := "(III)I" } : Jvm.MethodName)) ∈ wA := kA3 (i := 168) rfl rfl
theorem k3_169 : (Jvm.Cond.selects "BareThursday" ({ cls := "BareThursday", name := "write", desc := "(III)I" } : Jvm.MethodName) ({ cls := "BareThursday", name := "write", desc := "(III)I" } : Jvm.MethodName)) ∈ wA := kA3 (i := 169) rfl rfl
theorem k3_170 : (Jvm.Cond.code ({ cls := "BareThursday", name := "write", desc := "(III)I" } : Jvm.MethodName) prog_1_method_38_code (4 : Nat) (Option.some Jvm.ClassFile.FieldType.int)) ∈ wA := kA3 (i := 170) rfl rfl
theorem k3_171 : (Jvm.Cond.methodLink "BareThursday" (217 : Nat) ({ cls := "BareThursday$Sheets", name := "put", desc := "(III)V" } : Jvm.MethodName)) ∈ wA := kA3 (i := 171) rfl rfl
theorem k3_172 : (Jvm.Cond.instanceMethod ({ cls := "BareThursday$Sheets", name := "put", desc := "(III)V" } : Jvm.MethodName)) ∈ wA := kA3 (i := 172) rfl rfl
theorem k3_173 : (Jvm.Cond.selects "BareThursday$Sheets" ({ cls := "BareThursday$Sheets", name := "put", desc := "(III)V" } : Jvm.MethodName) ({ cls := "BareThursday$Sheets", name := "put", desc := "(III)V" } : Jvm.MethodName)) ∈ wA := kA3 (i := 173) rfl rfl
theorem k3_174 : (Jvm.Cond.code ({ cls := "BareThursday$Sheets", name := "put", desc := "(III)V" } : Jvm.MethodName) prog_3_method_7_code (4 : Nat) (Option.none : Option Jvm.ClassFile.FieldType)) ∈ wA := kA3 (i := 174) rfl rfl
theorem k3_175 : (Jvm.Cond.methodLink "BareThursday$Sheets" (25 : Nat) ({ cls := "BareThursday$Sheets", name := "lowest", desc := "(II)I" } : Jvm.MethodName)) ∈ wA := kA3 (i := 175) rfl rfl
theorem k3_176 : (Jvm.Cond.static ({ cls := "BareThursday$Sheets", name := "lowest", desc := "(II)I" } : Jvm.MethodName)) ∈ wA := kA3 (i := 176) rfl rfl
theorem k3_177 : (Jvm.Cond.code ({ cls := "BareThursday$Sheets", name := "lowest", desc := "(II)I" } : Jvm.MethodName) prog_3_method_8_code (2 : Nat) (Option.some Jvm.ClassFile.FieldType.int)) ∈ wA := kA3 (i := 177) rfl rfl
theorem k3_178 : (Jvm.Cond.methodLink "BareThursdayLaw" (142 : Nat) ({ cls := "BareThursday", name := "copy", desc := "(IIIII)I" } : Jvm.MethodName)) ∈ wA := kA3 (i := 178) rfl rfl
theorem k3_179 : (Jvm.Cond.instanceMethod ({ cls := "BareThursday", name := "copy", desc := "(IIIII)I" } : Jvm.MethodName)) ∈ wA := kA3 (i := 179) rfl rfl
theorem k3_180 : (Jvm.Cond.selects "BareThursday" ({ cls := "BareThursday", name := "copy", desc := "(IIIII)I" } : Jvm.MethodName) ({ cls := "BareThursday", name := "copy", desc := "(IIIII)I" } : Jvm.MethodName)) ∈ wA := kA3 (i := 180) rfl rfl
theorem k3_181 : (Jvm.Cond.code ({ cls := "BareThursday", name := "copy", desc := "(IIIII)I" } : Jvm.MethodName) prog_1_method_39_code (6 : Nat) (Option.some Jvm.ClassFile.FieldType.int)) ∈ wA := kA3 (i := 181) rfl rfl
theorem k3_182 : (Jvm.Cond.methodLink "BareThursday" (218 : Nat) ({ cls := "BareThursday$Sheets", name := "bits", desc := "(I)I" } : Jvm.MethodName)) ∈ wA := kA3 (i := 182) rfl rfl
theorem k3_183 : (Jvm.Cond.instanceMethod ({ cls := "BareThursday$Sheets", name := "bits", desc := "(I)I" } : Jvm.MethodName)) ∈ wA := kA3 (i := 183) rfl rfl
theorem k3_184 : (Jvm.Cond.selects "BareThursday$Sheets" ({ cls := "BareThursday$Sheets", name := "bits", desc := "(I)I" } : Jvm.MethodName) ({ cls := "BareThursday$Sheets", name := "bits", desc := "(I)I" } : Jvm.MethodName)) ∈ wA := kA3 (i := 184) rfl rfl
theorem k3_185 : (Jvm.Cond.code ({ cls := "BareThursday$Sheets", name := "bits", desc := "(I)I" } : Jvm.MethodName) prog_3_method_4_code (2 : Nat) (Option.some Jvm.ClassFile.FieldType.int)) ∈ wA := kA3 (i := 185) rfl rfl
theorem k3_186 : (Jvm.Cond.methodLink "BareThursday" (221 : Nat) ({ cls := "BareThursday$Sheets", name := "hasPart", desc := "(III)Z" } : Jvm.MethodName)) ∈ wA := kA3 (i := 186) rfl rfl
theorem k3_187 : (Jvm.Cond.instanceMethod ({ cls := "BareThursday$Sheets", name := "hasPart", desc := "(III)Z" } : Jvm.MethodName)) ∈ wA := kA3 (i := 187) rfl rfl
theorem k3_188 : (Jvm.Cond.selects "BareThursday$Sheets" ({ cls := "BareThursday$Sheets", name := "hasPart", desc := "(III)Z" } : Jvm.MethodName) ({ cls := "BareThursday$Sheets", name := "hasPart", desc := "(III)Z" } : Jvm.MethodName)) ∈ wA := kA3 (i := 188) rfl rfl
theorem k3_189 : (Jvm.Cond.code ({ cls := "BareThursday$Sheets", name := "hasPart", desc := "(III)Z" } : Jvm.MethodName) prog_3_method_9_code (4 : Nat) (Option.some Jvm.ClassFile.FieldType.boolean)) ∈ wA := kA3 (i := 189) rfl rfl
theorem k3_190 : (Jvm.Cond.methodLink "BareThursday" (224 : Nat) ({ cls := "BareThursday$Sheets", name := "move", desc := "(IIIII)V" } : Jvm.MethodName)) ∈ wA := kA3 (i := 190) rfl rfl
theorem k3_191 : (Jvm.Cond.instanceMethod ({ cls := "BareThursday$Sheets", name := "move", desc := "(IIIII)V" } : Jvm.MethodName)) ∈ wA := kA3 (i := 191) rfl rfl
theorem k3_192 : (Jvm.Cond.selects "BareThursday$Sheets" ({ cls := "BareThursday$Sheets", name := "move", desc := "(IIIII)V" } : Jvm.MethodName) ({ cls := "BareThursday$Sheets", name := "move", desc := "(IIIII)V" } : Jvm.MethodName)) ∈ wA := kA3 (i := 192) rfl rfl
theorem k3_193 : (Jvm.Cond.code ({ cls := "BareThursday$Sheets", name := "move", desc := "(IIIII)V" } : Jvm.MethodName) prog_3_method_10_code (6 : Nat) (Option.none : Option Jvm.ClassFile.FieldType)) ∈ wA := kA3 (i := 193) rfl rfl
theorem k3_194 : (Jvm.Cond.methodLink "BareThursday$Sheets" (29 : Nat) ({ cls := "java/lang/System", name := "arraycopy", desc := "(Ljava/lang/Object;ILjava/lang/Object;II)V" } : Jvm.MethodName)) ∈ wA := kA3 (i := 194) rfl rfl
theorem k3_195 : (Jvm.Cond.methodLink "BareThursdayLaw" (147 : Nat) ({ cls := "BareThursday", name := "load", desc := "(I)I" } : Jvm.MethodName)) ∈ wA := kA3 (i := 195) rfl rfl
theorem k3_196 : (Jvm.Cond.instanceMethod ({ cls := "BareThursday", name := "load", desc := "(I)I" } : Jvm.MethodName)) ∈ wA := kA3 (i := 196) rfl rfl
theorem k3_197 : (Jvm.Cond.selects "BareThursday" ({ cls := "BareThursday", name := "load", desc := "(I)I" } : Jvm.MethodName) ({ cls := "BareThursday", name := "load", desc := "(I)I" } : Jvm.MethodName)) ∈ wA := kA3 (i := 197) rfl rfl
theorem k3_198 : (Jvm.Cond.code ({ cls := "BareThursday", name := "load", desc := "(I)I" } : Jvm.MethodName) prog_1_method_40_code (5 : Nat) (Option.some Jvm.ClassFile.FieldType.int)) ∈ wA := kA3 (i := 198) rfl rfl
theorem k3_199 : (Jvm.Cond.methodLink "BareThursday" (228 : Nat) ({ cls := "java/lang/Math", name := "min", desc := "(II)I" } : Jvm.MethodName)) ∈ wA := kA3 (i := 199) rfl rfl
theorem k3_200 : (Jvm.Cond.methodLink "BareThursdayLaw" (151 : Nat) ({ cls := "BareThursday", name := "judge", desc := "(I)I" } : Jvm.MethodName)) ∈ wA := kA3 (i := 200) rfl rfl
theorem k3_201 : (Jvm.Cond.instanceMethod ({ cls := "BareThursday", name := "judge", desc := "(I)I" } : Jvm.MethodName)) ∈ wA := kA3 (i := 201) rfl rfl
theorem k3_202 : (Jvm.Cond.selects "BareThursday" ({ cls := "BareThursday", name := "judge", desc := "(I)I" } : Jvm.MethodName) ({ cls := "BareThursday", name := "judge", desc := "(I)I" } : Jvm.MethodName)) ∈ wA := kA3 (i := 202) rfl rfl
theorem k3_203 : (Jvm.Cond.code ({ cls := "BareThursday", name := "judge", desc := "(I)I" } : Jvm.MethodName) prog_1_method_41_code (3 : Nat) (Option.some Jvm.ClassFile.FieldType.int)) ∈ wA := kA3 (i := 203) rfl rfl
theorem k3_204 : (Jvm.Cond.methodLink "BareThursdayLaw" (155 : Nat) ({ cls := "BareThursday", name := "image", desc := "()I" } : Jvm.MethodName)) ∈ wA := kA3 (i := 204) rfl rfl
theorem k3_205 : (Jvm.Cond.instanceMethod ({ cls := "BareThursday", name := "image", desc := "()I" } : Jvm.MethodName)) ∈ wA := kA3 (i := 205) rfl rfl
theorem k3_206 : (Jvm.Cond.selects "BareThursday" ({ cls := "BareThursday", name := "image", desc := "()I" } : Jvm.MethodName) ({ cls := "BareThursday", name := "image", desc := "()I" } : Jvm.MethodName)) ∈ wA := kA3 (i := 206) rfl rfl
theorem k3_207 : (Jvm.Cond.code ({ cls := "BareThursday", name := "image", desc := "()I" } : Jvm.MethodName) prog_1_method_42_code (1 : Nat) (Option.some Jvm.ClassFile.FieldType.int)) ∈ wA := kA3 (i := 207) rfl rfl
theorem k3_208 : (Jvm.Cond.methodLink "BareThursdayLaw" (159 : Nat) ({ cls := "BareThursday", name := "undo", desc := "()I" } : Jvm.MethodName)) ∈ wA := kA3 (i := 208) rfl rfl
theorem k3_209 : (Jvm.Cond.instanceMethod ({ cls := "BareThursday", name := "undo", desc := "()I" } : Jvm.MethodName)) ∈ wA := kA3 (i := 209) rfl rfl
theorem k3_210 : (Jvm.Cond.selects "BareThursday" ({ cls := "BareThursday", name := "undo", desc := "()I" } : Jvm.MethodName) ({ cls := "BareThursday", name := "undo", desc := "()I" } : Jvm.MethodName)) ∈ wA := kA3 (i := 210) rfl rfl
theorem k3_211 : (Jvm.Cond.code ({ cls := "BareThursday", name := "undo", desc := "()I" } : Jvm.MethodName) prog_1_method_43_code (1 : Nat) (Option.some Jvm.ClassFile.FieldType.int)) ∈ wA := kA3 (i := 211) rfl rfl
theorem k3_212 : (Jvm.Cond.methodLink "BareThursdayLaw" (163 : Nat) ({ cls := "BareThursday", name := "tear", desc := "()I" } : Jvm.MethodName)) ∈ wA := kA3 (i := 212) rfl rfl
theorem k3_213 : (Jvm.Cond.instanceMethod ({ cls := "BareThursday", name := "tear", desc := "()I" } : Jvm.MethodName)) ∈ wA := kA3 (i := 213) rfl rfl
theorem k3_214 : (Jvm.Cond.selects "BareThursday" ({ cls := "BareThursday", name := "tear", desc := "()I" } : Jvm.MethodName) ({ cls := "BareThursday", name := "tear", desc := "()I" } : Jvm.MethodName)) ∈ wA := kA3 (i := 214) rfl rfl
theorem k3_215 : (Jvm.Cond.code ({ cls := "BareThursday", name := "tear", desc := "()I" } : Jvm.MethodName) prog_1_method_44_code (2 : Nat) (Option.some Jvm.ClassFile.FieldType.int)) ∈ wA := kA3 (i := 215) rfl rfl
theorem k3_216 : (Jvm.Cond.methodLink "BareThursdayLaw" (167 : Nat) ({ cls := "BareThursday", name := "count", desc := "(I)I" } : Jvm.MethodName)) ∈ wA := kA3 (i := 216) rfl rfl
theorem k3_217 : (Jvm.Cond.instanceMethod ({ cls := "BareThursday", name := "count", desc := "(I)I" } : Jvm.MethodName)) ∈ wA := kA3 (i := 217) rfl rfl
theorem k3_218 : (Jvm.Cond.selects "BareThursday" ({ cls := "BareThursday", name := "count", desc := "(I)I" } : Jvm.MethodName) ({ cls := "BareThursday", name := "count", desc := "(I)I" } : Jvm.MethodName)) ∈ wA := kA3 (i := 218) rfl rfl
theorem k3_219 : (Jvm.Cond.code ({ cls := "BareThursday", name := "count", desc := "(I)I" } : Jvm.MethodName) prog_1_method_45_code (2 : Nat) (Option.some Jvm.ClassFile.FieldType.int)) ∈ wA := kA3 (i := 219) rfl rfl
theorem k3_220 : (Jvm.Cond.methodLink "BareThursday" (237 : Nat) ({ cls := "BareThursday$Town", name := "heldSpots", desc := "()I" } : Jvm.MethodName)) ∈ wA := kA3 (i := 220) rfl rfl
theorem k3_221 : (Jvm.Cond.instanceMethod ({ cls := "BareThursday$Town", name := "heldSpots", desc := "()I" } : Jvm.MethodName)) ∈ wA := kA3 (i := 221) rfl rfl
theorem k3_222 : (Jvm.Cond.selects "BareThursday$Town" ({ cls := "BareThursday$Town", name := "heldSpots", desc := "()I" } : Jvm.MethodName) ({ cls := "BareThursday$Town", name := "heldSpots", desc := "()I" } : Jvm.MethodName)) ∈ wA := kA3 (i := 222) rfl rfl
theorem k3_223 : (Jvm.Cond.code ({ cls := "BareThursday$Town", name := "heldSpots", desc := "()I" } : Jvm.MethodName) prog_5_method_28_code (3 : Nat) (Option.some Jvm.ClassFile.FieldType.int)) ∈ wA := kA3 (i := 223) rfl rfl
theorem k3_224 : (Jvm.Cond.methodLink "BareThursdayLaw" (171 : Nat) ({ cls := "BareThursday", name := "status", desc := "(I)I" } : Jvm.MethodName)) ∈ wA := kA3 (i := 224) rfl rfl
theorem k3_225 : (Jvm.Cond.instanceMethod ({ cls := "BareThursday", name := "status", desc := "(I)I" } : Jvm.MethodName)) ∈ wA := kA3 (i := 225) rfl rfl
theorem k3_226 : (Jvm.Cond.selects "BareThursday" ({ cls := "BareThursday", name := "status", desc := "(I)I" } : Jvm.MethodName) ({ cls := "BareThursday", name := "status", desc := "(I)I" } : Jvm.MethodName)) ∈ wA := kA3 (i := 226) rfl rfl
theorem k3_227 : (Jvm.Cond.code ({ cls := "BareThursday", name := "status", desc := "(I)I" } : Jvm.MethodName) prog_1_method_46_code (4 : Nat) (Option.some Jvm.ClassFile.FieldType.int)) ∈ wA := kA3 (i := 227) rfl rfl
theorem k3_228 : (Jvm.Cond.classLink "BareThursdayLaw" (10 : Nat) "BareThursdayModel") ∈ wA := kA3 (i := 228) rfl rfl
theorem k3_229 : (Jvm.Cond.instantiable "BareThursdayModel" (18 : Nat)) ∈ wA := kA3 (i := 229) rfl rfl
theorem k3_230 : (Jvm.Cond.methodLink "BareThursdayLaw" (12 : Nat) ({ cls := "BareThursdayModel", name := "<init>", desc := "()V" } : Jvm.MethodName)) ∈ wA := kA3 (i := 230) rfl rfl
theorem k3_231 : (Jvm.Cond.instanceMethod ({ cls := "BareThursdayModel", name := "<init>", desc := "()V" } : Jvm.MethodName)) ∈ wA := kA3 (i := 231) rfl rfl
theorem k3_232 : (Jvm.Cond.code ({ cls := "BareThursdayModel", name := "<init>", desc := "()V" } : Jvm.MethodName) prog_7_method_1_code (2 : Nat) (Option.none : Option Jvm.ClassFile.FieldType)) ∈ wA := kA3 (i := 232) rfl rfl
theorem k3_233 : (Jvm.Cond.methodLink "BareThursdayModel" (1 : Nat) ({ cls := "java/lang/Object", name := "<init>", desc := "()V" } : Jvm.MethodName)) ∈ wA := kA3 (i := 233) rfl rfl
theorem k3_234 : (Jvm.Cond.fieldLink "BareThursdayModel" (9 : Nat) "BareThursdayModel" "s" "[I") ∈ wA := kA3 (i := 234) rfl rfl
theorem k3_235 : (Jvm.Cond.fieldLink "BareThursdayModel" (13 : Nat) "BareThursdayModel" "kept" "[I") ∈ wA := kA3 (i := 235) rfl rfl
theorem k3_236 : (Jvm.Cond.fieldLink "BareThursdayModel" (16 : Nat) "BareThursdayModel" "aside" "[I") ∈ wA := kA3 (i := 236) rfl rfl
theorem k3_237 : (Jvm.Cond.fieldLink "BareThursdayModel" (269 : Nat) "BareThursdayModel" "isKept" "Z") ∈ wA := kA3 (i := 237) rfl rfl
theorem k3_238 : (Jvm.Cond.fieldLink "BareThursdayModel" (19 : Nat) "BareThursdayModel" "found" "[I") ∈ wA := kA3 (i := 238) rfl rfl
theorem k3_239 : (Jvm.Cond.fieldLink "BareThursdayModel" (22 : Nat) "BareThursdayModel" "tape" "[I") ∈ wA := kA3 (i := 239) rfl rfl
theorem k4_0 : (Jvm.Cond.fieldLink "BareThursdayModel" (209 : Nat) "BareThursdayModel" "taped" "I") ∈ wA := kA4 (i := 0) rfl rfl
theorem k4_1 : (Jvm.Cond.fieldLink "BareThursdayModel" (223 : Nat) "BareThursdayModel" "token" "I") ∈ wA := kA4 (i := 1) rfl rfl
theorem k4_2 : (Jvm.Cond.fieldLink "BareThursdayModel" (216 : Nat) "BareThursdayModel" "begun" "I") ∈ wA := kA4 (i := 2) rfl rfl
theorem k4_3 : (Jvm.Cond.fieldLink "BareThursdayModel" (213 : Nat) "BareThursdayModel" "ended" "I") ∈ wA := kA4 (i := 3) rfl rfl
theorem k4_4 : (Jvm.Cond.fieldLink "BareThursdayModel" (219 : Nat) "BareThursdayModel" "value" "J") ∈ wA := kA4 (i := 4) rfl rfl
theorem k4_5 : (Jvm.Cond.fieldLink "BareThursdayModel" (25 : Nat) "BareThursdayModel" "letters" "[C") ∈ wA := kA4 (i := 5) rfl rfl
theorem k4_6 : (Jvm.Cond.fieldLink "BareThursdayModel" (29 : Nat) "BareThursdayModel" "more" "[C") ∈ wA := kA4 (i := 6) rfl rfl
theorem k4_7 : (Jvm.Cond.fieldLink "BareThursdayModel" (32 : Nat) "BareThursdayModel" "others" "[C") ∈ wA := kA4 (i := 7) rfl rfl
theorem k4_8 : (Jvm.Cond.fieldLink "BareThursdayModel" (35 : Nat) "BareThursdayModel" "widths" "[I") ∈ wA := kA4 (i := 8) rfl rfl
theorem k4_9 : (Jvm.Cond.fieldLink "BareThursdayModel" (38 : Nat) "BareThursdayModel" "sizes" "[I") ∈ wA := kA4 (i := 9) rfl rfl
theorem k4_10 : (Jvm.Cond.fieldLink "BareThursdayModel" (41 : Nat) "BareThursdayModel" "cells" "[I") ∈ wA := kA4 (i := 10) rfl rfl
theorem k4_11 : (Jvm.Cond.fieldLink "BareThursdayModel" (44 : Nat) "BareThursdayModel" "carried" "[I") ∈ wA := kA4 (i := 11) rfl rfl
theorem k4_49 : (Jvm.Cond.arrayClass Jvm.ClassFile.FieldType.char) ∈ wA := kA4 (i := 49) rfl rfl
theorem k4_50 : (Jvm.Cond.methodLink "BareThursdayLaw" (17 : Nat) ({ cls := "BareThursdayModel", name := "person", desc := "(II)I" } : Jvm.MethodName)) ∈ wA := kA4 (i := 50) rfl rfl
theorem k4_51 : (Jvm.Cond.instanceMethod ({ cls := "BareThursdayModel", name := "person", desc := "(II)I" } : Jvm.MethodName)) ∈ wA := kA4 (i := 51) rfl rfl
theorem k4_52 : (Jvm.Cond.selects "BareThursdayModel" ({ cls := "BareThursdayModel", name := "person", desc := "(II)I" } : Jvm.MethodName) ({ cls := "BareThursdayModel", name := "person", desc := "(II)I" } : Jvm.MethodName)) ∈ wA := kA4 (i := 52) rfl rfl
theorem k4_53 : (Jvm.Cond.code ({ cls := "BareThursdayModel", name := "person", desc := "(II)I" } : Jvm.MethodName) prog_7_method_32_code (3 : Nat) (Option.some Jvm.ClassFile.FieldType.int)) ∈ wA := kA4 (i := 53) rfl rfl
theorem k4_54 : (Jvm.Cond.methodLink "BareThursdayModel" (48 : Nat) ({ cls := "BareThursdayModel", name := "in1", desc := "(III)Z" } : Jvm.MethodName)) ∈ wA := kA4 (i := 54) rfl rfl
theorem k4_55 : (Jvm.Cond.static ({ cls := "BareThursdayModel", name := "in1", desc := "(III)Z" } : Jvm.MethodName)) ∈ wA := kA4 (i := 55) rfl rfl
theorem k4_56 : (Jvm.Cond.code ({ cls := "BareThursdayModel", name := "in1", desc := "(III)Z" } : Jvm.MethodName) prog_7_method_3_code (3 : Nat) (Option.some Jvm.ClassFile.FieldType.boolean)) ∈ wA := kA4 (i := 56) rfl rfl
theorem k4_57 : (Jvm.Cond.methodLink "BareThursdayModel" (125 : Nat) ({ cls := "BareThursdayModel", name := "isCell", desc := "(I)Z" } : Jvm.MethodName)) ∈ wA := kA4 (i := 57) rfl rfl
theorem k4_58 : (Jvm.Cond.static ({ cls := "BareThursdayModel", name := "isCell", desc := "(I)Z" } : Jvm.MethodName)) ∈ wA := kA4 (i := 58) rfl rfl
theorem k4_59 : (Jvm.Cond.code ({ cls := "BareThursdayModel", name := "isCell", desc := "(I)Z" } : Jvm.MethodName) prog_7_method_6_code (1 : Nat) (Option.some Jvm.ClassFile.FieldType.boolean)) ∈ wA := kA4 (i := 59) rfl rfl
theorem k4_60 : (Jvm.Cond.methodLink "BareThursdayModel" (128 : Nat) ({ cls := "BareThursdayModel", name := "no", desc := "(I)I" } : Jvm.MethodName)) ∈ wA := kA4 (i := 60) rfl rfl
theorem k4_62 : (Jvm.Cond.instanceMethod ({ cls := "BareThursdayModel", name := "no", desc := "(I)I" } : Jvm.MethodName)) ∈ wA := kA4 (i := 62) rfl rfl
theorem k4_63 : (Jvm.Cond.code ({ cls := "BareThursdayModel", name := "no", desc := "(I)I" } : Jvm.MethodName) prog_7_method_2_code (2 : Nat) (Option.some Jvm.ClassFile.FieldType.int)) ∈ wA := kA4 (i := 63) rfl rfl
theorem k4_64 : (Jvm.Cond.constant "BareThursdayModel" (47 : Nat) (-1000001 : Int32)) ∈ wA := kA4 (i := 64) rfl rfl
theorem k4_65 : (Jvm.Cond.methodLink "BareThursdayModel" (131 : Nat) ({ cls := "BareThursdayModel", name := "adds", desc := "(I)V" } : Jvm.MethodName)) ∈ wA := kA4 (i := 65) rfl rfl
theorem k4_67 : (Jvm.Cond.instanceMethod ({ cls := "BareThursdayModel", name := "adds", desc := "(I)V" } : Jvm.MethodName)) ∈ wA := kA4 (i := 67) rfl rfl
theorem k4_68 : (Jvm.Cond.code ({ cls := "BareThursdayModel", name := "adds", desc := "(I)V" } : Jvm.MethodName) prog_7_method_31_code (4 : Nat) (Option.none : Option Jvm.ClassFile.FieldType)) ∈ wA := kA4 (i := 68) rfl rfl
theorem k4_69 : (Jvm.Cond.methodLink "BareThursdayModel" (81 : Nat) ({ cls := "BareThursdayModel", name := "puts", desc := "(III)V" } : Jvm.MethodName)) ∈ wA := kA4 (i := 69) rfl rfl
theorem k4_71 : (Jvm.Cond.instanceMethod ({ cls := "BareThursdayModel", name := "puts", desc := "(III)V" } : Jvm.MethodName)) ∈ wA := kA4 (i := 71) rfl rfl
theorem k4_72 : (Jvm.Cond.code ({ cls := "BareThursdayModel", name := "puts", desc := "(III)V" } : Jvm.MethodName) prog_7_method_11_code (4 : Nat) (Option.none : Option Jvm.ClassFile.FieldType)) ∈ wA := kA4 (i := 72) rfl rfl
theorem k4_73 : (Jvm.Cond.methodLink "BareThursdayLaw" (21 : Nat) ({ cls := "BareThursdayModel", name := "of", desc := "(II)I" } : Jvm.MethodName)) ∈ wA := kA4 (i := 73) rfl rfl
theorem k4_74 : (Jvm.Cond.instanceMethod ({ cls := "BareThursdayModel", name := "of", desc := "(II)I" } : Jvm.MethodName)) ∈ wA := kA4 (i := 74) rfl rfl
theorem k4_75 : (Jvm.Cond.selects "BareThursdayModel" ({ cls := "BareThursdayModel", name := "of", desc := "(II)I" } : Jvm.MethodName) ({ cls := "BareThursdayModel", name := "of", desc := "(II)I" } : Jvm.MethodName)) ∈ wA := kA4 (i := 75) rfl rfl
theorem k4_76 : (Jvm.Cond.code ({ cls := "BareThursdayModel", name := "of", desc := "(II)I" } : Jvm.MethodName) prog_7_method_33_code (3 : Nat) (Option.some Jvm.ClassFile.FieldType.int)) ∈ wA := kA4 (i := 76) rfl rfl
theorem k4_77 : (Jvm.Cond.methodLink "BareThursdayModel" (52 : Nat) ({ cls := "BareThursdayModel", name := "isPerson", desc := "(I)Z" } : Jvm.MethodName)) ∈ wA := kA4 (i := 77) rfl rfl
theorem k4_79 : (Jvm.Cond.instanceMethod ({ cls := "BareThursdayModel", name := "isPerson", desc := "(I)Z" } : Jvm.MethodName)) ∈ wA := kA4 (i := 79) rfl rfl
theorem k4_80 : (Jvm.Cond.code ({ cls := "BareThursdayModel", name := "isPerson", desc := "(I)Z" } : Jvm.MethodName) prog_7_method_8_code (2 : Nat) (Option.some Jvm.ClassFile.FieldType.boolean)) ∈ wA := kA4 (i := 80) rfl rfl
theorem k4_81 : (Jvm.Cond.methodLink "BareThursdayModel" (106 : Nat) ({ cls := "BareThursdayModel", name := "walksOf", desc := "(I)I" } : Jvm.MethodName)) ∈ wA := kA4 (i := 81) rfl rfl
theorem k4_83 : (Jvm.Cond.instanceMethod ({ cls := "BareThursdayModel", name := "walksOf", desc := "(I)I" } : Jvm.MethodName)) ∈ wA := kA4 (i := 83) rfl rfl
theorem k4_84 : (Jvm.Cond.code ({ cls := "BareThursdayModel", name := "walksOf", desc := "(I)I" } : Jvm.MethodName) prog_7_method_15_code (3 : Nat) (Option.some Jvm.ClassFile.FieldType.int)) ∈ wA := kA4 (i := 84) rfl rfl
theorem k4_85 : (Jvm.Cond.methodLink "BareThursdayModel" (56 : Nat) ({ cls := "BareThursdayModel", name := "get", desc := "(II)I" } : Jvm.MethodName)) ∈ wA := kA4 (i := 85) rfl rfl
theorem k4_87 : (Jvm.Cond.instanceMethod ({ cls := "BareThursdayModel", name := "get", desc := "(II)I" } : Jvm.MethodName)) ∈ wA := kA4 (i := 87) rfl rfl
theorem k4_88 : (Jvm.Cond.code ({ cls := "BareThursdayModel", name := "get", desc := "(II)I" } : Jvm.MethodName) prog_7_method_10_code (3 : Nat) (Option.some Jvm.ClassFile.FieldType.int)) ∈ wA := kA4 (i := 88) rfl rfl
theorem k4_89 : (Jvm.Cond.methodLink "BareThursdayModel" (60 : Nat) ({ cls := "BareThursdayModel", name := "isBare", desc := "()Z" } : Jvm.MethodName)) ∈ wA := kA4 (i := 89) rfl rfl
theorem k4_91 : (Jvm.Cond.instanceMethod ({ cls := "BareThursdayModel", name := "isBare", desc := "()Z" } : Jvm.MethodName)) ∈ wA := kA4 (i := 91) rfl rfl
theorem k4_92 : (Jvm.Cond.code ({ cls := "BareThursdayModel", name := "isBare", desc := "()Z" } : Jvm.MethodName) prog_7_method_14_code (1 : Nat) (Option.some Jvm.ClassFile.FieldType.boolean)) ∈ wA := kA4 (i := 92) rfl rfl
theorem k4_93 : (Jvm.Cond.methodLink "BareThursdayModel" (109 : Nat) ({ cls := "BareThursdayModel", name := "shiftsOf", desc := "(I)I" } : Jvm.MethodName)) ∈ wA := kA4 (i := 93) rfl rfl
theorem k4_95 : (Jvm.Cond.instanceMethod ({ cls := "BareThursdayModel", name := "shiftsOf", desc := "(I)I" } : Jvm.MethodName)) ∈ wA := kA4 (i := 95) rfl rfl
theorem k4_96 : (Jvm.Cond.code ({ cls := "BareThursdayModel", name := "shiftsOf", desc := "(I)I" } : Jvm.MethodName) prog_7_method_16_code (2 : Nat) (Option.some Jvm.ClassFile.FieldType.int)) ∈ wA := kA4 (i := 96) rfl rfl
theorem k4_97 : (Jvm.Cond.methodLink "BareThursdayModel" (74 : Nat) ({ cls := "BareThursdayModel", name := "shinesOf", desc := "(I)I" } : Jvm.MethodName)) ∈ wA := kA4 (i := 97) rfl rfl
theorem k4_99 : (Jvm.Cond.instanceMethod ({ cls := "BareThursdayModel", name := "shinesOf", desc := "(I)I" } : Jvm.MethodName)) ∈ wA := kA4 (i := 99) rfl rfl
theorem k4_100 : (Jvm.Cond.code ({ cls := "BareThursdayModel", name := "shinesOf", desc := "(I)I" } : Jvm.MethodName) prog_7_method_18_code (2 : Nat) (Option.some Jvm.ClassFile.FieldType.int)) ∈ wA := kA4 (i := 100) rfl rfl
theorem k4_101 : (Jvm.Cond.methodLink "BareThursdayModel" (89 : Nat) ({ cls := "BareThursdayModel", name := "gladdensOf", desc := "(I)I" } : Jvm.MethodName)) ∈ wA := kA4 (i := 101) rfl rfl
theorem k4_103 : (Jvm.Cond.instanceMethod ({ cls := "BareThursdayModel", name := "gladdensOf", desc := "(I)I" } : Jvm.MethodName)) ∈ wA := kA4 (i := 103) rfl rfl
theorem k4_104 : (Jvm.Cond.code ({ cls := "BareThursdayModel", name := "gladdensOf", desc := "(I)I" } : Jvm.MethodName) prog_7_method_19_code (3 : Nat) (Option.some Jvm.ClassFile.FieldType.int)) ∈ wA := kA4 (i := 104) rfl rfl
theorem k4_105 : (Jvm.Cond.methodLink "BareThursdayModel" (64 : Nat) ({ cls := "BareThursdayModel", name := "bits", desc := "(I)I" } : Jvm.MethodName)) ∈ wA := kA4 (i := 105) rfl rfl
theorem k4_106 : (Jvm.Cond.static ({ cls := "BareThursdayModel", name := "bits", desc := "(I)I" } : Jvm.MethodName)) ∈ wA := kA4 (i := 106) rfl rfl
theorem k4_107 : (Jvm.Cond.code ({ cls := "BareThursdayModel", name := "bits", desc := "(I)I" } : Jvm.MethodName) prog_7_method_5_code (3 : Nat) (Option.some Jvm.ClassFile.FieldType.int)) ∈ wA := kA4 (i := 107) rfl rfl
theorem k4_108 : (Jvm.Cond.methodLink "BareThursdayLaw" (26 : Nat) ({ cls := "BareThursdayModel", name := "change", desc := "(III)I" } : Jvm.MethodName)) ∈ wA := kA4 (i := 108) rfl rfl
theorem k4_109 : (Jvm.Cond.instanceMethod ({ cls := "BareThursdayModel", name := "change", desc := "(III)I" } : Jvm.MethodName)) ∈ wA := kA4 (i := 109) rfl rfl
theorem k4_110 : (Jvm.Cond.selects "BareThursdayModel" ({ cls := "BareThursdayModel", name := "change", desc := "(III)I" } : Jvm.MethodName) ({ cls := "BareThursdayModel", name := "change", desc := "(III)I" } : Jvm.MethodName)) ∈ wA := kA4 (i := 110) rfl rfl
theorem k4_111 : (Jvm.Cond.code ({ cls := "BareThursdayModel", name := "change", desc := "(III)I" } : Jvm.MethodName) prog_7_method_35_code (5 : Nat) (Option.some Jvm.ClassFile.FieldType.int)) ∈ wA := kA4 (i := 111) rfl rfl
theorem k4_112 : (Jvm.Cond.methodLink "BareThursdayModel" (137 : Nat) ({ cls := "BareThursdayModel", name := "canBe", desc := "(III)Z" } : Jvm.MethodName)) ∈ wA := kA4 (i := 112) rfl rfl
theorem k4_114 : (Jvm.Cond.instanceMethod ({ cls := "BareThursdayModel", name := "canBe", desc := "(III)Z" } : Jvm.MethodName)) ∈ wA := kA4 (i := 114) rfl rfl
theorem k4_115 : (Jvm.Cond.code ({ cls := "BareThursdayModel", name := "canBe", desc := "(III)Z" } : Jvm.MethodName) prog_7_method_34_code (4 : Nat) (Option.some Jvm.ClassFile.FieldType.boolean)) ∈ wA := kA4 (i := 115) rfl rfl
theorem k4_116 : (Jvm.Cond.methodLink "BareThursdayModel" (134 : Nat) ({ cls := "BareThursdayModel", name := "isGuise", desc := "(I)Z" } : Jvm.MethodName)) ∈ wA := kA4 (i := 116) rfl rfl
theorem k4_117 : (Jvm.Cond.static ({ cls := "BareThursdayModel", name := "isGuise", desc := "(I)Z" } : Jvm.MethodName)) ∈ wA := kA4 (i := 117) rfl rfl
theorem k4_118 : (Jvm.Cond.code ({ cls := "BareThursdayModel", name := "isGuise", desc := "(I)Z" } : Jvm.MethodName) prog_7_method_7_code (1 : Nat) (Option.some Jvm.ClassFile.FieldType.boolean)) ∈ wA := kA4 (i := 118) rfl rfl
theorem k4_119 : (Jvm.Cond.methodLink "BareThursdayLaw" (30 : Nat) ({ cls := "BareThursdayModel", name := "minds", desc := "(II)I" } : Jvm.MethodName)) ∈ wA := kA4 (i := 119) rfl rfl
theorem k4_120 : (Jvm.Cond.instanceMethod ({ cls := "BareThursdayModel", name := "minds", desc := "(II)I" } : Jvm.MethodName)) ∈ wA := kA4 (i := 120) rfl rfl
theorem k4_121 : (Jvm.Cond.selects "BareThursdayModel" ({ cls := "BareThursdayModel", name := "minds", desc := "(II)I" } : Jvm.MethodName) ({ cls := "BareThursdayModel", name := "minds", desc := "(II)I" } : Jvm.MethodName)) ∈ wA := kA4 (i := 121) rfl rfl
theorem k4_122 : (Jvm.Cond.code ({ cls := "BareThursdayModel", name := "minds", desc := "(II)I" } : Jvm.MethodName) prog_7_method_36_code (3 : Nat) (Option.some Jvm.ClassFile.FieldType.int)) ∈ wA := kA4 (i := 122) rfl rfl
theorem k4_123 : (Jvm.Cond.methodLink "BareThursdayModel" (77 : Nat) ({ cls := "BareThursdayModel", name := "mindsOf", desc := "(II)Z" } : Jvm.MethodName)) ∈ wA := kA4 (i := 123) rfl rfl
theorem k4_125 : (Jvm.Cond.instanceMethod ({ cls := "BareThursdayModel", name := "mindsOf", desc := "(II)Z" } : Jvm.MethodName)) ∈ wA := kA4 (i := 125) rfl rfl
theorem k4_126 : (Jvm.Cond.code ({ cls := "BareThursdayModel", name := "mindsOf", desc := "(II)Z" } : Jvm.MethodName) prog_7_method_17_code (4 : Nat) (Option.some Jvm.ClassFile.FieldType.boolean)) ∈ wA := kA4 (i := 126) rfl rfl
theorem k4_127 : (Jvm.Cond.methodLink "BareThursdayLaw" (34 : Nat) ({ cls := "BareThursdayModel", name := "far", desc := "(II)I" } : Jvm.MethodName)) ∈ wA := kA4 (i := 127) rfl rfl
theorem k4_128 : (Jvm.Cond.instanceMethod ({ cls := "BareThursdayModel", name := "far", desc := "(II)I" } : Jvm.MethodName)) ∈ wA := kA4 (i := 128) rfl rfl
theorem k4_129 : (Jvm.Cond.selects "BareThursdayModel" ({ cls := "BareThursdayModel", name := "far", desc := "(II)I" } : Jvm.MethodName) ({ cls := "BareThursdayModel", name := "far", desc := "(II)I" } : Jvm.MethodName)) ∈ wA := kA4 (i := 129) rfl rfl
theorem k4_130 : (Jvm.Cond.code ({ cls := "BareThursdayModel", name := "far", desc := "(II)I" } : Jvm.MethodName) prog_7_method_37_code (3 : Nat) (Option.some Jvm.ClassFile.FieldType.int)) ∈ wA := kA4 (i := 130) rfl rfl
theorem k4_131 : (Jvm.Cond.methodLink "BareThursdayModel" (140 : Nat) ({ cls := "BareThursdayModel", name := "areTwo", desc := "(II)Z" } : Jvm.MethodName)) ∈ wA := kA4 (i := 131) rfl rfl
theorem k4_133 : (Jvm.Cond.instanceMethod ({ cls := "BareThursdayModel", name := "areTwo", desc := "(II)Z" } : Jvm.MethodName)) ∈ wA := kA4 (i := 133) rfl rfl
theorem k4_134 : (Jvm.Cond.code ({ cls := "BareThursdayModel", name := "areTwo", desc := "(II)Z" } : Jvm.MethodName) prog_7_method_9_code (3 : Nat) (Option.some Jvm.ClassFile.FieldType.boolean)) ∈ wA := kA4 (i := 134) rfl rfl
theorem k4_135 : (Jvm.Cond.methodLink "BareThursdayModel" (71 : Nat) ({ cls := "BareThursdayModel", name := "farOf", desc := "(II)I" } : Jvm.MethodName)) ∈ wA := kA4 (i := 135) rfl rfl
theorem k4_137 : (Jvm.Cond.instanceMethod ({ cls := "BareThursdayModel", name := "farOf", desc := "(II)I" } : Jvm.MethodName)) ∈ wA := kA4 (i := 137) rfl rfl
theorem k4_138 : (Jvm.Cond.code ({ cls := "BareThursdayModel", name := "farOf", desc := "(II)I" } : Jvm.MethodName) prog_7_method_20_code (4 : Nat) (Option.some Jvm.ClassFile.FieldType.int)) ∈ wA := kA4 (i := 138) rfl rfl
theorem k4_139 : (Jvm.Cond.methodLink "BareThursdayModel" (68 : Nat) ({ cls := "BareThursdayModel", name := "less", desc := "(II)I" } : Jvm.MethodName)) ∈ wA := kA4 (i := 139) rfl rfl
theorem k4_140 : (Jvm.Cond.static ({ cls := "BareThursdayModel", name := "less", desc := "(II)I" } : Jvm.MethodName)) ∈ wA := kA4 (i := 140) rfl rfl
theorem k4_141 : (Jvm.Cond.code ({ cls := "BareThursdayModel", name := "less", desc := "(II)I" } : Jvm.MethodName) prog_7_method_4_code (2 : Nat) (Option.some Jvm.ClassFile.FieldType.int)) ∈ wA := kA4 (i := 141) rfl rfl
theorem k4_142 : (Jvm.Cond.methodLink "BareThursdayLaw" (39 : Nat) ({ cls := "BareThursdayModel", name := "who", desc := "(I)I" } : Jvm.MethodName)) ∈ wA := kA4 (i := 142) rfl rfl
theorem k4_143 : (Jvm.Cond.instanceMethod ({ cls := "BareThursdayModel", name := "who", desc := "(I)I" } : Jvm.MethodName)) ∈ wA := kA4 (i := 143) rfl rfl
theorem k4_144 : (Jvm.Cond.selects "BareThursdayModel" ({ cls := "BareThursdayModel", name := "who", desc := "(I)I" } : Jvm.MethodName) ({ cls := "BareThursdayModel", name := "who", desc := "(I)I" } : Jvm.MethodName)) ∈ wA := kA4 (i := 144) rfl rfl
theorem k4_145 : (Jvm.Cond.code ({ cls := "BareThursdayModel", name := "who", desc := "(I)I" } : Jvm.MethodName) prog_7_method_38_code (4 : Nat) (Option.some Jvm.ClassFile.FieldType.int)) ∈ wA := kA4 (i := 145) rfl rfl
theorem k4_146 : (Jvm.Cond.methodLink "BareThursdayLaw" (43 : Nat) ({ cls := "BareThursdayModel", name := "two", desc := "(III)I" } : Jvm.MethodName)) ∈ wA := kA4 (i := 146) rfl rfl
theorem k4_147 : (Jvm.Cond.instanceMethod ({ cls := "BareThursdayModel", name := "two", desc := "(III)I" } : Jvm.MethodName)) ∈ wA := kA4 (i := 147) rfl rfl
theorem k4_148 : (Jvm.Cond.selects "BareThursdayModel" ({ cls := "BareThursdayModel", name := "two", desc := "(III)I" } : Jvm.MethodName) ({ cls := "BareThursdayModel", name := "two", desc := "(III)I" } : Jvm.MethodName)) ∈ wA := kA4 (i := 148) rfl rfl
theorem k4_149 : (Jvm.Cond.code ({ cls := "BareThursdayModel", name := "two", desc := "(III)I" } : Jvm.MethodName) prog_7_method_39_code (5 : Nat) (Option.some Jvm.ClassFile.FieldType.int)) ∈ wA := kA4 (i := 149) rfl rfl
theorem k4_150 : (Jvm.Cond.methodLink "BareThursdayModel" (95 : Nat) ({ cls := "BareThursdayModel", name := "hasMet", desc := "(II)Z" } : Jvm.MethodName)) ∈ wA := kA4 (i := 150) rfl rfl
theorem k4_152 : (Jvm.Cond.instanceMethod ({ cls := "BareThursdayModel", name := "hasMet", desc := "(II)Z" } : Jvm.MethodName)) ∈ wA := kA4 (i := 152) rfl rfl
theorem k4_153 : (Jvm.Cond.code ({ cls := "BareThursdayModel", name := "hasMet", desc := "(II)Z" } : Jvm.MethodName) prog_7_method_21_code (3 : Nat) (Option.some Jvm.ClassFile.FieldType.boolean)) ∈ wA := kA4 (i := 153) rfl rfl
theorem k4_154 : (Jvm.Cond.methodLink "BareThursdayModel" (85 : Nat) ({ cls := "BareThursdayModel", name := "doesKnow", desc := "(II)Z" } : Jvm.MethodName)) ∈ wA := kA4 (i := 154) rfl rfl
theorem k4_156 : (Jvm.Cond.instanceMethod ({ cls := "BareThursdayModel", name := "doesKnow", desc := "(II)Z" } : Jvm.MethodName)) ∈ wA := kA4 (i := 156) rfl rfl
theorem k4_157 : (Jvm.Cond.code ({ cls := "BareThursdayModel", name := "doesKnow", desc := "(II)Z" } : Jvm.MethodName) prog_7_method_22_code (3 : Nat) (Option.some Jvm.ClassFile.FieldType.boolean)) ∈ wA := kA4 (i := 157) rfl rfl
theorem k4_158 : (Jvm.Cond.methodLink "BareThursdayModel" (92 : Nat) ({ cls := "BareThursdayModel", name := "wouldSee", desc := "(II)Z" } : Jvm.MethodName)) ∈ wA := kA4 (i := 158) rfl rfl
theorem k4_160 : (Jvm.Cond.instanceMethod ({ cls := "BareThursdayModel", name := "wouldSee", desc := "(II)Z" } : Jvm.MethodName)) ∈ wA := kA4 (i := 160) rfl rfl
theorem k4_161 : (Jvm.Cond.code ({ cls := "BareThursdayModel", name := "wouldSee", desc := "(II)Z" } : Jvm.MethodName) prog_7_method_23_code (3 : Nat) (Option.some Jvm.ClassFile.FieldType.boolean)) ∈ wA := kA4 (i := 161) rfl rfl
theorem k4_162 : (Jvm.Cond.methodLink "BareThursdayLaw" (47 : Nat) ({ cls := "BareThursdayModel", name := "go", desc := "(I)I" } : Jvm.MethodName)) ∈ wA := kA4 (i := 162) rfl rfl
theorem k4_163 : (Jvm.Cond.instanceMethod ({ cls := "BareThursdayModel", name := "go", desc := "(I)I" } : Jvm.MethodName)) ∈ wA := kA4 (i := 163) rfl rfl
theorem k4_164 : (Jvm.Cond.selects "BareThursdayModel" ({ cls := "BareThursdayModel", name := "go", desc := "(I)I" } : Jvm.MethodName) ({ cls := "BareThursdayModel", name := "go", desc := "(I)I" } : Jvm.MethodName)) ∈ wA := kA4 (i := 164) rfl rfl
theorem k4_165 : (Jvm.Cond.code ({ cls := "BareThursdayModel", name := "go", desc := "(I)I" } : Jvm.MethodName) prog_7_method_40_code (2 : Nat) (Option.some Jvm.ClassFile.FieldType.int)) ∈ wA := kA4 (i := 165) rfl rfl
theorem k4_166 : (Jvm.Cond.constant "BareThursdayModel" (88 : Nat) (99999 : Int32)) ∈ wA := kA4 (i := 166) rfl rfl
theorem k4_167 : (Jvm.Cond.methodLink "BareThursdayModel" (143 : Nat) ({ cls := "BareThursdayModel", name := "goes", desc := "(I)V" } : Jvm.MethodName)) ∈ wA := kA4 (i := 167) rfl rfl
theorem k4_169 : (Jvm.Cond.instanceMethod ({ cls := "BareThursdayModel", name := "goes", desc := "(I)V" } : Jvm.MethodName)) ∈ wA := kA4 (i := 169) rfl rfl
theorem k4_170 : (Jvm.Cond.code ({ cls := "BareThursdayModel", name := "goes", desc := "(I)V" } : Jvm.MethodName) prog_7_method_30_code (3 : Nat) (Option.none : Option Jvm.ClassFile.FieldType)) ∈ wA := kA4 (i := 170) rfl rfl
theorem k4_171 : (Jvm.Cond.methodLink "BareThursdayModel" (122 : Nat) ({ cls := "BareThursdayModel", name := "day", desc := "()V" } : Jvm.MethodName)) ∈ wA := kA4 (i := 171) rfl rfl
theorem k4_173 : (Jvm.Cond.instanceMethod ({ cls := "BareThursdayModel", name := "day", desc := "()V" } : Jvm.MethodName)) ∈ wA := kA4 (i := 173) rfl rfl
theorem k4_174 : (Jvm.Cond.code ({ cls := "BareThursdayModel", name := "day", desc := "()V" } : Jvm.MethodName) prog_7_method_29_code (4 : Nat) (Option.none : Option Jvm.ClassFile.FieldType)) ∈ wA := kA4 (i := 174) rfl rfl
theorem k4_175 : (Jvm.Cond.methodLink "BareThursdayModel" (112 : Nat) ({ cls := "BareThursdayModel", name := "goesOn", desc := "(IZ)V" } : Jvm.MethodName)) ∈ wA := kA4 (i := 175) rfl rfl
theorem k4_177 : (Jvm.Cond.instanceMethod ({ cls := "BareThursdayModel", name := "goesOn", desc := "(IZ)V" } : Jvm.MethodName)) ∈ wA := kA4 (i := 177) rfl rfl
theorem k4_178 : (Jvm.Cond.code ({ cls := "BareThursdayModel", name := "goesOn", desc := "(IZ)V" } : Jvm.MethodName) prog_7_method_28_code (3 : Nat) (Option.none : Option Jvm.ClassFile.FieldType)) ∈ wA := kA4 (i := 178) rfl rfl
theorem k4_179 : (Jvm.Cond.methodLink "BareThursdayModel" (116 : Nat) ({ cls := "BareThursdayModel", name := "barefaced", desc := "(II)V" } : Jvm.MethodName)) ∈ wA := kA4 (i := 179) rfl rfl
theorem k4_181 : (Jvm.Cond.instanceMethod ({ cls := "BareThursdayModel", name := "barefaced", desc := "(II)V" } : Jvm.MethodName)) ∈ wA := kA4 (i := 181) rfl rfl
theorem k4_182 : (Jvm.Cond.code ({ cls := "BareThursdayModel", name := "barefaced", desc := "(II)V" } : Jvm.MethodName) prog_7_method_27_code (3 : Nat) (Option.none : Option Jvm.ClassFile.FieldType)) ∈ wA := kA4 (i := 182) rfl rfl
theorem k4_183 : (Jvm.Cond.methodLink "BareThursdayModel" (98 : Nat) ({ cls := "BareThursdayModel", name := "comesToKnow", desc := "(II)V" } : Jvm.MethodName)) ∈ wA := kA4 (i := 183) rfl rfl
theorem k4_185 : (Jvm.Cond.instanceMethod ({ cls := "BareThursdayModel", name := "comesToKnow", desc := "(II)V" } : Jvm.MethodName)) ∈ wA := kA4 (i := 185) rfl rfl
theorem k4_186 : (Jvm.Cond.code ({ cls := "BareThursdayModel", name := "comesToKnow", desc := "(II)V" } : Jvm.MethodName) prog_7_method_25_code (3 : Nat) (Option.none : Option Jvm.ClassFile.FieldType)) ∈ wA := kA4 (i := 186) rfl rfl
theorem k4_187 : (Jvm.Cond.methodLink "BareThursdayModel" (102 : Nat) ({ cls := "BareThursdayModel", name := "passesBy", desc := "(I)V" } : Jvm.MethodName)) ∈ wA := kA4 (i := 187) rfl rfl
theorem k4_189 : (Jvm.Cond.instanceMethod ({ cls := "BareThursdayModel", name := "passesBy", desc := "(I)V" } : Jvm.MethodName)) ∈ wA := kA4 (i := 189) rfl rfl
theorem k4_190 : (Jvm.Cond.code ({ cls := "BareThursdayModel", name := "passesBy", desc := "(I)V" } : Jvm.MethodName) prog_7_method_26_code (2 : Nat) (Option.none : Option Jvm.ClassFile.FieldType)) ∈ wA := kA4 (i := 190) rfl rfl
theorem k4_191 : (Jvm.Cond.methodLink "BareThursdayModel" (119 : Nat) ({ cls := "BareThursdayModel", name := "meets", desc := "(II)V" } : Jvm.MethodName)) ∈ wA := kA4 (i := 191) rfl rfl
theorem k4_193 : (Jvm.Cond.instanceMethod ({ cls := "BareThursdayModel", name := "meets", desc := "(II)V" } : Jvm.MethodName)) ∈ wA := kA4 (i := 193) rfl rfl
theorem k4_194 : (Jvm.Cond.code ({ cls := "BareThursdayModel", name := "meets", desc := "(II)V" } : Jvm.MethodName) prog_7_method_24_code (3 : Nat) (Option.none : Option Jvm.ClassFile.FieldType)) ∈ wA := kA4 (i := 194) rfl rfl
theorem k4_195 : (Jvm.Cond.methodLink "BareThursdayLaw" (51 : Nat) ({ cls := "BareThursdayModel", name := "now", desc := "(I)I" } : Jvm.MethodName)) ∈ wA := kA4 (i := 195) rfl rfl
theorem k4_196 : (Jvm.Cond.instanceMethod ({ cls := "BareThursdayModel", name := "now", desc := "(I)I" } : Jvm.MethodName)) ∈ wA := kA4 (i := 196) rfl rfl
theorem k4_197 : (Jvm.Cond.selects "BareThursdayModel" ({ cls := "BareThursdayModel", name := "now", desc := "(I)I" } : Jvm.MethodName) ({ cls := "BareThursdayModel", name := "now", desc := "(I)I" } : Jvm.MethodName)) ∈ wA := kA4 (i := 197) rfl rfl
theorem k4_198 : (Jvm.Cond.code ({ cls := "BareThursdayModel", name := "now", desc := "(I)I" } : Jvm.MethodName) prog_7_method_45_code (2 : Nat) (Option.some Jvm.ClassFile.FieldType.int)) ∈ wA := kA4 (i := 198) rfl rfl
theorem k4_199 : (Jvm.Cond.methodLink "BareThursdayModel" (146 : Nat) ({ cls := "BareThursdayModel", name := "whoKnow", desc := "()I" } : Jvm.MethodName)) ∈ wA := kA4 (i := 199) rfl rfl
theorem k4_201 : (Jvm.Cond.instanceMethod ({ cls := "BareThursdayModel", name := "whoKnow", desc := "()I" } : Jvm.MethodName)) ∈ wA := kA4 (i := 201) rfl rfl
theorem k4_202 : (Jvm.Cond.code ({ cls := "BareThursdayModel", name := "whoKnow", desc := "()I" } : Jvm.MethodName) prog_7_method_42_code (3 : Nat) (Option.some Jvm.ClassFile.FieldType.int)) ∈ wA := kA4 (i := 202) rfl rfl
theorem k4_203 : (Jvm.Cond.methodLink "BareThursdayModel" (150 : Nat) ({ cls := "BareThursdayModel", name := "pairs", desc := "(I)I" } : Jvm.MethodName)) ∈ wA := kA4 (i := 203) rfl rfl
theorem k4_205 : (Jvm.Cond.instanceMethod ({ cls := "BareThursdayModel", name := "pairs", desc := "(I)I" } : Jvm.MethodName)) ∈ wA := kA4 (i := 205) rfl rfl
theorem k4_206 : (Jvm.Cond.code ({ cls := "BareThursdayModel", name := "pairs", desc := "(I)I" } : Jvm.MethodName) prog_7_method_43_code (5 : Nat) (Option.some Jvm.ClassFile.FieldType.int)) ∈ wA := kA4 (i := 206) rfl rfl
theorem k4_207 : (Jvm.Cond.methodLink "BareThursdayModel" (153 : Nat) ({ cls := "BareThursdayModel", name := "worn", desc := "()I" } : Jvm.MethodName)) ∈ wA := kA4 (i := 207) rfl rfl
theorem k4_209 : (Jvm.Cond.instanceMethod ({ cls := "BareThursdayModel", name := "worn", desc := "()I" } : Jvm.MethodName)) ∈ wA := kA4 (i := 209) rfl rfl
theorem k4_210 : (Jvm.Cond.code ({ cls := "BareThursdayModel", name := "worn", desc := "()I" } : Jvm.MethodName) prog_7_method_44_code (3 : Nat) (Option.some Jvm.ClassFile.FieldType.int)) ∈ wA := kA4 (i := 210) rfl rfl
theorem k4_211 : (Jvm.Cond.methodLink "BareThursdayModel" (156 : Nat) ({ cls := "BareThursdayModel", name := "passedAll", desc := "()I" } : Jvm.MethodName)) ∈ wA := kA4 (i := 211) rfl rfl
theorem k4_213 : (Jvm.Cond.instanceMethod ({ cls := "BareThursdayModel", name := "passedAll", desc := "()I" } : Jvm.MethodName)) ∈ wA := kA4 (i := 213) rfl rfl
theorem k4_214 : (Jvm.Cond.code ({ cls := "BareThursdayModel", name := "passedAll", desc := "()I" } : Jvm.MethodName) prog_7_method_41_code (3 : Nat) (Option.some Jvm.ClassFile.FieldType.int)) ∈ wA := kA4 (i := 214) rfl rfl
theorem k4_215 : (Jvm.Cond.methodLink "BareThursdayLaw" (55 : Nat) ({ cls := "BareThursdayModel", name := "ahead", desc := "(III)I" } : Jvm.MethodName)) ∈ wA := kA4 (i := 215) rfl rfl
theorem k4_216 : (Jvm.Cond.instanceMethod ({ cls := "BareThursdayModel", name := "ahead", desc := "(III)I" } : Jvm.MethodName)) ∈ wA := kA4 (i := 216) rfl rfl
theorem k4_217 : (Jvm.Cond.selects "BareThursdayModel" ({ cls := "BareThursdayModel", name := "ahead", desc := "(III)I" } : Jvm.MethodName) ({ cls := "BareThursdayModel", name := "ahead", desc := "(III)I" } : Jvm.MethodName)) ∈ wA := kA4 (i := 217) rfl rfl
theorem k4_218 : (Jvm.Cond.code ({ cls := "BareThursdayModel", name := "ahead", desc := "(III)I" } : Jvm.MethodName) prog_7_method_47_code (5 : Nat) (Option.some Jvm.ClassFile.FieldType.int)) ∈ wA := kA4 (i := 218) rfl rfl
theorem k4_219 : (Jvm.Cond.methodLink "BareThursdayModel" (165 : Nat) ({ cls := "BareThursdayModel", name := "thenAt", desc := "(II)I" } : Jvm.MethodName)) ∈ wA := kA4 (i := 219) rfl rfl
theorem k4_221 : (Jvm.Cond.instanceMethod ({ cls := "BareThursdayModel", name := "thenAt", desc := "(II)I" } : Jvm.MethodName)) ∈ wA := kA4 (i := 221) rfl rfl
theorem k4_222 : (Jvm.Cond.code ({ cls := "BareThursdayModel", name := "thenAt", desc := "(II)I" } : Jvm.MethodName) prog_7_method_46_code (4 : Nat) (Option.some Jvm.ClassFile.FieldType.int)) ∈ wA := kA4 (i := 222) rfl rfl
theorem k4_223 : (Jvm.Cond.methodLink "BareThursdayModel" (159 : Nat) ({ cls := "BareThursdayModel", name := "setsAside", desc := "()V" } : Jvm.MethodName)) ∈ wA := kA4 (i := 223) rfl rfl
theorem k4_225 : (Jvm.Cond.instanceMethod ({ cls := "BareThursdayModel", name := "setsAside", desc := "()V" } : Jvm.MethodName)) ∈ wA := kA4 (i := 225) rfl rfl
theorem k4_226 : (Jvm.Cond.code ({ cls := "BareThursdayModel", name := "setsAside", desc := "()V" } : Jvm.MethodName) prog_7_method_12_code (2 : Nat) (Option.none : Option Jvm.ClassFile.FieldType)) ∈ wA := kA4 (i := 226) rfl rfl
theorem k4_227 : (Jvm.Cond.methodLink "BareThursdayModel" (162 : Nat) ({ cls := "BareThursdayModel", name := "laysBack", desc := "()V" } : Jvm.MethodName)) ∈ wA := kA4 (i := 227) rfl rfl
theorem k4_229 : (Jvm.Cond.instanceMethod ({ cls := "BareThursdayModel", name := "laysBack", desc := "()V" } : Jvm.MethodName)) ∈ wA := kA4 (i := 229) rfl rfl
theorem k4_230 : (Jvm.Cond.code ({ cls := "BareThursdayModel", name := "laysBack", desc := "()V" } : Jvm.MethodName) prog_7_method_13_code (2 : Nat) (Option.none : Option Jvm.ClassFile.FieldType)) ∈ wA := kA4 (i := 230) rfl rfl
theorem k4_231 : (Jvm.Cond.methodLink "BareThursdayLaw" (59 : Nat) ({ cls := "BareThursdayModel", name := "joy", desc := "(I)I" } : Jvm.MethodName)) ∈ wA := kA4 (i := 231) rfl rfl
theorem k4_232 : (Jvm.Cond.instanceMethod ({ cls := "BareThursdayModel", name := "joy", desc := "(I)I" } : Jvm.MethodName)) ∈ wA := kA4 (i := 232) rfl rfl
theorem k4_233 : (Jvm.Cond.selects "BareThursdayModel" ({ cls := "BareThursdayModel", name := "joy", desc := "(I)I" } : Jvm.MethodName) ({ cls := "BareThursdayModel", name := "joy", desc := "(I)I" } : Jvm.MethodName)) ∈ wA := kA4 (i := 233) rfl rfl
theorem k4_234 : (Jvm.Cond.code ({ cls := "BareThursdayModel", name := "joy", desc := "(I)I" } : Jvm.MethodName) prog_7_method_48_code (2 : Nat) (Option.some Jvm.ClassFile.FieldType.int)) ∈ wA := kA4 (i := 234) rfl rfl
theorem k4_235 : (Jvm.Cond.methodLink "BareThursdayLaw" (63 : Nat) ({ cls := "BareThursdayModel", name := "when", desc := "(III)I" } : Jvm.MethodName)) ∈ wA := kA4 (i := 235) rfl rfl
theorem k4_236 : (Jvm.Cond.instanceMethod ({ cls := "BareThursdayModel", name := "when", desc := "(III)I" } : Jvm.MethodName)) ∈ wA := kA4 (i := 236) rfl rfl
theorem k4_237 : (Jvm.Cond.selects "BareThursdayModel" ({ cls := "BareThursdayModel", name := "when", desc := "(III)I" } : Jvm.MethodName) ({ cls := "BareThursdayModel", name := "when", desc := "(III)I" } : Jvm.MethodName)) ∈ wA := kA4 (i := 237) rfl rfl
theorem k4_238 : (Jvm.Cond.code ({ cls := "BareThursdayModel", name := "when", desc := "(III)I" } : Jvm.MethodName) prog_7_method_51_code (4 : Nat) (Option.some Jvm.ClassFile.FieldType.int)) ∈ wA := kA4 (i := 238) rfl rfl
theorem k4_239 : (Jvm.Cond.methodLink "BareThursdayModel" (171 : Nat) ({ cls := "BareThursdayModel", name := "firstBy", desc := "(III)I" } : Jvm.MethodName)) ∈ wA := kA4 (i := 239) rfl rfl
theorem k5_1 : (Jvm.Cond.instanceMethod ({ cls := "BareThursdayModel", name := "firstBy", desc := "(III)I" } : Jvm.MethodName)) ∈ wA := kA5 (i := 1) rfl rfl
theorem k5_2 : (Jvm.Cond.code ({ cls := "BareThursdayModel", name := "firstBy", desc := "(III)I" } : Jvm.MethodName) prog_7_method_50_code (5 : Nat) (Option.some Jvm.ClassFile.FieldType.int)) ∈ wA := kA5 (i := 2) rfl rfl
theorem k5_3 : (Jvm.Cond.methodLink "BareThursdayModel" (168 : Nat) ({ cls := "BareThursdayModel", name := "isSo", desc := "(III)Z" } : Jvm.MethodName)) ∈ wA := kA5 (i := 3) rfl rfl
theorem k5_5 : (Jvm.Cond.instanceMethod ({ cls := "BareThursdayModel", name := "isSo", desc := "(III)Z" } : Jvm.MethodName)) ∈ wA := kA5 (i := 5) rfl rfl
theorem k5_6 : (Jvm.Cond.code ({ cls := "BareThursdayModel", name := "isSo", desc := "(III)Z" } : Jvm.MethodName) prog_7_method_49_code (4 : Nat) (Option.some Jvm.ClassFile.FieldType.boolean)) ∈ wA := kA5 (i := 6) rfl rfl
theorem k5_7 : (Jvm.Cond.methodLink "BareThursdayLaw" (68 : Nat) ({ cls := "BareThursdayModel", name := "known", desc := "()I" } : Jvm.MethodName)) ∈ wA := kA5 (i := 7) rfl rfl
theorem k5_8 : (Jvm.Cond.instanceMethod ({ cls := "BareThursdayModel", name := "known", desc := "()I" } : Jvm.MethodName)) ∈ wA := kA5 (i := 8) rfl rfl
theorem k5_9 : (Jvm.Cond.selects "BareThursdayModel" ({ cls := "BareThursdayModel", name := "known", desc := "()I" } : Jvm.MethodName) ({ cls := "BareThursdayModel", name := "known", desc := "()I" } : Jvm.MethodName)) ∈ wA := kA5 (i := 9) rfl rfl
theorem k5_10 : (Jvm.Cond.code ({ cls := "BareThursdayModel", name := "known", desc := "()I" } : Jvm.MethodName) prog_7_method_52_code (1 : Nat) (Option.some Jvm.ClassFile.FieldType.int)) ∈ wA := kA5 (i := 10) rfl rfl
theorem k5_11 : (Jvm.Cond.methodLink "BareThursdayLaw" (72 : Nat) ({ cls := "BareThursdayModel", name := "passed", desc := "(II)I" } : Jvm.MethodName)) ∈ wA := kA5 (i := 11) rfl rfl
theorem k5_12 : (Jvm.Cond.instanceMethod ({ cls := "BareThursdayModel", name := "passed", desc := "(II)I" } : Jvm.MethodName)) ∈ wA := kA5 (i := 12) rfl rfl
theorem k5_13 : (Jvm.Cond.selects "BareThursdayModel" ({ cls := "BareThursdayModel", name := "passed", desc := "(II)I" } : Jvm.MethodName) ({ cls := "BareThursdayModel", name := "passed", desc := "(II)I" } : Jvm.MethodName)) ∈ wA := kA5 (i := 13) rfl rfl
theorem k5_14 : (Jvm.Cond.code ({ cls := "BareThursdayModel", name := "passed", desc := "(II)I" } : Jvm.MethodName) prog_7_method_53_code (3 : Nat) (Option.some Jvm.ClassFile.FieldType.int)) ∈ wA := kA5 (i := 14) rfl rfl
theorem k5_15 : (Jvm.Cond.methodLink "BareThursdayLaw" (76 : Nat) ({ cls := "BareThursdayModel", name := "standFor", desc := "(II)I" } : Jvm.MethodName)) ∈ wA := kA5 (i := 15) rfl rfl
theorem k5_16 : (Jvm.Cond.instanceMethod ({ cls := "BareThursdayModel", name := "standFor", desc := "(II)I" } : Jvm.MethodName)) ∈ wA := kA5 (i := 16) rfl rfl
theorem k5_17 : (Jvm.Cond.selects "BareThursdayModel" ({ cls := "BareThursdayModel", name := "standFor", desc := "(II)I" } : Jvm.MethodName) ({ cls := "BareThursdayModel", name := "standFor", desc := "(II)I" } : Jvm.MethodName)) ∈ wA := kA5 (i := 17) rfl rfl
theorem k5_18 : (Jvm.Cond.code ({ cls := "BareThursdayModel", name := "standFor", desc := "(II)I" } : Jvm.MethodName) prog_7_method_56_code (3 : Nat) (Option.some Jvm.ClassFile.FieldType.int)) ∈ wA := kA5 (i := 18) rfl rfl
theorem k5_19 : (Jvm.Cond.methodLink "BareThursdayModel" (175 : Nat) ({ cls := "BareThursdayModel", name := "isAsked", desc := "(II)Z" } : Jvm.MethodName)) ∈ wA := kA5 (i := 19) rfl rfl
theorem k5_21 : (Jvm.Cond.instanceMethod ({ cls := "BareThursdayModel", name := "isAsked", desc := "(II)Z" } : Jvm.MethodName)) ∈ wA := kA5 (i := 21) rfl rfl
theorem k5_22 : (Jvm.Cond.code ({ cls := "BareThursdayModel", name := "isAsked", desc := "(II)Z" } : Jvm.MethodName) prog_7_method_55_code (3 : Nat) (Option.some Jvm.ClassFile.FieldType.boolean)) ∈ wA := kA5 (i := 22) rfl rfl
theorem k5_23 : (Jvm.Cond.methodLink "BareThursdayModel" (178 : Nat) ({ cls := "BareThursdayModel", name := "gladdestBy", desc := "(IIII)I" } : Jvm.MethodName)) ∈ wA := kA5 (i := 23) rfl rfl
theorem k5_25 : (Jvm.Cond.instanceMethod ({ cls := "BareThursdayModel", name := "gladdestBy", desc := "(IIII)I" } : Jvm.MethodName)) ∈ wA := kA5 (i := 25) rfl rfl
theorem k5_26 : (Jvm.Cond.code ({ cls := "BareThursdayModel", name := "gladdestBy", desc := "(IIII)I" } : Jvm.MethodName) prog_7_method_54_code (9 : Nat) (Option.some Jvm.ClassFile.FieldType.int)) ∈ wA := kA5 (i := 26) rfl rfl
theorem k5_27 : (Jvm.Cond.methodLink "BareThursdayLaw" (80 : Nat) ({ cls := "BareThursdayModel", name := "guiseFor", desc := "(II)I" } : Jvm.MethodName)) ∈ wA := kA5 (i := 27) rfl rfl
theorem k5_28 : (Jvm.Cond.instanceMethod ({ cls := "BareThursdayModel", name := "guiseFor", desc := "(II)I" } : Jvm.MethodName)) ∈ wA := kA5 (i := 28) rfl rfl
theorem k5_29 : (Jvm.Cond.selects "BareThursdayModel" ({ cls := "BareThursdayModel", name := "guiseFor", desc := "(II)I" } : Jvm.MethodName) ({ cls := "BareThursdayModel", name := "guiseFor", desc := "(II)I" } : Jvm.MethodName)) ∈ wA := kA5 (i := 29) rfl rfl
theorem k5_30 : (Jvm.Cond.code ({ cls := "BareThursdayModel", name := "guiseFor", desc := "(II)I" } : Jvm.MethodName) prog_7_method_57_code (3 : Nat) (Option.some Jvm.ClassFile.FieldType.int)) ∈ wA := kA5 (i := 30) rfl rfl
theorem k5_31 : (Jvm.Cond.methodLink "BareThursdayLaw" (84 : Nat) ({ cls := "BareThursdayModel", name := "kindFor", desc := "(II)I" } : Jvm.MethodName)) ∈ wA := kA5 (i := 31) rfl rfl
theorem k5_32 : (Jvm.Cond.instanceMethod ({ cls := "BareThursdayModel", name := "kindFor", desc := "(II)I" } : Jvm.MethodName)) ∈ wA := kA5 (i := 32) rfl rfl
theorem k5_33 : (Jvm.Cond.selects "BareThursdayModel" ({ cls := "BareThursdayModel", name := "kindFor", desc := "(II)I" } : Jvm.MethodName) ({ cls := "BareThursdayModel", name := "kindFor", desc := "(II)I" } : Jvm.MethodName)) ∈ wA := kA5 (i := 33) rfl rfl
theorem k5_34 : (Jvm.Cond.code ({ cls := "BareThursdayModel", name := "kindFor", desc := "(II)I" } : Jvm.MethodName) prog_7_method_58_code (3 : Nat) (Option.some Jvm.ClassFile.FieldType.int)) ∈ wA := kA5 (i := 34) rfl rfl
theorem k5_35 : (Jvm.Cond.methodLink "BareThursdayLaw" (88 : Nat) ({ cls := "BareThursdayModel", name := "dark", desc := "(I)I" } : Jvm.MethodName)) ∈ wA := kA5 (i := 35) rfl rfl
theorem k5_36 : (Jvm.Cond.instanceMethod ({ cls := "BareThursdayModel", name := "dark", desc := "(I)I" } : Jvm.MethodName)) ∈ wA := kA5 (i := 36) rfl rfl
theorem k5_37 : (Jvm.Cond.selects "BareThursdayModel" ({ cls := "BareThursdayModel", name := "dark", desc := "(I)I" } : Jvm.MethodName) ({ cls := "BareThursdayModel", name := "dark", desc := "(I)I" } : Jvm.MethodName)) ∈ wA := kA5 (i := 37) rfl rfl
theorem k5_38 : (Jvm.Cond.code ({ cls := "BareThursdayModel", name := "dark", desc := "(I)I" } : Jvm.MethodName) prog_7_method_60_code (5 : Nat) (Option.some Jvm.ClassFile.FieldType.int)) ∈ wA := kA5 (i := 38) rfl rfl
theorem k5_39 : (Jvm.Cond.methodLink "BareThursdayModel" (182 : Nat) ({ cls := "BareThursdayModel", name := "joyWith", desc := "(II)I" } : Jvm.MethodName)) ∈ wA := kA5 (i := 39) rfl rfl
theorem k5_41 : (Jvm.Cond.instanceMethod ({ cls := "BareThursdayModel", name := "joyWith", desc := "(II)I" } : Jvm.MethodName)) ∈ wA := kA5 (i := 41) rfl rfl
theorem k5_42 : (Jvm.Cond.code ({ cls := "BareThursdayModel", name := "joyWith", desc := "(II)I" } : Jvm.MethodName) prog_7_method_59_code (4 : Nat) (Option.some Jvm.ClassFile.FieldType.int)) ∈ wA := kA5 (i := 42) rfl rfl
theorem k5_43 : (Jvm.Cond.methodLink "BareThursdayLaw" (92 : Nat) ({ cls := "BareThursdayModel", name := "circle", desc := "(I)I" } : Jvm.MethodName)) ∈ wA := kA5 (i := 43) rfl rfl
theorem k5_44 : (Jvm.Cond.instanceMethod ({ cls := "BareThursdayModel", name := "circle", desc := "(I)I" } : Jvm.MethodName)) ∈ wA := kA5 (i := 44) rfl rfl
theorem k5_45 : (Jvm.Cond.selects "BareThursdayModel" ({ cls := "BareThursdayModel", name := "circle", desc := "(I)I" } : Jvm.MethodName) ({ cls := "BareThursdayModel", name := "circle", desc := "(I)I" } : Jvm.MethodName)) ∈ wA := kA5 (i := 45) rfl rfl
theorem k5_46 : (Jvm.Cond.code ({ cls := "BareThursdayModel", name := "circle", desc := "(I)I" } : Jvm.MethodName) prog_7_method_62_code (4 : Nat) (Option.some Jvm.ClassFile.FieldType.int)) ∈ wA := kA5 (i := 46) rfl rfl
theorem k5_47 : (Jvm.Cond.methodLink "BareThursdayModel" (185 : Nat) ({ cls := "BareThursdayModel", name := "isCircle", desc := "(II)Z" } : Jvm.MethodName)) ∈ wA := kA5 (i := 47) rfl rfl
theorem k5_49 : (Jvm.Cond.instanceMethod ({ cls := "BareThursdayModel", name := "isCircle", desc := "(II)Z" } : Jvm.MethodName)) ∈ wA := kA5 (i := 49) rfl rfl
theorem k5_50 : (Jvm.Cond.code ({ cls := "BareThursdayModel", name := "isCircle", desc := "(II)Z" } : Jvm.MethodName) prog_7_method_61_code (4 : Nat) (Option.some Jvm.ClassFile.FieldType.boolean)) ∈ wA := kA5 (i := 50) rfl rfl
theorem k5_51 : (Jvm.Cond.methodLink "BareThursdayLaw" (96 : Nat) ({ cls := "BareThursdayModel", name := "fits", desc := "(II)I" } : Jvm.MethodName)) ∈ wA := kA5 (i := 51) rfl rfl
theorem k5_52 : (Jvm.Cond.instanceMethod ({ cls := "BareThursdayModel", name := "fits", desc := "(II)I" } : Jvm.MethodName)) ∈ wA := kA5 (i := 52) rfl rfl
theorem k5_53 : (Jvm.Cond.selects "BareThursdayModel" ({ cls := "BareThursdayModel", name := "fits", desc := "(II)I" } : Jvm.MethodName) ({ cls := "BareThursdayModel", name := "fits", desc := "(II)I" } : Jvm.MethodName)) ∈ wA := kA5 (i := 53) rfl rfl
theorem k5_54 : (Jvm.Cond.code ({ cls := "BareThursdayModel", name := "fits", desc := "(II)I" } : Jvm.MethodName) prog_7_method_68_code (4 : Nat) (Option.some Jvm.ClassFile.FieldType.int)) ∈ wA := kA5 (i := 54) rfl rfl
theorem k5_55 : (Jvm.Cond.methodLink "BareThursdayModel" (197 : Nat) ({ cls := "BareThursdayModel", name := "wrongTold", desc := "(II)I" } : Jvm.MethodName)) ∈ wA := kA5 (i := 55) rfl rfl
theorem k5_57 : (Jvm.Cond.instanceMethod ({ cls := "BareThursdayModel", name := "wrongTold", desc := "(II)I" } : Jvm.MethodName)) ∈ wA := kA5 (i := 57) rfl rfl
theorem k5_58 : (Jvm.Cond.code ({ cls := "BareThursdayModel", name := "wrongTold", desc := "(II)I" } : Jvm.MethodName) prog_7_method_65_code (4 : Nat) (Option.some Jvm.ClassFile.FieldType.int)) ∈ wA := kA5 (i := 58) rfl rfl
theorem k5_59 : (Jvm.Cond.methodLink "BareThursdayModel" (191 : Nat) ({ cls := "BareThursdayModel", name := "wrongSheet", desc := "(I)I" } : Jvm.MethodName)) ∈ wA := kA5 (i := 59) rfl rfl
theorem k5_61 : (Jvm.Cond.instanceMethod ({ cls := "BareThursdayModel", name := "wrongSheet", desc := "(I)I" } : Jvm.MethodName)) ∈ wA := kA5 (i := 61) rfl rfl
theorem k5_62 : (Jvm.Cond.code ({ cls := "BareThursdayModel", name := "wrongSheet", desc := "(I)I" } : Jvm.MethodName) prog_7_method_64_code (2 : Nat) (Option.some Jvm.ClassFile.FieldType.int)) ∈ wA := kA5 (i := 62) rfl rfl
theorem k5_63 : (Jvm.Cond.methodLink "BareThursdayModel" (188 : Nat) ({ cls := "BareThursdayModel", name := "isSheet", desc := "(I)Z" } : Jvm.MethodName)) ∈ wA := kA5 (i := 63) rfl rfl
theorem k5_64 : (Jvm.Cond.static ({ cls := "BareThursdayModel", name := "isSheet", desc := "(I)Z" } : Jvm.MethodName)) ∈ wA := kA5 (i := 64) rfl rfl
theorem k5_65 : (Jvm.Cond.code ({ cls := "BareThursdayModel", name := "isSheet", desc := "(I)Z" } : Jvm.MethodName) prog_7_method_63_code (1 : Nat) (Option.some Jvm.ClassFile.FieldType.boolean)) ∈ wA := kA5 (i := 65) rfl rfl
theorem k5_66 : (Jvm.Cond.methodLink "BareThursdayModel" (200 : Nat) ({ cls := "BareThursdayModel", name := "allThatFit", desc := "(IIII)I" } : Jvm.MethodName)) ∈ wA := kA5 (i := 66) rfl rfl
theorem k5_68 : (Jvm.Cond.instanceMethod ({ cls := "BareThursdayModel", name := "allThatFit", desc := "(IIII)I" } : Jvm.MethodName)) ∈ wA := kA5 (i := 68) rfl rfl
theorem k5_69 : (Jvm.Cond.code ({ cls := "BareThursdayModel", name := "allThatFit", desc := "(IIII)I" } : Jvm.MethodName) prog_7_method_67_code (9 : Nat) (Option.some Jvm.ClassFile.FieldType.int)) ∈ wA := kA5 (i := 69) rfl rfl
theorem k5_70 : (Jvm.Cond.methodLink "BareThursdayModel" (194 : Nat) ({ cls := "BareThursdayModel", name := "told", desc := "(II)I" } : Jvm.MethodName)) ∈ wA := kA5 (i := 70) rfl rfl
theorem k5_72 : (Jvm.Cond.instanceMethod ({ cls := "BareThursdayModel", name := "told", desc := "(II)I" } : Jvm.MethodName)) ∈ wA := kA5 (i := 72) rfl rfl
theorem k5_73 : (Jvm.Cond.code ({ cls := "BareThursdayModel", name := "told", desc := "(II)I" } : Jvm.MethodName) prog_7_method_66_code (3 : Nat) (Option.some Jvm.ClassFile.FieldType.int)) ∈ wA := kA5 (i := 73) rfl rfl
theorem k5_74 : (Jvm.Cond.methodLink "BareThursdayLaw" (100 : Nat) ({ cls := "BareThursdayModel", name := "kinds", desc := "(II)I" } : Jvm.MethodName)) ∈ wA := kA5 (i := 74) rfl rfl
theorem k5_75 : (Jvm.Cond.instanceMethod ({ cls := "BareThursdayModel", name := "kinds", desc := "(II)I" } : Jvm.MethodName)) ∈ wA := kA5 (i := 75) rfl rfl
theorem k5_76 : (Jvm.Cond.selects "BareThursdayModel" ({ cls := "BareThursdayModel", name := "kinds", desc := "(II)I" } : Jvm.MethodName) ({ cls := "BareThursdayModel", name := "kinds", desc := "(II)I" } : Jvm.MethodName)) ∈ wA := kA5 (i := 76) rfl rfl
theorem k5_77 : (Jvm.Cond.code ({ cls := "BareThursdayModel", name := "kinds", desc := "(II)I" } : Jvm.MethodName) prog_7_method_69_code (4 : Nat) (Option.some Jvm.ClassFile.FieldType.int)) ∈ wA := kA5 (i := 77) rfl rfl
theorem k5_78 : (Jvm.Cond.methodLink "BareThursdayLaw" (104 : Nat) ({ cls := "BareThursdayModel", name := "night", desc := "(I)I" } : Jvm.MethodName)) ∈ wA := kA5 (i := 78) rfl rfl
theorem k5_79 : (Jvm.Cond.instanceMethod ({ cls := "BareThursdayModel", name := "night", desc := "(I)I" } : Jvm.MethodName)) ∈ wA := kA5 (i := 79) rfl rfl
theorem k5_80 : (Jvm.Cond.selects "BareThursdayModel" ({ cls := "BareThursdayModel", name := "night", desc := "(I)I" } : Jvm.MethodName) ({ cls := "BareThursdayModel", name := "night", desc := "(I)I" } : Jvm.MethodName)) ∈ wA := kA5 (i := 80) rfl rfl
theorem k5_81 : (Jvm.Cond.code ({ cls := "BareThursdayModel", name := "night", desc := "(I)I" } : Jvm.MethodName) prog_7_method_71_code (6 : Nat) (Option.some Jvm.ClassFile.FieldType.int)) ∈ wA := kA5 (i := 81) rfl rfl
theorem k5_82 : (Jvm.Cond.methodLink "BareThursdayModel" (204 : Nat) ({ cls := "BareThursdayModel", name := "draw", desc := "()I" } : Jvm.MethodName)) ∈ wA := kA5 (i := 82) rfl rfl
theorem k5_84 : (Jvm.Cond.instanceMethod ({ cls := "BareThursdayModel", name := "draw", desc := "()I" } : Jvm.MethodName)) ∈ wA := kA5 (i := 84) rfl rfl
theorem k5_85 : (Jvm.Cond.code ({ cls := "BareThursdayModel", name := "draw", desc := "()I" } : Jvm.MethodName) prog_7_method_70_code (1 : Nat) (Option.some Jvm.ClassFile.FieldType.int)) ∈ wA := kA5 (i := 85) rfl rfl
theorem k5_86 : (Jvm.Cond.constant "BareThursdayModel" (203 : Nat) (1103515245 : Int32)) ∈ wA := kA5 (i := 86) rfl rfl
theorem k5_87 : (Jvm.Cond.methodLink "BareThursdayLaw" (109 : Nat) ({ cls := "BareThursdayModel", name := "odds", desc := "(III)J" } : Jvm.MethodName)) ∈ wA := kA5 (i := 87) rfl rfl
theorem k5_88 : (Jvm.Cond.instanceMethod ({ cls := "BareThursdayModel", name := "odds", desc := "(III)J" } : Jvm.MethodName)) ∈ wA := kA5 (i := 88) rfl rfl
theorem k5_89 : (Jvm.Cond.selects "BareThursdayModel" ({ cls := "BareThursdayModel", name := "odds", desc := "(III)J" } : Jvm.MethodName) ({ cls := "BareThursdayModel", name := "odds", desc := "(III)J" } : Jvm.MethodName)) ∈ wA := kA5 (i := 89) rfl rfl
theorem k5_90 : (Jvm.Cond.code ({ cls := "BareThursdayModel", name := "odds", desc := "(III)J" } : Jvm.MethodName) prog_7_method_72_code (15 : Nat) (Option.some Jvm.ClassFile.FieldType.long)) ∈ wA := kA5 (i := 90) rfl rfl
theorem k5_91 : (Jvm.Cond.constantLong "BareThursdayModel" (207 : Nat) (12 : Int64)) ∈ wA := kA5 (i := 91) rfl rfl
theorem k5_92 : (Jvm.Cond.methodLink "BareThursdayLaw" (113 : Nat) ({ cls := "BareThursdayModel", name := "seed", desc := "(I)I" } : Jvm.MethodName)) ∈ wA := kA5 (i := 92) rfl rfl
theorem k5_93 : (Jvm.Cond.instanceMethod ({ cls := "BareThursdayModel", name := "seed", desc := "(I)I" } : Jvm.MethodName)) ∈ wA := kA5 (i := 93) rfl rfl
theorem k5_94 : (Jvm.Cond.selects "BareThursdayModel" ({ cls := "BareThursdayModel", name := "seed", desc := "(I)I" } : Jvm.MethodName) ({ cls := "BareThursdayModel", name := "seed", desc := "(I)I" } : Jvm.MethodName)) ∈ wA := kA5 (i := 94) rfl rfl
theorem k5_95 : (Jvm.Cond.code ({ cls := "BareThursdayModel", name := "seed", desc := "(I)I" } : Jvm.MethodName) prog_7_method_73_code (3 : Nat) (Option.some Jvm.ClassFile.FieldType.int)) ∈ wA := kA5 (i := 95) rfl rfl
theorem k5_96 : (Jvm.Cond.methodLink "BareThursdayLaw" (117 : Nat) ({ cls := "BareThursdayModel", name := "feed", desc := "(II)I" } : Jvm.MethodName)) ∈ wA := kA5 (i := 96) rfl rfl
theorem k5_97 : (Jvm.Cond.instanceMethod ({ cls := "BareThursdayModel", name := "feed", desc := "(II)I" } : Jvm.MethodName)) ∈ wA := kA5 (i := 97) rfl rfl
theorem k5_98 : (Jvm.Cond.selects "BareThursdayModel" ({ cls := "BareThursdayModel", name := "feed", desc := "(II)I" } : Jvm.MethodName) ({ cls := "BareThursdayModel", name := "feed", desc := "(II)I" } : Jvm.MethodName)) ∈ wA := kA5 (i := 98) rfl rfl
theorem k5_99 : (Jvm.Cond.code ({ cls := "BareThursdayModel", name := "feed", desc := "(II)I" } : Jvm.MethodName) prog_7_method_74_code (4 : Nat) (Option.some Jvm.ClassFile.FieldType.int)) ∈ wA := kA5 (i := 99) rfl rfl
theorem k5_100 : (Jvm.Cond.methodLink "BareThursdayLaw" (121 : Nat) ({ cls := "BareThursdayModel", name := "wipe", desc := "()I" } : Jvm.MethodName)) ∈ wA := kA5 (i := 100) rfl rfl
theorem k5_101 : (Jvm.Cond.instanceMethod ({ cls := "BareThursdayModel", name := "wipe", desc := "()I" } : Jvm.MethodName)) ∈ wA := kA5 (i := 101) rfl rfl
theorem k5_102 : (Jvm.Cond.selects "BareThursdayModel" ({ cls := "BareThursdayModel", name := "wipe", desc := "()I" } : Jvm.MethodName) ({ cls := "BareThursdayModel", name := "wipe", desc := "()I" } : Jvm.MethodName)) ∈ wA := kA5 (i := 102) rfl rfl
theorem k5_103 : (Jvm.Cond.code ({ cls := "BareThursdayModel", name := "wipe", desc := "()I" } : Jvm.MethodName) prog_7_method_75_code (2 : Nat) (Option.some Jvm.ClassFile.FieldType.int)) ∈ wA := kA5 (i := 103) rfl rfl
theorem k5_104 : (Jvm.Cond.methodLink "BareThursdayLaw" (125 : Nat) ({ cls := "BareThursdayModel", name := "text", desc := "()I" } : Jvm.MethodName)) ∈ wA := kA5 (i := 104) rfl rfl
theorem k5_105 : (Jvm.Cond.instanceMethod ({ cls := "BareThursdayModel", name := "text", desc := "()I" } : Jvm.MethodName)) ∈ wA := kA5 (i := 105) rfl rfl
theorem k5_106 : (Jvm.Cond.selects "BareThursdayModel" ({ cls := "BareThursdayModel", name := "text", desc := "()I" } : Jvm.MethodName) ({ cls := "BareThursdayModel", name := "text", desc := "()I" } : Jvm.MethodName)) ∈ wA := kA5 (i := 106) rfl rfl
theorem k5_107 : (Jvm.Cond.code ({ cls := "BareThursdayModel", name := "text", desc := "()I" } : Jvm.MethodName) prog_7_method_84_code (3 : Nat) (Option.some Jvm.ClassFile.FieldType.int)) ∈ wA := kA5 (i := 107) rfl rfl
theorem k5_108 : (Jvm.Cond.methodLink "BareThursdayModel" (244 : Nat) ({ cls := "BareThursdayModel", name := "nextToken", desc := "()V" } : Jvm.MethodName)) ∈ wA := kA5 (i := 108) rfl rfl
theorem k5_110 : (Jvm.Cond.instanceMethod ({ cls := "BareThursdayModel", name := "nextToken", desc := "()V" } : Jvm.MethodName)) ∈ wA := kA5 (i := 110) rfl rfl
theorem k5_111 : (Jvm.Cond.code ({ cls := "BareThursdayModel", name := "nextToken", desc := "()V" } : Jvm.MethodName) prog_7_method_78_code (1 : Nat) (Option.none : Option Jvm.ClassFile.FieldType)) ∈ wA := kA5 (i := 111) rfl rfl
theorem k5_112 : (Jvm.Cond.methodLink "BareThursdayModel" (226 : Nat) ({ cls := "BareThursdayModel", name := "isLetter", desc := "(I)Z" } : Jvm.MethodName)) ∈ wA := kA5 (i := 112) rfl rfl
theorem k5_113 : (Jvm.Cond.static ({ cls := "BareThursdayModel", name := "isLetter", desc := "(I)Z" } : Jvm.MethodName)) ∈ wA := kA5 (i := 113) rfl rfl
theorem k5_114 : (Jvm.Cond.code ({ cls := "BareThursdayModel", name := "isLetter", desc := "(I)Z" } : Jvm.MethodName) prog_7_method_76_code (1 : Nat) (Option.some Jvm.ClassFile.FieldType.boolean)) ∈ wA := kA5 (i := 114) rfl rfl
theorem k5_115 : (Jvm.Cond.constantLong "BareThursdayModel" (229 : Nat) (9999999999999 : Int64)) ∈ wA := kA5 (i := 115) rfl rfl
theorem k5_116 : (Jvm.Cond.constantLong "BareThursdayModel" (231 : Nat) (27 : Int64)) ∈ wA := kA5 (i := 116) rfl rfl
theorem k5_117 : (Jvm.Cond.constantLong "BareThursdayModel" (233 : Nat) (96 : Int64)) ∈ wA := kA5 (i := 117) rfl rfl
theorem k5_118 : (Jvm.Cond.methodLink "BareThursdayModel" (235 : Nat) ({ cls := "BareThursdayModel", name := "isDigit", desc := "(I)Z" } : Jvm.MethodName)) ∈ wA := kA5 (i := 118) rfl rfl
theorem k5_119 : (Jvm.Cond.static ({ cls := "BareThursdayModel", name := "isDigit", desc := "(I)Z" } : Jvm.MethodName)) ∈ wA := kA5 (i := 119) rfl rfl
theorem k5_120 : (Jvm.Cond.code ({ cls := "BareThursdayModel", name := "isDigit", desc := "(I)Z" } : Jvm.MethodName) prog_7_method_77_code (1 : Nat) (Option.some Jvm.ClassFile.FieldType.boolean)) ∈ wA := kA5 (i := 120) rfl rfl
theorem k5_121 : (Jvm.Cond.constantLong "BareThursdayModel" (238 : Nat) (999 : Int64)) ∈ wA := kA5 (i := 121) rfl rfl
theorem k5_122 : (Jvm.Cond.constantLong "BareThursdayModel" (240 : Nat) (10 : Int64)) ∈ wA := kA5 (i := 122) rfl rfl
theorem k5_123 : (Jvm.Cond.constantLong "BareThursdayModel" (242 : Nat) (48 : Int64)) ∈ wA := kA5 (i := 123) rfl rfl
theorem k5_124 : (Jvm.Cond.methodLink "BareThursdayModel" (260 : Nat) ({ cls := "BareThursdayModel", name := "readsItem", desc := "()Z" } : Jvm.MethodName)) ∈ wA := kA5 (i := 124) rfl rfl
theorem k5_126 : (Jvm.Cond.instanceMethod ({ cls := "BareThursdayModel", name := "readsItem", desc := "()Z" } : Jvm.MethodName)) ∈ wA := kA5 (i := 126) rfl rfl
theorem k5_127 : (Jvm.Cond.code ({ cls := "BareThursdayModel", name := "readsItem", desc := "()Z" } : Jvm.MethodName) prog_7_method_83_code (4 : Nat) (Option.some Jvm.ClassFile.FieldType.boolean)) ∈ wA := kA5 (i := 127) rfl rfl
theorem k5_128 : (Jvm.Cond.methodLink "BareThursdayModel" (247 : Nat) ({ cls := "BareThursdayModel", name := "wordOf", desc := "([C)I" } : Jvm.MethodName)) ∈ wA := kA5 (i := 128) rfl rfl
theorem k5_130 : (Jvm.Cond.instanceMethod ({ cls := "BareThursdayModel", name := "wordOf", desc := "([C)I" } : Jvm.MethodName)) ∈ wA := kA5 (i := 130) rfl rfl
theorem k5_131 : (Jvm.Cond.code ({ cls := "BareThursdayModel", name := "wordOf", desc := "([C)I" } : Jvm.MethodName) prog_7_method_79_code (7 : Nat) (Option.some Jvm.ClassFile.FieldType.int)) ∈ wA := kA5 (i := 131) rfl rfl
theorem k5_132 : (Jvm.Cond.methodLink "BareThursdayModel" (254 : Nat) ({ cls := "BareThursdayModel", name := "readsPerson", desc := "(I)Z" } : Jvm.MethodName)) ∈ wA := kA5 (i := 132) rfl rfl
theorem k5_134 : (Jvm.Cond.instanceMethod ({ cls := "BareThursdayModel", name := "readsPerson", desc := "(I)Z" } : Jvm.MethodName)) ∈ wA := kA5 (i := 134) rfl rfl
theorem k5_135 : (Jvm.Cond.code ({ cls := "BareThursdayModel", name := "readsPerson", desc := "(I)Z" } : Jvm.MethodName) prog_7_method_81_code (5 : Nat) (Option.some Jvm.ClassFile.FieldType.boolean)) ∈ wA := kA5 (i := 135) rfl rfl
theorem k5_136 : (Jvm.Cond.methodLink "BareThursdayModel" (251 : Nat) ({ cls := "BareThursdayModel", name := "takesNumber", desc := "(II)I" } : Jvm.MethodName)) ∈ wA := kA5 (i := 136) rfl rfl
theorem k5_138 : (Jvm.Cond.instanceMethod ({ cls := "BareThursdayModel", name := "takesNumber", desc := "(II)I" } : Jvm.MethodName)) ∈ wA := kA5 (i := 138) rfl rfl
theorem k5_139 : (Jvm.Cond.code ({ cls := "BareThursdayModel", name := "takesNumber", desc := "(II)I" } : Jvm.MethodName) prog_7_method_80_code (4 : Nat) (Option.some Jvm.ClassFile.FieldType.int)) ∈ wA := kA5 (i := 139) rfl rfl
theorem k5_140 : (Jvm.Cond.methodLink "BareThursdayModel" (257 : Nat) ({ cls := "BareThursdayModel", name := "readsMet", desc := "()Z" } : Jvm.MethodName)) ∈ wA := kA5 (i := 140) rfl rfl
theorem k5_142 : (Jvm.Cond.instanceMethod ({ cls := "BareThursdayModel", name := "readsMet", desc := "()Z" } : Jvm.MethodName)) ∈ wA := kA5 (i := 142) rfl rfl
theorem k5_143 : (Jvm.Cond.code ({ cls := "BareThursdayModel", name := "readsMet", desc := "()Z" } : Jvm.MethodName) prog_7_method_82_code (3 : Nat) (Option.some Jvm.ClassFile.FieldType.boolean)) ∈ wA := kA5 (i := 143) rfl rfl
theorem k5_144 : (Jvm.Cond.methodLink "BareThursdayLaw" (129 : Nat) ({ cls := "BareThursdayModel", name := "hold", desc := "(II)I" } : Jvm.MethodName)) ∈ wA := kA5 (i := 144) rfl rfl
theorem k5_145 : (Jvm.Cond.instanceMethod ({ cls := "BareThursdayModel", name := "hold", desc := "(II)I" } : Jvm.MethodName)) ∈ wA := kA5 (i := 145) rfl rfl
theorem k5_146 : (Jvm.Cond.selects "BareThursdayModel" ({ cls := "BareThursdayModel", name := "hold", desc := "(II)I" } : Jvm.MethodName) ({ cls := "BareThursdayModel", name := "hold", desc := "(II)I" } : Jvm.MethodName)) ∈ wA := kA5 (i := 146) rfl rfl
theorem k5_147 : (Jvm.Cond.code ({ cls := "BareThursdayModel", name := "hold", desc := "(II)I" } : Jvm.MethodName) prog_7_method_86_code (3 : Nat) (Option.some Jvm.ClassFile.FieldType.int)) ∈ wA := kA5 (i := 147) rfl rfl
theorem k5_148 : (Jvm.Cond.methodLink "BareThursdayModel" (263 : Nat) ({ cls := "BareThursdayModel", name := "isSpot", desc := "(I)Z" } : Jvm.MethodName)) ∈ wA := kA5 (i := 148) rfl rfl
theorem k5_149 : (Jvm.Cond.static ({ cls := "BareThursdayModel", name := "isSpot", desc := "(I)Z" } : Jvm.MethodName)) ∈ wA := kA5 (i := 149) rfl rfl
theorem k5_150 : (Jvm.Cond.code ({ cls := "BareThursdayModel", name := "isSpot", desc := "(I)Z" } : Jvm.MethodName) prog_7_method_85_code (1 : Nat) (Option.some Jvm.ClassFile.FieldType.boolean)) ∈ wA := kA5 (i := 150) rfl rfl
theorem k5_151 : (Jvm.Cond.methodLink "BareThursdayLaw" (133 : Nat) ({ cls := "BareThursdayModel", name := "as", desc := "(II)I" } : Jvm.MethodName)) ∈ wA := kA5 (i := 151) rfl rfl
theorem k5_152 : (Jvm.Cond.instanceMethod ({ cls := "BareThursdayModel", name := "as", desc := "(II)I" } : Jvm.MethodName)) ∈ wA := kA5 (i := 152) rfl rfl
theorem k5_153 : (Jvm.Cond.selects "BareThursdayModel" ({ cls := "BareThursdayModel", name := "as", desc := "(II)I" } : Jvm.MethodName) ({ cls := "BareThursdayModel", name := "as", desc := "(II)I" } : Jvm.MethodName)) ∈ wA := kA5 (i := 153) rfl rfl
theorem k5_154 : (Jvm.Cond.code ({ cls := "BareThursdayModel", name := "as", desc := "(II)I" } : Jvm.MethodName) prog_7_method_88_code (5 : Nat) (Option.some Jvm.ClassFile.FieldType.int)) ∈ wA := kA5 (i := 154) rfl rfl
theorem k5_155 : (Jvm.Cond.methodLink "BareThursdayModel" (266 : Nat) ({ cls := "BareThursdayModel", name := "above", desc := "(I)I" } : Jvm.MethodName)) ∈ wA := kA5 (i := 155) rfl rfl
theorem k5_156 : (Jvm.Cond.static ({ cls := "BareThursdayModel", name := "above", desc := "(I)I" } : Jvm.MethodName)) ∈ wA := kA5 (i := 156) rfl rfl
theorem k5_157 : (Jvm.Cond.code ({ cls := "BareThursdayModel", name := "above", desc := "(I)I" } : Jvm.MethodName) prog_7_method_87_code (1 : Nat) (Option.some Jvm.ClassFile.FieldType.int)) ∈ wA := kA5 (i := 157) rfl rfl
theorem k5_158 : (Jvm.Cond.methodLink "BareThursdayLaw" (137 : Nat) ({ cls := "BareThursdayModel", name := "sheet", desc := "(III)I" } : Jvm.MethodName)) ∈ wA := kA5 (i := 158) rfl rfl
theorem k5_159 : (Jvm.Cond.instanceMethod ({ cls := "BareThursdayModel", name := "sheet", desc := "(III)I" } : Jvm.MethodName)) ∈ wA := kA5 (i := 159) rfl rfl
theorem k5_160 : (Jvm.Cond.selects "BareThursdayModel" ({ cls := "BareThursdayModel", name := "sheet", desc := "(III)I" } : Jvm.MethodName) ({ cls := "BareThursdayModel", name := "sheet", desc := "(III)I" } : Jvm.MethodName)) ∈ wA := kA5 (i := 160) rfl rfl
theorem k5_161 : (Jvm.Cond.code ({ cls := "BareThursdayModel", name := "sheet", desc := "(III)I" } : Jvm.MethodName) prog_7_method_89_code (5 : Nat) (Option.some Jvm.ClassFile.FieldType.int)) ∈ wA := kA5 (i := 161) rfl rfl
theorem k5_162 : (Jvm.Cond.methodLink "BareThursdayLaw" (141 : Nat) ({ cls := "BareThursdayModel", name := "write", desc := "(III)I" } : Jvm.MethodName)) ∈ wA := kA5 (i := 162) rfl rfl
theorem k5_163 : (Jvm.Cond.instanceMethod ({ cls := "BareThursdayModel", name := "write", desc := "(III)I" } : Jvm.MethodName)) ∈ wA := kA5 (i := 163) rfl rfl
theorem k5_164 : (Jvm.Cond.selects "BareThursdayModel" ({ cls := "BareThursdayModel", name := "write", desc := "(III)I" } : Jvm.MethodName) ({ cls := "BareThursdayModel", name := "write", desc := "(III)I" } : Jvm.MethodName)) ∈ wA := kA5 (i := 164) rfl rfl
theorem k5_165 : (Jvm.Cond.code ({ cls := "BareThursdayModel", name := "write", desc := "(III)I" } : Jvm.MethodName) prog_7_method_90_code (5 : Nat) (Option.some Jvm.ClassFile.FieldType.int)) ∈ wA := kA5 (i := 165) rfl rfl
theorem k5_166 : (Jvm.Cond.methodLink "BareThursdayLaw" (146 : Nat) ({ cls := "BareThursdayModel", name := "copy", desc := "(IIIII)I" } : Jvm.MethodName)) ∈ wA := kA5 (i := 166) rfl rfl
theorem k5_167 : (Jvm.Cond.instanceMethod ({ cls := "BareThursdayModel", name := "copy", desc := "(IIIII)I" } : Jvm.MethodName)) ∈ wA := kA5 (i := 167) rfl rfl
theorem k5_168 : (Jvm.Cond.selects "BareThursdayModel" ({ cls := "BareThursdayModel", name := "copy", desc := "(IIIII)I" } : Jvm.MethodName) ({ cls := "BareThursdayModel", name := "copy", desc := "(IIIII)I" } : Jvm.MethodName)) ∈ wA := kA5 (i := 168) rfl rfl
theorem k5_169 : (Jvm.Cond.code ({ cls := "BareThursdayModel", name := "copy", desc := "(IIIII)I" } : Jvm.MethodName) prog_7_method_91_code (7 : Nat) (Option.some Jvm.ClassFile.FieldType.int)) ∈ wA := kA5 (i := 169) rfl rfl
theorem k5_170 : (Jvm.Cond.methodLink "BareThursdayLaw" (150 : Nat) ({ cls := "BareThursdayModel", name := "load", desc := "(I)I" } : Jvm.MethodName)) ∈ wA := kA5 (i := 170) rfl rfl
theorem k5_171 : (Jvm.Cond.instanceMethod ({ cls := "BareThursdayModel", name := "load", desc := "(I)I" } : Jvm.MethodName)) ∈ wA := kA5 (i := 171) rfl rfl
theorem k5_172 : (Jvm.Cond.selects "BareThursdayModel" ({ cls := "BareThursdayModel", name := "load", desc := "(I)I" } : Jvm.MethodName) ({ cls := "BareThursdayModel", name := "load", desc := "(I)I" } : Jvm.MethodName)) ∈ wA := kA5 (i := 172) rfl rfl
theorem k5_173 : (Jvm.Cond.code ({ cls := "BareThursdayModel", name := "load", desc := "(I)I" } : Jvm.MethodName) prog_7_method_92_code (4 : Nat) (Option.some Jvm.ClassFile.FieldType.int)) ∈ wA := kA5 (i := 173) rfl rfl
theorem k5_174 : (Jvm.Cond.methodLink "BareThursdayLaw" (154 : Nat) ({ cls := "BareThursdayModel", name := "judge", desc := "(I)I" } : Jvm.MethodName)) ∈ wA := kA5 (i := 174) rfl rfl
theorem k5_175 : (Jvm.Cond.instanceMethod ({ cls := "BareThursdayModel", name := "judge", desc := "(I)I" } : Jvm.MethodName)) ∈ wA := kA5 (i := 175) rfl rfl
theorem k5_176 : (Jvm.Cond.selects "BareThursdayModel" ({ cls := "BareThursdayModel", name := "judge", desc := "(I)I" } : Jvm.MethodName) ({ cls := "BareThursdayModel", name := "judge", desc := "(I)I" } : Jvm.MethodName)) ∈ wA := kA5 (i := 176) rfl rfl
theorem k5_177 : (Jvm.Cond.code ({ cls := "BareThursdayModel", name := "judge", desc := "(I)I" } : Jvm.MethodName) prog_7_method_93_code (4 : Nat) (Option.some Jvm.ClassFile.FieldType.int)) ∈ wA := kA5 (i := 177) rfl rfl
theorem k5_178 : (Jvm.Cond.methodLink "BareThursdayLaw" (158 : Nat) ({ cls := "BareThursdayModel", name := "image", desc := "()I" } : Jvm.MethodName)) ∈ wA := kA5 (i := 178) rfl rfl
theorem k5_179 : (Jvm.Cond.instanceMethod ({ cls := "BareThursdayModel", name := "image", desc := "()I" } : Jvm.MethodName)) ∈ wA := kA5 (i := 179) rfl rfl
theorem k5_180 : (Jvm.Cond.selects "BareThursdayModel" ({ cls := "BareThursdayModel", name := "image", desc := "()I" } : Jvm.MethodName) ({ cls := "BareThursdayModel", name := "image", desc := "()I" } : Jvm.MethodName)) ∈ wA := kA5 (i := 180) rfl rfl
theorem k5_181 : (Jvm.Cond.code ({ cls := "BareThursdayModel", name := "image", desc := "()I" } : Jvm.MethodName) prog_7_method_94_code (2 : Nat) (Option.some Jvm.ClassFile.FieldType.int)) ∈ wA := kA5 (i := 181) rfl rfl
theorem k5_182 : (Jvm.Cond.methodLink "BareThursdayLaw" (162 : Nat) ({ cls := "BareThursdayModel", name := "undo", desc := "()I" } : Jvm.MethodName)) ∈ wA := kA5 (i := 182) rfl rfl
theorem k5_183 : (Jvm.Cond.instanceMethod ({ cls := "BareThursdayModel", name := "undo", desc := "()I" } : Jvm.MethodName)) ∈ wA := kA5 (i := 183) rfl rfl
theorem k5_184 : (Jvm.Cond.selects "BareThursdayModel" ({ cls := "BareThursdayModel", name := "undo", desc := "()I" } : Jvm.MethodName) ({ cls := "BareThursdayModel", name := "undo", desc := "()I" } : Jvm.MethodName)) ∈ wA := kA5 (i := 184) rfl rfl
theorem k5_185 : (Jvm.Cond.code ({ cls := "BareThursdayModel", name := "undo", desc := "()I" } : Jvm.MethodName) prog_7_method_95_code (2 : Nat) (Option.some Jvm.ClassFile.FieldType.int)) ∈ wA := kA5 (i := 185) rfl rfl
theorem k5_186 : (Jvm.Cond.methodLink "BareThursdayLaw" (166 : Nat) ({ cls := "BareThursdayModel", name := "tear", desc := "()I" } : Jvm.MethodName)) ∈ wA := kA5 (i := 186) rfl rfl
theorem k5_187 : (Jvm.Cond.instanceMethod ({ cls := "BareThursdayModel", name := "tear", desc := "()I" } : Jvm.MethodName)) ∈ wA := kA5 (i := 187) rfl rfl
theorem k5_188 : (Jvm.Cond.selects "BareThursdayModel" ({ cls := "BareThursdayModel", name := "tear", desc := "()I" } : Jvm.MethodName) ({ cls := "BareThursdayModel", name := "tear", desc := "()I" } : Jvm.MethodName)) ∈ wA := kA5 (i := 188) rfl rfl
theorem k5_189 : (Jvm.Cond.code ({ cls := "BareThursdayModel", name := "tear", desc := "()I" } : Jvm.MethodName) prog_7_method_96_code (2 : Nat) (Option.some Jvm.ClassFile.FieldType.int)) ∈ wA := kA5 (i := 189) rfl rfl
theorem k5_190 : (Jvm.Cond.methodLink "BareThursdayLaw" (170 : Nat) ({ cls := "BareThursdayModel", name := "count", desc := "(I)I" } : Jvm.MethodName)) ∈ wA := kA5 (i := 190) rfl rfl
theorem k5_191 : (Jvm.Cond.instanceMethod ({ cls := "BareThursdayModel", name := "count", desc := "(I)I" } : Jvm.MethodName)) ∈ wA := kA5 (i := 191) rfl rfl
theorem k5_192 : (Jvm.Cond.selects "BareThursdayModel" ({ cls := "BareThursdayModel", name := "count", desc := "(I)I" } : Jvm.MethodName) ({ cls := "BareThursdayModel", name := "count", desc := "(I)I" } : Jvm.MethodName)) ∈ wA := kA5 (i := 192) rfl rfl
theorem k5_193 : (Jvm.Cond.code ({ cls := "BareThursdayModel", name := "count", desc := "(I)I" } : Jvm.MethodName) prog_7_method_97_code (4 : Nat) (Option.some Jvm.ClassFile.FieldType.int)) ∈ wA := kA5 (i := 193) rfl rfl
theorem k5_194 : (Jvm.Cond.methodLink "BareThursdayLaw" (174 : Nat) ({ cls := "BareThursdayModel", name := "status", desc := "(I)I" } : Jvm.MethodName)) ∈ wA := kA5 (i := 194) rfl rfl
theorem k5_195 : (Jvm.Cond.instanceMethod ({ cls := "BareThursdayModel", name := "status", desc := "(I)I" } : Jvm.MethodName)) ∈ wA := kA5 (i := 195) rfl rfl
theorem k5_196 : (Jvm.Cond.selects "BareThursdayModel" ({ cls := "BareThursdayModel", name := "status", desc := "(I)I" } : Jvm.MethodName) ({ cls := "BareThursdayModel", name := "status", desc := "(I)I" } : Jvm.MethodName)) ∈ wA := kA5 (i := 196) rfl rfl
theorem k5_197 : (Jvm.Cond.code ({ cls := "BareThursdayModel", name := "status", desc := "(I)I" } : Jvm.MethodName) prog_7_method_98_code (4 : Nat) (Option.some Jvm.ClassFile.FieldType.int)) ∈ wA := kA5 (i := 197) rfl rfl
theorem k5_198 : (Jvm.Cond.fieldLink "java/lang/String" (9 : Nat) "java/lang/String" "value" "[B") ∈ wA := kA5 (i := 198) rfl rfl
theorem k5_199 : (Jvm.Cond.fieldLink "java/lang/String" (15 : Nat) "java/lang/String" "coder" "B") ∈ wA := kA5 (i := 199) rfl rfl
theorem k0_0 : (Jvm.Cond.selects "BareThursday" ({ cls := "BareThursday", name := "finding", desc := "(I)I" } : Jvm.MethodName) ({ cls := "BareThursday", name := "finding", desc := "(I)I" } : Jvm.MethodName)) ∈ wA := kA0 (i := 0) rfl rfl
theorem k0_1 : (Jvm.Cond.selects "BareThursday$Town" ({ cls := "BareThursday$Town", name := "isSetOfOthers", desc := "(II)Z" } : Jvm.MethodName) ({ cls := "BareThursday$Town", name := "isSetOfOthers", desc := "(II)Z" } : Jvm.MethodName)) ∈ wA := kA0 (i := 1) rfl rfl
theorem k0_2 : (Jvm.Cond.selects "BareThursday$Town" ({ cls := "BareThursday$Town", name := "seeEachOther", desc := "(II)V" } : Jvm.MethodName) ({ cls := "BareThursday$Town", name := "seeEachOther", desc := "(II)V" } : Jvm.MethodName)) ∈ wA := kA0 (i := 2) rfl rfl
theorem k0_3 : (Jvm.Cond.selects "BareThursday$Town" ({ cls := "BareThursday$Town", name := "comeToKnow", desc := "(II)V" } : Jvm.MethodName) ({ cls := "BareThursday$Town", name := "comeToKnow", desc := "(II)V" } : Jvm.MethodName)) ∈ wA := kA0 (i := 3) rfl rfl
theorem k0_4 : (Jvm.Cond.selects "BareThursday$Town" ({ cls := "BareThursday$Town", name := "goBy", desc := "(I)V" } : Jvm.MethodName) ({ cls := "BareThursday$Town", name := "goBy", desc := "(I)V" } : Jvm.MethodName)) ∈ wA := kA0 (i := 4) rfl rfl
theorem k0_5 : (Jvm.Cond.selects "BareThursday$Town" ({ cls := "BareThursday$Town", name := "mingle", desc := "(II)V" } : Jvm.MethodName) ({ cls := "BareThursday$Town", name := "mingle", desc := "(II)V" } : Jvm.MethodName)) ∈ wA := kA0 (i := 5) rfl rfl
theorem k0_6 : (Jvm.Cond.selects "BareThursday$Town" ({ cls := "BareThursday$Town", name := "mutualPairs", desc := "([I)I" } : Jvm.MethodName) ({ cls := "BareThursday$Town", name := "mutualPairs", desc := "([I)I" } : Jvm.MethodName)) ∈ wA := kA0 (i := 6) rfl rfl
theorem k0_7 : (Jvm.Cond.selects "BareThursday" ({ cls := "BareThursday", name := "mostJoyous", desc := "(IIII)I" } : Jvm.MethodName) ({ cls := "BareThursday", name := "mostJoyous", desc := "(IIII)I" } : Jvm.MethodName)) ∈ wA := kA0 (i := 7) rfl rfl
theorem k0_8 : (Jvm.Cond.selects "BareThursday" ({ cls := "BareThursday", name := "staysJoyless", desc := "(II)Z" } : Jvm.MethodName) ({ cls := "BareThursday", name := "staysJoyless", desc := "(II)Z" } : Jvm.MethodName)) ∈ wA := kA0 (i := 8) rfl rfl
theorem k0_9 : (Jvm.Cond.selects "BareThursday" ({ cls := "BareThursday", name := "fitting", desc := "(IIII)I" } : Jvm.MethodName) ({ cls := "BareThursday", name := "fitting", desc := "(IIII)I" } : Jvm.MethodName)) ∈ wA := kA0 (i := 9) rfl rfl
theorem k0_10 : (Jvm.Cond.selects "BareThursday" ({ cls := "BareThursday", name := "meetsAsTold", desc := "(II)Z" } : Jvm.MethodName) ({ cls := "BareThursday", name := "meetsAsTold", desc := "(II)Z" } : Jvm.MethodName)) ∈ wA := kA0 (i := 10) rfl rfl
theorem k0_11 : (Jvm.Cond.selects "BareThursday$Tape" ({ cls := "BareThursday$Tape", name := "nextToken", desc := "()V" } : Jvm.MethodName) ({ cls := "BareThursday$Tape", name := "nextToken", desc := "()V" } : Jvm.MethodName)) ∈ wA := kA0 (i := 11) rfl rfl
theorem k0_12 : (Jvm.Cond.selects "BareThursday$Tape" ({ cls := "BareThursday$Tape", name := "passWord", desc := "()V" } : Jvm.MethodName) ({ cls := "BareThursday$Tape", name := "passWord", desc := "()V" } : Jvm.MethodName)) ∈ wA := kA0 (i := 12) rfl rfl
theorem k0_13 : (Jvm.Cond.selects "BareThursday$Tape" ({ cls := "BareThursday$Tape", name := "passNumber", desc := "()V" } : Jvm.MethodName) ({ cls := "BareThursday$Tape", name := "passNumber", desc := "()V" } : Jvm.MethodName)) ∈ wA := kA0 (i := 13) rfl rfl
theorem k0_14 : (Jvm.Cond.selects "BareThursday$Tape" ({ cls := "BareThursday$Tape", name := "readItem", desc := "(LBareThursday$Town;)Z" } : Jvm.MethodName) ({ cls := "BareThursday$Tape", name := "readItem", desc := "(LBareThursday$Town;)Z" } : Jvm.MethodName)) ∈ wA := kA0 (i := 14) rfl rfl
theorem k0_15 : (Jvm.Cond.selects "BareThursday$Tape" ({ cls := "BareThursday$Tape", name := "kindOfWord", desc := "()I" } : Jvm.MethodName) ({ cls := "BareThursday$Tape", name := "kindOfWord", desc := "()I" } : Jvm.MethodName)) ∈ wA := kA0 (i := 15) rfl rfl
theorem k0_16 : (Jvm.Cond.selects "BareThursday$Tape" ({ cls := "BareThursday$Tape", name := "isWord", desc := "(Ljava/lang/String;)Z" } : Jvm.MethodName) ({ cls := "BareThursday$Tape", name := "isWord", desc := "(Ljava/lang/String;)Z" } : Jvm.MethodName)) ∈ wA := kA0 (i := 16) rfl rfl
theorem k0_17 : (Jvm.Cond.selects "BareThursday$Tape" ({ cls := "BareThursday$Tape", name := "readOne", desc := "(ILBareThursday$Town;)Z" } : Jvm.MethodName) ({ cls := "BareThursday$Tape", name := "readOne", desc := "(ILBareThursday$Town;)Z" } : Jvm.MethodName)) ∈ wA := kA0 (i := 17) rfl rfl
theorem k0_18 : (Jvm.Cond.selects "BareThursday$Tape" ({ cls := "BareThursday$Tape", name := "isNumberBelow", desc := "(I)Z" } : Jvm.MethodName) ({ cls := "BareThursday$Tape", name := "isNumberBelow", desc := "(I)Z" } : Jvm.MethodName)) ∈ wA := kA0 (i := 18) rfl rfl
theorem k0_19 : (Jvm.Cond.selects "BareThursday$Tape" ({ cls := "BareThursday$Tape", name := "readMet", desc := "(LBareThursday$Town;)Z" } : Jvm.MethodName) ({ cls := "BareThursday$Tape", name := "readMet", desc := "(LBareThursday$Town;)Z" } : Jvm.MethodName)) ∈ wA := kA0 (i := 19) rfl rfl
theorem k0_20 : (Jvm.Cond.selects "BareThursday$Tape" ({ cls := "BareThursday$Tape", name := "readBell", desc := "(LBareThursday$Town;)Z" } : Jvm.MethodName) ({ cls := "BareThursday$Tape", name := "readBell", desc := "(LBareThursday$Town;)Z" } : Jvm.MethodName)) ∈ wA := kA0 (i := 20) rfl rfl
theorem k0_21 : (Jvm.Cond.selects "BareThursdayModel" ({ cls := "BareThursdayModel", name := "no", desc := "(I)I" } : Jvm.MethodName) ({ cls := "BareThursdayModel", name := "no", desc := "(I)I" } : Jvm.MethodName)) ∈ wA := kA0 (i := 21) rfl rfl
theorem k0_22 : (Jvm.Cond.selects "BareThursdayModel" ({ cls := "BareThursdayModel", name := "adds", desc := "(I)V" } : Jvm.MethodName) ({ cls := "BareThursdayModel", name := "adds", desc := "(I)V" } : Jvm.MethodName)) ∈ wA := kA0 (i := 22) rfl rfl
theorem k0_23 : (Jvm.Cond.selects "BareThursdayModel" ({ cls := "BareThursdayModel", name := "puts", desc := "(III)V" } : Jvm.MethodName) ({ cls := "BareThursdayModel", name := "puts", desc := "(III)V" } : Jvm.MethodName)) ∈ wA := kA0 (i := 23) rfl rfl
theorem k0_24 : (Jvm.Cond.selects "BareThursdayModel" ({ cls := "BareThursdayModel", name := "isPerson", desc := "(I)Z" } : Jvm.MethodName) ({ cls := "BareThursdayModel", name := "isPerson", desc := "(I)Z" } : Jvm.MethodName)) ∈ wA := kA0 (i := 24) rfl rfl
theorem k0_25 : (Jvm.Cond.selects "BareThursdayModel" ({ cls := "BareThursdayModel", name := "walksOf", desc := "(I)I" } : Jvm.MethodName) ({ cls := "BareThursdayModel", name := "walksOf", desc := "(I)I" } : Jvm.MethodName)) ∈ wA := kA0 (i := 25) rfl rfl
theorem k0_26 : (Jvm.Cond.selects "BareThursdayModel" ({ cls := "BareThursdayModel", name := "get", desc := "(II)I" } : Jvm.MethodName) ({ cls := "BareThursdayModel", name := "get", desc := "(II)I" } : Jvm.MethodName)) ∈ wA := kA0 (i := 26) rfl rfl
theorem k0_27 : (Jvm.Cond.selects "BareThursdayModel" ({ cls := "BareThursdayModel", name := "isBare", desc := "()Z" } : Jvm.MethodName) ({ cls := "BareThursdayModel", name := "isBare", desc := "()Z" } : Jvm.MethodName)) ∈ wA := kA0 (i := 27) rfl rfl
theorem k0_28 : (Jvm.Cond.selects "BareThursdayModel" ({ cls := "BareThursdayModel", name := "shiftsOf", desc := "(I)I" } : Jvm.MethodName) ({ cls := "BareThursdayModel", name := "shiftsOf", desc := "(I)I" } : Jvm.MethodName)) ∈ wA := kA0 (i := 28) rfl rfl
theorem k0_29 : (Jvm.Cond.selects "BareThursdayModel" ({ cls := "BareThursdayModel", name := "shinesOf", desc := "(I)I" } : Jvm.MethodName) ({ cls := "BareThursdayModel", name := "shinesOf", desc := "(I)I" } : Jvm.MethodName)) ∈ wA := kA0 (i := 29) rfl rfl
theorem k0_30 : (Jvm.Cond.selects "BareThursdayModel" ({ cls := "BareThursdayModel", name := "gladdensOf", desc := "(I)I" } : Jvm.MethodName) ({ cls := "BareThursdayModel", name := "gladdensOf", desc := "(I)I" } : Jvm.MethodName)) ∈ wA := kA0 (i := 30) rfl rfl
theorem k0_31 : (Jvm.Cond.selects "BareThursdayModel" ({ cls := "BareThursdayModel", name := "canBe", desc := "(III)Z" } : Jvm.MethodName) ({ cls := "BareThursdayModel", name := "canBe", desc := "(III)Z" } : Jvm.MethodName)) ∈ wA := kA0 (i := 31) rfl rfl
theorem k0_32 : (Jvm.Cond.selects "BareThursdayModel" ({ cls := "BareThursdayModel", name := "mindsOf", desc := "(II)Z" } : Jvm.MethodName) ({ cls := "BareThursdayModel", name := "mindsOf", desc := "(II)Z" } : Jvm.MethodName)) ∈ wA := kA0 (i := 32) rfl rfl
theorem k0_33 : (Jvm.Cond.selects "BareThursdayModel" ({ cls := "BareThursdayModel", name := "areTwo", desc := "(II)Z" } : Jvm.MethodName) ({ cls := "BareThursdayModel", name := "areTwo", desc := "(II)Z" } : Jvm.MethodName)) ∈ wA := kA0 (i := 33) rfl rfl
theorem k0_34 : (Jvm.Cond.selects "BareThursdayModel" ({ cls := "BareThursdayModel", name := "farOf", desc := "(II)I" } : Jvm.MethodName) ({ cls := "BareThursdayModel", name := "farOf", desc := "(II)I" } : Jvm.MethodName)) ∈ wA := kA0 (i := 34) rfl rfl
theorem k0_35 : (Jvm.Cond.selects "BareThursdayModel" ({ cls := "BareThursdayModel", name := "hasMet", desc := "(II)Z" } : Jvm.MethodName) ({ cls := "BareThursdayModel", name := "hasMet", desc := "(II)Z" } : Jvm.MethodName)) ∈ wA := kA0 (i := 35) rfl rfl
theorem k0_36 : (Jvm.Cond.selects "BareThursdayModel" ({ cls := "BareThursdayModel", name := "doesKnow", desc := "(II)Z" } : Jvm.MethodName) ({ cls := "BareThursdayModel", name := "doesKnow", desc := "(II)Z" } : Jvm.MethodName)) ∈ wA := kA0 (i := 36) rfl rfl
theorem k0_37 : (Jvm.Cond.selects "BareThursdayModel" ({ cls := "BareThursdayModel", name := "wouldSee", desc := "(II)Z" } : Jvm.MethodName) ({ cls := "BareThursdayModel", name := "wouldSee", desc := "(II)Z" } : Jvm.MethodName)) ∈ wA := kA0 (i := 37) rfl rfl
theorem k0_38 : (Jvm.Cond.selects "BareThursdayModel" ({ cls := "BareThursdayModel", name := "goes", desc := "(I)V" } : Jvm.MethodName) ({ cls := "BareThursdayModel", name := "goes", desc := "(I)V" } : Jvm.MethodName)) ∈ wA := kA0 (i := 38) rfl rfl
theorem k0_39 : (Jvm.Cond.selects "BareThursdayModel" ({ cls := "BareThursdayModel", name := "day", desc := "()V" } : Jvm.MethodName) ({ cls := "BareThursdayModel", name := "day", desc := "()V" } : Jvm.MethodName)) ∈ wA := kA0 (i := 39) rfl rfl
theorem k0_40 : (Jvm.Cond.selects "BareThursdayModel" ({ cls := "BareThursdayModel", name := "goesOn", desc := "(IZ)V" } : Jvm.MethodName) ({ cls := "BareThursdayModel", name := "goesOn", desc := "(IZ)V" } : Jvm.MethodName)) ∈ wA := kA0 (i := 40) rfl rfl
theorem k0_41 : (Jvm.Cond.selects "BareThursdayModel" ({ cls := "BareThursdayModel", name := "barefaced", desc := "(II)V" } : Jvm.MethodName) ({ cls := "BareThursdayModel", name := "barefaced", desc := "(II)V" } : Jvm.MethodName)) ∈ wA := kA0 (i := 41) rfl rfl
theorem k0_42 : (Jvm.Cond.selects "BareThursdayModel" ({ cls := "BareThursdayModel", name := "comesToKnow", desc := "(II)V" } : Jvm.MethodName) ({ cls := "BareThursdayModel", name := "comesToKnow", desc := "(II)V" } : Jvm.MethodName)) ∈ wA := kA0 (i := 42) rfl rfl
theorem k0_43 : (Jvm.Cond.selects "BareThursdayModel" ({ cls := "BareThursdayModel", name := "passesBy", desc := "(I)V" } : Jvm.MethodName) ({ cls := "BareThursdayModel", name := "passesBy", desc := "(I)V" } : Jvm.MethodName)) ∈ wA := kA0 (i := 43) rfl rfl
theorem k0_44 : (Jvm.Cond.selects "BareThursdayModel" ({ cls := "BareThursdayModel", name := "meets", desc := "(II)V" } : Jvm.MethodName) ({ cls := "BareThursdayModel", name := "meets", desc := "(II)V" } : Jvm.MethodName)) ∈ wA := kA0 (i := 44) rfl rfl
theorem k0_45 : (Jvm.Cond.selects "BareThursdayModel" ({ cls := "BareThursdayModel", name := "whoKnow", desc := "()I" } : Jvm.MethodName) ({ cls := "BareThursdayModel", name := "whoKnow", desc := "()I" } : Jvm.MethodName)) ∈ wA := kA0 (i := 45) rfl rfl
theorem k0_46 : (Jvm.Cond.selects "BareThursdayModel" ({ cls := "BareThursdayModel", name := "pairs", desc := "(I)I" } : Jvm.MethodName) ({ cls := "BareThursdayModel", name := "pairs", desc := "(I)I" } : Jvm.MethodName)) ∈ wA := kA0 (i := 46) rfl rfl
theorem k0_47 : (Jvm.Cond.selects "BareThursdayModel" ({ cls := "BareThursdayModel", name := "worn", desc := "()I" } : Jvm.MethodName) ({ cls := "BareThursdayModel", name := "worn", desc := "()I" } : Jvm.MethodName)) ∈ wA := kA0 (i := 47) rfl rfl
theorem k0_48 : (Jvm.Cond.selects "BareThursdayModel" ({ cls := "BareThursdayModel", name := "passedAll", desc := "()I" } : Jvm.MethodName) ({ cls := "BareThursdayModel", name := "passedAll", desc := "()I" } : Jvm.MethodName)) ∈ wA := kA0 (i := 48) rfl rfl
theorem k0_49 : (Jvm.Cond.selects "BareThursdayModel" ({ cls := "BareThursdayModel", name := "thenAt", desc := "(II)I" } : Jvm.MethodName) ({ cls := "BareThursdayModel", name := "thenAt", desc := "(II)I" } : Jvm.MethodName)) ∈ wA := kA0 (i := 49) rfl rfl
theorem k0_50 : (Jvm.Cond.selects "BareThursdayModel" ({ cls := "BareThursdayModel", name := "setsAside", desc := "()V" } : Jvm.MethodName) ({ cls := "BareThursdayModel", name := "setsAside", desc := "()V" } : Jvm.MethodName)) ∈ wA := kA0 (i := 50) rfl rfl
theorem k0_51 : (Jvm.Cond.selects "BareThursdayModel" ({ cls := "BareThursdayModel", name := "laysBack", desc := "()V" } : Jvm.MethodName) ({ cls := "BareThursdayModel", name := "laysBack", desc := "()V" } : Jvm.MethodName)) ∈ wA := kA0 (i := 51) rfl rfl
theorem k0_52 : (Jvm.Cond.selects "BareThursdayModel" ({ cls := "BareThursdayModel", name := "firstBy", desc := "(III)I" } : Jvm.MethodName) ({ cls := "BareThursdayModel", name := "firstBy", desc := "(III)I" } : Jvm.MethodName)) ∈ wA := kA0 (i := 52) rfl rfl
theorem k0_53 : (Jvm.Cond.selects "BareThursdayModel" ({ cls := "BareThursdayModel", name := "isSo", desc := "(III)Z" } : Jvm.MethodName) ({ cls := "BareThursdayModel", name := "isSo", desc := "(III)Z" } : Jvm.MethodName)) ∈ wA := kA0 (i := 53) rfl rfl
theorem k0_54 : (Jvm.Cond.selects "BareThursdayModel" ({ cls := "BareThursdayModel", name := "isAsked", desc := "(II)Z" } : Jvm.MethodName) ({ cls := "BareThursdayModel", name := "isAsked", desc := "(II)Z" } : Jvm.MethodName)) ∈ wA := kA0 (i := 54) rfl rfl
theorem k0_55 : (Jvm.Cond.selects "BareThursdayModel" ({ cls := "BareThursdayModel", name := "gladdestBy", desc := "(IIII)I" } : Jvm.MethodName) ({ cls := "BareThursdayModel", name := "gladdestBy", desc := "(IIII)I" } : Jvm.MethodName)) ∈ wA := kA0 (i := 55) rfl rfl
theorem k0_56 : (Jvm.Cond.selects "BareThursdayModel" ({ cls := "BareThursdayModel", name := "joyWith", desc := "(II)I" } : Jvm.MethodName) ({ cls := "BareThursdayModel", name := "joyWith", desc := "(II)I" } : Jvm.MethodName)) ∈ wA := kA0 (i := 56) rfl rfl
theorem k0_57 : (Jvm.Cond.selects "BareThursdayModel" ({ cls := "BareThursdayModel", name := "isCircle", desc := "(II)Z" } : Jvm.MethodName) ({ cls := "BareThursdayModel", name := "isCircle", desc := "(II)Z" } : Jvm.MethodName)) ∈ wA := kA0 (i := 57) rfl rfl
theorem k0_58 : (Jvm.Cond.selects "BareThursdayModel" ({ cls := "BareThursdayModel", name := "wrongTold", desc := "(II)I" } : Jvm.MethodName) ({ cls := "BareThursdayModel", name := "wrongTold", desc := "(II)I" } : Jvm.MethodName)) ∈ wA := kA0 (i := 58) rfl rfl
theorem k0_59 : (Jvm.Cond.selects "BareThursdayModel" ({ cls := "BareThursdayModel", name := "wrongSheet", desc := "(I)I" } : Jvm.MethodName) ({ cls := "BareThursdayModel", name := "wrongSheet", desc := "(I)I" } : Jvm.MethodName)) ∈ wA := kA0 (i := 59) rfl rfl
theorem k0_60 : (Jvm.Cond.selects "BareThursdayModel" ({ cls := "BareThursdayModel", name := "allThatFit", desc := "(IIII)I" } : Jvm.MethodName) ({ cls := "BareThursdayModel", name := "allThatFit", desc := "(IIII)I" } : Jvm.MethodName)) ∈ wA := kA0 (i := 60) rfl rfl
theorem k0_61 : (Jvm.Cond.selects "BareThursdayModel" ({ cls := "BareThursdayModel", name := "told", desc := "(II)I" } : Jvm.MethodName) ({ cls := "BareThursdayModel", name := "told", desc := "(II)I" } : Jvm.MethodName)) ∈ wA := kA0 (i := 61) rfl rfl
theorem k0_62 : (Jvm.Cond.selects "BareThursdayModel" ({ cls := "BareThursdayModel", name := "draw", desc := "()I" } : Jvm.MethodName) ({ cls := "BareThursdayModel", name := "draw", desc := "()I" } : Jvm.MethodName)) ∈ wA := kA0 (i := 62) rfl rfl
theorem k0_63 : (Jvm.Cond.selects "BareThursdayModel" ({ cls := "BareThursdayModel", name := "nextToken", desc := "()V" } : Jvm.MethodName) ({ cls := "BareThursdayModel", name := "nextToken", desc := "()V" } : Jvm.MethodName)) ∈ wA := kA0 (i := 63) rfl rfl
theorem k0_64 : (Jvm.Cond.selects "BareThursdayModel" ({ cls := "BareThursdayModel", name := "readsItem", desc := "()Z" } : Jvm.MethodName) ({ cls := "BareThursdayModel", name := "readsItem", desc := "()Z" } : Jvm.MethodName)) ∈ wA := kA0 (i := 64) rfl rfl
theorem k0_65 : (Jvm.Cond.selects "BareThursdayModel" ({ cls := "BareThursdayModel", name := "wordOf", desc := "([C)I" } : Jvm.MethodName) ({ cls := "BareThursdayModel", name := "wordOf", desc := "([C)I" } : Jvm.MethodName)) ∈ wA := kA0 (i := 65) rfl rfl
theorem k0_66 : (Jvm.Cond.selects "BareThursdayModel" ({ cls := "BareThursdayModel", name := "readsPerson", desc := "(I)Z" } : Jvm.MethodName) ({ cls := "BareThursdayModel", name := "readsPerson", desc := "(I)Z" } : Jvm.MethodName)) ∈ wA := kA0 (i := 66) rfl rfl
theorem k0_67 : (Jvm.Cond.selects "BareThursdayModel" ({ cls := "BareThursdayModel", name := "takesNumber", desc := "(II)I" } : Jvm.MethodName) ({ cls := "BareThursdayModel", name := "takesNumber", desc := "(II)I" } : Jvm.MethodName)) ∈ wA := kA0 (i := 67) rfl rfl
theorem k0_68 : (Jvm.Cond.selects "BareThursdayModel" ({ cls := "BareThursdayModel", name := "readsMet", desc := "()Z" } : Jvm.MethodName) ({ cls := "BareThursdayModel", name := "readsMet", desc := "()Z" } : Jvm.MethodName)) ∈ wA := kA0 (i := 68) rfl rfl
theorem inX1 : ∀ w ∈ wsX10, w ∈ wA := by
  intro w hw
  obtain ⟨k, hk, rfl⟩ := List.mem_map.mp hw
  have hk := List.mem_range.mp hk
  by_cases h0 : k = 0
  · subst h0; exact kA1 (i := 110) rfl rfl
  by_cases h1 : k = 1
  · subst h1; exact kA1 (i := 112) rfl rfl
  by_cases h2 : k = 2
  · subst h2; exact kA1 (i := 114) rfl rfl
  omega
theorem inX2 : ∀ w ∈ wsX20, w ∈ wA := by
  intro w hw
  obtain ⟨k, hk, rfl⟩ := List.mem_map.mp hw
  have hk := List.mem_range.mp hk
  by_cases h0 : k = 0
  · subst h0; exact kA1 (i := 88) rfl rfl
  by_cases h1 : k = 1
  · subst h1; exact kA1 (i := 90) rfl rfl
  by_cases h2 : k = 2
  · subst h2; exact kA1 (i := 92) rfl rfl
  by_cases h3 : k = 3
  · subst h3; exact kA1 (i := 94) rfl rfl
  by_cases h4 : k = 4
  · subst h4; exact kA1 (i := 96) rfl rfl
  by_cases h5 : k = 5
  · subst h5; exact kA1 (i := 98) rfl rfl
  omega
theorem inX3 : ∀ w ∈ wsX30, w ∈ wA := by
  intro w hw
  obtain ⟨k, hk, rfl⟩ := List.mem_map.mp hw
  have hk := List.mem_range.mp hk
  by_cases h0 : k = 0
  · subst h0; exact kA1 (i := 50) rfl rfl
  by_cases h1 : k = 1
  · subst h1; exact kA1 (i := 52) rfl rfl
  by_cases h2 : k = 2
  · subst h2; exact kA1 (i := 54) rfl rfl
  by_cases h3 : k = 3
  · subst h3; exact kA1 (i := 56) rfl rfl
  by_cases h4 : k = 4
  · subst h4; exact kA1 (i := 58) rfl rfl
  by_cases h5 : k = 5
  · subst h5; exact kA1 (i := 60) rfl rfl
  by_cases h6 : k = 6
  · subst h6; exact kA1 (i := 62) rfl rfl
  by_cases h7 : k = 7
  · subst h7; exact kA1 (i := 64) rfl rfl
  by_cases h8 : k = 8
  · subst h8; exact kA1 (i := 66) rfl rfl
  by_cases h9 : k = 9
  · subst h9; exact kA1 (i := 68) rfl rfl
  by_cases h10 : k = 10
  · subst h10; exact kA1 (i := 70) rfl rfl
  by_cases h11 : k = 11
  · subst h11; exact kA1 (i := 72) rfl rfl
  omega
theorem inX4 : ∀ w ∈ wsX40, w ∈ wA := by
  intro w hw
  obtain ⟨k, hk, rfl⟩ := List.mem_map.mp hw
  have hk := List.mem_range.mp hk
  by_cases h0 : k = 0
  · subst h0; exact kA1 (i := 124) rfl rfl
  by_cases h1 : k = 1
  · subst h1; exact kA1 (i := 126) rfl rfl
  by_cases h2 : k = 2
  · subst h2; exact kA1 (i := 128) rfl rfl
  by_cases h3 : k = 3
  · subst h3; exact kA1 (i := 130) rfl rfl
  by_cases h4 : k = 4
  · subst h4; exact kA1 (i := 132) rfl rfl
  by_cases h5 : k = 5
  · subst h5; exact kA1 (i := 134) rfl rfl
  by_cases h6 : k = 6
  · subst h6; exact kA1 (i := 136) rfl rfl
  omega
theorem inX5 : ∀ w ∈ wsX50, w ∈ wA := by
  intro w hw
  obtain ⟨k, hk, rfl⟩ := List.mem_map.mp hw
  have hk := List.mem_range.mp hk
  by_cases h0 : k = 0
  · subst h0; exact kA4 (i := 12) rfl rfl
  by_cases h1 : k = 1
  · subst h1; exact kA4 (i := 14) rfl rfl
  by_cases h2 : k = 2
  · subst h2; exact kA4 (i := 16) rfl rfl
  by_cases h3 : k = 3
  · subst h3; exact kA4 (i := 18) rfl rfl
  by_cases h4 : k = 4
  · subst h4; exact kA4 (i := 20) rfl rfl
  by_cases h5 : k = 5
  · subst h5; exact kA4 (i := 22) rfl rfl
  by_cases h6 : k = 6
  · subst h6; exact kA4 (i := 24) rfl rfl
  by_cases h7 : k = 7
  · subst h7; exact kA4 (i := 26) rfl rfl
  by_cases h8 : k = 8
  · subst h8; exact kA4 (i := 28) rfl rfl
  by_cases h9 : k = 9
  · subst h9; exact kA4 (i := 30) rfl rfl
  by_cases h10 : k = 10
  · subst h10; exact kA4 (i := 32) rfl rfl
  by_cases h11 : k = 11
  · subst h11; exact kA4 (i := 34) rfl rfl
  by_cases h12 : k = 12
  · subst h12; exact kA4 (i := 36) rfl rfl
  by_cases h13 : k = 13
  · subst h13; exact kA4 (i := 38) rfl rfl
  by_cases h14 : k = 14
  · subst h14; exact kA4 (i := 40) rfl rfl
  by_cases h15 : k = 15
  · subst h15; exact kA4 (i := 42) rfl rfl
  by_cases h16 : k = 16
  · subst h16; exact kA4 (i := 44) rfl rfl
  by_cases h17 : k = 17
  · subst h17; exact kA4 (i := 46) rfl rfl
  omega
abbrev vwCl : List vw_C := [(RX1, TX1, 3), (RX2, TX2, 6), (RX3, TX3, 12), (RX4, TX4, 7), (RX5, TX5, 18)]
