def RX0 : String := "BestWalks$Acts"
def TX0 : u_T := fun k => match k with
  | _ => ("BestWalks$Acts", "stopped", "Z", false)
def tyX0 : Nat → FieldType := fun k => match k with
  | _ => .boolean
abbrev wsX00 : List Cond := u_ws RX0 TX0 1
theorem nmX0 : ∀ a, a < 1 → ∀ b, b < 1 → a ≠ b → (TX0 a).2.1 ≠ (TX0 b).2.1 := by decide +kernel
theorem tyX0_ok : ∀ k, k < 1 → parseFieldDescriptor (TX0 k).2.2.1 = some (tyX0 k) := by decide +kernel
abbrev cX0_init : ByteArray := prog_2_method_1_code
def yX0_init : MethodName := ⟨RX0, "<init>", "()V"⟩
abbrev cX0_stopped : ByteArray := prog_2_method_2_code
def yX0_stopped : MethodName := ⟨RX0, "stopped", "()Z"⟩
abbrev cX0_fault : ByteArray := prog_2_method_3_code
def yX0_fault : MethodName := ⟨RX0, "fault", "(LBestWalks$Text;)I"⟩
abbrev cX0_perform : ByteArray := prog_2_method_4_code
def yX0_perform : MethodName := ⟨RX0, "perform", "(LBestWalks$Text;LBestWalks$State;)I"⟩
abbrev cX0_performOne : ByteArray := prog_2_method_5_code
def yX0_performOne : MethodName := ⟨RX0, "performOne", "(LBestWalks$Text;ILBestWalks$State;)I"⟩
abbrev cX0_formOf : ByteArray := prog_2_method_6_code
def yX0_formOf : MethodName := ⟨RX0, "formOf", "(C)Ljava/lang/String;"⟩
abbrev cX0_mayStand : ByteArray := prog_2_method_7_code
def yX0_mayStand : MethodName := ⟨RX0, "mayStand", "(CC)Z"⟩
def RX1 : String := "BestWalks$Clues"
def TX1 : u_T := fun k => match k with
  | 0 => ("BestWalks$Clues", "whats", "[I", true)
  | 1 => ("BestWalks$Clues", "values", "[I", true)
  | 2 => ("BestWalks$Clues", "tallies", "[[I", true)
  | _ => ("BestWalks$Clues", "size", "I", false)
def tyX1 : Nat → FieldType := fun k => match k with
  | 0 => .array .int
  | 1 => .array .int
  | 2 => .array (.array .int)
  | _ => .int
abbrev wsX10 : List Cond := u_ws RX1 TX1 4
theorem nmX1 : ∀ a, a < 4 → ∀ b, b < 4 → a ≠ b → (TX1 a).2.1 ≠ (TX1 b).2.1 := by decide +kernel
theorem tyX1_ok : ∀ k, k < 4 → parseFieldDescriptor (TX1 k).2.2.1 = some (tyX1 k) := by decide +kernel
abbrev cX1_init : ByteArray := prog_3_method_1_code
def yX1_init : MethodName := ⟨RX1, "<init>", "()V"⟩
abbrev cX1_size : ByteArray := prog_3_method_2_code
def yX1_size : MethodName := ⟨RX1, "size", "()I"⟩
abbrev cX1_clear : ByteArray := prog_3_method_3_code
def yX1_clear : MethodName := ⟨RX1, "clear", "()V"⟩
abbrev cX1_add : ByteArray := prog_3_method_4_code
def yX1_add : MethodName := ⟨RX1, "add", "(II)Z"⟩
abbrev cX1_allow : ByteArray := prog_3_method_5_code
def yX1_allow : MethodName := ⟨RX1, "allow", "(IJ)Z"⟩
abbrev cX1_isSo : ByteArray := prog_3_method_6_code
def yX1_isSo : MethodName := ⟨RX1, "isSo", "(IIIJ)Z"⟩
abbrev cX1_lastOf : ByteArray := prog_3_method_7_code
def yX1_lastOf : MethodName := ⟨RX1, "lastOf", "(J)I"⟩
abbrev cX1_tally : ByteArray := prog_3_method_8_code
def yX1_tally : MethodName := ⟨RX1, "tally", "(LBestWalks$Order;)I"⟩
abbrev cX1_tallyOne : ByteArray := prog_3_method_9_code
def yX1_tallyOne : MethodName := ⟨RX1, "tallyOne", "(IJ)V"⟩
abbrev cX1_addTo : ByteArray := prog_3_method_10_code
def yX1_addTo : MethodName := ⟨RX1, "addTo", "(II)V"⟩
abbrev cX1_bestQuestion : ByteArray := prog_3_method_11_code
def yX1_bestQuestion : MethodName := ⟨RX1, "bestQuestion", "(I)I"⟩
abbrev cX1_mostLeft : ByteArray := prog_3_method_12_code
def yX1_mostLeft : MethodName := ⟨RX1, "mostLeft", "(III)I"⟩
def RX2 : String := "BestWalks$Codes"
def TX2 : u_T := fun k => match k with
  | _ => ("", "", "", false)
def tyX2 : Nat → FieldType := fun k => match k with
  | _ => .int
abbrev wsX20 : List Cond := u_ws RX2 TX2 0
theorem nmX2 : ∀ a, a < 0 → ∀ b, b < 0 → a ≠ b → (TX2 a).2.1 ≠ (TX2 b).2.1 := by decide +kernel
theorem tyX2_ok : ∀ k, k < 0 → parseFieldDescriptor (TX2 k).2.2.1 = some (tyX2 k) := by decide +kernel
abbrev cX2_with : ByteArray := prog_4_method_2_code
def yX2_with : MethodName := ⟨RX2, "with", "(JII)J"⟩
abbrev cX2_numberAt : ByteArray := prog_4_method_3_code
def yX2_numberAt : MethodName := ⟨RX2, "numberAt", "(JI)I"⟩
abbrev cX2_lengthOf : ByteArray := prog_4_method_4_code
def yX2_lengthOf : MethodName := ⟨RX2, "lengthOf", "(J)I"⟩
abbrev cX2_differences : ByteArray := prog_4_method_5_code
def yX2_differences : MethodName := ⟨RX2, "differences", "(JJ)I"⟩
abbrev cX2_firstOf : ByteArray := prog_4_method_6_code
def yX2_firstOf : MethodName := ⟨RX2, "firstOf", "(I)I"⟩
abbrev cX2_numbersOf : ByteArray := prog_4_method_7_code
def yX2_numbersOf : MethodName := ⟨RX2, "numbersOf", "(J)I"⟩
abbrev cX2_fault : ByteArray := prog_4_method_8_code
def yX2_fault : MethodName := ⟨RX2, "fault", "(LBestWalks$Text;)I"⟩
abbrev cX2_of : ByteArray := prog_4_method_9_code
def yX2_of : MethodName := ⟨RX2, "of", "(LBestWalks$Text;)J"⟩
def RX3 : String := "BestWalks$Cursor"
def TX3 : u_T := fun k => match k with
  | 0 => ("BestWalks$Cursor", "kind", "I", false)
  | 1 => ("BestWalks$Cursor", "passed", "I", false)
  | 2 => ("BestWalks$Cursor", "opened", "Z", false)
  | _ => ("BestWalks$Cursor", "stale", "Z", false)
def tyX3 : Nat → FieldType := fun k => match k with
  | 0 => .int
  | 1 => .int
  | 2 => .boolean
  | _ => .boolean
abbrev wsX30 : List Cond := u_ws RX3 TX3 4
theorem nmX3 : ∀ a, a < 4 → ∀ b, b < 4 → a ≠ b → (TX3 a).2.1 ≠ (TX3 b).2.1 := by decide +kernel
theorem tyX3_ok : ∀ k, k < 4 → parseFieldDescriptor (TX3 k).2.2.1 = some (tyX3 k) := by decide +kernel
abbrev cX3_init : ByteArray := prog_5_method_1_code
def yX3_init : MethodName := ⟨RX3, "<init>", "()V"⟩
abbrev cX3_open : ByteArray := prog_5_method_2_code
def yX3_open : MethodName := ⟨RX3, "open", "(I)V"⟩
abbrev cX3_outdate : ByteArray := prog_5_method_3_code
def yX3_outdate : MethodName := ⟨RX3, "outdate", "()V"⟩
abbrev cX3_isUsable : ByteArray := prog_5_method_4_code
def yX3_isUsable : MethodName := ⟨RX3, "isUsable", "()Z"⟩
abbrev cX3_refusal : ByteArray := prog_5_method_5_code
def yX3_refusal : MethodName := ⟨RX3, "refusal", "()I"⟩
abbrev cX3_kind : ByteArray := prog_5_method_6_code
def yX3_kind : MethodName := ⟨RX3, "kind", "()I"⟩
abbrev cX3_passed : ByteArray := prog_5_method_7_code
def yX3_passed : MethodName := ⟨RX3, "passed", "()I"⟩
abbrev cX3_move : ByteArray := prog_5_method_8_code
def yX3_move : MethodName := ⟨RX3, "move", "(II)V"⟩
def RX4 : String := "BestWalks$Finder"
def TX4 : u_T := fun k => match k with
  | 0 => ("BestWalks$Finder", "chosen", "[I", true)
  | 1 => ("BestWalks$Finder", "low", "[I", true)
  | 2 => ("BestWalks$Finder", "high", "[I", true)
  | 3 => ("BestWalks$Finder", "weight", "[I", true)
  | 4 => ("BestWalks$Finder", "edges", "I", false)
  | 5 => ("BestWalks$Finder", "treeSize", "I", false)
  | 6 => ("BestWalks$Finder", "state", "LBestWalks$State;", false)
  | 7 => ("BestWalks$Finder", "ruling", "LBestWalks$Rule;", false)
  | _ => ("BestWalks$Finder", "into", "LBestWalks$Order;", false)
def tyX4 : Nat → FieldType := fun k => match k with
  | 0 => .array .int
  | 1 => .array .int
  | 2 => .array .int
  | 3 => .array .int
  | 4 => .int
  | 5 => .int
  | 6 => .object "BestWalks$State"
  | 7 => .object "BestWalks$Rule"
  | _ => .object "BestWalks$Order"
abbrev wsX40 : List Cond := u_ws RX4 TX4 9
theorem nmX4 : ∀ a, a < 9 → ∀ b, b < 9 → a ≠ b → (TX4 a).2.1 ≠ (TX4 b).2.1 := by decide +kernel
theorem tyX4_ok : ∀ k, k < 9 → parseFieldDescriptor (TX4 k).2.2.1 = some (tyX4 k) := by decide +kernel
abbrev cX4_init : ByteArray := prog_6_method_1_code
def yX4_init : MethodName := ⟨RX4, "<init>", "()V"⟩
abbrev cX4_find : ByteArray := prog_6_method_2_code
def yX4_find : MethodName := ⟨RX4, "find", "(ILBestWalks$State;LBestWalks$Rule;LBestWalks$Order;)V"⟩
abbrev cX4_costOfChoice : ByteArray := prog_6_method_3_code
def yX4_costOfChoice : MethodName := ⟨RX4, "costOfChoice", "(LBestWalks$State;LBestWalks$Rule;J)I"⟩
abbrev cX4_findChoices : ByteArray := prog_6_method_4_code
def yX4_findChoices : MethodName := ⟨RX4, "findChoices", "(IIJ)V"⟩
abbrev cX4_findTrees : ByteArray := prog_6_method_5_code
def yX4_findTrees : MethodName := ⟨RX4, "findTrees", "()V"⟩
abbrev cX4_growTree : ByteArray := prog_6_method_6_code
def yX4_growTree : MethodName := ⟨RX4, "growTree", "(IIIJI)V"⟩
abbrev cX4_groupOf : ByteArray := prog_6_method_7_code
def yX4_groupOf : MethodName := ⟨RX4, "groupOf", "(II)I"⟩
abbrev cX4_regrouped : ByteArray := prog_6_method_8_code
def yX4_regrouped : MethodName := ⟨RX4, "regrouped", "(III)I"⟩
abbrev cX4_merged : ByteArray := prog_6_method_9_code
def yX4_merged : MethodName := ⟨RX4, "merged", "(III)I"⟩
abbrev cX4_findPairings : ByteArray := prog_6_method_10_code
def yX4_findPairings : MethodName := ⟨RX4, "findPairings", "(IIJI)V"⟩
abbrev cX4_findSubsets : ByteArray := prog_6_method_11_code
def yX4_findSubsets : MethodName := ⟨RX4, "findSubsets", "(IIIJ)V"⟩
abbrev cX4_findRoutes : ByteArray := prog_6_method_12_code
def yX4_findRoutes : MethodName := ⟨RX4, "findRoutes", "(IIIJI)V"⟩
def RX5 : String := "BestWalks$History"
def TX5 : u_T := fun k => match k with
  | 0 => ("BestWalks$History", "states", "[LBestWalks$State;", true)
  | 1 => ("BestWalks$History", "start", "I", false)
  | _ => ("BestWalks$History", "size", "I", false)
def tyX5 : Nat → FieldType := fun k => match k with
  | 0 => .array (.object "BestWalks$State")
  | 1 => .int
  | _ => .int
abbrev wsX50 : List Cond := u_ws RX5 TX5 3
theorem nmX5 : ∀ a, a < 3 → ∀ b, b < 3 → a ≠ b → (TX5 a).2.1 ≠ (TX5 b).2.1 := by decide +kernel
theorem tyX5_ok : ∀ k, k < 3 → parseFieldDescriptor (TX5 k).2.2.1 = some (tyX5 k) := by decide +kernel
abbrev cX5_init : ByteArray := prog_7_method_1_code
def yX5_init : MethodName := ⟨RX5, "<init>", "()V"⟩
abbrev cX5_size : ByteArray := prog_7_method_2_code
def yX5_size : MethodName := ⟨RX5, "size", "()I"⟩
abbrev cX5_clear : ByteArray := prog_7_method_3_code
def yX5_clear : MethodName := ⟨RX5, "clear", "()V"⟩
abbrev cX5_add : ByteArray := prog_7_method_4_code
def yX5_add : MethodName := ⟨RX5, "add", "(LBestWalks$State;)V"⟩
abbrev cX5_takeLatest : ByteArray := prog_7_method_5_code
def yX5_takeLatest : MethodName := ⟨RX5, "takeLatest", "(LBestWalks$State;)Z"⟩
def RX6 : String := "BestWalks$Order"
def TX6 : u_T := fun k => match k with
  | 0 => ("BestWalks$Order", "keys", "[J", true)
  | 1 => ("BestWalks$Order", "size", "I", false)
  | _ => ("BestWalks$Order", "known", "Z", false)
def tyX6 : Nat → FieldType := fun k => match k with
  | 0 => .array .long
  | 1 => .int
  | _ => .boolean
abbrev wsX60 : List Cond := u_ws RX6 TX6 3
theorem nmX6 : ∀ a, a < 3 → ∀ b, b < 3 → a ≠ b → (TX6 a).2.1 ≠ (TX6 b).2.1 := by decide +kernel
theorem tyX6_ok : ∀ k, k < 3 → parseFieldDescriptor (TX6 k).2.2.1 = some (tyX6 k) := by decide +kernel
abbrev cX6_init : ByteArray := prog_8_method_1_code
def yX6_init : MethodName := ⟨RX6, "<init>", "(I)V"⟩
abbrev cX6_keyOf : ByteArray := prog_8_method_2_code
def yX6_keyOf : MethodName := ⟨RX6, "keyOf", "(IJ)J"⟩
abbrev cX6_costOf : ByteArray := prog_8_method_3_code
def yX6_costOf : MethodName := ⟨RX6, "costOf", "(J)I"⟩
abbrev cX6_isKnown : ByteArray := prog_8_method_4_code
def yX6_isKnown : MethodName := ⟨RX6, "isKnown", "()Z"⟩
abbrev cX6_outdate : ByteArray := prog_8_method_5_code
def yX6_outdate : MethodName := ⟨RX6, "outdate", "()V"⟩
abbrev cX6_clear : ByteArray := prog_8_method_6_code
def yX6_clear : MethodName := ⟨RX6, "clear", "()V"⟩
abbrev cX6_size : ByteArray := prog_8_method_7_code
def yX6_size : MethodName := ⟨RX6, "size", "()I"⟩
abbrev cX6_add : ByteArray := prog_8_method_8_code
def yX6_add : MethodName := ⟨RX6, "add", "(IJ)V"⟩
abbrev cX6_sort : ByteArray := prog_8_method_9_code
def yX6_sort : MethodName := ⟨RX6, "sort", "()V"⟩
abbrev cX6_costAt : ByteArray := prog_8_method_10_code
def yX6_costAt : MethodName := ⟨RX6, "costAt", "(I)I"⟩
abbrev cX6_codeAt : ByteArray := prog_8_method_11_code
def yX6_codeAt : MethodName := ⟨RX6, "codeAt", "(I)J"⟩
abbrev cX6_keyAt : ByteArray := prog_8_method_12_code
def yX6_keyAt : MethodName := ⟨RX6, "keyAt", "(I)J"⟩
abbrev cX6_upTo : ByteArray := prog_8_method_13_code
def yX6_upTo : MethodName := ⟨RX6, "upTo", "(I)I"⟩
abbrev cX6_firstAlike : ByteArray := prog_8_method_14_code
def yX6_firstAlike : MethodName := ⟨RX6, "firstAlike", "(I)I"⟩
abbrev cX6_placeOf : ByteArray := prog_8_method_15_code
def yX6_placeOf : MethodName := ⟨RX6, "placeOf", "(J)I"⟩
abbrev cX6_sharedPlaces : ByteArray := prog_8_method_16_code
def yX6_sharedPlaces : MethodName := ⟨RX6, "sharedPlaces", "(I)I"⟩
def RX7 : String := "BestWalks$Rule"
def TX7 : u_T := fun k => match k with
  | 0 => ("BestWalks$Rule", "steps", "[I", true)
  | 1 => ("BestWalks$Rule", "waiting", "[I", true)
  | 2 => ("BestWalks$Rule", "compared", "[Z", true)
  | 3 => ("BestWalks$Rule", "values", "[I", true)
  | 4 => ("BestWalks$Rule", "length", "I", false)
  | 5 => ("BestWalks$Rule", "waitingSize", "I", false)
  | 6 => ("BestWalks$Rule", "depth", "I", false)
  | _ => ("BestWalks$Rule", "top", "I", false)
def tyX7 : Nat → FieldType := fun k => match k with
  | 0 => .array .int
  | 1 => .array .int
  | 2 => .array .boolean
  | 3 => .array .int
  | 4 => .int
  | 5 => .int
  | 6 => .int
  | _ => .int
abbrev wsX70 : List Cond := u_ws RX7 TX7 8
theorem nmX7 : ∀ a, a < 8 → ∀ b, b < 8 → a ≠ b → (TX7 a).2.1 ≠ (TX7 b).2.1 := by decide +kernel
theorem tyX7_ok : ∀ k, k < 8 → parseFieldDescriptor (TX7 k).2.2.1 = some (tyX7 k) := by decide +kernel
abbrev cX7_init : ByteArray := prog_9_method_1_code
def yX7_init : MethodName := ⟨RX7, "<init>", "()V"⟩
abbrev cX7_read : ByteArray := prog_9_method_2_code
def yX7_read : MethodName := ⟨RX7, "read", "(LBestWalks$Text;)I"⟩
abbrev cX7_startThing : ByteArray := prog_9_method_3_code
def yX7_startThing : MethodName := ⟨RX7, "startThing", "(LBestWalks$Text;II)I"⟩
abbrev cX7_readNumber : ByteArray := prog_9_method_4_code
def yX7_readNumber : MethodName := ⟨RX7, "readNumber", "(LBestWalks$Text;II)I"⟩
abbrev cX7_openBracket : ByteArray := prog_9_method_5_code
def yX7_openBracket : MethodName := ⟨RX7, "openBracket", "()Z"⟩
abbrev cX7_goOn : ByteArray := prog_9_method_6_code
def yX7_goOn : MethodName := ⟨RX7, "goOn", "(C)Z"⟩
abbrev cX7_closeBracket : ByteArray := prog_9_method_7_code
def yX7_closeBracket : MethodName := ⟨RX7, "closeBracket", "()Z"⟩
abbrev cX7_release : ByteArray := prog_9_method_8_code
def yX7_release : MethodName := ⟨RX7, "release", "(I)V"⟩
abbrev cX7_hold : ByteArray := prog_9_method_9_code
def yX7_hold : MethodName := ⟨RX7, "hold", "(I)V"⟩
abbrev cX7_addStep : ByteArray := prog_9_method_10_code
def yX7_addStep : MethodName := ⟨RX7, "addStep", "(I)V"⟩
abbrev cX7_isLetter : ByteArray := prog_9_method_11_code
def yX7_isLetter : MethodName := ⟨RX7, "isLetter", "(I)Z"⟩
abbrev cX7_bindingOf : ByteArray := prog_9_method_12_code
def yX7_bindingOf : MethodName := ⟨RX7, "bindingOf", "(I)I"⟩
abbrev cX7_costOf : ByteArray := prog_9_method_13_code
def yX7_costOf : MethodName := ⟨RX7, "costOf", "([II)I"⟩
abbrev cX7_push : ByteArray := prog_9_method_14_code
def yX7_push : MethodName := ⟨RX7, "push", "(I)V"⟩
abbrev cX7_pop : ByteArray := prog_9_method_15_code
def yX7_pop : MethodName := ⟨RX7, "pop", "()I"⟩
abbrev cX7_joined : ByteArray := prog_9_method_16_code
def yX7_joined : MethodName := ⟨RX7, "joined", "(III)I"⟩
abbrev cX7_valueOf : ByteArray := prog_9_method_17_code
def yX7_valueOf : MethodName := ⟨RX7, "valueOf", "(I[II)I"⟩
abbrev cX7_gathered : ByteArray := prog_9_method_18_code
def yX7_gathered : MethodName := ⟨RX7, "gathered", "(III)I"⟩
def RX8 : String := "BestWalks$State"
def TX8 : u_T := fun k => match k with
  | 0 => ("BestWalks$State", "sizes", "[I", true)
  | 1 => ("BestWalks$State", "numbers", "[I", true)
  | 2 => ("BestWalks$State", "weights", "[I", true)
  | 3 => ("BestWalks$State", "table", "[I", true)
  | 4 => ("BestWalks$State", "size", "I", false)
  | 5 => ("BestWalks$State", "picked", "I", false)
  | 6 => ("BestWalks$State", "firstEnd", "I", false)
  | _ => ("BestWalks$State", "secondEnd", "I", false)
def tyX8 : Nat → FieldType := fun k => match k with
  | 0 => .array .int
  | 1 => .array .int
  | 2 => .array .int
  | 3 => .array .int
  | 4 => .int
  | 5 => .int
  | 6 => .int
  | _ => .int
abbrev wsX80 : List Cond := u_ws RX8 TX8 8
theorem nmX8 : ∀ a, a < 8 → ∀ b, b < 8 → a ≠ b → (TX8 a).2.1 ≠ (TX8 b).2.1 := by decide +kernel
theorem tyX8_ok : ∀ k, k < 8 → parseFieldDescriptor (TX8 k).2.2.1 = some (tyX8 k) := by decide +kernel
abbrev cX8_init : ByteArray := prog_10_method_1_code
def yX8_init : MethodName := ⟨RX8, "<init>", "()V"⟩
abbrev cX8_copyFrom : ByteArray := prog_10_method_2_code
def yX8_copyFrom : MethodName := ⟨RX8, "copyFrom", "(LBestWalks$State;)V"⟩
abbrev cX8_size : ByteArray := prog_10_method_3_code
def yX8_size : MethodName := ⟨RX8, "size", "()I"⟩
abbrev cX8_picked : ByteArray := prog_10_method_4_code
def yX8_picked : MethodName := ⟨RX8, "picked", "()I"⟩
abbrev cX8_firstEnd : ByteArray := prog_10_method_5_code
def yX8_firstEnd : MethodName := ⟨RX8, "firstEnd", "()I"⟩
abbrev cX8_secondEnd : ByteArray := prog_10_method_6_code
def yX8_secondEnd : MethodName := ⟨RX8, "secondEnd", "()I"⟩
abbrev cX8_endsAsNumber : ByteArray := prog_10_method_7_code
def yX8_endsAsNumber : MethodName := ⟨RX8, "endsAsNumber", "()I"⟩
abbrev cX8_sizeOf : ByteArray := prog_10_method_8_code
def yX8_sizeOf : MethodName := ⟨RX8, "sizeOf", "(I)I"⟩
abbrev cX8_allNumbers : ByteArray := prog_10_method_9_code
def yX8_allNumbers : MethodName := ⟨RX8, "allNumbers", "()I"⟩
abbrev cX8_numberAt : ByteArray := prog_10_method_10_code
def yX8_numberAt : MethodName := ⟨RX8, "numberAt", "(II)I"⟩
abbrev cX8_setList : ByteArray := prog_10_method_11_code
def yX8_setList : MethodName := ⟨RX8, "setList", "(I[II)I"⟩
abbrev cX8_putNumber : ByteArray := prog_10_method_12_code
def yX8_putNumber : MethodName := ⟨RX8, "putNumber", "(II)I"⟩
abbrev cX8_takeNumber : ByteArray := prog_10_method_13_code
def yX8_takeNumber : MethodName := ⟨RX8, "takeNumber", "(II)I"⟩
abbrev cX8_weight : ByteArray := prog_10_method_14_code
def yX8_weight : MethodName := ⟨RX8, "weight", "(II)I"⟩
abbrev cX8_edges : ByteArray := prog_10_method_15_code
def yX8_edges : MethodName := ⟨RX8, "edges", "()I"⟩
abbrev cX8_pairOfEdge : ByteArray := prog_10_method_16_code
def yX8_pairOfEdge : MethodName := ⟨RX8, "pairOfEdge", "(I)I"⟩
abbrev cX8_joinedNodes : ByteArray := prog_10_method_17_code
def yX8_joinedNodes : MethodName := ⟨RX8, "joinedNodes", "()I"⟩
abbrev cX8_joinNodes : ByteArray := prog_10_method_18_code
def yX8_joinNodes : MethodName := ⟨RX8, "joinNodes", "(III)I"⟩
abbrev cX8_weigh : ByteArray := prog_10_method_19_code
def yX8_weigh : MethodName := ⟨RX8, "weigh", "(IIII)I"⟩
abbrev cX8_setCost : ByteArray := prog_10_method_20_code
def yX8_setCost : MethodName := ⟨RX8, "setCost", "(III)I"⟩
abbrev cX8_costAt : ByteArray := prog_10_method_21_code
def yX8_costAt : MethodName := ⟨RX8, "costAt", "(II)I"⟩
abbrev cX8_setWhat : ByteArray := prog_10_method_22_code
def yX8_setWhat : MethodName := ⟨RX8, "setWhat", "(II)I"⟩
abbrev cX8_setEnds : ByteArray := prog_10_method_23_code
def yX8_setEnds : MethodName := ⟨RX8, "setEnds", "(II)I"⟩
abbrev cX8_isBelow : ByteArray := prog_10_method_24_code
def yX8_isBelow : MethodName := ⟨RX8, "isBelow", "(II)Z"⟩
abbrev cX8_areTwoNodes : ByteArray := prog_10_method_25_code
def yX8_areTwoNodes : MethodName := ⟨RX8, "areTwoNodes", "(II)Z"⟩
abbrev cX8_pairOf : ByteArray := prog_10_method_26_code
def yX8_pairOf : MethodName := ⟨RX8, "pairOf", "(II)I"⟩
abbrev cX8_entry : ByteArray := prog_10_method_27_code
def yX8_entry : MethodName := ⟨RX8, "entry", "(II)I"⟩
def RX9 : String := "BestWalks$Text"
def TX9 : u_T := fun k => match k with
  | 0 => ("BestWalks$Text", "signs", "[C", true)
  | _ => ("BestWalks$Text", "length", "I", false)
def tyX9 : Nat → FieldType := fun k => match k with
  | 0 => .array .char
  | _ => .int
abbrev wsX90 : List Cond := u_ws RX9 TX9 2
theorem nmX9 : ∀ a, a < 2 → ∀ b, b < 2 → a ≠ b → (TX9 a).2.1 ≠ (TX9 b).2.1 := by decide +kernel
theorem tyX9_ok : ∀ k, k < 2 → parseFieldDescriptor (TX9 k).2.2.1 = some (tyX9 k) := by decide +kernel
abbrev cX9_init : ByteArray := prog_11_method_1_code
def yX9_init : MethodName := ⟨RX9, "<init>", "()V"⟩
abbrev cX9_length : ByteArray := prog_11_method_2_code
def yX9_length : MethodName := ⟨RX9, "length", "()I"⟩
abbrev cX9_at : ByteArray := prog_11_method_3_code
def yX9_at : MethodName := ⟨RX9, "at", "(I)C"⟩
abbrev cX9_append : ByteArray := prog_11_method_4_code
def yX9_append : MethodName := ⟨RX9, "append", "(I)Z"⟩
abbrev cX9_cut : ByteArray := prog_11_method_5_code
def yX9_cut : MethodName := ⟨RX9, "cut", "(I)Z"⟩
abbrev cX9_clear : ByteArray := prog_11_method_6_code
def yX9_clear : MethodName := ⟨RX9, "clear", "()V"⟩
abbrev cX9_hasDigit : ByteArray := prog_11_method_7_code
def yX9_hasDigit : MethodName := ⟨RX9, "hasDigit", "(I)Z"⟩
abbrev cX9_digit : ByteArray := prog_11_method_8_code
def yX9_digit : MethodName := ⟨RX9, "digit", "(I)I"⟩
abbrev cX9_twoDigits : ByteArray := prog_11_method_9_code
def yX9_twoDigits : MethodName := ⟨RX9, "twoDigits", "(I)I"⟩
abbrev cX9_node : ByteArray := prog_11_method_10_code
def yX9_node : MethodName := ⟨RX9, "node", "(I)I"⟩
abbrev cX9_numbersInto : ByteArray := prog_11_method_11_code
def yX9_numbersInto : MethodName := ⟨RX9, "numbersInto", "([I)I"⟩
def RX10 : String := "BestWalks$Told"
def TX10 : u_T := fun k => match k with
  | 0 => ("BestWalks$Told", "numbers", "[J", true)
  | _ => ("BestWalks$Told", "size", "I", false)
def tyX10 : Nat → FieldType := fun k => match k with
  | 0 => .array .long
  | _ => .int
abbrev wsX100 : List Cond := u_ws RX10 TX10 2
theorem nmX10 : ∀ a, a < 2 → ∀ b, b < 2 → a ≠ b → (TX10 a).2.1 ≠ (TX10 b).2.1 := by decide +kernel
theorem tyX10_ok : ∀ k, k < 2 → parseFieldDescriptor (TX10 k).2.2.1 = some (tyX10 k) := by decide +kernel
abbrev cX10_init : ByteArray := prog_12_method_1_code
def yX10_init : MethodName := ⟨RX10, "<init>", "()V"⟩
abbrev cX10_size : ByteArray := prog_12_method_2_code
def yX10_size : MethodName := ⟨RX10, "size", "()I"⟩
abbrev cX10_at : ByteArray := prog_12_method_3_code
def yX10_at : MethodName := ⟨RX10, "at", "(I)J"⟩
abbrev cX10_clear : ByteArray := prog_12_method_4_code
def yX10_clear : MethodName := ⟨RX10, "clear", "()V"⟩
abbrev cX10_add : ByteArray := prog_12_method_5_code
def yX10_add : MethodName := ⟨RX10, "add", "(J)V"⟩
abbrev cX10_only : ByteArray := prog_12_method_6_code
def yX10_only : MethodName := ⟨RX10, "only", "(J)V"⟩
def RX11 : String := "BestWalks"
def TX11 : u_T := fun k => match k with
  | 0 => ("BestWalks", "text", "LBestWalks$Text;", true)
  | 1 => ("BestWalks", "state", "LBestWalks$State;", true)
  | 2 => ("BestWalks", "before", "LBestWalks$State;", true)
  | 3 => ("BestWalks", "acts", "LBestWalks$Acts;", true)
  | 4 => ("BestWalks", "history", "LBestWalks$History;", true)
  | 5 => ("BestWalks", "kept", "[LBestWalks$State;", true)
  | 6 => ("BestWalks", "isKept", "[Z", true)
  | 7 => ("BestWalks", "orders", "[LBestWalks$Order;", true)
  | 8 => ("BestWalks", "finder", "LBestWalks$Finder;", true)
  | 9 => ("BestWalks", "cursors", "[LBestWalks$Cursor;", true)
  | 10 => ("BestWalks", "clues", "LBestWalks$Clues;", true)
  | 11 => ("BestWalks", "told", "LBestWalks$Told;", true)
  | 12 => ("BestWalks", "found", "[I", true)
  | 13 => ("BestWalks", "ruling", "LBestWalks$Rule;", false)
  | 14 => ("BestWalks", "draft", "LBestWalks$Rule;", false)
  | _ => ("BestWalks", "drawn", "I", false)
def tyX11 : Nat → FieldType := fun k => match k with
  | 0 => .object "BestWalks$Text"
  | 1 => .object "BestWalks$State"
  | 2 => .object "BestWalks$State"
  | 3 => .object "BestWalks$Acts"
  | 4 => .object "BestWalks$History"
  | 5 => .array (.object "BestWalks$State")
  | 6 => .array .boolean
  | 7 => .array (.object "BestWalks$Order")
  | 8 => .object "BestWalks$Finder"
  | 9 => .array (.object "BestWalks$Cursor")
  | 10 => .object "BestWalks$Clues"
  | 11 => .object "BestWalks$Told"
  | 12 => .array .int
  | 13 => .object "BestWalks$Rule"
  | 14 => .object "BestWalks$Rule"
  | _ => .int
abbrev wsX110 : List Cond := u_ws RX11 TX11 16
theorem nmX11 : ∀ a, a < 16 → ∀ b, b < 16 → a ≠ b → (TX11 a).2.1 ≠ (TX11 b).2.1 := by decide +kernel
theorem tyX11_ok : ∀ k, k < 16 → parseFieldDescriptor (TX11 k).2.2.1 = some (tyX11 k) := by decide +kernel
abbrev cX11_init : ByteArray := prog_1_method_1_code
def yX11_init : MethodName := ⟨RX11, "<init>", "()V"⟩
abbrev cX11_sign : ByteArray := prog_1_method_2_code
def yX11_sign : MethodName := ⟨RX11, "sign", "(I)I"⟩
abbrev cX11_end : ByteArray := prog_1_method_3_code
def yX11_end : MethodName := ⟨RX11, "end", "(I)Z"⟩
abbrev cX11_lists : ByteArray := prog_1_method_4_code
def yX11_lists : MethodName := ⟨RX11, "lists", "(I)I"⟩
abbrev cX11_rule : ByteArray := prog_1_method_5_code
def yX11_rule : MethodName := ⟨RX11, "rule", "()I"⟩
abbrev cX11_number : ByteArray := prog_1_method_6_code
def yX11_number : MethodName := ⟨RX11, "number", "(II)I"⟩
abbrev cX11_edge : ByteArray := prog_1_method_7_code
def yX11_edge : MethodName := ⟨RX11, "edge", "(II)I"⟩
abbrev cX11_sheet : ByteArray := prog_1_method_8_code
def yX11_sheet : MethodName := ⟨RX11, "sheet", "(IIII)I"⟩
abbrev cX11_puts : ByteArray := prog_1_method_9_code
def yX11_puts : MethodName := ⟨RX11, "puts", "(II)I"⟩
abbrev cX11_takes : ByteArray := prog_1_method_10_code
def yX11_takes : MethodName := ⟨RX11, "takes", "(II)I"⟩
abbrev cX11_joins : ByteArray := prog_1_method_11_code
def yX11_joins : MethodName := ⟨RX11, "joins", "(III)I"⟩
abbrev cX11_costs : ByteArray := prog_1_method_12_code
def yX11_costs : MethodName := ⟨RX11, "costs", "(III)I"⟩
abbrev cX11_sets : ByteArray := prog_1_method_13_code
def yX11_sets : MethodName := ⟨RX11, "sets", "(II)I"⟩
abbrev cX11_ends : ByteArray := prog_1_method_14_code
def yX11_ends : MethodName := ⟨RX11, "ends", "(II)I"⟩
abbrev cX11_day : ByteArray := prog_1_method_15_code
def yX11_day : MethodName := ⟨RX11, "day", "()I"⟩
abbrev cX11_undo : ByteArray := prog_1_method_16_code
def yX11_undo : MethodName := ⟨RX11, "undo", "()I"⟩
abbrev cX11_best : ByteArray := prog_1_method_17_code
def yX11_best : MethodName := ⟨RX11, "best", "(II)I"⟩
abbrev cX11_many : ByteArray := prog_1_method_18_code
def yX11_many : MethodName := ⟨RX11, "many", "(I)I"⟩
abbrev cX11_below : ByteArray := prog_1_method_19_code
def yX11_below : MethodName := ⟨RX11, "below", "(II)I"⟩
abbrev cX11_rank : ByteArray := prog_1_method_20_code
def yX11_rank : MethodName := ⟨RX11, "rank", "(I)I"⟩
abbrev cX11_alike : ByteArray := prog_1_method_21_code
def yX11_alike : MethodName := ⟨RX11, "alike", "(II)I"⟩
abbrev cX11_surely : ByteArray := prog_1_method_22_code
def yX11_surely : MethodName := ⟨RX11, "surely", "(I)I"⟩
abbrev cX11_having : ByteArray := prog_1_method_23_code
def yX11_having : MethodName := ⟨RX11, "having", "(IIII)I"⟩
abbrev cX11_differ : ByteArray := prog_1_method_24_code
def yX11_differ : MethodName := ⟨RX11, "differ", "(III)I"⟩
abbrev cX11_gap : ByteArray := prog_1_method_25_code
def yX11_gap : MethodName := ⟨RX11, "gap", "(II)I"⟩
abbrev cX11_opens : ByteArray := prog_1_method_26_code
def yX11_opens : MethodName := ⟨RX11, "opens", "(II)I"⟩
abbrev cX11_goes : ByteArray := prog_1_method_27_code
def yX11_goes : MethodName := ⟨RX11, "goes", "(I)I"⟩
abbrev cX11_skips : ByteArray := prog_1_method_28_code
def yX11_skips : MethodName := ⟨RX11, "skips", "(II)I"⟩
abbrev cX11_heard : ByteArray := prog_1_method_29_code
def yX11_heard : MethodName := ⟨RX11, "heard", "(II)I"⟩
abbrev cX11_forget : ByteArray := prog_1_method_30_code
def yX11_forget : MethodName := ⟨RX11, "forget", "()I"⟩
abbrev cX11_fits : ByteArray := prog_1_method_31_code
def yX11_fits : MethodName := ⟨RX11, "fits", "(I)I"⟩
abbrev cX11_asks : ByteArray := prog_1_method_32_code
def yX11_asks : MethodName := ⟨RX11, "asks", "(I)I"⟩
abbrev cX11_odds : ByteArray := prog_1_method_33_code
def yX11_odds : MethodName := ⟨RX11, "odds", "(III)I"⟩
abbrev cX11_duel : ByteArray := prog_1_method_34_code
def yX11_duel : MethodName := ⟨RX11, "duel", "(I)I"⟩
abbrev cX11_law : ByteArray := prog_1_method_35_code
def yX11_law : MethodName := ⟨RX11, "law", "()I"⟩
abbrev cX11_years : ByteArray := prog_1_method_36_code
def yX11_years : MethodName := ⟨RX11, "years", "(II)I"⟩
abbrev cX11_keep : ByteArray := prog_1_method_37_code
def yX11_keep : MethodName := ⟨RX11, "keep", "(I)Z"⟩
abbrev cX11_again : ByteArray := prog_1_method_38_code
def yX11_again : MethodName := ⟨RX11, "again", "(I)Z"⟩
abbrev cX11_count : ByteArray := prog_1_method_39_code
def yX11_count : MethodName := ⟨RX11, "count", "(I)I"⟩
abbrev cX11_row : ByteArray := prog_1_method_40_code
def yX11_row : MethodName := ⟨RX11, "row", "(I)J"⟩
abbrev cX11_isKind : ByteArray := prog_1_method_41_code
def yX11_isKind : MethodName := ⟨RX11, "isKind", "(I)Z"⟩
abbrev cX11_isPlace : ByteArray := prog_1_method_42_code
def yX11_isPlace : MethodName := ⟨RX11, "isPlace", "(II)Z"⟩
abbrev cX11_settled : ByteArray := prog_1_method_43_code
def yX11_settled : MethodName := ⟨RX11, "settled", "(I)I"⟩
abbrev cX11_changed : ByteArray := prog_1_method_44_code
def yX11_changed : MethodName := ⟨RX11, "changed", "()V"⟩
abbrev cX11_orderOf : ByteArray := prog_1_method_45_code
def yX11_orderOf : MethodName := ⟨RX11, "orderOf", "(I)LBestWalks$Order;"⟩
abbrev cX11_tellOne : ByteArray := prog_1_method_46_code
def yX11_tellOne : MethodName := ⟨RX11, "tellOne", "(LBestWalks$Order;I)I"⟩
abbrev cX11_tellFraction : ByteArray := prog_1_method_47_code
def yX11_tellFraction : MethodName := ⟨RX11, "tellFraction", "(JJ)V"⟩
abbrev cX11_lead : ByteArray := prog_1_method_48_code
def yX11_lead : MethodName := ⟨RX11, "lead", "(LBestWalks$State;III)I"⟩
abbrev cX11_liveYear : ByteArray := prog_1_method_49_code
def yX11_liveYear : MethodName := ⟨RX11, "liveYear", "()V"⟩
abbrev cX11_draw : ByteArray := prog_1_method_50_code
def yX11_draw : MethodName := ⟨RX11, "draw", "(I)I"⟩
def RX12 : String := "BestWalksModel"
def TX12 : u_T := fun k => match k with
  | 0 => ("BestWalksModel", "now", "[I", true)
  | 1 => ("BestWalksModel", "text", "[B", true)
  | 2 => ("BestWalksModel", "typed", "I", false)
  | 3 => ("BestWalksModel", "row", "[J", true)
  | 4 => ("BestWalksModel", "rowMany", "I", false)
  | 5 => ("BestWalksModel", "thrown", "I", false)
  | 6 => ("BestWalksModel", "read", "[B", false)
  | 7 => ("BestWalksModel", "length", "I", false)
  | 8 => ("BestWalksModel", "top", "I", false)
  | 9 => ("BestWalksModel", "at", "I", false)
  | 10 => ("BestWalksModel", "wrong", "I", false)
  | 11 => ("BestWalksModel", "told", "[I", true)
  | 12 => ("BestWalksModel", "rule", "[B", false)
  | 13 => ("BestWalksModel", "otherRule", "[B", false)
  | 14 => ("BestWalksModel", "ruleSize", "I", false)
  | 15 => ("BestWalksModel", "isAsked", "Z", false)
  | 16 => ("BestWalksModel", "asked", "[I", true)
  | 17 => ("BestWalksModel", "undos", "[I", true)
  | 18 => ("BestWalksModel", "undoMany", "I", false)
  | 19 => ("BestWalksModel", "aside", "[I", true)
  | 20 => ("BestWalksModel", "then", "[I", true)
  | 21 => ("BestWalksModel", "changes", "I", false)
  | 22 => ("BestWalksModel", "acts", "[I", true)
  | 23 => ("BestWalksModel", "items", "[I", true)
  | 24 => ("BestWalksModel", "wide", "[I", true)
  | 25 => ("BestWalksModel", "cost", "[I", true)
  | 26 => ("BestWalksModel", "itemMany", "I", false)
  | 27 => ("BestWalksModel", "order", "[I", true)
  | 28 => ("BestWalksModel", "merged", "[I", true)
  | 29 => ("BestWalksModel", "laid", "[I", true)
  | 30 => ("BestWalksModel", "hangs", "[I", true)
  | 31 => ("BestWalksModel", "read0", "[I", true)
  | 32 => ("BestWalksModel", "cursorOn", "[I", true)
  | 33 => ("BestWalksModel", "cursorAt", "[I", true)
  | 34 => ("BestWalksModel", "cursorBy", "[I", true)
  | 35 => ("BestWalksModel", "heardOf", "[I", true)
  | 36 => ("BestWalksModel", "heardBy", "[I", true)
  | 37 => ("BestWalksModel", "heardMany", "I", false)
  | 38 => ("BestWalksModel", "isFit", "[Z", true)
  | 39 => ("BestWalksModel", "drawn", "I", false)
  | 40 => ("BestWalksModel", "kept", "[I", true)
  | _ => ("BestWalksModel", "isKept", "[Z", true)
def tyX12 : Nat → FieldType := fun k => match k with
  | 0 => .array .int
  | 1 => .array .byte
  | 2 => .int
  | 3 => .array .long
  | 4 => .int
  | 5 => .int
  | 6 => .array .byte
  | 7 => .int
  | 8 => .int
  | 9 => .int
  | 10 => .int
  | 11 => .array .int
  | 12 => .array .byte
  | 13 => .array .byte
  | 14 => .int
  | 15 => .boolean
  | 16 => .array .int
  | 17 => .array .int
  | 18 => .int
  | 19 => .array .int
  | 20 => .array .int
  | 21 => .int
  | 22 => .array .int
  | 23 => .array .int
  | 24 => .array .int
  | 25 => .array .int
  | 26 => .int
  | 27 => .array .int
  | 28 => .array .int
  | 29 => .array .int
  | 30 => .array .int
  | 31 => .array .int
  | 32 => .array .int
  | 33 => .array .int
  | 34 => .array .int
  | 35 => .array .int
  | 36 => .array .int
  | 37 => .int
  | 38 => .array .boolean
  | 39 => .int
  | 40 => .array .int
  | _ => .array .boolean
abbrev wsX120 : List Cond := u_ws RX12 TX12 42
theorem nmX12 : ∀ a, a < 42 → ∀ b, b < 42 → a ≠ b → (TX12 a).2.1 ≠ (TX12 b).2.1 := by decide +kernel
theorem tyX12_ok : ∀ k, k < 42 → parseFieldDescriptor (TX12 k).2.2.1 = some (tyX12 k) := by decide +kernel
abbrev cX12_init : ByteArray := prog_14_method_1_code
def yX12_init : MethodName := ⟨RX12, "<init>", "()V"⟩
abbrev cX12_thrown : ByteArray := prog_14_method_2_code
def yX12_thrown : MethodName := ⟨RX12, "thrown", "()I"⟩
abbrev cX12_in : ByteArray := prog_14_method_3_code
def yX12_in : MethodName := ⟨RX12, "in", "(III)Z"⟩
abbrev cX12_has : ByteArray := prog_14_method_4_code
def yX12_has : MethodName := ⟨RX12, "has", "(II)Z"⟩
abbrev cX12_lost : ByteArray := prog_14_method_5_code
def yX12_lost : MethodName := ⟨RX12, "lost", "()I"⟩
abbrev cX12_tell : ByteArray := prog_14_method_6_code
def yX12_tell : MethodName := ⟨RX12, "tell", "(J)V"⟩
abbrev cX12_isList : ByteArray := prog_14_method_7_code
def yX12_isList : MethodName := ⟨RX12, "isList", "(I)Z"⟩
abbrev cX12_isKind : ByteArray := prog_14_method_8_code
def yX12_isKind : MethodName := ⟨RX12, "isKind", "(I)Z"⟩
abbrev cX12_weightOf : ByteArray := prog_14_method_9_code
def yX12_weightOf : MethodName := ⟨RX12, "weightOf", "([III)I"⟩
abbrev cX12_edgesOf : ByteArray := prog_14_method_10_code
def yX12_edgesOf : MethodName := ⟨RX12, "edgesOf", "([I)I"⟩
abbrev cX12_edgeAt : ByteArray := prog_14_method_11_code
def yX12_edgeAt : MethodName := ⟨RX12, "edgeAt", "([II)I"⟩
abbrev cX12_joinedOf : ByteArray := prog_14_method_12_code
def yX12_joinedOf : MethodName := ⟨RX12, "joinedOf", "([I)I"⟩
abbrev cX12_sign : ByteArray := prog_14_method_13_code
def yX12_sign : MethodName := ⟨RX12, "sign", "(I)I"⟩
abbrev cX12_end : ByteArray := prog_14_method_14_code
def yX12_end : MethodName := ⟨RX12, "end", "(I)Z"⟩
abbrev cX12_begin : ByteArray := prog_14_method_15_code
def yX12_begin : MethodName := ⟨RX12, "begin", "([BII)V"⟩
abbrev cX12_beginText : ByteArray := prog_14_method_16_code
def yX12_beginText : MethodName := ⟨RX12, "beginText", "(I)V"⟩
abbrev cX12_here : ByteArray := prog_14_method_17_code
def yX12_here : MethodName := ⟨RX12, "here", "()I"⟩
abbrev cX12_fine : ByteArray := prog_14_method_18_code
def yX12_fine : MethodName := ⟨RX12, "fine", "()Z"⟩
abbrev cX12_fault : ByteArray := prog_14_method_19_code
def yX12_fault : MethodName := ⟨RX12, "fault", "(I)V"⟩
abbrev cX12_passes : ByteArray := prog_14_method_20_code
def yX12_passes : MethodName := ⟨RX12, "passes", "(C)Z"⟩
abbrev cX12_need : ByteArray := prog_14_method_21_code
def yX12_need : MethodName := ⟨RX12, "need", "(C)V"⟩
abbrev cX12_oneOf : ByteArray := prog_14_method_22_code
def yX12_oneOf : MethodName := ⟨RX12, "oneOf", "(CI)I"⟩
abbrev cX12_number : ByteArray := prog_14_method_23_code
def yX12_number : MethodName := ⟨RX12, "number", "(I)I"⟩
abbrev cX12_wasRight : ByteArray := prog_14_method_24_code
def yX12_wasRight : MethodName := ⟨RX12, "wasRight", "()Z"⟩
abbrev cX12_lists : ByteArray := prog_14_method_25_code
def yX12_lists : MethodName := ⟨RX12, "lists", "(I)I"⟩
abbrev cX12_held : ByteArray := prog_14_method_26_code
def yX12_held : MethodName := ⟨RX12, "held", "(I)I"⟩
abbrev cX12_sum : ByteArray := prog_14_method_27_code
def yX12_sum : MethodName := ⟨RX12, "sum", "(I)I"⟩
abbrev cX12_product : ByteArray := prog_14_method_28_code
def yX12_product : MethodName := ⟨RX12, "product", "(I)I"⟩
abbrev cX12_letterOf : ByteArray := prog_14_method_29_code
def yX12_letterOf : MethodName := ⟨RX12, "letterOf", "(I)I"⟩
abbrev cX12_thing : ByteArray := prog_14_method_30_code
def yX12_thing : MethodName := ⟨RX12, "thing", "(I)I"⟩
abbrev cX12_readRule : ByteArray := prog_14_method_31_code
def yX12_readRule : MethodName := ⟨RX12, "readRule", "()Z"⟩
abbrev cX12_rule : ByteArray := prog_14_method_32_code
def yX12_rule : MethodName := ⟨RX12, "rule", "()I"⟩
abbrev cX12_ruleOf : ByteArray := prog_14_method_33_code
def yX12_ruleOf : MethodName := ⟨RX12, "ruleOf", "([II)I"⟩
abbrev cX12_number_ : ByteArray := prog_14_method_34_code
def yX12_number_ : MethodName := ⟨RX12, "number", "(II)I"⟩
abbrev cX12_edge : ByteArray := prog_14_method_35_code
def yX12_edge : MethodName := ⟨RX12, "edge", "(II)I"⟩
abbrev cX12_weigh : ByteArray := prog_14_method_36_code
def yX12_weigh : MethodName := ⟨RX12, "weigh", "([IIII)V"⟩
abbrev cX12_sheet : ByteArray := prog_14_method_37_code
def yX12_sheet : MethodName := ⟨RX12, "sheet", "(IIII)I"⟩
abbrev cX12_lay : ByteArray := prog_14_method_38_code
def yX12_lay : MethodName := ⟨RX12, "lay", "([I[II)V"⟩
abbrev cX12_change : ByteArray := prog_14_method_39_code
def yX12_change : MethodName := ⟨RX12, "change", "([I)V"⟩
abbrev cX12_refusesPut : ByteArray := prog_14_method_40_code
def yX12_refusesPut : MethodName := ⟨RX12, "refusesPut", "([III)I"⟩
abbrev cX12_goPut : ByteArray := prog_14_method_41_code
def yX12_goPut : MethodName := ⟨RX12, "goPut", "([III)I"⟩
abbrev cX12_puts : ByteArray := prog_14_method_42_code
def yX12_puts : MethodName := ⟨RX12, "puts", "(II)I"⟩
abbrev cX12_canTake : ByteArray := prog_14_method_43_code
def yX12_canTake : MethodName := ⟨RX12, "canTake", "([III)Z"⟩
abbrev cX12_goTake : ByteArray := prog_14_method_44_code
def yX12_goTake : MethodName := ⟨RX12, "goTake", "([III)I"⟩
abbrev cX12_takes : ByteArray := prog_14_method_45_code
def yX12_takes : MethodName := ⟨RX12, "takes", "(II)I"⟩
abbrev cX12_refusesJoin : ByteArray := prog_14_method_46_code
def yX12_refusesJoin : MethodName := ⟨RX12, "refusesJoin", "([IIII)I"⟩
abbrev cX12_joins : ByteArray := prog_14_method_47_code
def yX12_joins : MethodName := ⟨RX12, "joins", "(III)I"⟩
abbrev cX12_canCost : ByteArray := prog_14_method_48_code
def yX12_canCost : MethodName := ⟨RX12, "canCost", "(III)Z"⟩
abbrev cX12_costs : ByteArray := prog_14_method_49_code
def yX12_costs : MethodName := ⟨RX12, "costs", "(III)I"⟩
abbrev cX12_refusesSet : ByteArray := prog_14_method_50_code
def yX12_refusesSet : MethodName := ⟨RX12, "refusesSet", "([III)I"⟩
abbrev cX12_sets : ByteArray := prog_14_method_51_code
def yX12_sets : MethodName := ⟨RX12, "sets", "(II)I"⟩
abbrev cX12_canEnd : ByteArray := prog_14_method_52_code
def yX12_canEnd : MethodName := ⟨RX12, "canEnd", "(II)Z"⟩
abbrev cX12_endsOf : ByteArray := prog_14_method_53_code
def yX12_endsOf : MethodName := ⟨RX12, "endsOf", "([I)I"⟩
abbrev cX12_ends : ByteArray := prog_14_method_54_code
def yX12_ends : MethodName := ⟨RX12, "ends", "(II)I"⟩
abbrev cX12_day : ByteArray := prog_14_method_55_code
def yX12_day : MethodName := ⟨RX12, "day", "()I"⟩
abbrev cX12_twoDigits : ByteArray := prog_14_method_56_code
def yX12_twoDigits : MethodName := ⟨RX12, "twoDigits", "()I"⟩
abbrev cX12_readAct : ByteArray := prog_14_method_57_code
def yX12_readAct : MethodName := ⟨RX12, "readAct", "(I)V"⟩
abbrev cX12_act : ByteArray := prog_14_method_58_code
def yX12_act : MethodName := ⟨RX12, "act", "(IIII)Z"⟩
abbrev cX12_undo : ByteArray := prog_14_method_59_code
def yX12_undo : MethodName := ⟨RX12, "undo", "()I"⟩
abbrev cX12_emit : ByteArray := prog_14_method_60_code
def yX12_emit : MethodName := ⟨RX12, "emit", "(II)V"⟩
abbrev cX12_layChoices : ByteArray := prog_14_method_61_code
def yX12_layChoices : MethodName := ⟨RX12, "layChoices", "([III)V"⟩
abbrev cX12_hangOf : ByteArray := prog_14_method_62_code
def yX12_hangOf : MethodName := ⟨RX12, "hangOf", "(I)I"⟩
abbrev cX12_treeOf : ByteArray := prog_14_method_63_code
def yX12_treeOf : MethodName := ⟨RX12, "treeOf", "([II)I"⟩
abbrev cX12_layTrees : ByteArray := prog_14_method_64_code
def yX12_layTrees : MethodName := ⟨RX12, "layTrees", "([IIIII)V"⟩
abbrev cX12_layPairings : ByteArray := prog_14_method_65_code
def yX12_layPairings : MethodName := ⟨RX12, "layPairings", "([IIII)V"⟩
abbrev cX12_laySubsets : ByteArray := prog_14_method_66_code
def yX12_laySubsets : MethodName := ⟨RX12, "laySubsets", "([IIII)V"⟩
abbrev cX12_layRoutes : ByteArray := prog_14_method_67_code
def yX12_layRoutes : MethodName := ⟨RX12, "layRoutes", "([IIIII)V"⟩
abbrev cX12_layAll : ByteArray := prog_14_method_68_code
def yX12_layAll : MethodName := ⟨RX12, "layAll", "([II)I"⟩
abbrev cX12_merge : ByteArray := prog_14_method_69_code
def yX12_merge : MethodName := ⟨RX12, "merge", "(III)V"⟩
abbrev cX12_tellItem : ByteArray := prog_14_method_70_code
def yX12_tellItem : MethodName := ⟨RX12, "tellItem", "(I)I"⟩
abbrev cX12_costAt : ByteArray := prog_14_method_71_code
def yX12_costAt : MethodName := ⟨RX12, "costAt", "(I)I"⟩
abbrev cX12_best : ByteArray := prog_14_method_72_code
def yX12_best : MethodName := ⟨RX12, "best", "(II)I"⟩
abbrev cX12_upTo : ByteArray := prog_14_method_73_code
def yX12_upTo : MethodName := ⟨RX12, "upTo", "(I)I"⟩
abbrev cX12_many : ByteArray := prog_14_method_74_code
def yX12_many : MethodName := ⟨RX12, "many", "(I)I"⟩
abbrev cX12_below : ByteArray := prog_14_method_75_code
def yX12_below : MethodName := ⟨RX12, "below", "(II)I"⟩
abbrev cX12_isLaid : ByteArray := prog_14_method_76_code
def yX12_isLaid : MethodName := ⟨RX12, "isLaid", "(II)Z"⟩
abbrev cX12_rank : ByteArray := prog_14_method_77_code
def yX12_rank : MethodName := ⟨RX12, "rank", "(I)I"⟩
abbrev cX12_alike : ByteArray := prog_14_method_78_code
def yX12_alike : MethodName := ⟨RX12, "alike", "(II)I"⟩
abbrev cX12_surely : ByteArray := prog_14_method_79_code
def yX12_surely : MethodName := ⟨RX12, "surely", "(I)I"⟩
abbrev cX12_having : ByteArray := prog_14_method_80_code
def yX12_having : MethodName := ⟨RX12, "having", "(IIII)I"⟩
abbrev cX12_differ : ByteArray := prog_14_method_81_code
def yX12_differ : MethodName := ⟨RX12, "differ", "(III)I"⟩
abbrev cX12_gap : ByteArray := prog_14_method_82_code
def yX12_gap : MethodName := ⟨RX12, "gap", "(II)I"⟩
abbrev cX12_opens : ByteArray := prog_14_method_83_code
def yX12_opens : MethodName := ⟨RX12, "opens", "(II)I"⟩
abbrev cX12_refusesCursor : ByteArray := prog_14_method_84_code
def yX12_refusesCursor : MethodName := ⟨RX12, "refusesCursor", "(I)I"⟩
abbrev cX12_goes : ByteArray := prog_14_method_85_code
def yX12_goes : MethodName := ⟨RX12, "goes", "(I)I"⟩
abbrev cX12_skips : ByteArray := prog_14_method_86_code
def yX12_skips : MethodName := ⟨RX12, "skips", "(II)I"⟩
abbrev cX12_highOf : ByteArray := prog_14_method_87_code
def yX12_highOf : MethodName := ⟨RX12, "highOf", "(I)I"⟩
abbrev cX12_heard : ByteArray := prog_14_method_88_code
def yX12_heard : MethodName := ⟨RX12, "heard", "(II)I"⟩
abbrev cX12_forget : ByteArray := prog_14_method_89_code
def yX12_forget : MethodName := ⟨RX12, "forget", "()I"⟩
abbrev cX12_isSo : ByteArray := prog_14_method_90_code
def yX12_isSo : MethodName := ⟨RX12, "isSo", "(III)Z"⟩
abbrev cX12_layFits : ByteArray := prog_14_method_91_code
def yX12_layFits : MethodName := ⟨RX12, "layFits", "(I)I"⟩
abbrev cX12_fits : ByteArray := prog_14_method_92_code
def yX12_fits : MethodName := ⟨RX12, "fits", "(I)I"⟩
abbrev cX12_asks : ByteArray := prog_14_method_93_code
def yX12_asks : MethodName := ⟨RX12, "asks", "(I)I"⟩
abbrev cX12_common : ByteArray := prog_14_method_94_code
def yX12_common : MethodName := ⟨RX12, "common", "(JJ)J"⟩
abbrev cX12_odds : ByteArray := prog_14_method_95_code
def yX12_odds : MethodName := ⟨RX12, "odds", "(III)I"⟩
abbrev cX12_duelOf : ByteArray := prog_14_method_96_code
def yX12_duelOf : MethodName := ⟨RX12, "duelOf", "(III)I"⟩
abbrev cX12_duel : ByteArray := prog_14_method_97_code
def yX12_duel : MethodName := ⟨RX12, "duel", "(I)I"⟩
abbrev cX12_law : ByteArray := prog_14_method_98_code
def yX12_law : MethodName := ⟨RX12, "law", "()I"⟩
abbrev cX12_draw : ByteArray := prog_14_method_99_code
def yX12_draw : MethodName := ⟨RX12, "draw", "(I)I"⟩
abbrev cX12_goDrawn : ByteArray := prog_14_method_100_code
def yX12_goDrawn : MethodName := ⟨RX12, "goDrawn", "([I)V"⟩
abbrev cX12_years : ByteArray := prog_14_method_101_code
def yX12_years : MethodName := ⟨RX12, "years", "(II)I"⟩
abbrev cX12_keep : ByteArray := prog_14_method_102_code
def yX12_keep : MethodName := ⟨RX12, "keep", "(I)Z"⟩
abbrev cX12_again : ByteArray := prog_14_method_103_code
def yX12_again : MethodName := ⟨RX12, "again", "(I)Z"⟩
abbrev cX12_numbersOf : ByteArray := prog_14_method_104_code
def yX12_numbersOf : MethodName := ⟨RX12, "numbersOf", "()I"⟩
abbrev cX12_count : ByteArray := prog_14_method_105_code
def yX12_count : MethodName := ⟨RX12, "count", "(I)I"⟩
abbrev cX12_row : ByteArray := prog_14_method_106_code
def yX12_row : MethodName := ⟨RX12, "row", "(I)J"⟩
abbrev YC_cl : List vw_C := [(RX0, TX0, 1), (RX1, TX1, 4), (RX2, TX2, 0), (RX3, TX3, 4), (RX4, TX4, 9), (RX5, TX5, 3), (RX6, TX6, 3), (RX7, TX7, 8), (RX8, TX8, 8), (RX9, TX9, 2), (RX10, TX10, 2), (RX11, TX11, 16)]
abbrev YM_cl : List vw_C := [(RX12, TX12, 42)]
theorem inX0 : ∀ w ∈ wsX00, w ∈ lw_tbl := by decide +kernel
theorem gdX0 : wsX00.all goodWord = true := by decide +kernel
theorem ktX0 : ∀ w ∈ u_ws RX0 TX0 1, w ∈ TB := fun w h => tb_of (inX0 w h) (List.all_eq_true.mp gdX0 w h)
theorem inX1 : ∀ w ∈ wsX10, w ∈ lw_tbl := by decide +kernel
theorem gdX1 : wsX10.all goodWord = true := by decide +kernel
theorem ktX1 : ∀ w ∈ u_ws RX1 TX1 4, w ∈ TB := fun w h => tb_of (inX1 w h) (List.all_eq_true.mp gdX1 w h)
theorem inX3 : ∀ w ∈ wsX30, w ∈ lw_tbl := by decide +kernel
theorem gdX3 : wsX30.all goodWord = true := by decide +kernel
theorem ktX3 : ∀ w ∈ u_ws RX3 TX3 4, w ∈ TB := fun w h => tb_of (inX3 w h) (List.all_eq_true.mp gdX3 w h)
theorem inX4 : ∀ w ∈ wsX40, w ∈ lw_tbl := by decide +kernel
theorem gdX4 : wsX40.all goodWord = true := by decide +kernel
theorem ktX4 : ∀ w ∈ u_ws RX4 TX4 9, w ∈ TB := fun w h => tb_of (inX4 w h) (List.all_eq_true.mp gdX4 w h)
theorem inX5 : ∀ w ∈ wsX50, w ∈ lw_tbl := by decide +kernel
theorem gdX5 : wsX50.all goodWord = true := by decide +kernel
theorem ktX5 : ∀ w ∈ u_ws RX5 TX5 3, w ∈ TB := fun w h => tb_of (inX5 w h) (List.all_eq_true.mp gdX5 w h)
theorem inX6 : ∀ w ∈ wsX60, w ∈ lw_tbl := by decide +kernel
theorem gdX6 : wsX60.all goodWord = true := by decide +kernel
theorem ktX6 : ∀ w ∈ u_ws RX6 TX6 3, w ∈ TB := fun w h => tb_of (inX6 w h) (List.all_eq_true.mp gdX6 w h)
theorem inX7 : ∀ w ∈ wsX70, w ∈ lw_tbl := by decide +kernel
theorem gdX7 : wsX70.all goodWord = true := by decide +kernel
theorem ktX7 : ∀ w ∈ u_ws RX7 TX7 8, w ∈ TB := fun w h => tb_of (inX7 w h) (List.all_eq_true.mp gdX7 w h)
theorem inX8 : ∀ w ∈ wsX80, w ∈ lw_tbl := by decide +kernel
theorem gdX8 : wsX80.all goodWord = true := by decide +kernel
theorem ktX8 : ∀ w ∈ u_ws RX8 TX8 8, w ∈ TB := fun w h => tb_of (inX8 w h) (List.all_eq_true.mp gdX8 w h)
theorem inX9 : ∀ w ∈ wsX90, w ∈ lw_tbl := by decide +kernel
theorem gdX9 : wsX90.all goodWord = true := by decide +kernel
theorem ktX9 : ∀ w ∈ u_ws RX9 TX9 2, w ∈ TB := fun w h => tb_of (inX9 w h) (List.all_eq_true.mp gdX9 w h)
theorem inX10 : ∀ w ∈ wsX100, w ∈ lw_tbl := by decide +kernel
theorem gdX10 : wsX100.all goodWord = true := by decide +kernel
theorem ktX10 : ∀ w ∈ u_ws RX10 TX10 2, w ∈ TB := fun w h => tb_of (inX10 w h) (List.all_eq_true.mp gdX10 w h)
theorem inX11 : ∀ w ∈ wsX110, w ∈ lw_tbl := by decide +kernel
theorem gdX11 : wsX110.all goodWord = true := by decide +kernel
theorem ktX11 : ∀ w ∈ u_ws RX11 TX11 16, w ∈ TB := fun w h => tb_of (inX11 w h) (List.all_eq_true.mp gdX11 w h)
theorem inX12 : ∀ w ∈ wsX120, w ∈ lw_tbl := by decide +kernel
theorem gdX12 : wsX120.all goodWord = true := by decide +kernel
theorem ktX12 : ∀ w ∈ u_ws RX12 TX12 42, w ∈ TB := fun w h => tb_of (inX12 w h) (List.all_eq_true.mp gdX12 w h)
theorem fX9_9 : fm_fld RX9 9 TX9 2 0 := ⟨by decide, tb_1 (i := 39) (by decide +kernel) (by decide +kernel)⟩
theorem fX9_15 : fm_fld RX9 15 TX9 2 1 := ⟨by decide, tb_1 (i := 40) (by decide +kernel) (by decide +kernel)⟩
theorem fX8_9 : fm_fld RX8 9 TX8 8 0 := ⟨by decide, tb_1 (i := 53) (by decide +kernel) (by decide +kernel)⟩
theorem fX8_15 : fm_fld RX8 15 TX8 8 1 := ⟨by decide, tb_1 (i := 54) (by decide +kernel) (by decide +kernel)⟩
theorem fX8_18 : fm_fld RX8 18 TX8 8 2 := ⟨by decide, tb_1 (i := 55) (by decide +kernel) (by decide +kernel)⟩
theorem fX8_21 : fm_fld RX8 21 TX8 8 3 := ⟨by decide, tb_1 (i := 56) (by decide +kernel) (by decide +kernel)⟩
theorem fX8_34 : fm_fld RX8 34 TX8 8 4 := ⟨by decide, tb_1 (i := 57) (by decide +kernel) (by decide +kernel)⟩
theorem fX8_37 : fm_fld RX8 37 TX8 8 5 := ⟨by decide, tb_1 (i := 58) (by decide +kernel) (by decide +kernel)⟩
theorem fX8_40 : fm_fld RX8 40 TX8 8 6 := ⟨by decide, tb_1 (i := 59) (by decide +kernel) (by decide +kernel)⟩
theorem fX8_24 : fm_fld RX8 24 TX8 8 7 := ⟨by decide, tb_1 (i := 60) (by decide +kernel) (by decide +kernel)⟩
theorem fX0_9 : fm_fld RX0 9 TX0 1 0 := ⟨by decide, tb_1 (i := 85) (by decide +kernel) (by decide +kernel)⟩
theorem fX5_11 : fm_fld RX5 11 TX5 3 0 := ⟨by decide, tb_1 (i := 98) (by decide +kernel) (by decide +kernel)⟩
theorem fX5_22 : fm_fld RX5 22 TX5 3 1 := ⟨by decide, tb_1 (i := 99) (by decide +kernel) (by decide +kernel)⟩
theorem fX5_18 : fm_fld RX5 18 TX5 3 2 := ⟨by decide, tb_1 (i := 100) (by decide +kernel) (by decide +kernel)⟩
theorem fX4_9 : fm_fld RX4 9 TX4 9 0 := ⟨by decide, tb_1 (i := 116) (by decide +kernel) (by decide +kernel)⟩
theorem fX4_15 : fm_fld RX4 15 TX4 9 1 := ⟨by decide, tb_1 (i := 117) (by decide +kernel) (by decide +kernel)⟩
theorem fX4_18 : fm_fld RX4 18 TX4 9 2 := ⟨by decide, tb_1 (i := 118) (by decide +kernel) (by decide +kernel)⟩
theorem fX4_21 : fm_fld RX4 21 TX4 9 3 := ⟨by decide, tb_1 (i := 119) (by decide +kernel) (by decide +kernel)⟩
theorem fX4_90 : fm_fld RX4 90 TX4 9 4 := ⟨by decide, tb_1 (i := 120) (by decide +kernel) (by decide +kernel)⟩
theorem fX4_109 : fm_fld RX4 109 TX4 9 5 := ⟨by decide, tb_1 (i := 121) (by decide +kernel) (by decide +kernel)⟩
theorem fX4_24 : fm_fld RX4 24 TX4 9 6 := ⟨by decide, tb_1 (i := 122) (by decide +kernel) (by decide +kernel)⟩
theorem fX4_28 : fm_fld RX4 28 TX4 9 7 := ⟨by decide, tb_1 (i := 123) (by decide +kernel) (by decide +kernel)⟩
theorem fX4_32 : fm_fld RX4 32 TX4 9 8 := ⟨by decide, tb_1 (i := 124) (by decide +kernel) (by decide +kernel)⟩
theorem fX1_9 : fm_fld RX1 9 TX1 4 0 := ⟨by decide, tb_1 (i := 155) (by decide +kernel) (by decide +kernel)⟩
theorem fX1_15 : fm_fld RX1 15 TX1 4 1 := ⟨by decide, tb_1 (i := 156) (by decide +kernel) (by decide +kernel)⟩
theorem fX1_20 : fm_fld RX1 20 TX1 4 2 := ⟨by decide, tb_1 (i := 157) (by decide +kernel) (by decide +kernel)⟩
theorem fX1_23 : fm_fld RX1 23 TX1 4 3 := ⟨by decide, tb_1 (i := 158) (by decide +kernel) (by decide +kernel)⟩
theorem fX10_9 : fm_fld RX10 9 TX10 2 0 := ⟨by decide, tb_1 (i := 174) (by decide +kernel) (by decide +kernel)⟩
theorem fX10_15 : fm_fld RX10 15 TX10 2 1 := ⟨by decide, tb_1 (i := 175) (by decide +kernel) (by decide +kernel)⟩
theorem fX7_9 : fm_fld RX7 9 TX7 8 0 := ⟨by decide, tb_1 (i := 188) (by decide +kernel) (by decide +kernel)⟩
theorem fX7_15 : fm_fld RX7 15 TX7 8 1 := ⟨by decide, tb_1 (i := 189) (by decide +kernel) (by decide +kernel)⟩
theorem fX7_18 : fm_fld RX7 18 TX7 8 2 := ⟨by decide, tb_1 (i := 190) (by decide +kernel) (by decide +kernel)⟩
theorem fX7_22 : fm_fld RX7 22 TX7 8 3 := ⟨by decide, tb_1 (i := 191) (by decide +kernel) (by decide +kernel)⟩
theorem fX7_25 : fm_fld RX7 25 TX7 8 4 := ⟨by decide, tb_1 (i := 192) (by decide +kernel) (by decide +kernel)⟩
theorem fX7_29 : fm_fld RX7 29 TX7 8 5 := ⟨by decide, tb_1 (i := 193) (by decide +kernel) (by decide +kernel)⟩
theorem fX7_32 : fm_fld RX7 32 TX7 8 6 := ⟨by decide, tb_1 (i := 194) (by decide +kernel) (by decide +kernel)⟩
theorem fX7_92 : fm_fld RX7 92 TX7 8 7 := ⟨by decide, tb_1 (i := 195) (by decide +kernel) (by decide +kernel)⟩
theorem fX6_13 : fm_fld RX6 13 TX6 3 0 := ⟨by decide, tb_1 (i := 223) (by decide +kernel) (by decide +kernel)⟩
theorem fX6_23 : fm_fld RX6 23 TX6 3 1 := ⟨by decide, tb_1 (i := 224) (by decide +kernel) (by decide +kernel)⟩
theorem fX6_19 : fm_fld RX6 19 TX6 3 2 := ⟨by decide, tb_1 (i := 225) (by decide +kernel) (by decide +kernel)⟩
theorem fX3_9 : fm_fld RX3 9 TX3 4 0 := ⟨by decide, tb_1 (i := 238) (by decide +kernel) (by decide +kernel)⟩
theorem fX3_15 : fm_fld RX3 15 TX3 4 1 := ⟨by decide, tb_1 (i := 239) (by decide +kernel) (by decide +kernel)⟩
theorem fX3_18 : fm_fld RX3 18 TX3 4 2 := ⟨by decide, tb_2 (i := 0) (by decide +kernel) (by decide +kernel)⟩
theorem fX3_22 : fm_fld RX3 22 TX3 4 3 := ⟨by decide, tb_2 (i := 1) (by decide +kernel) (by decide +kernel)⟩
theorem fX11_10 : fm_fld RX11 10 TX11 16 0 := ⟨by decide, tb_2 (i := 11) (by decide +kernel) (by decide +kernel)⟩
theorem fX11_19 : fm_fld RX11 19 TX11 16 1 := ⟨by decide, tb_2 (i := 12) (by decide +kernel) (by decide +kernel)⟩
theorem fX11_23 : fm_fld RX11 23 TX11 16 2 := ⟨by decide, tb_2 (i := 13) (by decide +kernel) (by decide +kernel)⟩
theorem fX11_29 : fm_fld RX11 29 TX11 16 3 := ⟨by decide, tb_2 (i := 14) (by decide +kernel) (by decide +kernel)⟩
theorem fX11_36 : fm_fld RX11 36 TX11 16 4 := ⟨by decide, tb_2 (i := 15) (by decide +kernel) (by decide +kernel)⟩
theorem fX11_40 : fm_fld RX11 40 TX11 16 5 := ⟨by decide, tb_2 (i := 16) (by decide +kernel) (by decide +kernel)⟩
theorem fX11_44 : fm_fld RX11 44 TX11 16 6 := ⟨by decide, tb_2 (i := 17) (by decide +kernel) (by decide +kernel)⟩
theorem fX11_50 : fm_fld RX11 50 TX11 16 7 := ⟨by decide, tb_2 (i := 18) (by decide +kernel) (by decide +kernel)⟩
theorem fX11_57 : fm_fld RX11 57 TX11 16 8 := ⟨by decide, tb_2 (i := 19) (by decide +kernel) (by decide +kernel)⟩
theorem fX11_63 : fm_fld RX11 63 TX11 16 9 := ⟨by decide, tb_2 (i := 20) (by decide +kernel) (by decide +kernel)⟩
theorem fX11_70 : fm_fld RX11 70 TX11 16 10 := ⟨by decide, tb_2 (i := 21) (by decide +kernel) (by decide +kernel)⟩
theorem fX11_77 : fm_fld RX11 77 TX11 16 11 := ⟨by decide, tb_2 (i := 22) (by decide +kernel) (by decide +kernel)⟩
theorem fX11_81 : fm_fld RX11 81 TX11 16 12 := ⟨by decide, tb_2 (i := 23) (by decide +kernel) (by decide +kernel)⟩
theorem fX11_88 : fm_fld RX11 88 TX11 16 13 := ⟨by decide, tb_2 (i := 24) (by decide +kernel) (by decide +kernel)⟩
theorem fX11_92 : fm_fld RX11 92 TX11 16 14 := ⟨by decide, tb_2 (i := 25) (by decide +kernel) (by decide +kernel)⟩
theorem fX11_333 : fm_fld RX11 333 TX11 16 15 := ⟨by decide, tb_2 (i := 26) (by decide +kernel) (by decide +kernel)⟩
theorem fX12_9 : fm_fld RX12 9 TX12 42 0 := ⟨by decide, tb_5 (i := 208) (by decide +kernel) (by decide +kernel)⟩
theorem fX12_13 : fm_fld RX12 13 TX12 42 1 := ⟨by decide, tb_5 (i := 209) (by decide +kernel) (by decide +kernel)⟩
theorem fX12_109 : fm_fld RX12 109 TX12 42 2 := ⟨by decide, tb_5 (i := 210) (by decide +kernel) (by decide +kernel)⟩
theorem fX12_17 : fm_fld RX12 17 TX12 42 3 := ⟨by decide, tb_5 (i := 211) (by decide +kernel) (by decide +kernel)⟩
theorem fX12_98 : fm_fld RX12 98 TX12 42 4 := ⟨by decide, tb_5 (i := 212) (by decide +kernel) (by decide +kernel)⟩
theorem fX12_94 : fm_fld RX12 94 TX12 42 5 := ⟨by decide, tb_5 (i := 213) (by decide +kernel) (by decide +kernel)⟩
theorem fX12_112 : fm_fld RX12 112 TX12 42 6 := ⟨by decide, tb_5 (i := 214) (by decide +kernel) (by decide +kernel)⟩
theorem fX12_115 : fm_fld RX12 115 TX12 42 7 := ⟨by decide, tb_5 (i := 215) (by decide +kernel) (by decide +kernel)⟩
theorem fX12_118 : fm_fld RX12 118 TX12 42 8 := ⟨by decide, tb_5 (i := 216) (by decide +kernel) (by decide +kernel)⟩
theorem fX12_121 : fm_fld RX12 121 TX12 42 9 := ⟨by decide, tb_5 (i := 217) (by decide +kernel) (by decide +kernel)⟩
theorem fX12_124 : fm_fld RX12 124 TX12 42 10 := ⟨by decide, tb_5 (i := 218) (by decide +kernel) (by decide +kernel)⟩
theorem fX12_21 : fm_fld RX12 21 TX12 42 11 := ⟨by decide, tb_5 (i := 219) (by decide +kernel) (by decide +kernel)⟩
theorem fX12_24 : fm_fld RX12 24 TX12 42 12 := ⟨by decide, tb_5 (i := 220) (by decide +kernel) (by decide +kernel)⟩
theorem fX12_27 : fm_fld RX12 27 TX12 42 13 := ⟨by decide, tb_5 (i := 221) (by decide +kernel) (by decide +kernel)⟩
theorem fX12_198 : fm_fld RX12 198 TX12 42 14 := ⟨by decide, tb_5 (i := 222) (by decide +kernel) (by decide +kernel)⟩
theorem fX12_191 : fm_fld RX12 191 TX12 42 15 := ⟨by decide, tb_5 (i := 223) (by decide +kernel) (by decide +kernel)⟩
theorem fX12_30 : fm_fld RX12 30 TX12 42 16 := ⟨by decide, tb_5 (i := 224) (by decide +kernel) (by decide +kernel)⟩
theorem fX12_33 : fm_fld RX12 33 TX12 42 17 := ⟨by decide, tb_5 (i := 225) (by decide +kernel) (by decide +kernel)⟩
theorem fX12_228 : fm_fld RX12 228 TX12 42 18 := ⟨by decide, tb_5 (i := 226) (by decide +kernel) (by decide +kernel)⟩
theorem fX12_36 : fm_fld RX12 36 TX12 42 19 := ⟨by decide, tb_5 (i := 227) (by decide +kernel) (by decide +kernel)⟩
theorem fX12_39 : fm_fld RX12 39 TX12 42 20 := ⟨by decide, tb_5 (i := 228) (by decide +kernel) (by decide +kernel)⟩
theorem fX12_201 : fm_fld RX12 201 TX12 42 21 := ⟨by decide, tb_5 (i := 229) (by decide +kernel) (by decide +kernel)⟩
theorem fX12_42 : fm_fld RX12 42 TX12 42 22 := ⟨by decide, tb_5 (i := 230) (by decide +kernel) (by decide +kernel)⟩
theorem fX12_45 : fm_fld RX12 45 TX12 42 23 := ⟨by decide, tb_5 (i := 231) (by decide +kernel) (by decide +kernel)⟩
theorem fX12_48 : fm_fld RX12 48 TX12 42 24 := ⟨by decide, tb_5 (i := 232) (by decide +kernel) (by decide +kernel)⟩
theorem fX12_51 : fm_fld RX12 51 TX12 42 25 := ⟨by decide, tb_5 (i := 233) (by decide +kernel) (by decide +kernel)⟩
theorem fX12_276 : fm_fld RX12 276 TX12 42 26 := ⟨by decide, tb_5 (i := 234) (by decide +kernel) (by decide +kernel)⟩
theorem fX12_54 : fm_fld RX12 54 TX12 42 27 := ⟨by decide, tb_5 (i := 235) (by decide +kernel) (by decide +kernel)⟩
theorem fX12_57 : fm_fld RX12 57 TX12 42 28 := ⟨by decide, tb_5 (i := 236) (by decide +kernel) (by decide +kernel)⟩
theorem fX12_60 : fm_fld RX12 60 TX12 42 29 := ⟨by decide, tb_5 (i := 237) (by decide +kernel) (by decide +kernel)⟩
theorem fX12_63 : fm_fld RX12 63 TX12 42 30 := ⟨by decide, tb_5 (i := 238) (by decide +kernel) (by decide +kernel)⟩
theorem fX12_66 : fm_fld RX12 66 TX12 42 31 := ⟨by decide, tb_5 (i := 239) (by decide +kernel) (by decide +kernel)⟩
theorem fX12_69 : fm_fld RX12 69 TX12 42 32 := ⟨by decide, tb_6 (i := 0) (by decide +kernel) (by decide +kernel)⟩
theorem fX12_72 : fm_fld RX12 72 TX12 42 33 := ⟨by decide, tb_6 (i := 1) (by decide +kernel) (by decide +kernel)⟩
theorem fX12_75 : fm_fld RX12 75 TX12 42 34 := ⟨by decide, tb_6 (i := 2) (by decide +kernel) (by decide +kernel)⟩
theorem fX12_78 : fm_fld RX12 78 TX12 42 35 := ⟨by decide, tb_6 (i := 3) (by decide +kernel) (by decide +kernel)⟩
theorem fX12_81 : fm_fld RX12 81 TX12 42 36 := ⟨by decide, tb_6 (i := 4) (by decide +kernel) (by decide +kernel)⟩
theorem fX12_348 : fm_fld RX12 348 TX12 42 37 := ⟨by decide, tb_6 (i := 5) (by decide +kernel) (by decide +kernel)⟩
theorem fX12_84 : fm_fld RX12 84 TX12 42 38 := ⟨by decide, tb_6 (i := 6) (by decide +kernel) (by decide +kernel)⟩
theorem fX12_366 : fm_fld RX12 366 TX12 42 39 := ⟨by decide, tb_6 (i := 7) (by decide +kernel) (by decide +kernel)⟩
theorem fX12_88 : fm_fld RX12 88 TX12 42 40 := ⟨by decide, tb_6 (i := 8) (by decide +kernel) (by decide +kernel)⟩
theorem fX12_91 : fm_fld RX12 91 TX12 42 41 := ⟨by decide, tb_6 (i := 9) (by decide +kernel) (by decide +kernel)⟩
theorem wX11_sign : fm_wv yX11_sign cX11_sign 2 (some .int) 1 := ⟨tb_2 (i := 61) (by decide +kernel) (by decide +kernel), tb_2 (i := 62) (by decide +kernel) (by decide +kernel), tb_1 (i := 1) (by decide +kernel) (by decide +kernel), tb_2 (i := 63) (by rfl) (by decide +kernel), rfl, by decide +kernel, by decide +kernel, by decide +kernel⟩
theorem wX9_append : fm_wv yX9_append cX9_append 3 (some .boolean) 1 := ⟨tb_2 (i := 65) (by decide +kernel) (by decide +kernel), tb_2 (i := 66) (by decide +kernel) (by decide +kernel), tb_1 (i := 2) (by decide +kernel) (by decide +kernel), tb_2 (i := 67) (by rfl) (by decide +kernel), rfl, by decide +kernel, by decide +kernel, by decide +kernel⟩
theorem wX9_length : fm_wv yX9_length cX9_length 1 (some .int) 0 := ⟨tb_2 (i := 69) (by decide +kernel) (by decide +kernel), tb_2 (i := 70) (by decide +kernel) (by decide +kernel), tb_1 (i := 2) (by decide +kernel) (by decide +kernel), tb_2 (i := 71) (by rfl) (by decide +kernel), rfl, by decide +kernel, by decide +kernel, by decide +kernel⟩
theorem wX11_end : fm_wv yX11_end cX11_end 2 (some .boolean) 1 := ⟨tb_2 (i := 73) (by decide +kernel) (by decide +kernel), tb_2 (i := 74) (by decide +kernel) (by decide +kernel), tb_1 (i := 1) (by decide +kernel) (by decide +kernel), tb_2 (i := 75) (by rfl) (by decide +kernel), rfl, by decide +kernel, by decide +kernel, by decide +kernel⟩
theorem wX9_cut : fm_wv yX9_cut cX9_cut 2 (some .boolean) 1 := ⟨tb_2 (i := 77) (by decide +kernel) (by decide +kernel), tb_2 (i := 78) (by decide +kernel) (by decide +kernel), tb_1 (i := 2) (by decide +kernel) (by decide +kernel), tb_2 (i := 79) (by rfl) (by decide +kernel), rfl, by decide +kernel, by decide +kernel, by decide +kernel⟩
theorem wX11_lists : fm_wv yX11_lists cX11_lists 3 (some .int) 1 := ⟨tb_2 (i := 81) (by decide +kernel) (by decide +kernel), tb_2 (i := 82) (by decide +kernel) (by decide +kernel), tb_1 (i := 1) (by decide +kernel) (by decide +kernel), tb_2 (i := 83) (by rfl) (by decide +kernel), rfl, by decide +kernel, by decide +kernel, by decide +kernel⟩
theorem wX9_numbersInto : fm_wv yX9_numbersInto cX9_numbersInto 4 (some .int) 1 := ⟨tb_2 (i := 85) (by decide +kernel) (by decide +kernel), tb_2 (i := 86) (by decide +kernel) (by decide +kernel), tb_1 (i := 2) (by decide +kernel) (by decide +kernel), tb_2 (i := 87) (by rfl) (by decide +kernel), rfl, by decide +kernel, by decide +kernel, by decide +kernel⟩
theorem wX9_hasDigit : fm_wv yX9_hasDigit cX9_hasDigit 2 (some .boolean) 1 := ⟨tb_2 (i := 89) (by decide +kernel) (by decide +kernel), tb_2 (i := 90) (by decide +kernel) (by decide +kernel), tb_1 (i := 2) (by decide +kernel) (by decide +kernel), tb_2 (i := 91) (by rfl) (by decide +kernel), rfl, by decide +kernel, by decide +kernel, by decide +kernel⟩
theorem wX9_at : fm_wv yX9_at cX9_at 2 (some .char) 1 := ⟨tb_2 (i := 93) (by decide +kernel) (by decide +kernel), tb_2 (i := 94) (by decide +kernel) (by decide +kernel), tb_1 (i := 2) (by decide +kernel) (by decide +kernel), tb_2 (i := 95) (by rfl) (by decide +kernel), rfl, by decide +kernel, by decide +kernel, by decide +kernel⟩
theorem wX9_digit : fm_wv yX9_digit cX9_digit 2 (some .int) 1 := ⟨tb_2 (i := 97) (by decide +kernel) (by decide +kernel), tb_2 (i := 98) (by decide +kernel) (by decide +kernel), tb_1 (i := 2) (by decide +kernel) (by decide +kernel), tb_2 (i := 99) (by rfl) (by decide +kernel), rfl, by decide +kernel, by decide +kernel, by decide +kernel⟩
theorem wX9_clear : fm_wv yX9_clear cX9_clear 1 none 0 := ⟨tb_2 (i := 101) (by decide +kernel) (by decide +kernel), tb_2 (i := 102) (by decide +kernel) (by decide +kernel), tb_1 (i := 2) (by decide +kernel) (by decide +kernel), tb_2 (i := 103) (by rfl) (by decide +kernel), rfl, by decide +kernel, by decide +kernel, by decide +kernel⟩
theorem wX8_copyFrom : fm_wv yX8_copyFrom cX8_copyFrom 2 none 1 := ⟨tb_2 (i := 105) (by decide +kernel) (by decide +kernel), tb_2 (i := 106) (by decide +kernel) (by decide +kernel), tb_1 (i := 3) (by decide +kernel) (by decide +kernel), tb_2 (i := 107) (by rfl) (by decide +kernel), rfl, by decide +kernel, by decide +kernel, by decide +kernel⟩
theorem wX8_setList : fm_wv yX8_setList cX8_setList 5 (some .int) 3 := ⟨tb_2 (i := 112) (by decide +kernel) (by decide +kernel), tb_2 (i := 113) (by decide +kernel) (by decide +kernel), tb_1 (i := 3) (by decide +kernel) (by decide +kernel), tb_2 (i := 114) (by rfl) (by decide +kernel), rfl, by decide +kernel, by decide +kernel, by decide +kernel⟩
theorem wX8_isBelow : fm_ws yX8_isBelow cX8_isBelow 2 (some .boolean) 2 := ⟨tb_2 (i := 116) (by decide +kernel) (by decide +kernel), tb_1 (i := 3) (by decide +kernel) (by decide +kernel), tb_2 (i := 117) (by rfl) (by decide +kernel), by decide +kernel, by decide +kernel, by decide +kernel⟩
theorem wX8_putNumber : fm_wv yX8_putNumber cX8_putNumber 5 (some .int) 2 := ⟨tb_2 (i := 119) (by decide +kernel) (by decide +kernel), tb_2 (i := 120) (by decide +kernel) (by decide +kernel), tb_1 (i := 3) (by decide +kernel) (by decide +kernel), tb_2 (i := 121) (by rfl) (by decide +kernel), rfl, by decide +kernel, by decide +kernel, by decide +kernel⟩
theorem wX11_settled : fm_wv yX11_settled cX11_settled 2 (some .int) 1 := ⟨tb_2 (i := 124) (by decide +kernel) (by decide +kernel), tb_s (i := 0) (by decide +kernel) (by decide +kernel), tb_1 (i := 1) (by decide +kernel) (by decide +kernel), tb_2 (i := 125) (by rfl) (by decide +kernel), rfl, by decide +kernel, by decide +kernel, by decide +kernel⟩
theorem wX5_add : fm_wv yX5_add cX5_add 2 none 1 := ⟨tb_2 (i := 127) (by decide +kernel) (by decide +kernel), tb_2 (i := 128) (by decide +kernel) (by decide +kernel), tb_1 (i := 5) (by decide +kernel) (by decide +kernel), tb_2 (i := 129) (by rfl) (by decide +kernel), rfl, by decide +kernel, by decide +kernel, by decide +kernel⟩
theorem wX11_changed : fm_wv yX11_changed cX11_changed 2 none 0 := ⟨tb_2 (i := 133) (by decide +kernel) (by decide +kernel), tb_s (i := 1) (by decide +kernel) (by decide +kernel), tb_1 (i := 1) (by decide +kernel) (by decide +kernel), tb_2 (i := 134) (by rfl) (by decide +kernel), rfl, by decide +kernel, by decide +kernel, by decide +kernel⟩
theorem wX6_outdate : fm_wv yX6_outdate cX6_outdate 1 none 0 := ⟨tb_2 (i := 136) (by decide +kernel) (by decide +kernel), tb_2 (i := 137) (by decide +kernel) (by decide +kernel), tb_1 (i := 10) (by decide +kernel) (by decide +kernel), tb_2 (i := 138) (by rfl) (by decide +kernel), rfl, by decide +kernel, by decide +kernel, by decide +kernel⟩
theorem wX3_outdate : fm_wv yX3_outdate cX3_outdate 1 none 0 := ⟨tb_2 (i := 140) (by decide +kernel) (by decide +kernel), tb_2 (i := 141) (by decide +kernel) (by decide +kernel), tb_1 (i := 12) (by decide +kernel) (by decide +kernel), tb_2 (i := 142) (by rfl) (by decide +kernel), rfl, by decide +kernel, by decide +kernel, by decide +kernel⟩
theorem wX11_rule : fm_wv yX11_rule cX11_rule 3 (some .int) 0 := ⟨tb_2 (i := 144) (by decide +kernel) (by decide +kernel), tb_2 (i := 145) (by decide +kernel) (by decide +kernel), tb_1 (i := 1) (by decide +kernel) (by decide +kernel), tb_2 (i := 146) (by rfl) (by decide +kernel), rfl, by decide +kernel, by decide +kernel, by decide +kernel⟩
theorem wX7_read : fm_wv yX7_read cX7_read 7 (some .int) 1 := ⟨tb_2 (i := 148) (by decide +kernel) (by decide +kernel), tb_2 (i := 149) (by decide +kernel) (by decide +kernel), tb_1 (i := 9) (by decide +kernel) (by decide +kernel), tb_2 (i := 150) (by rfl) (by decide +kernel), rfl, by decide +kernel, by decide +kernel, by decide +kernel⟩
theorem wX7_addStep : fm_wv yX7_addStep cX7_addStep 2 none 1 := ⟨tb_2 (i := 154) (by decide +kernel) (by decide +kernel), tb_s (i := 2) (by decide +kernel) (by decide +kernel), tb_1 (i := 9) (by decide +kernel) (by decide +kernel), tb_2 (i := 155) (by rfl) (by decide +kernel), rfl, by decide +kernel, by decide +kernel, by decide +kernel⟩
theorem wX7_startThing : fm_wv yX7_startThing cX7_startThing 5 (some .int) 3 := ⟨tb_2 (i := 162) (by decide +kernel) (by decide +kernel), tb_s (i := 3) (by decide +kernel) (by decide +kernel), tb_1 (i := 9) (by decide +kernel) (by decide +kernel), tb_2 (i := 163) (by rfl) (by decide +kernel), rfl, by decide +kernel, by decide +kernel, by decide +kernel⟩
theorem wX7_readNumber : fm_wv yX7_readNumber cX7_readNumber 6 (some .int) 3 := ⟨tb_2 (i := 167) (by decide +kernel) (by decide +kernel), tb_s (i := 4) (by decide +kernel) (by decide +kernel), tb_1 (i := 9) (by decide +kernel) (by decide +kernel), tb_2 (i := 168) (by rfl) (by decide +kernel), rfl, by decide +kernel, by decide +kernel, by decide +kernel⟩
theorem wX7_hold : fm_wv yX7_hold cX7_hold 2 none 1 := ⟨tb_2 (i := 172) (by decide +kernel) (by decide +kernel), tb_s (i := 5) (by decide +kernel) (by decide +kernel), tb_1 (i := 9) (by decide +kernel) (by decide +kernel), tb_2 (i := 173) (by rfl) (by decide +kernel), rfl, by decide +kernel, by decide +kernel, by decide +kernel⟩
theorem wX7_openBracket : fm_wv yX7_openBracket cX7_openBracket 1 (some .boolean) 0 := ⟨tb_2 (i := 176) (by decide +kernel) (by decide +kernel), tb_s (i := 6) (by decide +kernel) (by decide +kernel), tb_1 (i := 9) (by decide +kernel) (by decide +kernel), tb_2 (i := 177) (by rfl) (by decide +kernel), rfl, by decide +kernel, by decide +kernel, by decide +kernel⟩
theorem wX7_isLetter : fm_ws yX7_isLetter cX7_isLetter 1 (some .boolean) 1 := ⟨tb_2 (i := 179) (by decide +kernel) (by decide +kernel), tb_1 (i := 9) (by decide +kernel) (by decide +kernel), tb_2 (i := 180) (by rfl) (by decide +kernel), by decide +kernel, by decide +kernel, by decide +kernel⟩
theorem wX7_goOn : fm_wv yX7_goOn cX7_goOn 3 (some .boolean) 1 := ⟨tb_2 (i := 183) (by decide +kernel) (by decide +kernel), tb_s (i := 7) (by decide +kernel) (by decide +kernel), tb_1 (i := 9) (by decide +kernel) (by decide +kernel), tb_2 (i := 184) (by rfl) (by decide +kernel), rfl, by decide +kernel, by decide +kernel, by decide +kernel⟩
theorem wX7_closeBracket : fm_wv yX7_closeBracket cX7_closeBracket 1 (some .boolean) 0 := ⟨tb_2 (i := 187) (by decide +kernel) (by decide +kernel), tb_s (i := 8) (by decide +kernel) (by decide +kernel), tb_1 (i := 9) (by decide +kernel) (by decide +kernel), tb_2 (i := 188) (by rfl) (by decide +kernel), rfl, by decide +kernel, by decide +kernel, by decide +kernel⟩
theorem wX7_release : fm_wv yX7_release cX7_release 2 none 1 := ⟨tb_2 (i := 191) (by decide +kernel) (by decide +kernel), tb_s (i := 9) (by decide +kernel) (by decide +kernel), tb_1 (i := 9) (by decide +kernel) (by decide +kernel), tb_2 (i := 192) (by rfl) (by decide +kernel), rfl, by decide +kernel, by decide +kernel, by decide +kernel⟩
theorem wX7_bindingOf : fm_ws yX7_bindingOf cX7_bindingOf 1 (some .int) 1 := ⟨tb_2 (i := 194) (by decide +kernel) (by decide +kernel), tb_1 (i := 9) (by decide +kernel) (by decide +kernel), tb_2 (i := 195) (by rfl) (by decide +kernel), by decide +kernel, by decide +kernel, by decide +kernel⟩
theorem wX11_sheet : fm_wv yX11_sheet cX11_sheet 6 (some .int) 4 := ⟨tb_2 (i := 197) (by decide +kernel) (by decide +kernel), tb_2 (i := 198) (by decide +kernel) (by decide +kernel), tb_1 (i := 1) (by decide +kernel) (by decide +kernel), tb_2 (i := 199) (by rfl) (by decide +kernel), rfl, by decide +kernel, by decide +kernel, by decide +kernel⟩
theorem wX8_weigh : fm_wv yX8_weigh cX8_weigh 8 (some .int) 4 := ⟨tb_2 (i := 201) (by decide +kernel) (by decide +kernel), tb_2 (i := 202) (by decide +kernel) (by decide +kernel), tb_1 (i := 3) (by decide +kernel) (by decide +kernel), tb_2 (i := 203) (by rfl) (by decide +kernel), rfl, by decide +kernel, by decide +kernel, by decide +kernel⟩
theorem wX8_entry : fm_ws yX8_entry cX8_entry 3 (some .int) 2 := ⟨tb_2 (i := 205) (by decide +kernel) (by decide +kernel), tb_1 (i := 3) (by decide +kernel) (by decide +kernel), tb_2 (i := 206) (by rfl) (by decide +kernel), by decide +kernel, by decide +kernel, by decide +kernel⟩
theorem wX11_puts : fm_wv yX11_puts cX11_puts 3 (some .int) 2 := ⟨tb_2 (i := 210) (by decide +kernel) (by decide +kernel), tb_2 (i := 211) (by decide +kernel) (by decide +kernel), tb_1 (i := 1) (by decide +kernel) (by decide +kernel), tb_2 (i := 212) (by rfl) (by decide +kernel), rfl, by decide +kernel, by decide +kernel, by decide +kernel⟩
theorem wX11_takes : fm_wv yX11_takes cX11_takes 3 (some .int) 2 := ⟨tb_2 (i := 215) (by decide +kernel) (by decide +kernel), tb_2 (i := 216) (by decide +kernel) (by decide +kernel), tb_1 (i := 1) (by decide +kernel) (by decide +kernel), tb_2 (i := 217) (by rfl) (by decide +kernel), rfl, by decide +kernel, by decide +kernel, by decide +kernel⟩
theorem wX8_takeNumber : fm_wv yX8_takeNumber cX8_takeNumber 6 (some .int) 2 := ⟨tb_2 (i := 219) (by decide +kernel) (by decide +kernel), tb_2 (i := 220) (by decide +kernel) (by decide +kernel), tb_1 (i := 3) (by decide +kernel) (by decide +kernel), tb_2 (i := 221) (by rfl) (by decide +kernel), rfl, by decide +kernel, by decide +kernel, by decide +kernel⟩
theorem wX8_numberAt : fm_wv yX8_numberAt cX8_numberAt 3 (some .int) 2 := ⟨tb_2 (i := 223) (by decide +kernel) (by decide +kernel), tb_2 (i := 224) (by decide +kernel) (by decide +kernel), tb_1 (i := 3) (by decide +kernel) (by decide +kernel), tb_2 (i := 225) (by rfl) (by decide +kernel), rfl, by decide +kernel, by decide +kernel, by decide +kernel⟩
theorem wX8_sizeOf : fm_wv yX8_sizeOf cX8_sizeOf 2 (some .int) 1 := ⟨tb_2 (i := 227) (by decide +kernel) (by decide +kernel), tb_2 (i := 228) (by decide +kernel) (by decide +kernel), tb_1 (i := 3) (by decide +kernel) (by decide +kernel), tb_2 (i := 229) (by rfl) (by decide +kernel), rfl, by decide +kernel, by decide +kernel, by decide +kernel⟩
theorem wX11_joins : fm_wv yX11_joins cX11_joins 4 (some .int) 3 := ⟨tb_2 (i := 231) (by decide +kernel) (by decide +kernel), tb_2 (i := 232) (by decide +kernel) (by decide +kernel), tb_1 (i := 1) (by decide +kernel) (by decide +kernel), tb_2 (i := 233) (by rfl) (by decide +kernel), rfl, by decide +kernel, by decide +kernel, by decide +kernel⟩
theorem wX8_joinNodes : fm_wv yX8_joinNodes cX8_joinNodes 6 (some .int) 3 := ⟨tb_2 (i := 235) (by decide +kernel) (by decide +kernel), tb_2 (i := 236) (by decide +kernel) (by decide +kernel), tb_1 (i := 3) (by decide +kernel) (by decide +kernel), tb_2 (i := 237) (by rfl) (by decide +kernel), rfl, by decide +kernel, by decide +kernel, by decide +kernel⟩
theorem wX8_areTwoNodes : fm_ws yX8_areTwoNodes cX8_areTwoNodes 2 (some .boolean) 2 := ⟨tb_2 (i := 239) (by decide +kernel) (by decide +kernel), tb_1 (i := 3) (by decide +kernel) (by decide +kernel), tb_3 (i := 0) (by rfl) (by decide +kernel), by decide +kernel, by decide +kernel, by decide +kernel⟩
theorem wX8_pairOf : fm_ws yX8_pairOf cX8_pairOf 2 (some .int) 2 := ⟨tb_3 (i := 2) (by decide +kernel) (by decide +kernel), tb_1 (i := 3) (by decide +kernel) (by decide +kernel), tb_3 (i := 3) (by rfl) (by decide +kernel), by decide +kernel, by decide +kernel, by decide +kernel⟩
theorem wX8_edges : fm_wv yX8_edges cX8_edges 3 (some .int) 0 := ⟨tb_3 (i := 5) (by decide +kernel) (by decide +kernel), tb_3 (i := 6) (by decide +kernel) (by decide +kernel), tb_1 (i := 3) (by decide +kernel) (by decide +kernel), tb_3 (i := 7) (by rfl) (by decide +kernel), rfl, by decide +kernel, by decide +kernel, by decide +kernel⟩
theorem wX11_costs : fm_wv yX11_costs cX11_costs 4 (some .int) 3 := ⟨tb_3 (i := 9) (by decide +kernel) (by decide +kernel), tb_3 (i := 10) (by decide +kernel) (by decide +kernel), tb_1 (i := 1) (by decide +kernel) (by decide +kernel), tb_3 (i := 11) (by rfl) (by decide +kernel), rfl, by decide +kernel, by decide +kernel, by decide +kernel⟩
theorem wX8_setCost : fm_wv yX8_setCost cX8_setCost 5 (some .int) 3 := ⟨tb_3 (i := 13) (by decide +kernel) (by decide +kernel), tb_3 (i := 14) (by decide +kernel) (by decide +kernel), tb_1 (i := 3) (by decide +kernel) (by decide +kernel), tb_3 (i := 15) (by rfl) (by decide +kernel), rfl, by decide +kernel, by decide +kernel, by decide +kernel⟩
theorem wX11_sets : fm_wv yX11_sets cX11_sets 3 (some .int) 2 := ⟨tb_3 (i := 17) (by decide +kernel) (by decide +kernel), tb_3 (i := 18) (by decide +kernel) (by decide +kernel), tb_1 (i := 1) (by decide +kernel) (by decide +kernel), tb_3 (i := 19) (by rfl) (by decide +kernel), rfl, by decide +kernel, by decide +kernel, by decide +kernel⟩
theorem wX8_setWhat : fm_wv yX8_setWhat cX8_setWhat 5 (some .int) 2 := ⟨tb_3 (i := 21) (by decide +kernel) (by decide +kernel), tb_3 (i := 22) (by decide +kernel) (by decide +kernel), tb_1 (i := 3) (by decide +kernel) (by decide +kernel), tb_3 (i := 23) (by rfl) (by decide +kernel), rfl, by decide +kernel, by decide +kernel, by decide +kernel⟩
theorem wX11_ends : fm_wv yX11_ends cX11_ends 3 (some .int) 2 := ⟨tb_3 (i := 25) (by decide +kernel) (by decide +kernel), tb_3 (i := 26) (by decide +kernel) (by decide +kernel), tb_1 (i := 1) (by decide +kernel) (by decide +kernel), tb_3 (i := 27) (by rfl) (by decide +kernel), rfl, by decide +kernel, by decide +kernel, by decide +kernel⟩
theorem wX8_setEnds : fm_wv yX8_setEnds cX8_setEnds 4 (some .int) 2 := ⟨tb_3 (i := 29) (by decide +kernel) (by decide +kernel), tb_3 (i := 30) (by decide +kernel) (by decide +kernel), tb_1 (i := 3) (by decide +kernel) (by decide +kernel), tb_3 (i := 31) (by rfl) (by decide +kernel), rfl, by decide +kernel, by decide +kernel, by decide +kernel⟩
theorem wX8_endsAsNumber : fm_wv yX8_endsAsNumber cX8_endsAsNumber 1 (some .int) 0 := ⟨tb_3 (i := 33) (by decide +kernel) (by decide +kernel), tb_3 (i := 34) (by decide +kernel) (by decide +kernel), tb_1 (i := 3) (by decide +kernel) (by decide +kernel), tb_3 (i := 35) (by rfl) (by decide +kernel), rfl, by decide +kernel, by decide +kernel, by decide +kernel⟩
theorem wX11_day : fm_wv yX11_day cX11_day 3 (some .int) 0 := ⟨tb_3 (i := 37) (by decide +kernel) (by decide +kernel), tb_3 (i := 38) (by decide +kernel) (by decide +kernel), tb_1 (i := 1) (by decide +kernel) (by decide +kernel), tb_3 (i := 39) (by rfl) (by decide +kernel), rfl, by decide +kernel, by decide +kernel, by decide +kernel⟩
theorem wX0_fault : fm_ws yX0_fault cX0_fault 5 (some .int) 1 := ⟨tb_3 (i := 41) (by decide +kernel) (by decide +kernel), tb_1 (i := 4) (by decide +kernel) (by decide +kernel), tb_3 (i := 42) (by rfl) (by decide +kernel), by decide +kernel, by decide +kernel, by decide +kernel⟩
theorem wX0_formOf : fm_ws yX0_formOf cX0_formOf 1 (some (.object "java/lang/String")) 1 := ⟨tb_3 (i := 47) (by decide +kernel) (by decide +kernel), tb_1 (i := 4) (by decide +kernel) (by decide +kernel), tb_3 (i := 48) (by rfl) (by decide +kernel), by decide +kernel, by decide +kernel, by decide +kernel⟩
theorem wX0_mayStand : fm_ws yX0_mayStand cX0_mayStand 3 (some .boolean) 2 := ⟨tb_3 (i := 109) (by decide +kernel) (by decide +kernel), tb_1 (i := 4) (by decide +kernel) (by decide +kernel), tb_3 (i := 110) (by rfl) (by decide +kernel), by decide +kernel, by decide +kernel, by decide +kernel⟩
theorem wX0_perform : fm_wv yX0_perform cX0_perform 5 (some .int) 2 := ⟨tb_3 (i := 112) (by decide +kernel) (by decide +kernel), tb_3 (i := 113) (by decide +kernel) (by decide +kernel), tb_1 (i := 4) (by decide +kernel) (by decide +kernel), tb_3 (i := 114) (by rfl) (by decide +kernel), rfl, by decide +kernel, by decide +kernel, by decide +kernel⟩
theorem wX0_performOne : fm_ws yX0_performOne cX0_performOne 3 (some .int) 3 := ⟨tb_3 (i := 116) (by decide +kernel) (by decide +kernel), tb_1 (i := 4) (by decide +kernel) (by decide +kernel), tb_3 (i := 117) (by rfl) (by decide +kernel), by decide +kernel, by decide +kernel, by decide +kernel⟩
theorem wX9_twoDigits : fm_wv yX9_twoDigits cX9_twoDigits 2 (some .int) 1 := ⟨tb_3 (i := 120) (by decide +kernel) (by decide +kernel), tb_3 (i := 121) (by decide +kernel) (by decide +kernel), tb_1 (i := 2) (by decide +kernel) (by decide +kernel), tb_3 (i := 122) (by rfl) (by decide +kernel), rfl, by decide +kernel, by decide +kernel, by decide +kernel⟩
theorem wX9_node : fm_wv yX9_node cX9_node 2 (some .int) 1 := ⟨tb_3 (i := 126) (by decide +kernel) (by decide +kernel), tb_3 (i := 127) (by decide +kernel) (by decide +kernel), tb_1 (i := 2) (by decide +kernel) (by decide +kernel), tb_3 (i := 128) (by rfl) (by decide +kernel), rfl, by decide +kernel, by decide +kernel, by decide +kernel⟩
theorem wX0_stopped : fm_wv yX0_stopped cX0_stopped 1 (some .boolean) 0 := ⟨tb_3 (i := 134) (by decide +kernel) (by decide +kernel), tb_3 (i := 135) (by decide +kernel) (by decide +kernel), tb_1 (i := 4) (by decide +kernel) (by decide +kernel), tb_3 (i := 136) (by rfl) (by decide +kernel), rfl, by decide +kernel, by decide +kernel, by decide +kernel⟩
theorem wX10_only : fm_wv yX10_only cX10_only 3 none 1 := ⟨tb_3 (i := 138) (by decide +kernel) (by decide +kernel), tb_3 (i := 139) (by decide +kernel) (by decide +kernel), tb_1 (i := 8) (by decide +kernel) (by decide +kernel), tb_3 (i := 140) (by rfl) (by decide +kernel), rfl, by decide +kernel, by decide +kernel, by decide +kernel⟩
theorem wX10_clear : fm_wv yX10_clear cX10_clear 1 none 0 := ⟨tb_3 (i := 142) (by decide +kernel) (by decide +kernel), tb_3 (i := 143) (by decide +kernel) (by decide +kernel), tb_1 (i := 8) (by decide +kernel) (by decide +kernel), tb_3 (i := 144) (by rfl) (by decide +kernel), rfl, by decide +kernel, by decide +kernel, by decide +kernel⟩
theorem wX10_add : fm_wv yX10_add cX10_add 3 none 1 := ⟨tb_3 (i := 146) (by decide +kernel) (by decide +kernel), tb_3 (i := 147) (by decide +kernel) (by decide +kernel), tb_1 (i := 8) (by decide +kernel) (by decide +kernel), tb_3 (i := 148) (by rfl) (by decide +kernel), rfl, by decide +kernel, by decide +kernel, by decide +kernel⟩
theorem wX11_undo : fm_wv yX11_undo cX11_undo 1 (some .int) 0 := ⟨tb_3 (i := 151) (by decide +kernel) (by decide +kernel), tb_3 (i := 152) (by decide +kernel) (by decide +kernel), tb_1 (i := 1) (by decide +kernel) (by decide +kernel), tb_3 (i := 153) (by rfl) (by decide +kernel), rfl, by decide +kernel, by decide +kernel, by decide +kernel⟩
theorem wX5_takeLatest : fm_wv yX5_takeLatest cX5_takeLatest 2 (some .boolean) 1 := ⟨tb_3 (i := 155) (by decide +kernel) (by decide +kernel), tb_3 (i := 156) (by decide +kernel) (by decide +kernel), tb_1 (i := 5) (by decide +kernel) (by decide +kernel), tb_3 (i := 157) (by rfl) (by decide +kernel), rfl, by decide +kernel, by decide +kernel, by decide +kernel⟩
theorem wX5_size : fm_wv yX5_size cX5_size 1 (some .int) 0 := ⟨tb_3 (i := 159) (by decide +kernel) (by decide +kernel), tb_3 (i := 160) (by decide +kernel) (by decide +kernel), tb_1 (i := 5) (by decide +kernel) (by decide +kernel), tb_3 (i := 161) (by rfl) (by decide +kernel), rfl, by decide +kernel, by decide +kernel, by decide +kernel⟩
theorem wX11_best : fm_wv yX11_best cX11_best 4 (some .int) 2 := ⟨tb_3 (i := 163) (by decide +kernel) (by decide +kernel), tb_3 (i := 164) (by decide +kernel) (by decide +kernel), tb_1 (i := 1) (by decide +kernel) (by decide +kernel), tb_3 (i := 165) (by rfl) (by decide +kernel), rfl, by decide +kernel, by decide +kernel, by decide +kernel⟩
theorem wX11_isKind : fm_ws yX11_isKind cX11_isKind 1 (some .boolean) 1 := ⟨tb_3 (i := 167) (by decide +kernel) (by decide +kernel), tb_1 (i := 1) (by decide +kernel) (by decide +kernel), tb_3 (i := 168) (by rfl) (by decide +kernel), by decide +kernel, by decide +kernel, by decide +kernel⟩
theorem wX11_isPlace : fm_ws yX11_isPlace cX11_isPlace 2 (some .boolean) 2 := ⟨tb_3 (i := 170) (by decide +kernel) (by decide +kernel), tb_1 (i := 1) (by decide +kernel) (by decide +kernel), tb_3 (i := 171) (by rfl) (by decide +kernel), by decide +kernel, by decide +kernel, by decide +kernel⟩
theorem wX11_orderOf : fm_wv yX11_orderOf cX11_orderOf 3 (some (.object "BestWalks$Order")) 1 := ⟨tb_3 (i := 174) (by decide +kernel) (by decide +kernel), tb_s (i := 10) (by decide +kernel) (by decide +kernel), tb_1 (i := 1) (by decide +kernel) (by decide +kernel), tb_3 (i := 175) (by rfl) (by decide +kernel), rfl, by decide +kernel, by decide +kernel, by decide +kernel⟩
theorem wX6_isKnown : fm_wv yX6_isKnown cX6_isKnown 1 (some .boolean) 0 := ⟨tb_3 (i := 177) (by decide +kernel) (by decide +kernel), tb_3 (i := 178) (by decide +kernel) (by decide +kernel), tb_1 (i := 10) (by decide +kernel) (by decide +kernel), tb_3 (i := 179) (by rfl) (by decide +kernel), rfl, by decide +kernel, by decide +kernel, by decide +kernel⟩
theorem wX6_clear : fm_wv yX6_clear cX6_clear 1 none 0 := ⟨tb_3 (i := 181) (by decide +kernel) (by decide +kernel), tb_3 (i := 182) (by decide +kernel) (by decide +kernel), tb_1 (i := 10) (by decide +kernel) (by decide +kernel), tb_3 (i := 183) (by rfl) (by decide +kernel), rfl, by decide +kernel, by decide +kernel, by decide +kernel⟩
theorem wX4_find : fm_wv yX4_find cX4_find 5 none 4 := ⟨tb_3 (i := 185) (by decide +kernel) (by decide +kernel), tb_3 (i := 186) (by decide +kernel) (by decide +kernel), tb_1 (i := 6) (by decide +kernel) (by decide +kernel), tb_3 (i := 187) (by rfl) (by decide +kernel), rfl, by decide +kernel, by decide +kernel, by decide +kernel⟩
theorem wX4_findChoices : fm_wv yX4_findChoices cX4_findChoices 7 none 3 := ⟨tb_3 (i := 190) (by decide +kernel) (by decide +kernel), tb_s (i := 11) (by decide +kernel) (by decide +kernel), tb_1 (i := 6) (by decide +kernel) (by decide +kernel), tb_3 (i := 191) (by rfl) (by decide +kernel), rfl, by decide +kernel, by decide +kernel, by decide +kernel⟩
theorem wX7_costOf : fm_wv yX7_costOf cX7_costOf 9 (some .int) 2 := ⟨tb_3 (i := 193) (by decide +kernel) (by decide +kernel), tb_3 (i := 194) (by decide +kernel) (by decide +kernel), tb_1 (i := 9) (by decide +kernel) (by decide +kernel), tb_3 (i := 195) (by rfl) (by decide +kernel), rfl, by decide +kernel, by decide +kernel, by decide +kernel⟩
theorem wX7_push : fm_wv yX7_push cX7_push 2 none 1 := ⟨tb_3 (i := 198) (by decide +kernel) (by decide +kernel), tb_s (i := 12) (by decide +kernel) (by decide +kernel), tb_1 (i := 9) (by decide +kernel) (by decide +kernel), tb_3 (i := 199) (by rfl) (by decide +kernel), rfl, by decide +kernel, by decide +kernel, by decide +kernel⟩
theorem wX7_valueOf : fm_ws yX7_valueOf cX7_valueOf 5 (some .int) 3 := ⟨tb_3 (i := 201) (by decide +kernel) (by decide +kernel), tb_1 (i := 9) (by decide +kernel) (by decide +kernel), tb_3 (i := 202) (by rfl) (by decide +kernel), by decide +kernel, by decide +kernel, by decide +kernel⟩
theorem wX7_gathered : fm_ws yX7_gathered cX7_gathered 3 (some .int) 3 := ⟨tb_3 (i := 204) (by decide +kernel) (by decide +kernel), tb_1 (i := 9) (by decide +kernel) (by decide +kernel), tb_3 (i := 205) (by rfl) (by decide +kernel), by decide +kernel, by decide +kernel, by decide +kernel⟩
theorem wX7_pop : fm_wv yX7_pop cX7_pop 1 (some .int) 0 := ⟨tb_3 (i := 208) (by decide +kernel) (by decide +kernel), tb_s (i := 13) (by decide +kernel) (by decide +kernel), tb_1 (i := 9) (by decide +kernel) (by decide +kernel), tb_3 (i := 209) (by rfl) (by decide +kernel), rfl, by decide +kernel, by decide +kernel, by decide +kernel⟩
theorem wX7_joined : fm_ws yX7_joined cX7_joined 3 (some .int) 3 := ⟨tb_3 (i := 211) (by decide +kernel) (by decide +kernel), tb_1 (i := 9) (by decide +kernel) (by decide +kernel), tb_3 (i := 212) (by rfl) (by decide +kernel), by decide +kernel, by decide +kernel, by decide +kernel⟩
theorem wX6_add : fm_wv yX6_add cX6_add 4 none 2 := ⟨tb_3 (i := 214) (by decide +kernel) (by decide +kernel), tb_3 (i := 215) (by decide +kernel) (by decide +kernel), tb_1 (i := 10) (by decide +kernel) (by decide +kernel), tb_3 (i := 216) (by rfl) (by decide +kernel), rfl, by decide +kernel, by decide +kernel, by decide +kernel⟩
theorem wX6_keyOf : fm_ws yX6_keyOf cX6_keyOf 3 (some .long) 2 := ⟨tb_3 (i := 218) (by decide +kernel) (by decide +kernel), tb_1 (i := 10) (by decide +kernel) (by decide +kernel), tb_3 (i := 219) (by rfl) (by decide +kernel), by decide +kernel, by decide +kernel, by decide +kernel⟩
theorem wX2_with : fm_ws yX2_with cX2_with 4 (some .long) 3 := ⟨tb_3 (i := 223) (by decide +kernel) (by decide +kernel), tb_1 (i := 23) (by decide +kernel) (by decide +kernel), tb_3 (i := 224) (by rfl) (by decide +kernel), by decide +kernel, by decide +kernel, by decide +kernel⟩
theorem wX4_findTrees : fm_wv yX4_findTrees cX4_findTrees 4 none 0 := ⟨tb_3 (i := 227) (by decide +kernel) (by decide +kernel), tb_s (i := 14) (by decide +kernel) (by decide +kernel), tb_1 (i := 6) (by decide +kernel) (by decide +kernel), tb_3 (i := 228) (by rfl) (by decide +kernel), rfl, by decide +kernel, by decide +kernel, by decide +kernel⟩
theorem wX8_weight : fm_wv yX8_weight cX8_weight 3 (some .int) 2 := ⟨tb_3 (i := 230) (by decide +kernel) (by decide +kernel), tb_3 (i := 231) (by decide +kernel) (by decide +kernel), tb_1 (i := 3) (by decide +kernel) (by decide +kernel), tb_3 (i := 232) (by rfl) (by decide +kernel), rfl, by decide +kernel, by decide +kernel, by decide +kernel⟩
theorem wX8_joinedNodes : fm_wv yX8_joinedNodes cX8_joinedNodes 3 (some .int) 0 := ⟨tb_3 (i := 234) (by decide +kernel) (by decide +kernel), tb_3 (i := 235) (by decide +kernel) (by decide +kernel), tb_1 (i := 3) (by decide +kernel) (by decide +kernel), tb_3 (i := 236) (by rfl) (by decide +kernel), rfl, by decide +kernel, by decide +kernel, by decide +kernel⟩
theorem wX4_regrouped : fm_ws yX4_regrouped cX4_regrouped 3 (some .int) 3 := ⟨tb_4 (i := 5) (by decide +kernel) (by decide +kernel), tb_1 (i := 6) (by decide +kernel) (by decide +kernel), tb_4 (i := 6) (by rfl) (by decide +kernel), by decide +kernel, by decide +kernel, by decide +kernel⟩
theorem wX4_growTree : fm_wv yX4_growTree cX4_growTree 9 none 5 := ⟨tb_4 (i := 9) (by decide +kernel) (by decide +kernel), tb_s (i := 15) (by decide +kernel) (by decide +kernel), tb_1 (i := 6) (by decide +kernel) (by decide +kernel), tb_4 (i := 10) (by rfl) (by decide +kernel), rfl, by decide +kernel, by decide +kernel, by decide +kernel⟩
theorem wX4_groupOf : fm_ws yX4_groupOf cX4_groupOf 2 (some .int) 2 := ⟨tb_4 (i := 12) (by decide +kernel) (by decide +kernel), tb_1 (i := 6) (by decide +kernel) (by decide +kernel), tb_4 (i := 13) (by rfl) (by decide +kernel), by decide +kernel, by decide +kernel, by decide +kernel⟩
theorem wX4_merged : fm_ws yX4_merged cX4_merged 5 (some .int) 3 := ⟨tb_4 (i := 15) (by decide +kernel) (by decide +kernel), tb_1 (i := 6) (by decide +kernel) (by decide +kernel), tb_4 (i := 16) (by rfl) (by decide +kernel), by decide +kernel, by decide +kernel, by decide +kernel⟩
theorem wX4_findPairings : fm_wv yX4_findPairings cX4_findPairings 7 none 4 := ⟨tb_4 (i := 19) (by decide +kernel) (by decide +kernel), tb_s (i := 16) (by decide +kernel) (by decide +kernel), tb_1 (i := 6) (by decide +kernel) (by decide +kernel), tb_4 (i := 20) (by rfl) (by decide +kernel), rfl, by decide +kernel, by decide +kernel, by decide +kernel⟩
theorem wX8_size : fm_wv yX8_size cX8_size 1 (some .int) 0 := ⟨tb_4 (i := 22) (by decide +kernel) (by decide +kernel), tb_4 (i := 23) (by decide +kernel) (by decide +kernel), tb_1 (i := 3) (by decide +kernel) (by decide +kernel), tb_4 (i := 24) (by rfl) (by decide +kernel), rfl, by decide +kernel, by decide +kernel, by decide +kernel⟩
theorem wX8_costAt : fm_wv yX8_costAt cX8_costAt 3 (some .int) 2 := ⟨tb_4 (i := 26) (by decide +kernel) (by decide +kernel), tb_4 (i := 27) (by decide +kernel) (by decide +kernel), tb_1 (i := 3) (by decide +kernel) (by decide +kernel), tb_4 (i := 28) (by rfl) (by decide +kernel), rfl, by decide +kernel, by decide +kernel, by decide +kernel⟩
theorem wX4_findSubsets : fm_wv yX4_findSubsets cX4_findSubsets 8 none 4 := ⟨tb_4 (i := 31) (by decide +kernel) (by decide +kernel), tb_s (i := 17) (by decide +kernel) (by decide +kernel), tb_1 (i := 6) (by decide +kernel) (by decide +kernel), tb_4 (i := 32) (by rfl) (by decide +kernel), rfl, by decide +kernel, by decide +kernel, by decide +kernel⟩
theorem wX8_picked : fm_wv yX8_picked cX8_picked 1 (some .int) 0 := ⟨tb_4 (i := 34) (by decide +kernel) (by decide +kernel), tb_4 (i := 35) (by decide +kernel) (by decide +kernel), tb_1 (i := 3) (by decide +kernel) (by decide +kernel), tb_4 (i := 36) (by rfl) (by decide +kernel), rfl, by decide +kernel, by decide +kernel, by decide +kernel⟩
theorem wX8_firstEnd : fm_wv yX8_firstEnd cX8_firstEnd 1 (some .int) 0 := ⟨tb_4 (i := 38) (by decide +kernel) (by decide +kernel), tb_4 (i := 39) (by decide +kernel) (by decide +kernel), tb_1 (i := 3) (by decide +kernel) (by decide +kernel), tb_4 (i := 40) (by rfl) (by decide +kernel), rfl, by decide +kernel, by decide +kernel, by decide +kernel⟩
theorem wX4_findRoutes : fm_wv yX4_findRoutes cX4_findRoutes 12 none 5 := ⟨tb_4 (i := 43) (by decide +kernel) (by decide +kernel), tb_s (i := 18) (by decide +kernel) (by decide +kernel), tb_1 (i := 6) (by decide +kernel) (by decide +kernel), tb_4 (i := 44) (by rfl) (by decide +kernel), rfl, by decide +kernel, by decide +kernel, by decide +kernel⟩
theorem wX8_secondEnd : fm_wv yX8_secondEnd cX8_secondEnd 1 (some .int) 0 := ⟨tb_4 (i := 46) (by decide +kernel) (by decide +kernel), tb_4 (i := 47) (by decide +kernel) (by decide +kernel), tb_1 (i := 3) (by decide +kernel) (by decide +kernel), tb_4 (i := 48) (by rfl) (by decide +kernel), rfl, by decide +kernel, by decide +kernel, by decide +kernel⟩
theorem wX6_sort : fm_wv yX6_sort cX6_sort 7 none 0 := ⟨tb_4 (i := 50) (by decide +kernel) (by decide +kernel), tb_4 (i := 51) (by decide +kernel) (by decide +kernel), tb_1 (i := 10) (by decide +kernel) (by decide +kernel), tb_4 (i := 52) (by rfl) (by decide +kernel), rfl, by decide +kernel, by decide +kernel, by decide +kernel⟩
theorem wX6_size : fm_wv yX6_size cX6_size 1 (some .int) 0 := ⟨tb_4 (i := 56) (by decide +kernel) (by decide +kernel), tb_4 (i := 57) (by decide +kernel) (by decide +kernel), tb_1 (i := 10) (by decide +kernel) (by decide +kernel), tb_4 (i := 58) (by rfl) (by decide +kernel), rfl, by decide +kernel, by decide +kernel, by decide +kernel⟩
theorem wX11_tellOne : fm_wv yX11_tellOne cX11_tellOne 7 (some .int) 2 := ⟨tb_4 (i := 61) (by decide +kernel) (by decide +kernel), tb_s (i := 19) (by decide +kernel) (by decide +kernel), tb_1 (i := 1) (by decide +kernel) (by decide +kernel), tb_4 (i := 62) (by rfl) (by decide +kernel), rfl, by decide +kernel, by decide +kernel, by decide +kernel⟩
theorem wX6_codeAt : fm_wv yX6_codeAt cX6_codeAt 2 (some .long) 1 := ⟨tb_4 (i := 64) (by decide +kernel) (by decide +kernel), tb_4 (i := 65) (by decide +kernel) (by decide +kernel), tb_1 (i := 10) (by decide +kernel) (by decide +kernel), tb_4 (i := 66) (by rfl) (by decide +kernel), rfl, by decide +kernel, by decide +kernel, by decide +kernel⟩
theorem wX6_keyAt : fm_wv yX6_keyAt cX6_keyAt 2 (some .long) 1 := ⟨tb_4 (i := 69) (by decide +kernel) (by decide +kernel), tb_s (i := 20) (by decide +kernel) (by decide +kernel), tb_1 (i := 10) (by decide +kernel) (by decide +kernel), tb_4 (i := 70) (by rfl) (by decide +kernel), rfl, by decide +kernel, by decide +kernel, by decide +kernel⟩
theorem wX2_lengthOf : fm_ws yX2_lengthOf cX2_lengthOf 3 (some .int) 1 := ⟨tb_4 (i := 73) (by decide +kernel) (by decide +kernel), tb_1 (i := 23) (by decide +kernel) (by decide +kernel), tb_4 (i := 74) (by rfl) (by decide +kernel), by decide +kernel, by decide +kernel, by decide +kernel⟩
theorem wX2_numberAt : fm_ws yX2_numberAt cX2_numberAt 3 (some .int) 2 := ⟨tb_4 (i := 76) (by decide +kernel) (by decide +kernel), tb_1 (i := 23) (by decide +kernel) (by decide +kernel), tb_4 (i := 77) (by rfl) (by decide +kernel), by decide +kernel, by decide +kernel, by decide +kernel⟩
theorem wX6_costAt : fm_wv yX6_costAt cX6_costAt 2 (some .int) 1 := ⟨tb_4 (i := 80) (by decide +kernel) (by decide +kernel), tb_4 (i := 81) (by decide +kernel) (by decide +kernel), tb_1 (i := 10) (by decide +kernel) (by decide +kernel), tb_4 (i := 82) (by rfl) (by decide +kernel), rfl, by decide +kernel, by decide +kernel, by decide +kernel⟩
theorem wX6_costOf : fm_ws yX6_costOf cX6_costOf 2 (some .int) 1 := ⟨tb_4 (i := 84) (by decide +kernel) (by decide +kernel), tb_1 (i := 10) (by decide +kernel) (by decide +kernel), tb_4 (i := 85) (by rfl) (by decide +kernel), by decide +kernel, by decide +kernel, by decide +kernel⟩
theorem wX11_many : fm_wv yX11_many cX11_many 4 (some .int) 1 := ⟨tb_4 (i := 89) (by decide +kernel) (by decide +kernel), tb_4 (i := 90) (by decide +kernel) (by decide +kernel), tb_1 (i := 1) (by decide +kernel) (by decide +kernel), tb_4 (i := 91) (by rfl) (by decide +kernel), rfl, by decide +kernel, by decide +kernel, by decide +kernel⟩
theorem wX6_upTo : fm_wv yX6_upTo cX6_upTo 3 (some .int) 1 := ⟨tb_4 (i := 94) (by decide +kernel) (by decide +kernel), tb_4 (i := 95) (by decide +kernel) (by decide +kernel), tb_1 (i := 10) (by decide +kernel) (by decide +kernel), tb_4 (i := 96) (by rfl) (by decide +kernel), rfl, by decide +kernel, by decide +kernel, by decide +kernel⟩
theorem wX11_below : fm_wv yX11_below cX11_below 5 (some .int) 2 := ⟨tb_4 (i := 98) (by decide +kernel) (by decide +kernel), tb_4 (i := 99) (by decide +kernel) (by decide +kernel), tb_1 (i := 1) (by decide +kernel) (by decide +kernel), tb_4 (i := 100) (by rfl) (by decide +kernel), rfl, by decide +kernel, by decide +kernel, by decide +kernel⟩
theorem wX11_rank : fm_wv yX11_rank cX11_rank 7 (some .int) 1 := ⟨tb_4 (i := 102) (by decide +kernel) (by decide +kernel), tb_4 (i := 103) (by decide +kernel) (by decide +kernel), tb_1 (i := 1) (by decide +kernel) (by decide +kernel), tb_4 (i := 104) (by rfl) (by decide +kernel), rfl, by decide +kernel, by decide +kernel, by decide +kernel⟩
theorem wX2_fault : fm_ws yX2_fault cX2_fault 2 (some .int) 1 := ⟨tb_4 (i := 106) (by decide +kernel) (by decide +kernel), tb_1 (i := 23) (by decide +kernel) (by decide +kernel), tb_4 (i := 107) (by rfl) (by decide +kernel), by decide +kernel, by decide +kernel, by decide +kernel⟩
theorem wX2_of : fm_ws yX2_of cX2_of 5 (some .long) 1 := ⟨tb_4 (i := 111) (by decide +kernel) (by decide +kernel), tb_1 (i := 23) (by decide +kernel) (by decide +kernel), tb_4 (i := 112) (by rfl) (by decide +kernel), by decide +kernel, by decide +kernel, by decide +kernel⟩
theorem wX6_placeOf : fm_wv yX6_placeOf cX6_placeOf 4 (some .int) 1 := ⟨tb_4 (i := 116) (by decide +kernel) (by decide +kernel), tb_4 (i := 117) (by decide +kernel) (by decide +kernel), tb_1 (i := 10) (by decide +kernel) (by decide +kernel), tb_4 (i := 118) (by rfl) (by decide +kernel), rfl, by decide +kernel, by decide +kernel, by decide +kernel⟩
theorem wX11_alike : fm_wv yX11_alike cX11_alike 6 (some .int) 2 := ⟨tb_4 (i := 121) (by decide +kernel) (by decide +kernel), tb_4 (i := 122) (by decide +kernel) (by decide +kernel), tb_1 (i := 1) (by decide +kernel) (by decide +kernel), tb_4 (i := 123) (by rfl) (by decide +kernel), rfl, by decide +kernel, by decide +kernel, by decide +kernel⟩
theorem wX6_firstAlike : fm_wv yX6_firstAlike cX6_firstAlike 3 (some .int) 1 := ⟨tb_4 (i := 125) (by decide +kernel) (by decide +kernel), tb_4 (i := 126) (by decide +kernel) (by decide +kernel), tb_1 (i := 10) (by decide +kernel) (by decide +kernel), tb_4 (i := 127) (by rfl) (by decide +kernel), rfl, by decide +kernel, by decide +kernel, by decide +kernel⟩
theorem wX11_surely : fm_wv yX11_surely cX11_surely 4 (some .int) 1 := ⟨tb_4 (i := 130) (by decide +kernel) (by decide +kernel), tb_4 (i := 131) (by decide +kernel) (by decide +kernel), tb_1 (i := 1) (by decide +kernel) (by decide +kernel), tb_4 (i := 132) (by rfl) (by decide +kernel), rfl, by decide +kernel, by decide +kernel, by decide +kernel⟩
theorem wX6_sharedPlaces : fm_wv yX6_sharedPlaces cX6_sharedPlaces 6 (some .int) 1 := ⟨tb_4 (i := 134) (by decide +kernel) (by decide +kernel), tb_4 (i := 135) (by decide +kernel) (by decide +kernel), tb_1 (i := 10) (by decide +kernel) (by decide +kernel), tb_4 (i := 136) (by rfl) (by decide +kernel), rfl, by decide +kernel, by decide +kernel, by decide +kernel⟩
theorem wX2_differences : fm_ws yX2_differences cX2_differences 6 (some .int) 2 := ⟨tb_4 (i := 139) (by decide +kernel) (by decide +kernel), tb_1 (i := 23) (by decide +kernel) (by decide +kernel), tb_4 (i := 140) (by rfl) (by decide +kernel), by decide +kernel, by decide +kernel, by decide +kernel⟩
theorem wX11_having : fm_wv yX11_having cX11_having 9 (some .int) 4 := ⟨tb_4 (i := 143) (by decide +kernel) (by decide +kernel), tb_4 (i := 144) (by decide +kernel) (by decide +kernel), tb_1 (i := 1) (by decide +kernel) (by decide +kernel), tb_4 (i := 145) (by rfl) (by decide +kernel), rfl, by decide +kernel, by decide +kernel, by decide +kernel⟩
theorem wX11_differ : fm_wv yX11_differ cX11_differ 6 (some .int) 3 := ⟨tb_4 (i := 147) (by decide +kernel) (by decide +kernel), tb_4 (i := 148) (by decide +kernel) (by decide +kernel), tb_1 (i := 1) (by decide +kernel) (by decide +kernel), tb_4 (i := 149) (by rfl) (by decide +kernel), rfl, by decide +kernel, by decide +kernel, by decide +kernel⟩
theorem wX2_firstOf : fm_ws yX2_firstOf cX2_firstOf 2 (some .int) 1 := ⟨tb_4 (i := 152) (by decide +kernel) (by decide +kernel), tb_1 (i := 23) (by decide +kernel) (by decide +kernel), tb_4 (i := 153) (by rfl) (by decide +kernel), by decide +kernel, by decide +kernel, by decide +kernel⟩
theorem wX11_gap : fm_wv yX11_gap cX11_gap 4 (some .int) 2 := ⟨tb_4 (i := 155) (by decide +kernel) (by decide +kernel), tb_4 (i := 156) (by decide +kernel) (by decide +kernel), tb_1 (i := 1) (by decide +kernel) (by decide +kernel), tb_4 (i := 157) (by rfl) (by decide +kernel), rfl, by decide +kernel, by decide +kernel, by decide +kernel⟩
theorem wX11_opens : fm_wv yX11_opens cX11_opens 3 (some .int) 2 := ⟨tb_4 (i := 159) (by decide +kernel) (by decide +kernel), tb_4 (i := 160) (by decide +kernel) (by decide +kernel), tb_1 (i := 1) (by decide +kernel) (by decide +kernel), tb_4 (i := 161) (by rfl) (by decide +kernel), rfl, by decide +kernel, by decide +kernel, by decide +kernel⟩
theorem wX3_open : fm_wv yX3_open cX3_open 2 none 1 := ⟨tb_4 (i := 163) (by decide +kernel) (by decide +kernel), tb_4 (i := 164) (by decide +kernel) (by decide +kernel), tb_1 (i := 12) (by decide +kernel) (by decide +kernel), tb_4 (i := 165) (by rfl) (by decide +kernel), rfl, by decide +kernel, by decide +kernel, by decide +kernel⟩
theorem wX11_goes : fm_wv yX11_goes cX11_goes 4 (some .int) 1 := ⟨tb_4 (i := 167) (by decide +kernel) (by decide +kernel), tb_4 (i := 168) (by decide +kernel) (by decide +kernel), tb_1 (i := 1) (by decide +kernel) (by decide +kernel), tb_4 (i := 169) (by rfl) (by decide +kernel), rfl, by decide +kernel, by decide +kernel, by decide +kernel⟩
theorem wX3_isUsable : fm_wv yX3_isUsable cX3_isUsable 1 (some .boolean) 0 := ⟨tb_4 (i := 171) (by decide +kernel) (by decide +kernel), tb_4 (i := 172) (by decide +kernel) (by decide +kernel), tb_1 (i := 12) (by decide +kernel) (by decide +kernel), tb_4 (i := 173) (by rfl) (by decide +kernel), rfl, by decide +kernel, by decide +kernel, by decide +kernel⟩
theorem wX3_refusal : fm_wv yX3_refusal cX3_refusal 1 (some .int) 0 := ⟨tb_4 (i := 175) (by decide +kernel) (by decide +kernel), tb_4 (i := 176) (by decide +kernel) (by decide +kernel), tb_1 (i := 12) (by decide +kernel) (by decide +kernel), tb_4 (i := 177) (by rfl) (by decide +kernel), rfl, by decide +kernel, by decide +kernel, by decide +kernel⟩
theorem wX3_kind : fm_wv yX3_kind cX3_kind 1 (some .int) 0 := ⟨tb_4 (i := 179) (by decide +kernel) (by decide +kernel), tb_4 (i := 180) (by decide +kernel) (by decide +kernel), tb_1 (i := 12) (by decide +kernel) (by decide +kernel), tb_4 (i := 181) (by rfl) (by decide +kernel), rfl, by decide +kernel, by decide +kernel, by decide +kernel⟩
theorem wX3_passed : fm_wv yX3_passed cX3_passed 1 (some .int) 0 := ⟨tb_4 (i := 183) (by decide +kernel) (by decide +kernel), tb_4 (i := 184) (by decide +kernel) (by decide +kernel), tb_1 (i := 12) (by decide +kernel) (by decide +kernel), tb_4 (i := 185) (by rfl) (by decide +kernel), rfl, by decide +kernel, by decide +kernel, by decide +kernel⟩
theorem wX3_move : fm_wv yX3_move cX3_move 3 none 2 := ⟨tb_4 (i := 187) (by decide +kernel) (by decide +kernel), tb_4 (i := 188) (by decide +kernel) (by decide +kernel), tb_1 (i := 12) (by decide +kernel) (by decide +kernel), tb_4 (i := 189) (by rfl) (by decide +kernel), rfl, by decide +kernel, by decide +kernel, by decide +kernel⟩
theorem wX11_skips : fm_wv yX11_skips cX11_skips 5 (some .int) 2 := ⟨tb_4 (i := 192) (by decide +kernel) (by decide +kernel), tb_4 (i := 193) (by decide +kernel) (by decide +kernel), tb_1 (i := 1) (by decide +kernel) (by decide +kernel), tb_4 (i := 194) (by rfl) (by decide +kernel), rfl, by decide +kernel, by decide +kernel, by decide +kernel⟩
theorem wX11_heard : fm_wv yX11_heard cX11_heard 3 (some .int) 2 := ⟨tb_4 (i := 196) (by decide +kernel) (by decide +kernel), tb_4 (i := 197) (by decide +kernel) (by decide +kernel), tb_1 (i := 1) (by decide +kernel) (by decide +kernel), tb_4 (i := 198) (by rfl) (by decide +kernel), rfl, by decide +kernel, by decide +kernel, by decide +kernel⟩
theorem wX1_add : fm_wv yX1_add cX1_add 3 (some .boolean) 2 := ⟨tb_4 (i := 200) (by decide +kernel) (by decide +kernel), tb_4 (i := 201) (by decide +kernel) (by decide +kernel), tb_1 (i := 7) (by decide +kernel) (by decide +kernel), tb_4 (i := 202) (by rfl) (by decide +kernel), rfl, by decide +kernel, by decide +kernel, by decide +kernel⟩
theorem wX1_size : fm_wv yX1_size cX1_size 1 (some .int) 0 := ⟨tb_4 (i := 206) (by decide +kernel) (by decide +kernel), tb_4 (i := 207) (by decide +kernel) (by decide +kernel), tb_1 (i := 7) (by decide +kernel) (by decide +kernel), tb_4 (i := 208) (by rfl) (by decide +kernel), rfl, by decide +kernel, by decide +kernel, by decide +kernel⟩
theorem wX11_forget : fm_wv yX11_forget cX11_forget 2 (some .int) 0 := ⟨tb_4 (i := 210) (by decide +kernel) (by decide +kernel), tb_4 (i := 211) (by decide +kernel) (by decide +kernel), tb_1 (i := 1) (by decide +kernel) (by decide +kernel), tb_4 (i := 212) (by rfl) (by decide +kernel), rfl, by decide +kernel, by decide +kernel, by decide +kernel⟩
theorem wX1_clear : fm_wv yX1_clear cX1_clear 1 none 0 := ⟨tb_4 (i := 214) (by decide +kernel) (by decide +kernel), tb_4 (i := 215) (by decide +kernel) (by decide +kernel), tb_1 (i := 7) (by decide +kernel) (by decide +kernel), tb_4 (i := 216) (by rfl) (by decide +kernel), rfl, by decide +kernel, by decide +kernel, by decide +kernel⟩
theorem wX11_fits : fm_wv yX11_fits cX11_fits 6 (some .int) 1 := ⟨tb_4 (i := 218) (by decide +kernel) (by decide +kernel), tb_4 (i := 219) (by decide +kernel) (by decide +kernel), tb_1 (i := 1) (by decide +kernel) (by decide +kernel), tb_4 (i := 220) (by rfl) (by decide +kernel), rfl, by decide +kernel, by decide +kernel, by decide +kernel⟩
theorem wX1_allow : fm_wv yX1_allow cX1_allow 5 (some .boolean) 2 := ⟨tb_4 (i := 222) (by decide +kernel) (by decide +kernel), tb_4 (i := 223) (by decide +kernel) (by decide +kernel), tb_1 (i := 7) (by decide +kernel) (by decide +kernel), tb_4 (i := 224) (by rfl) (by decide +kernel), rfl, by decide +kernel, by decide +kernel, by decide +kernel⟩
theorem wX1_isSo : fm_ws yX1_isSo cX1_isSo 5 (some .boolean) 4 := ⟨tb_4 (i := 226) (by decide +kernel) (by decide +kernel), tb_1 (i := 7) (by decide +kernel) (by decide +kernel), tb_4 (i := 227) (by rfl) (by decide +kernel), by decide +kernel, by decide +kernel, by decide +kernel⟩
theorem wX1_lastOf : fm_ws yX1_lastOf cX1_lastOf 3 (some .int) 1 := ⟨tb_4 (i := 230) (by decide +kernel) (by decide +kernel), tb_1 (i := 7) (by decide +kernel) (by decide +kernel), tb_4 (i := 231) (by rfl) (by decide +kernel), by decide +kernel, by decide +kernel, by decide +kernel⟩
theorem wX2_numbersOf : fm_ws yX2_numbersOf cX2_numbersOf 5 (some .int) 1 := ⟨tb_4 (i := 234) (by decide +kernel) (by decide +kernel), tb_1 (i := 23) (by decide +kernel) (by decide +kernel), tb_4 (i := 235) (by rfl) (by decide +kernel), by decide +kernel, by decide +kernel, by decide +kernel⟩
theorem wX11_asks : fm_wv yX11_asks cX11_asks 4 (some .int) 1 := ⟨tb_4 (i := 238) (by decide +kernel) (by decide +kernel), tb_4 (i := 239) (by decide +kernel) (by decide +kernel), tb_1 (i := 1) (by decide +kernel) (by decide +kernel), tb_5 (i := 0) (by rfl) (by decide +kernel), rfl, by decide +kernel, by decide +kernel, by decide +kernel⟩
theorem wX1_tally : fm_wv yX1_tally cX1_tally 4 (some .int) 1 := ⟨tb_5 (i := 2) (by decide +kernel) (by decide +kernel), tb_5 (i := 3) (by decide +kernel) (by decide +kernel), tb_1 (i := 7) (by decide +kernel) (by decide +kernel), tb_5 (i := 4) (by rfl) (by decide +kernel), rfl, by decide +kernel, by decide +kernel, by decide +kernel⟩
theorem wX1_tallyOne : fm_wv yX1_tallyOne cX1_tallyOne 6 none 2 := ⟨tb_5 (i := 11) (by decide +kernel) (by decide +kernel), tb_s (i := 21) (by decide +kernel) (by decide +kernel), tb_1 (i := 7) (by decide +kernel) (by decide +kernel), tb_5 (i := 12) (by rfl) (by decide +kernel), rfl, by decide +kernel, by decide +kernel, by decide +kernel⟩
theorem wX1_addTo : fm_wv yX1_addTo cX1_addTo 3 none 2 := ⟨tb_5 (i := 16) (by decide +kernel) (by decide +kernel), tb_s (i := 22) (by decide +kernel) (by decide +kernel), tb_1 (i := 7) (by decide +kernel) (by decide +kernel), tb_5 (i := 17) (by rfl) (by decide +kernel), rfl, by decide +kernel, by decide +kernel, by decide +kernel⟩
theorem wX1_bestQuestion : fm_wv yX1_bestQuestion cX1_bestQuestion 7 (some .int) 1 := ⟨tb_5 (i := 19) (by decide +kernel) (by decide +kernel), tb_5 (i := 20) (by decide +kernel) (by decide +kernel), tb_1 (i := 7) (by decide +kernel) (by decide +kernel), tb_5 (i := 21) (by rfl) (by decide +kernel), rfl, by decide +kernel, by decide +kernel, by decide +kernel⟩
theorem wX1_mostLeft : fm_wv yX1_mostLeft cX1_mostLeft 4 (some .int) 3 := ⟨tb_5 (i := 23) (by decide +kernel) (by decide +kernel), tb_5 (i := 24) (by decide +kernel) (by decide +kernel), tb_1 (i := 7) (by decide +kernel) (by decide +kernel), tb_5 (i := 25) (by rfl) (by decide +kernel), rfl, by decide +kernel, by decide +kernel, by decide +kernel⟩
theorem wX11_odds : fm_wv yX11_odds cX11_odds 11 (some .int) 3 := ⟨tb_5 (i := 29) (by decide +kernel) (by decide +kernel), tb_5 (i := 30) (by decide +kernel) (by decide +kernel), tb_1 (i := 1) (by decide +kernel) (by decide +kernel), tb_5 (i := 31) (by rfl) (by decide +kernel), rfl, by decide +kernel, by decide +kernel, by decide +kernel⟩
theorem wX11_tellFraction : fm_wv yX11_tellFraction cX11_tellFraction 12 none 2 := ⟨tb_5 (i := 34) (by decide +kernel) (by decide +kernel), tb_s (i := 23) (by decide +kernel) (by decide +kernel), tb_1 (i := 1) (by decide +kernel) (by decide +kernel), tb_5 (i := 35) (by rfl) (by decide +kernel), rfl, by decide +kernel, by decide +kernel, by decide +kernel⟩
theorem wX11_duel : fm_wv yX11_duel cX11_duel 5 (some .int) 1 := ⟨tb_5 (i := 37) (by decide +kernel) (by decide +kernel), tb_5 (i := 38) (by decide +kernel) (by decide +kernel), tb_1 (i := 1) (by decide +kernel) (by decide +kernel), tb_5 (i := 39) (by rfl) (by decide +kernel), rfl, by decide +kernel, by decide +kernel, by decide +kernel⟩
theorem wX11_lead : fm_ws yX11_lead cX11_lead 6 (some .int) 4 := ⟨tb_5 (i := 43) (by decide +kernel) (by decide +kernel), tb_1 (i := 1) (by decide +kernel) (by decide +kernel), tb_5 (i := 44) (by rfl) (by decide +kernel), by decide +kernel, by decide +kernel, by decide +kernel⟩
theorem wX11_law : fm_wv yX11_law cX11_law 11 (some .int) 0 := ⟨tb_5 (i := 47) (by decide +kernel) (by decide +kernel), tb_5 (i := 48) (by decide +kernel) (by decide +kernel), tb_1 (i := 1) (by decide +kernel) (by decide +kernel), tb_5 (i := 49) (by rfl) (by decide +kernel), rfl, by decide +kernel, by decide +kernel, by decide +kernel⟩
theorem wX4_costOfChoice : fm_wv yX4_costOfChoice cX4_costOfChoice 7 (some .int) 3 := ⟨tb_5 (i := 52) (by decide +kernel) (by decide +kernel), tb_5 (i := 53) (by decide +kernel) (by decide +kernel), tb_1 (i := 6) (by decide +kernel) (by decide +kernel), tb_5 (i := 54) (by rfl) (by decide +kernel), rfl, by decide +kernel, by decide +kernel, by decide +kernel⟩
theorem wX11_years : fm_wv yX11_years cX11_years 4 (some .int) 2 := ⟨tb_5 (i := 59) (by decide +kernel) (by decide +kernel), tb_5 (i := 60) (by decide +kernel) (by decide +kernel), tb_1 (i := 1) (by decide +kernel) (by decide +kernel), tb_5 (i := 61) (by rfl) (by decide +kernel), rfl, by decide +kernel, by decide +kernel, by decide +kernel⟩
theorem wX11_liveYear : fm_wv yX11_liveYear cX11_liveYear 3 none 0 := ⟨tb_5 (i := 64) (by decide +kernel) (by decide +kernel), tb_s (i := 24) (by decide +kernel) (by decide +kernel), tb_1 (i := 1) (by decide +kernel) (by decide +kernel), tb_5 (i := 65) (by rfl) (by decide +kernel), rfl, by decide +kernel, by decide +kernel, by decide +kernel⟩
theorem wX11_draw : fm_wv yX11_draw cX11_draw 2 (some .int) 1 := ⟨tb_5 (i := 68) (by decide +kernel) (by decide +kernel), tb_s (i := 25) (by decide +kernel) (by decide +kernel), tb_1 (i := 1) (by decide +kernel) (by decide +kernel), tb_5 (i := 69) (by rfl) (by decide +kernel), rfl, by decide +kernel, by decide +kernel, by decide +kernel⟩
theorem wX11_keep : fm_wv yX11_keep cX11_keep 2 (some .boolean) 1 := ⟨tb_5 (i := 76) (by decide +kernel) (by decide +kernel), tb_5 (i := 77) (by decide +kernel) (by decide +kernel), tb_1 (i := 1) (by decide +kernel) (by decide +kernel), tb_5 (i := 78) (by rfl) (by decide +kernel), rfl, by decide +kernel, by decide +kernel, by decide +kernel⟩
theorem wX11_again : fm_wv yX11_again cX11_again 2 (some .boolean) 1 := ⟨tb_5 (i := 80) (by decide +kernel) (by decide +kernel), tb_5 (i := 81) (by decide +kernel) (by decide +kernel), tb_1 (i := 1) (by decide +kernel) (by decide +kernel), tb_5 (i := 82) (by rfl) (by decide +kernel), rfl, by decide +kernel, by decide +kernel, by decide +kernel⟩
theorem wX5_clear : fm_wv yX5_clear cX5_clear 1 none 0 := ⟨tb_5 (i := 84) (by decide +kernel) (by decide +kernel), tb_5 (i := 85) (by decide +kernel) (by decide +kernel), tb_1 (i := 5) (by decide +kernel) (by decide +kernel), tb_5 (i := 86) (by rfl) (by decide +kernel), rfl, by decide +kernel, by decide +kernel, by decide +kernel⟩
theorem wX11_count : fm_wv yX11_count cX11_count 2 (some .int) 1 := ⟨tb_5 (i := 88) (by decide +kernel) (by decide +kernel), tb_5 (i := 89) (by decide +kernel) (by decide +kernel), tb_1 (i := 1) (by decide +kernel) (by decide +kernel), tb_5 (i := 90) (by rfl) (by decide +kernel), rfl, by decide +kernel, by decide +kernel, by decide +kernel⟩
theorem wX8_allNumbers : fm_wv yX8_allNumbers cX8_allNumbers 3 (some .int) 0 := ⟨tb_5 (i := 92) (by decide +kernel) (by decide +kernel), tb_5 (i := 93) (by decide +kernel) (by decide +kernel), tb_1 (i := 3) (by decide +kernel) (by decide +kernel), tb_5 (i := 94) (by rfl) (by decide +kernel), rfl, by decide +kernel, by decide +kernel, by decide +kernel⟩
theorem wX10_size : fm_wv yX10_size cX10_size 1 (some .int) 0 := ⟨tb_5 (i := 100) (by decide +kernel) (by decide +kernel), tb_5 (i := 101) (by decide +kernel) (by decide +kernel), tb_1 (i := 8) (by decide +kernel) (by decide +kernel), tb_5 (i := 102) (by rfl) (by decide +kernel), rfl, by decide +kernel, by decide +kernel, by decide +kernel⟩
theorem wX11_number : fm_wv yX11_number cX11_number 4 (some .int) 2 := ⟨tb_5 (i := 109) (by decide +kernel) (by decide +kernel), tb_5 (i := 110) (by decide +kernel) (by decide +kernel), tb_1 (i := 1) (by decide +kernel) (by decide +kernel), tb_5 (i := 111) (by rfl) (by decide +kernel), rfl, by decide +kernel, by decide +kernel, by decide +kernel⟩
theorem wX11_edge : fm_wv yX11_edge cX11_edge 6 (some .int) 2 := ⟨tb_5 (i := 181) (by decide +kernel) (by decide +kernel), tb_5 (i := 182) (by decide +kernel) (by decide +kernel), tb_1 (i := 1) (by decide +kernel) (by decide +kernel), tb_5 (i := 183) (by rfl) (by decide +kernel), rfl, by decide +kernel, by decide +kernel, by decide +kernel⟩
theorem wX8_pairOfEdge : fm_wv yX8_pairOfEdge cX8_pairOfEdge 4 (some .int) 1 := ⟨tb_5 (i := 185) (by decide +kernel) (by decide +kernel), tb_5 (i := 186) (by decide +kernel) (by decide +kernel), tb_1 (i := 3) (by decide +kernel) (by decide +kernel), tb_5 (i := 187) (by rfl) (by decide +kernel), rfl, by decide +kernel, by decide +kernel, by decide +kernel⟩
theorem wX11_row : fm_wv yX11_row cX11_row 2 (some .long) 1 := ⟨tb_5 (i := 194) (by decide +kernel) (by decide +kernel), tb_5 (i := 195) (by decide +kernel) (by decide +kernel), tb_1 (i := 1) (by decide +kernel) (by decide +kernel), tb_5 (i := 196) (by rfl) (by decide +kernel), rfl, by decide +kernel, by decide +kernel, by decide +kernel⟩
theorem wX10_at : fm_wv yX10_at cX10_at 2 (some .long) 1 := ⟨tb_5 (i := 199) (by decide +kernel) (by decide +kernel), tb_5 (i := 200) (by decide +kernel) (by decide +kernel), tb_1 (i := 8) (by decide +kernel) (by decide +kernel), tb_5 (i := 201) (by rfl) (by decide +kernel), rfl, by decide +kernel, by decide +kernel, by decide +kernel⟩
theorem wX12_thrown : fm_wv yX12_thrown cX12_thrown 1 (some .int) 0 := ⟨tb_6 (i := 96) (by decide +kernel) (by decide +kernel), tb_6 (i := 97) (by decide +kernel) (by decide +kernel), tb_1 (i := 13) (by decide +kernel) (by decide +kernel), tb_6 (i := 98) (by rfl) (by decide +kernel), rfl, by decide +kernel, by decide +kernel, by decide +kernel⟩
theorem wX12_sign : fm_wv yX12_sign cX12_sign 3 (some .int) 1 := ⟨tb_6 (i := 100) (by decide +kernel) (by decide +kernel), tb_6 (i := 101) (by decide +kernel) (by decide +kernel), tb_1 (i := 13) (by decide +kernel) (by decide +kernel), tb_6 (i := 102) (by rfl) (by decide +kernel), rfl, by decide +kernel, by decide +kernel, by decide +kernel⟩
theorem wX12_end : fm_wv yX12_end cX12_end 2 (some .boolean) 1 := ⟨tb_6 (i := 104) (by decide +kernel) (by decide +kernel), tb_6 (i := 105) (by decide +kernel) (by decide +kernel), tb_1 (i := 13) (by decide +kernel) (by decide +kernel), tb_6 (i := 106) (by rfl) (by decide +kernel), rfl, by decide +kernel, by decide +kernel, by decide +kernel⟩
theorem wX12_in : fm_ws yX12_in cX12_in 3 (some .boolean) 3 := ⟨tb_6 (i := 108) (by decide +kernel) (by decide +kernel), tb_1 (i := 13) (by decide +kernel) (by decide +kernel), tb_6 (i := 109) (by rfl) (by decide +kernel), by decide +kernel, by decide +kernel, by decide +kernel⟩
theorem wX12_lists : fm_wv yX12_lists cX12_lists 5 (some .int) 1 := ⟨tb_6 (i := 111) (by decide +kernel) (by decide +kernel), tb_6 (i := 112) (by decide +kernel) (by decide +kernel), tb_1 (i := 13) (by decide +kernel) (by decide +kernel), tb_6 (i := 113) (by rfl) (by decide +kernel), rfl, by decide +kernel, by decide +kernel, by decide +kernel⟩
theorem wX12_beginText : fm_wv yX12_beginText cX12_beginText 2 none 1 := ⟨tb_6 (i := 116) (by decide +kernel) (by decide +kernel), tb_s (i := 27) (by decide +kernel) (by decide +kernel), tb_1 (i := 13) (by decide +kernel) (by decide +kernel), tb_6 (i := 117) (by rfl) (by decide +kernel), rfl, by decide +kernel, by decide +kernel, by decide +kernel⟩
theorem wX12_begin : fm_wv yX12_begin cX12_begin 4 none 3 := ⟨tb_6 (i := 120) (by decide +kernel) (by decide +kernel), tb_s (i := 28) (by decide +kernel) (by decide +kernel), tb_1 (i := 13) (by decide +kernel) (by decide +kernel), tb_6 (i := 121) (by rfl) (by decide +kernel), rfl, by decide +kernel, by decide +kernel, by decide +kernel⟩
theorem wX12_fine : fm_wv yX12_fine cX12_fine 1 (some .boolean) 0 := ⟨tb_6 (i := 124) (by decide +kernel) (by decide +kernel), tb_s (i := 29) (by decide +kernel) (by decide +kernel), tb_1 (i := 13) (by decide +kernel) (by decide +kernel), tb_6 (i := 125) (by rfl) (by decide +kernel), rfl, by decide +kernel, by decide +kernel, by decide +kernel⟩
theorem wX12_fault : fm_wv yX12_fault cX12_fault 2 none 1 := ⟨tb_6 (i := 128) (by decide +kernel) (by decide +kernel), tb_s (i := 30) (by decide +kernel) (by decide +kernel), tb_1 (i := 13) (by decide +kernel) (by decide +kernel), tb_6 (i := 129) (by rfl) (by decide +kernel), rfl, by decide +kernel, by decide +kernel, by decide +kernel⟩
theorem wX12_number : fm_wv yX12_number cX12_number 4 (some .int) 1 := ⟨tb_6 (i := 132) (by decide +kernel) (by decide +kernel), tb_s (i := 31) (by decide +kernel) (by decide +kernel), tb_1 (i := 13) (by decide +kernel) (by decide +kernel), tb_6 (i := 133) (by rfl) (by decide +kernel), rfl, by decide +kernel, by decide +kernel, by decide +kernel⟩
theorem wX12_oneOf : fm_wv yX12_oneOf cX12_oneOf 3 (some .int) 2 := ⟨tb_6 (i := 136) (by decide +kernel) (by decide +kernel), tb_s (i := 32) (by decide +kernel) (by decide +kernel), tb_1 (i := 13) (by decide +kernel) (by decide +kernel), tb_6 (i := 137) (by rfl) (by decide +kernel), rfl, by decide +kernel, by decide +kernel, by decide +kernel⟩
theorem wX12_here : fm_wv yX12_here cX12_here 1 (some .int) 0 := ⟨tb_6 (i := 140) (by decide +kernel) (by decide +kernel), tb_s (i := 33) (by decide +kernel) (by decide +kernel), tb_1 (i := 13) (by decide +kernel) (by decide +kernel), tb_6 (i := 141) (by rfl) (by decide +kernel), rfl, by decide +kernel, by decide +kernel, by decide +kernel⟩
theorem wX12_passes : fm_wv yX12_passes cX12_passes 2 (some .boolean) 1 := ⟨tb_6 (i := 144) (by decide +kernel) (by decide +kernel), tb_s (i := 34) (by decide +kernel) (by decide +kernel), tb_1 (i := 13) (by decide +kernel) (by decide +kernel), tb_6 (i := 145) (by rfl) (by decide +kernel), rfl, by decide +kernel, by decide +kernel, by decide +kernel⟩
theorem wX12_wasRight : fm_wv yX12_wasRight cX12_wasRight 1 (some .boolean) 0 := ⟨tb_6 (i := 148) (by decide +kernel) (by decide +kernel), tb_s (i := 35) (by decide +kernel) (by decide +kernel), tb_1 (i := 13) (by decide +kernel) (by decide +kernel), tb_6 (i := 149) (by rfl) (by decide +kernel), rfl, by decide +kernel, by decide +kernel, by decide +kernel⟩
theorem wX12_isList : fm_ws yX12_isList cX12_isList 1 (some .boolean) 1 := ⟨tb_6 (i := 151) (by decide +kernel) (by decide +kernel), tb_1 (i := 13) (by decide +kernel) (by decide +kernel), tb_6 (i := 152) (by rfl) (by decide +kernel), by decide +kernel, by decide +kernel, by decide +kernel⟩
theorem wX12_change : fm_wv yX12_change cX12_change 3 none 1 := ⟨tb_6 (i := 155) (by decide +kernel) (by decide +kernel), tb_s (i := 36) (by decide +kernel) (by decide +kernel), tb_1 (i := 13) (by decide +kernel) (by decide +kernel), tb_6 (i := 156) (by rfl) (by decide +kernel), rfl, by decide +kernel, by decide +kernel, by decide +kernel⟩
theorem wX12_lay : fm_ws yX12_lay cX12_lay 4 none 3 := ⟨tb_6 (i := 158) (by decide +kernel) (by decide +kernel), tb_1 (i := 13) (by decide +kernel) (by decide +kernel), tb_6 (i := 159) (by rfl) (by decide +kernel), by decide +kernel, by decide +kernel, by decide +kernel⟩
theorem wX12_goPut : fm_ws yX12_goPut cX12_goPut 4 (some .int) 3 := ⟨tb_6 (i := 161) (by decide +kernel) (by decide +kernel), tb_1 (i := 13) (by decide +kernel) (by decide +kernel), tb_6 (i := 162) (by rfl) (by decide +kernel), by decide +kernel, by decide +kernel, by decide +kernel⟩
theorem wX12_rule : fm_wv yX12_rule cX12_rule 3 (some .int) 0 := ⟨tb_6 (i := 164) (by decide +kernel) (by decide +kernel), tb_6 (i := 165) (by decide +kernel) (by decide +kernel), tb_1 (i := 13) (by decide +kernel) (by decide +kernel), tb_6 (i := 166) (by rfl) (by decide +kernel), rfl, by decide +kernel, by decide +kernel, by decide +kernel⟩
theorem wX12_readRule : fm_wv yX12_readRule cX12_readRule 1 (some .boolean) 0 := ⟨tb_6 (i := 169) (by decide +kernel) (by decide +kernel), tb_s (i := 37) (by decide +kernel) (by decide +kernel), tb_1 (i := 13) (by decide +kernel) (by decide +kernel), tb_6 (i := 170) (by rfl) (by decide +kernel), rfl, by decide +kernel, by decide +kernel, by decide +kernel⟩
theorem wX12_held : fm_wv yX12_held cX12_held 3 (some .int) 1 := ⟨tb_6 (i := 173) (by decide +kernel) (by decide +kernel), tb_s (i := 38) (by decide +kernel) (by decide +kernel), tb_1 (i := 13) (by decide +kernel) (by decide +kernel), tb_6 (i := 174) (by rfl) (by decide +kernel), rfl, by decide +kernel, by decide +kernel, by decide +kernel⟩
theorem wX12_sum : fm_wv yX12_sum cX12_sum 5 (some .int) 1 := ⟨tb_6 (i := 177) (by decide +kernel) (by decide +kernel), tb_s (i := 39) (by decide +kernel) (by decide +kernel), tb_1 (i := 13) (by decide +kernel) (by decide +kernel), tb_6 (i := 178) (by rfl) (by decide +kernel), rfl, by decide +kernel, by decide +kernel, by decide +kernel⟩
theorem wX12_product : fm_wv yX12_product cX12_product 5 (some .int) 1 := ⟨tb_6 (i := 181) (by decide +kernel) (by decide +kernel), tb_s (i := 40) (by decide +kernel) (by decide +kernel), tb_1 (i := 13) (by decide +kernel) (by decide +kernel), tb_6 (i := 182) (by rfl) (by decide +kernel), rfl, by decide +kernel, by decide +kernel, by decide +kernel⟩
theorem wX12_thing : fm_wv yX12_thing cX12_thing 4 (some .int) 1 := ⟨tb_6 (i := 185) (by decide +kernel) (by decide +kernel), tb_s (i := 41) (by decide +kernel) (by decide +kernel), tb_1 (i := 13) (by decide +kernel) (by decide +kernel), tb_6 (i := 186) (by rfl) (by decide +kernel), rfl, by decide +kernel, by decide +kernel, by decide +kernel⟩
theorem wX12_need : fm_wv yX12_need cX12_need 2 none 1 := ⟨tb_6 (i := 189) (by decide +kernel) (by decide +kernel), tb_s (i := 42) (by decide +kernel) (by decide +kernel), tb_1 (i := 13) (by decide +kernel) (by decide +kernel), tb_6 (i := 190) (by rfl) (by decide +kernel), rfl, by decide +kernel, by decide +kernel, by decide +kernel⟩
theorem wX12_letterOf : fm_ws yX12_letterOf cX12_letterOf 1 (some .int) 1 := ⟨tb_6 (i := 192) (by decide +kernel) (by decide +kernel), tb_1 (i := 13) (by decide +kernel) (by decide +kernel), tb_6 (i := 193) (by rfl) (by decide +kernel), by decide +kernel, by decide +kernel, by decide +kernel⟩
theorem wX12_number_ : fm_wv yX12_number_ cX12_number_ 3 (some .int) 2 := ⟨tb_6 (i := 195) (by decide +kernel) (by decide +kernel), tb_6 (i := 196) (by decide +kernel) (by decide +kernel), tb_1 (i := 13) (by decide +kernel) (by decide +kernel), tb_6 (i := 197) (by rfl) (by decide +kernel), rfl, by decide +kernel, by decide +kernel, by decide +kernel⟩
theorem wX12_lost : fm_wv yX12_lost cX12_lost 1 (some .int) 0 := ⟨tb_6 (i := 200) (by decide +kernel) (by decide +kernel), tb_s (i := 43) (by decide +kernel) (by decide +kernel), tb_1 (i := 13) (by decide +kernel) (by decide +kernel), tb_6 (i := 201) (by rfl) (by decide +kernel), rfl, by decide +kernel, by decide +kernel, by decide +kernel⟩
theorem wX12_edge : fm_wv yX12_edge cX12_edge 4 (some .int) 2 := ⟨tb_6 (i := 203) (by decide +kernel) (by decide +kernel), tb_6 (i := 204) (by decide +kernel) (by decide +kernel), tb_1 (i := 13) (by decide +kernel) (by decide +kernel), tb_6 (i := 205) (by rfl) (by decide +kernel), rfl, by decide +kernel, by decide +kernel, by decide +kernel⟩
theorem wX12_edgesOf : fm_ws yX12_edgesOf cX12_edgesOf 4 (some .int) 1 := ⟨tb_6 (i := 207) (by decide +kernel) (by decide +kernel), tb_1 (i := 13) (by decide +kernel) (by decide +kernel), tb_6 (i := 208) (by rfl) (by decide +kernel), by decide +kernel, by decide +kernel, by decide +kernel⟩
theorem wX12_weightOf : fm_ws yX12_weightOf cX12_weightOf 3 (some .int) 3 := ⟨tb_6 (i := 210) (by decide +kernel) (by decide +kernel), tb_1 (i := 13) (by decide +kernel) (by decide +kernel), tb_6 (i := 211) (by rfl) (by decide +kernel), by decide +kernel, by decide +kernel, by decide +kernel⟩
theorem wX12_edgeAt : fm_ws yX12_edgeAt cX12_edgeAt 5 (some .int) 2 := ⟨tb_6 (i := 213) (by decide +kernel) (by decide +kernel), tb_1 (i := 13) (by decide +kernel) (by decide +kernel), tb_6 (i := 214) (by rfl) (by decide +kernel), by decide +kernel, by decide +kernel, by decide +kernel⟩
theorem wX12_sheet : fm_wv yX12_sheet cX12_sheet 12 (some .int) 4 := ⟨tb_6 (i := 216) (by decide +kernel) (by decide +kernel), tb_6 (i := 217) (by decide +kernel) (by decide +kernel), tb_1 (i := 13) (by decide +kernel) (by decide +kernel), tb_6 (i := 218) (by rfl) (by decide +kernel), rfl, by decide +kernel, by decide +kernel, by decide +kernel⟩
theorem wX12_weigh : fm_ws yX12_weigh cX12_weigh 4 none 4 := ⟨tb_6 (i := 222) (by decide +kernel) (by decide +kernel), tb_1 (i := 13) (by decide +kernel) (by decide +kernel), tb_6 (i := 223) (by rfl) (by decide +kernel), by decide +kernel, by decide +kernel, by decide +kernel⟩
theorem wX12_puts : fm_wv yX12_puts cX12_puts 4 (some .int) 2 := ⟨tb_6 (i := 225) (by decide +kernel) (by decide +kernel), tb_6 (i := 226) (by decide +kernel) (by decide +kernel), tb_1 (i := 13) (by decide +kernel) (by decide +kernel), tb_6 (i := 227) (by rfl) (by decide +kernel), rfl, by decide +kernel, by decide +kernel, by decide +kernel⟩
theorem wX12_refusesPut : fm_ws yX12_refusesPut cX12_refusesPut 3 (some .int) 3 := ⟨tb_6 (i := 229) (by decide +kernel) (by decide +kernel), tb_1 (i := 13) (by decide +kernel) (by decide +kernel), tb_6 (i := 230) (by rfl) (by decide +kernel), by decide +kernel, by decide +kernel, by decide +kernel⟩
theorem wX12_takes : fm_wv yX12_takes cX12_takes 3 (some .int) 2 := ⟨tb_6 (i := 232) (by decide +kernel) (by decide +kernel), tb_6 (i := 233) (by decide +kernel) (by decide +kernel), tb_1 (i := 13) (by decide +kernel) (by decide +kernel), tb_6 (i := 234) (by rfl) (by decide +kernel), rfl, by decide +kernel, by decide +kernel, by decide +kernel⟩
theorem wX12_canTake : fm_ws yX12_canTake cX12_canTake 3 (some .boolean) 3 := ⟨tb_6 (i := 236) (by decide +kernel) (by decide +kernel), tb_1 (i := 13) (by decide +kernel) (by decide +kernel), tb_6 (i := 237) (by rfl) (by decide +kernel), by decide +kernel, by decide +kernel, by decide +kernel⟩
theorem wX12_goTake : fm_ws yX12_goTake cX12_goTake 5 (some .int) 3 := ⟨tb_6 (i := 239) (by decide +kernel) (by decide +kernel), tb_1 (i := 13) (by decide +kernel) (by decide +kernel), tb_7 (i := 0) (by rfl) (by decide +kernel), by decide +kernel, by decide +kernel, by decide +kernel⟩
theorem wX12_joins : fm_wv yX12_joins cX12_joins 5 (some .int) 3 := ⟨tb_7 (i := 2) (by decide +kernel) (by decide +kernel), tb_7 (i := 3) (by decide +kernel) (by decide +kernel), tb_1 (i := 13) (by decide +kernel) (by decide +kernel), tb_7 (i := 4) (by rfl) (by decide +kernel), rfl, by decide +kernel, by decide +kernel, by decide +kernel⟩
theorem wX12_refusesJoin : fm_ws yX12_refusesJoin cX12_refusesJoin 4 (some .int) 4 := ⟨tb_7 (i := 6) (by decide +kernel) (by decide +kernel), tb_1 (i := 13) (by decide +kernel) (by decide +kernel), tb_7 (i := 7) (by rfl) (by decide +kernel), by decide +kernel, by decide +kernel, by decide +kernel⟩
theorem wX12_costs : fm_wv yX12_costs cX12_costs 5 (some .int) 3 := ⟨tb_7 (i := 9) (by decide +kernel) (by decide +kernel), tb_7 (i := 10) (by decide +kernel) (by decide +kernel), tb_1 (i := 13) (by decide +kernel) (by decide +kernel), tb_7 (i := 11) (by rfl) (by decide +kernel), rfl, by decide +kernel, by decide +kernel, by decide +kernel⟩
theorem wX12_canCost : fm_ws yX12_canCost cX12_canCost 3 (some .boolean) 3 := ⟨tb_7 (i := 13) (by decide +kernel) (by decide +kernel), tb_1 (i := 13) (by decide +kernel) (by decide +kernel), tb_7 (i := 14) (by rfl) (by decide +kernel), by decide +kernel, by decide +kernel, by decide +kernel⟩
theorem wX12_sets : fm_wv yX12_sets cX12_sets 6 (some .int) 2 := ⟨tb_7 (i := 16) (by decide +kernel) (by decide +kernel), tb_7 (i := 17) (by decide +kernel) (by decide +kernel), tb_1 (i := 13) (by decide +kernel) (by decide +kernel), tb_7 (i := 18) (by rfl) (by decide +kernel), rfl, by decide +kernel, by decide +kernel, by decide +kernel⟩
theorem wX12_refusesSet : fm_ws yX12_refusesSet cX12_refusesSet 3 (some .int) 3 := ⟨tb_7 (i := 20) (by decide +kernel) (by decide +kernel), tb_1 (i := 13) (by decide +kernel) (by decide +kernel), tb_7 (i := 21) (by rfl) (by decide +kernel), by decide +kernel, by decide +kernel, by decide +kernel⟩
theorem wX12_ends : fm_wv yX12_ends cX12_ends 4 (some .int) 2 := ⟨tb_7 (i := 23) (by decide +kernel) (by decide +kernel), tb_7 (i := 24) (by decide +kernel) (by decide +kernel), tb_1 (i := 13) (by decide +kernel) (by decide +kernel), tb_7 (i := 25) (by rfl) (by decide +kernel), rfl, by decide +kernel, by decide +kernel, by decide +kernel⟩
theorem wX12_canEnd : fm_ws yX12_canEnd cX12_canEnd 2 (some .boolean) 2 := ⟨tb_7 (i := 27) (by decide +kernel) (by decide +kernel), tb_1 (i := 13) (by decide +kernel) (by decide +kernel), tb_7 (i := 28) (by rfl) (by decide +kernel), by decide +kernel, by decide +kernel, by decide +kernel⟩
theorem wX12_endsOf : fm_ws yX12_endsOf cX12_endsOf 1 (some .int) 1 := ⟨tb_7 (i := 30) (by decide +kernel) (by decide +kernel), tb_1 (i := 13) (by decide +kernel) (by decide +kernel), tb_7 (i := 31) (by rfl) (by decide +kernel), by decide +kernel, by decide +kernel, by decide +kernel⟩
theorem wX12_day : fm_wv yX12_day cX12_day 3 (some .int) 0 := ⟨tb_7 (i := 33) (by decide +kernel) (by decide +kernel), tb_7 (i := 34) (by decide +kernel) (by decide +kernel), tb_1 (i := 13) (by decide +kernel) (by decide +kernel), tb_7 (i := 35) (by rfl) (by decide +kernel), rfl, by decide +kernel, by decide +kernel, by decide +kernel⟩
theorem wX12_readAct : fm_wv yX12_readAct cX12_readAct 4 none 1 := ⟨tb_7 (i := 38) (by decide +kernel) (by decide +kernel), tb_s (i := 44) (by decide +kernel) (by decide +kernel), tb_1 (i := 13) (by decide +kernel) (by decide +kernel), tb_7 (i := 39) (by rfl) (by decide +kernel), rfl, by decide +kernel, by decide +kernel, by decide +kernel⟩
theorem wX12_twoDigits : fm_wv yX12_twoDigits cX12_twoDigits 2 (some .int) 0 := ⟨tb_7 (i := 42) (by decide +kernel) (by decide +kernel), tb_s (i := 45) (by decide +kernel) (by decide +kernel), tb_1 (i := 13) (by decide +kernel) (by decide +kernel), tb_7 (i := 43) (by rfl) (by decide +kernel), rfl, by decide +kernel, by decide +kernel, by decide +kernel⟩
theorem wX12_act : fm_wv yX12_act cX12_act 5 (some .boolean) 4 := ⟨tb_7 (i := 46) (by decide +kernel) (by decide +kernel), tb_s (i := 46) (by decide +kernel) (by decide +kernel), tb_1 (i := 13) (by decide +kernel) (by decide +kernel), tb_7 (i := 47) (by rfl) (by decide +kernel), rfl, by decide +kernel, by decide +kernel, by decide +kernel⟩
theorem wX12_tell : fm_wv yX12_tell cX12_tell 3 none 1 := ⟨tb_7 (i := 50) (by decide +kernel) (by decide +kernel), tb_s (i := 47) (by decide +kernel) (by decide +kernel), tb_1 (i := 13) (by decide +kernel) (by decide +kernel), tb_7 (i := 51) (by rfl) (by decide +kernel), rfl, by decide +kernel, by decide +kernel, by decide +kernel⟩
theorem wX12_undo : fm_wv yX12_undo cX12_undo 2 (some .int) 0 := ⟨tb_7 (i := 53) (by decide +kernel) (by decide +kernel), tb_7 (i := 54) (by decide +kernel) (by decide +kernel), tb_1 (i := 13) (by decide +kernel) (by decide +kernel), tb_7 (i := 55) (by rfl) (by decide +kernel), rfl, by decide +kernel, by decide +kernel, by decide +kernel⟩
theorem wX12_best : fm_wv yX12_best cX12_best 3 (some .int) 2 := ⟨tb_7 (i := 57) (by decide +kernel) (by decide +kernel), tb_7 (i := 58) (by decide +kernel) (by decide +kernel), tb_1 (i := 13) (by decide +kernel) (by decide +kernel), tb_7 (i := 59) (by rfl) (by decide +kernel), rfl, by decide +kernel, by decide +kernel, by decide +kernel⟩
theorem wX12_isKind : fm_ws yX12_isKind cX12_isKind 1 (some .boolean) 1 := ⟨tb_7 (i := 61) (by decide +kernel) (by decide +kernel), tb_1 (i := 13) (by decide +kernel) (by decide +kernel), tb_7 (i := 62) (by rfl) (by decide +kernel), by decide +kernel, by decide +kernel, by decide +kernel⟩
theorem wX12_layAll : fm_wv yX12_layAll cX12_layAll 5 (some .int) 2 := ⟨tb_7 (i := 65) (by decide +kernel) (by decide +kernel), tb_s (i := 48) (by decide +kernel) (by decide +kernel), tb_1 (i := 13) (by decide +kernel) (by decide +kernel), tb_7 (i := 66) (by rfl) (by decide +kernel), rfl, by decide +kernel, by decide +kernel, by decide +kernel⟩
theorem wX12_layChoices : fm_wv yX12_layChoices cX12_layChoices 5 none 3 := ⟨tb_7 (i := 69) (by decide +kernel) (by decide +kernel), tb_s (i := 49) (by decide +kernel) (by decide +kernel), tb_1 (i := 13) (by decide +kernel) (by decide +kernel), tb_7 (i := 70) (by rfl) (by decide +kernel), rfl, by decide +kernel, by decide +kernel, by decide +kernel⟩
theorem wX12_emit : fm_wv yX12_emit cX12_emit 4 none 2 := ⟨tb_7 (i := 73) (by decide +kernel) (by decide +kernel), tb_s (i := 50) (by decide +kernel) (by decide +kernel), tb_1 (i := 13) (by decide +kernel) (by decide +kernel), tb_7 (i := 74) (by rfl) (by decide +kernel), rfl, by decide +kernel, by decide +kernel, by decide +kernel⟩
theorem wX12_ruleOf : fm_wv yX12_ruleOf cX12_ruleOf 6 (some .int) 2 := ⟨tb_7 (i := 77) (by decide +kernel) (by decide +kernel), tb_s (i := 51) (by decide +kernel) (by decide +kernel), tb_1 (i := 13) (by decide +kernel) (by decide +kernel), tb_7 (i := 78) (by rfl) (by decide +kernel), rfl, by decide +kernel, by decide +kernel, by decide +kernel⟩
theorem wX12_joinedOf : fm_ws yX12_joinedOf cX12_joinedOf 4 (some .int) 1 := ⟨tb_7 (i := 80) (by decide +kernel) (by decide +kernel), tb_1 (i := 13) (by decide +kernel) (by decide +kernel), tb_7 (i := 81) (by rfl) (by decide +kernel), by decide +kernel, by decide +kernel, by decide +kernel⟩
theorem wX12_layTrees : fm_wv yX12_layTrees cX12_layTrees 8 none 5 := ⟨tb_7 (i := 85) (by decide +kernel) (by decide +kernel), tb_s (i := 52) (by decide +kernel) (by decide +kernel), tb_1 (i := 13) (by decide +kernel) (by decide +kernel), tb_7 (i := 86) (by rfl) (by decide +kernel), rfl, by decide +kernel, by decide +kernel, by decide +kernel⟩
theorem wX12_treeOf : fm_wv yX12_treeOf cX12_treeOf 8 (some .int) 2 := ⟨tb_7 (i := 89) (by decide +kernel) (by decide +kernel), tb_s (i := 53) (by decide +kernel) (by decide +kernel), tb_1 (i := 13) (by decide +kernel) (by decide +kernel), tb_7 (i := 90) (by rfl) (by decide +kernel), rfl, by decide +kernel, by decide +kernel, by decide +kernel⟩
theorem wX12_hangOf : fm_wv yX12_hangOf cX12_hangOf 3 (some .int) 1 := ⟨tb_7 (i := 93) (by decide +kernel) (by decide +kernel), tb_s (i := 54) (by decide +kernel) (by decide +kernel), tb_1 (i := 13) (by decide +kernel) (by decide +kernel), tb_7 (i := 94) (by rfl) (by decide +kernel), rfl, by decide +kernel, by decide +kernel, by decide +kernel⟩
theorem wX12_layPairings : fm_wv yX12_layPairings cX12_layPairings 6 none 4 := ⟨tb_7 (i := 97) (by decide +kernel) (by decide +kernel), tb_s (i := 55) (by decide +kernel) (by decide +kernel), tb_1 (i := 13) (by decide +kernel) (by decide +kernel), tb_7 (i := 98) (by rfl) (by decide +kernel), rfl, by decide +kernel, by decide +kernel, by decide +kernel⟩
theorem wX12_has : fm_ws yX12_has cX12_has 2 (some .boolean) 2 := ⟨tb_7 (i := 100) (by decide +kernel) (by decide +kernel), tb_1 (i := 13) (by decide +kernel) (by decide +kernel), tb_7 (i := 101) (by rfl) (by decide +kernel), by decide +kernel, by decide +kernel, by decide +kernel⟩
theorem wX12_laySubsets : fm_wv yX12_laySubsets cX12_laySubsets 7 none 4 := ⟨tb_7 (i := 104) (by decide +kernel) (by decide +kernel), tb_s (i := 56) (by decide +kernel) (by decide +kernel), tb_1 (i := 13) (by decide +kernel) (by decide +kernel), tb_7 (i := 105) (by rfl) (by decide +kernel), rfl, by decide +kernel, by decide +kernel, by decide +kernel⟩
theorem wX12_layRoutes : fm_wv yX12_layRoutes cX12_layRoutes 8 none 5 := ⟨tb_7 (i := 108) (by decide +kernel) (by decide +kernel), tb_s (i := 57) (by decide +kernel) (by decide +kernel), tb_1 (i := 13) (by decide +kernel) (by decide +kernel), tb_7 (i := 109) (by rfl) (by decide +kernel), rfl, by decide +kernel, by decide +kernel, by decide +kernel⟩
theorem wX12_merge : fm_wv yX12_merge cX12_merge 8 none 3 := ⟨tb_7 (i := 112) (by decide +kernel) (by decide +kernel), tb_s (i := 58) (by decide +kernel) (by decide +kernel), tb_1 (i := 13) (by decide +kernel) (by decide +kernel), tb_7 (i := 113) (by rfl) (by decide +kernel), rfl, by decide +kernel, by decide +kernel, by decide +kernel⟩
theorem wX12_tellItem : fm_wv yX12_tellItem cX12_tellItem 4 (some .int) 1 := ⟨tb_7 (i := 116) (by decide +kernel) (by decide +kernel), tb_s (i := 59) (by decide +kernel) (by decide +kernel), tb_1 (i := 13) (by decide +kernel) (by decide +kernel), tb_7 (i := 117) (by rfl) (by decide +kernel), rfl, by decide +kernel, by decide +kernel, by decide +kernel⟩
theorem wX12_many : fm_wv yX12_many cX12_many 3 (some .int) 1 := ⟨tb_7 (i := 119) (by decide +kernel) (by decide +kernel), tb_7 (i := 120) (by decide +kernel) (by decide +kernel), tb_1 (i := 13) (by decide +kernel) (by decide +kernel), tb_7 (i := 121) (by rfl) (by decide +kernel), rfl, by decide +kernel, by decide +kernel, by decide +kernel⟩
theorem wX12_costAt : fm_wv yX12_costAt cX12_costAt 2 (some .int) 1 := ⟨tb_7 (i := 124) (by decide +kernel) (by decide +kernel), tb_s (i := 60) (by decide +kernel) (by decide +kernel), tb_1 (i := 13) (by decide +kernel) (by decide +kernel), tb_7 (i := 125) (by rfl) (by decide +kernel), rfl, by decide +kernel, by decide +kernel, by decide +kernel⟩
theorem wX12_upTo : fm_wv yX12_upTo cX12_upTo 3 (some .int) 1 := ⟨tb_7 (i := 128) (by decide +kernel) (by decide +kernel), tb_s (i := 61) (by decide +kernel) (by decide +kernel), tb_1 (i := 13) (by decide +kernel) (by decide +kernel), tb_7 (i := 129) (by rfl) (by decide +kernel), rfl, by decide +kernel, by decide +kernel, by decide +kernel⟩
theorem wX12_below : fm_wv yX12_below cX12_below 4 (some .int) 2 := ⟨tb_7 (i := 131) (by decide +kernel) (by decide +kernel), tb_7 (i := 132) (by decide +kernel) (by decide +kernel), tb_1 (i := 13) (by decide +kernel) (by decide +kernel), tb_7 (i := 133) (by rfl) (by decide +kernel), rfl, by decide +kernel, by decide +kernel, by decide +kernel⟩
theorem wX12_rank : fm_wv yX12_rank cX12_rank 6 (some .int) 1 := ⟨tb_7 (i := 135) (by decide +kernel) (by decide +kernel), tb_7 (i := 136) (by decide +kernel) (by decide +kernel), tb_1 (i := 13) (by decide +kernel) (by decide +kernel), tb_7 (i := 137) (by rfl) (by decide +kernel), rfl, by decide +kernel, by decide +kernel, by decide +kernel⟩
theorem wX12_isLaid : fm_wv yX12_isLaid cX12_isLaid 4 (some .boolean) 2 := ⟨tb_7 (i := 140) (by decide +kernel) (by decide +kernel), tb_s (i := 62) (by decide +kernel) (by decide +kernel), tb_1 (i := 13) (by decide +kernel) (by decide +kernel), tb_7 (i := 141) (by rfl) (by decide +kernel), rfl, by decide +kernel, by decide +kernel, by decide +kernel⟩
theorem wX12_alike : fm_wv yX12_alike cX12_alike 5 (some .int) 2 := ⟨tb_7 (i := 143) (by decide +kernel) (by decide +kernel), tb_7 (i := 144) (by decide +kernel) (by decide +kernel), tb_1 (i := 13) (by decide +kernel) (by decide +kernel), tb_7 (i := 145) (by rfl) (by decide +kernel), rfl, by decide +kernel, by decide +kernel, by decide +kernel⟩
theorem wX12_surely : fm_wv yX12_surely cX12_surely 7 (some .int) 1 := ⟨tb_7 (i := 147) (by decide +kernel) (by decide +kernel), tb_7 (i := 148) (by decide +kernel) (by decide +kernel), tb_1 (i := 13) (by decide +kernel) (by decide +kernel), tb_7 (i := 149) (by rfl) (by decide +kernel), rfl, by decide +kernel, by decide +kernel, by decide +kernel⟩
theorem wX12_having : fm_wv yX12_having cX12_having 10 (some .int) 4 := ⟨tb_7 (i := 151) (by decide +kernel) (by decide +kernel), tb_7 (i := 152) (by decide +kernel) (by decide +kernel), tb_1 (i := 13) (by decide +kernel) (by decide +kernel), tb_7 (i := 153) (by rfl) (by decide +kernel), rfl, by decide +kernel, by decide +kernel, by decide +kernel⟩
theorem wX12_differ : fm_wv yX12_differ cX12_differ 8 (some .int) 3 := ⟨tb_7 (i := 155) (by decide +kernel) (by decide +kernel), tb_7 (i := 156) (by decide +kernel) (by decide +kernel), tb_1 (i := 13) (by decide +kernel) (by decide +kernel), tb_7 (i := 157) (by rfl) (by decide +kernel), rfl, by decide +kernel, by decide +kernel, by decide +kernel⟩
theorem wX12_gap : fm_wv yX12_gap cX12_gap 3 (some .int) 2 := ⟨tb_7 (i := 159) (by decide +kernel) (by decide +kernel), tb_7 (i := 160) (by decide +kernel) (by decide +kernel), tb_1 (i := 13) (by decide +kernel) (by decide +kernel), tb_7 (i := 161) (by rfl) (by decide +kernel), rfl, by decide +kernel, by decide +kernel, by decide +kernel⟩
theorem wX12_opens : fm_wv yX12_opens cX12_opens 3 (some .int) 2 := ⟨tb_7 (i := 163) (by decide +kernel) (by decide +kernel), tb_7 (i := 164) (by decide +kernel) (by decide +kernel), tb_1 (i := 13) (by decide +kernel) (by decide +kernel), tb_7 (i := 165) (by rfl) (by decide +kernel), rfl, by decide +kernel, by decide +kernel, by decide +kernel⟩
theorem wX12_goes : fm_wv yX12_goes cX12_goes 3 (some .int) 1 := ⟨tb_7 (i := 167) (by decide +kernel) (by decide +kernel), tb_7 (i := 168) (by decide +kernel) (by decide +kernel), tb_1 (i := 13) (by decide +kernel) (by decide +kernel), tb_7 (i := 169) (by rfl) (by decide +kernel), rfl, by decide +kernel, by decide +kernel, by decide +kernel⟩
theorem wX12_refusesCursor : fm_wv yX12_refusesCursor cX12_refusesCursor 2 (some .int) 1 := ⟨tb_7 (i := 172) (by decide +kernel) (by decide +kernel), tb_s (i := 63) (by decide +kernel) (by decide +kernel), tb_1 (i := 13) (by decide +kernel) (by decide +kernel), tb_7 (i := 173) (by rfl) (by decide +kernel), rfl, by decide +kernel, by decide +kernel, by decide +kernel⟩
theorem wX12_skips : fm_wv yX12_skips cX12_skips 5 (some .int) 2 := ⟨tb_7 (i := 175) (by decide +kernel) (by decide +kernel), tb_7 (i := 176) (by decide +kernel) (by decide +kernel), tb_1 (i := 13) (by decide +kernel) (by decide +kernel), tb_7 (i := 177) (by rfl) (by decide +kernel), rfl, by decide +kernel, by decide +kernel, by decide +kernel⟩
theorem wX12_heard : fm_wv yX12_heard cX12_heard 3 (some .int) 2 := ⟨tb_7 (i := 179) (by decide +kernel) (by decide +kernel), tb_7 (i := 180) (by decide +kernel) (by decide +kernel), tb_1 (i := 13) (by decide +kernel) (by decide +kernel), tb_7 (i := 181) (by rfl) (by decide +kernel), rfl, by decide +kernel, by decide +kernel, by decide +kernel⟩
theorem wX12_highOf : fm_ws yX12_highOf cX12_highOf 1 (some .int) 1 := ⟨tb_7 (i := 183) (by decide +kernel) (by decide +kernel), tb_1 (i := 13) (by decide +kernel) (by decide +kernel), tb_7 (i := 184) (by rfl) (by decide +kernel), by decide +kernel, by decide +kernel, by decide +kernel⟩
theorem wX12_forget : fm_wv yX12_forget cX12_forget 2 (some .int) 0 := ⟨tb_7 (i := 186) (by decide +kernel) (by decide +kernel), tb_7 (i := 187) (by decide +kernel) (by decide +kernel), tb_1 (i := 13) (by decide +kernel) (by decide +kernel), tb_7 (i := 188) (by rfl) (by decide +kernel), rfl, by decide +kernel, by decide +kernel, by decide +kernel⟩
theorem wX12_fits : fm_wv yX12_fits cX12_fits 4 (some .int) 1 := ⟨tb_7 (i := 190) (by decide +kernel) (by decide +kernel), tb_7 (i := 191) (by decide +kernel) (by decide +kernel), tb_1 (i := 13) (by decide +kernel) (by decide +kernel), tb_7 (i := 192) (by rfl) (by decide +kernel), rfl, by decide +kernel, by decide +kernel, by decide +kernel⟩
theorem wX12_layFits : fm_wv yX12_layFits cX12_layFits 6 (some .int) 1 := ⟨tb_7 (i := 195) (by decide +kernel) (by decide +kernel), tb_s (i := 64) (by decide +kernel) (by decide +kernel), tb_1 (i := 13) (by decide +kernel) (by decide +kernel), tb_7 (i := 196) (by rfl) (by decide +kernel), rfl, by decide +kernel, by decide +kernel, by decide +kernel⟩
theorem wX12_isSo : fm_wv yX12_isSo cX12_isSo 6 (some .boolean) 3 := ⟨tb_7 (i := 199) (by decide +kernel) (by decide +kernel), tb_s (i := 65) (by decide +kernel) (by decide +kernel), tb_1 (i := 13) (by decide +kernel) (by decide +kernel), tb_7 (i := 200) (by rfl) (by decide +kernel), rfl, by decide +kernel, by decide +kernel, by decide +kernel⟩
theorem wX12_asks : fm_wv yX12_asks cX12_asks 9 (some .int) 1 := ⟨tb_7 (i := 202) (by decide +kernel) (by decide +kernel), tb_7 (i := 203) (by decide +kernel) (by decide +kernel), tb_1 (i := 13) (by decide +kernel) (by decide +kernel), tb_7 (i := 204) (by rfl) (by decide +kernel), rfl, by decide +kernel, by decide +kernel, by decide +kernel⟩
theorem wX12_odds : fm_wv yX12_odds cX12_odds 11 (some .int) 3 := ⟨tb_7 (i := 207) (by decide +kernel) (by decide +kernel), tb_7 (i := 208) (by decide +kernel) (by decide +kernel), tb_1 (i := 13) (by decide +kernel) (by decide +kernel), tb_7 (i := 209) (by rfl) (by decide +kernel), rfl, by decide +kernel, by decide +kernel, by decide +kernel⟩
theorem wX12_common : fm_ws yX12_common cX12_common 4 (some .long) 2 := ⟨tb_7 (i := 211) (by decide +kernel) (by decide +kernel), tb_1 (i := 13) (by decide +kernel) (by decide +kernel), tb_7 (i := 212) (by rfl) (by decide +kernel), by decide +kernel, by decide +kernel, by decide +kernel⟩
theorem wX12_duel : fm_wv yX12_duel cX12_duel 4 (some .int) 1 := ⟨tb_7 (i := 214) (by decide +kernel) (by decide +kernel), tb_7 (i := 215) (by decide +kernel) (by decide +kernel), tb_1 (i := 13) (by decide +kernel) (by decide +kernel), tb_7 (i := 216) (by rfl) (by decide +kernel), rfl, by decide +kernel, by decide +kernel, by decide +kernel⟩
theorem wX12_duelOf : fm_wv yX12_duelOf cX12_duelOf 4 (some .int) 3 := ⟨tb_7 (i := 219) (by decide +kernel) (by decide +kernel), tb_s (i := 66) (by decide +kernel) (by decide +kernel), tb_1 (i := 13) (by decide +kernel) (by decide +kernel), tb_7 (i := 220) (by rfl) (by decide +kernel), rfl, by decide +kernel, by decide +kernel, by decide +kernel⟩
theorem wX12_law : fm_wv yX12_law cX12_law 8 (some .int) 0 := ⟨tb_7 (i := 222) (by decide +kernel) (by decide +kernel), tb_7 (i := 223) (by decide +kernel) (by decide +kernel), tb_1 (i := 13) (by decide +kernel) (by decide +kernel), tb_7 (i := 224) (by rfl) (by decide +kernel), rfl, by decide +kernel, by decide +kernel, by decide +kernel⟩
theorem wX12_years : fm_wv yX12_years cX12_years 4 (some .int) 2 := ⟨tb_7 (i := 226) (by decide +kernel) (by decide +kernel), tb_7 (i := 227) (by decide +kernel) (by decide +kernel), tb_1 (i := 13) (by decide +kernel) (by decide +kernel), tb_7 (i := 228) (by rfl) (by decide +kernel), rfl, by decide +kernel, by decide +kernel, by decide +kernel⟩
theorem wX12_goDrawn : fm_wv yX12_goDrawn cX12_goDrawn 5 none 1 := ⟨tb_7 (i := 231) (by decide +kernel) (by decide +kernel), tb_s (i := 67) (by decide +kernel) (by decide +kernel), tb_1 (i := 13) (by decide +kernel) (by decide +kernel), tb_7 (i := 232) (by rfl) (by decide +kernel), rfl, by decide +kernel, by decide +kernel, by decide +kernel⟩
theorem wX12_draw : fm_wv yX12_draw cX12_draw 2 (some .int) 1 := ⟨tb_7 (i := 235) (by decide +kernel) (by decide +kernel), tb_s (i := 68) (by decide +kernel) (by decide +kernel), tb_1 (i := 13) (by decide +kernel) (by decide +kernel), tb_7 (i := 236) (by rfl) (by decide +kernel), rfl, by decide +kernel, by decide +kernel, by decide +kernel⟩
theorem wX12_keep : fm_wv yX12_keep cX12_keep 2 (some .boolean) 1 := ⟨tb_7 (i := 239) (by decide +kernel) (by decide +kernel), tb_8 (i := 0) (by decide +kernel) (by decide +kernel), tb_1 (i := 13) (by decide +kernel) (by decide +kernel), tb_8 (i := 1) (by rfl) (by decide +kernel), rfl, by decide +kernel, by decide +kernel, by decide +kernel⟩
theorem wX12_again : fm_wv yX12_again cX12_again 3 (some .boolean) 1 := ⟨tb_8 (i := 3) (by decide +kernel) (by decide +kernel), tb_8 (i := 4) (by decide +kernel) (by decide +kernel), tb_1 (i := 13) (by decide +kernel) (by decide +kernel), tb_8 (i := 5) (by rfl) (by decide +kernel), rfl, by decide +kernel, by decide +kernel, by decide +kernel⟩
theorem wX12_count : fm_wv yX12_count cX12_count 2 (some .int) 1 := ⟨tb_8 (i := 7) (by decide +kernel) (by decide +kernel), tb_8 (i := 8) (by decide +kernel) (by decide +kernel), tb_1 (i := 13) (by decide +kernel) (by decide +kernel), tb_8 (i := 9) (by rfl) (by decide +kernel), rfl, by decide +kernel, by decide +kernel, by decide +kernel⟩
theorem wX12_numbersOf : fm_wv yX12_numbersOf cX12_numbersOf 3 (some .int) 0 := ⟨tb_8 (i := 12) (by decide +kernel) (by decide +kernel), tb_s (i := 69) (by decide +kernel) (by decide +kernel), tb_1 (i := 13) (by decide +kernel) (by decide +kernel), tb_8 (i := 13) (by rfl) (by decide +kernel), rfl, by decide +kernel, by decide +kernel, by decide +kernel⟩
theorem wX12_row : fm_wv yX12_row cX12_row 2 (some .long) 1 := ⟨tb_8 (i := 15) (by decide +kernel) (by decide +kernel), tb_8 (i := 16) (by decide +kernel) (by decide +kernel), tb_1 (i := 13) (by decide +kernel) (by decide +kernel), tb_8 (i := 17) (by rfl) (by decide +kernel), rfl, by decide +kernel, by decide +kernel, by decide +kernel⟩
theorem lX11_35 : Cond.methodLink RX11 35 yX5_init ∈ TB := tb_1 (i := 91) (by decide +kernel) (by decide +kernel)
theorem lX11_87 : Cond.methodLink RX11 87 yX7_init ∈ TB := tb_1 (i := 184) (by decide +kernel) (by decide +kernel)
theorem lX11_98 : Cond.methodLink RX11 98 yX6_init ∈ TB := tb_1 (i := 216) (by decide +kernel) (by decide +kernel)
theorem lX11_102 : Cond.methodLink RX11 102 yX9_append ∈ TB := tb_2 (i := 64) (by decide +kernel) (by decide +kernel)
theorem lX11_106 : Cond.methodLink RX11 106 yX9_length ∈ TB := tb_2 (i := 68) (by decide +kernel) (by decide +kernel)
theorem lX11_110 : Cond.methodLink RX11 110 yX9_cut ∈ TB := tb_2 (i := 76) (by decide +kernel) (by decide +kernel)
theorem lX11_113 : Cond.methodLink RX11 113 yX9_numbersInto ∈ TB := tb_2 (i := 84) (by decide +kernel) (by decide +kernel)
theorem lX9_27 : Cond.methodLink RX9 27 yX9_hasDigit ∈ TB := tb_2 (i := 88) (by decide +kernel) (by decide +kernel)
theorem lX9_19 : Cond.methodLink RX9 19 yX9_at ∈ TB := tb_2 (i := 92) (by decide +kernel) (by decide +kernel)
theorem lX9_23 : Cond.methodLink RX9 23 yX9_digit ∈ TB := tb_2 (i := 96) (by decide +kernel) (by decide +kernel)
theorem lX11_117 : Cond.methodLink RX11 117 yX9_clear ∈ TB := tb_2 (i := 100) (by decide +kernel) (by decide +kernel)
theorem lX11_120 : Cond.methodLink RX11 120 yX8_copyFrom ∈ TB := tb_2 (i := 104) (by decide +kernel) (by decide +kernel)
theorem lX11_124 : Cond.methodLink RX11 124 yX8_setList ∈ TB := tb_2 (i := 111) (by decide +kernel) (by decide +kernel)
theorem lX8_43 : Cond.methodLink RX8 43 yX8_isBelow ∈ TB := tb_2 (i := 115) (by decide +kernel) (by decide +kernel)
theorem lX8_51 : Cond.methodLink RX8 51 yX8_putNumber ∈ TB := tb_2 (i := 118) (by decide +kernel) (by decide +kernel)
theorem lX11_128 : Cond.methodLink RX11 128 yX11_settled ∈ TB := tb_2 (i := 122) (by decide +kernel) (by decide +kernel)
theorem lX11_363 : Cond.methodLink RX11 363 yX5_add ∈ TB := tb_2 (i := 126) (by decide +kernel) (by decide +kernel)
theorem lX5_25 : Cond.methodLink RX5 25 yX8_copyFrom ∈ TB := tb_2 (i := 130) (by decide +kernel) (by decide +kernel)
theorem lX11_136 : Cond.methodLink RX11 136 yX11_changed ∈ TB := tb_2 (i := 131) (by decide +kernel) (by decide +kernel)
theorem lX11_365 : Cond.methodLink RX11 365 yX6_outdate ∈ TB := tb_2 (i := 135) (by decide +kernel) (by decide +kernel)
theorem lX11_368 : Cond.methodLink RX11 368 yX3_outdate ∈ TB := tb_2 (i := 139) (by decide +kernel) (by decide +kernel)
theorem lX11_132 : Cond.methodLink RX11 132 yX7_read ∈ TB := tb_2 (i := 147) (by decide +kernel) (by decide +kernel)
theorem lX7_35 : Cond.methodLink RX7 35 yX9_length ∈ TB := tb_2 (i := 151) (by decide +kernel) (by decide +kernel)
theorem lX7_40 : Cond.methodLink RX7 40 yX7_addStep ∈ TB := tb_2 (i := 152) (by decide +kernel) (by decide +kernel)
theorem lX7_50 : Cond.methodLink RX7 50 yX9_at ∈ TB := tb_2 (i := 159) (by decide +kernel) (by decide +kernel)
theorem lX7_54 : Cond.methodLink RX7 54 yX7_startThing ∈ TB := tb_2 (i := 160) (by decide +kernel) (by decide +kernel)
theorem lX7_65 : Cond.methodLink RX7 65 yX9_hasDigit ∈ TB := tb_2 (i := 164) (by decide +kernel) (by decide +kernel)
theorem lX7_69 : Cond.methodLink RX7 69 yX7_readNumber ∈ TB := tb_2 (i := 165) (by decide +kernel) (by decide +kernel)
theorem lX7_82 : Cond.methodLink RX7 82 yX9_digit ∈ TB := tb_2 (i := 169) (by decide +kernel) (by decide +kernel)
theorem lX7_72 : Cond.methodLink RX7 72 yX7_hold ∈ TB := tb_2 (i := 170) (by decide +kernel) (by decide +kernel)
theorem lX7_75 : Cond.methodLink RX7 75 yX7_openBracket ∈ TB := tb_2 (i := 174) (by decide +kernel) (by decide +kernel)
theorem lX7_79 : Cond.methodLink RX7 79 yX7_isLetter ∈ TB := tb_2 (i := 178) (by decide +kernel) (by decide +kernel)
theorem lX7_58 : Cond.methodLink RX7 58 yX7_goOn ∈ TB := tb_2 (i := 181) (by decide +kernel) (by decide +kernel)
theorem lX7_86 : Cond.methodLink RX7 86 yX7_closeBracket ∈ TB := tb_2 (i := 185) (by decide +kernel) (by decide +kernel)
theorem lX7_62 : Cond.methodLink RX7 62 yX7_release ∈ TB := tb_2 (i := 189) (by decide +kernel) (by decide +kernel)
theorem lX7_89 : Cond.methodLink RX7 89 yX7_bindingOf ∈ TB := tb_2 (i := 193) (by decide +kernel) (by decide +kernel)
theorem lX11_158 : Cond.methodLink RX11 158 yX8_weigh ∈ TB := tb_2 (i := 200) (by decide +kernel) (by decide +kernel)
theorem lX8_68 : Cond.methodLink RX8 68 yX8_entry ∈ TB := tb_2 (i := 204) (by decide +kernel) (by decide +kernel)
theorem lX11_162 : Cond.methodLink RX11 162 yX8_putNumber ∈ TB := tb_2 (i := 213) (by decide +kernel) (by decide +kernel)
theorem lX11_165 : Cond.methodLink RX11 165 yX8_takeNumber ∈ TB := tb_2 (i := 218) (by decide +kernel) (by decide +kernel)
theorem lX8_55 : Cond.methodLink RX8 55 yX8_numberAt ∈ TB := tb_2 (i := 222) (by decide +kernel) (by decide +kernel)
theorem lX8_47 : Cond.methodLink RX8 47 yX8_sizeOf ∈ TB := tb_2 (i := 226) (by decide +kernel) (by decide +kernel)
theorem lX11_168 : Cond.methodLink RX11 168 yX8_joinNodes ∈ TB := tb_2 (i := 234) (by decide +kernel) (by decide +kernel)
theorem lX8_58 : Cond.methodLink RX8 58 yX8_areTwoNodes ∈ TB := tb_2 (i := 238) (by decide +kernel) (by decide +kernel)
theorem lX8_61 : Cond.methodLink RX8 61 yX8_pairOf ∈ TB := tb_3 (i := 1) (by decide +kernel) (by decide +kernel)
theorem lX8_64 : Cond.methodLink RX8 64 yX8_edges ∈ TB := tb_3 (i := 4) (by decide +kernel) (by decide +kernel)
theorem lX11_172 : Cond.methodLink RX11 172 yX8_setCost ∈ TB := tb_3 (i := 12) (by decide +kernel) (by decide +kernel)
theorem lX11_175 : Cond.methodLink RX11 175 yX8_setWhat ∈ TB := tb_3 (i := 20) (by decide +kernel) (by decide +kernel)
theorem lX11_178 : Cond.methodLink RX11 178 yX8_setEnds ∈ TB := tb_3 (i := 28) (by decide +kernel) (by decide +kernel)
theorem lX8_71 : Cond.methodLink RX8 71 yX8_endsAsNumber ∈ TB := tb_3 (i := 32) (by decide +kernel) (by decide +kernel)
theorem lX11_181 : Cond.methodLink RX11 181 yX0_fault ∈ TB := tb_3 (i := 40) (by decide +kernel) (by decide +kernel)
theorem lX0_15 : Cond.methodLink RX0 15 yX9_length ∈ TB := tb_3 (i := 43) (by decide +kernel) (by decide +kernel)
theorem lX0_27 : Cond.methodLink RX0 27 yX9_at ∈ TB := tb_3 (i := 45) (by decide +kernel) (by decide +kernel)
theorem lX0_31 : Cond.methodLink RX0 31 yX0_formOf ∈ TB := tb_3 (i := 46) (by decide +kernel) (by decide +kernel)
theorem lX0_45 : Cond.methodLink RX0 45 yX0_mayStand ∈ TB := tb_3 (i := 108) (by decide +kernel) (by decide +kernel)
theorem lX11_184 : Cond.methodLink RX11 184 yX0_perform ∈ TB := tb_3 (i := 111) (by decide +kernel) (by decide +kernel)
theorem lX0_49 : Cond.methodLink RX0 49 yX0_performOne ∈ TB := tb_3 (i := 115) (by decide +kernel) (by decide +kernel)
theorem lX0_53 : Cond.methodLink RX0 53 yX9_digit ∈ TB := tb_3 (i := 118) (by decide +kernel) (by decide +kernel)
theorem lX0_57 : Cond.methodLink RX0 57 yX9_twoDigits ∈ TB := tb_3 (i := 119) (by decide +kernel) (by decide +kernel)
theorem lX0_60 : Cond.methodLink RX0 60 yX8_putNumber ∈ TB := tb_3 (i := 123) (by decide +kernel) (by decide +kernel)
theorem lX0_65 : Cond.methodLink RX0 65 yX8_takeNumber ∈ TB := tb_3 (i := 124) (by decide +kernel) (by decide +kernel)
theorem lX0_68 : Cond.methodLink RX0 68 yX9_node ∈ TB := tb_3 (i := 125) (by decide +kernel) (by decide +kernel)
theorem lX0_71 : Cond.methodLink RX0 71 yX8_joinNodes ∈ TB := tb_3 (i := 129) (by decide +kernel) (by decide +kernel)
theorem lX0_75 : Cond.methodLink RX0 75 yX8_setCost ∈ TB := tb_3 (i := 130) (by decide +kernel) (by decide +kernel)
theorem lX0_78 : Cond.methodLink RX0 78 yX8_setWhat ∈ TB := tb_3 (i := 131) (by decide +kernel) (by decide +kernel)
theorem lX0_81 : Cond.methodLink RX0 81 yX8_setEnds ∈ TB := tb_3 (i := 132) (by decide +kernel) (by decide +kernel)
theorem lX11_188 : Cond.methodLink RX11 188 yX0_stopped ∈ TB := tb_3 (i := 133) (by decide +kernel) (by decide +kernel)
theorem lX11_192 : Cond.methodLink RX11 192 yX10_only ∈ TB := tb_3 (i := 137) (by decide +kernel) (by decide +kernel)
theorem lX10_19 : Cond.methodLink RX10 19 yX10_clear ∈ TB := tb_3 (i := 141) (by decide +kernel) (by decide +kernel)
theorem lX10_22 : Cond.methodLink RX10 22 yX10_add ∈ TB := tb_3 (i := 145) (by decide +kernel) (by decide +kernel)
theorem lX11_196 : Cond.methodLink RX11 196 yX5_takeLatest ∈ TB := tb_3 (i := 154) (by decide +kernel) (by decide +kernel)
theorem lX11_200 : Cond.methodLink RX11 200 yX5_size ∈ TB := tb_3 (i := 158) (by decide +kernel) (by decide +kernel)
theorem lX11_203 : Cond.methodLink RX11 203 yX11_isKind ∈ TB := tb_3 (i := 166) (by decide +kernel) (by decide +kernel)
theorem lX11_206 : Cond.methodLink RX11 206 yX11_isPlace ∈ TB := tb_3 (i := 169) (by decide +kernel) (by decide +kernel)
theorem lX11_210 : Cond.methodLink RX11 210 yX11_orderOf ∈ TB := tb_3 (i := 172) (by decide +kernel) (by decide +kernel)
theorem lX11_369 : Cond.methodLink RX11 369 yX6_isKnown ∈ TB := tb_3 (i := 176) (by decide +kernel) (by decide +kernel)
theorem lX11_372 : Cond.methodLink RX11 372 yX6_clear ∈ TB := tb_3 (i := 180) (by decide +kernel) (by decide +kernel)
theorem lX11_373 : Cond.methodLink RX11 373 yX4_find ∈ TB := tb_3 (i := 184) (by decide +kernel) (by decide +kernel)
theorem lX4_36 : Cond.methodLink RX4 36 yX4_findChoices ∈ TB := tb_3 (i := 188) (by decide +kernel) (by decide +kernel)
theorem lX4_74 : Cond.methodLink RX4 74 yX7_costOf ∈ TB := tb_3 (i := 192) (by decide +kernel) (by decide +kernel)
theorem lX7_95 : Cond.methodLink RX7 95 yX7_push ∈ TB := tb_3 (i := 196) (by decide +kernel) (by decide +kernel)
theorem lX7_98 : Cond.methodLink RX7 98 yX7_valueOf ∈ TB := tb_3 (i := 200) (by decide +kernel) (by decide +kernel)
theorem lX7_109 : Cond.methodLink RX7 109 yX7_gathered ∈ TB := tb_3 (i := 203) (by decide +kernel) (by decide +kernel)
theorem lX7_102 : Cond.methodLink RX7 102 yX7_pop ∈ TB := tb_3 (i := 206) (by decide +kernel) (by decide +kernel)
theorem lX7_105 : Cond.methodLink RX7 105 yX7_joined ∈ TB := tb_3 (i := 210) (by decide +kernel) (by decide +kernel)
theorem lX4_80 : Cond.methodLink RX4 80 yX6_add ∈ TB := tb_3 (i := 213) (by decide +kernel) (by decide +kernel)
theorem lX6_27 : Cond.methodLink RX6 27 yX6_keyOf ∈ TB := tb_3 (i := 217) (by decide +kernel) (by decide +kernel)
theorem lX4_61 : Cond.methodLink RX4 61 yX8_sizeOf ∈ TB := tb_3 (i := 220) (by decide +kernel) (by decide +kernel)
theorem lX4_71 : Cond.methodLink RX4 71 yX8_numberAt ∈ TB := tb_3 (i := 221) (by decide +kernel) (by decide +kernel)
theorem lX4_86 : Cond.methodLink RX4 86 yX2_with ∈ TB := tb_3 (i := 222) (by decide +kernel) (by decide +kernel)
theorem lX4_40 : Cond.methodLink RX4 40 yX4_findTrees ∈ TB := tb_3 (i := 225) (by decide +kernel) (by decide +kernel)
theorem lX4_94 : Cond.methodLink RX4 94 yX8_weight ∈ TB := tb_3 (i := 229) (by decide +kernel) (by decide +kernel)
theorem lX4_96 : Cond.methodLink RX4 96 yX8_joinedNodes ∈ TB := tb_3 (i := 233) (by decide +kernel) (by decide +kernel)
theorem lX4_112 : Cond.methodLink RX4 112 yX4_regrouped ∈ TB := tb_4 (i := 4) (by decide +kernel) (by decide +kernel)
theorem lX4_116 : Cond.methodLink RX4 116 yX4_growTree ∈ TB := tb_4 (i := 7) (by decide +kernel) (by decide +kernel)
theorem lX4_119 : Cond.methodLink RX4 119 yX4_groupOf ∈ TB := tb_4 (i := 11) (by decide +kernel) (by decide +kernel)
theorem lX4_122 : Cond.methodLink RX4 122 yX4_merged ∈ TB := tb_4 (i := 14) (by decide +kernel) (by decide +kernel)
theorem lX4_43 : Cond.methodLink RX4 43 yX4_findPairings ∈ TB := tb_4 (i := 17) (by decide +kernel) (by decide +kernel)
theorem lX4_125 : Cond.methodLink RX4 125 yX8_size ∈ TB := tb_4 (i := 21) (by decide +kernel) (by decide +kernel)
theorem lX4_128 : Cond.methodLink RX4 128 yX8_costAt ∈ TB := tb_4 (i := 25) (by decide +kernel) (by decide +kernel)
theorem lX4_47 : Cond.methodLink RX4 47 yX4_findSubsets ∈ TB := tb_4 (i := 29) (by decide +kernel) (by decide +kernel)
theorem lX4_131 : Cond.methodLink RX4 131 yX8_picked ∈ TB := tb_4 (i := 33) (by decide +kernel) (by decide +kernel)
theorem lX4_51 : Cond.methodLink RX4 51 yX8_firstEnd ∈ TB := tb_4 (i := 37) (by decide +kernel) (by decide +kernel)
theorem lX4_57 : Cond.methodLink RX4 57 yX4_findRoutes ∈ TB := tb_4 (i := 41) (by decide +kernel) (by decide +kernel)
theorem lX4_134 : Cond.methodLink RX4 134 yX8_secondEnd ∈ TB := tb_4 (i := 45) (by decide +kernel) (by decide +kernel)
theorem lX11_377 : Cond.methodLink RX11 377 yX6_sort ∈ TB := tb_4 (i := 49) (by decide +kernel) (by decide +kernel)
theorem lX11_214 : Cond.methodLink RX11 214 yX6_size ∈ TB := tb_4 (i := 55) (by decide +kernel) (by decide +kernel)
theorem lX11_215 : Cond.methodLink RX11 215 yX11_tellOne ∈ TB := tb_4 (i := 59) (by decide +kernel) (by decide +kernel)
theorem lX11_251 : Cond.methodLink RX11 251 yX6_codeAt ∈ TB := tb_4 (i := 63) (by decide +kernel) (by decide +kernel)
theorem lX6_37 : Cond.methodLink RX6 37 yX6_keyAt ∈ TB := tb_4 (i := 67) (by decide +kernel) (by decide +kernel)
theorem lX11_380 : Cond.methodLink RX11 380 yX2_lengthOf ∈ TB := tb_4 (i := 72) (by decide +kernel) (by decide +kernel)
theorem lX2_13 : Cond.methodLink RX2 13 yX2_numberAt ∈ TB := tb_4 (i := 75) (by decide +kernel) (by decide +kernel)
theorem lX11_220 : Cond.methodLink RX11 220 yX6_costAt ∈ TB := tb_4 (i := 79) (by decide +kernel) (by decide +kernel)
theorem lX6_41 : Cond.methodLink RX6 41 yX6_costOf ∈ TB := tb_4 (i := 83) (by decide +kernel) (by decide +kernel)
theorem lX11_255 : Cond.methodLink RX11 255 yX2_numberAt ∈ TB := tb_4 (i := 86) (by decide +kernel) (by decide +kernel)
theorem lX11_223 : Cond.methodLink RX11 223 yX10_add ∈ TB := tb_4 (i := 87) (by decide +kernel) (by decide +kernel)
theorem lX11_219 : Cond.methodLink RX11 219 yX10_clear ∈ TB := tb_4 (i := 92) (by decide +kernel) (by decide +kernel)
theorem lX11_226 : Cond.methodLink RX11 226 yX6_upTo ∈ TB := tb_4 (i := 93) (by decide +kernel) (by decide +kernel)
theorem lX11_229 : Cond.methodLink RX11 229 yX2_fault ∈ TB := tb_4 (i := 105) (by decide +kernel) (by decide +kernel)
theorem lX2_21 : Cond.methodLink RX2 21 yX9_length ∈ TB := tb_4 (i := 108) (by decide +kernel) (by decide +kernel)
theorem lX2_27 : Cond.methodLink RX2 27 yX9_at ∈ TB := tb_4 (i := 109) (by decide +kernel) (by decide +kernel)
theorem lX11_232 : Cond.methodLink RX11 232 yX2_of ∈ TB := tb_4 (i := 110) (by decide +kernel) (by decide +kernel)
theorem lX2_37 : Cond.methodLink RX2 37 yX2_with ∈ TB := tb_4 (i := 114) (by decide +kernel) (by decide +kernel)
theorem lX11_236 : Cond.methodLink RX11 236 yX6_placeOf ∈ TB := tb_4 (i := 115) (by decide +kernel) (by decide +kernel)
theorem lX6_51 : Cond.methodLink RX6 51 yX6_codeAt ∈ TB := tb_4 (i := 119) (by decide +kernel) (by decide +kernel)
theorem lX11_240 : Cond.methodLink RX11 240 yX6_firstAlike ∈ TB := tb_4 (i := 124) (by decide +kernel) (by decide +kernel)
theorem lX6_47 : Cond.methodLink RX6 47 yX6_costAt ∈ TB := tb_4 (i := 128) (by decide +kernel) (by decide +kernel)
theorem lX11_243 : Cond.methodLink RX11 243 yX6_sharedPlaces ∈ TB := tb_4 (i := 133) (by decide +kernel) (by decide +kernel)
theorem lX6_54 : Cond.methodLink RX6 54 yX2_lengthOf ∈ TB := tb_4 (i := 137) (by decide +kernel) (by decide +kernel)
theorem lX6_59 : Cond.methodLink RX6 59 yX2_differences ∈ TB := tb_4 (i := 138) (by decide +kernel) (by decide +kernel)
theorem lX11_258 : Cond.methodLink RX11 258 yX2_differences ∈ TB := tb_4 (i := 150) (by decide +kernel) (by decide +kernel)
theorem lX11_262 : Cond.methodLink RX11 262 yX2_firstOf ∈ TB := tb_4 (i := 151) (by decide +kernel) (by decide +kernel)
theorem lX11_265 : Cond.methodLink RX11 265 yX3_open ∈ TB := tb_4 (i := 162) (by decide +kernel) (by decide +kernel)
theorem lX11_268 : Cond.methodLink RX11 268 yX3_isUsable ∈ TB := tb_4 (i := 170) (by decide +kernel) (by decide +kernel)
theorem lX11_271 : Cond.methodLink RX11 271 yX3_refusal ∈ TB := tb_4 (i := 174) (by decide +kernel) (by decide +kernel)
theorem lX11_274 : Cond.methodLink RX11 274 yX3_kind ∈ TB := tb_4 (i := 178) (by decide +kernel) (by decide +kernel)
theorem lX11_277 : Cond.methodLink RX11 277 yX3_passed ∈ TB := tb_4 (i := 182) (by decide +kernel) (by decide +kernel)
theorem lX11_280 : Cond.methodLink RX11 280 yX3_move ∈ TB := tb_4 (i := 186) (by decide +kernel) (by decide +kernel)
theorem lX11_284 : Cond.methodLink RX11 284 yX1_add ∈ TB := tb_4 (i := 199) (by decide +kernel) (by decide +kernel)
theorem lX11_286 : Cond.methodLink RX11 286 yX1_size ∈ TB := tb_4 (i := 205) (by decide +kernel) (by decide +kernel)
theorem lX11_287 : Cond.methodLink RX11 287 yX1_clear ∈ TB := tb_4 (i := 213) (by decide +kernel) (by decide +kernel)
theorem lX11_288 : Cond.methodLink RX11 288 yX1_allow ∈ TB := tb_4 (i := 221) (by decide +kernel) (by decide +kernel)
theorem lX1_30 : Cond.methodLink RX1 30 yX1_isSo ∈ TB := tb_4 (i := 225) (by decide +kernel) (by decide +kernel)
theorem lX1_34 : Cond.methodLink RX1 34 yX2_numberAt ∈ TB := tb_4 (i := 228) (by decide +kernel) (by decide +kernel)
theorem lX1_40 : Cond.methodLink RX1 40 yX1_lastOf ∈ TB := tb_4 (i := 229) (by decide +kernel) (by decide +kernel)
theorem lX1_44 : Cond.methodLink RX1 44 yX2_lengthOf ∈ TB := tb_4 (i := 232) (by decide +kernel) (by decide +kernel)
theorem lX1_47 : Cond.methodLink RX1 47 yX2_numbersOf ∈ TB := tb_4 (i := 233) (by decide +kernel) (by decide +kernel)
theorem lX2_17 : Cond.methodLink RX2 17 yX2_lengthOf ∈ TB := tb_4 (i := 236) (by decide +kernel) (by decide +kernel)
theorem lX11_292 : Cond.methodLink RX11 292 yX1_tally ∈ TB := tb_5 (i := 1) (by decide +kernel) (by decide +kernel)
theorem lX1_50 : Cond.methodLink RX1 50 yX6_size ∈ TB := tb_5 (i := 5) (by decide +kernel) (by decide +kernel)
theorem lX1_55 : Cond.methodLink RX1 55 yX6_costAt ∈ TB := tb_5 (i := 6) (by decide +kernel) (by decide +kernel)
theorem lX1_59 : Cond.methodLink RX1 59 yX6_codeAt ∈ TB := tb_5 (i := 7) (by decide +kernel) (by decide +kernel)
theorem lX1_63 : Cond.methodLink RX1 63 yX1_allow ∈ TB := tb_5 (i := 8) (by decide +kernel) (by decide +kernel)
theorem lX1_67 : Cond.methodLink RX1 67 yX1_tallyOne ∈ TB := tb_5 (i := 9) (by decide +kernel) (by decide +kernel)
theorem lX1_77 : Cond.methodLink RX1 77 yX1_addTo ∈ TB := tb_5 (i := 14) (by decide +kernel) (by decide +kernel)
theorem lX11_296 : Cond.methodLink RX11 296 yX1_bestQuestion ∈ TB := tb_5 (i := 18) (by decide +kernel) (by decide +kernel)
theorem lX1_81 : Cond.methodLink RX1 81 yX1_mostLeft ∈ TB := tb_5 (i := 22) (by decide +kernel) (by decide +kernel)
theorem lX11_299 : Cond.methodLink RX11 299 yX1_mostLeft ∈ TB := tb_5 (i := 27) (by decide +kernel) (by decide +kernel)
theorem lX11_302 : Cond.methodLink RX11 302 yX11_tellFraction ∈ TB := tb_5 (i := 32) (by decide +kernel) (by decide +kernel)
theorem lX11_306 : Cond.methodLink RX11 306 yX8_sizeOf ∈ TB := tb_5 (i := 40) (by decide +kernel) (by decide +kernel)
theorem lX11_139 : Cond.methodLink RX11 139 yX8_numberAt ∈ TB := tb_5 (i := 41) (by decide +kernel) (by decide +kernel)
theorem lX11_309 : Cond.methodLink RX11 309 yX11_lead ∈ TB := tb_5 (i := 42) (by decide +kernel) (by decide +kernel)
theorem lX11_322 : Cond.methodLink RX11 322 yX4_costOfChoice ∈ TB := tb_5 (i := 51) (by decide +kernel) (by decide +kernel)
theorem lX4_65 : Cond.methodLink RX4 65 yX2_numberAt ∈ TB := tb_5 (i := 55) (by decide +kernel) (by decide +kernel)
theorem lX11_326 : Cond.methodLink RX11 326 yX6_keyOf ∈ TB := tb_5 (i := 56) (by decide +kernel) (by decide +kernel)
theorem lX11_330 : Cond.methodLink RX11 330 yX6_costOf ∈ TB := tb_5 (i := 57) (by decide +kernel) (by decide +kernel)
theorem lX11_337 : Cond.methodLink RX11 337 yX11_liveYear ∈ TB := tb_5 (i := 62) (by decide +kernel) (by decide +kernel)
theorem lX11_383 : Cond.methodLink RX11 383 yX11_draw ∈ TB := tb_5 (i := 66) (by decide +kernel) (by decide +kernel)
theorem lX11_386 : Cond.methodLink RX11 386 yX11_puts ∈ TB := tb_5 (i := 71) (by decide +kernel) (by decide +kernel)
theorem lX11_389 : Cond.methodLink RX11 389 yX11_takes ∈ TB := tb_5 (i := 72) (by decide +kernel) (by decide +kernel)
theorem lX11_392 : Cond.methodLink RX11 392 yX11_joins ∈ TB := tb_5 (i := 73) (by decide +kernel) (by decide +kernel)
theorem lX11_395 : Cond.methodLink RX11 395 yX11_costs ∈ TB := tb_5 (i := 74) (by decide +kernel) (by decide +kernel)
theorem lX11_340 : Cond.methodLink RX11 340 yX5_clear ∈ TB := tb_5 (i := 83) (by decide +kernel) (by decide +kernel)
theorem lX11_341 : Cond.methodLink RX11 341 yX8_allNumbers ∈ TB := tb_5 (i := 91) (by decide +kernel) (by decide +kernel)
theorem lX11_344 : Cond.methodLink RX11 344 yX8_edges ∈ TB := tb_5 (i := 95) (by decide +kernel) (by decide +kernel)
theorem lX11_347 : Cond.methodLink RX11 347 yX8_size ∈ TB := tb_5 (i := 96) (by decide +kernel) (by decide +kernel)
theorem lX11_348 : Cond.methodLink RX11 348 yX8_picked ∈ TB := tb_5 (i := 97) (by decide +kernel) (by decide +kernel)
theorem lX11_351 : Cond.methodLink RX11 351 yX8_endsAsNumber ∈ TB := tb_5 (i := 98) (by decide +kernel) (by decide +kernel)
theorem lX11_354 : Cond.methodLink RX11 354 yX10_size ∈ TB := tb_5 (i := 99) (by decide +kernel) (by decide +kernel)
theorem lX11_355 : Cond.methodLink RX11 355 yX8_joinedNodes ∈ TB := tb_5 (i := 103) (by decide +kernel) (by decide +kernel)
theorem lX11_150 : Cond.methodLink RX11 150 yX8_pairOfEdge ∈ TB := tb_5 (i := 184) (by decide +kernel) (by decide +kernel)
theorem lX11_155 : Cond.methodLink RX11 155 yX8_weight ∈ TB := tb_5 (i := 189) (by decide +kernel) (by decide +kernel)
theorem lX11_360 : Cond.methodLink RX11 360 yX10_at ∈ TB := tb_5 (i := 198) (by decide +kernel) (by decide +kernel)
theorem lX12_101 : Cond.methodLink RX12 101 yX12_in ∈ TB := tb_6 (i := 107) (by decide +kernel) (by decide +kernel)
theorem lX12_151 : Cond.methodLink RX12 151 yX12_beginText ∈ TB := tb_6 (i := 114) (by decide +kernel) (by decide +kernel)
theorem lX12_127 : Cond.methodLink RX12 127 yX12_begin ∈ TB := tb_6 (i := 118) (by decide +kernel) (by decide +kernel)
theorem lX12_131 : Cond.methodLink RX12 131 yX12_fine ∈ TB := tb_6 (i := 122) (by decide +kernel) (by decide +kernel)
theorem lX12_143 : Cond.methodLink RX12 143 yX12_fault ∈ TB := tb_6 (i := 126) (by decide +kernel) (by decide +kernel)
theorem lX12_154 : Cond.methodLink RX12 154 yX12_number ∈ TB := tb_6 (i := 130) (by decide +kernel) (by decide +kernel)
theorem lX12_147 : Cond.methodLink RX12 147 yX12_oneOf ∈ TB := tb_6 (i := 134) (by decide +kernel) (by decide +kernel)
theorem lX12_135 : Cond.methodLink RX12 135 yX12_here ∈ TB := tb_6 (i := 138) (by decide +kernel) (by decide +kernel)
theorem lX12_139 : Cond.methodLink RX12 139 yX12_passes ∈ TB := tb_6 (i := 142) (by decide +kernel) (by decide +kernel)
theorem lX12_158 : Cond.methodLink RX12 158 yX12_wasRight ∈ TB := tb_6 (i := 146) (by decide +kernel) (by decide +kernel)
theorem lX12_161 : Cond.methodLink RX12 161 yX12_isList ∈ TB := tb_6 (i := 150) (by decide +kernel) (by decide +kernel)
theorem lX12_165 : Cond.methodLink RX12 165 yX12_change ∈ TB := tb_6 (i := 153) (by decide +kernel) (by decide +kernel)
theorem lX12_231 : Cond.methodLink RX12 231 yX12_lay ∈ TB := tb_6 (i := 157) (by decide +kernel) (by decide +kernel)
theorem lX12_169 : Cond.methodLink RX12 169 yX12_goPut ∈ TB := tb_6 (i := 160) (by decide +kernel) (by decide +kernel)
theorem lX12_195 : Cond.methodLink RX12 195 yX12_readRule ∈ TB := tb_6 (i := 167) (by decide +kernel) (by decide +kernel)
theorem lX12_181 : Cond.methodLink RX12 181 yX12_held ∈ TB := tb_6 (i := 171) (by decide +kernel) (by decide +kernel)
theorem lX12_172 : Cond.methodLink RX12 172 yX12_sum ∈ TB := tb_6 (i := 175) (by decide +kernel) (by decide +kernel)
theorem lX12_175 : Cond.methodLink RX12 175 yX12_product ∈ TB := tb_6 (i := 179) (by decide +kernel) (by decide +kernel)
theorem lX12_178 : Cond.methodLink RX12 178 yX12_thing ∈ TB := tb_6 (i := 183) (by decide +kernel) (by decide +kernel)
theorem lX12_184 : Cond.methodLink RX12 184 yX12_need ∈ TB := tb_6 (i := 187) (by decide +kernel) (by decide +kernel)
theorem lX12_188 : Cond.methodLink RX12 188 yX12_letterOf ∈ TB := tb_6 (i := 191) (by decide +kernel) (by decide +kernel)
theorem lX12_213 : Cond.methodLink RX12 213 yX12_lost ∈ TB := tb_6 (i := 198) (by decide +kernel) (by decide +kernel)
theorem lX12_216 : Cond.methodLink RX12 216 yX12_edgesOf ∈ TB := tb_6 (i := 206) (by decide +kernel) (by decide +kernel)
theorem lX12_105 : Cond.methodLink RX12 105 yX12_weightOf ∈ TB := tb_6 (i := 209) (by decide +kernel) (by decide +kernel)
theorem lX12_220 : Cond.methodLink RX12 220 yX12_edgeAt ∈ TB := tb_6 (i := 212) (by decide +kernel) (by decide +kernel)
theorem lX12_224 : Cond.methodLink RX12 224 yX12_weigh ∈ TB := tb_6 (i := 221) (by decide +kernel) (by decide +kernel)
theorem lX12_235 : Cond.methodLink RX12 235 yX12_refusesPut ∈ TB := tb_6 (i := 228) (by decide +kernel) (by decide +kernel)
theorem lX12_238 : Cond.methodLink RX12 238 yX12_canTake ∈ TB := tb_6 (i := 235) (by decide +kernel) (by decide +kernel)
theorem lX12_242 : Cond.methodLink RX12 242 yX12_goTake ∈ TB := tb_6 (i := 238) (by decide +kernel) (by decide +kernel)
theorem lX12_245 : Cond.methodLink RX12 245 yX12_refusesJoin ∈ TB := tb_7 (i := 5) (by decide +kernel) (by decide +kernel)
theorem lX12_249 : Cond.methodLink RX12 249 yX12_canCost ∈ TB := tb_7 (i := 12) (by decide +kernel) (by decide +kernel)
theorem lX12_252 : Cond.methodLink RX12 252 yX12_refusesSet ∈ TB := tb_7 (i := 19) (by decide +kernel) (by decide +kernel)
theorem lX12_255 : Cond.methodLink RX12 255 yX12_canEnd ∈ TB := tb_7 (i := 26) (by decide +kernel) (by decide +kernel)
theorem lX12_259 : Cond.methodLink RX12 259 yX12_endsOf ∈ TB := tb_7 (i := 29) (by decide +kernel) (by decide +kernel)
theorem lX12_262 : Cond.methodLink RX12 262 yX12_readAct ∈ TB := tb_7 (i := 36) (by decide +kernel) (by decide +kernel)
theorem lX12_273 : Cond.methodLink RX12 273 yX12_twoDigits ∈ TB := tb_7 (i := 40) (by decide +kernel) (by decide +kernel)
theorem lX12_265 : Cond.methodLink RX12 265 yX12_act ∈ TB := tb_7 (i := 44) (by decide +kernel) (by decide +kernel)
theorem lX12_269 : Cond.methodLink RX12 269 yX12_tell ∈ TB := tb_7 (i := 48) (by decide +kernel) (by decide +kernel)
theorem lX12_324 : Cond.methodLink RX12 324 yX12_isKind ∈ TB := tb_7 (i := 60) (by decide +kernel) (by decide +kernel)
theorem lX12_327 : Cond.methodLink RX12 327 yX12_layAll ∈ TB := tb_7 (i := 63) (by decide +kernel) (by decide +kernel)
theorem lX12_286 : Cond.methodLink RX12 286 yX12_layChoices ∈ TB := tb_7 (i := 67) (by decide +kernel) (by decide +kernel)
theorem lX12_279 : Cond.methodLink RX12 279 yX12_emit ∈ TB := tb_7 (i := 71) (by decide +kernel) (by decide +kernel)
theorem lX12_283 : Cond.methodLink RX12 283 yX12_ruleOf ∈ TB := tb_7 (i := 75) (by decide +kernel) (by decide +kernel)
theorem lX12_312 : Cond.methodLink RX12 312 yX12_joinedOf ∈ TB := tb_7 (i := 79) (by decide +kernel) (by decide +kernel)
theorem lX12_296 : Cond.methodLink RX12 296 yX12_layTrees ∈ TB := tb_7 (i := 83) (by decide +kernel) (by decide +kernel)
theorem lX12_293 : Cond.methodLink RX12 293 yX12_treeOf ∈ TB := tb_7 (i := 87) (by decide +kernel) (by decide +kernel)
theorem lX12_290 : Cond.methodLink RX12 290 yX12_hangOf ∈ TB := tb_7 (i := 91) (by decide +kernel) (by decide +kernel)
theorem lX12_303 : Cond.methodLink RX12 303 yX12_layPairings ∈ TB := tb_7 (i := 95) (by decide +kernel) (by decide +kernel)
theorem lX12_300 : Cond.methodLink RX12 300 yX12_has ∈ TB := tb_7 (i := 99) (by decide +kernel) (by decide +kernel)
theorem lX12_306 : Cond.methodLink RX12 306 yX12_laySubsets ∈ TB := tb_7 (i := 102) (by decide +kernel) (by decide +kernel)
theorem lX12_309 : Cond.methodLink RX12 309 yX12_layRoutes ∈ TB := tb_7 (i := 106) (by decide +kernel) (by decide +kernel)
theorem lX12_320 : Cond.methodLink RX12 320 yX12_merge ∈ TB := tb_7 (i := 110) (by decide +kernel) (by decide +kernel)
theorem lX12_330 : Cond.methodLink RX12 330 yX12_tellItem ∈ TB := tb_7 (i := 114) (by decide +kernel) (by decide +kernel)
theorem lX12_333 : Cond.methodLink RX12 333 yX12_costAt ∈ TB := tb_7 (i := 122) (by decide +kernel) (by decide +kernel)
theorem lX12_336 : Cond.methodLink RX12 336 yX12_upTo ∈ TB := tb_7 (i := 126) (by decide +kernel) (by decide +kernel)
theorem lX12_339 : Cond.methodLink RX12 339 yX12_isLaid ∈ TB := tb_7 (i := 138) (by decide +kernel) (by decide +kernel)
theorem lX12_342 : Cond.methodLink RX12 342 yX12_refusesCursor ∈ TB := tb_7 (i := 170) (by decide +kernel) (by decide +kernel)
theorem lX12_345 : Cond.methodLink RX12 345 yX12_highOf ∈ TB := tb_7 (i := 182) (by decide +kernel) (by decide +kernel)
theorem lX12_354 : Cond.methodLink RX12 354 yX12_layFits ∈ TB := tb_7 (i := 193) (by decide +kernel) (by decide +kernel)
theorem lX12_351 : Cond.methodLink RX12 351 yX12_isSo ∈ TB := tb_7 (i := 197) (by decide +kernel) (by decide +kernel)
theorem lX12_358 : Cond.methodLink RX12 358 yX12_common ∈ TB := tb_7 (i := 210) (by decide +kernel) (by decide +kernel)
theorem lX12_362 : Cond.methodLink RX12 362 yX12_duelOf ∈ TB := tb_7 (i := 217) (by decide +kernel) (by decide +kernel)
theorem lX12_373 : Cond.methodLink RX12 373 yX12_goDrawn ∈ TB := tb_7 (i := 229) (by decide +kernel) (by decide +kernel)
theorem lX12_370 : Cond.methodLink RX12 370 yX12_draw ∈ TB := tb_7 (i := 233) (by decide +kernel) (by decide +kernel)
theorem lX12_376 : Cond.methodLink RX12 376 yX12_numbersOf ∈ TB := tb_8 (i := 10) (by decide +kernel) (by decide +kernel)
