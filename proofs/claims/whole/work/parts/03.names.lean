/-! ===== BEGIN printed: names, fields, word lists, decode rows ===== -/
def RX0 : String := "TurnDigits$Frame"
def TX0 : u_T := fun k => match k with
  | 0 => ("TurnDigits$Frame", "owners", "[I", true)
  | 1 => ("TurnDigits$Frame", "lit", "[I", true)
  | 2 => ("TurnDigits$Frame", "gaps", "[I", true)
  | 3 => ("TurnDigits$Frame", "litSlots", "[I", true)
  | 4 => ("TurnDigits$Frame", "levels", "[I", true)
  | 5 => ("TurnDigits$Frame", "credits", "[I", true)
  | 6 => ("TurnDigits$Frame", "darkRows", "[I", true)
  | 7 => ("TurnDigits$Frame", "length", "I", false)
  | 8 => ("TurnDigits$Frame", "persistence", "I", false)
  | _ => ("TurnDigits$Frame", "neededLight", "I", false)
def tyX0 : Nat → FieldType := fun k => match k with
  | 0 => .array .int
  | 1 => .array .int
  | 2 => .array .int
  | 3 => .array .int
  | 4 => .array .int
  | 5 => .array .int
  | 6 => .array .int
  | 7 => .int
  | 8 => .int
  | _ => .int
abbrev wsX00 : List Cond := u_ws RX0 TX0 10
theorem nmX0 : ∀ a, a < 10 → ∀ b, b < 10 → a ≠ b → (TX0 a).2.1 ≠ (TX0 b).2.1 := by decide +kernel
theorem tyX0_ok : ∀ k, k < 10 → parseFieldDescriptor (TX0 k).2.2.1 = some (tyX0 k) := by decide +kernel
abbrev cX0_init : ByteArray := prog_2_method_1_code
def yX0_init : MethodName := ⟨RX0, "<init>", "()V"⟩
abbrev cX0_foresee : ByteArray := prog_2_method_2_code
def yX0_foresee : MethodName := ⟨RX0, "foresee", "(LTurnDigits$State;)V"⟩
abbrev cX0_foreseeLevel : ByteArray := prog_2_method_3_code
def yX0_foreseeLevel : MethodName := ⟨RX0, "foreseeLevel", "(LTurnDigits$State;II)V"⟩
abbrev cX0_passSlots : ByteArray := prog_2_method_4_code
def yX0_passSlots : MethodName := ⟨RX0, "passSlots", "(LTurnDigits$State;)V"⟩
abbrev cX0_noteSlot : ByteArray := prog_2_method_5_code
def yX0_noteSlot : MethodName := ⟨RX0, "noteSlot", "(I)V"⟩
abbrev cX0_lightOf : ByteArray := prog_2_method_6_code
def yX0_lightOf : MethodName := ⟨RX0, "lightOf", "(I)I"⟩
abbrev cX0_flickers : ByteArray := prog_2_method_7_code
def yX0_flickers : MethodName := ⟨RX0, "flickers", "(I)Z"⟩
abbrev cX0_isSeen : ByteArray := prog_2_method_8_code
def yX0_isSeen : MethodName := ⟨RX0, "isSeen", "(I)Z"⟩
abbrev cX0_flickering : ByteArray := prog_2_method_9_code
def yX0_flickering : MethodName := ⟨RX0, "flickering", "()I"⟩
abbrev cX0_seen : ByteArray := prog_2_method_10_code
def yX0_seen : MethodName := ⟨RX0, "seen", "()I"⟩
abbrev cX0_darkSlots : ByteArray := prog_2_method_11_code
def yX0_darkSlots : MethodName := ⟨RX0, "darkSlots", "()I"⟩
abbrev cX0_changes : ByteArray := prog_2_method_12_code
def yX0_changes : MethodName := ⟨RX0, "changes", "()I"⟩
def RX1 : String := "TurnDigits$History"
def TX1 : u_T := fun k => match k with
  | 0 => ("TurnDigits$History", "saved", "[LTurnDigits$State;", true)
  | 1 => ("TurnDigits$History", "oldest", "I", false)
  | _ => ("TurnDigits$History", "size", "I", false)
def tyX1 : Nat → FieldType := fun k => match k with
  | 0 => .array (.object "TurnDigits$State")
  | 1 => .int
  | _ => .int
abbrev wsX10 : List Cond := u_ws RX1 TX1 3
theorem nmX1 : ∀ a, a < 3 → ∀ b, b < 3 → a ≠ b → (TX1 a).2.1 ≠ (TX1 b).2.1 := by decide +kernel
theorem tyX1_ok : ∀ k, k < 3 → parseFieldDescriptor (TX1 k).2.2.1 = some (tyX1 k) := by decide +kernel
abbrev cX1_init : ByteArray := prog_3_method_1_code
def yX1_init : MethodName := ⟨RX1, "<init>", "()V"⟩
abbrev cX1_push : ByteArray := prog_3_method_2_code
def yX1_push : MethodName := ⟨RX1, "push", "(LTurnDigits$State;)V"⟩
abbrev cX1_pop : ByteArray := prog_3_method_3_code
def yX1_pop : MethodName := ⟨RX1, "pop", "(LTurnDigits$State;)V"⟩
def RX2 : String := "TurnDigits$State"
def TX2 : u_T := fun k => match k with
  | 0 => ("TurnDigits$State", "signs", "[I", true)
  | 1 => ("TurnDigits$State", "levels", "[I", true)
  | 2 => ("TurnDigits$State", "burnt", "[I", true)
  | 3 => ("TurnDigits$State", "credits", "[I", true)
  | 4 => ("TurnDigits$State", "litSlots", "[I", true)
  | 5 => ("TurnDigits$State", "wears", "[I", true)
  | 6 => ("TurnDigits$State", "settings", "[I", true)
  | 7 => ("TurnDigits$State", "ambientLight", "I", false)
  | 8 => ("TurnDigits$State", "time", "I", false)
  | _ => ("TurnDigits$State", "ahead", "I", false)
def tyX2 : Nat → FieldType := fun k => match k with
  | 0 => .array .int
  | 1 => .array .int
  | 2 => .array .int
  | 3 => .array .int
  | 4 => .array .int
  | 5 => .array .int
  | 6 => .array .int
  | 7 => .int
  | 8 => .int
  | _ => .int
abbrev wsX20 : List Cond := u_ws RX2 TX2 10
theorem nmX2 : ∀ a, a < 10 → ∀ b, b < 10 → a ≠ b → (TX2 a).2.1 ≠ (TX2 b).2.1 := by decide +kernel
theorem tyX2_ok : ∀ k, k < 10 → parseFieldDescriptor (TX2 k).2.2.1 = some (tyX2 k) := by decide +kernel
abbrev cX2_init : ByteArray := prog_4_method_1_code
def yX2_init : MethodName := ⟨RX2, "<init>", "()V"⟩
abbrev cX2_copyFrom : ByteArray := prog_4_method_2_code
def yX2_copyFrom : MethodName := ⟨RX2, "copyFrom", "(LTurnDigits$State;)V"⟩
abbrev cX2_clearCredits : ByteArray := prog_4_method_3_code
def yX2_clearCredits : MethodName := ⟨RX2, "clearCredits", "()V"⟩
abbrev cX2_putNumber : ByteArray := prog_4_method_4_code
def yX2_putNumber : MethodName := ⟨RX2, "putNumber", "(IIII)V"⟩
abbrev cX2_passSlot : ByteArray := prog_4_method_5_code
def yX2_passSlot : MethodName := ⟨RX2, "passSlot", "()I"⟩
abbrev cX2_wearOut : ByteArray := prog_4_method_6_code
def yX2_wearOut : MethodName := ⟨RX2, "wearOut", "(I)I"⟩
abbrev cX2_shownSegments : ByteArray := prog_4_method_7_code
def yX2_shownSegments : MethodName := ⟨RX2, "shownSegments", "(I)I"⟩
abbrev cX2_readableSigns : ByteArray := prog_4_method_8_code
def yX2_readableSigns : MethodName := ⟨RX2, "readableSigns", "(I)I"⟩
abbrev cX2_levelSum : ByteArray := prog_4_method_9_code
def yX2_levelSum : MethodName := ⟨RX2, "levelSum", "()I"⟩
abbrev cX2_burntSegments : ByteArray := prog_4_method_10_code
def yX2_burntSegments : MethodName := ⟨RX2, "burntSegments", "()I"⟩
def RX3 : String := "TurnDigits$Text"
def TX3 : u_T := fun k => match k with
  | 0 => ("TurnDigits$Text", "codes", "[I", true)
  | 1 => ("TurnDigits$Text", "length", "I", false)
  | 2 => ("TurnDigits$Text", "signs", "[I", true)
  | 3 => ("TurnDigits$Text", "levels", "[I", true)
  | 4 => ("TurnDigits$Text", "parts", "I", false)
  | _ => ("TurnDigits$Text", "place", "I", false)
def tyX3 : Nat → FieldType := fun k => match k with
  | 0 => .array .int
  | 1 => .int
  | 2 => .array .int
  | 3 => .array .int
  | 4 => .int
  | _ => .int
abbrev wsX30 : List Cond := u_ws RX3 TX3 6
theorem nmX3 : ∀ a, a < 6 → ∀ b, b < 6 → a ≠ b → (TX3 a).2.1 ≠ (TX3 b).2.1 := by decide +kernel
theorem tyX3_ok : ∀ k, k < 6 → parseFieldDescriptor (TX3 k).2.2.1 = some (tyX3 k) := by decide +kernel
abbrev cX3_init : ByteArray := prog_5_method_1_code
def yX3_init : MethodName := ⟨RX3, "<init>", "()V"⟩
abbrev cX3_put : ByteArray := prog_5_method_2_code
def yX3_put : MethodName := ⟨RX3, "put", "(I)Z"⟩
abbrev cX3_scan : ByteArray := prog_5_method_3_code
def yX3_scan : MethodName := ⟨RX3, "scan", "()I"⟩
abbrev cX3_isWhole : ByteArray := prog_5_method_4_code
def yX3_isWhole : MethodName := ⟨RX3, "isWhole", "()Z"⟩
abbrev cX3_takes : ByteArray := prog_5_method_5_code
def yX3_takes : MethodName := ⟨RX3, "takes", "(I)Z"⟩
abbrev cX3_takesLevel : ByteArray := prog_5_method_6_code
def yX3_takesLevel : MethodName := ⟨RX3, "takesLevel", "(I)Z"⟩
abbrev cX3_tellLevel : ByteArray := prog_5_method_7_code
def yX3_tellLevel : MethodName := ⟨RX3, "tellLevel", "(I)V"⟩
abbrev cX3_takesSign : ByteArray := prog_5_method_8_code
def yX3_takesSign : MethodName := ⟨RX3, "takesSign", "(I)Z"⟩
abbrev cX3_signOf : ByteArray := prog_5_method_9_code
def yX3_signOf : MethodName := ⟨RX3, "signOf", "(I)I"⟩
def RX4 : String := "TurnDigits"
def TX4 : u_T := fun k => match k with
  | 0 => ("TurnDigits", "state", "LTurnDigits$State;", true)
  | 1 => ("TurnDigits", "history", "LTurnDigits$History;", true)
  | 2 => ("TurnDigits", "text", "LTurnDigits$Text;", true)
  | 3 => ("TurnDigits", "frame", "LTurnDigits$Frame;", true)
  | _ => ("TurnDigits", "trial", "LTurnDigits$Frame;", true)
def tyX4 : Nat → FieldType := fun k => match k with
  | 0 => .object "TurnDigits$State"
  | 1 => .object "TurnDigits$History"
  | 2 => .object "TurnDigits$Text"
  | 3 => .object "TurnDigits$Frame"
  | _ => .object "TurnDigits$Frame"
abbrev wsX40 : List Cond := u_ws RX4 TX4 5
theorem nmX4 : ∀ a, a < 5 → ∀ b, b < 5 → a ≠ b → (TX4 a).2.1 ≠ (TX4 b).2.1 := by decide +kernel
theorem tyX4_ok : ∀ k, k < 5 → parseFieldDescriptor (TX4 k).2.2.1 = some (tyX4 k) := by decide +kernel
abbrev cX4_init : ByteArray := prog_1_method_1_code
def yX4_init : MethodName := ⟨RX4, "<init>", "()V"⟩
abbrev cX4_show : ByteArray := prog_1_method_2_code
def yX4_show : MethodName := ⟨RX4, "show", "(II)I"⟩
abbrev cX4_level : ByteArray := prog_1_method_3_code
def yX4_level : MethodName := ⟨RX4, "level", "(II)I"⟩
abbrev cX4_burn : ByteArray := prog_1_method_4_code
def yX4_burn : MethodName := ⟨RX4, "burn", "(IIZ)I"⟩
abbrev cX4_ambient : ByteArray := prog_1_method_5_code
def yX4_ambient : MethodName := ⟨RX4, "ambient", "(I)I"⟩
abbrev cX4_set : ByteArray := prog_1_method_6_code
def yX4_set : MethodName := ⟨RX4, "set", "(II)I"⟩
abbrev cX4_number : ByteArray := prog_1_method_7_code
def yX4_number : MethodName := ⟨RX4, "number", "(III)I"⟩
abbrev cX4_run : ByteArray := prog_1_method_8_code
def yX4_run : MethodName := ⟨RX4, "run", "(I)I"⟩
abbrev cX4_append : ByteArray := prog_1_method_9_code
def yX4_append : MethodName := ⟨RX4, "append", "(I)I"⟩
abbrev cX4_clearBuffer : ByteArray := prog_1_method_10_code
def yX4_clearBuffer : MethodName := ⟨RX4, "clearBuffer", "()I"⟩
abbrev cX4_firstError : ByteArray := prog_1_method_11_code
def yX4_firstError : MethodName := ⟨RX4, "firstError", "()I"⟩
abbrev cX4_read : ByteArray := prog_1_method_12_code
def yX4_read : MethodName := ⟨RX4, "read", "()I"⟩
abbrev cX4_undo : ByteArray := prog_1_method_13_code
def yX4_undo : MethodName := ⟨RX4, "undo", "()I"⟩
abbrev cX4_digit : ByteArray := prog_1_method_14_code
def yX4_digit : MethodName := ⟨RX4, "digit", "(II)I"⟩
abbrev cX4_wear : ByteArray := prog_1_method_15_code
def yX4_wear : MethodName := ⟨RX4, "wear", "(II)I"⟩
abbrev cX4_slot : ByteArray := prog_1_method_16_code
def yX4_slot : MethodName := ⟨RX4, "slot", "(IZ)I"⟩
abbrev cX4_count : ByteArray := prog_1_method_17_code
def yX4_count : MethodName := ⟨RX4, "count", "(I)I"⟩
abbrev cX4_setting : ByteArray := prog_1_method_18_code
def yX4_setting : MethodName := ⟨RX4, "setting", "(I)I"⟩
abbrev cX4_ifLevel : ByteArray := prog_1_method_19_code
def yX4_ifLevel : MethodName := ⟨RX4, "ifLevel", "(III)I"⟩
abbrev cX4_leastLevel : ByteArray := prog_1_method_20_code
def yX4_leastLevel : MethodName := ⟨RX4, "leastLevel", "(I)I"⟩
abbrev cX4_alikeSigns : ByteArray := prog_1_method_21_code
def yX4_alikeSigns : MethodName := ⟨RX4, "alikeSigns", "(I)I"⟩
abbrev cX4_numberShown : ByteArray := prog_1_method_22_code
def yX4_numberShown : MethodName := ⟨RX4, "numberShown", "()I"⟩
abbrev cX4_evenness : ByteArray := prog_1_method_23_code
def yX4_evenness : MethodName := ⟨RX4, "evenness", "()D"⟩
abbrev cX4_digest : ByteArray := prog_1_method_24_code
def yX4_digest : MethodName := ⟨RX4, "digest", "()J"⟩
abbrev cX4_mix : ByteArray := prog_1_method_25_code
def yX4_mix : MethodName := ⟨RX4, "mix", "(JJ)J"⟩
abbrev cX4_mixDigit : ByteArray := prog_1_method_26_code
def yX4_mixDigit : MethodName := ⟨RX4, "mixDigit", "(JI)J"⟩
abbrev cX4_bitsOfShare : ByteArray := prog_1_method_27_code
def yX4_bitsOfShare : MethodName := ⟨RX4, "bitsOfShare", "(D)J"⟩
abbrev cX4_property : ByteArray := prog_1_method_28_code
def yX4_property : MethodName := ⟨RX4, "property", "(II)I"⟩
abbrev cX4_total : ByteArray := prog_1_method_29_code
def yX4_total : MethodName := ⟨RX4, "total", "(I)I"⟩
abbrev cX4_isClear : ByteArray := prog_1_method_30_code
def yX4_isClear : MethodName := ⟨RX4, "isClear", "(I)Z"⟩
abbrev cX4_clearDigits : ByteArray := prog_1_method_31_code
def yX4_clearDigits : MethodName := ⟨RX4, "clearDigits", "()I"⟩
abbrev cX4_clearNumber : ByteArray := prog_1_method_32_code
def yX4_clearNumber : MethodName := ⟨RX4, "clearNumber", "()I"⟩
abbrev cX4_lightShare : ByteArray := prog_1_method_33_code
def yX4_lightShare : MethodName := ⟨RX4, "lightShare", "()D"⟩
abbrev cX4_trialNumber : ByteArray := prog_1_method_34_code
def yX4_trialNumber : MethodName := ⟨RX4, "trialNumber", "(II)I"⟩
abbrev cX4_leastSeenLevel : ByteArray := prog_1_method_35_code
def yX4_leastSeenLevel : MethodName := ⟨RX4, "leastSeenLevel", "(I)I"⟩
abbrev cX4_alikePairs : ByteArray := prog_1_method_36_code
def yX4_alikePairs : MethodName := ⟨RX4, "alikePairs", "(I)I"⟩
abbrev cX4_requireDigit : ByteArray := prog_1_method_37_code
def yX4_requireDigit : MethodName := ⟨RX4, "requireDigit", "(I)V"⟩
abbrev cX4_requireSegment : ByteArray := prog_1_method_38_code
def yX4_requireSegment : MethodName := ⟨RX4, "requireSegment", "(I)V"⟩
abbrev cX4_requireSetting : ByteArray := prog_1_method_39_code
def yX4_requireSetting : MethodName := ⟨RX4, "requireSetting", "(I)V"⟩
abbrev cX4_requireRange : ByteArray := prog_1_method_40_code
def yX4_requireRange : MethodName := ⟨RX4, "requireRange", "(III)V"⟩
abbrev cX4_wearPlace : ByteArray := prog_1_method_41_code
def yX4_wearPlace : MethodName := ⟨RX4, "wearPlace", "(II)I"⟩
abbrev cX4_magnitude : ByteArray := prog_1_method_42_code
def yX4_magnitude : MethodName := ⟨RX4, "magnitude", "(I)J"⟩
abbrev cX4_numberLength : ByteArray := prog_1_method_43_code
def yX4_numberLength : MethodName := ⟨RX4, "numberLength", "(I)I"⟩
abbrev cX4_giveSlot : ByteArray := prog_1_method_44_code
def yX4_giveSlot : MethodName := ⟨RX4, "giveSlot", "([I[I)I"⟩
abbrev cX4_litIn : ByteArray := prog_1_method_45_code
def yX4_litIn : MethodName := ⟨RX4, "litIn", "(IIZ)I"⟩
def RX5 : String := "TurnDigitsModel"
def TX5 : u_T := fun k => match k with
  | 0 => ("TurnDigitsModel", "masks", "[I", true)
  | 1 => ("TurnDigitsModel", "now", "[I", true)
  | 2 => ("TurnDigitsModel", "then", "[I", true)
  | 3 => ("TurnDigitsModel", "past", "[I", true)
  | 4 => ("TurnDigitsModel", "kept", "I", false)
  | 5 => ("TurnDigitsModel", "text", "[I", true)
  | 6 => ("TurnDigitsModel", "typed", "I", false)
  | 7 => ("TurnDigitsModel", "thrown", "I", false)
  | 8 => ("TurnDigitsModel", "at", "I", false)
  | 9 => ("TurnDigitsModel", "isFault", "Z", false)
  | 10 => ("TurnDigitsModel", "told", "[I", true)
  | 11 => ("TurnDigitsModel", "tolds", "I", false)
  | 12 => ("TurnDigitsModel", "owners", "[I", true)
  | 13 => ("TurnDigitsModel", "lits", "[I", true)
  | 14 => ("TurnDigitsModel", "credits", "[I", true)
  | _ => ("TurnDigitsModel", "frame", "I", false)
def tyX5 : Nat → FieldType := fun k => match k with
  | 0 => .array .int
  | 1 => .array .int
  | 2 => .array .int
  | 3 => .array .int
  | 4 => .int
  | 5 => .array .int
  | 6 => .int
  | 7 => .int
  | 8 => .int
  | 9 => .boolean
  | 10 => .array .int
  | 11 => .int
  | 12 => .array .int
  | 13 => .array .int
  | 14 => .array .int
  | _ => .int
abbrev wsX50 : List Cond := u_ws RX5 TX5 16
theorem nmX5 : ∀ a, a < 16 → ∀ b, b < 16 → a ≠ b → (TX5 a).2.1 ≠ (TX5 b).2.1 := by decide +kernel
theorem tyX5_ok : ∀ k, k < 16 → parseFieldDescriptor (TX5 k).2.2.1 = some (tyX5 k) := by decide +kernel
abbrev cX5_init : ByteArray := prog_7_method_1_code
def yX5_init : MethodName := ⟨RX5, "<init>", "()V"⟩
abbrev cX5_thrown : ByteArray := prog_7_method_2_code
def yX5_thrown : MethodName := ⟨RX5, "thrown", "()I"⟩
abbrev cX5_fails : ByteArray := prog_7_method_3_code
def yX5_fails : MethodName := ⟨RX5, "fails", "(I)I"⟩
abbrev cX5_in : ByteArray := prog_7_method_4_code
def yX5_in : MethodName := ⟨RX5, "in", "(III)Z"⟩
abbrev cX5_isDigit : ByteArray := prog_7_method_5_code
def yX5_isDigit : MethodName := ⟨RX5, "isDigit", "(I)Z"⟩
abbrev cX5_isSign : ByteArray := prog_7_method_6_code
def yX5_isSign : MethodName := ⟨RX5, "isSign", "(I)Z"⟩
abbrev cX5_isLevel : ByteArray := prog_7_method_7_code
def yX5_isLevel : MethodName := ⟨RX5, "isLevel", "(I)Z"⟩
abbrev cX5_isSegment : ByteArray := prog_7_method_8_code
def yX5_isSegment : MethodName := ⟨RX5, "isSegment", "(I)Z"⟩
abbrev cX5_saves : ByteArray := prog_7_method_9_code
def yX5_saves : MethodName := ⟨RX5, "saves", "()V"⟩
abbrev cX5_undo : ByteArray := prog_7_method_10_code
def yX5_undo : MethodName := ⟨RX5, "undo", "()I"⟩
abbrev cX5_shownAs : ByteArray := prog_7_method_11_code
def yX5_shownAs : MethodName := ⟨RX5, "shownAs", "(II)I"⟩
abbrev cX5_levels : ByteArray := prog_7_method_12_code
def yX5_levels : MethodName := ⟨RX5, "levels", "([I)I"⟩
abbrev cX5_turns : ByteArray := prog_7_method_13_code
def yX5_turns : MethodName := ⟨RX5, "turns", "([I[II)I"⟩
abbrev cX5_litBy : ByteArray := prog_7_method_14_code
def yX5_litBy : MethodName := ⟨RX5, "litBy", "([IIII)I"⟩
abbrev cX5_frames : ByteArray := prog_7_method_15_code
def yX5_frames : MethodName := ⟨RX5, "frames", "([I)V"⟩
abbrev cX5_light : ByteArray := prog_7_method_16_code
def yX5_light : MethodName := ⟨RX5, "light", "(I)I"⟩
abbrev cX5_gap : ByteArray := prog_7_method_17_code
def yX5_gap : MethodName := ⟨RX5, "gap", "(I)I"⟩
abbrev cX5_flickers : ByteArray := prog_7_method_18_code
def yX5_flickers : MethodName := ⟨RX5, "flickers", "([II)Z"⟩
abbrev cX5_isSeen : ByteArray := prog_7_method_19_code
def yX5_isSeen : MethodName := ⟨RX5, "isSeen", "([II)Z"⟩
abbrev cX5_readable : ByteArray := prog_7_method_20_code
def yX5_readable : MethodName := ⟨RX5, "readable", "(I)I"⟩
abbrev cX5_isClear : ByteArray := prog_7_method_21_code
def yX5_isClear : MethodName := ⟨RX5, "isClear", "(I)Z"⟩
abbrev cX5_ones : ByteArray := prog_7_method_22_code
def yX5_ones : MethodName := ⟨RX5, "ones", "(I)I"⟩
abbrev cX5_changes : ByteArray := prog_7_method_23_code
def yX5_changes : MethodName := ⟨RX5, "changes", "(II)I"⟩
abbrev cX5_noCredits : ByteArray := prog_7_method_24_code
def yX5_noCredits : MethodName := ⟨RX5, "noCredits", "()V"⟩
abbrev cX5_show : ByteArray := prog_7_method_25_code
def yX5_show : MethodName := ⟨RX5, "show", "(II)I"⟩
abbrev cX5_level : ByteArray := prog_7_method_26_code
def yX5_level : MethodName := ⟨RX5, "level", "(II)I"⟩
abbrev cX5_burn : ByteArray := prog_7_method_27_code
def yX5_burn : MethodName := ⟨RX5, "burn", "(IIZ)I"⟩
abbrev cX5_ambient : ByteArray := prog_7_method_28_code
def yX5_ambient : MethodName := ⟨RX5, "ambient", "(I)I"⟩
abbrev cX5_isFor : ByteArray := prog_7_method_29_code
def yX5_isFor : MethodName := ⟨RX5, "isFor", "(II)Z"⟩
abbrev cX5_set : ByteArray := prog_7_method_30_code
def yX5_set : MethodName := ⟨RX5, "set", "(II)I"⟩
abbrev cX5_sizeOf : ByteArray := prog_7_method_31_code
def yX5_sizeOf : MethodName := ⟨RX5, "sizeOf", "(I)I"⟩
abbrev cX5_number : ByteArray := prog_7_method_32_code
def yX5_number : MethodName := ⟨RX5, "number", "(III)I"⟩
abbrev cX5_goes : ByteArray := prog_7_method_33_code
def yX5_goes : MethodName := ⟨RX5, "goes", "()I"⟩
abbrev cX5_run : ByteArray := prog_7_method_34_code
def yX5_run : MethodName := ⟨RX5, "run", "(I)I"⟩
abbrev cX5_append : ByteArray := prog_7_method_35_code
def yX5_append : MethodName := ⟨RX5, "append", "(I)I"⟩
abbrev cX5_clearBuffer : ByteArray := prog_7_method_36_code
def yX5_clearBuffer : MethodName := ⟨RX5, "clearBuffer", "()I"⟩
abbrev cX5_isAt : ByteArray := prog_7_method_37_code
def yX5_isAt : MethodName := ⟨RX5, "isAt", "(II)Z"⟩
abbrev cX5_stops : ByteArray := prog_7_method_38_code
def yX5_stops : MethodName := ⟨RX5, "stops", "()Z"⟩
abbrev cX5_isPart : ByteArray := prog_7_method_39_code
def yX5_isPart : MethodName := ⟨RX5, "isPart", "()Z"⟩
abbrev cX5_isText : ByteArray := prog_7_method_40_code
def yX5_isText : MethodName := ⟨RX5, "isText", "()Z"⟩
abbrev cX5_firstError : ByteArray := prog_7_method_41_code
def yX5_firstError : MethodName := ⟨RX5, "firstError", "()I"⟩
abbrev cX5_read : ByteArray := prog_7_method_42_code
def yX5_read : MethodName := ⟨RX5, "read", "()I"⟩
abbrev cX5_ofDigit : ByteArray := prog_7_method_43_code
def yX5_ofDigit : MethodName := ⟨RX5, "ofDigit", "(II)I"⟩
abbrev cX5_digit : ByteArray := prog_7_method_44_code
def yX5_digit : MethodName := ⟨RX5, "digit", "(II)I"⟩
abbrev cX5_wear : ByteArray := prog_7_method_45_code
def yX5_wear : MethodName := ⟨RX5, "wear", "(II)I"⟩
abbrev cX5_slot : ByteArray := prog_7_method_46_code
def yX5_slot : MethodName := ⟨RX5, "slot", "(IZ)I"⟩
abbrev cX5_inFrame : ByteArray := prog_7_method_47_code
def yX5_inFrame : MethodName := ⟨RX5, "inFrame", "(Z)I"⟩
abbrev cX5_those : ByteArray := prog_7_method_48_code
def yX5_those : MethodName := ⟨RX5, "those", "([II)I"⟩
abbrev cX5_burnt : ByteArray := prog_7_method_49_code
def yX5_burnt : MethodName := ⟨RX5, "burnt", "()I"⟩
abbrev cX5_counted : ByteArray := prog_7_method_50_code
def yX5_counted : MethodName := ⟨RX5, "counted", "(I)I"⟩
abbrev cX5_count : ByteArray := prog_7_method_51_code
def yX5_count : MethodName := ⟨RX5, "count", "(I)I"⟩
abbrev cX5_setting : ByteArray := prog_7_method_52_code
def yX5_setting : MethodName := ⟨RX5, "setting", "(I)I"⟩
abbrev cX5_tries : ByteArray := prog_7_method_53_code
def yX5_tries : MethodName := ⟨RX5, "tries", "(II)V"⟩
abbrev cX5_byLevel : ByteArray := prog_7_method_54_code
def yX5_byLevel : MethodName := ⟨RX5, "byLevel", "(III)I"⟩
abbrev cX5_ifLevel : ByteArray := prog_7_method_55_code
def yX5_ifLevel : MethodName := ⟨RX5, "ifLevel", "(III)I"⟩
abbrev cX5_least : ByteArray := prog_7_method_56_code
def yX5_least : MethodName := ⟨RX5, "least", "(I)I"⟩
abbrev cX5_leastLevel : ByteArray := prog_7_method_57_code
def yX5_leastLevel : MethodName := ⟨RX5, "leastLevel", "(I)I"⟩
abbrev cX5_alike : ByteArray := prog_7_method_58_code
def yX5_alike : MethodName := ⟨RX5, "alike", "(I)I"⟩
abbrev cX5_alikeSigns : ByteArray := prog_7_method_59_code
def yX5_alikeSigns : MethodName := ⟨RX5, "alikeSigns", "(I)I"⟩
abbrev cX5_shownNumber : ByteArray := prog_7_method_60_code
def yX5_shownNumber : MethodName := ⟨RX5, "shownNumber", "()I"⟩
abbrev cX5_numberShown : ByteArray := prog_7_method_61_code
def yX5_numberShown : MethodName := ⟨RX5, "numberShown", "()I"⟩
abbrev cX5_even : ByteArray := prog_7_method_62_code
def yX5_even : MethodName := ⟨RX5, "even", "()D"⟩
abbrev cX5_evenness : ByteArray := prog_7_method_63_code
def yX5_evenness : MethodName := ⟨RX5, "evenness", "()D"⟩
abbrev cX5_digest : ByteArray := prog_7_method_64_code
def yX5_digest : MethodName := ⟨RX5, "digest", "()J"⟩
def RJx145de : String := "java/io/Serializable"
def TJx145de : u_T := fun k => match k with
  | _ => ("", "", "", false)
def tyJx145de : Nat → FieldType := fun k => match k with
  | _ => .int
abbrev wsJx145de0 : List Cond := u_ws RJx145de TJx145de 0
theorem nmJx145de : ∀ a, a < 0 → ∀ b, b < 0 → a ≠ b → (TJx145de a).2.1 ≠ (TJx145de b).2.1 := by decide +kernel
theorem tyJx145de_ok : ∀ k, k < 0 → parseFieldDescriptor (TJx145de k).2.2.1 = some (tyJx145de k) := by decide +kernel
def RJxb160c : String := "java/lang/Comparable"
def TJxb160c : u_T := fun k => match k with
  | _ => ("", "", "", false)
def tyJxb160c : Nat → FieldType := fun k => match k with
  | _ => .int
abbrev wsJxb160c0 : List Cond := u_ws RJxb160c TJxb160c 0
theorem nmJxb160c : ∀ a, a < 0 → ∀ b, b < 0 → a ≠ b → (TJxb160c a).2.1 ≠ (TJxb160c b).2.1 := by decide +kernel
theorem tyJxb160c_ok : ∀ k, k < 0 → parseFieldDescriptor (TJxb160c k).2.2.1 = some (tyJxb160c k) := by decide +kernel
def RJxe99ae : String := "java/lang/Double"
def TJxe99ae : u_T := fun k => match k with
  | _ => ("", "", "", false)
def tyJxe99ae : Nat → FieldType := fun k => match k with
  | _ => .int
abbrev wsJxe99ae0 : List Cond := u_ws RJxe99ae TJxe99ae 0
theorem nmJxe99ae : ∀ a, a < 0 → ∀ b, b < 0 → a ≠ b → (TJxe99ae a).2.1 ≠ (TJxe99ae b).2.1 := by decide +kernel
theorem tyJxe99ae_ok : ∀ k, k < 0 → parseFieldDescriptor (TJxe99ae k).2.2.1 = some (tyJxe99ae k) := by decide +kernel
abbrev cJxe99ae_isNaN_b9ae7 : ByteArray := prog_8_method_6_code
def yJxe99ae_isNaN_b9ae7 : MethodName := ⟨RJxe99ae, "isNaN", "(D)Z"⟩
abbrev cJxe99ae_doubleToLongBits_ccdee : ByteArray := prog_8_method_23_code
def yJxe99ae_doubleToLongBits_ccdee : MethodName := ⟨RJxe99ae, "doubleToLongBits", "(D)J"⟩
def RJ6 : String := "java/lang/Integer"
def TJ6 : u_T := fun k => match k with
  | _ => ("", "", "", false)
def tyJ6 : Nat → FieldType := fun k => match k with
  | _ => .int
abbrev wsJ60 : List Cond := u_ws RJ6 TJ6 0
theorem nmJ6 : ∀ a, a < 0 → ∀ b, b < 0 → a ≠ b → (TJ6 a).2.1 ≠ (TJ6 b).2.1 := by decide +kernel
theorem tyJ6_ok : ∀ k, k < 0 → parseFieldDescriptor (TJ6 k).2.2.1 = some (tyJ6 k) := by decide +kernel
abbrev cJ6_bitCount_0f7a4 : ByteArray := prog_13_method_49_code
def yJ6_bitCount_0f7a4 : MethodName := ⟨RJ6, "bitCount", "(I)I"⟩
def RJ9 : String := "java/lang/Math"
def TJ9 : u_T := fun k => match k with
  | _ => ("", "", "", false)
def tyJ9 : Nat → FieldType := fun k => match k with
  | _ => .int
abbrev wsJ90 : List Cond := u_ws RJ9 TJ9 0
theorem nmJ9 : ∀ a, a < 0 → ∀ b, b < 0 → a ≠ b → (TJ9 a).2.1 ≠ (TJ9 b).2.1 := by decide +kernel
theorem tyJ9_ok : ∀ k, k < 0 → parseFieldDescriptor (TJ9 k).2.2.1 = some (tyJ9 k) := by decide +kernel
abbrev cJ9_max_7cf53 : ByteArray := prog_14_method_65_code
def yJ9_max_7cf53 : MethodName := ⟨RJ9, "max", "(II)I"⟩
abbrev cJ9_min_7cf53 : ByteArray := prog_14_method_69_code
def yJ9_min_7cf53 : MethodName := ⟨RJ9, "min", "(II)I"⟩
def RJxd2413 : String := "java/lang/Number"
def TJxd2413 : u_T := fun k => match k with
  | _ => ("", "", "", false)
def tyJxd2413 : Nat → FieldType := fun k => match k with
  | _ => .int
abbrev wsJxd24130 : List Cond := u_ws RJxd2413 TJxd2413 0
theorem nmJxd2413 : ∀ a, a < 0 → ∀ b, b < 0 → a ≠ b → (TJxd2413 a).2.1 ≠ (TJxd2413 b).2.1 := by decide +kernel
theorem tyJxd2413_ok : ∀ k, k < 0 → parseFieldDescriptor (TJxd2413 k).2.2.1 = some (tyJxd2413 k) := by decide +kernel
def RJ0 : String := "java/lang/String"
def TJ0 : u_T := fun k => match k with
  | _ => ("", "", "", false)
def tyJ0 : Nat → FieldType := fun k => match k with
  | _ => .int
abbrev wsJ00 : List Cond := u_ws RJ0 TJ0 0
theorem nmJ0 : ∀ a, a < 0 → ∀ b, b < 0 → a ≠ b → (TJ0 a).2.1 ≠ (TJ0 b).2.1 := by decide +kernel
theorem tyJ0_ok : ∀ k, k < 0 → parseFieldDescriptor (TJ0 k).2.2.1 = some (tyJ0 k) := by decide +kernel
def RJ10 : String := "java/lang/System"
def TJ10 : u_T := fun k => match k with
  | _ => ("", "", "", false)
def tyJ10 : Nat → FieldType := fun k => match k with
  | _ => .int
abbrev wsJ100 : List Cond := u_ws RJ10 TJ10 0
theorem nmJ10 : ∀ a, a < 0 → ∀ b, b < 0 → a ≠ b → (TJ10 a).2.1 ≠ (TJ10 b).2.1 := by decide +kernel
theorem tyJ10_ok : ∀ k, k < 0 → parseFieldDescriptor (TJ10 k).2.2.1 = some (tyJ10 k) := by decide +kernel
def RJxfd54e : String := "java/lang/constant/Constable"
def TJxfd54e : u_T := fun k => match k with
  | _ => ("", "", "", false)
def tyJxfd54e : Nat → FieldType := fun k => match k with
  | _ => .int
abbrev wsJxfd54e0 : List Cond := u_ws RJxfd54e TJxfd54e 0
theorem nmJxfd54e : ∀ a, a < 0 → ∀ b, b < 0 → a ≠ b → (TJxfd54e a).2.1 ≠ (TJxfd54e b).2.1 := by decide +kernel
theorem tyJxfd54e_ok : ∀ k, k < 0 → parseFieldDescriptor (TJxfd54e k).2.2.1 = some (tyJxfd54e k) := by decide +kernel
def RJx3cf43 : String := "java/lang/constant/ConstantDesc"
def TJx3cf43 : u_T := fun k => match k with
  | _ => ("", "", "", false)
def tyJx3cf43 : Nat → FieldType := fun k => match k with
  | _ => .int
abbrev wsJx3cf430 : List Cond := u_ws RJx3cf43 TJx3cf43 0
theorem nmJx3cf43 : ∀ a, a < 0 → ∀ b, b < 0 → a ≠ b → (TJx3cf43 a).2.1 ≠ (TJx3cf43 b).2.1 := by decide +kernel
theorem tyJx3cf43_ok : ∀ k, k < 0 → parseFieldDescriptor (TJx3cf43 k).2.2.1 = some (tyJx3cf43 k) := by decide +kernel
def RJ7 : String := "java/util/Arrays"
def TJ7 : u_T := fun k => match k with
  | _ => ("", "", "", false)
def tyJ7 : Nat → FieldType := fun k => match k with
  | _ => .int
abbrev wsJ70 : List Cond := u_ws RJ7 TJ7 0
theorem nmJ7 : ∀ a, a < 0 → ∀ b, b < 0 → a ≠ b → (TJ7 a).2.1 ≠ (TJ7 b).2.1 := by decide +kernel
theorem tyJ7_ok : ∀ k, k < 0 → parseFieldDescriptor (TJ7 k).2.2.1 = some (tyJ7 k) := by decide +kernel
abbrev cJ7_fill_53178 : ByteArray := prog_20_method_103_code
def yJ7_fill_53178 : MethodName := ⟨RJ7, "fill", "([II)V"⟩
def RL : String := "TurnDigitsLaw"
abbrev cL_show : ByteArray := method_3_code
def yL_show : MethodName := ⟨RL, "show", "(LTurnDigits;II[J)I"⟩
abbrev cL_level : ByteArray := method_4_code
def yL_level : MethodName := ⟨RL, "level", "(LTurnDigits;II[J)I"⟩
abbrev cL_burn : ByteArray := method_5_code
def yL_burn : MethodName := ⟨RL, "burn", "(LTurnDigits;IIZ[J)I"⟩
abbrev cL_ambient : ByteArray := method_6_code
def yL_ambient : MethodName := ⟨RL, "ambient", "(LTurnDigits;I[J)I"⟩
abbrev cL_set : ByteArray := method_7_code
def yL_set : MethodName := ⟨RL, "set", "(LTurnDigits;II[J)I"⟩
abbrev cL_number : ByteArray := method_8_code
def yL_number : MethodName := ⟨RL, "number", "(LTurnDigits;III[J)I"⟩
abbrev cL_run : ByteArray := method_9_code
def yL_run : MethodName := ⟨RL, "run", "(LTurnDigits;I[J)I"⟩
abbrev cL_append : ByteArray := method_10_code
def yL_append : MethodName := ⟨RL, "append", "(LTurnDigits;I[J)I"⟩
abbrev cL_read : ByteArray := method_11_code
def yL_read : MethodName := ⟨RL, "read", "(LTurnDigits;[J)I"⟩
abbrev cL_undo : ByteArray := method_12_code
def yL_undo : MethodName := ⟨RL, "undo", "(LTurnDigits;[J)I"⟩
abbrev cL_digit : ByteArray := method_13_code
def yL_digit : MethodName := ⟨RL, "digit", "(LTurnDigits;II[J)I"⟩
abbrev cL_wear : ByteArray := method_14_code
def yL_wear : MethodName := ⟨RL, "wear", "(LTurnDigits;II[J)I"⟩
abbrev cL_slot : ByteArray := method_15_code
def yL_slot : MethodName := ⟨RL, "slot", "(LTurnDigits;IZ[J)I"⟩
abbrev cL_count : ByteArray := method_16_code
def yL_count : MethodName := ⟨RL, "count", "(LTurnDigits;I[J)I"⟩
abbrev cL_setting : ByteArray := method_17_code
def yL_setting : MethodName := ⟨RL, "setting", "(LTurnDigits;I[J)I"⟩
abbrev cL_ifLevel : ByteArray := method_18_code
def yL_ifLevel : MethodName := ⟨RL, "ifLevel", "(LTurnDigits;III[J)I"⟩
abbrev cL_leastLevel : ByteArray := method_19_code
def yL_leastLevel : MethodName := ⟨RL, "leastLevel", "(LTurnDigits;I[J)I"⟩
abbrev cL_alikeSigns : ByteArray := method_20_code
def yL_alikeSigns : MethodName := ⟨RL, "alikeSigns", "(LTurnDigits;I[J)I"⟩
abbrev cL_law : ByteArray := code
def yL_law : MethodName := ⟨RL, "law", "([I)Z"⟩
def wsX0_init : List Cond := .code yX0_init cX0_init 1 none :: ([.methodLink RX0 3 objectInit, .instanceMethod objectInit, .code objectInit ⟨#[0xb1]⟩ 1 none, .arrayClass .int, .fieldLink RX0 9 "TurnDigits$Frame" "owners" "[I", .fieldLink RX0 15 "TurnDigits$Frame" "lit" "[I", .fieldLink RX0 18 "TurnDigits$Frame" "gaps" "[I", .fieldLink RX0 21 "TurnDigits$Frame" "litSlots" "[I", .fieldLink RX0 24 "TurnDigits$Frame" "levels" "[I", .fieldLink RX0 27 "TurnDigits$Frame" "credits" "[I", .fieldLink RX0 30 "TurnDigits$Frame" "darkRows" "[I", .fieldLink RX0 33 "TurnDigits$Frame" "length" "I", .fieldLink RX0 37 "TurnDigits$Frame" "persistence" "I", .fieldLink RX0 40 "TurnDigits$Frame" "neededLight" "I"] ++ wsX00)
def wsJ7_fill_53178 : List Cond := .code yJ7_fill_53178 cJ7_fill_53178 4 none :: ([])
def wsX4_giveSlot : List Cond := .code yX4_giveSlot cX4_giveSlot 5 (some .int) :: ([])
def wsX4_litIn : List Cond := .code yX4_litIn cX4_litIn 3 (some .int) :: ([])
def wsX0_noteSlot : List Cond := .code yX0_noteSlot cX0_noteSlot 3 none :: ([.fieldLink RX0 21 "TurnDigits$Frame" "litSlots" "[I", .fieldLink RX0 30 "TurnDigits$Frame" "darkRows" "[I", .fieldLink RX0 18 "TurnDigits$Frame" "gaps" "[I", .methodLink RX0 84 Lib.Math.max.name, .static Lib.Math.max.name, .initialized "java/lang/Math", .code Lib.Math.max.name Lib.Math.max.code 2 (some .int)] ++ wsX00)
def wsX0_passSlots_r1 : List Cond := [Cond.fieldLink RX0 63 "TurnDigits$State" "settings" "[I", Cond.fieldLink RX0 33 "TurnDigits$Frame" "length" "I", Cond.fieldLink RX0 37 "TurnDigits$Frame" "persistence" "I", Cond.fieldLink RX0 66 "TurnDigits$State" "ambientLight" "I", Cond.fieldLink RX0 40 "TurnDigits$Frame" "neededLight" "I", Cond.fieldLink RX0 18 "TurnDigits$Frame" "gaps" "[I", Cond.fieldLink RX0 21 "TurnDigits$Frame" "litSlots" "[I", Cond.fieldLink RX0 30 "TurnDigits$Frame" "darkRows" "[I", Cond.fieldLink RX0 69 "TurnDigits$State" "ahead" "I", Cond.fieldLink RX0 9 "TurnDigits$Frame" "owners" "[I", Cond.fieldLink RX0 24 "TurnDigits$Frame" "levels" "[I", Cond.fieldLink RX0 27 "TurnDigits$Frame" "credits" "[I", Cond.fieldLink RX0 15 "TurnDigits$Frame" "lit" "[I", Cond.methodLink RX0 57 yJ7_fill_53178, Cond.static yJ7_fill_53178, Cond.initialized RJ7, Cond.code yJ7_fill_53178 cJ7_fill_53178 4 none, Cond.static yX4_giveSlot, Cond.initialized RX4, Cond.code yX4_giveSlot cX4_giveSlot 5 (some .int), Cond.static yX4_litIn, Cond.code yX4_litIn cX4_litIn 3 (some .int), Cond.methodLink RX0 80 yX0_noteSlot, Cond.instanceMethod yX0_noteSlot]
def wsX0_passSlots_r2 : List Cond := [Cond.selects RX0 yX0_noteSlot yX0_noteSlot, Cond.initialized RX0, Cond.code yX0_noteSlot cX0_noteSlot 3 none, Cond.methodLink RX0 84 Lib.Math.max.name, Cond.static Lib.Math.max.name, Cond.initialized "java/lang/Math", Cond.code Lib.Math.max.name Lib.Math.max.code 2 (some .int)]
def wsX0_passSlots : List Cond := .code yX0_passSlots cX0_passSlots 5 none :: ((wsX0_passSlots_r1 ++ wsX0_passSlots_r2) ++ wsX20 ++ wsX00)
def wsX0_foresee_r1 : List Cond := [Cond.fieldLink RX0 43 "TurnDigits$State" "levels" "[I", Cond.fieldLink RX0 24 "TurnDigits$Frame" "levels" "[I", Cond.methodLink RX0 46 arraycopyName, Cond.native arraycopyName, Cond.static arraycopyName, Cond.initialized "java/lang/System", Cond.fieldLink RX0 52 "TurnDigits$State" "credits" "[I", Cond.fieldLink RX0 27 "TurnDigits$Frame" "credits" "[I", Cond.methodLink RX0 53 yX0_passSlots, Cond.instanceMethod yX0_passSlots, Cond.selects RX0 yX0_passSlots yX0_passSlots, Cond.initialized RX0, Cond.code yX0_passSlots cX0_passSlots 5 none, Cond.fieldLink RX0 63 "TurnDigits$State" "settings" "[I", Cond.fieldLink RX0 33 "TurnDigits$Frame" "length" "I", Cond.fieldLink RX0 37 "TurnDigits$Frame" "persistence" "I", Cond.fieldLink RX0 66 "TurnDigits$State" "ambientLight" "I", Cond.fieldLink RX0 40 "TurnDigits$Frame" "neededLight" "I", Cond.fieldLink RX0 18 "TurnDigits$Frame" "gaps" "[I", Cond.fieldLink RX0 21 "TurnDigits$Frame" "litSlots" "[I", Cond.fieldLink RX0 30 "TurnDigits$Frame" "darkRows" "[I", Cond.fieldLink RX0 69 "TurnDigits$State" "ahead" "I", Cond.fieldLink RX0 9 "TurnDigits$Frame" "owners" "[I", Cond.fieldLink RX0 15 "TurnDigits$Frame" "lit" "[I"]
def wsX0_foresee_r2 : List Cond := [Cond.methodLink RX0 57 yJ7_fill_53178, Cond.static yJ7_fill_53178, Cond.initialized RJ7, Cond.code yJ7_fill_53178 cJ7_fill_53178 4 none, Cond.static yX4_giveSlot, Cond.initialized RX4, Cond.code yX4_giveSlot cX4_giveSlot 5 (some .int), Cond.static yX4_litIn, Cond.code yX4_litIn cX4_litIn 3 (some .int), Cond.methodLink RX0 80 yX0_noteSlot, Cond.instanceMethod yX0_noteSlot, Cond.selects RX0 yX0_noteSlot yX0_noteSlot, Cond.code yX0_noteSlot cX0_noteSlot 3 none, Cond.methodLink RX0 84 Lib.Math.max.name, Cond.static Lib.Math.max.name, Cond.initialized "java/lang/Math", Cond.code Lib.Math.max.name Lib.Math.max.code 2 (some .int)]
def wsX0_foresee : List Cond := .code yX0_foresee cX0_foresee 2 none :: ((wsX0_foresee_r1 ++ wsX0_foresee_r2) ++ wsX20 ++ wsX00)
def wsX0_foreseeLevel_r1 : List Cond := [Cond.fieldLink RX0 43 "TurnDigits$State" "levels" "[I", Cond.fieldLink RX0 24 "TurnDigits$Frame" "levels" "[I", Cond.methodLink RX0 46 arraycopyName, Cond.native arraycopyName, Cond.static arraycopyName, Cond.initialized "java/lang/System", Cond.fieldLink RX0 27 "TurnDigits$Frame" "credits" "[I", Cond.methodLink RX0 57 yJ7_fill_53178, Cond.static yJ7_fill_53178, Cond.initialized RJ7, Cond.code yJ7_fill_53178 cJ7_fill_53178 4 none, Cond.methodLink RX0 53 yX0_passSlots, Cond.instanceMethod yX0_passSlots, Cond.selects RX0 yX0_passSlots yX0_passSlots, Cond.initialized RX0, Cond.code yX0_passSlots cX0_passSlots 5 none, Cond.fieldLink RX0 63 "TurnDigits$State" "settings" "[I", Cond.fieldLink RX0 33 "TurnDigits$Frame" "length" "I", Cond.fieldLink RX0 37 "TurnDigits$Frame" "persistence" "I", Cond.fieldLink RX0 66 "TurnDigits$State" "ambientLight" "I", Cond.fieldLink RX0 40 "TurnDigits$Frame" "neededLight" "I", Cond.fieldLink RX0 18 "TurnDigits$Frame" "gaps" "[I", Cond.fieldLink RX0 21 "TurnDigits$Frame" "litSlots" "[I", Cond.fieldLink RX0 30 "TurnDigits$Frame" "darkRows" "[I"]
def wsX0_foreseeLevel_r2 : List Cond := [Cond.fieldLink RX0 69 "TurnDigits$State" "ahead" "I", Cond.fieldLink RX0 9 "TurnDigits$Frame" "owners" "[I", Cond.fieldLink RX0 15 "TurnDigits$Frame" "lit" "[I", Cond.static yX4_giveSlot, Cond.initialized RX4, Cond.code yX4_giveSlot cX4_giveSlot 5 (some .int), Cond.static yX4_litIn, Cond.code yX4_litIn cX4_litIn 3 (some .int), Cond.methodLink RX0 80 yX0_noteSlot, Cond.instanceMethod yX0_noteSlot, Cond.selects RX0 yX0_noteSlot yX0_noteSlot, Cond.code yX0_noteSlot cX0_noteSlot 3 none, Cond.methodLink RX0 84 Lib.Math.max.name, Cond.static Lib.Math.max.name, Cond.initialized "java/lang/Math", Cond.code Lib.Math.max.name Lib.Math.max.code 2 (some .int)]
def wsX0_foreseeLevel : List Cond := .code yX0_foreseeLevel cX0_foreseeLevel 4 none :: ((wsX0_foreseeLevel_r1 ++ wsX0_foreseeLevel_r2) ++ wsX20 ++ wsX00)
def wsX0_lightOf : List Cond := .code yX0_lightOf cX0_lightOf 2 (some .int) :: ([.fieldLink RX0 33 "TurnDigits$Frame" "length" "I", .fieldLink RX0 21 "TurnDigits$Frame" "litSlots" "[I"] ++ wsX00)
def wsX0_flickers : List Cond := .code yX0_flickers cX0_flickers 2 (some .boolean) :: ([.fieldLink RX0 21 "TurnDigits$Frame" "litSlots" "[I", .fieldLink RX0 18 "TurnDigits$Frame" "gaps" "[I", .fieldLink RX0 37 "TurnDigits$Frame" "persistence" "I"] ++ wsX00)
def wsX0_isSeen : List Cond := .code yX0_isSeen cX0_isSeen 3 (some .boolean) :: ([.fieldLink RX0 40 "TurnDigits$Frame" "neededLight" "I", .methodLink RX0 90 yX0_lightOf, .instanceMethod yX0_lightOf, .selects RX0 yX0_lightOf yX0_lightOf, .initialized RX0, .code yX0_lightOf cX0_lightOf 2 (some .int), .fieldLink RX0 33 "TurnDigits$Frame" "length" "I", .fieldLink RX0 21 "TurnDigits$Frame" "litSlots" "[I", .methodLink RX0 94 yX0_flickers, .instanceMethod yX0_flickers, .selects RX0 yX0_flickers yX0_flickers, .code yX0_flickers cX0_flickers 2 (some .boolean), .fieldLink RX0 18 "TurnDigits$Frame" "gaps" "[I", .fieldLink RX0 37 "TurnDigits$Frame" "persistence" "I"] ++ wsX00)
def wsX0_flickering : List Cond := .code yX0_flickering cX0_flickering 3 (some .int) :: ([.methodLink RX0 94 yX0_flickers, .instanceMethod yX0_flickers, .selects RX0 yX0_flickers yX0_flickers, .initialized RX0, .code yX0_flickers cX0_flickers 2 (some .boolean), .fieldLink RX0 21 "TurnDigits$Frame" "litSlots" "[I", .fieldLink RX0 18 "TurnDigits$Frame" "gaps" "[I", .fieldLink RX0 37 "TurnDigits$Frame" "persistence" "I"] ++ wsX00)
def wsX0_seen : List Cond := .code yX0_seen cX0_seen 3 (some .int) :: ([.methodLink RX0 98 yX0_isSeen, .instanceMethod yX0_isSeen, .selects RX0 yX0_isSeen yX0_isSeen, .initialized RX0, .code yX0_isSeen cX0_isSeen 3 (some .boolean), .fieldLink RX0 40 "TurnDigits$Frame" "neededLight" "I", .methodLink RX0 90 yX0_lightOf, .instanceMethod yX0_lightOf, .selects RX0 yX0_lightOf yX0_lightOf, .code yX0_lightOf cX0_lightOf 2 (some .int), .fieldLink RX0 33 "TurnDigits$Frame" "length" "I", .fieldLink RX0 21 "TurnDigits$Frame" "litSlots" "[I", .methodLink RX0 94 yX0_flickers, .instanceMethod yX0_flickers, .selects RX0 yX0_flickers yX0_flickers, .code yX0_flickers cX0_flickers 2 (some .boolean), .fieldLink RX0 18 "TurnDigits$Frame" "gaps" "[I", .fieldLink RX0 37 "TurnDigits$Frame" "persistence" "I"] ++ wsX00)
def wsX0_darkSlots : List Cond := .code yX0_darkSlots cX0_darkSlots 3 (some .int) :: ([.fieldLink RX0 33 "TurnDigits$Frame" "length" "I", .fieldLink RX0 15 "TurnDigits$Frame" "lit" "[I"] ++ wsX00)
def wsX0_changes : List Cond := .code yX0_changes cX0_changes 3 (some .int) :: ([.fieldLink RX0 33 "TurnDigits$Frame" "length" "I", .fieldLink RX0 9 "TurnDigits$Frame" "owners" "[I"] ++ wsX00)
def wsX2_init : List Cond := .code yX2_init cX2_init 1 none :: ([.methodLink RX2 3 objectInit, .instanceMethod objectInit, .code objectInit ⟨#[0xb1]⟩ 1 none, .arrayClass .int, .fieldLink RX2 9 "TurnDigits$State" "signs" "[I", .fieldLink RX2 15 "TurnDigits$State" "levels" "[I", .fieldLink RX2 18 "TurnDigits$State" "burnt" "[I", .fieldLink RX2 21 "TurnDigits$State" "credits" "[I", .fieldLink RX2 24 "TurnDigits$State" "litSlots" "[I", .fieldLink RX2 27 "TurnDigits$State" "wears" "[I", .fieldLink RX2 30 "TurnDigits$State" "settings" "[I", .fieldLink RX2 33 "TurnDigits$State" "ambientLight" "I", .fieldLink RX2 37 "TurnDigits$State" "time" "I", .fieldLink RX2 40 "TurnDigits$State" "ahead" "I", .methodLink RX2 52 arraycopyName, .native arraycopyName, .static arraycopyName, .initialized "java/lang/System", .methodLink RX2 43 yJ7_fill_53178, .static yJ7_fill_53178, .initialized RJ7, .code yJ7_fill_53178 cJ7_fill_53178 4 none] ++ wsX20)
def wsX1_init_r1 : List Cond := [Cond.methodLink RX1 3 objectInit, Cond.instanceMethod objectInit, Cond.code objectInit ⟨#[0xb1]⟩ 1 none, Cond.classLink RX1 9 RX2, Cond.fieldLink RX1 11 "TurnDigits$History" "saved" "[LTurnDigits$State;", Cond.fieldLink RX1 17 "TurnDigits$History" "oldest" "I", Cond.fieldLink RX1 21 "TurnDigits$History" "size" "I", Cond.instantiable RX2 10, Cond.initialized RX2, Cond.methodLink RX1 24 yX2_init, Cond.instanceMethod yX2_init, Cond.code yX2_init cX2_init 1 none, Cond.methodLink RX2 3 objectInit, Cond.arrayClass .int, Cond.fieldLink RX2 9 "TurnDigits$State" "signs" "[I", Cond.fieldLink RX2 15 "TurnDigits$State" "levels" "[I", Cond.fieldLink RX2 18 "TurnDigits$State" "burnt" "[I", Cond.fieldLink RX2 21 "TurnDigits$State" "credits" "[I", Cond.fieldLink RX2 24 "TurnDigits$State" "litSlots" "[I", Cond.fieldLink RX2 27 "TurnDigits$State" "wears" "[I", Cond.fieldLink RX2 30 "TurnDigits$State" "settings" "[I", Cond.fieldLink RX2 33 "TurnDigits$State" "ambientLight" "I", Cond.fieldLink RX2 37 "TurnDigits$State" "time" "I", Cond.fieldLink RX2 40 "TurnDigits$State" "ahead" "I"]
def wsX1_init_r2 : List Cond := [Cond.methodLink RX2 52 arraycopyName, Cond.native arraycopyName, Cond.static arraycopyName, Cond.initialized "java/lang/System", Cond.methodLink RX2 43 yJ7_fill_53178, Cond.static yJ7_fill_53178, Cond.initialized RJ7, Cond.code yJ7_fill_53178 cJ7_fill_53178 4 none]
def wsX1_init : List Cond := .code yX1_init cX1_init 2 none :: ((wsX1_init_r1 ++ wsX1_init_r2) ++ wsX10 ++ wsX20)
def wsX2_copyFrom : List Cond := .code yX2_copyFrom cX2_copyFrom 2 none :: ([.fieldLink RX2 9 "TurnDigits$State" "signs" "[I", .methodLink RX2 52 arraycopyName, .native arraycopyName, .static arraycopyName, .initialized "java/lang/System", .fieldLink RX2 15 "TurnDigits$State" "levels" "[I", .fieldLink RX2 18 "TurnDigits$State" "burnt" "[I", .fieldLink RX2 21 "TurnDigits$State" "credits" "[I", .fieldLink RX2 24 "TurnDigits$State" "litSlots" "[I", .fieldLink RX2 27 "TurnDigits$State" "wears" "[I", .fieldLink RX2 30 "TurnDigits$State" "settings" "[I", .fieldLink RX2 33 "TurnDigits$State" "ambientLight" "I", .fieldLink RX2 37 "TurnDigits$State" "time" "I", .fieldLink RX2 40 "TurnDigits$State" "ahead" "I"] ++ wsX20)
def wsX1_push : List Cond := .code yX1_push cX1_push 2 none :: ([.fieldLink RX1 21 "TurnDigits$History" "size" "I", .fieldLink RX1 17 "TurnDigits$History" "oldest" "I", .fieldLink RX1 11 "TurnDigits$History" "saved" "[LTurnDigits$State;", .methodLink RX1 25 yX2_copyFrom, .instanceMethod yX2_copyFrom, .selects RX2 yX2_copyFrom yX2_copyFrom, .initialized RX2, .code yX2_copyFrom cX2_copyFrom 2 none, .fieldLink RX2 9 "TurnDigits$State" "signs" "[I", .methodLink RX2 52 arraycopyName, .native arraycopyName, .static arraycopyName, .initialized "java/lang/System", .fieldLink RX2 15 "TurnDigits$State" "levels" "[I", .fieldLink RX2 18 "TurnDigits$State" "burnt" "[I", .fieldLink RX2 21 "TurnDigits$State" "credits" "[I", .fieldLink RX2 24 "TurnDigits$State" "litSlots" "[I", .fieldLink RX2 27 "TurnDigits$State" "wears" "[I", .fieldLink RX2 30 "TurnDigits$State" "settings" "[I", .fieldLink RX2 33 "TurnDigits$State" "ambientLight" "I", .fieldLink RX2 37 "TurnDigits$State" "time" "I", .fieldLink RX2 40 "TurnDigits$State" "ahead" "I"] ++ wsX10 ++ wsX20)
def wsX1_pop : List Cond := .code yX1_pop cX1_pop 2 none :: ([.fieldLink RX1 21 "TurnDigits$History" "size" "I", .fieldLink RX1 11 "TurnDigits$History" "saved" "[LTurnDigits$State;", .fieldLink RX1 17 "TurnDigits$History" "oldest" "I", .methodLink RX1 25 yX2_copyFrom, .instanceMethod yX2_copyFrom, .selects RX2 yX2_copyFrom yX2_copyFrom, .initialized RX2, .code yX2_copyFrom cX2_copyFrom 2 none, .fieldLink RX2 9 "TurnDigits$State" "signs" "[I", .methodLink RX2 52 arraycopyName, .native arraycopyName, .static arraycopyName, .initialized "java/lang/System", .fieldLink RX2 15 "TurnDigits$State" "levels" "[I", .fieldLink RX2 18 "TurnDigits$State" "burnt" "[I", .fieldLink RX2 21 "TurnDigits$State" "credits" "[I", .fieldLink RX2 24 "TurnDigits$State" "litSlots" "[I", .fieldLink RX2 27 "TurnDigits$State" "wears" "[I", .fieldLink RX2 30 "TurnDigits$State" "settings" "[I", .fieldLink RX2 33 "TurnDigits$State" "ambientLight" "I", .fieldLink RX2 37 "TurnDigits$State" "time" "I", .fieldLink RX2 40 "TurnDigits$State" "ahead" "I"] ++ wsX10 ++ wsX20)
def wsX2_clearCredits : List Cond := .code yX2_clearCredits cX2_clearCredits 1 none :: ([.fieldLink RX2 21 "TurnDigits$State" "credits" "[I", .methodLink RX2 43 yJ7_fill_53178, .static yJ7_fill_53178, .initialized RJ7, .code yJ7_fill_53178 cJ7_fill_53178 4 none] ++ wsX20)
def wsX4_magnitude : List Cond := .code yX4_magnitude cX4_magnitude 1 (some .long) :: ([])
def wsX2_putNumber : List Cond := .code yX2_putNumber cX2_putNumber 10 none :: ([.fieldLink RX2 9 "TurnDigits$State" "signs" "[I", .constantLong RX2 62 (10), .static yX4_magnitude, .initialized RX4, .code yX4_magnitude cX4_magnitude 1 (some .long)] ++ wsX20)
def wsX2_shownSegments : List Cond := .code yX2_shownSegments cX2_shownSegments 2 (some .int) :: ([.fieldLink RX2 9 "TurnDigits$State" "signs" "[I", .fieldLink RX2 18 "TurnDigits$State" "burnt" "[I"] ++ wsX20)
def wsX4_wearPlace : List Cond := .code yX4_wearPlace cX4_wearPlace 2 (some .int) :: ([])
def wsX2_wearOut : List Cond := .code yX2_wearOut cX2_wearOut 7 (some .int) :: ([.fieldLink RX2 30 "TurnDigits$State" "settings" "[I", .fieldLink RX2 27 "TurnDigits$State" "wears" "[I", .fieldLink RX2 18 "TurnDigits$State" "burnt" "[I", .methodLink RX2 76 yX2_shownSegments, .instanceMethod yX2_shownSegments, .selects RX2 yX2_shownSegments yX2_shownSegments, .initialized RX2, .code yX2_shownSegments cX2_shownSegments 2 (some .int), .fieldLink RX2 9 "TurnDigits$State" "signs" "[I", .static yX4_wearPlace, .initialized RX4, .code yX4_wearPlace cX4_wearPlace 2 (some .int)] ++ wsX20)
def wsX2_passSlot_r1 : List Cond := [Cond.fieldLink RX2 15 "TurnDigits$State" "levels" "[I", Cond.fieldLink RX2 21 "TurnDigits$State" "credits" "[I", Cond.fieldLink RX2 40 "TurnDigits$State" "ahead" "I", Cond.fieldLink RX2 30 "TurnDigits$State" "settings" "[I", Cond.fieldLink RX2 37 "TurnDigits$State" "time" "I", Cond.fieldLink RX2 24 "TurnDigits$State" "litSlots" "[I", Cond.static yX4_giveSlot, Cond.initialized RX4, Cond.code yX4_giveSlot cX4_giveSlot 5 (some .int), Cond.static yX4_litIn, Cond.code yX4_litIn cX4_litIn 3 (some .int), Cond.methodLink RX2 72 yX2_wearOut, Cond.instanceMethod yX2_wearOut, Cond.selects RX2 yX2_wearOut yX2_wearOut, Cond.initialized RX2, Cond.code yX2_wearOut cX2_wearOut 7 (some .int), Cond.fieldLink RX2 27 "TurnDigits$State" "wears" "[I", Cond.fieldLink RX2 18 "TurnDigits$State" "burnt" "[I", Cond.methodLink RX2 76 yX2_shownSegments, Cond.instanceMethod yX2_shownSegments, Cond.selects RX2 yX2_shownSegments yX2_shownSegments, Cond.code yX2_shownSegments cX2_shownSegments 2 (some .int), Cond.fieldLink RX2 9 "TurnDigits$State" "signs" "[I", Cond.static yX4_wearPlace]
def wsX2_passSlot_r2 : List Cond := [Cond.code yX4_wearPlace cX4_wearPlace 2 (some .int)]
def wsX2_passSlot : List Cond := .code yX2_passSlot cX2_passSlot 3 (some .int) :: ((wsX2_passSlot_r1 ++ wsX2_passSlot_r2) ++ wsX20)
def wsX2_readableSigns : List Cond := .code yX2_readableSigns cX2_readableSigns 5 (some .int) :: ([.fieldLink RX2 18 "TurnDigits$State" "burnt" "[I", .methodLink RX2 76 yX2_shownSegments, .instanceMethod yX2_shownSegments, .selects RX2 yX2_shownSegments yX2_shownSegments, .initialized RX2, .code yX2_shownSegments cX2_shownSegments 2 (some .int), .fieldLink RX2 9 "TurnDigits$State" "signs" "[I"] ++ wsX20)
def wsX2_levelSum : List Cond := .code yX2_levelSum cX2_levelSum 3 (some .int) :: ([.fieldLink RX2 15 "TurnDigits$State" "levels" "[I"] ++ wsX20)
def wsJ6_bitCount_0f7a4 : List Cond := .code yJ6_bitCount_0f7a4 cJ6_bitCount_0f7a4 1 (some .int) :: ([.constant RJ6 265 (1431655765), .constant RJ6 266 (858993459), .constant RJ6 267 (252645135)])
def wsX2_burntSegments : List Cond := .code yX2_burntSegments cX2_burntSegments 3 (some .int) :: ([.fieldLink RX2 18 "TurnDigits$State" "burnt" "[I", .methodLink RX2 86 yJ6_bitCount_0f7a4, .static yJ6_bitCount_0f7a4, .initialized RJ6, .code yJ6_bitCount_0f7a4 cJ6_bitCount_0f7a4 1 (some .int), .constant RJ6 265 (1431655765), .constant RJ6 266 (858993459), .constant RJ6 267 (252645135)] ++ wsX20)
def wsX3_init : List Cond := .code yX3_init cX3_init 1 none :: ([.methodLink RX3 3 objectInit, .instanceMethod objectInit, .code objectInit ⟨#[0xb1]⟩ 1 none, .arrayClass .int, .fieldLink RX3 9 "TurnDigits$Text" "codes" "[I", .fieldLink RX3 15 "TurnDigits$Text" "length" "I", .fieldLink RX3 19 "TurnDigits$Text" "signs" "[I", .fieldLink RX3 22 "TurnDigits$Text" "levels" "[I", .fieldLink RX3 25 "TurnDigits$Text" "parts" "I", .fieldLink RX3 28 "TurnDigits$Text" "place" "I"] ++ wsX30)
def wsX3_put : List Cond := .code yX3_put cX3_put 2 (some .boolean) :: ([.fieldLink RX3 15 "TurnDigits$Text" "length" "I", .fieldLink RX3 9 "TurnDigits$Text" "codes" "[I"] ++ wsX30)
def wsX3_tellLevel : List Cond := .code yX3_tellLevel cX3_tellLevel 2 none :: ([.fieldLink RX3 25 "TurnDigits$Text" "parts" "I", .fieldLink RX3 22 "TurnDigits$Text" "levels" "[I"] ++ wsX30)
def wsX3_takesLevel : List Cond := .code yX3_takesLevel cX3_takesLevel 2 (some .boolean) :: ([.fieldLink RX3 28 "TurnDigits$Text" "place" "I", .methodLink RX3 38 yX3_tellLevel, .instanceMethod yX3_tellLevel, .selects RX3 yX3_tellLevel yX3_tellLevel, .initialized RX3, .code yX3_tellLevel cX3_tellLevel 2 none, .fieldLink RX3 25 "TurnDigits$Text" "parts" "I", .fieldLink RX3 22 "TurnDigits$Text" "levels" "[I"] ++ wsX30)
def wsX3_signOf : List Cond := .code yX3_signOf cX3_signOf 1 (some .int) :: ([])
def wsX3_takesSign : List Cond := .code yX3_takesSign cX3_takesSign 3 (some .boolean) :: ([.fieldLink RX3 25 "TurnDigits$Text" "parts" "I", .fieldLink RX3 19 "TurnDigits$Text" "signs" "[I", .fieldLink RX3 22 "TurnDigits$Text" "levels" "[I", .fieldLink RX3 28 "TurnDigits$Text" "place" "I", .methodLink RX3 45 yX3_signOf, .static yX3_signOf, .initialized RX3, .code yX3_signOf cX3_signOf 1 (some .int)] ++ wsX30)
def wsX3_takes : List Cond := .code yX3_takes cX3_takes 2 (some .boolean) :: ([.fieldLink RX3 28 "TurnDigits$Text" "place" "I", .methodLink RX3 35 yX3_takesLevel, .instanceMethod yX3_takesLevel, .selects RX3 yX3_takesLevel yX3_takesLevel, .initialized RX3, .code yX3_takesLevel cX3_takesLevel 2 (some .boolean), .methodLink RX3 38 yX3_tellLevel, .instanceMethod yX3_tellLevel, .selects RX3 yX3_tellLevel yX3_tellLevel, .code yX3_tellLevel cX3_tellLevel 2 none, .fieldLink RX3 25 "TurnDigits$Text" "parts" "I", .fieldLink RX3 22 "TurnDigits$Text" "levels" "[I", .methodLink RX3 42 yX3_takesSign, .instanceMethod yX3_takesSign, .selects RX3 yX3_takesSign yX3_takesSign, .code yX3_takesSign cX3_takesSign 3 (some .boolean), .fieldLink RX3 19 "TurnDigits$Text" "signs" "[I", .methodLink RX3 45 yX3_signOf, .static yX3_signOf, .code yX3_signOf cX3_signOf 1 (some .int)] ++ wsX30)
def wsX3_scan_r1 : List Cond := [Cond.fieldLink RX3 25 "TurnDigits$Text" "parts" "I", Cond.fieldLink RX3 28 "TurnDigits$Text" "place" "I", Cond.fieldLink RX3 15 "TurnDigits$Text" "length" "I", Cond.fieldLink RX3 9 "TurnDigits$Text" "codes" "[I", Cond.methodLink RX3 31 yX3_takes, Cond.instanceMethod yX3_takes, Cond.selects RX3 yX3_takes yX3_takes, Cond.initialized RX3, Cond.code yX3_takes cX3_takes 2 (some .boolean), Cond.methodLink RX3 35 yX3_takesLevel, Cond.instanceMethod yX3_takesLevel, Cond.selects RX3 yX3_takesLevel yX3_takesLevel, Cond.code yX3_takesLevel cX3_takesLevel 2 (some .boolean), Cond.methodLink RX3 38 yX3_tellLevel, Cond.instanceMethod yX3_tellLevel, Cond.selects RX3 yX3_tellLevel yX3_tellLevel, Cond.code yX3_tellLevel cX3_tellLevel 2 none, Cond.fieldLink RX3 22 "TurnDigits$Text" "levels" "[I", Cond.methodLink RX3 42 yX3_takesSign, Cond.instanceMethod yX3_takesSign, Cond.selects RX3 yX3_takesSign yX3_takesSign, Cond.code yX3_takesSign cX3_takesSign 3 (some .boolean), Cond.fieldLink RX3 19 "TurnDigits$Text" "signs" "[I", Cond.methodLink RX3 45 yX3_signOf]
def wsX3_scan_r2 : List Cond := [Cond.static yX3_signOf, Cond.code yX3_signOf cX3_signOf 1 (some .int)]
def wsX3_scan : List Cond := .code yX3_scan cX3_scan 2 (some .int) :: ((wsX3_scan_r1 ++ wsX3_scan_r2) ++ wsX30)
def wsX3_isWhole : List Cond := .code yX3_isWhole cX3_isWhole 1 (some .boolean) :: ([.fieldLink RX3 28 "TurnDigits$Text" "place" "I"] ++ wsX30)
def wsX4_init_r1 : List Cond := [Cond.methodLink RX4 1 objectInit, Cond.instanceMethod objectInit, Cond.code objectInit ⟨#[0xb1]⟩ 1 none, Cond.classLink RX4 7 RX2, Cond.instantiable RX2 10, Cond.initialized RX2, Cond.fieldLink RX4 10 "TurnDigits" "state" "LTurnDigits$State;", Cond.classLink RX4 16 RX1, Cond.instantiable RX1 3, Cond.initialized RX1, Cond.fieldLink RX4 19 "TurnDigits" "history" "LTurnDigits$History;", Cond.classLink RX4 23 RX3, Cond.instantiable RX3 6, Cond.initialized RX3, Cond.fieldLink RX4 26 "TurnDigits" "text" "LTurnDigits$Text;", Cond.classLink RX4 30 RX0, Cond.instantiable RX0 10, Cond.initialized RX0, Cond.fieldLink RX4 33 "TurnDigits" "frame" "LTurnDigits$Frame;", Cond.fieldLink RX4 37 "TurnDigits" "trial" "LTurnDigits$Frame;", Cond.methodLink RX4 9 yX2_init, Cond.instanceMethod yX2_init, Cond.code yX2_init cX2_init 1 none, Cond.methodLink RX2 3 objectInit]
def wsX4_init_r2 : List Cond := [Cond.arrayClass .int, Cond.fieldLink RX2 9 "TurnDigits$State" "signs" "[I", Cond.fieldLink RX2 15 "TurnDigits$State" "levels" "[I", Cond.fieldLink RX2 18 "TurnDigits$State" "burnt" "[I", Cond.fieldLink RX2 21 "TurnDigits$State" "credits" "[I", Cond.fieldLink RX2 24 "TurnDigits$State" "litSlots" "[I", Cond.fieldLink RX2 27 "TurnDigits$State" "wears" "[I", Cond.fieldLink RX2 30 "TurnDigits$State" "settings" "[I", Cond.fieldLink RX2 33 "TurnDigits$State" "ambientLight" "I", Cond.fieldLink RX2 37 "TurnDigits$State" "time" "I", Cond.fieldLink RX2 40 "TurnDigits$State" "ahead" "I", Cond.methodLink RX2 52 arraycopyName, Cond.native arraycopyName, Cond.static arraycopyName, Cond.initialized "java/lang/System", Cond.methodLink RX2 43 yJ7_fill_53178, Cond.static yJ7_fill_53178, Cond.initialized RJ7, Cond.code yJ7_fill_53178 cJ7_fill_53178 4 none, Cond.methodLink RX4 18 yX1_init, Cond.instanceMethod yX1_init, Cond.code yX1_init cX1_init 2 none, Cond.methodLink RX1 3 objectInit, Cond.classLink RX1 9 RX2]
def wsX4_init_r3 : List Cond := [Cond.fieldLink RX1 11 "TurnDigits$History" "saved" "[LTurnDigits$State;", Cond.fieldLink RX1 17 "TurnDigits$History" "oldest" "I", Cond.fieldLink RX1 21 "TurnDigits$History" "size" "I", Cond.methodLink RX1 24 yX2_init, Cond.methodLink RX4 25 yX3_init, Cond.instanceMethod yX3_init, Cond.code yX3_init cX3_init 1 none, Cond.methodLink RX3 3 objectInit, Cond.fieldLink RX3 9 "TurnDigits$Text" "codes" "[I", Cond.fieldLink RX3 15 "TurnDigits$Text" "length" "I", Cond.fieldLink RX3 19 "TurnDigits$Text" "signs" "[I", Cond.fieldLink RX3 22 "TurnDigits$Text" "levels" "[I", Cond.fieldLink RX3 25 "TurnDigits$Text" "parts" "I", Cond.fieldLink RX3 28 "TurnDigits$Text" "place" "I", Cond.instanceMethod yX0_init, Cond.code yX0_init cX0_init 1 none, Cond.methodLink RX0 3 objectInit, Cond.fieldLink RX0 9 "TurnDigits$Frame" "owners" "[I", Cond.fieldLink RX0 15 "TurnDigits$Frame" "lit" "[I", Cond.fieldLink RX0 18 "TurnDigits$Frame" "gaps" "[I", Cond.fieldLink RX0 21 "TurnDigits$Frame" "litSlots" "[I", Cond.fieldLink RX0 24 "TurnDigits$Frame" "levels" "[I", Cond.fieldLink RX0 27 "TurnDigits$Frame" "credits" "[I", Cond.fieldLink RX0 30 "TurnDigits$Frame" "darkRows" "[I"]
def wsX4_init_r4 : List Cond := [Cond.fieldLink RX0 33 "TurnDigits$Frame" "length" "I", Cond.fieldLink RX0 37 "TurnDigits$Frame" "persistence" "I", Cond.fieldLink RX0 40 "TurnDigits$Frame" "neededLight" "I"]
def wsX4_init : List Cond := .code yX4_init cX4_init 1 none :: ((wsX4_init_r1 ++ (wsX4_init_r2 ++ (wsX4_init_r3 ++ wsX4_init_r4))) ++ wsX20 ++ wsX40 ++ wsX10 ++ wsX30 ++ wsX00)
def wsX4_requireDigit : List Cond := .code yX4_requireDigit cX4_requireDigit 1 none :: ([.classLink RX4 275 "java/lang/IndexOutOfBoundsException", .initialized "java/lang/IndexOutOfBoundsException"] ++ (vx_atS RX4 279 "java/lang/IndexOutOfBoundsException" ["java/lang/RuntimeException", "java/lang/Exception"]).filter goodWord)
def wsX4_requireRange : List Cond := .code yX4_requireRange cX4_requireRange 3 none :: ([.classLink RX4 130 "java/lang/IllegalArgumentException", .initialized "java/lang/IllegalArgumentException"] ++ (vx_atS RX4 134 "java/lang/IllegalArgumentException" ["java/lang/RuntimeException", "java/lang/Exception"]).filter goodWord)
def wsX4_show_r1 : List Cond := [Cond.fieldLink RX4 19 "TurnDigits" "history" "LTurnDigits$History;", Cond.fieldLink RX4 10 "TurnDigits" "state" "LTurnDigits$State;", Cond.fieldLink RX4 52 "TurnDigits$State" "signs" "[I", Cond.methodLink RX4 40 yX4_requireDigit, Cond.static yX4_requireDigit, Cond.initialized RX4, Cond.code yX4_requireDigit cX4_requireDigit 1 none, Cond.classLink RX4 275 "java/lang/IndexOutOfBoundsException", Cond.initialized "java/lang/IndexOutOfBoundsException", Cond.methodLink RX4 44 yX4_requireRange, Cond.static yX4_requireRange, Cond.code yX4_requireRange cX4_requireRange 3 none, Cond.classLink RX4 130 "java/lang/IllegalArgumentException", Cond.initialized "java/lang/IllegalArgumentException", Cond.methodLink RX4 48 yX1_push, Cond.instanceMethod yX1_push, Cond.selects RX1 yX1_push yX1_push, Cond.initialized RX1, Cond.code yX1_push cX1_push 2 none, Cond.fieldLink RX1 21 "TurnDigits$History" "size" "I", Cond.fieldLink RX1 17 "TurnDigits$History" "oldest" "I", Cond.fieldLink RX1 11 "TurnDigits$History" "saved" "[LTurnDigits$State;", Cond.methodLink RX1 25 yX2_copyFrom, Cond.instanceMethod yX2_copyFrom]
def wsX4_show_r2 : List Cond := [Cond.selects RX2 yX2_copyFrom yX2_copyFrom, Cond.initialized RX2, Cond.code yX2_copyFrom cX2_copyFrom 2 none, Cond.fieldLink RX2 9 "TurnDigits$State" "signs" "[I", Cond.methodLink RX2 52 arraycopyName, Cond.native arraycopyName, Cond.static arraycopyName, Cond.initialized "java/lang/System", Cond.fieldLink RX2 15 "TurnDigits$State" "levels" "[I", Cond.fieldLink RX2 18 "TurnDigits$State" "burnt" "[I", Cond.fieldLink RX2 21 "TurnDigits$State" "credits" "[I", Cond.fieldLink RX2 24 "TurnDigits$State" "litSlots" "[I", Cond.fieldLink RX2 27 "TurnDigits$State" "wears" "[I", Cond.fieldLink RX2 30 "TurnDigits$State" "settings" "[I", Cond.fieldLink RX2 33 "TurnDigits$State" "ambientLight" "I", Cond.fieldLink RX2 37 "TurnDigits$State" "time" "I", Cond.fieldLink RX2 40 "TurnDigits$State" "ahead" "I"]
def wsX4_show : List Cond := .code yX4_show cX4_show 4 (some .int) :: ((wsX4_show_r1 ++ wsX4_show_r2) ++ wsX40 ++ wsX20 ++ wsX10 ++ (vx_atS RX4 279 "java/lang/IndexOutOfBoundsException" ["java/lang/RuntimeException", "java/lang/Exception"]).filter goodWord ++ (vx_atS RX4 134 "java/lang/IllegalArgumentException" ["java/lang/RuntimeException", "java/lang/Exception"]).filter goodWord)
def wsX4_level_r1 : List Cond := [Cond.fieldLink RX4 19 "TurnDigits" "history" "LTurnDigits$History;", Cond.fieldLink RX4 10 "TurnDigits" "state" "LTurnDigits$State;", Cond.fieldLink RX4 56 "TurnDigits$State" "levels" "[I", Cond.methodLink RX4 40 yX4_requireDigit, Cond.static yX4_requireDigit, Cond.initialized RX4, Cond.code yX4_requireDigit cX4_requireDigit 1 none, Cond.classLink RX4 275 "java/lang/IndexOutOfBoundsException", Cond.initialized "java/lang/IndexOutOfBoundsException", Cond.methodLink RX4 44 yX4_requireRange, Cond.static yX4_requireRange, Cond.code yX4_requireRange cX4_requireRange 3 none, Cond.classLink RX4 130 "java/lang/IllegalArgumentException", Cond.initialized "java/lang/IllegalArgumentException", Cond.methodLink RX4 48 yX1_push, Cond.instanceMethod yX1_push, Cond.selects RX1 yX1_push yX1_push, Cond.initialized RX1, Cond.code yX1_push cX1_push 2 none, Cond.fieldLink RX1 21 "TurnDigits$History" "size" "I", Cond.fieldLink RX1 17 "TurnDigits$History" "oldest" "I", Cond.fieldLink RX1 11 "TurnDigits$History" "saved" "[LTurnDigits$State;", Cond.methodLink RX1 25 yX2_copyFrom, Cond.instanceMethod yX2_copyFrom]
def wsX4_level_r2 : List Cond := [Cond.selects RX2 yX2_copyFrom yX2_copyFrom, Cond.initialized RX2, Cond.code yX2_copyFrom cX2_copyFrom 2 none, Cond.fieldLink RX2 9 "TurnDigits$State" "signs" "[I", Cond.methodLink RX2 52 arraycopyName, Cond.native arraycopyName, Cond.static arraycopyName, Cond.initialized "java/lang/System", Cond.fieldLink RX2 15 "TurnDigits$State" "levels" "[I", Cond.fieldLink RX2 18 "TurnDigits$State" "burnt" "[I", Cond.fieldLink RX2 21 "TurnDigits$State" "credits" "[I", Cond.fieldLink RX2 24 "TurnDigits$State" "litSlots" "[I", Cond.fieldLink RX2 27 "TurnDigits$State" "wears" "[I", Cond.fieldLink RX2 30 "TurnDigits$State" "settings" "[I", Cond.fieldLink RX2 33 "TurnDigits$State" "ambientLight" "I", Cond.fieldLink RX2 37 "TurnDigits$State" "time" "I", Cond.fieldLink RX2 40 "TurnDigits$State" "ahead" "I", Cond.methodLink RX4 59 yX2_clearCredits, Cond.instanceMethod yX2_clearCredits, Cond.selects RX2 yX2_clearCredits yX2_clearCredits, Cond.code yX2_clearCredits cX2_clearCredits 1 none, Cond.methodLink RX2 43 yJ7_fill_53178, Cond.static yJ7_fill_53178, Cond.initialized RJ7]
def wsX4_level_r3 : List Cond := [Cond.code yJ7_fill_53178 cJ7_fill_53178 4 none]
def wsX4_level : List Cond := .code yX4_level cX4_level 4 (some .int) :: ((wsX4_level_r1 ++ (wsX4_level_r2 ++ wsX4_level_r3)) ++ wsX40 ++ wsX20 ++ wsX10 ++ (vx_atS RX4 279 "java/lang/IndexOutOfBoundsException" ["java/lang/RuntimeException", "java/lang/Exception"]).filter goodWord ++ (vx_atS RX4 134 "java/lang/IllegalArgumentException" ["java/lang/RuntimeException", "java/lang/Exception"]).filter goodWord)
def wsX4_requireSegment : List Cond := .code yX4_requireSegment cX4_requireSegment 1 none :: ([.classLink RX4 275 "java/lang/IndexOutOfBoundsException", .initialized "java/lang/IndexOutOfBoundsException"] ++ (vx_atS RX4 279 "java/lang/IndexOutOfBoundsException" ["java/lang/RuntimeException", "java/lang/Exception"]).filter goodWord)
def wsX4_burn_r1 : List Cond := [Cond.fieldLink RX4 19 "TurnDigits" "history" "LTurnDigits$History;", Cond.fieldLink RX4 10 "TurnDigits" "state" "LTurnDigits$State;", Cond.fieldLink RX4 65 "TurnDigits$State" "burnt" "[I", Cond.fieldLink RX4 68 "TurnDigits$State" "wears" "[I", Cond.methodLink RX4 40 yX4_requireDigit, Cond.static yX4_requireDigit, Cond.initialized RX4, Cond.code yX4_requireDigit cX4_requireDigit 1 none, Cond.classLink RX4 275 "java/lang/IndexOutOfBoundsException", Cond.initialized "java/lang/IndexOutOfBoundsException", Cond.methodLink RX4 62 yX4_requireSegment, Cond.static yX4_requireSegment, Cond.code yX4_requireSegment cX4_requireSegment 1 none, Cond.methodLink RX4 48 yX1_push, Cond.instanceMethod yX1_push, Cond.selects RX1 yX1_push yX1_push, Cond.initialized RX1, Cond.code yX1_push cX1_push 2 none, Cond.fieldLink RX1 21 "TurnDigits$History" "size" "I", Cond.fieldLink RX1 17 "TurnDigits$History" "oldest" "I", Cond.fieldLink RX1 11 "TurnDigits$History" "saved" "[LTurnDigits$State;", Cond.methodLink RX1 25 yX2_copyFrom, Cond.instanceMethod yX2_copyFrom, Cond.selects RX2 yX2_copyFrom yX2_copyFrom]
def wsX4_burn_r2 : List Cond := [Cond.initialized RX2, Cond.code yX2_copyFrom cX2_copyFrom 2 none, Cond.fieldLink RX2 9 "TurnDigits$State" "signs" "[I", Cond.methodLink RX2 52 arraycopyName, Cond.native arraycopyName, Cond.static arraycopyName, Cond.initialized "java/lang/System", Cond.fieldLink RX2 15 "TurnDigits$State" "levels" "[I", Cond.fieldLink RX2 18 "TurnDigits$State" "burnt" "[I", Cond.fieldLink RX2 21 "TurnDigits$State" "credits" "[I", Cond.fieldLink RX2 24 "TurnDigits$State" "litSlots" "[I", Cond.fieldLink RX2 27 "TurnDigits$State" "wears" "[I", Cond.fieldLink RX2 30 "TurnDigits$State" "settings" "[I", Cond.fieldLink RX2 33 "TurnDigits$State" "ambientLight" "I", Cond.fieldLink RX2 37 "TurnDigits$State" "time" "I", Cond.fieldLink RX2 40 "TurnDigits$State" "ahead" "I", Cond.methodLink RX4 71 yX4_wearPlace, Cond.static yX4_wearPlace, Cond.code yX4_wearPlace cX4_wearPlace 2 (some .int)]
def wsX4_burn : List Cond := .code yX4_burn cX4_burn 6 (some .int) :: ((wsX4_burn_r1 ++ wsX4_burn_r2) ++ wsX40 ++ wsX20 ++ wsX10 ++ (vx_atS RX4 279 "java/lang/IndexOutOfBoundsException" ["java/lang/RuntimeException", "java/lang/Exception"]).filter goodWord)
def wsX4_ambient_r1 : List Cond := [Cond.fieldLink RX4 19 "TurnDigits" "history" "LTurnDigits$History;", Cond.fieldLink RX4 10 "TurnDigits" "state" "LTurnDigits$State;", Cond.fieldLink RX4 75 "TurnDigits$State" "ambientLight" "I", Cond.methodLink RX4 44 yX4_requireRange, Cond.static yX4_requireRange, Cond.initialized RX4, Cond.code yX4_requireRange cX4_requireRange 3 none, Cond.classLink RX4 130 "java/lang/IllegalArgumentException", Cond.initialized "java/lang/IllegalArgumentException", Cond.methodLink RX4 48 yX1_push, Cond.instanceMethod yX1_push, Cond.selects RX1 yX1_push yX1_push, Cond.initialized RX1, Cond.code yX1_push cX1_push 2 none, Cond.fieldLink RX1 21 "TurnDigits$History" "size" "I", Cond.fieldLink RX1 17 "TurnDigits$History" "oldest" "I", Cond.fieldLink RX1 11 "TurnDigits$History" "saved" "[LTurnDigits$State;", Cond.methodLink RX1 25 yX2_copyFrom, Cond.instanceMethod yX2_copyFrom, Cond.selects RX2 yX2_copyFrom yX2_copyFrom, Cond.initialized RX2, Cond.code yX2_copyFrom cX2_copyFrom 2 none, Cond.fieldLink RX2 9 "TurnDigits$State" "signs" "[I", Cond.methodLink RX2 52 arraycopyName]
def wsX4_ambient_r2 : List Cond := [Cond.native arraycopyName, Cond.static arraycopyName, Cond.initialized "java/lang/System", Cond.fieldLink RX2 15 "TurnDigits$State" "levels" "[I", Cond.fieldLink RX2 18 "TurnDigits$State" "burnt" "[I", Cond.fieldLink RX2 21 "TurnDigits$State" "credits" "[I", Cond.fieldLink RX2 24 "TurnDigits$State" "litSlots" "[I", Cond.fieldLink RX2 27 "TurnDigits$State" "wears" "[I", Cond.fieldLink RX2 30 "TurnDigits$State" "settings" "[I", Cond.fieldLink RX2 33 "TurnDigits$State" "ambientLight" "I", Cond.fieldLink RX2 37 "TurnDigits$State" "time" "I", Cond.fieldLink RX2 40 "TurnDigits$State" "ahead" "I"]
def wsX4_ambient : List Cond := .code yX4_ambient cX4_ambient 3 (some .int) :: ((wsX4_ambient_r1 ++ wsX4_ambient_r2) ++ wsX40 ++ wsX20 ++ wsX10 ++ (vx_atS RX4 134 "java/lang/IllegalArgumentException" ["java/lang/RuntimeException", "java/lang/Exception"]).filter goodWord)
def wsX4_requireSetting : List Cond := .code yX4_requireSetting cX4_requireSetting 1 none :: ([.classLink RX4 275 "java/lang/IndexOutOfBoundsException", .initialized "java/lang/IndexOutOfBoundsException"] ++ (vx_atS RX4 279 "java/lang/IndexOutOfBoundsException" ["java/lang/RuntimeException", "java/lang/Exception"]).filter goodWord)
def wsX4_set_r1 : List Cond := [Cond.fieldLink RX4 82 "TurnDigits" "LEAST_VALUES" "[I", Cond.fieldLink RX4 85 "TurnDigits" "MOST_VALUES" "[I", Cond.fieldLink RX4 19 "TurnDigits" "history" "LTurnDigits$History;", Cond.fieldLink RX4 10 "TurnDigits" "state" "LTurnDigits$State;", Cond.fieldLink RX4 88 "TurnDigits$State" "settings" "[I", Cond.methodLink RX4 79 yX4_requireSetting, Cond.static yX4_requireSetting, Cond.initialized RX4, Cond.code yX4_requireSetting cX4_requireSetting 1 none, Cond.classLink RX4 275 "java/lang/IndexOutOfBoundsException", Cond.initialized "java/lang/IndexOutOfBoundsException", Cond.methodLink RX4 44 yX4_requireRange, Cond.static yX4_requireRange, Cond.code yX4_requireRange cX4_requireRange 3 none, Cond.classLink RX4 130 "java/lang/IllegalArgumentException", Cond.initialized "java/lang/IllegalArgumentException", Cond.methodLink RX4 48 yX1_push, Cond.instanceMethod yX1_push, Cond.selects RX1 yX1_push yX1_push, Cond.initialized RX1, Cond.code yX1_push cX1_push 2 none, Cond.fieldLink RX1 21 "TurnDigits$History" "size" "I", Cond.fieldLink RX1 17 "TurnDigits$History" "oldest" "I", Cond.fieldLink RX1 11 "TurnDigits$History" "saved" "[LTurnDigits$State;"]
def wsX4_set_r2 : List Cond := [Cond.methodLink RX1 25 yX2_copyFrom, Cond.instanceMethod yX2_copyFrom, Cond.selects RX2 yX2_copyFrom yX2_copyFrom, Cond.initialized RX2, Cond.code yX2_copyFrom cX2_copyFrom 2 none, Cond.fieldLink RX2 9 "TurnDigits$State" "signs" "[I", Cond.methodLink RX2 52 arraycopyName, Cond.native arraycopyName, Cond.static arraycopyName, Cond.initialized "java/lang/System", Cond.fieldLink RX2 15 "TurnDigits$State" "levels" "[I", Cond.fieldLink RX2 18 "TurnDigits$State" "burnt" "[I", Cond.fieldLink RX2 21 "TurnDigits$State" "credits" "[I", Cond.fieldLink RX2 24 "TurnDigits$State" "litSlots" "[I", Cond.fieldLink RX2 27 "TurnDigits$State" "wears" "[I", Cond.fieldLink RX2 30 "TurnDigits$State" "settings" "[I", Cond.fieldLink RX2 33 "TurnDigits$State" "ambientLight" "I", Cond.fieldLink RX2 37 "TurnDigits$State" "time" "I", Cond.fieldLink RX2 40 "TurnDigits$State" "ahead" "I"]
def wsX4_set : List Cond := .code yX4_set cX4_set 4 (some .int) :: ((wsX4_set_r1 ++ wsX4_set_r2) ++ wsX40 ++ wsX20 ++ wsX10 ++ (vx_atS RX4 279 "java/lang/IndexOutOfBoundsException" ["java/lang/RuntimeException", "java/lang/Exception"]).filter goodWord ++ (vx_atS RX4 134 "java/lang/IllegalArgumentException" ["java/lang/RuntimeException", "java/lang/Exception"]).filter goodWord)
def wsX4_numberLength : List Cond := .code yX4_numberLength cX4_numberLength 4 (some .int) :: ([.constantLong RX4 290 (10), .methodLink RX4 286 yX4_magnitude, .static yX4_magnitude, .initialized RX4, .code yX4_magnitude cX4_magnitude 1 (some .long)])
def wsX4_number_r1 : List Cond := [Cond.fieldLink RX4 19 "TurnDigits" "history" "LTurnDigits$History;", Cond.fieldLink RX4 10 "TurnDigits" "state" "LTurnDigits$State;", Cond.methodLink RX4 40 yX4_requireDigit, Cond.static yX4_requireDigit, Cond.initialized RX4, Cond.code yX4_requireDigit cX4_requireDigit 1 none, Cond.classLink RX4 275 "java/lang/IndexOutOfBoundsException", Cond.initialized "java/lang/IndexOutOfBoundsException", Cond.methodLink RX4 91 yX4_numberLength, Cond.static yX4_numberLength, Cond.code yX4_numberLength cX4_numberLength 4 (some .int), Cond.constantLong RX4 290 (10), Cond.methodLink RX4 286 yX4_magnitude, Cond.static yX4_magnitude, Cond.code yX4_magnitude cX4_magnitude 1 (some .long), Cond.methodLink RX4 44 yX4_requireRange, Cond.static yX4_requireRange, Cond.code yX4_requireRange cX4_requireRange 3 none, Cond.classLink RX4 130 "java/lang/IllegalArgumentException", Cond.initialized "java/lang/IllegalArgumentException", Cond.methodLink RX4 48 yX1_push, Cond.instanceMethod yX1_push, Cond.selects RX1 yX1_push yX1_push, Cond.initialized RX1]
def wsX4_number_r2 : List Cond := [Cond.code yX1_push cX1_push 2 none, Cond.fieldLink RX1 21 "TurnDigits$History" "size" "I", Cond.fieldLink RX1 17 "TurnDigits$History" "oldest" "I", Cond.fieldLink RX1 11 "TurnDigits$History" "saved" "[LTurnDigits$State;", Cond.methodLink RX1 25 yX2_copyFrom, Cond.instanceMethod yX2_copyFrom, Cond.selects RX2 yX2_copyFrom yX2_copyFrom, Cond.initialized RX2, Cond.code yX2_copyFrom cX2_copyFrom 2 none, Cond.fieldLink RX2 9 "TurnDigits$State" "signs" "[I", Cond.methodLink RX2 52 arraycopyName, Cond.native arraycopyName, Cond.static arraycopyName, Cond.initialized "java/lang/System", Cond.fieldLink RX2 15 "TurnDigits$State" "levels" "[I", Cond.fieldLink RX2 18 "TurnDigits$State" "burnt" "[I", Cond.fieldLink RX2 21 "TurnDigits$State" "credits" "[I", Cond.fieldLink RX2 24 "TurnDigits$State" "litSlots" "[I", Cond.fieldLink RX2 27 "TurnDigits$State" "wears" "[I", Cond.fieldLink RX2 30 "TurnDigits$State" "settings" "[I", Cond.fieldLink RX2 33 "TurnDigits$State" "ambientLight" "I", Cond.fieldLink RX2 37 "TurnDigits$State" "time" "I", Cond.fieldLink RX2 40 "TurnDigits$State" "ahead" "I", Cond.methodLink RX4 95 yX2_putNumber]
def wsX4_number_r3 : List Cond := [Cond.instanceMethod yX2_putNumber, Cond.selects RX2 yX2_putNumber yX2_putNumber, Cond.code yX2_putNumber cX2_putNumber 10 none, Cond.constantLong RX2 62 (10)]
def wsX4_number : List Cond := .code yX4_number cX4_number 5 (some .int) :: ((wsX4_number_r1 ++ (wsX4_number_r2 ++ wsX4_number_r3)) ++ wsX40 ++ wsX10 ++ wsX20 ++ (vx_atS RX4 279 "java/lang/IndexOutOfBoundsException" ["java/lang/RuntimeException", "java/lang/Exception"]).filter goodWord ++ (vx_atS RX4 134 "java/lang/IllegalArgumentException" ["java/lang/RuntimeException", "java/lang/Exception"]).filter goodWord)
def wsX4_run_r1 : List Cond := [Cond.classLink RX4 103 "java/lang/IllegalStateException", Cond.initialized "java/lang/IllegalStateException", Cond.fieldLink RX4 10 "TurnDigits" "state" "LTurnDigits$State;", Cond.fieldLink RX4 99 "TurnDigits$State" "time" "I", Cond.constant RX4 102 (99999), Cond.fieldLink RX4 19 "TurnDigits" "history" "LTurnDigits$History;", Cond.methodLink RX4 44 yX4_requireRange, Cond.static yX4_requireRange, Cond.initialized RX4, Cond.code yX4_requireRange cX4_requireRange 3 none, Cond.classLink RX4 130 "java/lang/IllegalArgumentException", Cond.initialized "java/lang/IllegalArgumentException", Cond.methodLink RX4 48 yX1_push, Cond.instanceMethod yX1_push, Cond.selects RX1 yX1_push yX1_push, Cond.initialized RX1, Cond.code yX1_push cX1_push 2 none, Cond.fieldLink RX1 21 "TurnDigits$History" "size" "I", Cond.fieldLink RX1 17 "TurnDigits$History" "oldest" "I", Cond.fieldLink RX1 11 "TurnDigits$History" "saved" "[LTurnDigits$State;", Cond.methodLink RX1 25 yX2_copyFrom, Cond.instanceMethod yX2_copyFrom, Cond.selects RX2 yX2_copyFrom yX2_copyFrom, Cond.initialized RX2]
def wsX4_run_r2 : List Cond := [Cond.code yX2_copyFrom cX2_copyFrom 2 none, Cond.fieldLink RX2 9 "TurnDigits$State" "signs" "[I", Cond.methodLink RX2 52 arraycopyName, Cond.native arraycopyName, Cond.static arraycopyName, Cond.initialized "java/lang/System", Cond.fieldLink RX2 15 "TurnDigits$State" "levels" "[I", Cond.fieldLink RX2 18 "TurnDigits$State" "burnt" "[I", Cond.fieldLink RX2 21 "TurnDigits$State" "credits" "[I", Cond.fieldLink RX2 24 "TurnDigits$State" "litSlots" "[I", Cond.fieldLink RX2 27 "TurnDigits$State" "wears" "[I", Cond.fieldLink RX2 30 "TurnDigits$State" "settings" "[I", Cond.fieldLink RX2 33 "TurnDigits$State" "ambientLight" "I", Cond.fieldLink RX2 37 "TurnDigits$State" "time" "I", Cond.fieldLink RX2 40 "TurnDigits$State" "ahead" "I", Cond.methodLink RX4 110 yX2_passSlot, Cond.instanceMethod yX2_passSlot, Cond.selects RX2 yX2_passSlot yX2_passSlot, Cond.code yX2_passSlot cX2_passSlot 3 (some .int), Cond.static yX4_giveSlot, Cond.code yX4_giveSlot cX4_giveSlot 5 (some .int), Cond.static yX4_litIn, Cond.code yX4_litIn cX4_litIn 3 (some .int), Cond.methodLink RX2 72 yX2_wearOut]
def wsX4_run_r3 : List Cond := [Cond.instanceMethod yX2_wearOut, Cond.selects RX2 yX2_wearOut yX2_wearOut, Cond.code yX2_wearOut cX2_wearOut 7 (some .int), Cond.methodLink RX2 76 yX2_shownSegments, Cond.instanceMethod yX2_shownSegments, Cond.selects RX2 yX2_shownSegments yX2_shownSegments, Cond.code yX2_shownSegments cX2_shownSegments 2 (some .int), Cond.static yX4_wearPlace, Cond.code yX4_wearPlace cX4_wearPlace 2 (some .int)]
def wsX4_run : List Cond := .code yX4_run cX4_run 4 (some .int) :: ((wsX4_run_r1 ++ (wsX4_run_r2 ++ wsX4_run_r3)) ++ wsX40 ++ wsX20 ++ wsX10 ++ (vx_atS RX4 107 "java/lang/IllegalStateException" ["java/lang/RuntimeException", "java/lang/Exception"]).filter goodWord ++ (vx_atS RX4 134 "java/lang/IllegalArgumentException" ["java/lang/RuntimeException", "java/lang/Exception"]).filter goodWord)
def wsX4_append : List Cond := .code yX4_append cX4_append 2 (some .int) :: ([.classLink RX4 103 "java/lang/IllegalStateException", .initialized "java/lang/IllegalStateException", .fieldLink RX4 26 "TurnDigits" "text" "LTurnDigits$Text;", .fieldLink RX4 120 "TurnDigits$Text" "length" "I", .methodLink RX4 44 yX4_requireRange, .static yX4_requireRange, .initialized RX4, .code yX4_requireRange cX4_requireRange 3 none, .classLink RX4 130 "java/lang/IllegalArgumentException", .initialized "java/lang/IllegalArgumentException", .methodLink RX4 114 yX3_put, .instanceMethod yX3_put, .selects RX3 yX3_put yX3_put, .initialized RX3, .code yX3_put cX3_put 2 (some .boolean), .fieldLink RX3 15 "TurnDigits$Text" "length" "I", .fieldLink RX3 9 "TurnDigits$Text" "codes" "[I"] ++ wsX40 ++ wsX30 ++ (vx_atS RX4 107 "java/lang/IllegalStateException" ["java/lang/RuntimeException", "java/lang/Exception"]).filter goodWord ++ (vx_atS RX4 134 "java/lang/IllegalArgumentException" ["java/lang/RuntimeException", "java/lang/Exception"]).filter goodWord)
def wsX4_clearBuffer : List Cond := .code yX4_clearBuffer cX4_clearBuffer 2 (some .int) :: ([.fieldLink RX4 26 "TurnDigits" "text" "LTurnDigits$Text;", .fieldLink RX4 120 "TurnDigits$Text" "length" "I"] ++ wsX40 ++ wsX30)
def wsX4_firstError_r1 : List Cond := [Cond.fieldLink RX4 26 "TurnDigits" "text" "LTurnDigits$Text;", Cond.methodLink RX4 123 yX3_scan, Cond.instanceMethod yX3_scan, Cond.selects RX3 yX3_scan yX3_scan, Cond.initialized RX3, Cond.code yX3_scan cX3_scan 2 (some .int), Cond.fieldLink RX3 25 "TurnDigits$Text" "parts" "I", Cond.fieldLink RX3 28 "TurnDigits$Text" "place" "I", Cond.fieldLink RX3 15 "TurnDigits$Text" "length" "I", Cond.fieldLink RX3 9 "TurnDigits$Text" "codes" "[I", Cond.methodLink RX3 31 yX3_takes, Cond.instanceMethod yX3_takes, Cond.selects RX3 yX3_takes yX3_takes, Cond.code yX3_takes cX3_takes 2 (some .boolean), Cond.methodLink RX3 35 yX3_takesLevel, Cond.instanceMethod yX3_takesLevel, Cond.selects RX3 yX3_takesLevel yX3_takesLevel, Cond.code yX3_takesLevel cX3_takesLevel 2 (some .boolean), Cond.methodLink RX3 38 yX3_tellLevel, Cond.instanceMethod yX3_tellLevel, Cond.selects RX3 yX3_tellLevel yX3_tellLevel, Cond.code yX3_tellLevel cX3_tellLevel 2 none, Cond.fieldLink RX3 22 "TurnDigits$Text" "levels" "[I", Cond.methodLink RX3 42 yX3_takesSign]
def wsX4_firstError_r2 : List Cond := [Cond.instanceMethod yX3_takesSign, Cond.selects RX3 yX3_takesSign yX3_takesSign, Cond.code yX3_takesSign cX3_takesSign 3 (some .boolean), Cond.fieldLink RX3 19 "TurnDigits$Text" "signs" "[I", Cond.methodLink RX3 45 yX3_signOf, Cond.static yX3_signOf, Cond.code yX3_signOf cX3_signOf 1 (some .int)]
def wsX4_firstError : List Cond := .code yX4_firstError cX4_firstError 1 (some .int) :: ((wsX4_firstError_r1 ++ wsX4_firstError_r2) ++ wsX40 ++ wsX30)
def wsX4_read_r1 : List Cond := [Cond.classLink RX4 130 "java/lang/IllegalArgumentException", Cond.initialized "java/lang/IllegalArgumentException", Cond.fieldLink RX4 26 "TurnDigits" "text" "LTurnDigits$Text;", Cond.fieldLink RX4 120 "TurnDigits$Text" "length" "I", Cond.fieldLink RX4 19 "TurnDigits" "history" "LTurnDigits$History;", Cond.fieldLink RX4 10 "TurnDigits" "state" "LTurnDigits$State;", Cond.fieldLink RX4 135 "TurnDigits$Text" "parts" "I", Cond.fieldLink RX4 52 "TurnDigits$State" "signs" "[I", Cond.fieldLink RX4 138 "TurnDigits$Text" "signs" "[I", Cond.fieldLink RX4 139 "TurnDigits$Text" "levels" "[I", Cond.fieldLink RX4 56 "TurnDigits$State" "levels" "[I", Cond.methodLink RX4 123 yX3_scan, Cond.instanceMethod yX3_scan, Cond.selects RX3 yX3_scan yX3_scan, Cond.initialized RX3, Cond.code yX3_scan cX3_scan 2 (some .int), Cond.fieldLink RX3 25 "TurnDigits$Text" "parts" "I", Cond.fieldLink RX3 28 "TurnDigits$Text" "place" "I", Cond.fieldLink RX3 15 "TurnDigits$Text" "length" "I", Cond.fieldLink RX3 9 "TurnDigits$Text" "codes" "[I", Cond.methodLink RX3 31 yX3_takes, Cond.instanceMethod yX3_takes, Cond.selects RX3 yX3_takes yX3_takes, Cond.code yX3_takes cX3_takes 2 (some .boolean)]
def wsX4_read_r2 : List Cond := [Cond.methodLink RX3 35 yX3_takesLevel, Cond.instanceMethod yX3_takesLevel, Cond.selects RX3 yX3_takesLevel yX3_takesLevel, Cond.code yX3_takesLevel cX3_takesLevel 2 (some .boolean), Cond.methodLink RX3 38 yX3_tellLevel, Cond.instanceMethod yX3_tellLevel, Cond.selects RX3 yX3_tellLevel yX3_tellLevel, Cond.code yX3_tellLevel cX3_tellLevel 2 none, Cond.fieldLink RX3 22 "TurnDigits$Text" "levels" "[I", Cond.methodLink RX3 42 yX3_takesSign, Cond.instanceMethod yX3_takesSign, Cond.selects RX3 yX3_takesSign yX3_takesSign, Cond.code yX3_takesSign cX3_takesSign 3 (some .boolean), Cond.fieldLink RX3 19 "TurnDigits$Text" "signs" "[I", Cond.methodLink RX3 45 yX3_signOf, Cond.static yX3_signOf, Cond.code yX3_signOf cX3_signOf 1 (some .int), Cond.methodLink RX4 126 yX3_isWhole, Cond.instanceMethod yX3_isWhole, Cond.selects RX3 yX3_isWhole yX3_isWhole, Cond.code yX3_isWhole cX3_isWhole 1 (some .boolean), Cond.methodLink RX4 48 yX1_push, Cond.instanceMethod yX1_push, Cond.selects RX1 yX1_push yX1_push]
def wsX4_read_r3 : List Cond := [Cond.initialized RX1, Cond.code yX1_push cX1_push 2 none, Cond.fieldLink RX1 21 "TurnDigits$History" "size" "I", Cond.fieldLink RX1 17 "TurnDigits$History" "oldest" "I", Cond.fieldLink RX1 11 "TurnDigits$History" "saved" "[LTurnDigits$State;", Cond.methodLink RX1 25 yX2_copyFrom, Cond.instanceMethod yX2_copyFrom, Cond.selects RX2 yX2_copyFrom yX2_copyFrom, Cond.initialized RX2, Cond.code yX2_copyFrom cX2_copyFrom 2 none, Cond.fieldLink RX2 9 "TurnDigits$State" "signs" "[I", Cond.methodLink RX2 52 arraycopyName, Cond.native arraycopyName, Cond.static arraycopyName, Cond.initialized "java/lang/System", Cond.fieldLink RX2 15 "TurnDigits$State" "levels" "[I", Cond.fieldLink RX2 18 "TurnDigits$State" "burnt" "[I", Cond.fieldLink RX2 21 "TurnDigits$State" "credits" "[I", Cond.fieldLink RX2 24 "TurnDigits$State" "litSlots" "[I", Cond.fieldLink RX2 27 "TurnDigits$State" "wears" "[I", Cond.fieldLink RX2 30 "TurnDigits$State" "settings" "[I", Cond.fieldLink RX2 33 "TurnDigits$State" "ambientLight" "I", Cond.fieldLink RX2 37 "TurnDigits$State" "time" "I", Cond.fieldLink RX2 40 "TurnDigits$State" "ahead" "I"]
def wsX4_read_r4 : List Cond := [Cond.methodLink RX4 59 yX2_clearCredits, Cond.instanceMethod yX2_clearCredits, Cond.selects RX2 yX2_clearCredits yX2_clearCredits, Cond.code yX2_clearCredits cX2_clearCredits 1 none, Cond.methodLink RX2 43 yJ7_fill_53178, Cond.static yJ7_fill_53178, Cond.initialized RJ7, Cond.code yJ7_fill_53178 cJ7_fill_53178 4 none]
def wsX4_read : List Cond := .code yX4_read cX4_read 3 (some .int) :: ((wsX4_read_r1 ++ (wsX4_read_r2 ++ (wsX4_read_r3 ++ wsX4_read_r4))) ++ wsX40 ++ wsX30 ++ wsX20 ++ wsX10 ++ (vx_atS RX4 134 "java/lang/IllegalArgumentException" ["java/lang/RuntimeException", "java/lang/Exception"]).filter goodWord)
def wsX4_undo_r1 : List Cond := [Cond.classLink RX4 103 "java/lang/IllegalStateException", Cond.initialized "java/lang/IllegalStateException", Cond.fieldLink RX4 19 "TurnDigits" "history" "LTurnDigits$History;", Cond.fieldLink RX4 140 "TurnDigits$History" "size" "I", Cond.fieldLink RX4 10 "TurnDigits" "state" "LTurnDigits$State;", Cond.methodLink RX4 145 yX1_pop, Cond.instanceMethod yX1_pop, Cond.selects RX1 yX1_pop yX1_pop, Cond.initialized RX1, Cond.code yX1_pop cX1_pop 2 none, Cond.fieldLink RX1 21 "TurnDigits$History" "size" "I", Cond.fieldLink RX1 11 "TurnDigits$History" "saved" "[LTurnDigits$State;", Cond.fieldLink RX1 17 "TurnDigits$History" "oldest" "I", Cond.methodLink RX1 25 yX2_copyFrom, Cond.instanceMethod yX2_copyFrom, Cond.selects RX2 yX2_copyFrom yX2_copyFrom, Cond.initialized RX2, Cond.code yX2_copyFrom cX2_copyFrom 2 none, Cond.fieldLink RX2 9 "TurnDigits$State" "signs" "[I", Cond.methodLink RX2 52 arraycopyName, Cond.native arraycopyName, Cond.static arraycopyName, Cond.initialized "java/lang/System", Cond.fieldLink RX2 15 "TurnDigits$State" "levels" "[I"]
def wsX4_undo_r2 : List Cond := [Cond.fieldLink RX2 18 "TurnDigits$State" "burnt" "[I", Cond.fieldLink RX2 21 "TurnDigits$State" "credits" "[I", Cond.fieldLink RX2 24 "TurnDigits$State" "litSlots" "[I", Cond.fieldLink RX2 27 "TurnDigits$State" "wears" "[I", Cond.fieldLink RX2 30 "TurnDigits$State" "settings" "[I", Cond.fieldLink RX2 33 "TurnDigits$State" "ambientLight" "I", Cond.fieldLink RX2 37 "TurnDigits$State" "time" "I", Cond.fieldLink RX2 40 "TurnDigits$State" "ahead" "I"]
def wsX4_undo : List Cond := .code yX4_undo cX4_undo 1 (some .int) :: ((wsX4_undo_r1 ++ wsX4_undo_r2) ++ wsX40 ++ wsX10 ++ wsX20 ++ (vx_atS RX4 107 "java/lang/IllegalStateException" ["java/lang/RuntimeException", "java/lang/Exception"]).filter goodWord)
def wsX4_isClear_r1 : List Cond := [Cond.fieldLink RX4 33 "TurnDigits" "frame" "LTurnDigits$Frame;", Cond.fieldLink RX4 10 "TurnDigits" "state" "LTurnDigits$State;", Cond.methodLink RX4 223 yX0_isSeen, Cond.instanceMethod yX0_isSeen, Cond.selects RX0 yX0_isSeen yX0_isSeen, Cond.initialized RX0, Cond.code yX0_isSeen cX0_isSeen 3 (some .boolean), Cond.fieldLink RX0 40 "TurnDigits$Frame" "neededLight" "I", Cond.methodLink RX0 90 yX0_lightOf, Cond.instanceMethod yX0_lightOf, Cond.selects RX0 yX0_lightOf yX0_lightOf, Cond.code yX0_lightOf cX0_lightOf 2 (some .int), Cond.fieldLink RX0 33 "TurnDigits$Frame" "length" "I", Cond.fieldLink RX0 21 "TurnDigits$Frame" "litSlots" "[I", Cond.methodLink RX0 94 yX0_flickers, Cond.instanceMethod yX0_flickers, Cond.selects RX0 yX0_flickers yX0_flickers, Cond.code yX0_flickers cX0_flickers 2 (some .boolean), Cond.fieldLink RX0 18 "TurnDigits$Frame" "gaps" "[I", Cond.fieldLink RX0 37 "TurnDigits$Frame" "persistence" "I", Cond.methodLink RX4 229 yX2_readableSigns, Cond.instanceMethod yX2_readableSigns, Cond.selects RX2 yX2_readableSigns yX2_readableSigns, Cond.initialized RX2]
def wsX4_isClear_r2 : List Cond := [Cond.code yX2_readableSigns cX2_readableSigns 5 (some .int), Cond.fieldLink RX2 18 "TurnDigits$State" "burnt" "[I", Cond.methodLink RX2 76 yX2_shownSegments, Cond.instanceMethod yX2_shownSegments, Cond.selects RX2 yX2_shownSegments yX2_shownSegments, Cond.code yX2_shownSegments cX2_shownSegments 2 (some .int), Cond.fieldLink RX2 9 "TurnDigits$State" "signs" "[I", Cond.methodLink RX4 259 yJ6_bitCount_0f7a4, Cond.static yJ6_bitCount_0f7a4, Cond.initialized RJ6, Cond.code yJ6_bitCount_0f7a4 cJ6_bitCount_0f7a4 1 (some .int), Cond.constant RJ6 265 (1431655765), Cond.constant RJ6 266 (858993459), Cond.constant RJ6 267 (252645135)]
def wsX4_isClear : List Cond := .code yX4_isClear cX4_isClear 2 (some .boolean) :: ((wsX4_isClear_r1 ++ wsX4_isClear_r2) ++ wsX40 ++ wsX00 ++ wsX20)
def wsX4_property_r1 : List Cond := [Cond.fieldLink RX4 10 "TurnDigits" "state" "LTurnDigits$State;", Cond.fieldLink RX4 52 "TurnDigits$State" "signs" "[I", Cond.fieldLink RX4 56 "TurnDigits$State" "levels" "[I", Cond.fieldLink RX4 65 "TurnDigits$State" "burnt" "[I", Cond.fieldLink RX4 211 "TurnDigits$State" "credits" "[I", Cond.fieldLink RX4 33 "TurnDigits" "frame" "LTurnDigits$Frame;", Cond.fieldLink RX4 217 "TurnDigits$Frame" "gaps" "[I", Cond.fieldLink RX4 232 "TurnDigits$State" "litSlots" "[I", Cond.methodLink RX4 208 yX2_shownSegments, Cond.instanceMethod yX2_shownSegments, Cond.selects RX2 yX2_shownSegments yX2_shownSegments, Cond.initialized RX2, Cond.code yX2_shownSegments cX2_shownSegments 2 (some .int), Cond.fieldLink RX2 9 "TurnDigits$State" "signs" "[I", Cond.fieldLink RX2 18 "TurnDigits$State" "burnt" "[I", Cond.methodLink RX4 214 yX0_lightOf, Cond.instanceMethod yX0_lightOf, Cond.selects RX0 yX0_lightOf yX0_lightOf, Cond.initialized RX0, Cond.code yX0_lightOf cX0_lightOf 2 (some .int), Cond.fieldLink RX0 33 "TurnDigits$Frame" "length" "I", Cond.fieldLink RX0 21 "TurnDigits$Frame" "litSlots" "[I", Cond.methodLink RX4 220 yX0_flickers, Cond.instanceMethod yX0_flickers]
def wsX4_property_r2 : List Cond := [Cond.selects RX0 yX0_flickers yX0_flickers, Cond.code yX0_flickers cX0_flickers 2 (some .boolean), Cond.fieldLink RX0 18 "TurnDigits$Frame" "gaps" "[I", Cond.fieldLink RX0 37 "TurnDigits$Frame" "persistence" "I", Cond.methodLink RX4 223 yX0_isSeen, Cond.instanceMethod yX0_isSeen, Cond.selects RX0 yX0_isSeen yX0_isSeen, Cond.code yX0_isSeen cX0_isSeen 3 (some .boolean), Cond.fieldLink RX0 40 "TurnDigits$Frame" "neededLight" "I", Cond.methodLink RX0 90 yX0_lightOf, Cond.methodLink RX0 94 yX0_flickers, Cond.methodLink RX4 226 yX4_isClear, Cond.instanceMethod yX4_isClear, Cond.selects RX4 yX4_isClear yX4_isClear, Cond.initialized RX4, Cond.code yX4_isClear cX4_isClear 2 (some .boolean), Cond.methodLink RX4 229 yX2_readableSigns, Cond.instanceMethod yX2_readableSigns, Cond.selects RX2 yX2_readableSigns yX2_readableSigns, Cond.code yX2_readableSigns cX2_readableSigns 5 (some .int), Cond.methodLink RX2 76 yX2_shownSegments, Cond.methodLink RX4 259 yJ6_bitCount_0f7a4, Cond.static yJ6_bitCount_0f7a4, Cond.initialized RJ6]
def wsX4_property_r3 : List Cond := [Cond.code yJ6_bitCount_0f7a4 cJ6_bitCount_0f7a4 1 (some .int), Cond.constant RJ6 265 (1431655765), Cond.constant RJ6 266 (858993459), Cond.constant RJ6 267 (252645135)]
def wsX4_property : List Cond := .code yX4_property cX4_property 3 (some .int) :: ((wsX4_property_r1 ++ (wsX4_property_r2 ++ wsX4_property_r3)) ++ wsX40 ++ wsX20 ++ wsX00)
def wsX4_digit_r1 : List Cond := [Cond.fieldLink RX4 33 "TurnDigits" "frame" "LTurnDigits$Frame;", Cond.fieldLink RX4 10 "TurnDigits" "state" "LTurnDigits$State;", Cond.methodLink RX4 40 yX4_requireDigit, Cond.static yX4_requireDigit, Cond.initialized RX4, Cond.code yX4_requireDigit cX4_requireDigit 1 none, Cond.classLink RX4 275 "java/lang/IndexOutOfBoundsException", Cond.initialized "java/lang/IndexOutOfBoundsException", Cond.methodLink RX4 44 yX4_requireRange, Cond.static yX4_requireRange, Cond.code yX4_requireRange cX4_requireRange 3 none, Cond.classLink RX4 130 "java/lang/IllegalArgumentException", Cond.initialized "java/lang/IllegalArgumentException", Cond.methodLink RX4 148 yX0_foresee, Cond.instanceMethod yX0_foresee, Cond.selects RX0 yX0_foresee yX0_foresee, Cond.initialized RX0, Cond.code yX0_foresee cX0_foresee 2 none, Cond.fieldLink RX0 43 "TurnDigits$State" "levels" "[I", Cond.fieldLink RX0 24 "TurnDigits$Frame" "levels" "[I", Cond.methodLink RX0 46 arraycopyName, Cond.native arraycopyName, Cond.static arraycopyName, Cond.initialized "java/lang/System"]
def wsX4_digit_r2 : List Cond := [Cond.fieldLink RX0 52 "TurnDigits$State" "credits" "[I", Cond.fieldLink RX0 27 "TurnDigits$Frame" "credits" "[I", Cond.methodLink RX0 53 yX0_passSlots, Cond.instanceMethod yX0_passSlots, Cond.selects RX0 yX0_passSlots yX0_passSlots, Cond.code yX0_passSlots cX0_passSlots 5 none, Cond.fieldLink RX0 63 "TurnDigits$State" "settings" "[I", Cond.fieldLink RX0 33 "TurnDigits$Frame" "length" "I", Cond.fieldLink RX0 37 "TurnDigits$Frame" "persistence" "I", Cond.fieldLink RX0 66 "TurnDigits$State" "ambientLight" "I", Cond.fieldLink RX0 40 "TurnDigits$Frame" "neededLight" "I", Cond.fieldLink RX0 18 "TurnDigits$Frame" "gaps" "[I", Cond.fieldLink RX0 21 "TurnDigits$Frame" "litSlots" "[I", Cond.fieldLink RX0 30 "TurnDigits$Frame" "darkRows" "[I", Cond.fieldLink RX0 69 "TurnDigits$State" "ahead" "I", Cond.fieldLink RX0 9 "TurnDigits$Frame" "owners" "[I", Cond.fieldLink RX0 15 "TurnDigits$Frame" "lit" "[I", Cond.methodLink RX0 57 yJ7_fill_53178, Cond.static yJ7_fill_53178, Cond.initialized RJ7, Cond.code yJ7_fill_53178 cJ7_fill_53178 4 none, Cond.static yX4_giveSlot, Cond.code yX4_giveSlot cX4_giveSlot 5 (some .int), Cond.static yX4_litIn]
def wsX4_digit_r3 : List Cond := [Cond.code yX4_litIn cX4_litIn 3 (some .int), Cond.methodLink RX0 80 yX0_noteSlot, Cond.instanceMethod yX0_noteSlot, Cond.selects RX0 yX0_noteSlot yX0_noteSlot, Cond.code yX0_noteSlot cX0_noteSlot 3 none, Cond.methodLink RX0 84 Lib.Math.max.name, Cond.static Lib.Math.max.name, Cond.initialized "java/lang/Math", Cond.code Lib.Math.max.name Lib.Math.max.code 2 (some .int), Cond.methodLink RX4 151 yX4_property, Cond.instanceMethod yX4_property, Cond.selects RX4 yX4_property yX4_property, Cond.code yX4_property cX4_property 3 (some .int), Cond.fieldLink RX4 52 "TurnDigits$State" "signs" "[I", Cond.fieldLink RX4 56 "TurnDigits$State" "levels" "[I", Cond.fieldLink RX4 65 "TurnDigits$State" "burnt" "[I", Cond.fieldLink RX4 211 "TurnDigits$State" "credits" "[I", Cond.fieldLink RX4 217 "TurnDigits$Frame" "gaps" "[I", Cond.fieldLink RX4 232 "TurnDigits$State" "litSlots" "[I", Cond.methodLink RX4 208 yX2_shownSegments, Cond.instanceMethod yX2_shownSegments, Cond.selects RX2 yX2_shownSegments yX2_shownSegments, Cond.initialized RX2, Cond.code yX2_shownSegments cX2_shownSegments 2 (some .int)]
def wsX4_digit_r4 : List Cond := [Cond.fieldLink RX2 9 "TurnDigits$State" "signs" "[I", Cond.fieldLink RX2 18 "TurnDigits$State" "burnt" "[I", Cond.methodLink RX4 214 yX0_lightOf, Cond.instanceMethod yX0_lightOf, Cond.selects RX0 yX0_lightOf yX0_lightOf, Cond.code yX0_lightOf cX0_lightOf 2 (some .int), Cond.methodLink RX4 220 yX0_flickers, Cond.instanceMethod yX0_flickers, Cond.selects RX0 yX0_flickers yX0_flickers, Cond.code yX0_flickers cX0_flickers 2 (some .boolean), Cond.methodLink RX4 223 yX0_isSeen, Cond.instanceMethod yX0_isSeen, Cond.selects RX0 yX0_isSeen yX0_isSeen, Cond.code yX0_isSeen cX0_isSeen 3 (some .boolean), Cond.methodLink RX0 90 yX0_lightOf, Cond.methodLink RX0 94 yX0_flickers, Cond.methodLink RX4 226 yX4_isClear, Cond.instanceMethod yX4_isClear, Cond.selects RX4 yX4_isClear yX4_isClear, Cond.code yX4_isClear cX4_isClear 2 (some .boolean), Cond.methodLink RX4 229 yX2_readableSigns, Cond.instanceMethod yX2_readableSigns, Cond.selects RX2 yX2_readableSigns yX2_readableSigns, Cond.code yX2_readableSigns cX2_readableSigns 5 (some .int)]
def wsX4_digit_r5 : List Cond := [Cond.methodLink RX2 76 yX2_shownSegments, Cond.methodLink RX4 259 yJ6_bitCount_0f7a4, Cond.static yJ6_bitCount_0f7a4, Cond.initialized RJ6, Cond.code yJ6_bitCount_0f7a4 cJ6_bitCount_0f7a4 1 (some .int), Cond.constant RJ6 265 (1431655765), Cond.constant RJ6 266 (858993459), Cond.constant RJ6 267 (252645135)]
def wsX4_digit : List Cond := .code yX4_digit cX4_digit 3 (some .int) :: ((wsX4_digit_r1 ++ (wsX4_digit_r2 ++ (wsX4_digit_r3 ++ (wsX4_digit_r4 ++ wsX4_digit_r5)))) ++ wsX40 ++ wsX20 ++ wsX00 ++ (vx_atS RX4 279 "java/lang/IndexOutOfBoundsException" ["java/lang/RuntimeException", "java/lang/Exception"]).filter goodWord ++ (vx_atS RX4 134 "java/lang/IllegalArgumentException" ["java/lang/RuntimeException", "java/lang/Exception"]).filter goodWord)
def wsX4_wear : List Cond := .code yX4_wear cX4_wear 3 (some .int) :: ([.fieldLink RX4 10 "TurnDigits" "state" "LTurnDigits$State;", .fieldLink RX4 68 "TurnDigits$State" "wears" "[I", .methodLink RX4 40 yX4_requireDigit, .static yX4_requireDigit, .initialized RX4, .code yX4_requireDigit cX4_requireDigit 1 none, .classLink RX4 275 "java/lang/IndexOutOfBoundsException", .initialized "java/lang/IndexOutOfBoundsException", .methodLink RX4 62 yX4_requireSegment, .static yX4_requireSegment, .code yX4_requireSegment cX4_requireSegment 1 none, .methodLink RX4 71 yX4_wearPlace, .static yX4_wearPlace, .code yX4_wearPlace cX4_wearPlace 2 (some .int)] ++ wsX40 ++ wsX20 ++ (vx_atS RX4 279 "java/lang/IndexOutOfBoundsException" ["java/lang/RuntimeException", "java/lang/Exception"]).filter goodWord)
def wsX4_slot_r1 : List Cond := [Cond.fieldLink RX4 10 "TurnDigits" "state" "LTurnDigits$State;", Cond.fieldLink RX4 88 "TurnDigits$State" "settings" "[I", Cond.fieldLink RX4 33 "TurnDigits" "frame" "LTurnDigits$Frame;", Cond.fieldLink RX4 154 "TurnDigits$Frame" "lit" "[I", Cond.fieldLink RX4 157 "TurnDigits$Frame" "owners" "[I", Cond.methodLink RX4 44 yX4_requireRange, Cond.static yX4_requireRange, Cond.initialized RX4, Cond.code yX4_requireRange cX4_requireRange 3 none, Cond.classLink RX4 130 "java/lang/IllegalArgumentException", Cond.initialized "java/lang/IllegalArgumentException", Cond.methodLink RX4 148 yX0_foresee, Cond.instanceMethod yX0_foresee, Cond.selects RX0 yX0_foresee yX0_foresee, Cond.initialized RX0, Cond.code yX0_foresee cX0_foresee 2 none, Cond.fieldLink RX0 43 "TurnDigits$State" "levels" "[I", Cond.fieldLink RX0 24 "TurnDigits$Frame" "levels" "[I", Cond.methodLink RX0 46 arraycopyName, Cond.native arraycopyName, Cond.static arraycopyName, Cond.initialized "java/lang/System", Cond.fieldLink RX0 52 "TurnDigits$State" "credits" "[I", Cond.fieldLink RX0 27 "TurnDigits$Frame" "credits" "[I"]
def wsX4_slot_r2 : List Cond := [Cond.methodLink RX0 53 yX0_passSlots, Cond.instanceMethod yX0_passSlots, Cond.selects RX0 yX0_passSlots yX0_passSlots, Cond.code yX0_passSlots cX0_passSlots 5 none, Cond.fieldLink RX0 63 "TurnDigits$State" "settings" "[I", Cond.fieldLink RX0 33 "TurnDigits$Frame" "length" "I", Cond.fieldLink RX0 37 "TurnDigits$Frame" "persistence" "I", Cond.fieldLink RX0 66 "TurnDigits$State" "ambientLight" "I", Cond.fieldLink RX0 40 "TurnDigits$Frame" "neededLight" "I", Cond.fieldLink RX0 18 "TurnDigits$Frame" "gaps" "[I", Cond.fieldLink RX0 21 "TurnDigits$Frame" "litSlots" "[I", Cond.fieldLink RX0 30 "TurnDigits$Frame" "darkRows" "[I", Cond.fieldLink RX0 69 "TurnDigits$State" "ahead" "I", Cond.fieldLink RX0 9 "TurnDigits$Frame" "owners" "[I", Cond.fieldLink RX0 15 "TurnDigits$Frame" "lit" "[I", Cond.methodLink RX0 57 yJ7_fill_53178, Cond.static yJ7_fill_53178, Cond.initialized RJ7, Cond.code yJ7_fill_53178 cJ7_fill_53178 4 none, Cond.static yX4_giveSlot, Cond.code yX4_giveSlot cX4_giveSlot 5 (some .int), Cond.static yX4_litIn, Cond.code yX4_litIn cX4_litIn 3 (some .int), Cond.methodLink RX0 80 yX0_noteSlot]
def wsX4_slot_r3 : List Cond := [Cond.instanceMethod yX0_noteSlot, Cond.selects RX0 yX0_noteSlot yX0_noteSlot, Cond.code yX0_noteSlot cX0_noteSlot 3 none, Cond.methodLink RX0 84 Lib.Math.max.name, Cond.static Lib.Math.max.name, Cond.initialized "java/lang/Math", Cond.code Lib.Math.max.name Lib.Math.max.code 2 (some .int)]
def wsX4_slot : List Cond := .code yX4_slot cX4_slot 3 (some .int) :: ((wsX4_slot_r1 ++ (wsX4_slot_r2 ++ wsX4_slot_r3)) ++ wsX40 ++ wsX20 ++ wsX00 ++ (vx_atS RX4 134 "java/lang/IllegalArgumentException" ["java/lang/RuntimeException", "java/lang/Exception"]).filter goodWord)
def wsX4_clearDigits_r1 : List Cond := [Cond.methodLink RX4 226 yX4_isClear, Cond.instanceMethod yX4_isClear, Cond.selects RX4 yX4_isClear yX4_isClear, Cond.initialized RX4, Cond.code yX4_isClear cX4_isClear 2 (some .boolean), Cond.fieldLink RX4 33 "TurnDigits" "frame" "LTurnDigits$Frame;", Cond.fieldLink RX4 10 "TurnDigits" "state" "LTurnDigits$State;", Cond.methodLink RX4 223 yX0_isSeen, Cond.instanceMethod yX0_isSeen, Cond.selects RX0 yX0_isSeen yX0_isSeen, Cond.initialized RX0, Cond.code yX0_isSeen cX0_isSeen 3 (some .boolean), Cond.fieldLink RX0 40 "TurnDigits$Frame" "neededLight" "I", Cond.methodLink RX0 90 yX0_lightOf, Cond.instanceMethod yX0_lightOf, Cond.selects RX0 yX0_lightOf yX0_lightOf, Cond.code yX0_lightOf cX0_lightOf 2 (some .int), Cond.fieldLink RX0 33 "TurnDigits$Frame" "length" "I", Cond.fieldLink RX0 21 "TurnDigits$Frame" "litSlots" "[I", Cond.methodLink RX0 94 yX0_flickers, Cond.instanceMethod yX0_flickers, Cond.selects RX0 yX0_flickers yX0_flickers, Cond.code yX0_flickers cX0_flickers 2 (some .boolean), Cond.fieldLink RX0 18 "TurnDigits$Frame" "gaps" "[I"]
def wsX4_clearDigits_r2 : List Cond := [Cond.fieldLink RX0 37 "TurnDigits$Frame" "persistence" "I", Cond.methodLink RX4 229 yX2_readableSigns, Cond.instanceMethod yX2_readableSigns, Cond.selects RX2 yX2_readableSigns yX2_readableSigns, Cond.initialized RX2, Cond.code yX2_readableSigns cX2_readableSigns 5 (some .int), Cond.fieldLink RX2 18 "TurnDigits$State" "burnt" "[I", Cond.methodLink RX2 76 yX2_shownSegments, Cond.instanceMethod yX2_shownSegments, Cond.selects RX2 yX2_shownSegments yX2_shownSegments, Cond.code yX2_shownSegments cX2_shownSegments 2 (some .int), Cond.fieldLink RX2 9 "TurnDigits$State" "signs" "[I", Cond.methodLink RX4 259 yJ6_bitCount_0f7a4, Cond.static yJ6_bitCount_0f7a4, Cond.initialized RJ6, Cond.code yJ6_bitCount_0f7a4 cJ6_bitCount_0f7a4 1 (some .int), Cond.constant RJ6 265 (1431655765), Cond.constant RJ6 266 (858993459), Cond.constant RJ6 267 (252645135)]
def wsX4_clearDigits : List Cond := .code yX4_clearDigits cX4_clearDigits 3 (some .int) :: ((wsX4_clearDigits_r1 ++ wsX4_clearDigits_r2) ++ wsX40 ++ wsX00 ++ wsX20)
def wsX4_total_r1 : List Cond := [Cond.fieldLink RX4 10 "TurnDigits" "state" "LTurnDigits$State;", Cond.fieldLink RX4 99 "TurnDigits$State" "time" "I", Cond.fieldLink RX4 33 "TurnDigits" "frame" "LTurnDigits$Frame;", Cond.fieldLink RX4 75 "TurnDigits$State" "ambientLight" "I", Cond.fieldLink RX4 256 "TurnDigits$State" "ahead" "I", Cond.fieldLink RX4 19 "TurnDigits" "history" "LTurnDigits$History;", Cond.fieldLink RX4 140 "TurnDigits$History" "size" "I", Cond.methodLink RX4 235 yX2_levelSum, Cond.instanceMethod yX2_levelSum, Cond.selects RX2 yX2_levelSum yX2_levelSum, Cond.initialized RX2, Cond.code yX2_levelSum cX2_levelSum 3 (some .int), Cond.fieldLink RX2 15 "TurnDigits$State" "levels" "[I", Cond.methodLink RX4 238 yX0_darkSlots, Cond.instanceMethod yX0_darkSlots, Cond.selects RX0 yX0_darkSlots yX0_darkSlots, Cond.initialized RX0, Cond.code yX0_darkSlots cX0_darkSlots 3 (some .int), Cond.fieldLink RX0 33 "TurnDigits$Frame" "length" "I", Cond.fieldLink RX0 15 "TurnDigits$Frame" "lit" "[I", Cond.methodLink RX4 241 yX0_changes, Cond.instanceMethod yX0_changes, Cond.selects RX0 yX0_changes yX0_changes, Cond.code yX0_changes cX0_changes 3 (some .int)]
def wsX4_total_r2 : List Cond := [Cond.fieldLink RX0 9 "TurnDigits$Frame" "owners" "[I", Cond.methodLink RX4 244 yX0_flickering, Cond.instanceMethod yX0_flickering, Cond.selects RX0 yX0_flickering yX0_flickering, Cond.code yX0_flickering cX0_flickering 3 (some .int), Cond.methodLink RX0 94 yX0_flickers, Cond.instanceMethod yX0_flickers, Cond.selects RX0 yX0_flickers yX0_flickers, Cond.code yX0_flickers cX0_flickers 2 (some .boolean), Cond.fieldLink RX0 21 "TurnDigits$Frame" "litSlots" "[I", Cond.fieldLink RX0 18 "TurnDigits$Frame" "gaps" "[I", Cond.fieldLink RX0 37 "TurnDigits$Frame" "persistence" "I", Cond.methodLink RX4 247 yX0_seen, Cond.instanceMethod yX0_seen, Cond.selects RX0 yX0_seen yX0_seen, Cond.code yX0_seen cX0_seen 3 (some .int), Cond.methodLink RX0 98 yX0_isSeen, Cond.instanceMethod yX0_isSeen, Cond.selects RX0 yX0_isSeen yX0_isSeen, Cond.code yX0_isSeen cX0_isSeen 3 (some .boolean), Cond.fieldLink RX0 40 "TurnDigits$Frame" "neededLight" "I", Cond.methodLink RX0 90 yX0_lightOf, Cond.instanceMethod yX0_lightOf, Cond.selects RX0 yX0_lightOf yX0_lightOf]
def wsX4_total_r3 : List Cond := [Cond.code yX0_lightOf cX0_lightOf 2 (some .int), Cond.methodLink RX4 250 yX4_clearDigits, Cond.instanceMethod yX4_clearDigits, Cond.selects RX4 yX4_clearDigits yX4_clearDigits, Cond.initialized RX4, Cond.code yX4_clearDigits cX4_clearDigits 3 (some .int), Cond.methodLink RX4 226 yX4_isClear, Cond.instanceMethod yX4_isClear, Cond.selects RX4 yX4_isClear yX4_isClear, Cond.code yX4_isClear cX4_isClear 2 (some .boolean), Cond.methodLink RX4 223 yX0_isSeen, Cond.methodLink RX4 229 yX2_readableSigns, Cond.instanceMethod yX2_readableSigns, Cond.selects RX2 yX2_readableSigns yX2_readableSigns, Cond.code yX2_readableSigns cX2_readableSigns 5 (some .int), Cond.fieldLink RX2 18 "TurnDigits$State" "burnt" "[I", Cond.methodLink RX2 76 yX2_shownSegments, Cond.instanceMethod yX2_shownSegments, Cond.selects RX2 yX2_shownSegments yX2_shownSegments, Cond.code yX2_shownSegments cX2_shownSegments 2 (some .int), Cond.fieldLink RX2 9 "TurnDigits$State" "signs" "[I", Cond.methodLink RX4 259 yJ6_bitCount_0f7a4, Cond.static yJ6_bitCount_0f7a4, Cond.initialized RJ6]
def wsX4_total_r4 : List Cond := [Cond.code yJ6_bitCount_0f7a4 cJ6_bitCount_0f7a4 1 (some .int), Cond.constant RJ6 265 (1431655765), Cond.constant RJ6 266 (858993459), Cond.constant RJ6 267 (252645135), Cond.methodLink RX4 253 yX2_burntSegments, Cond.instanceMethod yX2_burntSegments, Cond.selects RX2 yX2_burntSegments yX2_burntSegments, Cond.code yX2_burntSegments cX2_burntSegments 3 (some .int), Cond.methodLink RX2 86 yJ6_bitCount_0f7a4]
def wsX4_total : List Cond := .code yX4_total cX4_total 2 (some .int) :: ((wsX4_total_r1 ++ (wsX4_total_r2 ++ (wsX4_total_r3 ++ wsX4_total_r4))) ++ wsX40 ++ wsX20 ++ wsX10 ++ wsX00)
def wsX4_count_r1 : List Cond := [Cond.fieldLink RX4 33 "TurnDigits" "frame" "LTurnDigits$Frame;", Cond.fieldLink RX4 10 "TurnDigits" "state" "LTurnDigits$State;", Cond.methodLink RX4 44 yX4_requireRange, Cond.static yX4_requireRange, Cond.initialized RX4, Cond.code yX4_requireRange cX4_requireRange 3 none, Cond.classLink RX4 130 "java/lang/IllegalArgumentException", Cond.initialized "java/lang/IllegalArgumentException", Cond.methodLink RX4 148 yX0_foresee, Cond.instanceMethod yX0_foresee, Cond.selects RX0 yX0_foresee yX0_foresee, Cond.initialized RX0, Cond.code yX0_foresee cX0_foresee 2 none, Cond.fieldLink RX0 43 "TurnDigits$State" "levels" "[I", Cond.fieldLink RX0 24 "TurnDigits$Frame" "levels" "[I", Cond.methodLink RX0 46 arraycopyName, Cond.native arraycopyName, Cond.static arraycopyName, Cond.initialized "java/lang/System", Cond.fieldLink RX0 52 "TurnDigits$State" "credits" "[I", Cond.fieldLink RX0 27 "TurnDigits$Frame" "credits" "[I", Cond.methodLink RX0 53 yX0_passSlots, Cond.instanceMethod yX0_passSlots, Cond.selects RX0 yX0_passSlots yX0_passSlots]
def wsX4_count_r2 : List Cond := [Cond.code yX0_passSlots cX0_passSlots 5 none, Cond.fieldLink RX0 63 "TurnDigits$State" "settings" "[I", Cond.fieldLink RX0 33 "TurnDigits$Frame" "length" "I", Cond.fieldLink RX0 37 "TurnDigits$Frame" "persistence" "I", Cond.fieldLink RX0 66 "TurnDigits$State" "ambientLight" "I", Cond.fieldLink RX0 40 "TurnDigits$Frame" "neededLight" "I", Cond.fieldLink RX0 18 "TurnDigits$Frame" "gaps" "[I", Cond.fieldLink RX0 21 "TurnDigits$Frame" "litSlots" "[I", Cond.fieldLink RX0 30 "TurnDigits$Frame" "darkRows" "[I", Cond.fieldLink RX0 69 "TurnDigits$State" "ahead" "I", Cond.fieldLink RX0 9 "TurnDigits$Frame" "owners" "[I", Cond.fieldLink RX0 15 "TurnDigits$Frame" "lit" "[I", Cond.methodLink RX0 57 yJ7_fill_53178, Cond.static yJ7_fill_53178, Cond.initialized RJ7, Cond.code yJ7_fill_53178 cJ7_fill_53178 4 none, Cond.static yX4_giveSlot, Cond.code yX4_giveSlot cX4_giveSlot 5 (some .int), Cond.static yX4_litIn, Cond.code yX4_litIn cX4_litIn 3 (some .int), Cond.methodLink RX0 80 yX0_noteSlot, Cond.instanceMethod yX0_noteSlot, Cond.selects RX0 yX0_noteSlot yX0_noteSlot, Cond.code yX0_noteSlot cX0_noteSlot 3 none]
def wsX4_count_r3 : List Cond := [Cond.methodLink RX0 84 Lib.Math.max.name, Cond.static Lib.Math.max.name, Cond.initialized "java/lang/Math", Cond.code Lib.Math.max.name Lib.Math.max.code 2 (some .int), Cond.methodLink RX4 160 yX4_total, Cond.instanceMethod yX4_total, Cond.selects RX4 yX4_total yX4_total, Cond.code yX4_total cX4_total 2 (some .int), Cond.fieldLink RX4 99 "TurnDigits$State" "time" "I", Cond.fieldLink RX4 75 "TurnDigits$State" "ambientLight" "I", Cond.fieldLink RX4 256 "TurnDigits$State" "ahead" "I", Cond.fieldLink RX4 19 "TurnDigits" "history" "LTurnDigits$History;", Cond.fieldLink RX4 140 "TurnDigits$History" "size" "I", Cond.methodLink RX4 235 yX2_levelSum, Cond.instanceMethod yX2_levelSum, Cond.selects RX2 yX2_levelSum yX2_levelSum, Cond.initialized RX2, Cond.code yX2_levelSum cX2_levelSum 3 (some .int), Cond.fieldLink RX2 15 "TurnDigits$State" "levels" "[I", Cond.methodLink RX4 238 yX0_darkSlots, Cond.instanceMethod yX0_darkSlots, Cond.selects RX0 yX0_darkSlots yX0_darkSlots, Cond.code yX0_darkSlots cX0_darkSlots 3 (some .int), Cond.methodLink RX4 241 yX0_changes]
def wsX4_count_r4 : List Cond := [Cond.instanceMethod yX0_changes, Cond.selects RX0 yX0_changes yX0_changes, Cond.code yX0_changes cX0_changes 3 (some .int), Cond.methodLink RX4 244 yX0_flickering, Cond.instanceMethod yX0_flickering, Cond.selects RX0 yX0_flickering yX0_flickering, Cond.code yX0_flickering cX0_flickering 3 (some .int), Cond.methodLink RX0 94 yX0_flickers, Cond.instanceMethod yX0_flickers, Cond.selects RX0 yX0_flickers yX0_flickers, Cond.code yX0_flickers cX0_flickers 2 (some .boolean), Cond.methodLink RX4 247 yX0_seen, Cond.instanceMethod yX0_seen, Cond.selects RX0 yX0_seen yX0_seen, Cond.code yX0_seen cX0_seen 3 (some .int), Cond.methodLink RX0 98 yX0_isSeen, Cond.instanceMethod yX0_isSeen, Cond.selects RX0 yX0_isSeen yX0_isSeen, Cond.code yX0_isSeen cX0_isSeen 3 (some .boolean), Cond.methodLink RX0 90 yX0_lightOf, Cond.instanceMethod yX0_lightOf, Cond.selects RX0 yX0_lightOf yX0_lightOf, Cond.code yX0_lightOf cX0_lightOf 2 (some .int), Cond.methodLink RX4 250 yX4_clearDigits]
def wsX4_count_r5 : List Cond := [Cond.instanceMethod yX4_clearDigits, Cond.selects RX4 yX4_clearDigits yX4_clearDigits, Cond.code yX4_clearDigits cX4_clearDigits 3 (some .int), Cond.methodLink RX4 226 yX4_isClear, Cond.instanceMethod yX4_isClear, Cond.selects RX4 yX4_isClear yX4_isClear, Cond.code yX4_isClear cX4_isClear 2 (some .boolean), Cond.methodLink RX4 223 yX0_isSeen, Cond.methodLink RX4 229 yX2_readableSigns, Cond.instanceMethod yX2_readableSigns, Cond.selects RX2 yX2_readableSigns yX2_readableSigns, Cond.code yX2_readableSigns cX2_readableSigns 5 (some .int), Cond.fieldLink RX2 18 "TurnDigits$State" "burnt" "[I", Cond.methodLink RX2 76 yX2_shownSegments, Cond.instanceMethod yX2_shownSegments, Cond.selects RX2 yX2_shownSegments yX2_shownSegments, Cond.code yX2_shownSegments cX2_shownSegments 2 (some .int), Cond.fieldLink RX2 9 "TurnDigits$State" "signs" "[I", Cond.methodLink RX4 259 yJ6_bitCount_0f7a4, Cond.static yJ6_bitCount_0f7a4, Cond.initialized RJ6, Cond.code yJ6_bitCount_0f7a4 cJ6_bitCount_0f7a4 1 (some .int), Cond.constant RJ6 265 (1431655765), Cond.constant RJ6 266 (858993459)]
def wsX4_count_r6 : List Cond := [Cond.constant RJ6 267 (252645135), Cond.methodLink RX4 253 yX2_burntSegments, Cond.instanceMethod yX2_burntSegments, Cond.selects RX2 yX2_burntSegments yX2_burntSegments, Cond.code yX2_burntSegments cX2_burntSegments 3 (some .int), Cond.methodLink RX2 86 yJ6_bitCount_0f7a4]
def wsX4_count : List Cond := .code yX4_count cX4_count 2 (some .int) :: ((wsX4_count_r1 ++ (wsX4_count_r2 ++ (wsX4_count_r3 ++ (wsX4_count_r4 ++ (wsX4_count_r5 ++ wsX4_count_r6))))) ++ wsX40 ++ wsX20 ++ wsX00 ++ wsX10 ++ (vx_atS RX4 134 "java/lang/IllegalArgumentException" ["java/lang/RuntimeException", "java/lang/Exception"]).filter goodWord)
def wsX4_setting : List Cond := .code yX4_setting cX4_setting 2 (some .int) :: ([.fieldLink RX4 10 "TurnDigits" "state" "LTurnDigits$State;", .fieldLink RX4 88 "TurnDigits$State" "settings" "[I", .methodLink RX4 79 yX4_requireSetting, .static yX4_requireSetting, .initialized RX4, .code yX4_requireSetting cX4_requireSetting 1 none, .classLink RX4 275 "java/lang/IndexOutOfBoundsException", .initialized "java/lang/IndexOutOfBoundsException"] ++ wsX40 ++ wsX20 ++ (vx_atS RX4 279 "java/lang/IndexOutOfBoundsException" ["java/lang/RuntimeException", "java/lang/Exception"]).filter goodWord)
def wsX4_trialNumber_r1 : List Cond := [Cond.fieldLink RX4 37 "TurnDigits" "trial" "LTurnDigits$Frame;", Cond.methodLink RX4 214 yX0_lightOf, Cond.instanceMethod yX0_lightOf, Cond.selects RX0 yX0_lightOf yX0_lightOf, Cond.initialized RX0, Cond.code yX0_lightOf cX0_lightOf 2 (some .int), Cond.fieldLink RX0 33 "TurnDigits$Frame" "length" "I", Cond.fieldLink RX0 21 "TurnDigits$Frame" "litSlots" "[I", Cond.methodLink RX4 247 yX0_seen, Cond.instanceMethod yX0_seen, Cond.selects RX0 yX0_seen yX0_seen, Cond.code yX0_seen cX0_seen 3 (some .int), Cond.methodLink RX0 98 yX0_isSeen, Cond.instanceMethod yX0_isSeen, Cond.selects RX0 yX0_isSeen yX0_isSeen, Cond.code yX0_isSeen cX0_isSeen 3 (some .boolean), Cond.fieldLink RX0 40 "TurnDigits$Frame" "neededLight" "I", Cond.methodLink RX0 90 yX0_lightOf, Cond.methodLink RX0 94 yX0_flickers, Cond.instanceMethod yX0_flickers, Cond.selects RX0 yX0_flickers yX0_flickers, Cond.code yX0_flickers cX0_flickers 2 (some .boolean), Cond.fieldLink RX0 18 "TurnDigits$Frame" "gaps" "[I", Cond.fieldLink RX0 37 "TurnDigits$Frame" "persistence" "I"]
def wsX4_trialNumber_r2 : List Cond := [Cond.methodLink RX4 244 yX0_flickering, Cond.instanceMethod yX0_flickering, Cond.selects RX0 yX0_flickering yX0_flickering, Cond.code yX0_flickering cX0_flickering 3 (some .int)]
def wsX4_trialNumber : List Cond := .code yX4_trialNumber cX4_trialNumber 3 (some .int) :: ((wsX4_trialNumber_r1 ++ wsX4_trialNumber_r2) ++ wsX40 ++ wsX00)
def wsX4_ifLevel_r1 : List Cond := [Cond.fieldLink RX4 37 "TurnDigits" "trial" "LTurnDigits$Frame;", Cond.fieldLink RX4 10 "TurnDigits" "state" "LTurnDigits$State;", Cond.methodLink RX4 40 yX4_requireDigit, Cond.static yX4_requireDigit, Cond.initialized RX4, Cond.code yX4_requireDigit cX4_requireDigit 1 none, Cond.classLink RX4 275 "java/lang/IndexOutOfBoundsException", Cond.initialized "java/lang/IndexOutOfBoundsException", Cond.methodLink RX4 44 yX4_requireRange, Cond.static yX4_requireRange, Cond.code yX4_requireRange cX4_requireRange 3 none, Cond.classLink RX4 130 "java/lang/IllegalArgumentException", Cond.initialized "java/lang/IllegalArgumentException", Cond.methodLink RX4 163 yX0_foreseeLevel, Cond.instanceMethod yX0_foreseeLevel, Cond.selects RX0 yX0_foreseeLevel yX0_foreseeLevel, Cond.initialized RX0, Cond.code yX0_foreseeLevel cX0_foreseeLevel 4 none, Cond.fieldLink RX0 43 "TurnDigits$State" "levels" "[I", Cond.fieldLink RX0 24 "TurnDigits$Frame" "levels" "[I", Cond.methodLink RX0 46 arraycopyName, Cond.native arraycopyName, Cond.static arraycopyName, Cond.initialized "java/lang/System"]
def wsX4_ifLevel_r2 : List Cond := [Cond.fieldLink RX0 27 "TurnDigits$Frame" "credits" "[I", Cond.methodLink RX0 57 yJ7_fill_53178, Cond.static yJ7_fill_53178, Cond.initialized RJ7, Cond.code yJ7_fill_53178 cJ7_fill_53178 4 none, Cond.methodLink RX0 53 yX0_passSlots, Cond.instanceMethod yX0_passSlots, Cond.selects RX0 yX0_passSlots yX0_passSlots, Cond.code yX0_passSlots cX0_passSlots 5 none, Cond.fieldLink RX0 63 "TurnDigits$State" "settings" "[I", Cond.fieldLink RX0 33 "TurnDigits$Frame" "length" "I", Cond.fieldLink RX0 37 "TurnDigits$Frame" "persistence" "I", Cond.fieldLink RX0 66 "TurnDigits$State" "ambientLight" "I", Cond.fieldLink RX0 40 "TurnDigits$Frame" "neededLight" "I", Cond.fieldLink RX0 18 "TurnDigits$Frame" "gaps" "[I", Cond.fieldLink RX0 21 "TurnDigits$Frame" "litSlots" "[I", Cond.fieldLink RX0 30 "TurnDigits$Frame" "darkRows" "[I", Cond.fieldLink RX0 69 "TurnDigits$State" "ahead" "I", Cond.fieldLink RX0 9 "TurnDigits$Frame" "owners" "[I", Cond.fieldLink RX0 15 "TurnDigits$Frame" "lit" "[I", Cond.static yX4_giveSlot, Cond.code yX4_giveSlot cX4_giveSlot 5 (some .int), Cond.static yX4_litIn, Cond.code yX4_litIn cX4_litIn 3 (some .int)]
def wsX4_ifLevel_r3 : List Cond := [Cond.methodLink RX0 80 yX0_noteSlot, Cond.instanceMethod yX0_noteSlot, Cond.selects RX0 yX0_noteSlot yX0_noteSlot, Cond.code yX0_noteSlot cX0_noteSlot 3 none, Cond.methodLink RX0 84 Lib.Math.max.name, Cond.static Lib.Math.max.name, Cond.initialized "java/lang/Math", Cond.code Lib.Math.max.name Lib.Math.max.code 2 (some .int), Cond.methodLink RX4 167 yX4_trialNumber, Cond.instanceMethod yX4_trialNumber, Cond.selects RX4 yX4_trialNumber yX4_trialNumber, Cond.code yX4_trialNumber cX4_trialNumber 3 (some .int), Cond.methodLink RX4 214 yX0_lightOf, Cond.instanceMethod yX0_lightOf, Cond.selects RX0 yX0_lightOf yX0_lightOf, Cond.code yX0_lightOf cX0_lightOf 2 (some .int), Cond.methodLink RX4 247 yX0_seen, Cond.instanceMethod yX0_seen, Cond.selects RX0 yX0_seen yX0_seen, Cond.code yX0_seen cX0_seen 3 (some .int), Cond.methodLink RX0 98 yX0_isSeen, Cond.instanceMethod yX0_isSeen, Cond.selects RX0 yX0_isSeen yX0_isSeen, Cond.code yX0_isSeen cX0_isSeen 3 (some .boolean)]
def wsX4_ifLevel_r4 : List Cond := [Cond.methodLink RX0 90 yX0_lightOf, Cond.methodLink RX0 94 yX0_flickers, Cond.instanceMethod yX0_flickers, Cond.selects RX0 yX0_flickers yX0_flickers, Cond.code yX0_flickers cX0_flickers 2 (some .boolean), Cond.methodLink RX4 244 yX0_flickering, Cond.instanceMethod yX0_flickering, Cond.selects RX0 yX0_flickering yX0_flickering, Cond.code yX0_flickering cX0_flickering 3 (some .int)]
def wsX4_ifLevel : List Cond := .code yX4_ifLevel cX4_ifLevel 4 (some .int) :: ((wsX4_ifLevel_r1 ++ (wsX4_ifLevel_r2 ++ (wsX4_ifLevel_r3 ++ wsX4_ifLevel_r4))) ++ wsX40 ++ wsX20 ++ wsX00 ++ (vx_atS RX4 279 "java/lang/IndexOutOfBoundsException" ["java/lang/RuntimeException", "java/lang/Exception"]).filter goodWord ++ (vx_atS RX4 134 "java/lang/IllegalArgumentException" ["java/lang/RuntimeException", "java/lang/Exception"]).filter goodWord)
def wsX4_leastSeenLevel_r1 : List Cond := [Cond.fieldLink RX4 37 "TurnDigits" "trial" "LTurnDigits$Frame;", Cond.fieldLink RX4 10 "TurnDigits" "state" "LTurnDigits$State;", Cond.methodLink RX4 163 yX0_foreseeLevel, Cond.instanceMethod yX0_foreseeLevel, Cond.selects RX0 yX0_foreseeLevel yX0_foreseeLevel, Cond.initialized RX0, Cond.code yX0_foreseeLevel cX0_foreseeLevel 4 none, Cond.fieldLink RX0 43 "TurnDigits$State" "levels" "[I", Cond.fieldLink RX0 24 "TurnDigits$Frame" "levels" "[I", Cond.methodLink RX0 46 arraycopyName, Cond.native arraycopyName, Cond.static arraycopyName, Cond.initialized "java/lang/System", Cond.fieldLink RX0 27 "TurnDigits$Frame" "credits" "[I", Cond.methodLink RX0 57 yJ7_fill_53178, Cond.static yJ7_fill_53178, Cond.initialized RJ7, Cond.code yJ7_fill_53178 cJ7_fill_53178 4 none, Cond.methodLink RX0 53 yX0_passSlots, Cond.instanceMethod yX0_passSlots, Cond.selects RX0 yX0_passSlots yX0_passSlots, Cond.code yX0_passSlots cX0_passSlots 5 none, Cond.fieldLink RX0 63 "TurnDigits$State" "settings" "[I", Cond.fieldLink RX0 33 "TurnDigits$Frame" "length" "I"]
def wsX4_leastSeenLevel_r2 : List Cond := [Cond.fieldLink RX0 37 "TurnDigits$Frame" "persistence" "I", Cond.fieldLink RX0 66 "TurnDigits$State" "ambientLight" "I", Cond.fieldLink RX0 40 "TurnDigits$Frame" "neededLight" "I", Cond.fieldLink RX0 18 "TurnDigits$Frame" "gaps" "[I", Cond.fieldLink RX0 21 "TurnDigits$Frame" "litSlots" "[I", Cond.fieldLink RX0 30 "TurnDigits$Frame" "darkRows" "[I", Cond.fieldLink RX0 69 "TurnDigits$State" "ahead" "I", Cond.fieldLink RX0 9 "TurnDigits$Frame" "owners" "[I", Cond.fieldLink RX0 15 "TurnDigits$Frame" "lit" "[I", Cond.static yX4_giveSlot, Cond.initialized RX4, Cond.code yX4_giveSlot cX4_giveSlot 5 (some .int), Cond.static yX4_litIn, Cond.code yX4_litIn cX4_litIn 3 (some .int), Cond.methodLink RX0 80 yX0_noteSlot, Cond.instanceMethod yX0_noteSlot, Cond.selects RX0 yX0_noteSlot yX0_noteSlot, Cond.code yX0_noteSlot cX0_noteSlot 3 none, Cond.methodLink RX0 84 Lib.Math.max.name, Cond.static Lib.Math.max.name, Cond.initialized "java/lang/Math", Cond.code Lib.Math.max.name Lib.Math.max.code 2 (some .int), Cond.methodLink RX4 223 yX0_isSeen, Cond.instanceMethod yX0_isSeen]
def wsX4_leastSeenLevel_r3 : List Cond := [Cond.selects RX0 yX0_isSeen yX0_isSeen, Cond.code yX0_isSeen cX0_isSeen 3 (some .boolean), Cond.methodLink RX0 90 yX0_lightOf, Cond.instanceMethod yX0_lightOf, Cond.selects RX0 yX0_lightOf yX0_lightOf, Cond.code yX0_lightOf cX0_lightOf 2 (some .int), Cond.methodLink RX0 94 yX0_flickers, Cond.instanceMethod yX0_flickers, Cond.selects RX0 yX0_flickers yX0_flickers, Cond.code yX0_flickers cX0_flickers 2 (some .boolean)]
def wsX4_leastSeenLevel : List Cond := .code yX4_leastSeenLevel cX4_leastSeenLevel 3 (some .int) :: ((wsX4_leastSeenLevel_r1 ++ (wsX4_leastSeenLevel_r2 ++ wsX4_leastSeenLevel_r3)) ++ wsX40 ++ wsX20 ++ wsX00)
def wsX4_leastLevel_r1 : List Cond := [Cond.methodLink RX4 40 yX4_requireDigit, Cond.static yX4_requireDigit, Cond.initialized RX4, Cond.code yX4_requireDigit cX4_requireDigit 1 none, Cond.classLink RX4 275 "java/lang/IndexOutOfBoundsException", Cond.initialized "java/lang/IndexOutOfBoundsException", Cond.methodLink RX4 170 yX4_leastSeenLevel, Cond.instanceMethod yX4_leastSeenLevel, Cond.selects RX4 yX4_leastSeenLevel yX4_leastSeenLevel, Cond.code yX4_leastSeenLevel cX4_leastSeenLevel 3 (some .int), Cond.fieldLink RX4 37 "TurnDigits" "trial" "LTurnDigits$Frame;", Cond.fieldLink RX4 10 "TurnDigits" "state" "LTurnDigits$State;", Cond.methodLink RX4 163 yX0_foreseeLevel, Cond.instanceMethod yX0_foreseeLevel, Cond.selects RX0 yX0_foreseeLevel yX0_foreseeLevel, Cond.initialized RX0, Cond.code yX0_foreseeLevel cX0_foreseeLevel 4 none, Cond.fieldLink RX0 43 "TurnDigits$State" "levels" "[I", Cond.fieldLink RX0 24 "TurnDigits$Frame" "levels" "[I", Cond.methodLink RX0 46 arraycopyName, Cond.native arraycopyName, Cond.static arraycopyName, Cond.initialized "java/lang/System", Cond.fieldLink RX0 27 "TurnDigits$Frame" "credits" "[I"]
def wsX4_leastLevel_r2 : List Cond := [Cond.methodLink RX0 57 yJ7_fill_53178, Cond.static yJ7_fill_53178, Cond.initialized RJ7, Cond.code yJ7_fill_53178 cJ7_fill_53178 4 none, Cond.methodLink RX0 53 yX0_passSlots, Cond.instanceMethod yX0_passSlots, Cond.selects RX0 yX0_passSlots yX0_passSlots, Cond.code yX0_passSlots cX0_passSlots 5 none, Cond.fieldLink RX0 63 "TurnDigits$State" "settings" "[I", Cond.fieldLink RX0 33 "TurnDigits$Frame" "length" "I", Cond.fieldLink RX0 37 "TurnDigits$Frame" "persistence" "I", Cond.fieldLink RX0 66 "TurnDigits$State" "ambientLight" "I", Cond.fieldLink RX0 40 "TurnDigits$Frame" "neededLight" "I", Cond.fieldLink RX0 18 "TurnDigits$Frame" "gaps" "[I", Cond.fieldLink RX0 21 "TurnDigits$Frame" "litSlots" "[I", Cond.fieldLink RX0 30 "TurnDigits$Frame" "darkRows" "[I", Cond.fieldLink RX0 69 "TurnDigits$State" "ahead" "I", Cond.fieldLink RX0 9 "TurnDigits$Frame" "owners" "[I", Cond.fieldLink RX0 15 "TurnDigits$Frame" "lit" "[I", Cond.static yX4_giveSlot, Cond.code yX4_giveSlot cX4_giveSlot 5 (some .int), Cond.static yX4_litIn, Cond.code yX4_litIn cX4_litIn 3 (some .int), Cond.methodLink RX0 80 yX0_noteSlot]
def wsX4_leastLevel_r3 : List Cond := [Cond.instanceMethod yX0_noteSlot, Cond.selects RX0 yX0_noteSlot yX0_noteSlot, Cond.code yX0_noteSlot cX0_noteSlot 3 none, Cond.methodLink RX0 84 Lib.Math.max.name, Cond.static Lib.Math.max.name, Cond.initialized "java/lang/Math", Cond.code Lib.Math.max.name Lib.Math.max.code 2 (some .int), Cond.methodLink RX4 223 yX0_isSeen, Cond.instanceMethod yX0_isSeen, Cond.selects RX0 yX0_isSeen yX0_isSeen, Cond.code yX0_isSeen cX0_isSeen 3 (some .boolean), Cond.methodLink RX0 90 yX0_lightOf, Cond.instanceMethod yX0_lightOf, Cond.selects RX0 yX0_lightOf yX0_lightOf, Cond.code yX0_lightOf cX0_lightOf 2 (some .int), Cond.methodLink RX0 94 yX0_flickers, Cond.instanceMethod yX0_flickers, Cond.selects RX0 yX0_flickers yX0_flickers, Cond.code yX0_flickers cX0_flickers 2 (some .boolean)]
def wsX4_leastLevel : List Cond := .code yX4_leastLevel cX4_leastLevel 2 (some .int) :: ((wsX4_leastLevel_r1 ++ (wsX4_leastLevel_r2 ++ wsX4_leastLevel_r3)) ++ wsX40 ++ wsX20 ++ wsX00 ++ (vx_atS RX4 279 "java/lang/IndexOutOfBoundsException" ["java/lang/RuntimeException", "java/lang/Exception"]).filter goodWord)
def wsX4_alikePairs : List Cond := .code yX4_alikePairs cX4_alikePairs 6 (some .int) :: ([.fieldLink RX4 10 "TurnDigits" "state" "LTurnDigits$State;", .fieldLink RX4 65 "TurnDigits$State" "burnt" "[I", .fieldLink RX4 272 "TurnDigits" "MASKS" "[I"] ++ wsX40 ++ wsX20)
def wsX4_alikeSigns : List Cond := .code yX4_alikeSigns cX4_alikeSigns 2 (some .int) :: ([.methodLink RX4 40 yX4_requireDigit, .static yX4_requireDigit, .initialized RX4, .code yX4_requireDigit cX4_requireDigit 1 none, .classLink RX4 275 "java/lang/IndexOutOfBoundsException", .initialized "java/lang/IndexOutOfBoundsException", .methodLink RX4 173 yX4_alikePairs, .instanceMethod yX4_alikePairs, .selects RX4 yX4_alikePairs yX4_alikePairs, .code yX4_alikePairs cX4_alikePairs 6 (some .int), .fieldLink RX4 10 "TurnDigits" "state" "LTurnDigits$State;", .fieldLink RX4 65 "TurnDigits$State" "burnt" "[I", .fieldLink RX4 272 "TurnDigits" "MASKS" "[I"] ++ wsX40 ++ wsX20 ++ (vx_atS RX4 279 "java/lang/IndexOutOfBoundsException" ["java/lang/RuntimeException", "java/lang/Exception"]).filter goodWord)
def wsX4_clearNumber_r1 : List Cond := [Cond.fieldLink RX4 10 "TurnDigits" "state" "LTurnDigits$State;", Cond.fieldLink RX4 52 "TurnDigits$State" "signs" "[I", Cond.methodLink RX4 226 yX4_isClear, Cond.instanceMethod yX4_isClear, Cond.selects RX4 yX4_isClear yX4_isClear, Cond.initialized RX4, Cond.code yX4_isClear cX4_isClear 2 (some .boolean), Cond.fieldLink RX4 33 "TurnDigits" "frame" "LTurnDigits$Frame;", Cond.methodLink RX4 223 yX0_isSeen, Cond.instanceMethod yX0_isSeen, Cond.selects RX0 yX0_isSeen yX0_isSeen, Cond.initialized RX0, Cond.code yX0_isSeen cX0_isSeen 3 (some .boolean), Cond.fieldLink RX0 40 "TurnDigits$Frame" "neededLight" "I", Cond.methodLink RX0 90 yX0_lightOf, Cond.instanceMethod yX0_lightOf, Cond.selects RX0 yX0_lightOf yX0_lightOf, Cond.code yX0_lightOf cX0_lightOf 2 (some .int), Cond.fieldLink RX0 33 "TurnDigits$Frame" "length" "I", Cond.fieldLink RX0 21 "TurnDigits$Frame" "litSlots" "[I", Cond.methodLink RX0 94 yX0_flickers, Cond.instanceMethod yX0_flickers, Cond.selects RX0 yX0_flickers yX0_flickers, Cond.code yX0_flickers cX0_flickers 2 (some .boolean)]
def wsX4_clearNumber_r2 : List Cond := [Cond.fieldLink RX0 18 "TurnDigits$Frame" "gaps" "[I", Cond.fieldLink RX0 37 "TurnDigits$Frame" "persistence" "I", Cond.methodLink RX4 229 yX2_readableSigns, Cond.instanceMethod yX2_readableSigns, Cond.selects RX2 yX2_readableSigns yX2_readableSigns, Cond.initialized RX2, Cond.code yX2_readableSigns cX2_readableSigns 5 (some .int), Cond.fieldLink RX2 18 "TurnDigits$State" "burnt" "[I", Cond.methodLink RX2 76 yX2_shownSegments, Cond.instanceMethod yX2_shownSegments, Cond.selects RX2 yX2_shownSegments yX2_shownSegments, Cond.code yX2_shownSegments cX2_shownSegments 2 (some .int), Cond.fieldLink RX2 9 "TurnDigits$State" "signs" "[I", Cond.methodLink RX4 259 yJ6_bitCount_0f7a4, Cond.static yJ6_bitCount_0f7a4, Cond.initialized RJ6, Cond.code yJ6_bitCount_0f7a4 cJ6_bitCount_0f7a4 1 (some .int), Cond.constant RJ6 265 (1431655765), Cond.constant RJ6 266 (858993459), Cond.constant RJ6 267 (252645135)]
def wsX4_clearNumber : List Cond := .code yX4_clearNumber cX4_clearNumber 6 (some .int) :: ((wsX4_clearNumber_r1 ++ wsX4_clearNumber_r2) ++ wsX40 ++ wsX20 ++ wsX00)
def wsX4_numberShown_r1 : List Cond := [Cond.fieldLink RX4 33 "TurnDigits" "frame" "LTurnDigits$Frame;", Cond.fieldLink RX4 10 "TurnDigits" "state" "LTurnDigits$State;", Cond.methodLink RX4 148 yX0_foresee, Cond.instanceMethod yX0_foresee, Cond.selects RX0 yX0_foresee yX0_foresee, Cond.initialized RX0, Cond.code yX0_foresee cX0_foresee 2 none, Cond.fieldLink RX0 43 "TurnDigits$State" "levels" "[I", Cond.fieldLink RX0 24 "TurnDigits$Frame" "levels" "[I", Cond.methodLink RX0 46 arraycopyName, Cond.native arraycopyName, Cond.static arraycopyName, Cond.initialized "java/lang/System", Cond.fieldLink RX0 52 "TurnDigits$State" "credits" "[I", Cond.fieldLink RX0 27 "TurnDigits$Frame" "credits" "[I", Cond.methodLink RX0 53 yX0_passSlots, Cond.instanceMethod yX0_passSlots, Cond.selects RX0 yX0_passSlots yX0_passSlots, Cond.code yX0_passSlots cX0_passSlots 5 none, Cond.fieldLink RX0 63 "TurnDigits$State" "settings" "[I", Cond.fieldLink RX0 33 "TurnDigits$Frame" "length" "I", Cond.fieldLink RX0 37 "TurnDigits$Frame" "persistence" "I", Cond.fieldLink RX0 66 "TurnDigits$State" "ambientLight" "I", Cond.fieldLink RX0 40 "TurnDigits$Frame" "neededLight" "I"]
def wsX4_numberShown_r2 : List Cond := [Cond.fieldLink RX0 18 "TurnDigits$Frame" "gaps" "[I", Cond.fieldLink RX0 21 "TurnDigits$Frame" "litSlots" "[I", Cond.fieldLink RX0 30 "TurnDigits$Frame" "darkRows" "[I", Cond.fieldLink RX0 69 "TurnDigits$State" "ahead" "I", Cond.fieldLink RX0 9 "TurnDigits$Frame" "owners" "[I", Cond.fieldLink RX0 15 "TurnDigits$Frame" "lit" "[I", Cond.methodLink RX0 57 yJ7_fill_53178, Cond.static yJ7_fill_53178, Cond.initialized RJ7, Cond.code yJ7_fill_53178 cJ7_fill_53178 4 none, Cond.static yX4_giveSlot, Cond.initialized RX4, Cond.code yX4_giveSlot cX4_giveSlot 5 (some .int), Cond.static yX4_litIn, Cond.code yX4_litIn cX4_litIn 3 (some .int), Cond.methodLink RX0 80 yX0_noteSlot, Cond.instanceMethod yX0_noteSlot, Cond.selects RX0 yX0_noteSlot yX0_noteSlot, Cond.code yX0_noteSlot cX0_noteSlot 3 none, Cond.methodLink RX0 84 Lib.Math.max.name, Cond.static Lib.Math.max.name, Cond.initialized "java/lang/Math", Cond.code Lib.Math.max.name Lib.Math.max.code 2 (some .int), Cond.methodLink RX4 176 yX4_clearNumber]
def wsX4_numberShown_r3 : List Cond := [Cond.instanceMethod yX4_clearNumber, Cond.selects RX4 yX4_clearNumber yX4_clearNumber, Cond.code yX4_clearNumber cX4_clearNumber 6 (some .int), Cond.fieldLink RX4 52 "TurnDigits$State" "signs" "[I", Cond.methodLink RX4 226 yX4_isClear, Cond.instanceMethod yX4_isClear, Cond.selects RX4 yX4_isClear yX4_isClear, Cond.code yX4_isClear cX4_isClear 2 (some .boolean), Cond.methodLink RX4 223 yX0_isSeen, Cond.instanceMethod yX0_isSeen, Cond.selects RX0 yX0_isSeen yX0_isSeen, Cond.code yX0_isSeen cX0_isSeen 3 (some .boolean), Cond.methodLink RX0 90 yX0_lightOf, Cond.instanceMethod yX0_lightOf, Cond.selects RX0 yX0_lightOf yX0_lightOf, Cond.code yX0_lightOf cX0_lightOf 2 (some .int), Cond.methodLink RX0 94 yX0_flickers, Cond.instanceMethod yX0_flickers, Cond.selects RX0 yX0_flickers yX0_flickers, Cond.code yX0_flickers cX0_flickers 2 (some .boolean), Cond.methodLink RX4 229 yX2_readableSigns, Cond.instanceMethod yX2_readableSigns, Cond.selects RX2 yX2_readableSigns yX2_readableSigns, Cond.initialized RX2]
def wsX4_numberShown_r4 : List Cond := [Cond.code yX2_readableSigns cX2_readableSigns 5 (some .int), Cond.fieldLink RX2 18 "TurnDigits$State" "burnt" "[I", Cond.methodLink RX2 76 yX2_shownSegments, Cond.instanceMethod yX2_shownSegments, Cond.selects RX2 yX2_shownSegments yX2_shownSegments, Cond.code yX2_shownSegments cX2_shownSegments 2 (some .int), Cond.fieldLink RX2 9 "TurnDigits$State" "signs" "[I", Cond.methodLink RX4 259 yJ6_bitCount_0f7a4, Cond.static yJ6_bitCount_0f7a4, Cond.initialized RJ6, Cond.code yJ6_bitCount_0f7a4 cJ6_bitCount_0f7a4 1 (some .int), Cond.constant RJ6 265 (1431655765), Cond.constant RJ6 266 (858993459), Cond.constant RJ6 267 (252645135)]
def wsX4_numberShown : List Cond := .code yX4_numberShown cX4_numberShown 1 (some .int) :: ((wsX4_numberShown_r1 ++ (wsX4_numberShown_r2 ++ (wsX4_numberShown_r3 ++ wsX4_numberShown_r4))) ++ wsX40 ++ wsX20 ++ wsX00)
def wsX4_lightShare : List Cond := .code yX4_lightShare cX4_lightShare 5 (some .double) :: ([.fieldLink RX4 10 "TurnDigits" "state" "LTurnDigits$State;", .fieldLink RX4 56 "TurnDigits$State" "levels" "[I", .fieldLink RX4 33 "TurnDigits" "frame" "LTurnDigits$Frame;", .methodLink RX4 264 Lib.Math.min.name, .static Lib.Math.min.name, .initialized "java/lang/Math", .code Lib.Math.min.name Lib.Math.min.code 2 (some .int), .methodLink RX4 269 Lib.Math.max.name, .static Lib.Math.max.name, .code Lib.Math.max.name Lib.Math.max.code 2 (some .int), .methodLink RX4 214 yX0_lightOf, .instanceMethod yX0_lightOf, .selects RX0 yX0_lightOf yX0_lightOf, .initialized RX0, .code yX0_lightOf cX0_lightOf 2 (some .int), .fieldLink RX0 33 "TurnDigits$Frame" "length" "I", .fieldLink RX0 21 "TurnDigits$Frame" "litSlots" "[I"] ++ wsX40 ++ wsX20 ++ wsX00)
def wsX4_evenness_r1 : List Cond := [Cond.fieldLink RX4 33 "TurnDigits" "frame" "LTurnDigits$Frame;", Cond.fieldLink RX4 10 "TurnDigits" "state" "LTurnDigits$State;", Cond.methodLink RX4 148 yX0_foresee, Cond.instanceMethod yX0_foresee, Cond.selects RX0 yX0_foresee yX0_foresee, Cond.initialized RX0, Cond.code yX0_foresee cX0_foresee 2 none, Cond.fieldLink RX0 43 "TurnDigits$State" "levels" "[I", Cond.fieldLink RX0 24 "TurnDigits$Frame" "levels" "[I", Cond.methodLink RX0 46 arraycopyName, Cond.native arraycopyName, Cond.static arraycopyName, Cond.initialized "java/lang/System", Cond.fieldLink RX0 52 "TurnDigits$State" "credits" "[I", Cond.fieldLink RX0 27 "TurnDigits$Frame" "credits" "[I", Cond.methodLink RX0 53 yX0_passSlots, Cond.instanceMethod yX0_passSlots, Cond.selects RX0 yX0_passSlots yX0_passSlots, Cond.code yX0_passSlots cX0_passSlots 5 none, Cond.fieldLink RX0 63 "TurnDigits$State" "settings" "[I", Cond.fieldLink RX0 33 "TurnDigits$Frame" "length" "I", Cond.fieldLink RX0 37 "TurnDigits$Frame" "persistence" "I", Cond.fieldLink RX0 66 "TurnDigits$State" "ambientLight" "I", Cond.fieldLink RX0 40 "TurnDigits$Frame" "neededLight" "I"]
def wsX4_evenness_r2 : List Cond := [Cond.fieldLink RX0 18 "TurnDigits$Frame" "gaps" "[I", Cond.fieldLink RX0 21 "TurnDigits$Frame" "litSlots" "[I", Cond.fieldLink RX0 30 "TurnDigits$Frame" "darkRows" "[I", Cond.fieldLink RX0 69 "TurnDigits$State" "ahead" "I", Cond.fieldLink RX0 9 "TurnDigits$Frame" "owners" "[I", Cond.fieldLink RX0 15 "TurnDigits$Frame" "lit" "[I", Cond.methodLink RX0 57 yJ7_fill_53178, Cond.static yJ7_fill_53178, Cond.initialized RJ7, Cond.code yJ7_fill_53178 cJ7_fill_53178 4 none, Cond.static yX4_giveSlot, Cond.initialized RX4, Cond.code yX4_giveSlot cX4_giveSlot 5 (some .int), Cond.static yX4_litIn, Cond.code yX4_litIn cX4_litIn 3 (some .int), Cond.methodLink RX0 80 yX0_noteSlot, Cond.instanceMethod yX0_noteSlot, Cond.selects RX0 yX0_noteSlot yX0_noteSlot, Cond.code yX0_noteSlot cX0_noteSlot 3 none, Cond.methodLink RX0 84 Lib.Math.max.name, Cond.static Lib.Math.max.name, Cond.initialized "java/lang/Math", Cond.code Lib.Math.max.name Lib.Math.max.code 2 (some .int), Cond.methodLink RX4 179 yX4_lightShare]
def wsX4_evenness_r3 : List Cond := [Cond.instanceMethod yX4_lightShare, Cond.selects RX4 yX4_lightShare yX4_lightShare, Cond.code yX4_lightShare cX4_lightShare 5 (some .double), Cond.fieldLink RX4 56 "TurnDigits$State" "levels" "[I", Cond.methodLink RX4 264 Lib.Math.min.name, Cond.static Lib.Math.min.name, Cond.code Lib.Math.min.name Lib.Math.min.code 2 (some .int), Cond.methodLink RX4 269 Lib.Math.max.name, Cond.methodLink RX4 214 yX0_lightOf, Cond.instanceMethod yX0_lightOf, Cond.selects RX0 yX0_lightOf yX0_lightOf, Cond.code yX0_lightOf cX0_lightOf 2 (some .int)]
def wsX4_evenness : List Cond := .code yX4_evenness cX4_evenness 1 (some .double) :: ((wsX4_evenness_r1 ++ (wsX4_evenness_r2 ++ wsX4_evenness_r3)) ++ wsX40 ++ wsX20 ++ wsX00)
def wsX4_mix : List Cond := .code yX4_mix cX4_mix 4 (some .long) :: ([.constantLong RX4 200 (31)])
def wsX4_mixDigit_r1 : List Cond := [Cond.fieldLink RX4 10 "TurnDigits" "state" "LTurnDigits$State;", Cond.fieldLink RX4 68 "TurnDigits$State" "wears" "[I", Cond.fieldLink RX4 37 "TurnDigits" "trial" "LTurnDigits$Frame;", Cond.methodLink RX4 151 yX4_property, Cond.instanceMethod yX4_property, Cond.selects RX4 yX4_property yX4_property, Cond.initialized RX4, Cond.code yX4_property cX4_property 3 (some .int), Cond.fieldLink RX4 52 "TurnDigits$State" "signs" "[I", Cond.fieldLink RX4 56 "TurnDigits$State" "levels" "[I", Cond.fieldLink RX4 65 "TurnDigits$State" "burnt" "[I", Cond.fieldLink RX4 211 "TurnDigits$State" "credits" "[I", Cond.fieldLink RX4 33 "TurnDigits" "frame" "LTurnDigits$Frame;", Cond.fieldLink RX4 217 "TurnDigits$Frame" "gaps" "[I", Cond.fieldLink RX4 232 "TurnDigits$State" "litSlots" "[I", Cond.methodLink RX4 208 yX2_shownSegments, Cond.instanceMethod yX2_shownSegments, Cond.selects RX2 yX2_shownSegments yX2_shownSegments, Cond.initialized RX2, Cond.code yX2_shownSegments cX2_shownSegments 2 (some .int), Cond.fieldLink RX2 9 "TurnDigits$State" "signs" "[I", Cond.fieldLink RX2 18 "TurnDigits$State" "burnt" "[I", Cond.methodLink RX4 214 yX0_lightOf, Cond.instanceMethod yX0_lightOf]
def wsX4_mixDigit_r2 : List Cond := [Cond.selects RX0 yX0_lightOf yX0_lightOf, Cond.initialized RX0, Cond.code yX0_lightOf cX0_lightOf 2 (some .int), Cond.fieldLink RX0 33 "TurnDigits$Frame" "length" "I", Cond.fieldLink RX0 21 "TurnDigits$Frame" "litSlots" "[I", Cond.methodLink RX4 220 yX0_flickers, Cond.instanceMethod yX0_flickers, Cond.selects RX0 yX0_flickers yX0_flickers, Cond.code yX0_flickers cX0_flickers 2 (some .boolean), Cond.fieldLink RX0 18 "TurnDigits$Frame" "gaps" "[I", Cond.fieldLink RX0 37 "TurnDigits$Frame" "persistence" "I", Cond.methodLink RX4 223 yX0_isSeen, Cond.instanceMethod yX0_isSeen, Cond.selects RX0 yX0_isSeen yX0_isSeen, Cond.code yX0_isSeen cX0_isSeen 3 (some .boolean), Cond.fieldLink RX0 40 "TurnDigits$Frame" "neededLight" "I", Cond.methodLink RX0 90 yX0_lightOf, Cond.methodLink RX0 94 yX0_flickers, Cond.methodLink RX4 226 yX4_isClear, Cond.instanceMethod yX4_isClear, Cond.selects RX4 yX4_isClear yX4_isClear, Cond.code yX4_isClear cX4_isClear 2 (some .boolean), Cond.methodLink RX4 229 yX2_readableSigns, Cond.instanceMethod yX2_readableSigns]
def wsX4_mixDigit_r3 : List Cond := [Cond.selects RX2 yX2_readableSigns yX2_readableSigns, Cond.code yX2_readableSigns cX2_readableSigns 5 (some .int), Cond.methodLink RX2 76 yX2_shownSegments, Cond.methodLink RX4 259 yJ6_bitCount_0f7a4, Cond.static yJ6_bitCount_0f7a4, Cond.initialized RJ6, Cond.code yJ6_bitCount_0f7a4 cJ6_bitCount_0f7a4 1 (some .int), Cond.constant RJ6 265 (1431655765), Cond.constant RJ6 266 (858993459), Cond.constant RJ6 267 (252645135), Cond.methodLink RX4 185 yX4_mix, Cond.static yX4_mix, Cond.code yX4_mix cX4_mix 4 (some .long), Cond.constantLong RX4 200 (31), Cond.methodLink RX4 71 yX4_wearPlace, Cond.static yX4_wearPlace, Cond.code yX4_wearPlace cX4_wearPlace 2 (some .int), Cond.methodLink RX4 163 yX0_foreseeLevel, Cond.instanceMethod yX0_foreseeLevel, Cond.selects RX0 yX0_foreseeLevel yX0_foreseeLevel, Cond.code yX0_foreseeLevel cX0_foreseeLevel 4 none, Cond.fieldLink RX0 43 "TurnDigits$State" "levels" "[I", Cond.fieldLink RX0 24 "TurnDigits$Frame" "levels" "[I", Cond.methodLink RX0 46 arraycopyName]
def wsX4_mixDigit_r4 : List Cond := [Cond.native arraycopyName, Cond.static arraycopyName, Cond.initialized "java/lang/System", Cond.fieldLink RX0 27 "TurnDigits$Frame" "credits" "[I", Cond.methodLink RX0 57 yJ7_fill_53178, Cond.static yJ7_fill_53178, Cond.initialized RJ7, Cond.code yJ7_fill_53178 cJ7_fill_53178 4 none, Cond.methodLink RX0 53 yX0_passSlots, Cond.instanceMethod yX0_passSlots, Cond.selects RX0 yX0_passSlots yX0_passSlots, Cond.code yX0_passSlots cX0_passSlots 5 none, Cond.fieldLink RX0 63 "TurnDigits$State" "settings" "[I", Cond.fieldLink RX0 66 "TurnDigits$State" "ambientLight" "I", Cond.fieldLink RX0 30 "TurnDigits$Frame" "darkRows" "[I", Cond.fieldLink RX0 69 "TurnDigits$State" "ahead" "I", Cond.fieldLink RX0 9 "TurnDigits$Frame" "owners" "[I", Cond.fieldLink RX0 15 "TurnDigits$Frame" "lit" "[I", Cond.static yX4_giveSlot, Cond.code yX4_giveSlot cX4_giveSlot 5 (some .int), Cond.static yX4_litIn, Cond.code yX4_litIn cX4_litIn 3 (some .int), Cond.methodLink RX0 80 yX0_noteSlot, Cond.instanceMethod yX0_noteSlot]
def wsX4_mixDigit_r5 : List Cond := [Cond.selects RX0 yX0_noteSlot yX0_noteSlot, Cond.code yX0_noteSlot cX0_noteSlot 3 none, Cond.methodLink RX0 84 Lib.Math.max.name, Cond.static Lib.Math.max.name, Cond.initialized "java/lang/Math", Cond.code Lib.Math.max.name Lib.Math.max.code 2 (some .int), Cond.methodLink RX4 167 yX4_trialNumber, Cond.instanceMethod yX4_trialNumber, Cond.selects RX4 yX4_trialNumber yX4_trialNumber, Cond.code yX4_trialNumber cX4_trialNumber 3 (some .int), Cond.methodLink RX4 247 yX0_seen, Cond.instanceMethod yX0_seen, Cond.selects RX0 yX0_seen yX0_seen, Cond.code yX0_seen cX0_seen 3 (some .int), Cond.methodLink RX0 98 yX0_isSeen, Cond.methodLink RX4 244 yX0_flickering, Cond.instanceMethod yX0_flickering, Cond.selects RX0 yX0_flickering yX0_flickering, Cond.code yX0_flickering cX0_flickering 3 (some .int), Cond.methodLink RX4 170 yX4_leastSeenLevel, Cond.instanceMethod yX4_leastSeenLevel, Cond.selects RX4 yX4_leastSeenLevel yX4_leastSeenLevel, Cond.code yX4_leastSeenLevel cX4_leastSeenLevel 3 (some .int), Cond.methodLink RX4 173 yX4_alikePairs]
def wsX4_mixDigit_r6 : List Cond := [Cond.instanceMethod yX4_alikePairs, Cond.selects RX4 yX4_alikePairs yX4_alikePairs, Cond.code yX4_alikePairs cX4_alikePairs 6 (some .int), Cond.fieldLink RX4 272 "TurnDigits" "MASKS" "[I"]
def wsX4_mixDigit : List Cond := .code yX4_mixDigit cX4_mixDigit 7 (some .long) :: ((wsX4_mixDigit_r1 ++ (wsX4_mixDigit_r2 ++ (wsX4_mixDigit_r3 ++ (wsX4_mixDigit_r4 ++ (wsX4_mixDigit_r5 ++ wsX4_mixDigit_r6))))) ++ wsX40 ++ wsX20 ++ wsX00)
def wsX4_bitsOfShare : List Cond := .code yX4_bitsOfShare cX4_bitsOfShare 8 (some .long) :: ([.constantLong RX4 202 (1023), .constantDouble RX4 204 (4611686018427387904), .constantDouble RX4 206 (4841369599423283200)])
def wsX4_digest_r1 : List Cond := [Cond.fieldLink RX4 33 "TurnDigits" "frame" "LTurnDigits$Frame;", Cond.fieldLink RX4 10 "TurnDigits" "state" "LTurnDigits$State;", Cond.constantLong RX4 183 (2729), Cond.fieldLink RX4 88 "TurnDigits$State" "settings" "[I", Cond.fieldLink RX4 154 "TurnDigits$Frame" "lit" "[I", Cond.fieldLink RX4 157 "TurnDigits$Frame" "owners" "[I", Cond.fieldLink RX4 26 "TurnDigits" "text" "LTurnDigits$Text;", Cond.fieldLink RX4 120 "TurnDigits$Text" "length" "I", Cond.fieldLink RX4 197 "TurnDigits$Text" "codes" "[I", Cond.methodLink RX4 148 yX0_foresee, Cond.instanceMethod yX0_foresee, Cond.selects RX0 yX0_foresee yX0_foresee, Cond.initialized RX0, Cond.code yX0_foresee cX0_foresee 2 none, Cond.fieldLink RX0 43 "TurnDigits$State" "levels" "[I", Cond.fieldLink RX0 24 "TurnDigits$Frame" "levels" "[I", Cond.methodLink RX0 46 arraycopyName, Cond.native arraycopyName, Cond.static arraycopyName, Cond.initialized "java/lang/System", Cond.fieldLink RX0 52 "TurnDigits$State" "credits" "[I", Cond.fieldLink RX0 27 "TurnDigits$Frame" "credits" "[I", Cond.methodLink RX0 53 yX0_passSlots, Cond.instanceMethod yX0_passSlots]
def wsX4_digest_r2 : List Cond := [Cond.selects RX0 yX0_passSlots yX0_passSlots, Cond.code yX0_passSlots cX0_passSlots 5 none, Cond.fieldLink RX0 63 "TurnDigits$State" "settings" "[I", Cond.fieldLink RX0 33 "TurnDigits$Frame" "length" "I", Cond.fieldLink RX0 37 "TurnDigits$Frame" "persistence" "I", Cond.fieldLink RX0 66 "TurnDigits$State" "ambientLight" "I", Cond.fieldLink RX0 40 "TurnDigits$Frame" "neededLight" "I", Cond.fieldLink RX0 18 "TurnDigits$Frame" "gaps" "[I", Cond.fieldLink RX0 21 "TurnDigits$Frame" "litSlots" "[I", Cond.fieldLink RX0 30 "TurnDigits$Frame" "darkRows" "[I", Cond.fieldLink RX0 69 "TurnDigits$State" "ahead" "I", Cond.fieldLink RX0 9 "TurnDigits$Frame" "owners" "[I", Cond.fieldLink RX0 15 "TurnDigits$Frame" "lit" "[I", Cond.methodLink RX0 57 yJ7_fill_53178, Cond.static yJ7_fill_53178, Cond.initialized RJ7, Cond.code yJ7_fill_53178 cJ7_fill_53178 4 none, Cond.static yX4_giveSlot, Cond.initialized RX4, Cond.code yX4_giveSlot cX4_giveSlot 5 (some .int), Cond.static yX4_litIn, Cond.code yX4_litIn cX4_litIn 3 (some .int), Cond.methodLink RX0 80 yX0_noteSlot, Cond.instanceMethod yX0_noteSlot]
def wsX4_digest_r3 : List Cond := [Cond.selects RX0 yX0_noteSlot yX0_noteSlot, Cond.code yX0_noteSlot cX0_noteSlot 3 none, Cond.methodLink RX0 84 Lib.Math.max.name, Cond.static Lib.Math.max.name, Cond.initialized "java/lang/Math", Cond.code Lib.Math.max.name Lib.Math.max.code 2 (some .int), Cond.methodLink RX4 160 yX4_total, Cond.instanceMethod yX4_total, Cond.selects RX4 yX4_total yX4_total, Cond.code yX4_total cX4_total 2 (some .int), Cond.fieldLink RX4 99 "TurnDigits$State" "time" "I", Cond.fieldLink RX4 75 "TurnDigits$State" "ambientLight" "I", Cond.fieldLink RX4 256 "TurnDigits$State" "ahead" "I", Cond.fieldLink RX4 19 "TurnDigits" "history" "LTurnDigits$History;", Cond.fieldLink RX4 140 "TurnDigits$History" "size" "I", Cond.methodLink RX4 235 yX2_levelSum, Cond.instanceMethod yX2_levelSum, Cond.selects RX2 yX2_levelSum yX2_levelSum, Cond.initialized RX2, Cond.code yX2_levelSum cX2_levelSum 3 (some .int), Cond.fieldLink RX2 15 "TurnDigits$State" "levels" "[I", Cond.methodLink RX4 238 yX0_darkSlots, Cond.instanceMethod yX0_darkSlots, Cond.selects RX0 yX0_darkSlots yX0_darkSlots]
def wsX4_digest_r4 : List Cond := [Cond.code yX0_darkSlots cX0_darkSlots 3 (some .int), Cond.methodLink RX4 241 yX0_changes, Cond.instanceMethod yX0_changes, Cond.selects RX0 yX0_changes yX0_changes, Cond.code yX0_changes cX0_changes 3 (some .int), Cond.methodLink RX4 244 yX0_flickering, Cond.instanceMethod yX0_flickering, Cond.selects RX0 yX0_flickering yX0_flickering, Cond.code yX0_flickering cX0_flickering 3 (some .int), Cond.methodLink RX0 94 yX0_flickers, Cond.instanceMethod yX0_flickers, Cond.selects RX0 yX0_flickers yX0_flickers, Cond.code yX0_flickers cX0_flickers 2 (some .boolean), Cond.methodLink RX4 247 yX0_seen, Cond.instanceMethod yX0_seen, Cond.selects RX0 yX0_seen yX0_seen, Cond.code yX0_seen cX0_seen 3 (some .int), Cond.methodLink RX0 98 yX0_isSeen, Cond.instanceMethod yX0_isSeen, Cond.selects RX0 yX0_isSeen yX0_isSeen, Cond.code yX0_isSeen cX0_isSeen 3 (some .boolean), Cond.methodLink RX0 90 yX0_lightOf, Cond.instanceMethod yX0_lightOf, Cond.selects RX0 yX0_lightOf yX0_lightOf]
def wsX4_digest_r5 : List Cond := [Cond.code yX0_lightOf cX0_lightOf 2 (some .int), Cond.methodLink RX4 250 yX4_clearDigits, Cond.instanceMethod yX4_clearDigits, Cond.selects RX4 yX4_clearDigits yX4_clearDigits, Cond.code yX4_clearDigits cX4_clearDigits 3 (some .int), Cond.methodLink RX4 226 yX4_isClear, Cond.instanceMethod yX4_isClear, Cond.selects RX4 yX4_isClear yX4_isClear, Cond.code yX4_isClear cX4_isClear 2 (some .boolean), Cond.methodLink RX4 223 yX0_isSeen, Cond.methodLink RX4 229 yX2_readableSigns, Cond.instanceMethod yX2_readableSigns, Cond.selects RX2 yX2_readableSigns yX2_readableSigns, Cond.code yX2_readableSigns cX2_readableSigns 5 (some .int), Cond.fieldLink RX2 18 "TurnDigits$State" "burnt" "[I", Cond.methodLink RX2 76 yX2_shownSegments, Cond.instanceMethod yX2_shownSegments, Cond.selects RX2 yX2_shownSegments yX2_shownSegments, Cond.code yX2_shownSegments cX2_shownSegments 2 (some .int), Cond.fieldLink RX2 9 "TurnDigits$State" "signs" "[I", Cond.methodLink RX4 259 yJ6_bitCount_0f7a4, Cond.static yJ6_bitCount_0f7a4, Cond.initialized RJ6, Cond.code yJ6_bitCount_0f7a4 cJ6_bitCount_0f7a4 1 (some .int)]
def wsX4_digest_r6 : List Cond := [Cond.constant RJ6 265 (1431655765), Cond.constant RJ6 266 (858993459), Cond.constant RJ6 267 (252645135), Cond.methodLink RX4 253 yX2_burntSegments, Cond.instanceMethod yX2_burntSegments, Cond.selects RX2 yX2_burntSegments yX2_burntSegments, Cond.code yX2_burntSegments cX2_burntSegments 3 (some .int), Cond.methodLink RX2 86 yJ6_bitCount_0f7a4, Cond.methodLink RX4 185 yX4_mix, Cond.static yX4_mix, Cond.code yX4_mix cX4_mix 4 (some .long), Cond.constantLong RX4 200 (31), Cond.methodLink RX4 189 yX4_mixDigit, Cond.instanceMethod yX4_mixDigit, Cond.selects RX4 yX4_mixDigit yX4_mixDigit, Cond.code yX4_mixDigit cX4_mixDigit 7 (some .long), Cond.fieldLink RX4 68 "TurnDigits$State" "wears" "[I", Cond.fieldLink RX4 37 "TurnDigits" "trial" "LTurnDigits$Frame;", Cond.methodLink RX4 151 yX4_property, Cond.instanceMethod yX4_property, Cond.selects RX4 yX4_property yX4_property, Cond.code yX4_property cX4_property 3 (some .int), Cond.fieldLink RX4 52 "TurnDigits$State" "signs" "[I", Cond.fieldLink RX4 56 "TurnDigits$State" "levels" "[I"]
def wsX4_digest_r7 : List Cond := [Cond.fieldLink RX4 65 "TurnDigits$State" "burnt" "[I", Cond.fieldLink RX4 211 "TurnDigits$State" "credits" "[I", Cond.fieldLink RX4 217 "TurnDigits$Frame" "gaps" "[I", Cond.fieldLink RX4 232 "TurnDigits$State" "litSlots" "[I", Cond.methodLink RX4 208 yX2_shownSegments, Cond.methodLink RX4 214 yX0_lightOf, Cond.methodLink RX4 220 yX0_flickers, Cond.methodLink RX4 71 yX4_wearPlace, Cond.static yX4_wearPlace, Cond.code yX4_wearPlace cX4_wearPlace 2 (some .int), Cond.methodLink RX4 163 yX0_foreseeLevel, Cond.instanceMethod yX0_foreseeLevel, Cond.selects RX0 yX0_foreseeLevel yX0_foreseeLevel, Cond.code yX0_foreseeLevel cX0_foreseeLevel 4 none, Cond.methodLink RX4 167 yX4_trialNumber, Cond.instanceMethod yX4_trialNumber, Cond.selects RX4 yX4_trialNumber yX4_trialNumber, Cond.code yX4_trialNumber cX4_trialNumber 3 (some .int), Cond.methodLink RX4 170 yX4_leastSeenLevel, Cond.instanceMethod yX4_leastSeenLevel, Cond.selects RX4 yX4_leastSeenLevel yX4_leastSeenLevel, Cond.code yX4_leastSeenLevel cX4_leastSeenLevel 3 (some .int), Cond.methodLink RX4 173 yX4_alikePairs, Cond.instanceMethod yX4_alikePairs]
def wsX4_digest_r8 : List Cond := [Cond.selects RX4 yX4_alikePairs yX4_alikePairs, Cond.code yX4_alikePairs cX4_alikePairs 6 (some .int), Cond.fieldLink RX4 272 "TurnDigits" "MASKS" "[I", Cond.methodLink RX4 176 yX4_clearNumber, Cond.instanceMethod yX4_clearNumber, Cond.selects RX4 yX4_clearNumber yX4_clearNumber, Cond.code yX4_clearNumber cX4_clearNumber 6 (some .int), Cond.methodLink RX4 179 yX4_lightShare, Cond.instanceMethod yX4_lightShare, Cond.selects RX4 yX4_lightShare yX4_lightShare, Cond.code yX4_lightShare cX4_lightShare 5 (some .double), Cond.methodLink RX4 264 Lib.Math.min.name, Cond.static Lib.Math.min.name, Cond.code Lib.Math.min.name Lib.Math.min.code 2 (some .int), Cond.methodLink RX4 269 Lib.Math.max.name, Cond.methodLink RX4 193 yX4_bitsOfShare, Cond.static yX4_bitsOfShare, Cond.code yX4_bitsOfShare cX4_bitsOfShare 8 (some .long), Cond.constantLong RX4 202 (1023), Cond.constantDouble RX4 204 (4611686018427387904), Cond.constantDouble RX4 206 (4841369599423283200)]
def wsX4_digest : List Cond := .code yX4_digest cX4_digest 4 (some .long) :: ((wsX4_digest_r1 ++ (wsX4_digest_r2 ++ (wsX4_digest_r3 ++ (wsX4_digest_r4 ++ (wsX4_digest_r5 ++ (wsX4_digest_r6 ++ (wsX4_digest_r7 ++ wsX4_digest_r8))))))) ++ wsX40 ++ wsX20 ++ wsX00 ++ wsX30 ++ wsX10)
def wsX5_init : List Cond := .code yX5_init cX5_init 2 none :: ([.methodLink RX5 1 objectInit, .instanceMethod objectInit, .code objectInit ⟨#[0xb1]⟩ 1 none, .arrayClass .int, .fieldLink RX5 7 "TurnDigitsModel" "masks" "[I", .fieldLink RX5 13 "TurnDigitsModel" "now" "[I", .fieldLink RX5 16 "TurnDigitsModel" "then" "[I", .fieldLink RX5 19 "TurnDigitsModel" "past" "[I", .fieldLink RX5 22 "TurnDigitsModel" "text" "[I", .fieldLink RX5 25 "TurnDigitsModel" "told" "[I", .fieldLink RX5 28 "TurnDigitsModel" "owners" "[I", .fieldLink RX5 31 "TurnDigitsModel" "lits" "[I", .fieldLink RX5 34 "TurnDigitsModel" "credits" "[I"] ++ wsX50)
def wsX5_thrown : List Cond := .code yX5_thrown cX5_thrown 1 (some .int) :: ([.fieldLink RX5 37 "TurnDigitsModel" "thrown" "I"] ++ wsX50)
def wsX5_fails : List Cond := .code yX5_fails cX5_fails 2 (some .int) :: ([.fieldLink RX5 37 "TurnDigitsModel" "thrown" "I"] ++ wsX50)
def wsX5_in : List Cond := .code yX5_in cX5_in 3 (some .boolean) :: ([])
def wsX5_isDigit : List Cond := .code yX5_isDigit cX5_isDigit 1 (some .boolean) :: ([.methodLink RX5 41 yX5_in, .static yX5_in, .initialized RX5, .code yX5_in cX5_in 3 (some .boolean)])
def wsX5_isSign : List Cond := .code yX5_isSign cX5_isSign 1 (some .boolean) :: ([.methodLink RX5 41 yX5_in, .static yX5_in, .initialized RX5, .code yX5_in cX5_in 3 (some .boolean)])
def wsX5_isLevel : List Cond := .code yX5_isLevel cX5_isLevel 1 (some .boolean) :: ([.methodLink RX5 41 yX5_in, .static yX5_in, .initialized RX5, .code yX5_in cX5_in 3 (some .boolean)])
def wsX5_isSegment : List Cond := .code yX5_isSegment cX5_isSegment 1 (some .boolean) :: ([.methodLink RX5 41 yX5_in, .static yX5_in, .initialized RX5, .code yX5_in cX5_in 3 (some .boolean)])
def wsX5_saves : List Cond := .code yX5_saves cX5_saves 2 none :: ([.fieldLink RX5 45 "TurnDigitsModel" "kept" "I", .fieldLink RX5 19 "TurnDigitsModel" "past" "[I", .fieldLink RX5 13 "TurnDigitsModel" "now" "[I"] ++ wsX50)
def wsX5_undo : List Cond := .code yX5_undo cX5_undo 2 (some .int) :: ([.fieldLink RX5 37 "TurnDigitsModel" "thrown" "I", .fieldLink RX5 45 "TurnDigitsModel" "kept" "I", .fieldLink RX5 13 "TurnDigitsModel" "now" "[I", .fieldLink RX5 19 "TurnDigitsModel" "past" "[I", .methodLink RX5 48 yX5_fails, .instanceMethod yX5_fails, .selects RX5 yX5_fails yX5_fails, .initialized RX5, .code yX5_fails cX5_fails 2 (some .int)] ++ wsX50)
def wsX5_shownAs : List Cond := .code yX5_shownAs cX5_shownAs 3 (some .int) :: ([.fieldLink RX5 7 "TurnDigitsModel" "masks" "[I", .fieldLink RX5 13 "TurnDigitsModel" "now" "[I"] ++ wsX50)
def wsX5_levels : List Cond := .code yX5_levels cX5_levels 3 (some .int) :: ([])
def wsX5_turns : List Cond := .code yX5_turns cX5_turns 5 (some .int) :: ([.methodLink RX5 52 yX5_levels, .static yX5_levels, .initialized RX5, .code yX5_levels cX5_levels 3 (some .int)])
def wsX5_litBy : List Cond := .code yX5_litBy cX5_litBy 4 (some .int) :: ([])
def wsX5_frames : List Cond := .code yX5_frames cX5_frames 3 none :: ([.fieldLink RX5 56 "TurnDigitsModel" "frame" "I", .fieldLink RX5 34 "TurnDigitsModel" "credits" "[I", .fieldLink RX5 28 "TurnDigitsModel" "owners" "[I", .fieldLink RX5 31 "TurnDigitsModel" "lits" "[I", .methodLink RX5 59 yX5_turns, .static yX5_turns, .initialized RX5, .code yX5_turns cX5_turns 5 (some .int), .methodLink RX5 52 yX5_levels, .static yX5_levels, .code yX5_levels cX5_levels 3 (some .int), .methodLink RX5 63 yX5_litBy, .static yX5_litBy, .code yX5_litBy cX5_litBy 4 (some .int)] ++ wsX50)
def wsX5_light : List Cond := .code yX5_light cX5_light 4 (some .int) :: ([.fieldLink RX5 56 "TurnDigitsModel" "frame" "I", .fieldLink RX5 31 "TurnDigitsModel" "lits" "[I"] ++ wsX50)
def wsX5_gap : List Cond := .code yX5_gap cX5_gap 5 (some .int) :: ([.fieldLink RX5 56 "TurnDigitsModel" "frame" "I", .fieldLink RX5 31 "TurnDigitsModel" "lits" "[I"] ++ wsX50)
def wsX5_flickers : List Cond := .code yX5_flickers cX5_flickers 4 (some .boolean) :: ([.fieldLink RX5 56 "TurnDigitsModel" "frame" "I", .methodLink RX5 67 yX5_gap, .instanceMethod yX5_gap, .selects RX5 yX5_gap yX5_gap, .initialized RX5, .code yX5_gap cX5_gap 5 (some .int), .fieldLink RX5 31 "TurnDigitsModel" "lits" "[I"] ++ wsX50)
def wsX5_isSeen : List Cond := .code yX5_isSeen cX5_isSeen 4 (some .boolean) :: ([.methodLink RX5 70 yX5_light, .instanceMethod yX5_light, .selects RX5 yX5_light yX5_light, .initialized RX5, .code yX5_light cX5_light 4 (some .int), .fieldLink RX5 56 "TurnDigitsModel" "frame" "I", .fieldLink RX5 31 "TurnDigitsModel" "lits" "[I", .methodLink RX5 73 yX5_flickers, .instanceMethod yX5_flickers, .selects RX5 yX5_flickers yX5_flickers, .code yX5_flickers cX5_flickers 4 (some .boolean), .methodLink RX5 67 yX5_gap, .instanceMethod yX5_gap, .selects RX5 yX5_gap yX5_gap, .code yX5_gap cX5_gap 5 (some .int)] ++ wsX50)
def wsX5_readable : List Cond := .code yX5_readable cX5_readable 4 (some .int) :: ([.fieldLink RX5 13 "TurnDigitsModel" "now" "[I", .methodLink RX5 77 yX5_shownAs, .instanceMethod yX5_shownAs, .selects RX5 yX5_shownAs yX5_shownAs, .initialized RX5, .code yX5_shownAs cX5_shownAs 3 (some .int), .fieldLink RX5 7 "TurnDigitsModel" "masks" "[I"] ++ wsX50)
def wsX5_isClear_r1 : List Cond := [Cond.fieldLink RX5 13 "TurnDigitsModel" "now" "[I", Cond.methodLink RX5 81 yX5_readable, Cond.instanceMethod yX5_readable, Cond.selects RX5 yX5_readable yX5_readable, Cond.initialized RX5, Cond.code yX5_readable cX5_readable 4 (some .int), Cond.methodLink RX5 77 yX5_shownAs, Cond.instanceMethod yX5_shownAs, Cond.selects RX5 yX5_shownAs yX5_shownAs, Cond.code yX5_shownAs cX5_shownAs 3 (some .int), Cond.fieldLink RX5 7 "TurnDigitsModel" "masks" "[I", Cond.methodLink RX5 84 yX5_isSeen, Cond.instanceMethod yX5_isSeen, Cond.selects RX5 yX5_isSeen yX5_isSeen, Cond.code yX5_isSeen cX5_isSeen 4 (some .boolean), Cond.methodLink RX5 70 yX5_light, Cond.instanceMethod yX5_light, Cond.selects RX5 yX5_light yX5_light, Cond.code yX5_light cX5_light 4 (some .int), Cond.fieldLink RX5 56 "TurnDigitsModel" "frame" "I", Cond.fieldLink RX5 31 "TurnDigitsModel" "lits" "[I", Cond.methodLink RX5 73 yX5_flickers, Cond.instanceMethod yX5_flickers, Cond.selects RX5 yX5_flickers yX5_flickers]
def wsX5_isClear_r2 : List Cond := [Cond.code yX5_flickers cX5_flickers 4 (some .boolean), Cond.methodLink RX5 67 yX5_gap, Cond.instanceMethod yX5_gap, Cond.selects RX5 yX5_gap yX5_gap, Cond.code yX5_gap cX5_gap 5 (some .int)]
def wsX5_isClear : List Cond := .code yX5_isClear cX5_isClear 3 (some .boolean) :: ((wsX5_isClear_r1 ++ wsX5_isClear_r2) ++ wsX50)
def wsX5_ones : List Cond := .code yX5_ones cX5_ones 3 (some .int) :: ([])
def wsX5_changes : List Cond := .code yX5_changes cX5_changes 4 (some .int) :: ([.fieldLink RX5 13 "TurnDigitsModel" "now" "[I"] ++ wsX50)
def wsX5_noCredits : List Cond := .code yX5_noCredits cX5_noCredits 2 none :: ([.fieldLink RX5 13 "TurnDigitsModel" "now" "[I"] ++ wsX50)
def wsX5_show_r1 : List Cond := [Cond.fieldLink RX5 37 "TurnDigitsModel" "thrown" "I", Cond.methodLink RX5 87 yX5_isDigit, Cond.static yX5_isDigit, Cond.initialized RX5, Cond.code yX5_isDigit cX5_isDigit 1 (some .boolean), Cond.methodLink RX5 41 yX5_in, Cond.static yX5_in, Cond.code yX5_in cX5_in 3 (some .boolean), Cond.methodLink RX5 48 yX5_fails, Cond.instanceMethod yX5_fails, Cond.selects RX5 yX5_fails yX5_fails, Cond.code yX5_fails cX5_fails 2 (some .int), Cond.methodLink RX5 91 yX5_isSign, Cond.static yX5_isSign, Cond.code yX5_isSign cX5_isSign 1 (some .boolean), Cond.methodLink RX5 94 yX5_saves, Cond.instanceMethod yX5_saves, Cond.selects RX5 yX5_saves yX5_saves, Cond.code yX5_saves cX5_saves 2 none, Cond.fieldLink RX5 45 "TurnDigitsModel" "kept" "I", Cond.fieldLink RX5 19 "TurnDigitsModel" "past" "[I", Cond.fieldLink RX5 13 "TurnDigitsModel" "now" "[I", Cond.methodLink RX5 97 yX5_changes, Cond.instanceMethod yX5_changes]
def wsX5_show_r2 : List Cond := [Cond.selects RX5 yX5_changes yX5_changes, Cond.code yX5_changes cX5_changes 4 (some .int)]
def wsX5_show : List Cond := .code yX5_show cX5_show 3 (some .int) :: ((wsX5_show_r1 ++ wsX5_show_r2) ++ wsX50)
def wsX5_level_r1 : List Cond := [Cond.fieldLink RX5 37 "TurnDigitsModel" "thrown" "I", Cond.methodLink RX5 87 yX5_isDigit, Cond.static yX5_isDigit, Cond.initialized RX5, Cond.code yX5_isDigit cX5_isDigit 1 (some .boolean), Cond.methodLink RX5 41 yX5_in, Cond.static yX5_in, Cond.code yX5_in cX5_in 3 (some .boolean), Cond.methodLink RX5 48 yX5_fails, Cond.instanceMethod yX5_fails, Cond.selects RX5 yX5_fails yX5_fails, Cond.code yX5_fails cX5_fails 2 (some .int), Cond.methodLink RX5 100 yX5_isLevel, Cond.static yX5_isLevel, Cond.code yX5_isLevel cX5_isLevel 1 (some .boolean), Cond.methodLink RX5 94 yX5_saves, Cond.instanceMethod yX5_saves, Cond.selects RX5 yX5_saves yX5_saves, Cond.code yX5_saves cX5_saves 2 none, Cond.fieldLink RX5 45 "TurnDigitsModel" "kept" "I", Cond.fieldLink RX5 19 "TurnDigitsModel" "past" "[I", Cond.fieldLink RX5 13 "TurnDigitsModel" "now" "[I", Cond.methodLink RX5 103 yX5_noCredits, Cond.instanceMethod yX5_noCredits]
def wsX5_level_r2 : List Cond := [Cond.selects RX5 yX5_noCredits yX5_noCredits, Cond.code yX5_noCredits cX5_noCredits 2 none, Cond.methodLink RX5 97 yX5_changes, Cond.instanceMethod yX5_changes, Cond.selects RX5 yX5_changes yX5_changes, Cond.code yX5_changes cX5_changes 4 (some .int)]
def wsX5_level : List Cond := .code yX5_level cX5_level 3 (some .int) :: ((wsX5_level_r1 ++ wsX5_level_r2) ++ wsX50)
def wsX5_burn : List Cond := .code yX5_burn cX5_burn 6 (some .int) :: ([.fieldLink RX5 37 "TurnDigitsModel" "thrown" "I", .fieldLink RX5 13 "TurnDigitsModel" "now" "[I", .methodLink RX5 87 yX5_isDigit, .static yX5_isDigit, .initialized RX5, .code yX5_isDigit cX5_isDigit 1 (some .boolean), .methodLink RX5 41 yX5_in, .static yX5_in, .code yX5_in cX5_in 3 (some .boolean), .methodLink RX5 106 yX5_isSegment, .static yX5_isSegment, .code yX5_isSegment cX5_isSegment 1 (some .boolean), .methodLink RX5 48 yX5_fails, .instanceMethod yX5_fails, .selects RX5 yX5_fails yX5_fails, .code yX5_fails cX5_fails 2 (some .int), .methodLink RX5 94 yX5_saves, .instanceMethod yX5_saves, .selects RX5 yX5_saves yX5_saves, .code yX5_saves cX5_saves 2 none, .fieldLink RX5 45 "TurnDigitsModel" "kept" "I", .fieldLink RX5 19 "TurnDigitsModel" "past" "[I"] ++ wsX50)
def wsX5_ambient : List Cond := .code yX5_ambient cX5_ambient 2 (some .int) :: ([.fieldLink RX5 37 "TurnDigitsModel" "thrown" "I", .methodLink RX5 41 yX5_in, .static yX5_in, .initialized RX5, .code yX5_in cX5_in 3 (some .boolean), .methodLink RX5 48 yX5_fails, .instanceMethod yX5_fails, .selects RX5 yX5_fails yX5_fails, .code yX5_fails cX5_fails 2 (some .int), .methodLink RX5 94 yX5_saves, .instanceMethod yX5_saves, .selects RX5 yX5_saves yX5_saves, .code yX5_saves cX5_saves 2 none, .fieldLink RX5 45 "TurnDigitsModel" "kept" "I", .fieldLink RX5 19 "TurnDigitsModel" "past" "[I", .fieldLink RX5 13 "TurnDigitsModel" "now" "[I", .methodLink RX5 97 yX5_changes, .instanceMethod yX5_changes, .selects RX5 yX5_changes yX5_changes, .code yX5_changes cX5_changes 4 (some .int)] ++ wsX50)
def wsX5_isFor : List Cond := .code yX5_isFor cX5_isFor 2 (some .boolean) :: ([.methodLink RX5 41 yX5_in, .static yX5_in, .initialized RX5, .code yX5_in cX5_in 3 (some .boolean)])
def wsX5_set : List Cond := .code yX5_set cX5_set 3 (some .int) :: ([.fieldLink RX5 37 "TurnDigitsModel" "thrown" "I", .methodLink RX5 41 yX5_in, .static yX5_in, .initialized RX5, .code yX5_in cX5_in 3 (some .boolean), .methodLink RX5 48 yX5_fails, .instanceMethod yX5_fails, .selects RX5 yX5_fails yX5_fails, .code yX5_fails cX5_fails 2 (some .int), .methodLink RX5 109 yX5_isFor, .static yX5_isFor, .code yX5_isFor cX5_isFor 2 (some .boolean), .methodLink RX5 94 yX5_saves, .instanceMethod yX5_saves, .selects RX5 yX5_saves yX5_saves, .code yX5_saves cX5_saves 2 none, .fieldLink RX5 45 "TurnDigitsModel" "kept" "I", .fieldLink RX5 19 "TurnDigitsModel" "past" "[I", .fieldLink RX5 13 "TurnDigitsModel" "now" "[I", .methodLink RX5 97 yX5_changes, .instanceMethod yX5_changes, .selects RX5 yX5_changes yX5_changes, .code yX5_changes cX5_changes 4 (some .int)] ++ wsX50)
def wsX5_sizeOf : List Cond := .code yX5_sizeOf cX5_sizeOf 3 (some .int) :: ([])
def wsX5_number : List Cond := .code yX5_number cX5_number 10 (some .int) :: ([.fieldLink RX5 37 "TurnDigitsModel" "thrown" "I", .fieldLink RX5 13 "TurnDigitsModel" "now" "[I", .methodLink RX5 87 yX5_isDigit, .static yX5_isDigit, .initialized RX5, .code yX5_isDigit cX5_isDigit 1 (some .boolean), .methodLink RX5 41 yX5_in, .static yX5_in, .code yX5_in cX5_in 3 (some .boolean), .methodLink RX5 48 yX5_fails, .instanceMethod yX5_fails, .selects RX5 yX5_fails yX5_fails, .code yX5_fails cX5_fails 2 (some .int), .methodLink RX5 113 yX5_sizeOf, .static yX5_sizeOf, .code yX5_sizeOf cX5_sizeOf 3 (some .int), .methodLink RX5 94 yX5_saves, .instanceMethod yX5_saves, .selects RX5 yX5_saves yX5_saves, .code yX5_saves cX5_saves 2 none, .fieldLink RX5 45 "TurnDigitsModel" "kept" "I", .fieldLink RX5 19 "TurnDigitsModel" "past" "[I"] ++ wsX50)
def wsX5_goes : List Cond := .code yX5_goes cX5_goes 7 (some .int) :: ([.fieldLink RX5 13 "TurnDigitsModel" "now" "[I", .methodLink RX5 59 yX5_turns, .static yX5_turns, .initialized RX5, .code yX5_turns cX5_turns 5 (some .int), .methodLink RX5 52 yX5_levels, .static yX5_levels, .code yX5_levels cX5_levels 3 (some .int), .methodLink RX5 63 yX5_litBy, .static yX5_litBy, .code yX5_litBy cX5_litBy 4 (some .int), .methodLink RX5 77 yX5_shownAs, .instanceMethod yX5_shownAs, .selects RX5 yX5_shownAs yX5_shownAs, .code yX5_shownAs cX5_shownAs 3 (some .int), .fieldLink RX5 7 "TurnDigitsModel" "masks" "[I"] ++ wsX50)
def wsX5_run_r1 : List Cond := [Cond.fieldLink RX5 37 "TurnDigitsModel" "thrown" "I", Cond.fieldLink RX5 13 "TurnDigitsModel" "now" "[I", Cond.constant RX5 116 (99999), Cond.methodLink RX5 41 yX5_in, Cond.static yX5_in, Cond.initialized RX5, Cond.code yX5_in cX5_in 3 (some .boolean), Cond.methodLink RX5 48 yX5_fails, Cond.instanceMethod yX5_fails, Cond.selects RX5 yX5_fails yX5_fails, Cond.code yX5_fails cX5_fails 2 (some .int), Cond.methodLink RX5 94 yX5_saves, Cond.instanceMethod yX5_saves, Cond.selects RX5 yX5_saves yX5_saves, Cond.code yX5_saves cX5_saves 2 none, Cond.fieldLink RX5 45 "TurnDigitsModel" "kept" "I", Cond.fieldLink RX5 19 "TurnDigitsModel" "past" "[I", Cond.methodLink RX5 117 yX5_goes, Cond.instanceMethod yX5_goes, Cond.selects RX5 yX5_goes yX5_goes, Cond.code yX5_goes cX5_goes 7 (some .int), Cond.methodLink RX5 59 yX5_turns, Cond.static yX5_turns, Cond.code yX5_turns cX5_turns 5 (some .int)]
def wsX5_run_r2 : List Cond := [Cond.methodLink RX5 52 yX5_levels, Cond.static yX5_levels, Cond.code yX5_levels cX5_levels 3 (some .int), Cond.methodLink RX5 63 yX5_litBy, Cond.static yX5_litBy, Cond.code yX5_litBy cX5_litBy 4 (some .int), Cond.methodLink RX5 77 yX5_shownAs, Cond.instanceMethod yX5_shownAs, Cond.selects RX5 yX5_shownAs yX5_shownAs, Cond.code yX5_shownAs cX5_shownAs 3 (some .int), Cond.fieldLink RX5 7 "TurnDigitsModel" "masks" "[I"]
def wsX5_run : List Cond := .code yX5_run cX5_run 4 (some .int) :: ((wsX5_run_r1 ++ wsX5_run_r2) ++ wsX50)
def wsX5_append : List Cond := .code yX5_append cX5_append 2 (some .int) :: ([.fieldLink RX5 37 "TurnDigitsModel" "thrown" "I", .fieldLink RX5 121 "TurnDigitsModel" "typed" "I", .fieldLink RX5 22 "TurnDigitsModel" "text" "[I", .methodLink RX5 41 yX5_in, .static yX5_in, .initialized RX5, .code yX5_in cX5_in 3 (some .boolean), .methodLink RX5 48 yX5_fails, .instanceMethod yX5_fails, .selects RX5 yX5_fails yX5_fails, .code yX5_fails cX5_fails 2 (some .int)] ++ wsX50)
def wsX5_clearBuffer : List Cond := .code yX5_clearBuffer cX5_clearBuffer 2 (some .int) :: ([.fieldLink RX5 37 "TurnDigitsModel" "thrown" "I", .fieldLink RX5 121 "TurnDigitsModel" "typed" "I"] ++ wsX50)
def wsX5_isAt : List Cond := .code yX5_isAt cX5_isAt 3 (some .boolean) :: ([.fieldLink RX5 124 "TurnDigitsModel" "at" "I", .fieldLink RX5 121 "TurnDigitsModel" "typed" "I", .fieldLink RX5 22 "TurnDigitsModel" "text" "[I", .methodLink RX5 41 yX5_in, .static yX5_in, .initialized RX5, .code yX5_in cX5_in 3 (some .boolean)] ++ wsX50)
def wsX5_stops : List Cond := .code yX5_stops cX5_stops 1 (some .boolean) :: ([.fieldLink RX5 124 "TurnDigitsModel" "at" "I", .fieldLink RX5 121 "TurnDigitsModel" "typed" "I", .fieldLink RX5 127 "TurnDigitsModel" "isFault" "Z"] ++ wsX50)
def wsX5_isPart : List Cond := .code yX5_isPart cX5_isPart 3 (some .boolean) :: ([.fieldLink RX5 25 "TurnDigitsModel" "told" "[I", .fieldLink RX5 138 "TurnDigitsModel" "tolds" "I", .fieldLink RX5 22 "TurnDigitsModel" "text" "[I", .fieldLink RX5 124 "TurnDigitsModel" "at" "I", .methodLink RX5 131 yX5_isAt, .instanceMethod yX5_isAt, .selects RX5 yX5_isAt yX5_isAt, .initialized RX5, .code yX5_isAt cX5_isAt 3 (some .boolean), .fieldLink RX5 121 "TurnDigitsModel" "typed" "I", .methodLink RX5 41 yX5_in, .static yX5_in, .code yX5_in cX5_in 3 (some .boolean), .methodLink RX5 134 yX5_stops, .instanceMethod yX5_stops, .selects RX5 yX5_stops yX5_stops, .code yX5_stops cX5_stops 1 (some .boolean), .fieldLink RX5 127 "TurnDigitsModel" "isFault" "Z"] ++ wsX50)
def wsX5_isText : List Cond := .code yX5_isText cX5_isText 2 (some .boolean) :: ([.fieldLink RX5 124 "TurnDigitsModel" "at" "I", .fieldLink RX5 138 "TurnDigitsModel" "tolds" "I", .fieldLink RX5 127 "TurnDigitsModel" "isFault" "Z", .fieldLink RX5 121 "TurnDigitsModel" "typed" "I", .methodLink RX5 141 yX5_isPart, .instanceMethod yX5_isPart, .selects RX5 yX5_isPart yX5_isPart, .initialized RX5, .code yX5_isPart cX5_isPart 3 (some .boolean), .fieldLink RX5 25 "TurnDigitsModel" "told" "[I", .fieldLink RX5 22 "TurnDigitsModel" "text" "[I", .methodLink RX5 131 yX5_isAt, .instanceMethod yX5_isAt, .selects RX5 yX5_isAt yX5_isAt, .code yX5_isAt cX5_isAt 3 (some .boolean), .methodLink RX5 41 yX5_in, .static yX5_in, .code yX5_in cX5_in 3 (some .boolean), .methodLink RX5 134 yX5_stops, .instanceMethod yX5_stops, .selects RX5 yX5_stops yX5_stops, .code yX5_stops cX5_stops 1 (some .boolean)] ++ wsX50)
def wsX5_firstError_r1 : List Cond := [Cond.fieldLink RX5 37 "TurnDigitsModel" "thrown" "I", Cond.fieldLink RX5 127 "TurnDigitsModel" "isFault" "Z", Cond.fieldLink RX5 124 "TurnDigitsModel" "at" "I", Cond.fieldLink RX5 121 "TurnDigitsModel" "typed" "I", Cond.methodLink RX5 144 yX5_isText, Cond.instanceMethod yX5_isText, Cond.selects RX5 yX5_isText yX5_isText, Cond.initialized RX5, Cond.code yX5_isText cX5_isText 2 (some .boolean), Cond.fieldLink RX5 138 "TurnDigitsModel" "tolds" "I", Cond.methodLink RX5 141 yX5_isPart, Cond.instanceMethod yX5_isPart, Cond.selects RX5 yX5_isPart yX5_isPart, Cond.code yX5_isPart cX5_isPart 3 (some .boolean), Cond.fieldLink RX5 25 "TurnDigitsModel" "told" "[I", Cond.fieldLink RX5 22 "TurnDigitsModel" "text" "[I", Cond.methodLink RX5 131 yX5_isAt, Cond.instanceMethod yX5_isAt, Cond.selects RX5 yX5_isAt yX5_isAt, Cond.code yX5_isAt cX5_isAt 3 (some .boolean), Cond.methodLink RX5 41 yX5_in, Cond.static yX5_in, Cond.code yX5_in cX5_in 3 (some .boolean), Cond.methodLink RX5 134 yX5_stops]
def wsX5_firstError_r2 : List Cond := [Cond.instanceMethod yX5_stops, Cond.selects RX5 yX5_stops yX5_stops, Cond.code yX5_stops cX5_stops 1 (some .boolean)]
def wsX5_firstError : List Cond := .code yX5_firstError cX5_firstError 2 (some .int) :: ((wsX5_firstError_r1 ++ wsX5_firstError_r2) ++ wsX50)
def wsX5_read_r1 : List Cond := [Cond.fieldLink RX5 37 "TurnDigitsModel" "thrown" "I", Cond.fieldLink RX5 121 "TurnDigitsModel" "typed" "I", Cond.fieldLink RX5 138 "TurnDigitsModel" "tolds" "I", Cond.fieldLink RX5 13 "TurnDigitsModel" "now" "[I", Cond.fieldLink RX5 25 "TurnDigitsModel" "told" "[I", Cond.methodLink RX5 144 yX5_isText, Cond.instanceMethod yX5_isText, Cond.selects RX5 yX5_isText yX5_isText, Cond.initialized RX5, Cond.code yX5_isText cX5_isText 2 (some .boolean), Cond.fieldLink RX5 124 "TurnDigitsModel" "at" "I", Cond.fieldLink RX5 127 "TurnDigitsModel" "isFault" "Z", Cond.methodLink RX5 141 yX5_isPart, Cond.instanceMethod yX5_isPart, Cond.selects RX5 yX5_isPart yX5_isPart, Cond.code yX5_isPart cX5_isPart 3 (some .boolean), Cond.fieldLink RX5 22 "TurnDigitsModel" "text" "[I", Cond.methodLink RX5 131 yX5_isAt, Cond.instanceMethod yX5_isAt, Cond.selects RX5 yX5_isAt yX5_isAt, Cond.code yX5_isAt cX5_isAt 3 (some .boolean), Cond.methodLink RX5 41 yX5_in, Cond.static yX5_in, Cond.code yX5_in cX5_in 3 (some .boolean)]
def wsX5_read_r2 : List Cond := [Cond.methodLink RX5 134 yX5_stops, Cond.instanceMethod yX5_stops, Cond.selects RX5 yX5_stops yX5_stops, Cond.code yX5_stops cX5_stops 1 (some .boolean), Cond.methodLink RX5 48 yX5_fails, Cond.instanceMethod yX5_fails, Cond.selects RX5 yX5_fails yX5_fails, Cond.code yX5_fails cX5_fails 2 (some .int), Cond.methodLink RX5 94 yX5_saves, Cond.instanceMethod yX5_saves, Cond.selects RX5 yX5_saves yX5_saves, Cond.code yX5_saves cX5_saves 2 none, Cond.fieldLink RX5 45 "TurnDigitsModel" "kept" "I", Cond.fieldLink RX5 19 "TurnDigitsModel" "past" "[I", Cond.methodLink RX5 103 yX5_noCredits, Cond.instanceMethod yX5_noCredits, Cond.selects RX5 yX5_noCredits yX5_noCredits, Cond.code yX5_noCredits cX5_noCredits 2 none]
def wsX5_read : List Cond := .code yX5_read cX5_read 2 (some .int) :: ((wsX5_read_r1 ++ wsX5_read_r2) ++ wsX50)
def wsX5_ofDigit_r1 : List Cond := [Cond.fieldLink RX5 13 "TurnDigitsModel" "now" "[I", Cond.methodLink RX5 77 yX5_shownAs, Cond.instanceMethod yX5_shownAs, Cond.selects RX5 yX5_shownAs yX5_shownAs, Cond.initialized RX5, Cond.code yX5_shownAs cX5_shownAs 3 (some .int), Cond.fieldLink RX5 7 "TurnDigitsModel" "masks" "[I", Cond.methodLink RX5 81 yX5_readable, Cond.instanceMethod yX5_readable, Cond.selects RX5 yX5_readable yX5_readable, Cond.code yX5_readable cX5_readable 4 (some .int), Cond.methodLink RX5 147 yX5_frames, Cond.instanceMethod yX5_frames, Cond.selects RX5 yX5_frames yX5_frames, Cond.code yX5_frames cX5_frames 3 none, Cond.fieldLink RX5 56 "TurnDigitsModel" "frame" "I", Cond.fieldLink RX5 34 "TurnDigitsModel" "credits" "[I", Cond.fieldLink RX5 28 "TurnDigitsModel" "owners" "[I", Cond.fieldLink RX5 31 "TurnDigitsModel" "lits" "[I", Cond.methodLink RX5 59 yX5_turns, Cond.static yX5_turns, Cond.code yX5_turns cX5_turns 5 (some .int), Cond.methodLink RX5 52 yX5_levels, Cond.static yX5_levels]
def wsX5_ofDigit_r2 : List Cond := [Cond.code yX5_levels cX5_levels 3 (some .int), Cond.methodLink RX5 63 yX5_litBy, Cond.static yX5_litBy, Cond.code yX5_litBy cX5_litBy 4 (some .int), Cond.methodLink RX5 70 yX5_light, Cond.instanceMethod yX5_light, Cond.selects RX5 yX5_light yX5_light, Cond.code yX5_light cX5_light 4 (some .int), Cond.methodLink RX5 67 yX5_gap, Cond.instanceMethod yX5_gap, Cond.selects RX5 yX5_gap yX5_gap, Cond.code yX5_gap cX5_gap 5 (some .int), Cond.methodLink RX5 73 yX5_flickers, Cond.instanceMethod yX5_flickers, Cond.selects RX5 yX5_flickers yX5_flickers, Cond.code yX5_flickers cX5_flickers 4 (some .boolean), Cond.methodLink RX5 84 yX5_isSeen, Cond.instanceMethod yX5_isSeen, Cond.selects RX5 yX5_isSeen yX5_isSeen, Cond.code yX5_isSeen cX5_isSeen 4 (some .boolean), Cond.methodLink RX5 151 yX5_isClear, Cond.instanceMethod yX5_isClear, Cond.selects RX5 yX5_isClear yX5_isClear, Cond.code yX5_isClear cX5_isClear 3 (some .boolean)]
def wsX5_ofDigit : List Cond := .code yX5_ofDigit cX5_ofDigit 3 (some .int) :: ((wsX5_ofDigit_r1 ++ wsX5_ofDigit_r2) ++ wsX50)
def wsX5_digit_r1 : List Cond := [Cond.fieldLink RX5 37 "TurnDigitsModel" "thrown" "I", Cond.methodLink RX5 87 yX5_isDigit, Cond.static yX5_isDigit, Cond.initialized RX5, Cond.code yX5_isDigit cX5_isDigit 1 (some .boolean), Cond.methodLink RX5 41 yX5_in, Cond.static yX5_in, Cond.code yX5_in cX5_in 3 (some .boolean), Cond.methodLink RX5 48 yX5_fails, Cond.instanceMethod yX5_fails, Cond.selects RX5 yX5_fails yX5_fails, Cond.code yX5_fails cX5_fails 2 (some .int), Cond.methodLink RX5 154 yX5_ofDigit, Cond.instanceMethod yX5_ofDigit, Cond.selects RX5 yX5_ofDigit yX5_ofDigit, Cond.code yX5_ofDigit cX5_ofDigit 3 (some .int), Cond.fieldLink RX5 13 "TurnDigitsModel" "now" "[I", Cond.methodLink RX5 77 yX5_shownAs, Cond.instanceMethod yX5_shownAs, Cond.selects RX5 yX5_shownAs yX5_shownAs, Cond.code yX5_shownAs cX5_shownAs 3 (some .int), Cond.fieldLink RX5 7 "TurnDigitsModel" "masks" "[I", Cond.methodLink RX5 81 yX5_readable, Cond.instanceMethod yX5_readable]
def wsX5_digit_r2 : List Cond := [Cond.selects RX5 yX5_readable yX5_readable, Cond.code yX5_readable cX5_readable 4 (some .int), Cond.methodLink RX5 147 yX5_frames, Cond.instanceMethod yX5_frames, Cond.selects RX5 yX5_frames yX5_frames, Cond.code yX5_frames cX5_frames 3 none, Cond.fieldLink RX5 56 "TurnDigitsModel" "frame" "I", Cond.fieldLink RX5 34 "TurnDigitsModel" "credits" "[I", Cond.fieldLink RX5 28 "TurnDigitsModel" "owners" "[I", Cond.fieldLink RX5 31 "TurnDigitsModel" "lits" "[I", Cond.methodLink RX5 59 yX5_turns, Cond.static yX5_turns, Cond.code yX5_turns cX5_turns 5 (some .int), Cond.methodLink RX5 52 yX5_levels, Cond.static yX5_levels, Cond.code yX5_levels cX5_levels 3 (some .int), Cond.methodLink RX5 63 yX5_litBy, Cond.static yX5_litBy, Cond.code yX5_litBy cX5_litBy 4 (some .int), Cond.methodLink RX5 70 yX5_light, Cond.instanceMethod yX5_light, Cond.selects RX5 yX5_light yX5_light, Cond.code yX5_light cX5_light 4 (some .int), Cond.methodLink RX5 67 yX5_gap]
def wsX5_digit_r3 : List Cond := [Cond.instanceMethod yX5_gap, Cond.selects RX5 yX5_gap yX5_gap, Cond.code yX5_gap cX5_gap 5 (some .int), Cond.methodLink RX5 73 yX5_flickers, Cond.instanceMethod yX5_flickers, Cond.selects RX5 yX5_flickers yX5_flickers, Cond.code yX5_flickers cX5_flickers 4 (some .boolean), Cond.methodLink RX5 84 yX5_isSeen, Cond.instanceMethod yX5_isSeen, Cond.selects RX5 yX5_isSeen yX5_isSeen, Cond.code yX5_isSeen cX5_isSeen 4 (some .boolean), Cond.methodLink RX5 151 yX5_isClear, Cond.instanceMethod yX5_isClear, Cond.selects RX5 yX5_isClear yX5_isClear, Cond.code yX5_isClear cX5_isClear 3 (some .boolean)]
def wsX5_digit : List Cond := .code yX5_digit cX5_digit 3 (some .int) :: ((wsX5_digit_r1 ++ (wsX5_digit_r2 ++ wsX5_digit_r3)) ++ wsX50)
def wsX5_wear : List Cond := .code yX5_wear cX5_wear 3 (some .int) :: ([.fieldLink RX5 37 "TurnDigitsModel" "thrown" "I", .fieldLink RX5 13 "TurnDigitsModel" "now" "[I", .methodLink RX5 87 yX5_isDigit, .static yX5_isDigit, .initialized RX5, .code yX5_isDigit cX5_isDigit 1 (some .boolean), .methodLink RX5 41 yX5_in, .static yX5_in, .code yX5_in cX5_in 3 (some .boolean), .methodLink RX5 106 yX5_isSegment, .static yX5_isSegment, .code yX5_isSegment cX5_isSegment 1 (some .boolean), .methodLink RX5 48 yX5_fails, .instanceMethod yX5_fails, .selects RX5 yX5_fails yX5_fails, .code yX5_fails cX5_fails 2 (some .int)] ++ wsX50)
def wsX5_slot_r1 : List Cond := [Cond.fieldLink RX5 37 "TurnDigitsModel" "thrown" "I", Cond.fieldLink RX5 13 "TurnDigitsModel" "now" "[I", Cond.fieldLink RX5 31 "TurnDigitsModel" "lits" "[I", Cond.fieldLink RX5 28 "TurnDigitsModel" "owners" "[I", Cond.methodLink RX5 41 yX5_in, Cond.static yX5_in, Cond.initialized RX5, Cond.code yX5_in cX5_in 3 (some .boolean), Cond.methodLink RX5 48 yX5_fails, Cond.instanceMethod yX5_fails, Cond.selects RX5 yX5_fails yX5_fails, Cond.code yX5_fails cX5_fails 2 (some .int), Cond.methodLink RX5 147 yX5_frames, Cond.instanceMethod yX5_frames, Cond.selects RX5 yX5_frames yX5_frames, Cond.code yX5_frames cX5_frames 3 none, Cond.fieldLink RX5 56 "TurnDigitsModel" "frame" "I", Cond.fieldLink RX5 34 "TurnDigitsModel" "credits" "[I", Cond.methodLink RX5 59 yX5_turns, Cond.static yX5_turns, Cond.code yX5_turns cX5_turns 5 (some .int), Cond.methodLink RX5 52 yX5_levels, Cond.static yX5_levels, Cond.code yX5_levels cX5_levels 3 (some .int)]
def wsX5_slot_r2 : List Cond := [Cond.methodLink RX5 63 yX5_litBy, Cond.static yX5_litBy, Cond.code yX5_litBy cX5_litBy 4 (some .int)]
def wsX5_slot : List Cond := .code yX5_slot cX5_slot 3 (some .int) :: ((wsX5_slot_r1 ++ wsX5_slot_r2) ++ wsX50)
def wsX5_inFrame : List Cond := .code yX5_inFrame cX5_inFrame 4 (some .int) :: ([.fieldLink RX5 56 "TurnDigitsModel" "frame" "I", .fieldLink RX5 31 "TurnDigitsModel" "lits" "[I", .fieldLink RX5 28 "TurnDigitsModel" "owners" "[I"] ++ wsX50)
def wsX5_those_r1 : List Cond := [Cond.methodLink RX5 73 yX5_flickers, Cond.instanceMethod yX5_flickers, Cond.selects RX5 yX5_flickers yX5_flickers, Cond.initialized RX5, Cond.code yX5_flickers cX5_flickers 4 (some .boolean), Cond.fieldLink RX5 56 "TurnDigitsModel" "frame" "I", Cond.methodLink RX5 67 yX5_gap, Cond.instanceMethod yX5_gap, Cond.selects RX5 yX5_gap yX5_gap, Cond.code yX5_gap cX5_gap 5 (some .int), Cond.fieldLink RX5 31 "TurnDigitsModel" "lits" "[I", Cond.methodLink RX5 84 yX5_isSeen, Cond.instanceMethod yX5_isSeen, Cond.selects RX5 yX5_isSeen yX5_isSeen, Cond.code yX5_isSeen cX5_isSeen 4 (some .boolean), Cond.methodLink RX5 70 yX5_light, Cond.instanceMethod yX5_light, Cond.selects RX5 yX5_light yX5_light, Cond.code yX5_light cX5_light 4 (some .int), Cond.methodLink RX5 151 yX5_isClear, Cond.instanceMethod yX5_isClear, Cond.selects RX5 yX5_isClear yX5_isClear, Cond.code yX5_isClear cX5_isClear 3 (some .boolean), Cond.fieldLink RX5 13 "TurnDigitsModel" "now" "[I"]
def wsX5_those_r2 : List Cond := [Cond.methodLink RX5 81 yX5_readable, Cond.instanceMethod yX5_readable, Cond.selects RX5 yX5_readable yX5_readable, Cond.code yX5_readable cX5_readable 4 (some .int), Cond.methodLink RX5 77 yX5_shownAs, Cond.instanceMethod yX5_shownAs, Cond.selects RX5 yX5_shownAs yX5_shownAs, Cond.code yX5_shownAs cX5_shownAs 3 (some .int), Cond.fieldLink RX5 7 "TurnDigitsModel" "masks" "[I"]
def wsX5_those : List Cond := .code yX5_those cX5_those 5 (some .int) :: ((wsX5_those_r1 ++ wsX5_those_r2) ++ wsX50)
def wsX5_burnt : List Cond := .code yX5_burnt cX5_burnt 3 (some .int) :: ([.fieldLink RX5 13 "TurnDigitsModel" "now" "[I", .methodLink RX5 157 yX5_ones, .static yX5_ones, .initialized RX5, .code yX5_ones cX5_ones 3 (some .int)] ++ wsX50)
def wsX5_counted_r1 : List Cond := [Cond.fieldLink RX5 13 "TurnDigitsModel" "now" "[I", Cond.fieldLink RX5 45 "TurnDigitsModel" "kept" "I", Cond.methodLink RX5 147 yX5_frames, Cond.instanceMethod yX5_frames, Cond.selects RX5 yX5_frames yX5_frames, Cond.initialized RX5, Cond.code yX5_frames cX5_frames 3 none, Cond.fieldLink RX5 56 "TurnDigitsModel" "frame" "I", Cond.fieldLink RX5 34 "TurnDigitsModel" "credits" "[I", Cond.fieldLink RX5 28 "TurnDigitsModel" "owners" "[I", Cond.fieldLink RX5 31 "TurnDigitsModel" "lits" "[I", Cond.methodLink RX5 59 yX5_turns, Cond.static yX5_turns, Cond.code yX5_turns cX5_turns 5 (some .int), Cond.methodLink RX5 52 yX5_levels, Cond.static yX5_levels, Cond.code yX5_levels cX5_levels 3 (some .int), Cond.methodLink RX5 63 yX5_litBy, Cond.static yX5_litBy, Cond.code yX5_litBy cX5_litBy 4 (some .int), Cond.methodLink RX5 160 yX5_inFrame, Cond.instanceMethod yX5_inFrame, Cond.selects RX5 yX5_inFrame yX5_inFrame, Cond.code yX5_inFrame cX5_inFrame 4 (some .int)]
def wsX5_counted_r2 : List Cond := [Cond.methodLink RX5 164 yX5_those, Cond.instanceMethod yX5_those, Cond.selects RX5 yX5_those yX5_those, Cond.code yX5_those cX5_those 5 (some .int), Cond.methodLink RX5 73 yX5_flickers, Cond.instanceMethod yX5_flickers, Cond.selects RX5 yX5_flickers yX5_flickers, Cond.code yX5_flickers cX5_flickers 4 (some .boolean), Cond.methodLink RX5 67 yX5_gap, Cond.instanceMethod yX5_gap, Cond.selects RX5 yX5_gap yX5_gap, Cond.code yX5_gap cX5_gap 5 (some .int), Cond.methodLink RX5 84 yX5_isSeen, Cond.instanceMethod yX5_isSeen, Cond.selects RX5 yX5_isSeen yX5_isSeen, Cond.code yX5_isSeen cX5_isSeen 4 (some .boolean), Cond.methodLink RX5 70 yX5_light, Cond.instanceMethod yX5_light, Cond.selects RX5 yX5_light yX5_light, Cond.code yX5_light cX5_light 4 (some .int), Cond.methodLink RX5 151 yX5_isClear, Cond.instanceMethod yX5_isClear, Cond.selects RX5 yX5_isClear yX5_isClear, Cond.code yX5_isClear cX5_isClear 3 (some .boolean)]
def wsX5_counted_r3 : List Cond := [Cond.methodLink RX5 81 yX5_readable, Cond.instanceMethod yX5_readable, Cond.selects RX5 yX5_readable yX5_readable, Cond.code yX5_readable cX5_readable 4 (some .int), Cond.methodLink RX5 77 yX5_shownAs, Cond.instanceMethod yX5_shownAs, Cond.selects RX5 yX5_shownAs yX5_shownAs, Cond.code yX5_shownAs cX5_shownAs 3 (some .int), Cond.fieldLink RX5 7 "TurnDigitsModel" "masks" "[I", Cond.methodLink RX5 168 yX5_burnt, Cond.instanceMethod yX5_burnt, Cond.selects RX5 yX5_burnt yX5_burnt, Cond.code yX5_burnt cX5_burnt 3 (some .int), Cond.methodLink RX5 157 yX5_ones, Cond.static yX5_ones, Cond.code yX5_ones cX5_ones 3 (some .int)]
def wsX5_counted : List Cond := .code yX5_counted cX5_counted 2 (some .int) :: ((wsX5_counted_r1 ++ (wsX5_counted_r2 ++ wsX5_counted_r3)) ++ wsX50)
def wsX5_count_r1 : List Cond := [Cond.fieldLink RX5 37 "TurnDigitsModel" "thrown" "I", Cond.methodLink RX5 41 yX5_in, Cond.static yX5_in, Cond.initialized RX5, Cond.code yX5_in cX5_in 3 (some .boolean), Cond.methodLink RX5 171 yX5_counted, Cond.instanceMethod yX5_counted, Cond.selects RX5 yX5_counted yX5_counted, Cond.code yX5_counted cX5_counted 2 (some .int), Cond.fieldLink RX5 13 "TurnDigitsModel" "now" "[I", Cond.fieldLink RX5 45 "TurnDigitsModel" "kept" "I", Cond.methodLink RX5 147 yX5_frames, Cond.instanceMethod yX5_frames, Cond.selects RX5 yX5_frames yX5_frames, Cond.code yX5_frames cX5_frames 3 none, Cond.fieldLink RX5 56 "TurnDigitsModel" "frame" "I", Cond.fieldLink RX5 34 "TurnDigitsModel" "credits" "[I", Cond.fieldLink RX5 28 "TurnDigitsModel" "owners" "[I", Cond.fieldLink RX5 31 "TurnDigitsModel" "lits" "[I", Cond.methodLink RX5 59 yX5_turns, Cond.static yX5_turns, Cond.code yX5_turns cX5_turns 5 (some .int), Cond.methodLink RX5 52 yX5_levels, Cond.static yX5_levels]
def wsX5_count_r2 : List Cond := [Cond.code yX5_levels cX5_levels 3 (some .int), Cond.methodLink RX5 63 yX5_litBy, Cond.static yX5_litBy, Cond.code yX5_litBy cX5_litBy 4 (some .int), Cond.methodLink RX5 160 yX5_inFrame, Cond.instanceMethod yX5_inFrame, Cond.selects RX5 yX5_inFrame yX5_inFrame, Cond.code yX5_inFrame cX5_inFrame 4 (some .int), Cond.methodLink RX5 164 yX5_those, Cond.instanceMethod yX5_those, Cond.selects RX5 yX5_those yX5_those, Cond.code yX5_those cX5_those 5 (some .int), Cond.methodLink RX5 73 yX5_flickers, Cond.instanceMethod yX5_flickers, Cond.selects RX5 yX5_flickers yX5_flickers, Cond.code yX5_flickers cX5_flickers 4 (some .boolean), Cond.methodLink RX5 67 yX5_gap, Cond.instanceMethod yX5_gap, Cond.selects RX5 yX5_gap yX5_gap, Cond.code yX5_gap cX5_gap 5 (some .int), Cond.methodLink RX5 84 yX5_isSeen, Cond.instanceMethod yX5_isSeen, Cond.selects RX5 yX5_isSeen yX5_isSeen, Cond.code yX5_isSeen cX5_isSeen 4 (some .boolean)]
def wsX5_count_r3 : List Cond := [Cond.methodLink RX5 70 yX5_light, Cond.instanceMethod yX5_light, Cond.selects RX5 yX5_light yX5_light, Cond.code yX5_light cX5_light 4 (some .int), Cond.methodLink RX5 151 yX5_isClear, Cond.instanceMethod yX5_isClear, Cond.selects RX5 yX5_isClear yX5_isClear, Cond.code yX5_isClear cX5_isClear 3 (some .boolean), Cond.methodLink RX5 81 yX5_readable, Cond.instanceMethod yX5_readable, Cond.selects RX5 yX5_readable yX5_readable, Cond.code yX5_readable cX5_readable 4 (some .int), Cond.methodLink RX5 77 yX5_shownAs, Cond.instanceMethod yX5_shownAs, Cond.selects RX5 yX5_shownAs yX5_shownAs, Cond.code yX5_shownAs cX5_shownAs 3 (some .int), Cond.fieldLink RX5 7 "TurnDigitsModel" "masks" "[I", Cond.methodLink RX5 168 yX5_burnt, Cond.instanceMethod yX5_burnt, Cond.selects RX5 yX5_burnt yX5_burnt, Cond.code yX5_burnt cX5_burnt 3 (some .int), Cond.methodLink RX5 157 yX5_ones, Cond.static yX5_ones, Cond.code yX5_ones cX5_ones 3 (some .int)]
def wsX5_count_r4 : List Cond := [Cond.methodLink RX5 48 yX5_fails, Cond.instanceMethod yX5_fails, Cond.selects RX5 yX5_fails yX5_fails, Cond.code yX5_fails cX5_fails 2 (some .int)]
def wsX5_count : List Cond := .code yX5_count cX5_count 2 (some .int) :: ((wsX5_count_r1 ++ (wsX5_count_r2 ++ (wsX5_count_r3 ++ wsX5_count_r4))) ++ wsX50)
def wsX5_setting : List Cond := .code yX5_setting cX5_setting 2 (some .int) :: ([.fieldLink RX5 37 "TurnDigitsModel" "thrown" "I", .fieldLink RX5 13 "TurnDigitsModel" "now" "[I", .methodLink RX5 41 yX5_in, .static yX5_in, .initialized RX5, .code yX5_in cX5_in 3 (some .boolean), .methodLink RX5 48 yX5_fails, .instanceMethod yX5_fails, .selects RX5 yX5_fails yX5_fails, .code yX5_fails cX5_fails 2 (some .int)] ++ wsX50)
def wsX5_tries : List Cond := .code yX5_tries cX5_tries 4 none :: ([.fieldLink RX5 16 "TurnDigitsModel" "then" "[I", .fieldLink RX5 13 "TurnDigitsModel" "now" "[I", .methodLink RX5 147 yX5_frames, .instanceMethod yX5_frames, .selects RX5 yX5_frames yX5_frames, .initialized RX5, .code yX5_frames cX5_frames 3 none, .fieldLink RX5 56 "TurnDigitsModel" "frame" "I", .fieldLink RX5 34 "TurnDigitsModel" "credits" "[I", .fieldLink RX5 28 "TurnDigitsModel" "owners" "[I", .fieldLink RX5 31 "TurnDigitsModel" "lits" "[I", .methodLink RX5 59 yX5_turns, .static yX5_turns, .code yX5_turns cX5_turns 5 (some .int), .methodLink RX5 52 yX5_levels, .static yX5_levels, .code yX5_levels cX5_levels 3 (some .int), .methodLink RX5 63 yX5_litBy, .static yX5_litBy, .code yX5_litBy cX5_litBy 4 (some .int)] ++ wsX50)
def wsX5_byLevel_r1 : List Cond := [Cond.fieldLink RX5 16 "TurnDigitsModel" "then" "[I", Cond.methodLink RX5 174 yX5_tries, Cond.instanceMethod yX5_tries, Cond.selects RX5 yX5_tries yX5_tries, Cond.initialized RX5, Cond.code yX5_tries cX5_tries 4 none, Cond.fieldLink RX5 13 "TurnDigitsModel" "now" "[I", Cond.methodLink RX5 147 yX5_frames, Cond.instanceMethod yX5_frames, Cond.selects RX5 yX5_frames yX5_frames, Cond.code yX5_frames cX5_frames 3 none, Cond.fieldLink RX5 56 "TurnDigitsModel" "frame" "I", Cond.fieldLink RX5 34 "TurnDigitsModel" "credits" "[I", Cond.fieldLink RX5 28 "TurnDigitsModel" "owners" "[I", Cond.fieldLink RX5 31 "TurnDigitsModel" "lits" "[I", Cond.methodLink RX5 59 yX5_turns, Cond.static yX5_turns, Cond.code yX5_turns cX5_turns 5 (some .int), Cond.methodLink RX5 52 yX5_levels, Cond.static yX5_levels, Cond.code yX5_levels cX5_levels 3 (some .int), Cond.methodLink RX5 63 yX5_litBy, Cond.static yX5_litBy, Cond.code yX5_litBy cX5_litBy 4 (some .int)]
def wsX5_byLevel_r2 : List Cond := [Cond.methodLink RX5 70 yX5_light, Cond.instanceMethod yX5_light, Cond.selects RX5 yX5_light yX5_light, Cond.code yX5_light cX5_light 4 (some .int), Cond.methodLink RX5 164 yX5_those, Cond.instanceMethod yX5_those, Cond.selects RX5 yX5_those yX5_those, Cond.code yX5_those cX5_those 5 (some .int), Cond.methodLink RX5 73 yX5_flickers, Cond.instanceMethod yX5_flickers, Cond.selects RX5 yX5_flickers yX5_flickers, Cond.code yX5_flickers cX5_flickers 4 (some .boolean), Cond.methodLink RX5 67 yX5_gap, Cond.instanceMethod yX5_gap, Cond.selects RX5 yX5_gap yX5_gap, Cond.code yX5_gap cX5_gap 5 (some .int), Cond.methodLink RX5 84 yX5_isSeen, Cond.instanceMethod yX5_isSeen, Cond.selects RX5 yX5_isSeen yX5_isSeen, Cond.code yX5_isSeen cX5_isSeen 4 (some .boolean), Cond.methodLink RX5 151 yX5_isClear, Cond.instanceMethod yX5_isClear, Cond.selects RX5 yX5_isClear yX5_isClear, Cond.code yX5_isClear cX5_isClear 3 (some .boolean)]
def wsX5_byLevel_r3 : List Cond := [Cond.methodLink RX5 81 yX5_readable, Cond.instanceMethod yX5_readable, Cond.selects RX5 yX5_readable yX5_readable, Cond.code yX5_readable cX5_readable 4 (some .int), Cond.methodLink RX5 77 yX5_shownAs, Cond.instanceMethod yX5_shownAs, Cond.selects RX5 yX5_shownAs yX5_shownAs, Cond.code yX5_shownAs cX5_shownAs 3 (some .int), Cond.fieldLink RX5 7 "TurnDigitsModel" "masks" "[I"]
def wsX5_byLevel : List Cond := .code yX5_byLevel cX5_byLevel 4 (some .int) :: ((wsX5_byLevel_r1 ++ (wsX5_byLevel_r2 ++ wsX5_byLevel_r3)) ++ wsX50)
def wsX5_ifLevel_r1 : List Cond := [Cond.fieldLink RX5 37 "TurnDigitsModel" "thrown" "I", Cond.methodLink RX5 87 yX5_isDigit, Cond.static yX5_isDigit, Cond.initialized RX5, Cond.code yX5_isDigit cX5_isDigit 1 (some .boolean), Cond.methodLink RX5 41 yX5_in, Cond.static yX5_in, Cond.code yX5_in cX5_in 3 (some .boolean), Cond.methodLink RX5 48 yX5_fails, Cond.instanceMethod yX5_fails, Cond.selects RX5 yX5_fails yX5_fails, Cond.code yX5_fails cX5_fails 2 (some .int), Cond.methodLink RX5 100 yX5_isLevel, Cond.static yX5_isLevel, Cond.code yX5_isLevel cX5_isLevel 1 (some .boolean), Cond.methodLink RX5 178 yX5_byLevel, Cond.instanceMethod yX5_byLevel, Cond.selects RX5 yX5_byLevel yX5_byLevel, Cond.code yX5_byLevel cX5_byLevel 4 (some .int), Cond.fieldLink RX5 16 "TurnDigitsModel" "then" "[I", Cond.methodLink RX5 174 yX5_tries, Cond.instanceMethod yX5_tries, Cond.selects RX5 yX5_tries yX5_tries, Cond.code yX5_tries cX5_tries 4 none]
def wsX5_ifLevel_r2 : List Cond := [Cond.fieldLink RX5 13 "TurnDigitsModel" "now" "[I", Cond.methodLink RX5 147 yX5_frames, Cond.instanceMethod yX5_frames, Cond.selects RX5 yX5_frames yX5_frames, Cond.code yX5_frames cX5_frames 3 none, Cond.fieldLink RX5 56 "TurnDigitsModel" "frame" "I", Cond.fieldLink RX5 34 "TurnDigitsModel" "credits" "[I", Cond.fieldLink RX5 28 "TurnDigitsModel" "owners" "[I", Cond.fieldLink RX5 31 "TurnDigitsModel" "lits" "[I", Cond.methodLink RX5 59 yX5_turns, Cond.static yX5_turns, Cond.code yX5_turns cX5_turns 5 (some .int), Cond.methodLink RX5 52 yX5_levels, Cond.static yX5_levels, Cond.code yX5_levels cX5_levels 3 (some .int), Cond.methodLink RX5 63 yX5_litBy, Cond.static yX5_litBy, Cond.code yX5_litBy cX5_litBy 4 (some .int), Cond.methodLink RX5 70 yX5_light, Cond.instanceMethod yX5_light, Cond.selects RX5 yX5_light yX5_light, Cond.code yX5_light cX5_light 4 (some .int), Cond.methodLink RX5 164 yX5_those, Cond.instanceMethod yX5_those]
def wsX5_ifLevel_r3 : List Cond := [Cond.selects RX5 yX5_those yX5_those, Cond.code yX5_those cX5_those 5 (some .int), Cond.methodLink RX5 73 yX5_flickers, Cond.instanceMethod yX5_flickers, Cond.selects RX5 yX5_flickers yX5_flickers, Cond.code yX5_flickers cX5_flickers 4 (some .boolean), Cond.methodLink RX5 67 yX5_gap, Cond.instanceMethod yX5_gap, Cond.selects RX5 yX5_gap yX5_gap, Cond.code yX5_gap cX5_gap 5 (some .int), Cond.methodLink RX5 84 yX5_isSeen, Cond.instanceMethod yX5_isSeen, Cond.selects RX5 yX5_isSeen yX5_isSeen, Cond.code yX5_isSeen cX5_isSeen 4 (some .boolean), Cond.methodLink RX5 151 yX5_isClear, Cond.instanceMethod yX5_isClear, Cond.selects RX5 yX5_isClear yX5_isClear, Cond.code yX5_isClear cX5_isClear 3 (some .boolean), Cond.methodLink RX5 81 yX5_readable, Cond.instanceMethod yX5_readable, Cond.selects RX5 yX5_readable yX5_readable, Cond.code yX5_readable cX5_readable 4 (some .int), Cond.methodLink RX5 77 yX5_shownAs, Cond.instanceMethod yX5_shownAs]
def wsX5_ifLevel_r4 : List Cond := [Cond.selects RX5 yX5_shownAs yX5_shownAs, Cond.code yX5_shownAs cX5_shownAs 3 (some .int), Cond.fieldLink RX5 7 "TurnDigitsModel" "masks" "[I"]
def wsX5_ifLevel : List Cond := .code yX5_ifLevel cX5_ifLevel 4 (some .int) :: ((wsX5_ifLevel_r1 ++ (wsX5_ifLevel_r2 ++ (wsX5_ifLevel_r3 ++ wsX5_ifLevel_r4))) ++ wsX50)
def wsX5_least_r1 : List Cond := [Cond.fieldLink RX5 16 "TurnDigitsModel" "then" "[I", Cond.methodLink RX5 174 yX5_tries, Cond.instanceMethod yX5_tries, Cond.selects RX5 yX5_tries yX5_tries, Cond.initialized RX5, Cond.code yX5_tries cX5_tries 4 none, Cond.fieldLink RX5 13 "TurnDigitsModel" "now" "[I", Cond.methodLink RX5 147 yX5_frames, Cond.instanceMethod yX5_frames, Cond.selects RX5 yX5_frames yX5_frames, Cond.code yX5_frames cX5_frames 3 none, Cond.fieldLink RX5 56 "TurnDigitsModel" "frame" "I", Cond.fieldLink RX5 34 "TurnDigitsModel" "credits" "[I", Cond.fieldLink RX5 28 "TurnDigitsModel" "owners" "[I", Cond.fieldLink RX5 31 "TurnDigitsModel" "lits" "[I", Cond.methodLink RX5 59 yX5_turns, Cond.static yX5_turns, Cond.code yX5_turns cX5_turns 5 (some .int), Cond.methodLink RX5 52 yX5_levels, Cond.static yX5_levels, Cond.code yX5_levels cX5_levels 3 (some .int), Cond.methodLink RX5 63 yX5_litBy, Cond.static yX5_litBy, Cond.code yX5_litBy cX5_litBy 4 (some .int)]
def wsX5_least_r2 : List Cond := [Cond.methodLink RX5 84 yX5_isSeen, Cond.instanceMethod yX5_isSeen, Cond.selects RX5 yX5_isSeen yX5_isSeen, Cond.code yX5_isSeen cX5_isSeen 4 (some .boolean), Cond.methodLink RX5 70 yX5_light, Cond.instanceMethod yX5_light, Cond.selects RX5 yX5_light yX5_light, Cond.code yX5_light cX5_light 4 (some .int), Cond.methodLink RX5 73 yX5_flickers, Cond.instanceMethod yX5_flickers, Cond.selects RX5 yX5_flickers yX5_flickers, Cond.code yX5_flickers cX5_flickers 4 (some .boolean), Cond.methodLink RX5 67 yX5_gap, Cond.instanceMethod yX5_gap, Cond.selects RX5 yX5_gap yX5_gap, Cond.code yX5_gap cX5_gap 5 (some .int)]
def wsX5_least : List Cond := .code yX5_least cX5_least 3 (some .int) :: ((wsX5_least_r1 ++ wsX5_least_r2) ++ wsX50)
def wsX5_leastLevel_r1 : List Cond := [Cond.fieldLink RX5 37 "TurnDigitsModel" "thrown" "I", Cond.methodLink RX5 87 yX5_isDigit, Cond.static yX5_isDigit, Cond.initialized RX5, Cond.code yX5_isDigit cX5_isDigit 1 (some .boolean), Cond.methodLink RX5 41 yX5_in, Cond.static yX5_in, Cond.code yX5_in cX5_in 3 (some .boolean), Cond.methodLink RX5 182 yX5_least, Cond.instanceMethod yX5_least, Cond.selects RX5 yX5_least yX5_least, Cond.code yX5_least cX5_least 3 (some .int), Cond.fieldLink RX5 16 "TurnDigitsModel" "then" "[I", Cond.methodLink RX5 174 yX5_tries, Cond.instanceMethod yX5_tries, Cond.selects RX5 yX5_tries yX5_tries, Cond.code yX5_tries cX5_tries 4 none, Cond.fieldLink RX5 13 "TurnDigitsModel" "now" "[I", Cond.methodLink RX5 147 yX5_frames, Cond.instanceMethod yX5_frames, Cond.selects RX5 yX5_frames yX5_frames, Cond.code yX5_frames cX5_frames 3 none, Cond.fieldLink RX5 56 "TurnDigitsModel" "frame" "I", Cond.fieldLink RX5 34 "TurnDigitsModel" "credits" "[I"]
def wsX5_leastLevel_r2 : List Cond := [Cond.fieldLink RX5 28 "TurnDigitsModel" "owners" "[I", Cond.fieldLink RX5 31 "TurnDigitsModel" "lits" "[I", Cond.methodLink RX5 59 yX5_turns, Cond.static yX5_turns, Cond.code yX5_turns cX5_turns 5 (some .int), Cond.methodLink RX5 52 yX5_levels, Cond.static yX5_levels, Cond.code yX5_levels cX5_levels 3 (some .int), Cond.methodLink RX5 63 yX5_litBy, Cond.static yX5_litBy, Cond.code yX5_litBy cX5_litBy 4 (some .int), Cond.methodLink RX5 84 yX5_isSeen, Cond.instanceMethod yX5_isSeen, Cond.selects RX5 yX5_isSeen yX5_isSeen, Cond.code yX5_isSeen cX5_isSeen 4 (some .boolean), Cond.methodLink RX5 70 yX5_light, Cond.instanceMethod yX5_light, Cond.selects RX5 yX5_light yX5_light, Cond.code yX5_light cX5_light 4 (some .int), Cond.methodLink RX5 73 yX5_flickers, Cond.instanceMethod yX5_flickers, Cond.selects RX5 yX5_flickers yX5_flickers, Cond.code yX5_flickers cX5_flickers 4 (some .boolean), Cond.methodLink RX5 67 yX5_gap]
def wsX5_leastLevel_r3 : List Cond := [Cond.instanceMethod yX5_gap, Cond.selects RX5 yX5_gap yX5_gap, Cond.code yX5_gap cX5_gap 5 (some .int), Cond.methodLink RX5 48 yX5_fails, Cond.instanceMethod yX5_fails, Cond.selects RX5 yX5_fails yX5_fails, Cond.code yX5_fails cX5_fails 2 (some .int)]
def wsX5_leastLevel : List Cond := .code yX5_leastLevel cX5_leastLevel 2 (some .int) :: ((wsX5_leastLevel_r1 ++ (wsX5_leastLevel_r2 ++ wsX5_leastLevel_r3)) ++ wsX50)
def wsX5_alike : List Cond := .code yX5_alike cX5_alike 5 (some .int) :: ([.methodLink RX5 77 yX5_shownAs, .instanceMethod yX5_shownAs, .selects RX5 yX5_shownAs yX5_shownAs, .initialized RX5, .code yX5_shownAs cX5_shownAs 3 (some .int), .fieldLink RX5 7 "TurnDigitsModel" "masks" "[I", .fieldLink RX5 13 "TurnDigitsModel" "now" "[I"] ++ wsX50)
def wsX5_alikeSigns : List Cond := .code yX5_alikeSigns cX5_alikeSigns 2 (some .int) :: ([.fieldLink RX5 37 "TurnDigitsModel" "thrown" "I", .methodLink RX5 87 yX5_isDigit, .static yX5_isDigit, .initialized RX5, .code yX5_isDigit cX5_isDigit 1 (some .boolean), .methodLink RX5 41 yX5_in, .static yX5_in, .code yX5_in cX5_in 3 (some .boolean), .methodLink RX5 185 yX5_alike, .instanceMethod yX5_alike, .selects RX5 yX5_alike yX5_alike, .code yX5_alike cX5_alike 5 (some .int), .methodLink RX5 77 yX5_shownAs, .instanceMethod yX5_shownAs, .selects RX5 yX5_shownAs yX5_shownAs, .code yX5_shownAs cX5_shownAs 3 (some .int), .fieldLink RX5 7 "TurnDigitsModel" "masks" "[I", .fieldLink RX5 13 "TurnDigitsModel" "now" "[I", .methodLink RX5 48 yX5_fails, .instanceMethod yX5_fails, .selects RX5 yX5_fails yX5_fails, .code yX5_fails cX5_fails 2 (some .int)] ++ wsX50)
def wsX5_shownNumber_r1 : List Cond := [Cond.fieldLink RX5 13 "TurnDigitsModel" "now" "[I", Cond.methodLink RX5 147 yX5_frames, Cond.instanceMethod yX5_frames, Cond.selects RX5 yX5_frames yX5_frames, Cond.initialized RX5, Cond.code yX5_frames cX5_frames 3 none, Cond.fieldLink RX5 56 "TurnDigitsModel" "frame" "I", Cond.fieldLink RX5 34 "TurnDigitsModel" "credits" "[I", Cond.fieldLink RX5 28 "TurnDigitsModel" "owners" "[I", Cond.fieldLink RX5 31 "TurnDigitsModel" "lits" "[I", Cond.methodLink RX5 59 yX5_turns, Cond.static yX5_turns, Cond.code yX5_turns cX5_turns 5 (some .int), Cond.methodLink RX5 52 yX5_levels, Cond.static yX5_levels, Cond.code yX5_levels cX5_levels 3 (some .int), Cond.methodLink RX5 63 yX5_litBy, Cond.static yX5_litBy, Cond.code yX5_litBy cX5_litBy 4 (some .int), Cond.methodLink RX5 151 yX5_isClear, Cond.instanceMethod yX5_isClear, Cond.selects RX5 yX5_isClear yX5_isClear, Cond.code yX5_isClear cX5_isClear 3 (some .boolean), Cond.methodLink RX5 81 yX5_readable]
def wsX5_shownNumber_r2 : List Cond := [Cond.instanceMethod yX5_readable, Cond.selects RX5 yX5_readable yX5_readable, Cond.code yX5_readable cX5_readable 4 (some .int), Cond.methodLink RX5 77 yX5_shownAs, Cond.instanceMethod yX5_shownAs, Cond.selects RX5 yX5_shownAs yX5_shownAs, Cond.code yX5_shownAs cX5_shownAs 3 (some .int), Cond.fieldLink RX5 7 "TurnDigitsModel" "masks" "[I", Cond.methodLink RX5 84 yX5_isSeen, Cond.instanceMethod yX5_isSeen, Cond.selects RX5 yX5_isSeen yX5_isSeen, Cond.code yX5_isSeen cX5_isSeen 4 (some .boolean), Cond.methodLink RX5 70 yX5_light, Cond.instanceMethod yX5_light, Cond.selects RX5 yX5_light yX5_light, Cond.code yX5_light cX5_light 4 (some .int), Cond.methodLink RX5 73 yX5_flickers, Cond.instanceMethod yX5_flickers, Cond.selects RX5 yX5_flickers yX5_flickers, Cond.code yX5_flickers cX5_flickers 4 (some .boolean), Cond.methodLink RX5 67 yX5_gap, Cond.instanceMethod yX5_gap, Cond.selects RX5 yX5_gap yX5_gap, Cond.code yX5_gap cX5_gap 5 (some .int)]
def wsX5_shownNumber : List Cond := .code yX5_shownNumber cX5_shownNumber 5 (some .int) :: ((wsX5_shownNumber_r1 ++ wsX5_shownNumber_r2) ++ wsX50)
def wsX5_numberShown_r1 : List Cond := [Cond.fieldLink RX5 37 "TurnDigitsModel" "thrown" "I", Cond.methodLink RX5 188 yX5_shownNumber, Cond.instanceMethod yX5_shownNumber, Cond.selects RX5 yX5_shownNumber yX5_shownNumber, Cond.initialized RX5, Cond.code yX5_shownNumber cX5_shownNumber 5 (some .int), Cond.fieldLink RX5 13 "TurnDigitsModel" "now" "[I", Cond.methodLink RX5 147 yX5_frames, Cond.instanceMethod yX5_frames, Cond.selects RX5 yX5_frames yX5_frames, Cond.code yX5_frames cX5_frames 3 none, Cond.fieldLink RX5 56 "TurnDigitsModel" "frame" "I", Cond.fieldLink RX5 34 "TurnDigitsModel" "credits" "[I", Cond.fieldLink RX5 28 "TurnDigitsModel" "owners" "[I", Cond.fieldLink RX5 31 "TurnDigitsModel" "lits" "[I", Cond.methodLink RX5 59 yX5_turns, Cond.static yX5_turns, Cond.code yX5_turns cX5_turns 5 (some .int), Cond.methodLink RX5 52 yX5_levels, Cond.static yX5_levels, Cond.code yX5_levels cX5_levels 3 (some .int), Cond.methodLink RX5 63 yX5_litBy, Cond.static yX5_litBy, Cond.code yX5_litBy cX5_litBy 4 (some .int)]
def wsX5_numberShown_r2 : List Cond := [Cond.methodLink RX5 151 yX5_isClear, Cond.instanceMethod yX5_isClear, Cond.selects RX5 yX5_isClear yX5_isClear, Cond.code yX5_isClear cX5_isClear 3 (some .boolean), Cond.methodLink RX5 81 yX5_readable, Cond.instanceMethod yX5_readable, Cond.selects RX5 yX5_readable yX5_readable, Cond.code yX5_readable cX5_readable 4 (some .int), Cond.methodLink RX5 77 yX5_shownAs, Cond.instanceMethod yX5_shownAs, Cond.selects RX5 yX5_shownAs yX5_shownAs, Cond.code yX5_shownAs cX5_shownAs 3 (some .int), Cond.fieldLink RX5 7 "TurnDigitsModel" "masks" "[I", Cond.methodLink RX5 84 yX5_isSeen, Cond.instanceMethod yX5_isSeen, Cond.selects RX5 yX5_isSeen yX5_isSeen, Cond.code yX5_isSeen cX5_isSeen 4 (some .boolean), Cond.methodLink RX5 70 yX5_light, Cond.instanceMethod yX5_light, Cond.selects RX5 yX5_light yX5_light, Cond.code yX5_light cX5_light 4 (some .int), Cond.methodLink RX5 73 yX5_flickers, Cond.instanceMethod yX5_flickers, Cond.selects RX5 yX5_flickers yX5_flickers]
def wsX5_numberShown_r3 : List Cond := [Cond.code yX5_flickers cX5_flickers 4 (some .boolean), Cond.methodLink RX5 67 yX5_gap, Cond.instanceMethod yX5_gap, Cond.selects RX5 yX5_gap yX5_gap, Cond.code yX5_gap cX5_gap 5 (some .int)]
def wsX5_numberShown : List Cond := .code yX5_numberShown cX5_numberShown 1 (some .int) :: ((wsX5_numberShown_r1 ++ (wsX5_numberShown_r2 ++ wsX5_numberShown_r3)) ++ wsX50)
def wsX5_even : List Cond := .code yX5_even cX5_even 5 (some .double) :: ([.fieldLink RX5 13 "TurnDigitsModel" "now" "[I", .methodLink RX5 147 yX5_frames, .instanceMethod yX5_frames, .selects RX5 yX5_frames yX5_frames, .initialized RX5, .code yX5_frames cX5_frames 3 none, .fieldLink RX5 56 "TurnDigitsModel" "frame" "I", .fieldLink RX5 34 "TurnDigitsModel" "credits" "[I", .fieldLink RX5 28 "TurnDigitsModel" "owners" "[I", .fieldLink RX5 31 "TurnDigitsModel" "lits" "[I", .methodLink RX5 59 yX5_turns, .static yX5_turns, .code yX5_turns cX5_turns 5 (some .int), .methodLink RX5 52 yX5_levels, .static yX5_levels, .code yX5_levels cX5_levels 3 (some .int), .methodLink RX5 63 yX5_litBy, .static yX5_litBy, .code yX5_litBy cX5_litBy 4 (some .int), .methodLink RX5 70 yX5_light, .instanceMethod yX5_light, .selects RX5 yX5_light yX5_light, .code yX5_light cX5_light 4 (some .int)] ++ wsX50)
def wsX5_evenness_r1 : List Cond := [Cond.fieldLink RX5 37 "TurnDigitsModel" "thrown" "I", Cond.methodLink RX5 191 yX5_even, Cond.instanceMethod yX5_even, Cond.selects RX5 yX5_even yX5_even, Cond.initialized RX5, Cond.code yX5_even cX5_even 5 (some .double), Cond.fieldLink RX5 13 "TurnDigitsModel" "now" "[I", Cond.methodLink RX5 147 yX5_frames, Cond.instanceMethod yX5_frames, Cond.selects RX5 yX5_frames yX5_frames, Cond.code yX5_frames cX5_frames 3 none, Cond.fieldLink RX5 56 "TurnDigitsModel" "frame" "I", Cond.fieldLink RX5 34 "TurnDigitsModel" "credits" "[I", Cond.fieldLink RX5 28 "TurnDigitsModel" "owners" "[I", Cond.fieldLink RX5 31 "TurnDigitsModel" "lits" "[I", Cond.methodLink RX5 59 yX5_turns, Cond.static yX5_turns, Cond.code yX5_turns cX5_turns 5 (some .int), Cond.methodLink RX5 52 yX5_levels, Cond.static yX5_levels, Cond.code yX5_levels cX5_levels 3 (some .int), Cond.methodLink RX5 63 yX5_litBy, Cond.static yX5_litBy, Cond.code yX5_litBy cX5_litBy 4 (some .int)]
def wsX5_evenness_r2 : List Cond := [Cond.methodLink RX5 70 yX5_light, Cond.instanceMethod yX5_light, Cond.selects RX5 yX5_light yX5_light, Cond.code yX5_light cX5_light 4 (some .int)]
def wsX5_evenness : List Cond := .code yX5_evenness cX5_evenness 1 (some .double) :: ((wsX5_evenness_r1 ++ wsX5_evenness_r2) ++ wsX50)
def wsJxe99ae_isNaN_b9ae7 : List Cond := .code yJxe99ae_isNaN_b9ae7 cJxe99ae_isNaN_b9ae7 2 (some .boolean) :: ([])
def wsJxe99ae_doubleToLongBits_ccdee : List Cond := .code yJxe99ae_doubleToLongBits_ccdee cJxe99ae_doubleToLongBits_ccdee 2 (some .long) :: ([.methodLink RJxe99ae 134 ⟨"java/lang/Double", "doubleToRawLongBits", "(D)J"⟩, .native ⟨"java/lang/Double", "doubleToRawLongBits", "(D)J"⟩, .static ⟨"java/lang/Double", "doubleToRawLongBits", "(D)J"⟩, .initialized "java/lang/Double", .constantLong RJxe99ae 137 (9221120237041090560), .methodLink RJxe99ae 122 yJxe99ae_isNaN_b9ae7, .static yJxe99ae_isNaN_b9ae7, .initialized RJxe99ae, .code yJxe99ae_isNaN_b9ae7 cJxe99ae_isNaN_b9ae7 2 (some .boolean)])
def wsX5_digest_r1 : List Cond := [Cond.fieldLink RX5 37 "TurnDigitsModel" "thrown" "I", Cond.constantLong RX5 195 (2729), Cond.constantLong RX5 197 (31), Cond.fieldLink RX5 13 "TurnDigitsModel" "now" "[I", Cond.fieldLink RX5 31 "TurnDigitsModel" "lits" "[I", Cond.fieldLink RX5 28 "TurnDigitsModel" "owners" "[I", Cond.fieldLink RX5 121 "TurnDigitsModel" "typed" "I", Cond.fieldLink RX5 22 "TurnDigitsModel" "text" "[I", Cond.methodLink RX5 171 yX5_counted, Cond.instanceMethod yX5_counted, Cond.selects RX5 yX5_counted yX5_counted, Cond.initialized RX5, Cond.code yX5_counted cX5_counted 2 (some .int), Cond.fieldLink RX5 45 "TurnDigitsModel" "kept" "I", Cond.methodLink RX5 147 yX5_frames, Cond.instanceMethod yX5_frames, Cond.selects RX5 yX5_frames yX5_frames, Cond.code yX5_frames cX5_frames 3 none, Cond.fieldLink RX5 56 "TurnDigitsModel" "frame" "I", Cond.fieldLink RX5 34 "TurnDigitsModel" "credits" "[I", Cond.methodLink RX5 59 yX5_turns, Cond.static yX5_turns, Cond.code yX5_turns cX5_turns 5 (some .int), Cond.methodLink RX5 52 yX5_levels]
def wsX5_digest_r2 : List Cond := [Cond.static yX5_levels, Cond.code yX5_levels cX5_levels 3 (some .int), Cond.methodLink RX5 63 yX5_litBy, Cond.static yX5_litBy, Cond.code yX5_litBy cX5_litBy 4 (some .int), Cond.methodLink RX5 160 yX5_inFrame, Cond.instanceMethod yX5_inFrame, Cond.selects RX5 yX5_inFrame yX5_inFrame, Cond.code yX5_inFrame cX5_inFrame 4 (some .int), Cond.methodLink RX5 164 yX5_those, Cond.instanceMethod yX5_those, Cond.selects RX5 yX5_those yX5_those, Cond.code yX5_those cX5_those 5 (some .int), Cond.methodLink RX5 73 yX5_flickers, Cond.instanceMethod yX5_flickers, Cond.selects RX5 yX5_flickers yX5_flickers, Cond.code yX5_flickers cX5_flickers 4 (some .boolean), Cond.methodLink RX5 67 yX5_gap, Cond.instanceMethod yX5_gap, Cond.selects RX5 yX5_gap yX5_gap, Cond.code yX5_gap cX5_gap 5 (some .int), Cond.methodLink RX5 84 yX5_isSeen, Cond.instanceMethod yX5_isSeen, Cond.selects RX5 yX5_isSeen yX5_isSeen]
def wsX5_digest_r3 : List Cond := [Cond.code yX5_isSeen cX5_isSeen 4 (some .boolean), Cond.methodLink RX5 70 yX5_light, Cond.instanceMethod yX5_light, Cond.selects RX5 yX5_light yX5_light, Cond.code yX5_light cX5_light 4 (some .int), Cond.methodLink RX5 151 yX5_isClear, Cond.instanceMethod yX5_isClear, Cond.selects RX5 yX5_isClear yX5_isClear, Cond.code yX5_isClear cX5_isClear 3 (some .boolean), Cond.methodLink RX5 81 yX5_readable, Cond.instanceMethod yX5_readable, Cond.selects RX5 yX5_readable yX5_readable, Cond.code yX5_readable cX5_readable 4 (some .int), Cond.methodLink RX5 77 yX5_shownAs, Cond.instanceMethod yX5_shownAs, Cond.selects RX5 yX5_shownAs yX5_shownAs, Cond.code yX5_shownAs cX5_shownAs 3 (some .int), Cond.fieldLink RX5 7 "TurnDigitsModel" "masks" "[I", Cond.methodLink RX5 168 yX5_burnt, Cond.instanceMethod yX5_burnt, Cond.selects RX5 yX5_burnt yX5_burnt, Cond.code yX5_burnt cX5_burnt 3 (some .int), Cond.methodLink RX5 157 yX5_ones, Cond.static yX5_ones]
def wsX5_digest_r4 : List Cond := [Cond.code yX5_ones cX5_ones 3 (some .int), Cond.methodLink RX5 154 yX5_ofDigit, Cond.instanceMethod yX5_ofDigit, Cond.selects RX5 yX5_ofDigit yX5_ofDigit, Cond.code yX5_ofDigit cX5_ofDigit 3 (some .int), Cond.methodLink RX5 178 yX5_byLevel, Cond.instanceMethod yX5_byLevel, Cond.selects RX5 yX5_byLevel yX5_byLevel, Cond.code yX5_byLevel cX5_byLevel 4 (some .int), Cond.fieldLink RX5 16 "TurnDigitsModel" "then" "[I", Cond.methodLink RX5 174 yX5_tries, Cond.instanceMethod yX5_tries, Cond.selects RX5 yX5_tries yX5_tries, Cond.code yX5_tries cX5_tries 4 none, Cond.methodLink RX5 182 yX5_least, Cond.instanceMethod yX5_least, Cond.selects RX5 yX5_least yX5_least, Cond.code yX5_least cX5_least 3 (some .int), Cond.methodLink RX5 185 yX5_alike, Cond.instanceMethod yX5_alike, Cond.selects RX5 yX5_alike yX5_alike, Cond.code yX5_alike cX5_alike 5 (some .int), Cond.methodLink RX5 188 yX5_shownNumber, Cond.instanceMethod yX5_shownNumber]
def wsX5_digest_r5 : List Cond := [Cond.selects RX5 yX5_shownNumber yX5_shownNumber, Cond.code yX5_shownNumber cX5_shownNumber 5 (some .int), Cond.methodLink RX5 191 yX5_even, Cond.instanceMethod yX5_even, Cond.selects RX5 yX5_even yX5_even, Cond.code yX5_even cX5_even 5 (some .double), Cond.methodLink RX5 199 yJxe99ae_doubleToLongBits_ccdee, Cond.static yJxe99ae_doubleToLongBits_ccdee, Cond.initialized RJxe99ae, Cond.code yJxe99ae_doubleToLongBits_ccdee cJxe99ae_doubleToLongBits_ccdee 2 (some .long), Cond.methodLink RJxe99ae 134 ⟨"java/lang/Double", "doubleToRawLongBits", "(D)J"⟩, Cond.native ⟨"java/lang/Double", "doubleToRawLongBits", "(D)J"⟩, Cond.static ⟨"java/lang/Double", "doubleToRawLongBits", "(D)J"⟩, Cond.initialized "java/lang/Double", Cond.constantLong RJxe99ae 137 (9221120237041090560), Cond.methodLink RJxe99ae 122 yJxe99ae_isNaN_b9ae7, Cond.static yJxe99ae_isNaN_b9ae7, Cond.code yJxe99ae_isNaN_b9ae7 cJxe99ae_isNaN_b9ae7 2 (some .boolean)]
def wsX5_digest : List Cond := .code yX5_digest cX5_digest 5 (some .long) :: ((wsX5_digest_r1 ++ (wsX5_digest_r2 ++ (wsX5_digest_r3 ++ (wsX5_digest_r4 ++ wsX5_digest_r5)))) ++ wsX50)
def wsJ9_max_7cf53 : List Cond := .code yJ9_max_7cf53 cJ9_max_7cf53 2 (some .int) :: ([])
def wsJ9_min_7cf53 : List Cond := .code yJ9_min_7cf53 cJ9_min_7cf53 2 (some .int) :: ([])
def wsL_show_r1 : List Cond := [Cond.classLink RL 13 "java/lang/IndexOutOfBoundsException", Cond.classLink RL 15 "java/lang/IllegalArgumentException", Cond.methodLink RL 7 yX4_show, Cond.instanceMethod yX4_show, Cond.selects RX4 yX4_show yX4_show, Cond.initialized RX4, Cond.code yX4_show cX4_show 4 (some .int), Cond.fieldLink RX4 19 "TurnDigits" "history" "LTurnDigits$History;", Cond.fieldLink RX4 10 "TurnDigits" "state" "LTurnDigits$State;", Cond.fieldLink RX4 52 "TurnDigits$State" "signs" "[I", Cond.methodLink RX4 40 yX4_requireDigit, Cond.static yX4_requireDigit, Cond.code yX4_requireDigit cX4_requireDigit 1 none, Cond.classLink RX4 275 "java/lang/IndexOutOfBoundsException", Cond.initialized "java/lang/IndexOutOfBoundsException", Cond.methodLink RX4 44 yX4_requireRange, Cond.static yX4_requireRange, Cond.code yX4_requireRange cX4_requireRange 3 none, Cond.classLink RX4 130 "java/lang/IllegalArgumentException", Cond.initialized "java/lang/IllegalArgumentException", Cond.methodLink RX4 48 yX1_push, Cond.instanceMethod yX1_push, Cond.selects RX1 yX1_push yX1_push, Cond.initialized RX1]
def wsL_show_r2 : List Cond := [Cond.code yX1_push cX1_push 2 none, Cond.fieldLink RX1 21 "TurnDigits$History" "size" "I", Cond.fieldLink RX1 17 "TurnDigits$History" "oldest" "I", Cond.fieldLink RX1 11 "TurnDigits$History" "saved" "[LTurnDigits$State;", Cond.methodLink RX1 25 yX2_copyFrom, Cond.instanceMethod yX2_copyFrom, Cond.selects RX2 yX2_copyFrom yX2_copyFrom, Cond.initialized RX2, Cond.code yX2_copyFrom cX2_copyFrom 2 none, Cond.fieldLink RX2 9 "TurnDigits$State" "signs" "[I", Cond.methodLink RX2 52 arraycopyName, Cond.native arraycopyName, Cond.static arraycopyName, Cond.initialized "java/lang/System", Cond.fieldLink RX2 15 "TurnDigits$State" "levels" "[I", Cond.fieldLink RX2 18 "TurnDigits$State" "burnt" "[I", Cond.fieldLink RX2 21 "TurnDigits$State" "credits" "[I", Cond.fieldLink RX2 24 "TurnDigits$State" "litSlots" "[I", Cond.fieldLink RX2 27 "TurnDigits$State" "wears" "[I", Cond.fieldLink RX2 30 "TurnDigits$State" "settings" "[I", Cond.fieldLink RX2 33 "TurnDigits$State" "ambientLight" "I", Cond.fieldLink RX2 37 "TurnDigits$State" "time" "I", Cond.fieldLink RX2 40 "TurnDigits$State" "ahead" "I"]
def wsL_show : List Cond := .codeWith yL_show cL_show 5 (some .int) [(0, 10, 13, 13), (0, 10, 17, 15)] :: ((wsL_show_r1 ++ wsL_show_r2) ++ wsX40 ++ wsX20 ++ wsX10 ++ (vx_atS RX4 279 "java/lang/IndexOutOfBoundsException" ["java/lang/RuntimeException", "java/lang/Exception"]).filter goodWord ++ (vx_atS RX4 134 "java/lang/IllegalArgumentException" ["java/lang/RuntimeException", "java/lang/Exception"]).filter goodWord)
def wsL_level_r1 : List Cond := [Cond.classLink RL 13 "java/lang/IndexOutOfBoundsException", Cond.classLink RL 15 "java/lang/IllegalArgumentException", Cond.methodLink RL 17 yX4_level, Cond.instanceMethod yX4_level, Cond.selects RX4 yX4_level yX4_level, Cond.initialized RX4, Cond.code yX4_level cX4_level 4 (some .int), Cond.fieldLink RX4 19 "TurnDigits" "history" "LTurnDigits$History;", Cond.fieldLink RX4 10 "TurnDigits" "state" "LTurnDigits$State;", Cond.fieldLink RX4 56 "TurnDigits$State" "levels" "[I", Cond.methodLink RX4 40 yX4_requireDigit, Cond.static yX4_requireDigit, Cond.code yX4_requireDigit cX4_requireDigit 1 none, Cond.classLink RX4 275 "java/lang/IndexOutOfBoundsException", Cond.initialized "java/lang/IndexOutOfBoundsException", Cond.methodLink RX4 44 yX4_requireRange, Cond.static yX4_requireRange, Cond.code yX4_requireRange cX4_requireRange 3 none, Cond.classLink RX4 130 "java/lang/IllegalArgumentException", Cond.initialized "java/lang/IllegalArgumentException", Cond.methodLink RX4 48 yX1_push, Cond.instanceMethod yX1_push, Cond.selects RX1 yX1_push yX1_push, Cond.initialized RX1]
def wsL_level_r2 : List Cond := [Cond.code yX1_push cX1_push 2 none, Cond.fieldLink RX1 21 "TurnDigits$History" "size" "I", Cond.fieldLink RX1 17 "TurnDigits$History" "oldest" "I", Cond.fieldLink RX1 11 "TurnDigits$History" "saved" "[LTurnDigits$State;", Cond.methodLink RX1 25 yX2_copyFrom, Cond.instanceMethod yX2_copyFrom, Cond.selects RX2 yX2_copyFrom yX2_copyFrom, Cond.initialized RX2, Cond.code yX2_copyFrom cX2_copyFrom 2 none, Cond.fieldLink RX2 9 "TurnDigits$State" "signs" "[I", Cond.methodLink RX2 52 arraycopyName, Cond.native arraycopyName, Cond.static arraycopyName, Cond.initialized "java/lang/System", Cond.fieldLink RX2 15 "TurnDigits$State" "levels" "[I", Cond.fieldLink RX2 18 "TurnDigits$State" "burnt" "[I", Cond.fieldLink RX2 21 "TurnDigits$State" "credits" "[I", Cond.fieldLink RX2 24 "TurnDigits$State" "litSlots" "[I", Cond.fieldLink RX2 27 "TurnDigits$State" "wears" "[I", Cond.fieldLink RX2 30 "TurnDigits$State" "settings" "[I", Cond.fieldLink RX2 33 "TurnDigits$State" "ambientLight" "I", Cond.fieldLink RX2 37 "TurnDigits$State" "time" "I", Cond.fieldLink RX2 40 "TurnDigits$State" "ahead" "I", Cond.methodLink RX4 59 yX2_clearCredits]
def wsL_level_r3 : List Cond := [Cond.instanceMethod yX2_clearCredits, Cond.selects RX2 yX2_clearCredits yX2_clearCredits, Cond.code yX2_clearCredits cX2_clearCredits 1 none, Cond.methodLink RX2 43 yJ7_fill_53178, Cond.static yJ7_fill_53178, Cond.initialized RJ7, Cond.code yJ7_fill_53178 cJ7_fill_53178 4 none]
def wsL_level : List Cond := .codeWith yL_level cL_level 5 (some .int) [(0, 10, 13, 13), (0, 10, 17, 15)] :: ((wsL_level_r1 ++ (wsL_level_r2 ++ wsL_level_r3)) ++ wsX40 ++ wsX20 ++ wsX10 ++ (vx_atS RX4 279 "java/lang/IndexOutOfBoundsException" ["java/lang/RuntimeException", "java/lang/Exception"]).filter goodWord ++ (vx_atS RX4 134 "java/lang/IllegalArgumentException" ["java/lang/RuntimeException", "java/lang/Exception"]).filter goodWord)
def wsL_burn_r1 : List Cond := [Cond.classLink RL 13 "java/lang/IndexOutOfBoundsException", Cond.methodLink RL 20 yX4_burn, Cond.instanceMethod yX4_burn, Cond.selects RX4 yX4_burn yX4_burn, Cond.initialized RX4, Cond.code yX4_burn cX4_burn 6 (some .int), Cond.fieldLink RX4 19 "TurnDigits" "history" "LTurnDigits$History;", Cond.fieldLink RX4 10 "TurnDigits" "state" "LTurnDigits$State;", Cond.fieldLink RX4 65 "TurnDigits$State" "burnt" "[I", Cond.fieldLink RX4 68 "TurnDigits$State" "wears" "[I", Cond.methodLink RX4 40 yX4_requireDigit, Cond.static yX4_requireDigit, Cond.code yX4_requireDigit cX4_requireDigit 1 none, Cond.classLink RX4 275 "java/lang/IndexOutOfBoundsException", Cond.initialized "java/lang/IndexOutOfBoundsException", Cond.methodLink RX4 62 yX4_requireSegment, Cond.static yX4_requireSegment, Cond.code yX4_requireSegment cX4_requireSegment 1 none, Cond.methodLink RX4 48 yX1_push, Cond.instanceMethod yX1_push, Cond.selects RX1 yX1_push yX1_push, Cond.initialized RX1, Cond.code yX1_push cX1_push 2 none, Cond.fieldLink RX1 21 "TurnDigits$History" "size" "I"]
def wsL_burn_r2 : List Cond := [Cond.fieldLink RX1 17 "TurnDigits$History" "oldest" "I", Cond.fieldLink RX1 11 "TurnDigits$History" "saved" "[LTurnDigits$State;", Cond.methodLink RX1 25 yX2_copyFrom, Cond.instanceMethod yX2_copyFrom, Cond.selects RX2 yX2_copyFrom yX2_copyFrom, Cond.initialized RX2, Cond.code yX2_copyFrom cX2_copyFrom 2 none, Cond.fieldLink RX2 9 "TurnDigits$State" "signs" "[I", Cond.methodLink RX2 52 arraycopyName, Cond.native arraycopyName, Cond.static arraycopyName, Cond.initialized "java/lang/System", Cond.fieldLink RX2 15 "TurnDigits$State" "levels" "[I", Cond.fieldLink RX2 18 "TurnDigits$State" "burnt" "[I", Cond.fieldLink RX2 21 "TurnDigits$State" "credits" "[I", Cond.fieldLink RX2 24 "TurnDigits$State" "litSlots" "[I", Cond.fieldLink RX2 27 "TurnDigits$State" "wears" "[I", Cond.fieldLink RX2 30 "TurnDigits$State" "settings" "[I", Cond.fieldLink RX2 33 "TurnDigits$State" "ambientLight" "I", Cond.fieldLink RX2 37 "TurnDigits$State" "time" "I", Cond.fieldLink RX2 40 "TurnDigits$State" "ahead" "I", Cond.methodLink RX4 71 yX4_wearPlace, Cond.static yX4_wearPlace, Cond.code yX4_wearPlace cX4_wearPlace 2 (some .int)]
def wsL_burn : List Cond := .codeWith yL_burn cL_burn 6 (some .int) [(0, 12, 15, 13)] :: ((wsL_burn_r1 ++ wsL_burn_r2) ++ wsX40 ++ wsX20 ++ wsX10 ++ (vx_atS RX4 279 "java/lang/IndexOutOfBoundsException" ["java/lang/RuntimeException", "java/lang/Exception"]).filter goodWord)
def wsL_ambient_r1 : List Cond := [Cond.classLink RL 15 "java/lang/IllegalArgumentException", Cond.methodLink RL 24 yX4_ambient, Cond.instanceMethod yX4_ambient, Cond.selects RX4 yX4_ambient yX4_ambient, Cond.initialized RX4, Cond.code yX4_ambient cX4_ambient 3 (some .int), Cond.fieldLink RX4 19 "TurnDigits" "history" "LTurnDigits$History;", Cond.fieldLink RX4 10 "TurnDigits" "state" "LTurnDigits$State;", Cond.fieldLink RX4 75 "TurnDigits$State" "ambientLight" "I", Cond.methodLink RX4 44 yX4_requireRange, Cond.static yX4_requireRange, Cond.code yX4_requireRange cX4_requireRange 3 none, Cond.classLink RX4 130 "java/lang/IllegalArgumentException", Cond.initialized "java/lang/IllegalArgumentException", Cond.methodLink RX4 48 yX1_push, Cond.instanceMethod yX1_push, Cond.selects RX1 yX1_push yX1_push, Cond.initialized RX1, Cond.code yX1_push cX1_push 2 none, Cond.fieldLink RX1 21 "TurnDigits$History" "size" "I", Cond.fieldLink RX1 17 "TurnDigits$History" "oldest" "I", Cond.fieldLink RX1 11 "TurnDigits$History" "saved" "[LTurnDigits$State;", Cond.methodLink RX1 25 yX2_copyFrom, Cond.instanceMethod yX2_copyFrom]
def wsL_ambient_r2 : List Cond := [Cond.selects RX2 yX2_copyFrom yX2_copyFrom, Cond.initialized RX2, Cond.code yX2_copyFrom cX2_copyFrom 2 none, Cond.fieldLink RX2 9 "TurnDigits$State" "signs" "[I", Cond.methodLink RX2 52 arraycopyName, Cond.native arraycopyName, Cond.static arraycopyName, Cond.initialized "java/lang/System", Cond.fieldLink RX2 15 "TurnDigits$State" "levels" "[I", Cond.fieldLink RX2 18 "TurnDigits$State" "burnt" "[I", Cond.fieldLink RX2 21 "TurnDigits$State" "credits" "[I", Cond.fieldLink RX2 24 "TurnDigits$State" "litSlots" "[I", Cond.fieldLink RX2 27 "TurnDigits$State" "wears" "[I", Cond.fieldLink RX2 30 "TurnDigits$State" "settings" "[I", Cond.fieldLink RX2 33 "TurnDigits$State" "ambientLight" "I", Cond.fieldLink RX2 37 "TurnDigits$State" "time" "I", Cond.fieldLink RX2 40 "TurnDigits$State" "ahead" "I"]
def wsL_ambient : List Cond := .codeWith yL_ambient cL_ambient 4 (some .int) [(0, 9, 12, 15)] :: ((wsL_ambient_r1 ++ wsL_ambient_r2) ++ wsX40 ++ wsX20 ++ wsX10 ++ (vx_atS RX4 134 "java/lang/IllegalArgumentException" ["java/lang/RuntimeException", "java/lang/Exception"]).filter goodWord)
def wsL_set_r1 : List Cond := [Cond.classLink RL 13 "java/lang/IndexOutOfBoundsException", Cond.classLink RL 15 "java/lang/IllegalArgumentException", Cond.methodLink RL 28 yX4_set, Cond.instanceMethod yX4_set, Cond.selects RX4 yX4_set yX4_set, Cond.initialized RX4, Cond.code yX4_set cX4_set 4 (some .int), Cond.fieldLink RX4 82 "TurnDigits" "LEAST_VALUES" "[I", Cond.fieldLink RX4 85 "TurnDigits" "MOST_VALUES" "[I", Cond.fieldLink RX4 19 "TurnDigits" "history" "LTurnDigits$History;", Cond.fieldLink RX4 10 "TurnDigits" "state" "LTurnDigits$State;", Cond.fieldLink RX4 88 "TurnDigits$State" "settings" "[I", Cond.methodLink RX4 79 yX4_requireSetting, Cond.static yX4_requireSetting, Cond.code yX4_requireSetting cX4_requireSetting 1 none, Cond.classLink RX4 275 "java/lang/IndexOutOfBoundsException", Cond.initialized "java/lang/IndexOutOfBoundsException", Cond.methodLink RX4 44 yX4_requireRange, Cond.static yX4_requireRange, Cond.code yX4_requireRange cX4_requireRange 3 none, Cond.classLink RX4 130 "java/lang/IllegalArgumentException", Cond.initialized "java/lang/IllegalArgumentException", Cond.methodLink RX4 48 yX1_push, Cond.instanceMethod yX1_push]
def wsL_set_r2 : List Cond := [Cond.selects RX1 yX1_push yX1_push, Cond.initialized RX1, Cond.code yX1_push cX1_push 2 none, Cond.fieldLink RX1 21 "TurnDigits$History" "size" "I", Cond.fieldLink RX1 17 "TurnDigits$History" "oldest" "I", Cond.fieldLink RX1 11 "TurnDigits$History" "saved" "[LTurnDigits$State;", Cond.methodLink RX1 25 yX2_copyFrom, Cond.instanceMethod yX2_copyFrom, Cond.selects RX2 yX2_copyFrom yX2_copyFrom, Cond.initialized RX2, Cond.code yX2_copyFrom cX2_copyFrom 2 none, Cond.fieldLink RX2 9 "TurnDigits$State" "signs" "[I", Cond.methodLink RX2 52 arraycopyName, Cond.native arraycopyName, Cond.static arraycopyName, Cond.initialized "java/lang/System", Cond.fieldLink RX2 15 "TurnDigits$State" "levels" "[I", Cond.fieldLink RX2 18 "TurnDigits$State" "burnt" "[I", Cond.fieldLink RX2 21 "TurnDigits$State" "credits" "[I", Cond.fieldLink RX2 24 "TurnDigits$State" "litSlots" "[I", Cond.fieldLink RX2 27 "TurnDigits$State" "wears" "[I", Cond.fieldLink RX2 30 "TurnDigits$State" "settings" "[I", Cond.fieldLink RX2 33 "TurnDigits$State" "ambientLight" "I", Cond.fieldLink RX2 37 "TurnDigits$State" "time" "I"]
def wsL_set_r3 : List Cond := [Cond.fieldLink RX2 40 "TurnDigits$State" "ahead" "I"]
def wsL_set : List Cond := .codeWith yL_set cL_set 5 (some .int) [(0, 10, 13, 13), (0, 10, 17, 15)] :: ((wsL_set_r1 ++ (wsL_set_r2 ++ wsL_set_r3)) ++ wsX40 ++ wsX20 ++ wsX10 ++ (vx_atS RX4 279 "java/lang/IndexOutOfBoundsException" ["java/lang/RuntimeException", "java/lang/Exception"]).filter goodWord ++ (vx_atS RX4 134 "java/lang/IllegalArgumentException" ["java/lang/RuntimeException", "java/lang/Exception"]).filter goodWord)
def wsL_number_r1 : List Cond := [Cond.classLink RL 13 "java/lang/IndexOutOfBoundsException", Cond.classLink RL 15 "java/lang/IllegalArgumentException", Cond.methodLink RL 31 yX4_number, Cond.instanceMethod yX4_number, Cond.selects RX4 yX4_number yX4_number, Cond.initialized RX4, Cond.code yX4_number cX4_number 5 (some .int), Cond.fieldLink RX4 19 "TurnDigits" "history" "LTurnDigits$History;", Cond.fieldLink RX4 10 "TurnDigits" "state" "LTurnDigits$State;", Cond.methodLink RX4 40 yX4_requireDigit, Cond.static yX4_requireDigit, Cond.code yX4_requireDigit cX4_requireDigit 1 none, Cond.classLink RX4 275 "java/lang/IndexOutOfBoundsException", Cond.initialized "java/lang/IndexOutOfBoundsException", Cond.methodLink RX4 91 yX4_numberLength, Cond.static yX4_numberLength, Cond.code yX4_numberLength cX4_numberLength 4 (some .int), Cond.constantLong RX4 290 (10), Cond.methodLink RX4 286 yX4_magnitude, Cond.static yX4_magnitude, Cond.code yX4_magnitude cX4_magnitude 1 (some .long), Cond.methodLink RX4 44 yX4_requireRange, Cond.static yX4_requireRange, Cond.code yX4_requireRange cX4_requireRange 3 none]
def wsL_number_r2 : List Cond := [Cond.classLink RX4 130 "java/lang/IllegalArgumentException", Cond.initialized "java/lang/IllegalArgumentException", Cond.methodLink RX4 48 yX1_push, Cond.instanceMethod yX1_push, Cond.selects RX1 yX1_push yX1_push, Cond.initialized RX1, Cond.code yX1_push cX1_push 2 none, Cond.fieldLink RX1 21 "TurnDigits$History" "size" "I", Cond.fieldLink RX1 17 "TurnDigits$History" "oldest" "I", Cond.fieldLink RX1 11 "TurnDigits$History" "saved" "[LTurnDigits$State;", Cond.methodLink RX1 25 yX2_copyFrom, Cond.instanceMethod yX2_copyFrom, Cond.selects RX2 yX2_copyFrom yX2_copyFrom, Cond.initialized RX2, Cond.code yX2_copyFrom cX2_copyFrom 2 none, Cond.fieldLink RX2 9 "TurnDigits$State" "signs" "[I", Cond.methodLink RX2 52 arraycopyName, Cond.native arraycopyName, Cond.static arraycopyName, Cond.initialized "java/lang/System", Cond.fieldLink RX2 15 "TurnDigits$State" "levels" "[I", Cond.fieldLink RX2 18 "TurnDigits$State" "burnt" "[I", Cond.fieldLink RX2 21 "TurnDigits$State" "credits" "[I", Cond.fieldLink RX2 24 "TurnDigits$State" "litSlots" "[I"]
def wsL_number_r3 : List Cond := [Cond.fieldLink RX2 27 "TurnDigits$State" "wears" "[I", Cond.fieldLink RX2 30 "TurnDigits$State" "settings" "[I", Cond.fieldLink RX2 33 "TurnDigits$State" "ambientLight" "I", Cond.fieldLink RX2 37 "TurnDigits$State" "time" "I", Cond.fieldLink RX2 40 "TurnDigits$State" "ahead" "I", Cond.methodLink RX4 95 yX2_putNumber, Cond.instanceMethod yX2_putNumber, Cond.selects RX2 yX2_putNumber yX2_putNumber, Cond.code yX2_putNumber cX2_putNumber 10 none, Cond.constantLong RX2 62 (10)]
def wsL_number : List Cond := .codeWith yL_number cL_number 6 (some .int) [(0, 12, 15, 13), (0, 12, 19, 15)] :: ((wsL_number_r1 ++ (wsL_number_r2 ++ wsL_number_r3)) ++ wsX40 ++ wsX10 ++ wsX20 ++ (vx_atS RX4 279 "java/lang/IndexOutOfBoundsException" ["java/lang/RuntimeException", "java/lang/Exception"]).filter goodWord ++ (vx_atS RX4 134 "java/lang/IllegalArgumentException" ["java/lang/RuntimeException", "java/lang/Exception"]).filter goodWord)
def wsL_run_r1 : List Cond := [Cond.classLink RL 15 "java/lang/IllegalArgumentException", Cond.classLink RL 38 "java/lang/IllegalStateException", Cond.methodLink RL 35 yX4_run, Cond.instanceMethod yX4_run, Cond.selects RX4 yX4_run yX4_run, Cond.initialized RX4, Cond.code yX4_run cX4_run 4 (some .int), Cond.classLink RX4 103 "java/lang/IllegalStateException", Cond.initialized "java/lang/IllegalStateException", Cond.fieldLink RX4 10 "TurnDigits" "state" "LTurnDigits$State;", Cond.fieldLink RX4 99 "TurnDigits$State" "time" "I", Cond.constant RX4 102 (99999), Cond.fieldLink RX4 19 "TurnDigits" "history" "LTurnDigits$History;", Cond.methodLink RX4 44 yX4_requireRange, Cond.static yX4_requireRange, Cond.code yX4_requireRange cX4_requireRange 3 none, Cond.classLink RX4 130 "java/lang/IllegalArgumentException", Cond.initialized "java/lang/IllegalArgumentException", Cond.methodLink RX4 48 yX1_push, Cond.instanceMethod yX1_push, Cond.selects RX1 yX1_push yX1_push, Cond.initialized RX1, Cond.code yX1_push cX1_push 2 none, Cond.fieldLink RX1 21 "TurnDigits$History" "size" "I"]
def wsL_run_r2 : List Cond := [Cond.fieldLink RX1 17 "TurnDigits$History" "oldest" "I", Cond.fieldLink RX1 11 "TurnDigits$History" "saved" "[LTurnDigits$State;", Cond.methodLink RX1 25 yX2_copyFrom, Cond.instanceMethod yX2_copyFrom, Cond.selects RX2 yX2_copyFrom yX2_copyFrom, Cond.initialized RX2, Cond.code yX2_copyFrom cX2_copyFrom 2 none, Cond.fieldLink RX2 9 "TurnDigits$State" "signs" "[I", Cond.methodLink RX2 52 arraycopyName, Cond.native arraycopyName, Cond.static arraycopyName, Cond.initialized "java/lang/System", Cond.fieldLink RX2 15 "TurnDigits$State" "levels" "[I", Cond.fieldLink RX2 18 "TurnDigits$State" "burnt" "[I", Cond.fieldLink RX2 21 "TurnDigits$State" "credits" "[I", Cond.fieldLink RX2 24 "TurnDigits$State" "litSlots" "[I", Cond.fieldLink RX2 27 "TurnDigits$State" "wears" "[I", Cond.fieldLink RX2 30 "TurnDigits$State" "settings" "[I", Cond.fieldLink RX2 33 "TurnDigits$State" "ambientLight" "I", Cond.fieldLink RX2 37 "TurnDigits$State" "time" "I", Cond.fieldLink RX2 40 "TurnDigits$State" "ahead" "I", Cond.methodLink RX4 110 yX2_passSlot, Cond.instanceMethod yX2_passSlot, Cond.selects RX2 yX2_passSlot yX2_passSlot]
def wsL_run_r3 : List Cond := [Cond.code yX2_passSlot cX2_passSlot 3 (some .int), Cond.static yX4_giveSlot, Cond.code yX4_giveSlot cX4_giveSlot 5 (some .int), Cond.static yX4_litIn, Cond.code yX4_litIn cX4_litIn 3 (some .int), Cond.methodLink RX2 72 yX2_wearOut, Cond.instanceMethod yX2_wearOut, Cond.selects RX2 yX2_wearOut yX2_wearOut, Cond.code yX2_wearOut cX2_wearOut 7 (some .int), Cond.methodLink RX2 76 yX2_shownSegments, Cond.instanceMethod yX2_shownSegments, Cond.selects RX2 yX2_shownSegments yX2_shownSegments, Cond.code yX2_shownSegments cX2_shownSegments 2 (some .int), Cond.static yX4_wearPlace, Cond.code yX4_wearPlace cX4_wearPlace 2 (some .int)]
def wsL_run : List Cond := .codeWith yL_run cL_run 4 (some .int) [(0, 9, 12, 15), (0, 9, 15, 38)] :: ((wsL_run_r1 ++ (wsL_run_r2 ++ wsL_run_r3)) ++ wsX40 ++ wsX20 ++ wsX10 ++ (vx_atS RX4 107 "java/lang/IllegalStateException" ["java/lang/RuntimeException", "java/lang/Exception"]).filter goodWord ++ (vx_atS RX4 134 "java/lang/IllegalArgumentException" ["java/lang/RuntimeException", "java/lang/Exception"]).filter goodWord)
def wsL_append : List Cond := .codeWith yL_append cL_append 4 (some .int) [(0, 9, 12, 15), (0, 9, 15, 38)] :: ([.classLink RL 15 "java/lang/IllegalArgumentException", .classLink RL 38 "java/lang/IllegalStateException", .methodLink RL 40 yX4_append, .instanceMethod yX4_append, .selects RX4 yX4_append yX4_append, .initialized RX4, .code yX4_append cX4_append 2 (some .int), .classLink RX4 103 "java/lang/IllegalStateException", .initialized "java/lang/IllegalStateException", .fieldLink RX4 26 "TurnDigits" "text" "LTurnDigits$Text;", .fieldLink RX4 120 "TurnDigits$Text" "length" "I", .methodLink RX4 44 yX4_requireRange, .static yX4_requireRange, .code yX4_requireRange cX4_requireRange 3 none, .classLink RX4 130 "java/lang/IllegalArgumentException", .initialized "java/lang/IllegalArgumentException", .methodLink RX4 114 yX3_put, .instanceMethod yX3_put, .selects RX3 yX3_put yX3_put, .initialized RX3, .code yX3_put cX3_put 2 (some .boolean), .fieldLink RX3 15 "TurnDigits$Text" "length" "I", .fieldLink RX3 9 "TurnDigits$Text" "codes" "[I"] ++ wsX40 ++ wsX30 ++ (vx_atS RX4 107 "java/lang/IllegalStateException" ["java/lang/RuntimeException", "java/lang/Exception"]).filter goodWord ++ (vx_atS RX4 134 "java/lang/IllegalArgumentException" ["java/lang/RuntimeException", "java/lang/Exception"]).filter goodWord)
def wsL_read_r1 : List Cond := [Cond.classLink RL 15 "java/lang/IllegalArgumentException", Cond.methodLink RL 43 yX4_read, Cond.instanceMethod yX4_read, Cond.selects RX4 yX4_read yX4_read, Cond.initialized RX4, Cond.code yX4_read cX4_read 3 (some .int), Cond.classLink RX4 130 "java/lang/IllegalArgumentException", Cond.initialized "java/lang/IllegalArgumentException", Cond.fieldLink RX4 26 "TurnDigits" "text" "LTurnDigits$Text;", Cond.fieldLink RX4 120 "TurnDigits$Text" "length" "I", Cond.fieldLink RX4 19 "TurnDigits" "history" "LTurnDigits$History;", Cond.fieldLink RX4 10 "TurnDigits" "state" "LTurnDigits$State;", Cond.fieldLink RX4 135 "TurnDigits$Text" "parts" "I", Cond.fieldLink RX4 52 "TurnDigits$State" "signs" "[I", Cond.fieldLink RX4 138 "TurnDigits$Text" "signs" "[I", Cond.fieldLink RX4 139 "TurnDigits$Text" "levels" "[I", Cond.fieldLink RX4 56 "TurnDigits$State" "levels" "[I", Cond.methodLink RX4 123 yX3_scan, Cond.instanceMethod yX3_scan, Cond.selects RX3 yX3_scan yX3_scan, Cond.initialized RX3, Cond.code yX3_scan cX3_scan 2 (some .int), Cond.fieldLink RX3 25 "TurnDigits$Text" "parts" "I", Cond.fieldLink RX3 28 "TurnDigits$Text" "place" "I"]
def wsL_read_r2 : List Cond := [Cond.fieldLink RX3 15 "TurnDigits$Text" "length" "I", Cond.fieldLink RX3 9 "TurnDigits$Text" "codes" "[I", Cond.methodLink RX3 31 yX3_takes, Cond.instanceMethod yX3_takes, Cond.selects RX3 yX3_takes yX3_takes, Cond.code yX3_takes cX3_takes 2 (some .boolean), Cond.methodLink RX3 35 yX3_takesLevel, Cond.instanceMethod yX3_takesLevel, Cond.selects RX3 yX3_takesLevel yX3_takesLevel, Cond.code yX3_takesLevel cX3_takesLevel 2 (some .boolean), Cond.methodLink RX3 38 yX3_tellLevel, Cond.instanceMethod yX3_tellLevel, Cond.selects RX3 yX3_tellLevel yX3_tellLevel, Cond.code yX3_tellLevel cX3_tellLevel 2 none, Cond.fieldLink RX3 22 "TurnDigits$Text" "levels" "[I", Cond.methodLink RX3 42 yX3_takesSign, Cond.instanceMethod yX3_takesSign, Cond.selects RX3 yX3_takesSign yX3_takesSign, Cond.code yX3_takesSign cX3_takesSign 3 (some .boolean), Cond.fieldLink RX3 19 "TurnDigits$Text" "signs" "[I", Cond.methodLink RX3 45 yX3_signOf, Cond.static yX3_signOf, Cond.code yX3_signOf cX3_signOf 1 (some .int), Cond.methodLink RX4 126 yX3_isWhole]
def wsL_read_r3 : List Cond := [Cond.instanceMethod yX3_isWhole, Cond.selects RX3 yX3_isWhole yX3_isWhole, Cond.code yX3_isWhole cX3_isWhole 1 (some .boolean), Cond.methodLink RX4 48 yX1_push, Cond.instanceMethod yX1_push, Cond.selects RX1 yX1_push yX1_push, Cond.initialized RX1, Cond.code yX1_push cX1_push 2 none, Cond.fieldLink RX1 21 "TurnDigits$History" "size" "I", Cond.fieldLink RX1 17 "TurnDigits$History" "oldest" "I", Cond.fieldLink RX1 11 "TurnDigits$History" "saved" "[LTurnDigits$State;", Cond.methodLink RX1 25 yX2_copyFrom, Cond.instanceMethod yX2_copyFrom, Cond.selects RX2 yX2_copyFrom yX2_copyFrom, Cond.initialized RX2, Cond.code yX2_copyFrom cX2_copyFrom 2 none, Cond.fieldLink RX2 9 "TurnDigits$State" "signs" "[I", Cond.methodLink RX2 52 arraycopyName, Cond.native arraycopyName, Cond.static arraycopyName, Cond.initialized "java/lang/System", Cond.fieldLink RX2 15 "TurnDigits$State" "levels" "[I", Cond.fieldLink RX2 18 "TurnDigits$State" "burnt" "[I", Cond.fieldLink RX2 21 "TurnDigits$State" "credits" "[I"]
def wsL_read_r4 : List Cond := [Cond.fieldLink RX2 24 "TurnDigits$State" "litSlots" "[I", Cond.fieldLink RX2 27 "TurnDigits$State" "wears" "[I", Cond.fieldLink RX2 30 "TurnDigits$State" "settings" "[I", Cond.fieldLink RX2 33 "TurnDigits$State" "ambientLight" "I", Cond.fieldLink RX2 37 "TurnDigits$State" "time" "I", Cond.fieldLink RX2 40 "TurnDigits$State" "ahead" "I", Cond.methodLink RX4 59 yX2_clearCredits, Cond.instanceMethod yX2_clearCredits, Cond.selects RX2 yX2_clearCredits yX2_clearCredits, Cond.code yX2_clearCredits cX2_clearCredits 1 none, Cond.methodLink RX2 43 yJ7_fill_53178, Cond.static yJ7_fill_53178, Cond.initialized RJ7, Cond.code yJ7_fill_53178 cJ7_fill_53178 4 none]
def wsL_read : List Cond := .codeWith yL_read cL_read 3 (some .int) [(0, 8, 11, 15)] :: ((wsL_read_r1 ++ (wsL_read_r2 ++ (wsL_read_r3 ++ wsL_read_r4))) ++ wsX40 ++ wsX30 ++ wsX20 ++ wsX10 ++ (vx_atS RX4 134 "java/lang/IllegalArgumentException" ["java/lang/RuntimeException", "java/lang/Exception"]).filter goodWord)
def wsL_undo_r1 : List Cond := [Cond.classLink RL 38 "java/lang/IllegalStateException", Cond.methodLink RL 47 yX4_undo, Cond.instanceMethod yX4_undo, Cond.selects RX4 yX4_undo yX4_undo, Cond.initialized RX4, Cond.code yX4_undo cX4_undo 1 (some .int), Cond.classLink RX4 103 "java/lang/IllegalStateException", Cond.initialized "java/lang/IllegalStateException", Cond.fieldLink RX4 19 "TurnDigits" "history" "LTurnDigits$History;", Cond.fieldLink RX4 140 "TurnDigits$History" "size" "I", Cond.fieldLink RX4 10 "TurnDigits" "state" "LTurnDigits$State;", Cond.methodLink RX4 145 yX1_pop, Cond.instanceMethod yX1_pop, Cond.selects RX1 yX1_pop yX1_pop, Cond.initialized RX1, Cond.code yX1_pop cX1_pop 2 none, Cond.fieldLink RX1 21 "TurnDigits$History" "size" "I", Cond.fieldLink RX1 11 "TurnDigits$History" "saved" "[LTurnDigits$State;", Cond.fieldLink RX1 17 "TurnDigits$History" "oldest" "I", Cond.methodLink RX1 25 yX2_copyFrom, Cond.instanceMethod yX2_copyFrom, Cond.selects RX2 yX2_copyFrom yX2_copyFrom, Cond.initialized RX2, Cond.code yX2_copyFrom cX2_copyFrom 2 none]
def wsL_undo_r2 : List Cond := [Cond.fieldLink RX2 9 "TurnDigits$State" "signs" "[I", Cond.methodLink RX2 52 arraycopyName, Cond.native arraycopyName, Cond.static arraycopyName, Cond.initialized "java/lang/System", Cond.fieldLink RX2 15 "TurnDigits$State" "levels" "[I", Cond.fieldLink RX2 18 "TurnDigits$State" "burnt" "[I", Cond.fieldLink RX2 21 "TurnDigits$State" "credits" "[I", Cond.fieldLink RX2 24 "TurnDigits$State" "litSlots" "[I", Cond.fieldLink RX2 27 "TurnDigits$State" "wears" "[I", Cond.fieldLink RX2 30 "TurnDigits$State" "settings" "[I", Cond.fieldLink RX2 33 "TurnDigits$State" "ambientLight" "I", Cond.fieldLink RX2 37 "TurnDigits$State" "time" "I", Cond.fieldLink RX2 40 "TurnDigits$State" "ahead" "I"]
def wsL_undo : List Cond := .codeWith yL_undo cL_undo 3 (some .int) [(0, 8, 11, 38)] :: ((wsL_undo_r1 ++ wsL_undo_r2) ++ wsX40 ++ wsX10 ++ wsX20 ++ (vx_atS RX4 107 "java/lang/IllegalStateException" ["java/lang/RuntimeException", "java/lang/Exception"]).filter goodWord)
def wsL_digit_r1 : List Cond := [Cond.classLink RL 13 "java/lang/IndexOutOfBoundsException", Cond.classLink RL 15 "java/lang/IllegalArgumentException", Cond.methodLink RL 50 yX4_digit, Cond.instanceMethod yX4_digit, Cond.selects RX4 yX4_digit yX4_digit, Cond.initialized RX4, Cond.code yX4_digit cX4_digit 3 (some .int), Cond.fieldLink RX4 33 "TurnDigits" "frame" "LTurnDigits$Frame;", Cond.fieldLink RX4 10 "TurnDigits" "state" "LTurnDigits$State;", Cond.methodLink RX4 40 yX4_requireDigit, Cond.static yX4_requireDigit, Cond.code yX4_requireDigit cX4_requireDigit 1 none, Cond.classLink RX4 275 "java/lang/IndexOutOfBoundsException", Cond.initialized "java/lang/IndexOutOfBoundsException", Cond.methodLink RX4 44 yX4_requireRange, Cond.static yX4_requireRange, Cond.code yX4_requireRange cX4_requireRange 3 none, Cond.classLink RX4 130 "java/lang/IllegalArgumentException", Cond.initialized "java/lang/IllegalArgumentException", Cond.methodLink RX4 148 yX0_foresee, Cond.instanceMethod yX0_foresee, Cond.selects RX0 yX0_foresee yX0_foresee, Cond.initialized RX0, Cond.code yX0_foresee cX0_foresee 2 none]
def wsL_digit_r2 : List Cond := [Cond.fieldLink RX0 43 "TurnDigits$State" "levels" "[I", Cond.fieldLink RX0 24 "TurnDigits$Frame" "levels" "[I", Cond.methodLink RX0 46 arraycopyName, Cond.native arraycopyName, Cond.static arraycopyName, Cond.initialized "java/lang/System", Cond.fieldLink RX0 52 "TurnDigits$State" "credits" "[I", Cond.fieldLink RX0 27 "TurnDigits$Frame" "credits" "[I", Cond.methodLink RX0 53 yX0_passSlots, Cond.instanceMethod yX0_passSlots, Cond.selects RX0 yX0_passSlots yX0_passSlots, Cond.code yX0_passSlots cX0_passSlots 5 none, Cond.fieldLink RX0 63 "TurnDigits$State" "settings" "[I", Cond.fieldLink RX0 33 "TurnDigits$Frame" "length" "I", Cond.fieldLink RX0 37 "TurnDigits$Frame" "persistence" "I", Cond.fieldLink RX0 66 "TurnDigits$State" "ambientLight" "I", Cond.fieldLink RX0 40 "TurnDigits$Frame" "neededLight" "I", Cond.fieldLink RX0 18 "TurnDigits$Frame" "gaps" "[I", Cond.fieldLink RX0 21 "TurnDigits$Frame" "litSlots" "[I", Cond.fieldLink RX0 30 "TurnDigits$Frame" "darkRows" "[I", Cond.fieldLink RX0 69 "TurnDigits$State" "ahead" "I", Cond.fieldLink RX0 9 "TurnDigits$Frame" "owners" "[I", Cond.fieldLink RX0 15 "TurnDigits$Frame" "lit" "[I", Cond.methodLink RX0 57 yJ7_fill_53178]
def wsL_digit_r3 : List Cond := [Cond.static yJ7_fill_53178, Cond.initialized RJ7, Cond.code yJ7_fill_53178 cJ7_fill_53178 4 none, Cond.static yX4_giveSlot, Cond.code yX4_giveSlot cX4_giveSlot 5 (some .int), Cond.static yX4_litIn, Cond.code yX4_litIn cX4_litIn 3 (some .int), Cond.methodLink RX0 80 yX0_noteSlot, Cond.instanceMethod yX0_noteSlot, Cond.selects RX0 yX0_noteSlot yX0_noteSlot, Cond.code yX0_noteSlot cX0_noteSlot 3 none, Cond.methodLink RX0 84 Lib.Math.max.name, Cond.static Lib.Math.max.name, Cond.initialized "java/lang/Math", Cond.code Lib.Math.max.name Lib.Math.max.code 2 (some .int), Cond.methodLink RX4 151 yX4_property, Cond.instanceMethod yX4_property, Cond.selects RX4 yX4_property yX4_property, Cond.code yX4_property cX4_property 3 (some .int), Cond.fieldLink RX4 52 "TurnDigits$State" "signs" "[I", Cond.fieldLink RX4 56 "TurnDigits$State" "levels" "[I", Cond.fieldLink RX4 65 "TurnDigits$State" "burnt" "[I", Cond.fieldLink RX4 211 "TurnDigits$State" "credits" "[I", Cond.fieldLink RX4 217 "TurnDigits$Frame" "gaps" "[I"]
def wsL_digit_r4 : List Cond := [Cond.fieldLink RX4 232 "TurnDigits$State" "litSlots" "[I", Cond.methodLink RX4 208 yX2_shownSegments, Cond.instanceMethod yX2_shownSegments, Cond.selects RX2 yX2_shownSegments yX2_shownSegments, Cond.initialized RX2, Cond.code yX2_shownSegments cX2_shownSegments 2 (some .int), Cond.fieldLink RX2 9 "TurnDigits$State" "signs" "[I", Cond.fieldLink RX2 18 "TurnDigits$State" "burnt" "[I", Cond.methodLink RX4 214 yX0_lightOf, Cond.instanceMethod yX0_lightOf, Cond.selects RX0 yX0_lightOf yX0_lightOf, Cond.code yX0_lightOf cX0_lightOf 2 (some .int), Cond.methodLink RX4 220 yX0_flickers, Cond.instanceMethod yX0_flickers, Cond.selects RX0 yX0_flickers yX0_flickers, Cond.code yX0_flickers cX0_flickers 2 (some .boolean), Cond.methodLink RX4 223 yX0_isSeen, Cond.instanceMethod yX0_isSeen, Cond.selects RX0 yX0_isSeen yX0_isSeen, Cond.code yX0_isSeen cX0_isSeen 3 (some .boolean), Cond.methodLink RX0 90 yX0_lightOf, Cond.methodLink RX0 94 yX0_flickers, Cond.methodLink RX4 226 yX4_isClear, Cond.instanceMethod yX4_isClear]
def wsL_digit_r5 : List Cond := [Cond.selects RX4 yX4_isClear yX4_isClear, Cond.code yX4_isClear cX4_isClear 2 (some .boolean), Cond.methodLink RX4 229 yX2_readableSigns, Cond.instanceMethod yX2_readableSigns, Cond.selects RX2 yX2_readableSigns yX2_readableSigns, Cond.code yX2_readableSigns cX2_readableSigns 5 (some .int), Cond.methodLink RX2 76 yX2_shownSegments, Cond.methodLink RX4 259 yJ6_bitCount_0f7a4, Cond.static yJ6_bitCount_0f7a4, Cond.initialized RJ6, Cond.code yJ6_bitCount_0f7a4 cJ6_bitCount_0f7a4 1 (some .int), Cond.constant RJ6 265 (1431655765), Cond.constant RJ6 266 (858993459), Cond.constant RJ6 267 (252645135)]
def wsL_digit : List Cond := .codeWith yL_digit cL_digit 5 (some .int) [(0, 10, 13, 13), (0, 10, 17, 15)] :: ((wsL_digit_r1 ++ (wsL_digit_r2 ++ (wsL_digit_r3 ++ (wsL_digit_r4 ++ wsL_digit_r5)))) ++ wsX40 ++ wsX20 ++ wsX00 ++ (vx_atS RX4 279 "java/lang/IndexOutOfBoundsException" ["java/lang/RuntimeException", "java/lang/Exception"]).filter goodWord ++ (vx_atS RX4 134 "java/lang/IllegalArgumentException" ["java/lang/RuntimeException", "java/lang/Exception"]).filter goodWord)
def wsL_wear : List Cond := .codeWith yL_wear cL_wear 5 (some .int) [(0, 10, 13, 13)] :: ([.classLink RL 13 "java/lang/IndexOutOfBoundsException", .methodLink RL 53 yX4_wear, .instanceMethod yX4_wear, .selects RX4 yX4_wear yX4_wear, .initialized RX4, .code yX4_wear cX4_wear 3 (some .int), .fieldLink RX4 10 "TurnDigits" "state" "LTurnDigits$State;", .fieldLink RX4 68 "TurnDigits$State" "wears" "[I", .methodLink RX4 40 yX4_requireDigit, .static yX4_requireDigit, .code yX4_requireDigit cX4_requireDigit 1 none, .classLink RX4 275 "java/lang/IndexOutOfBoundsException", .initialized "java/lang/IndexOutOfBoundsException", .methodLink RX4 62 yX4_requireSegment, .static yX4_requireSegment, .code yX4_requireSegment cX4_requireSegment 1 none, .methodLink RX4 71 yX4_wearPlace, .static yX4_wearPlace, .code yX4_wearPlace cX4_wearPlace 2 (some .int)] ++ wsX40 ++ wsX20 ++ (vx_atS RX4 279 "java/lang/IndexOutOfBoundsException" ["java/lang/RuntimeException", "java/lang/Exception"]).filter goodWord)
def wsL_slot_r1 : List Cond := [Cond.classLink RL 15 "java/lang/IllegalArgumentException", Cond.methodLink RL 56 yX4_slot, Cond.instanceMethod yX4_slot, Cond.selects RX4 yX4_slot yX4_slot, Cond.initialized RX4, Cond.code yX4_slot cX4_slot 3 (some .int), Cond.fieldLink RX4 10 "TurnDigits" "state" "LTurnDigits$State;", Cond.fieldLink RX4 88 "TurnDigits$State" "settings" "[I", Cond.fieldLink RX4 33 "TurnDigits" "frame" "LTurnDigits$Frame;", Cond.fieldLink RX4 154 "TurnDigits$Frame" "lit" "[I", Cond.fieldLink RX4 157 "TurnDigits$Frame" "owners" "[I", Cond.methodLink RX4 44 yX4_requireRange, Cond.static yX4_requireRange, Cond.code yX4_requireRange cX4_requireRange 3 none, Cond.classLink RX4 130 "java/lang/IllegalArgumentException", Cond.initialized "java/lang/IllegalArgumentException", Cond.methodLink RX4 148 yX0_foresee, Cond.instanceMethod yX0_foresee, Cond.selects RX0 yX0_foresee yX0_foresee, Cond.initialized RX0, Cond.code yX0_foresee cX0_foresee 2 none, Cond.fieldLink RX0 43 "TurnDigits$State" "levels" "[I", Cond.fieldLink RX0 24 "TurnDigits$Frame" "levels" "[I", Cond.methodLink RX0 46 arraycopyName]
def wsL_slot_r2 : List Cond := [Cond.native arraycopyName, Cond.static arraycopyName, Cond.initialized "java/lang/System", Cond.fieldLink RX0 52 "TurnDigits$State" "credits" "[I", Cond.fieldLink RX0 27 "TurnDigits$Frame" "credits" "[I", Cond.methodLink RX0 53 yX0_passSlots, Cond.instanceMethod yX0_passSlots, Cond.selects RX0 yX0_passSlots yX0_passSlots, Cond.code yX0_passSlots cX0_passSlots 5 none, Cond.fieldLink RX0 63 "TurnDigits$State" "settings" "[I", Cond.fieldLink RX0 33 "TurnDigits$Frame" "length" "I", Cond.fieldLink RX0 37 "TurnDigits$Frame" "persistence" "I", Cond.fieldLink RX0 66 "TurnDigits$State" "ambientLight" "I", Cond.fieldLink RX0 40 "TurnDigits$Frame" "neededLight" "I", Cond.fieldLink RX0 18 "TurnDigits$Frame" "gaps" "[I", Cond.fieldLink RX0 21 "TurnDigits$Frame" "litSlots" "[I", Cond.fieldLink RX0 30 "TurnDigits$Frame" "darkRows" "[I", Cond.fieldLink RX0 69 "TurnDigits$State" "ahead" "I", Cond.fieldLink RX0 9 "TurnDigits$Frame" "owners" "[I", Cond.fieldLink RX0 15 "TurnDigits$Frame" "lit" "[I", Cond.methodLink RX0 57 yJ7_fill_53178, Cond.static yJ7_fill_53178, Cond.initialized RJ7, Cond.code yJ7_fill_53178 cJ7_fill_53178 4 none]
def wsL_slot_r3 : List Cond := [Cond.static yX4_giveSlot, Cond.code yX4_giveSlot cX4_giveSlot 5 (some .int), Cond.static yX4_litIn, Cond.code yX4_litIn cX4_litIn 3 (some .int), Cond.methodLink RX0 80 yX0_noteSlot, Cond.instanceMethod yX0_noteSlot, Cond.selects RX0 yX0_noteSlot yX0_noteSlot, Cond.code yX0_noteSlot cX0_noteSlot 3 none, Cond.methodLink RX0 84 Lib.Math.max.name, Cond.static Lib.Math.max.name, Cond.initialized "java/lang/Math", Cond.code Lib.Math.max.name Lib.Math.max.code 2 (some .int)]
def wsL_slot : List Cond := .codeWith yL_slot cL_slot 5 (some .int) [(0, 10, 13, 15)] :: ((wsL_slot_r1 ++ (wsL_slot_r2 ++ wsL_slot_r3)) ++ wsX40 ++ wsX20 ++ wsX00 ++ (vx_atS RX4 134 "java/lang/IllegalArgumentException" ["java/lang/RuntimeException", "java/lang/Exception"]).filter goodWord)
def wsL_count_r1 : List Cond := [Cond.classLink RL 15 "java/lang/IllegalArgumentException", Cond.methodLink RL 60 yX4_count, Cond.instanceMethod yX4_count, Cond.selects RX4 yX4_count yX4_count, Cond.initialized RX4, Cond.code yX4_count cX4_count 2 (some .int), Cond.fieldLink RX4 33 "TurnDigits" "frame" "LTurnDigits$Frame;", Cond.fieldLink RX4 10 "TurnDigits" "state" "LTurnDigits$State;", Cond.methodLink RX4 44 yX4_requireRange, Cond.static yX4_requireRange, Cond.code yX4_requireRange cX4_requireRange 3 none, Cond.classLink RX4 130 "java/lang/IllegalArgumentException", Cond.initialized "java/lang/IllegalArgumentException", Cond.methodLink RX4 148 yX0_foresee, Cond.instanceMethod yX0_foresee, Cond.selects RX0 yX0_foresee yX0_foresee, Cond.initialized RX0, Cond.code yX0_foresee cX0_foresee 2 none, Cond.fieldLink RX0 43 "TurnDigits$State" "levels" "[I", Cond.fieldLink RX0 24 "TurnDigits$Frame" "levels" "[I", Cond.methodLink RX0 46 arraycopyName, Cond.native arraycopyName, Cond.static arraycopyName, Cond.initialized "java/lang/System"]
def wsL_count_r2 : List Cond := [Cond.fieldLink RX0 52 "TurnDigits$State" "credits" "[I", Cond.fieldLink RX0 27 "TurnDigits$Frame" "credits" "[I", Cond.methodLink RX0 53 yX0_passSlots, Cond.instanceMethod yX0_passSlots, Cond.selects RX0 yX0_passSlots yX0_passSlots, Cond.code yX0_passSlots cX0_passSlots 5 none, Cond.fieldLink RX0 63 "TurnDigits$State" "settings" "[I", Cond.fieldLink RX0 33 "TurnDigits$Frame" "length" "I", Cond.fieldLink RX0 37 "TurnDigits$Frame" "persistence" "I", Cond.fieldLink RX0 66 "TurnDigits$State" "ambientLight" "I", Cond.fieldLink RX0 40 "TurnDigits$Frame" "neededLight" "I", Cond.fieldLink RX0 18 "TurnDigits$Frame" "gaps" "[I", Cond.fieldLink RX0 21 "TurnDigits$Frame" "litSlots" "[I", Cond.fieldLink RX0 30 "TurnDigits$Frame" "darkRows" "[I", Cond.fieldLink RX0 69 "TurnDigits$State" "ahead" "I", Cond.fieldLink RX0 9 "TurnDigits$Frame" "owners" "[I", Cond.fieldLink RX0 15 "TurnDigits$Frame" "lit" "[I", Cond.methodLink RX0 57 yJ7_fill_53178, Cond.static yJ7_fill_53178, Cond.initialized RJ7, Cond.code yJ7_fill_53178 cJ7_fill_53178 4 none, Cond.static yX4_giveSlot, Cond.code yX4_giveSlot cX4_giveSlot 5 (some .int), Cond.static yX4_litIn]
def wsL_count_r3 : List Cond := [Cond.code yX4_litIn cX4_litIn 3 (some .int), Cond.methodLink RX0 80 yX0_noteSlot, Cond.instanceMethod yX0_noteSlot, Cond.selects RX0 yX0_noteSlot yX0_noteSlot, Cond.code yX0_noteSlot cX0_noteSlot 3 none, Cond.methodLink RX0 84 Lib.Math.max.name, Cond.static Lib.Math.max.name, Cond.initialized "java/lang/Math", Cond.code Lib.Math.max.name Lib.Math.max.code 2 (some .int), Cond.methodLink RX4 160 yX4_total, Cond.instanceMethod yX4_total, Cond.selects RX4 yX4_total yX4_total, Cond.code yX4_total cX4_total 2 (some .int), Cond.fieldLink RX4 99 "TurnDigits$State" "time" "I", Cond.fieldLink RX4 75 "TurnDigits$State" "ambientLight" "I", Cond.fieldLink RX4 256 "TurnDigits$State" "ahead" "I", Cond.fieldLink RX4 19 "TurnDigits" "history" "LTurnDigits$History;", Cond.fieldLink RX4 140 "TurnDigits$History" "size" "I", Cond.methodLink RX4 235 yX2_levelSum, Cond.instanceMethod yX2_levelSum, Cond.selects RX2 yX2_levelSum yX2_levelSum, Cond.initialized RX2, Cond.code yX2_levelSum cX2_levelSum 3 (some .int), Cond.fieldLink RX2 15 "TurnDigits$State" "levels" "[I"]
def wsL_count_r4 : List Cond := [Cond.methodLink RX4 238 yX0_darkSlots, Cond.instanceMethod yX0_darkSlots, Cond.selects RX0 yX0_darkSlots yX0_darkSlots, Cond.code yX0_darkSlots cX0_darkSlots 3 (some .int), Cond.methodLink RX4 241 yX0_changes, Cond.instanceMethod yX0_changes, Cond.selects RX0 yX0_changes yX0_changes, Cond.code yX0_changes cX0_changes 3 (some .int), Cond.methodLink RX4 244 yX0_flickering, Cond.instanceMethod yX0_flickering, Cond.selects RX0 yX0_flickering yX0_flickering, Cond.code yX0_flickering cX0_flickering 3 (some .int), Cond.methodLink RX0 94 yX0_flickers, Cond.instanceMethod yX0_flickers, Cond.selects RX0 yX0_flickers yX0_flickers, Cond.code yX0_flickers cX0_flickers 2 (some .boolean), Cond.methodLink RX4 247 yX0_seen, Cond.instanceMethod yX0_seen, Cond.selects RX0 yX0_seen yX0_seen, Cond.code yX0_seen cX0_seen 3 (some .int), Cond.methodLink RX0 98 yX0_isSeen, Cond.instanceMethod yX0_isSeen, Cond.selects RX0 yX0_isSeen yX0_isSeen, Cond.code yX0_isSeen cX0_isSeen 3 (some .boolean)]
def wsL_count_r5 : List Cond := [Cond.methodLink RX0 90 yX0_lightOf, Cond.instanceMethod yX0_lightOf, Cond.selects RX0 yX0_lightOf yX0_lightOf, Cond.code yX0_lightOf cX0_lightOf 2 (some .int), Cond.methodLink RX4 250 yX4_clearDigits, Cond.instanceMethod yX4_clearDigits, Cond.selects RX4 yX4_clearDigits yX4_clearDigits, Cond.code yX4_clearDigits cX4_clearDigits 3 (some .int), Cond.methodLink RX4 226 yX4_isClear, Cond.instanceMethod yX4_isClear, Cond.selects RX4 yX4_isClear yX4_isClear, Cond.code yX4_isClear cX4_isClear 2 (some .boolean), Cond.methodLink RX4 223 yX0_isSeen, Cond.methodLink RX4 229 yX2_readableSigns, Cond.instanceMethod yX2_readableSigns, Cond.selects RX2 yX2_readableSigns yX2_readableSigns, Cond.code yX2_readableSigns cX2_readableSigns 5 (some .int), Cond.fieldLink RX2 18 "TurnDigits$State" "burnt" "[I", Cond.methodLink RX2 76 yX2_shownSegments, Cond.instanceMethod yX2_shownSegments, Cond.selects RX2 yX2_shownSegments yX2_shownSegments, Cond.code yX2_shownSegments cX2_shownSegments 2 (some .int), Cond.fieldLink RX2 9 "TurnDigits$State" "signs" "[I", Cond.methodLink RX4 259 yJ6_bitCount_0f7a4]
def wsL_count_r6 : List Cond := [Cond.static yJ6_bitCount_0f7a4, Cond.initialized RJ6, Cond.code yJ6_bitCount_0f7a4 cJ6_bitCount_0f7a4 1 (some .int), Cond.constant RJ6 265 (1431655765), Cond.constant RJ6 266 (858993459), Cond.constant RJ6 267 (252645135), Cond.methodLink RX4 253 yX2_burntSegments, Cond.instanceMethod yX2_burntSegments, Cond.selects RX2 yX2_burntSegments yX2_burntSegments, Cond.code yX2_burntSegments cX2_burntSegments 3 (some .int), Cond.methodLink RX2 86 yJ6_bitCount_0f7a4]
def wsL_count : List Cond := .codeWith yL_count cL_count 4 (some .int) [(0, 9, 12, 15)] :: ((wsL_count_r1 ++ (wsL_count_r2 ++ (wsL_count_r3 ++ (wsL_count_r4 ++ (wsL_count_r5 ++ wsL_count_r6))))) ++ wsX40 ++ wsX20 ++ wsX00 ++ wsX10 ++ (vx_atS RX4 134 "java/lang/IllegalArgumentException" ["java/lang/RuntimeException", "java/lang/Exception"]).filter goodWord)
def wsL_setting : List Cond := .codeWith yL_setting cL_setting 4 (some .int) [(0, 9, 12, 13)] :: ([.classLink RL 13 "java/lang/IndexOutOfBoundsException", .methodLink RL 63 yX4_setting, .instanceMethod yX4_setting, .selects RX4 yX4_setting yX4_setting, .initialized RX4, .code yX4_setting cX4_setting 2 (some .int), .fieldLink RX4 10 "TurnDigits" "state" "LTurnDigits$State;", .fieldLink RX4 88 "TurnDigits$State" "settings" "[I", .methodLink RX4 79 yX4_requireSetting, .static yX4_requireSetting, .code yX4_requireSetting cX4_requireSetting 1 none, .classLink RX4 275 "java/lang/IndexOutOfBoundsException", .initialized "java/lang/IndexOutOfBoundsException"] ++ wsX40 ++ wsX20 ++ (vx_atS RX4 279 "java/lang/IndexOutOfBoundsException" ["java/lang/RuntimeException", "java/lang/Exception"]).filter goodWord)
def wsL_ifLevel_r1 : List Cond := [Cond.classLink RL 13 "java/lang/IndexOutOfBoundsException", Cond.classLink RL 15 "java/lang/IllegalArgumentException", Cond.methodLink RL 66 yX4_ifLevel, Cond.instanceMethod yX4_ifLevel, Cond.selects RX4 yX4_ifLevel yX4_ifLevel, Cond.initialized RX4, Cond.code yX4_ifLevel cX4_ifLevel 4 (some .int), Cond.fieldLink RX4 37 "TurnDigits" "trial" "LTurnDigits$Frame;", Cond.fieldLink RX4 10 "TurnDigits" "state" "LTurnDigits$State;", Cond.methodLink RX4 40 yX4_requireDigit, Cond.static yX4_requireDigit, Cond.code yX4_requireDigit cX4_requireDigit 1 none, Cond.classLink RX4 275 "java/lang/IndexOutOfBoundsException", Cond.initialized "java/lang/IndexOutOfBoundsException", Cond.methodLink RX4 44 yX4_requireRange, Cond.static yX4_requireRange, Cond.code yX4_requireRange cX4_requireRange 3 none, Cond.classLink RX4 130 "java/lang/IllegalArgumentException", Cond.initialized "java/lang/IllegalArgumentException", Cond.methodLink RX4 163 yX0_foreseeLevel, Cond.instanceMethod yX0_foreseeLevel, Cond.selects RX0 yX0_foreseeLevel yX0_foreseeLevel, Cond.initialized RX0, Cond.code yX0_foreseeLevel cX0_foreseeLevel 4 none]
def wsL_ifLevel_r2 : List Cond := [Cond.fieldLink RX0 43 "TurnDigits$State" "levels" "[I", Cond.fieldLink RX0 24 "TurnDigits$Frame" "levels" "[I", Cond.methodLink RX0 46 arraycopyName, Cond.native arraycopyName, Cond.static arraycopyName, Cond.initialized "java/lang/System", Cond.fieldLink RX0 27 "TurnDigits$Frame" "credits" "[I", Cond.methodLink RX0 57 yJ7_fill_53178, Cond.static yJ7_fill_53178, Cond.initialized RJ7, Cond.code yJ7_fill_53178 cJ7_fill_53178 4 none, Cond.methodLink RX0 53 yX0_passSlots, Cond.instanceMethod yX0_passSlots, Cond.selects RX0 yX0_passSlots yX0_passSlots, Cond.code yX0_passSlots cX0_passSlots 5 none, Cond.fieldLink RX0 63 "TurnDigits$State" "settings" "[I", Cond.fieldLink RX0 33 "TurnDigits$Frame" "length" "I", Cond.fieldLink RX0 37 "TurnDigits$Frame" "persistence" "I", Cond.fieldLink RX0 66 "TurnDigits$State" "ambientLight" "I", Cond.fieldLink RX0 40 "TurnDigits$Frame" "neededLight" "I", Cond.fieldLink RX0 18 "TurnDigits$Frame" "gaps" "[I", Cond.fieldLink RX0 21 "TurnDigits$Frame" "litSlots" "[I", Cond.fieldLink RX0 30 "TurnDigits$Frame" "darkRows" "[I", Cond.fieldLink RX0 69 "TurnDigits$State" "ahead" "I"]
def wsL_ifLevel_r3 : List Cond := [Cond.fieldLink RX0 9 "TurnDigits$Frame" "owners" "[I", Cond.fieldLink RX0 15 "TurnDigits$Frame" "lit" "[I", Cond.static yX4_giveSlot, Cond.code yX4_giveSlot cX4_giveSlot 5 (some .int), Cond.static yX4_litIn, Cond.code yX4_litIn cX4_litIn 3 (some .int), Cond.methodLink RX0 80 yX0_noteSlot, Cond.instanceMethod yX0_noteSlot, Cond.selects RX0 yX0_noteSlot yX0_noteSlot, Cond.code yX0_noteSlot cX0_noteSlot 3 none, Cond.methodLink RX0 84 Lib.Math.max.name, Cond.static Lib.Math.max.name, Cond.initialized "java/lang/Math", Cond.code Lib.Math.max.name Lib.Math.max.code 2 (some .int), Cond.methodLink RX4 167 yX4_trialNumber, Cond.instanceMethod yX4_trialNumber, Cond.selects RX4 yX4_trialNumber yX4_trialNumber, Cond.code yX4_trialNumber cX4_trialNumber 3 (some .int), Cond.methodLink RX4 214 yX0_lightOf, Cond.instanceMethod yX0_lightOf, Cond.selects RX0 yX0_lightOf yX0_lightOf, Cond.code yX0_lightOf cX0_lightOf 2 (some .int), Cond.methodLink RX4 247 yX0_seen, Cond.instanceMethod yX0_seen]
def wsL_ifLevel_r4 : List Cond := [Cond.selects RX0 yX0_seen yX0_seen, Cond.code yX0_seen cX0_seen 3 (some .int), Cond.methodLink RX0 98 yX0_isSeen, Cond.instanceMethod yX0_isSeen, Cond.selects RX0 yX0_isSeen yX0_isSeen, Cond.code yX0_isSeen cX0_isSeen 3 (some .boolean), Cond.methodLink RX0 90 yX0_lightOf, Cond.methodLink RX0 94 yX0_flickers, Cond.instanceMethod yX0_flickers, Cond.selects RX0 yX0_flickers yX0_flickers, Cond.code yX0_flickers cX0_flickers 2 (some .boolean), Cond.methodLink RX4 244 yX0_flickering, Cond.instanceMethod yX0_flickering, Cond.selects RX0 yX0_flickering yX0_flickering, Cond.code yX0_flickering cX0_flickering 3 (some .int)]
def wsL_ifLevel : List Cond := .codeWith yL_ifLevel cL_ifLevel 6 (some .int) [(0, 12, 15, 13), (0, 12, 19, 15)] :: ((wsL_ifLevel_r1 ++ (wsL_ifLevel_r2 ++ (wsL_ifLevel_r3 ++ wsL_ifLevel_r4))) ++ wsX40 ++ wsX20 ++ wsX00 ++ (vx_atS RX4 279 "java/lang/IndexOutOfBoundsException" ["java/lang/RuntimeException", "java/lang/Exception"]).filter goodWord ++ (vx_atS RX4 134 "java/lang/IllegalArgumentException" ["java/lang/RuntimeException", "java/lang/Exception"]).filter goodWord)
def wsL_leastLevel_r1 : List Cond := [Cond.classLink RL 13 "java/lang/IndexOutOfBoundsException", Cond.methodLink RL 69 yX4_leastLevel, Cond.instanceMethod yX4_leastLevel, Cond.selects RX4 yX4_leastLevel yX4_leastLevel, Cond.initialized RX4, Cond.code yX4_leastLevel cX4_leastLevel 2 (some .int), Cond.methodLink RX4 40 yX4_requireDigit, Cond.static yX4_requireDigit, Cond.code yX4_requireDigit cX4_requireDigit 1 none, Cond.classLink RX4 275 "java/lang/IndexOutOfBoundsException", Cond.initialized "java/lang/IndexOutOfBoundsException", Cond.methodLink RX4 170 yX4_leastSeenLevel, Cond.instanceMethod yX4_leastSeenLevel, Cond.selects RX4 yX4_leastSeenLevel yX4_leastSeenLevel, Cond.code yX4_leastSeenLevel cX4_leastSeenLevel 3 (some .int), Cond.fieldLink RX4 37 "TurnDigits" "trial" "LTurnDigits$Frame;", Cond.fieldLink RX4 10 "TurnDigits" "state" "LTurnDigits$State;", Cond.methodLink RX4 163 yX0_foreseeLevel, Cond.instanceMethod yX0_foreseeLevel, Cond.selects RX0 yX0_foreseeLevel yX0_foreseeLevel, Cond.initialized RX0, Cond.code yX0_foreseeLevel cX0_foreseeLevel 4 none, Cond.fieldLink RX0 43 "TurnDigits$State" "levels" "[I", Cond.fieldLink RX0 24 "TurnDigits$Frame" "levels" "[I"]
def wsL_leastLevel_r2 : List Cond := [Cond.methodLink RX0 46 arraycopyName, Cond.native arraycopyName, Cond.static arraycopyName, Cond.initialized "java/lang/System", Cond.fieldLink RX0 27 "TurnDigits$Frame" "credits" "[I", Cond.methodLink RX0 57 yJ7_fill_53178, Cond.static yJ7_fill_53178, Cond.initialized RJ7, Cond.code yJ7_fill_53178 cJ7_fill_53178 4 none, Cond.methodLink RX0 53 yX0_passSlots, Cond.instanceMethod yX0_passSlots, Cond.selects RX0 yX0_passSlots yX0_passSlots, Cond.code yX0_passSlots cX0_passSlots 5 none, Cond.fieldLink RX0 63 "TurnDigits$State" "settings" "[I", Cond.fieldLink RX0 33 "TurnDigits$Frame" "length" "I", Cond.fieldLink RX0 37 "TurnDigits$Frame" "persistence" "I", Cond.fieldLink RX0 66 "TurnDigits$State" "ambientLight" "I", Cond.fieldLink RX0 40 "TurnDigits$Frame" "neededLight" "I", Cond.fieldLink RX0 18 "TurnDigits$Frame" "gaps" "[I", Cond.fieldLink RX0 21 "TurnDigits$Frame" "litSlots" "[I", Cond.fieldLink RX0 30 "TurnDigits$Frame" "darkRows" "[I", Cond.fieldLink RX0 69 "TurnDigits$State" "ahead" "I", Cond.fieldLink RX0 9 "TurnDigits$Frame" "owners" "[I", Cond.fieldLink RX0 15 "TurnDigits$Frame" "lit" "[I"]
def wsL_leastLevel_r3 : List Cond := [Cond.static yX4_giveSlot, Cond.code yX4_giveSlot cX4_giveSlot 5 (some .int), Cond.static yX4_litIn, Cond.code yX4_litIn cX4_litIn 3 (some .int), Cond.methodLink RX0 80 yX0_noteSlot, Cond.instanceMethod yX0_noteSlot, Cond.selects RX0 yX0_noteSlot yX0_noteSlot, Cond.code yX0_noteSlot cX0_noteSlot 3 none, Cond.methodLink RX0 84 Lib.Math.max.name, Cond.static Lib.Math.max.name, Cond.initialized "java/lang/Math", Cond.code Lib.Math.max.name Lib.Math.max.code 2 (some .int), Cond.methodLink RX4 223 yX0_isSeen, Cond.instanceMethod yX0_isSeen, Cond.selects RX0 yX0_isSeen yX0_isSeen, Cond.code yX0_isSeen cX0_isSeen 3 (some .boolean), Cond.methodLink RX0 90 yX0_lightOf, Cond.instanceMethod yX0_lightOf, Cond.selects RX0 yX0_lightOf yX0_lightOf, Cond.code yX0_lightOf cX0_lightOf 2 (some .int), Cond.methodLink RX0 94 yX0_flickers, Cond.instanceMethod yX0_flickers, Cond.selects RX0 yX0_flickers yX0_flickers, Cond.code yX0_flickers cX0_flickers 2 (some .boolean)]
def wsL_leastLevel : List Cond := .codeWith yL_leastLevel cL_leastLevel 4 (some .int) [(0, 9, 12, 13)] :: ((wsL_leastLevel_r1 ++ (wsL_leastLevel_r2 ++ wsL_leastLevel_r3)) ++ wsX40 ++ wsX20 ++ wsX00 ++ (vx_atS RX4 279 "java/lang/IndexOutOfBoundsException" ["java/lang/RuntimeException", "java/lang/Exception"]).filter goodWord)
def wsL_alikeSigns : List Cond := .codeWith yL_alikeSigns cL_alikeSigns 4 (some .int) [(0, 9, 12, 13)] :: ([.classLink RL 13 "java/lang/IndexOutOfBoundsException", .methodLink RL 72 yX4_alikeSigns, .instanceMethod yX4_alikeSigns, .selects RX4 yX4_alikeSigns yX4_alikeSigns, .initialized RX4, .code yX4_alikeSigns cX4_alikeSigns 2 (some .int), .methodLink RX4 40 yX4_requireDigit, .static yX4_requireDigit, .code yX4_requireDigit cX4_requireDigit 1 none, .classLink RX4 275 "java/lang/IndexOutOfBoundsException", .initialized "java/lang/IndexOutOfBoundsException", .methodLink RX4 173 yX4_alikePairs, .instanceMethod yX4_alikePairs, .selects RX4 yX4_alikePairs yX4_alikePairs, .code yX4_alikePairs cX4_alikePairs 6 (some .int), .fieldLink RX4 10 "TurnDigits" "state" "LTurnDigits$State;", .fieldLink RX4 65 "TurnDigits$State" "burnt" "[I", .fieldLink RX4 272 "TurnDigits" "MASKS" "[I"] ++ wsX40 ++ wsX20 ++ (vx_atS RX4 279 "java/lang/IndexOutOfBoundsException" ["java/lang/RuntimeException", "java/lang/Exception"]).filter goodWord)
def wsL_law0_r1 : List Cond := [Cond.classLink RL 8 RX4, Cond.instantiable RX4 5, Cond.initialized RX4, Cond.classLink RL 76 RX5, Cond.instantiable RX5 16, Cond.initialized RX5, Cond.arrayClass .long, Cond.methodLink RL 75 yX4_init, Cond.instanceMethod yX4_init, Cond.code yX4_init cX4_init 1 none, Cond.methodLink RX4 1 objectInit, Cond.instanceMethod objectInit, Cond.code objectInit ⟨#[0xb1]⟩ 1 none, Cond.classLink RX4 7 RX2, Cond.instantiable RX2 10, Cond.initialized RX2, Cond.fieldLink RX4 10 "TurnDigits" "state" "LTurnDigits$State;", Cond.classLink RX4 16 RX1, Cond.instantiable RX1 3, Cond.initialized RX1, Cond.fieldLink RX4 19 "TurnDigits" "history" "LTurnDigits$History;", Cond.classLink RX4 23 RX3, Cond.instantiable RX3 6, Cond.initialized RX3]
def wsL_law0_r2 : List Cond := [Cond.fieldLink RX4 26 "TurnDigits" "text" "LTurnDigits$Text;", Cond.classLink RX4 30 RX0, Cond.instantiable RX0 10, Cond.initialized RX0, Cond.fieldLink RX4 33 "TurnDigits" "frame" "LTurnDigits$Frame;", Cond.fieldLink RX4 37 "TurnDigits" "trial" "LTurnDigits$Frame;", Cond.methodLink RX4 9 yX2_init, Cond.instanceMethod yX2_init, Cond.code yX2_init cX2_init 1 none, Cond.methodLink RX2 3 objectInit, Cond.arrayClass .int, Cond.fieldLink RX2 9 "TurnDigits$State" "signs" "[I", Cond.fieldLink RX2 15 "TurnDigits$State" "levels" "[I", Cond.fieldLink RX2 18 "TurnDigits$State" "burnt" "[I", Cond.fieldLink RX2 21 "TurnDigits$State" "credits" "[I", Cond.fieldLink RX2 24 "TurnDigits$State" "litSlots" "[I", Cond.fieldLink RX2 27 "TurnDigits$State" "wears" "[I", Cond.fieldLink RX2 30 "TurnDigits$State" "settings" "[I", Cond.fieldLink RX2 33 "TurnDigits$State" "ambientLight" "I", Cond.fieldLink RX2 37 "TurnDigits$State" "time" "I", Cond.fieldLink RX2 40 "TurnDigits$State" "ahead" "I", Cond.methodLink RX2 52 arraycopyName, Cond.native arraycopyName, Cond.static arraycopyName]
def wsL_law0_r3 : List Cond := [Cond.initialized "java/lang/System", Cond.methodLink RX2 43 yJ7_fill_53178, Cond.static yJ7_fill_53178, Cond.initialized RJ7, Cond.code yJ7_fill_53178 cJ7_fill_53178 4 none, Cond.methodLink RX4 18 yX1_init, Cond.instanceMethod yX1_init, Cond.code yX1_init cX1_init 2 none, Cond.methodLink RX1 3 objectInit, Cond.classLink RX1 9 RX2, Cond.fieldLink RX1 11 "TurnDigits$History" "saved" "[LTurnDigits$State;", Cond.fieldLink RX1 17 "TurnDigits$History" "oldest" "I", Cond.fieldLink RX1 21 "TurnDigits$History" "size" "I", Cond.methodLink RX1 24 yX2_init, Cond.methodLink RX4 25 yX3_init, Cond.instanceMethod yX3_init, Cond.code yX3_init cX3_init 1 none, Cond.methodLink RX3 3 objectInit, Cond.fieldLink RX3 9 "TurnDigits$Text" "codes" "[I", Cond.fieldLink RX3 15 "TurnDigits$Text" "length" "I", Cond.fieldLink RX3 19 "TurnDigits$Text" "signs" "[I", Cond.fieldLink RX3 22 "TurnDigits$Text" "levels" "[I", Cond.fieldLink RX3 25 "TurnDigits$Text" "parts" "I", Cond.fieldLink RX3 28 "TurnDigits$Text" "place" "I"]
def wsL_law0_r4 : List Cond := [Cond.instanceMethod yX0_init, Cond.code yX0_init cX0_init 1 none, Cond.methodLink RX0 3 objectInit, Cond.fieldLink RX0 9 "TurnDigits$Frame" "owners" "[I", Cond.fieldLink RX0 15 "TurnDigits$Frame" "lit" "[I", Cond.fieldLink RX0 18 "TurnDigits$Frame" "gaps" "[I", Cond.fieldLink RX0 21 "TurnDigits$Frame" "litSlots" "[I", Cond.fieldLink RX0 24 "TurnDigits$Frame" "levels" "[I", Cond.fieldLink RX0 27 "TurnDigits$Frame" "credits" "[I", Cond.fieldLink RX0 30 "TurnDigits$Frame" "darkRows" "[I", Cond.fieldLink RX0 33 "TurnDigits$Frame" "length" "I", Cond.fieldLink RX0 37 "TurnDigits$Frame" "persistence" "I", Cond.fieldLink RX0 40 "TurnDigits$Frame" "neededLight" "I", Cond.methodLink RL 78 yX5_init, Cond.instanceMethod yX5_init, Cond.code yX5_init cX5_init 2 none, Cond.methodLink RX5 1 objectInit, Cond.fieldLink RX5 7 "TurnDigitsModel" "masks" "[I", Cond.fieldLink RX5 13 "TurnDigitsModel" "now" "[I", Cond.fieldLink RX5 16 "TurnDigitsModel" "then" "[I", Cond.fieldLink RX5 19 "TurnDigitsModel" "past" "[I", Cond.fieldLink RX5 22 "TurnDigitsModel" "text" "[I", Cond.fieldLink RX5 25 "TurnDigitsModel" "told" "[I", Cond.fieldLink RX5 28 "TurnDigitsModel" "owners" "[I"]
def wsL_law0_r5 : List Cond := [Cond.fieldLink RX5 31 "TurnDigitsModel" "lits" "[I", Cond.fieldLink RX5 34 "TurnDigitsModel" "credits" "[I", Cond.methodLink RL 79 yL_show, Cond.static yL_show, Cond.initialized RL, Cond.codeWith yL_show cL_show 5 (some .int) [(0, 10, 13, 13), (0, 10, 17, 15)], Cond.classLink RL 13 "java/lang/IndexOutOfBoundsException", Cond.classLink RL 15 "java/lang/IllegalArgumentException", Cond.methodLink RL 7 yX4_show, Cond.instanceMethod yX4_show, Cond.selects RX4 yX4_show yX4_show, Cond.code yX4_show cX4_show 4 (some .int), Cond.fieldLink RX4 52 "TurnDigits$State" "signs" "[I", Cond.methodLink RX4 40 yX4_requireDigit, Cond.static yX4_requireDigit, Cond.code yX4_requireDigit cX4_requireDigit 1 none, Cond.classLink RX4 275 "java/lang/IndexOutOfBoundsException", Cond.initialized "java/lang/IndexOutOfBoundsException", Cond.methodLink RX4 44 yX4_requireRange, Cond.static yX4_requireRange, Cond.code yX4_requireRange cX4_requireRange 3 none, Cond.classLink RX4 130 "java/lang/IllegalArgumentException", Cond.initialized "java/lang/IllegalArgumentException", Cond.methodLink RX4 48 yX1_push]
def wsL_law0_r6 : List Cond := [Cond.instanceMethod yX1_push, Cond.selects RX1 yX1_push yX1_push, Cond.code yX1_push cX1_push 2 none, Cond.methodLink RX1 25 yX2_copyFrom, Cond.instanceMethod yX2_copyFrom, Cond.selects RX2 yX2_copyFrom yX2_copyFrom, Cond.code yX2_copyFrom cX2_copyFrom 2 none, Cond.methodLink RL 84 yX5_show, Cond.instanceMethod yX5_show, Cond.selects RX5 yX5_show yX5_show, Cond.code yX5_show cX5_show 3 (some .int), Cond.fieldLink RX5 37 "TurnDigitsModel" "thrown" "I", Cond.methodLink RX5 87 yX5_isDigit, Cond.static yX5_isDigit, Cond.code yX5_isDigit cX5_isDigit 1 (some .boolean), Cond.methodLink RX5 41 yX5_in, Cond.static yX5_in, Cond.code yX5_in cX5_in 3 (some .boolean), Cond.methodLink RX5 48 yX5_fails, Cond.instanceMethod yX5_fails, Cond.selects RX5 yX5_fails yX5_fails, Cond.code yX5_fails cX5_fails 2 (some .int), Cond.methodLink RX5 91 yX5_isSign, Cond.static yX5_isSign]
def wsL_law0_r7 : List Cond := [Cond.code yX5_isSign cX5_isSign 1 (some .boolean), Cond.methodLink RX5 94 yX5_saves, Cond.instanceMethod yX5_saves, Cond.selects RX5 yX5_saves yX5_saves, Cond.code yX5_saves cX5_saves 2 none, Cond.fieldLink RX5 45 "TurnDigitsModel" "kept" "I", Cond.methodLink RX5 97 yX5_changes, Cond.instanceMethod yX5_changes, Cond.selects RX5 yX5_changes yX5_changes, Cond.code yX5_changes cX5_changes 4 (some .int), Cond.methodLink RL 85 yX5_thrown, Cond.instanceMethod yX5_thrown, Cond.selects RX5 yX5_thrown yX5_thrown, Cond.code yX5_thrown cX5_thrown 1 (some .int), Cond.methodLink RL 88 yL_level, Cond.static yL_level, Cond.codeWith yL_level cL_level 5 (some .int) [(0, 10, 13, 13), (0, 10, 17, 15)], Cond.methodLink RL 17 yX4_level, Cond.instanceMethod yX4_level, Cond.selects RX4 yX4_level yX4_level, Cond.code yX4_level cX4_level 4 (some .int), Cond.fieldLink RX4 56 "TurnDigits$State" "levels" "[I", Cond.methodLink RX4 59 yX2_clearCredits, Cond.instanceMethod yX2_clearCredits]
def wsL_law0_r8 : List Cond := [Cond.selects RX2 yX2_clearCredits yX2_clearCredits, Cond.code yX2_clearCredits cX2_clearCredits 1 none, Cond.methodLink RL 90 yX5_level, Cond.instanceMethod yX5_level, Cond.selects RX5 yX5_level yX5_level, Cond.code yX5_level cX5_level 3 (some .int), Cond.methodLink RX5 100 yX5_isLevel, Cond.static yX5_isLevel, Cond.code yX5_isLevel cX5_isLevel 1 (some .boolean), Cond.methodLink RX5 103 yX5_noCredits, Cond.instanceMethod yX5_noCredits, Cond.selects RX5 yX5_noCredits yX5_noCredits, Cond.code yX5_noCredits cX5_noCredits 2 none, Cond.methodLink RL 91 yL_burn, Cond.static yL_burn, Cond.codeWith yL_burn cL_burn 6 (some .int) [(0, 12, 15, 13)], Cond.methodLink RL 20 yX4_burn, Cond.instanceMethod yX4_burn, Cond.selects RX4 yX4_burn yX4_burn, Cond.code yX4_burn cX4_burn 6 (some .int), Cond.fieldLink RX4 65 "TurnDigits$State" "burnt" "[I", Cond.fieldLink RX4 68 "TurnDigits$State" "wears" "[I", Cond.methodLink RX4 62 yX4_requireSegment, Cond.static yX4_requireSegment]
def wsL_law0_r9 : List Cond := [Cond.code yX4_requireSegment cX4_requireSegment 1 none, Cond.methodLink RX4 71 yX4_wearPlace, Cond.static yX4_wearPlace, Cond.code yX4_wearPlace cX4_wearPlace 2 (some .int), Cond.methodLink RL 94 yX5_burn, Cond.instanceMethod yX5_burn, Cond.selects RX5 yX5_burn yX5_burn, Cond.code yX5_burn cX5_burn 6 (some .int), Cond.methodLink RX5 106 yX5_isSegment, Cond.static yX5_isSegment, Cond.code yX5_isSegment cX5_isSegment 1 (some .boolean), Cond.methodLink RL 95 yL_ambient, Cond.static yL_ambient, Cond.codeWith yL_ambient cL_ambient 4 (some .int) [(0, 9, 12, 15)], Cond.methodLink RL 24 yX4_ambient, Cond.instanceMethod yX4_ambient, Cond.selects RX4 yX4_ambient yX4_ambient, Cond.code yX4_ambient cX4_ambient 3 (some .int), Cond.fieldLink RX4 75 "TurnDigits$State" "ambientLight" "I", Cond.methodLink RL 98 yX5_ambient, Cond.instanceMethod yX5_ambient, Cond.selects RX5 yX5_ambient yX5_ambient, Cond.code yX5_ambient cX5_ambient 2 (some .int), Cond.methodLink RL 99 yL_set]
def wsL_law0_r10 : List Cond := [Cond.static yL_set, Cond.codeWith yL_set cL_set 5 (some .int) [(0, 10, 13, 13), (0, 10, 17, 15)], Cond.methodLink RL 28 yX4_set, Cond.instanceMethod yX4_set, Cond.selects RX4 yX4_set yX4_set, Cond.code yX4_set cX4_set 4 (some .int), Cond.fieldLink RX4 82 "TurnDigits" "LEAST_VALUES" "[I", Cond.fieldLink RX4 85 "TurnDigits" "MOST_VALUES" "[I", Cond.fieldLink RX4 88 "TurnDigits$State" "settings" "[I", Cond.methodLink RX4 79 yX4_requireSetting, Cond.static yX4_requireSetting, Cond.code yX4_requireSetting cX4_requireSetting 1 none, Cond.methodLink RL 101 yX5_set, Cond.instanceMethod yX5_set, Cond.selects RX5 yX5_set yX5_set, Cond.code yX5_set cX5_set 3 (some .int), Cond.methodLink RX5 109 yX5_isFor, Cond.static yX5_isFor, Cond.code yX5_isFor cX5_isFor 2 (some .boolean), Cond.methodLink RL 102 yL_number, Cond.static yL_number, Cond.codeWith yL_number cL_number 6 (some .int) [(0, 12, 15, 13), (0, 12, 19, 15)], Cond.methodLink RL 31 yX4_number, Cond.instanceMethod yX4_number]
def wsL_law0_r11 : List Cond := [Cond.selects RX4 yX4_number yX4_number, Cond.code yX4_number cX4_number 5 (some .int), Cond.methodLink RX4 91 yX4_numberLength, Cond.static yX4_numberLength, Cond.code yX4_numberLength cX4_numberLength 4 (some .int), Cond.constantLong RX4 290 (10), Cond.methodLink RX4 286 yX4_magnitude, Cond.static yX4_magnitude, Cond.code yX4_magnitude cX4_magnitude 1 (some .long), Cond.methodLink RX4 95 yX2_putNumber, Cond.instanceMethod yX2_putNumber, Cond.selects RX2 yX2_putNumber yX2_putNumber, Cond.code yX2_putNumber cX2_putNumber 10 none, Cond.constantLong RX2 62 (10), Cond.methodLink RL 105 yX5_number, Cond.instanceMethod yX5_number, Cond.selects RX5 yX5_number yX5_number, Cond.code yX5_number cX5_number 10 (some .int), Cond.methodLink RX5 113 yX5_sizeOf, Cond.static yX5_sizeOf, Cond.code yX5_sizeOf cX5_sizeOf 3 (some .int), Cond.methodLink RL 106 yL_run, Cond.static yL_run, Cond.codeWith yL_run cL_run 4 (some .int) [(0, 9, 12, 15), (0, 9, 15, 38)]]
def wsL_law0_r12 : List Cond := [Cond.classLink RL 38 "java/lang/IllegalStateException", Cond.methodLink RL 35 yX4_run, Cond.instanceMethod yX4_run, Cond.selects RX4 yX4_run yX4_run, Cond.code yX4_run cX4_run 4 (some .int), Cond.classLink RX4 103 "java/lang/IllegalStateException", Cond.initialized "java/lang/IllegalStateException", Cond.fieldLink RX4 99 "TurnDigits$State" "time" "I", Cond.constant RX4 102 (99999), Cond.methodLink RX4 110 yX2_passSlot, Cond.instanceMethod yX2_passSlot, Cond.selects RX2 yX2_passSlot yX2_passSlot, Cond.code yX2_passSlot cX2_passSlot 3 (some .int), Cond.static yX4_giveSlot, Cond.code yX4_giveSlot cX4_giveSlot 5 (some .int), Cond.static yX4_litIn, Cond.code yX4_litIn cX4_litIn 3 (some .int), Cond.methodLink RX2 72 yX2_wearOut, Cond.instanceMethod yX2_wearOut, Cond.selects RX2 yX2_wearOut yX2_wearOut, Cond.code yX2_wearOut cX2_wearOut 7 (some .int), Cond.methodLink RX2 76 yX2_shownSegments, Cond.instanceMethod yX2_shownSegments, Cond.selects RX2 yX2_shownSegments yX2_shownSegments]
def wsL_law0_r13 : List Cond := [Cond.code yX2_shownSegments cX2_shownSegments 2 (some .int), Cond.methodLink RL 108 yX5_run, Cond.instanceMethod yX5_run, Cond.selects RX5 yX5_run yX5_run, Cond.code yX5_run cX5_run 4 (some .int), Cond.constant RX5 116 (99999), Cond.methodLink RX5 117 yX5_goes, Cond.instanceMethod yX5_goes, Cond.selects RX5 yX5_goes yX5_goes, Cond.code yX5_goes cX5_goes 7 (some .int), Cond.methodLink RX5 59 yX5_turns, Cond.static yX5_turns, Cond.code yX5_turns cX5_turns 5 (some .int), Cond.methodLink RX5 52 yX5_levels, Cond.static yX5_levels, Cond.code yX5_levels cX5_levels 3 (some .int), Cond.methodLink RX5 63 yX5_litBy, Cond.static yX5_litBy, Cond.code yX5_litBy cX5_litBy 4 (some .int), Cond.methodLink RX5 77 yX5_shownAs, Cond.instanceMethod yX5_shownAs, Cond.selects RX5 yX5_shownAs yX5_shownAs, Cond.code yX5_shownAs cX5_shownAs 3 (some .int), Cond.methodLink RL 109 yL_append]
def wsL_law0_r14 : List Cond := [Cond.static yL_append, Cond.codeWith yL_append cL_append 4 (some .int) [(0, 9, 12, 15), (0, 9, 15, 38)], Cond.methodLink RL 40 yX4_append, Cond.instanceMethod yX4_append, Cond.selects RX4 yX4_append yX4_append, Cond.code yX4_append cX4_append 2 (some .int), Cond.fieldLink RX4 120 "TurnDigits$Text" "length" "I", Cond.methodLink RX4 114 yX3_put, Cond.instanceMethod yX3_put, Cond.selects RX3 yX3_put yX3_put, Cond.code yX3_put cX3_put 2 (some .boolean), Cond.methodLink RL 111 yX5_append, Cond.instanceMethod yX5_append, Cond.selects RX5 yX5_append yX5_append, Cond.code yX5_append cX5_append 2 (some .int), Cond.fieldLink RX5 121 "TurnDigitsModel" "typed" "I", Cond.methodLink RL 112 yX4_clearBuffer, Cond.instanceMethod yX4_clearBuffer, Cond.selects RX4 yX4_clearBuffer yX4_clearBuffer, Cond.code yX4_clearBuffer cX4_clearBuffer 2 (some .int), Cond.methodLink RL 115 yX5_clearBuffer, Cond.instanceMethod yX5_clearBuffer, Cond.selects RX5 yX5_clearBuffer yX5_clearBuffer, Cond.code yX5_clearBuffer cX5_clearBuffer 2 (some .int)]
def wsL_law0_r15 : List Cond := [Cond.methodLink RL 116 yX4_firstError, Cond.instanceMethod yX4_firstError, Cond.selects RX4 yX4_firstError yX4_firstError, Cond.code yX4_firstError cX4_firstError 1 (some .int), Cond.methodLink RX4 123 yX3_scan, Cond.instanceMethod yX3_scan, Cond.selects RX3 yX3_scan yX3_scan, Cond.code yX3_scan cX3_scan 2 (some .int), Cond.methodLink RX3 31 yX3_takes, Cond.instanceMethod yX3_takes, Cond.selects RX3 yX3_takes yX3_takes, Cond.code yX3_takes cX3_takes 2 (some .boolean), Cond.methodLink RX3 35 yX3_takesLevel, Cond.instanceMethod yX3_takesLevel, Cond.selects RX3 yX3_takesLevel yX3_takesLevel, Cond.code yX3_takesLevel cX3_takesLevel 2 (some .boolean), Cond.methodLink RX3 38 yX3_tellLevel, Cond.instanceMethod yX3_tellLevel, Cond.selects RX3 yX3_tellLevel yX3_tellLevel, Cond.code yX3_tellLevel cX3_tellLevel 2 none, Cond.methodLink RX3 42 yX3_takesSign, Cond.instanceMethod yX3_takesSign, Cond.selects RX3 yX3_takesSign yX3_takesSign, Cond.code yX3_takesSign cX3_takesSign 3 (some .boolean)]
def wsL_law0_r16 : List Cond := [Cond.methodLink RX3 45 yX3_signOf, Cond.static yX3_signOf, Cond.code yX3_signOf cX3_signOf 1 (some .int), Cond.methodLink RL 119 yX5_firstError, Cond.instanceMethod yX5_firstError, Cond.selects RX5 yX5_firstError yX5_firstError, Cond.code yX5_firstError cX5_firstError 2 (some .int), Cond.fieldLink RX5 127 "TurnDigitsModel" "isFault" "Z", Cond.fieldLink RX5 124 "TurnDigitsModel" "at" "I", Cond.methodLink RX5 144 yX5_isText, Cond.instanceMethod yX5_isText, Cond.selects RX5 yX5_isText yX5_isText, Cond.code yX5_isText cX5_isText 2 (some .boolean), Cond.fieldLink RX5 138 "TurnDigitsModel" "tolds" "I", Cond.methodLink RX5 141 yX5_isPart, Cond.instanceMethod yX5_isPart, Cond.selects RX5 yX5_isPart yX5_isPart, Cond.code yX5_isPart cX5_isPart 3 (some .boolean), Cond.methodLink RX5 131 yX5_isAt, Cond.instanceMethod yX5_isAt, Cond.selects RX5 yX5_isAt yX5_isAt, Cond.code yX5_isAt cX5_isAt 3 (some .boolean), Cond.methodLink RX5 134 yX5_stops, Cond.instanceMethod yX5_stops]
def wsL_law0_r17 : List Cond := [Cond.selects RX5 yX5_stops yX5_stops, Cond.code yX5_stops cX5_stops 1 (some .boolean), Cond.methodLink RL 120 yL_read, Cond.static yL_read, Cond.codeWith yL_read cL_read 3 (some .int) [(0, 8, 11, 15)], Cond.methodLink RL 43 yX4_read, Cond.instanceMethod yX4_read, Cond.selects RX4 yX4_read yX4_read, Cond.code yX4_read cX4_read 3 (some .int), Cond.fieldLink RX4 135 "TurnDigits$Text" "parts" "I", Cond.fieldLink RX4 138 "TurnDigits$Text" "signs" "[I", Cond.fieldLink RX4 139 "TurnDigits$Text" "levels" "[I", Cond.methodLink RX4 126 yX3_isWhole, Cond.instanceMethod yX3_isWhole, Cond.selects RX3 yX3_isWhole yX3_isWhole, Cond.code yX3_isWhole cX3_isWhole 1 (some .boolean), Cond.methodLink RL 123 yX5_read, Cond.instanceMethod yX5_read, Cond.selects RX5 yX5_read yX5_read, Cond.code yX5_read cX5_read 2 (some .int), Cond.methodLink RL 124 yL_undo, Cond.static yL_undo, Cond.codeWith yL_undo cL_undo 3 (some .int) [(0, 8, 11, 38)], Cond.methodLink RL 47 yX4_undo]
def wsL_law0_r18 : List Cond := [Cond.instanceMethod yX4_undo, Cond.selects RX4 yX4_undo yX4_undo, Cond.code yX4_undo cX4_undo 1 (some .int), Cond.fieldLink RX4 140 "TurnDigits$History" "size" "I", Cond.methodLink RX4 145 yX1_pop, Cond.instanceMethod yX1_pop, Cond.selects RX1 yX1_pop yX1_pop, Cond.code yX1_pop cX1_pop 2 none, Cond.methodLink RL 126 yX5_undo, Cond.instanceMethod yX5_undo, Cond.selects RX5 yX5_undo yX5_undo, Cond.code yX5_undo cX5_undo 2 (some .int), Cond.methodLink RL 127 yL_digit, Cond.static yL_digit, Cond.codeWith yL_digit cL_digit 5 (some .int) [(0, 10, 13, 13), (0, 10, 17, 15)], Cond.methodLink RL 50 yX4_digit, Cond.instanceMethod yX4_digit, Cond.selects RX4 yX4_digit yX4_digit, Cond.code yX4_digit cX4_digit 3 (some .int), Cond.methodLink RX4 148 yX0_foresee, Cond.instanceMethod yX0_foresee, Cond.selects RX0 yX0_foresee yX0_foresee, Cond.code yX0_foresee cX0_foresee 2 none, Cond.fieldLink RX0 43 "TurnDigits$State" "levels" "[I"]
def wsL_law0_r19 : List Cond := [Cond.methodLink RX0 46 arraycopyName, Cond.fieldLink RX0 52 "TurnDigits$State" "credits" "[I", Cond.methodLink RX0 53 yX0_passSlots, Cond.instanceMethod yX0_passSlots, Cond.selects RX0 yX0_passSlots yX0_passSlots, Cond.code yX0_passSlots cX0_passSlots 5 none, Cond.fieldLink RX0 63 "TurnDigits$State" "settings" "[I", Cond.fieldLink RX0 66 "TurnDigits$State" "ambientLight" "I", Cond.fieldLink RX0 69 "TurnDigits$State" "ahead" "I", Cond.methodLink RX0 57 yJ7_fill_53178, Cond.methodLink RX0 80 yX0_noteSlot, Cond.instanceMethod yX0_noteSlot, Cond.selects RX0 yX0_noteSlot yX0_noteSlot, Cond.code yX0_noteSlot cX0_noteSlot 3 none, Cond.methodLink RX0 84 Lib.Math.max.name, Cond.static Lib.Math.max.name, Cond.initialized "java/lang/Math", Cond.code Lib.Math.max.name Lib.Math.max.code 2 (some .int), Cond.methodLink RX4 151 yX4_property, Cond.instanceMethod yX4_property, Cond.selects RX4 yX4_property yX4_property, Cond.code yX4_property cX4_property 3 (some .int), Cond.fieldLink RX4 211 "TurnDigits$State" "credits" "[I", Cond.fieldLink RX4 217 "TurnDigits$Frame" "gaps" "[I"]
def wsL_law0_r20 : List Cond := [Cond.fieldLink RX4 232 "TurnDigits$State" "litSlots" "[I", Cond.methodLink RX4 208 yX2_shownSegments, Cond.methodLink RX4 214 yX0_lightOf, Cond.instanceMethod yX0_lightOf, Cond.selects RX0 yX0_lightOf yX0_lightOf, Cond.code yX0_lightOf cX0_lightOf 2 (some .int), Cond.methodLink RX4 220 yX0_flickers, Cond.instanceMethod yX0_flickers, Cond.selects RX0 yX0_flickers yX0_flickers, Cond.code yX0_flickers cX0_flickers 2 (some .boolean), Cond.methodLink RX4 223 yX0_isSeen, Cond.instanceMethod yX0_isSeen, Cond.selects RX0 yX0_isSeen yX0_isSeen, Cond.code yX0_isSeen cX0_isSeen 3 (some .boolean), Cond.methodLink RX0 90 yX0_lightOf, Cond.methodLink RX0 94 yX0_flickers, Cond.methodLink RX4 226 yX4_isClear, Cond.instanceMethod yX4_isClear, Cond.selects RX4 yX4_isClear yX4_isClear, Cond.code yX4_isClear cX4_isClear 2 (some .boolean), Cond.methodLink RX4 229 yX2_readableSigns, Cond.instanceMethod yX2_readableSigns, Cond.selects RX2 yX2_readableSigns yX2_readableSigns, Cond.code yX2_readableSigns cX2_readableSigns 5 (some .int)]
def wsL_law0_r21 : List Cond := [Cond.methodLink RX4 259 yJ6_bitCount_0f7a4, Cond.static yJ6_bitCount_0f7a4, Cond.initialized RJ6, Cond.code yJ6_bitCount_0f7a4 cJ6_bitCount_0f7a4 1 (some .int), Cond.constant RJ6 265 (1431655765), Cond.constant RJ6 266 (858993459), Cond.constant RJ6 267 (252645135), Cond.methodLink RL 129 yX5_digit, Cond.instanceMethod yX5_digit, Cond.selects RX5 yX5_digit yX5_digit, Cond.code yX5_digit cX5_digit 3 (some .int), Cond.methodLink RX5 154 yX5_ofDigit, Cond.instanceMethod yX5_ofDigit, Cond.selects RX5 yX5_ofDigit yX5_ofDigit, Cond.code yX5_ofDigit cX5_ofDigit 3 (some .int), Cond.methodLink RX5 81 yX5_readable, Cond.instanceMethod yX5_readable, Cond.selects RX5 yX5_readable yX5_readable, Cond.code yX5_readable cX5_readable 4 (some .int), Cond.methodLink RX5 147 yX5_frames, Cond.instanceMethod yX5_frames, Cond.selects RX5 yX5_frames yX5_frames, Cond.code yX5_frames cX5_frames 3 none, Cond.fieldLink RX5 56 "TurnDigitsModel" "frame" "I"]
def wsL_law0_r22 : List Cond := [Cond.methodLink RX5 70 yX5_light, Cond.instanceMethod yX5_light, Cond.selects RX5 yX5_light yX5_light, Cond.code yX5_light cX5_light 4 (some .int), Cond.methodLink RX5 67 yX5_gap, Cond.instanceMethod yX5_gap, Cond.selects RX5 yX5_gap yX5_gap, Cond.code yX5_gap cX5_gap 5 (some .int), Cond.methodLink RX5 73 yX5_flickers, Cond.instanceMethod yX5_flickers, Cond.selects RX5 yX5_flickers yX5_flickers, Cond.code yX5_flickers cX5_flickers 4 (some .boolean), Cond.methodLink RX5 84 yX5_isSeen, Cond.instanceMethod yX5_isSeen, Cond.selects RX5 yX5_isSeen yX5_isSeen, Cond.code yX5_isSeen cX5_isSeen 4 (some .boolean), Cond.methodLink RX5 151 yX5_isClear, Cond.instanceMethod yX5_isClear, Cond.selects RX5 yX5_isClear yX5_isClear, Cond.code yX5_isClear cX5_isClear 3 (some .boolean), Cond.methodLink RL 130 yL_wear, Cond.static yL_wear, Cond.codeWith yL_wear cL_wear 5 (some .int) [(0, 10, 13, 13)], Cond.methodLink RL 53 yX4_wear]
def wsL_law0_r23 : List Cond := [Cond.instanceMethod yX4_wear, Cond.selects RX4 yX4_wear yX4_wear, Cond.code yX4_wear cX4_wear 3 (some .int), Cond.methodLink RL 132 yX5_wear, Cond.instanceMethod yX5_wear, Cond.selects RX5 yX5_wear yX5_wear, Cond.code yX5_wear cX5_wear 3 (some .int), Cond.methodLink RL 133 yL_slot, Cond.static yL_slot, Cond.codeWith yL_slot cL_slot 5 (some .int) [(0, 10, 13, 15)], Cond.methodLink RL 56 yX4_slot, Cond.instanceMethod yX4_slot, Cond.selects RX4 yX4_slot yX4_slot, Cond.code yX4_slot cX4_slot 3 (some .int), Cond.fieldLink RX4 154 "TurnDigits$Frame" "lit" "[I", Cond.fieldLink RX4 157 "TurnDigits$Frame" "owners" "[I", Cond.methodLink RL 136 yX5_slot, Cond.instanceMethod yX5_slot, Cond.selects RX5 yX5_slot yX5_slot, Cond.code yX5_slot cX5_slot 3 (some .int), Cond.methodLink RL 137 yL_count, Cond.static yL_count, Cond.codeWith yL_count cL_count 4 (some .int) [(0, 9, 12, 15)], Cond.methodLink RL 60 yX4_count]
def wsL_law0_r24 : List Cond := [Cond.instanceMethod yX4_count, Cond.selects RX4 yX4_count yX4_count, Cond.code yX4_count cX4_count 2 (some .int), Cond.methodLink RX4 160 yX4_total, Cond.instanceMethod yX4_total, Cond.selects RX4 yX4_total yX4_total, Cond.code yX4_total cX4_total 2 (some .int), Cond.fieldLink RX4 256 "TurnDigits$State" "ahead" "I", Cond.methodLink RX4 235 yX2_levelSum, Cond.instanceMethod yX2_levelSum, Cond.selects RX2 yX2_levelSum yX2_levelSum, Cond.code yX2_levelSum cX2_levelSum 3 (some .int), Cond.methodLink RX4 238 yX0_darkSlots, Cond.instanceMethod yX0_darkSlots, Cond.selects RX0 yX0_darkSlots yX0_darkSlots, Cond.code yX0_darkSlots cX0_darkSlots 3 (some .int), Cond.methodLink RX4 241 yX0_changes, Cond.instanceMethod yX0_changes, Cond.selects RX0 yX0_changes yX0_changes, Cond.code yX0_changes cX0_changes 3 (some .int), Cond.methodLink RX4 244 yX0_flickering, Cond.instanceMethod yX0_flickering, Cond.selects RX0 yX0_flickering yX0_flickering, Cond.code yX0_flickering cX0_flickering 3 (some .int)]
def wsL_law0_r25 : List Cond := [Cond.methodLink RX4 247 yX0_seen, Cond.instanceMethod yX0_seen, Cond.selects RX0 yX0_seen yX0_seen, Cond.code yX0_seen cX0_seen 3 (some .int), Cond.methodLink RX0 98 yX0_isSeen, Cond.methodLink RX4 250 yX4_clearDigits, Cond.instanceMethod yX4_clearDigits, Cond.selects RX4 yX4_clearDigits yX4_clearDigits, Cond.code yX4_clearDigits cX4_clearDigits 3 (some .int), Cond.methodLink RX4 253 yX2_burntSegments, Cond.instanceMethod yX2_burntSegments, Cond.selects RX2 yX2_burntSegments yX2_burntSegments, Cond.code yX2_burntSegments cX2_burntSegments 3 (some .int), Cond.methodLink RX2 86 yJ6_bitCount_0f7a4, Cond.methodLink RL 139 yX5_count, Cond.instanceMethod yX5_count, Cond.selects RX5 yX5_count yX5_count, Cond.code yX5_count cX5_count 2 (some .int), Cond.methodLink RX5 171 yX5_counted, Cond.instanceMethod yX5_counted, Cond.selects RX5 yX5_counted yX5_counted, Cond.code yX5_counted cX5_counted 2 (some .int), Cond.methodLink RX5 160 yX5_inFrame, Cond.instanceMethod yX5_inFrame]
def wsL_law0_r26 : List Cond := [Cond.selects RX5 yX5_inFrame yX5_inFrame, Cond.code yX5_inFrame cX5_inFrame 4 (some .int), Cond.methodLink RX5 164 yX5_those, Cond.instanceMethod yX5_those, Cond.selects RX5 yX5_those yX5_those, Cond.code yX5_those cX5_those 5 (some .int), Cond.methodLink RX5 168 yX5_burnt, Cond.instanceMethod yX5_burnt, Cond.selects RX5 yX5_burnt yX5_burnt, Cond.code yX5_burnt cX5_burnt 3 (some .int), Cond.methodLink RX5 157 yX5_ones, Cond.static yX5_ones, Cond.code yX5_ones cX5_ones 3 (some .int), Cond.methodLink RL 140 yL_setting, Cond.static yL_setting, Cond.codeWith yL_setting cL_setting 4 (some .int) [(0, 9, 12, 13)], Cond.methodLink RL 63 yX4_setting, Cond.instanceMethod yX4_setting, Cond.selects RX4 yX4_setting yX4_setting, Cond.code yX4_setting cX4_setting 2 (some .int), Cond.methodLink RL 142 yX5_setting, Cond.instanceMethod yX5_setting, Cond.selects RX5 yX5_setting yX5_setting, Cond.code yX5_setting cX5_setting 2 (some .int)]
def wsL_law0_r27 : List Cond := [Cond.methodLink RL 143 yL_ifLevel, Cond.static yL_ifLevel, Cond.codeWith yL_ifLevel cL_ifLevel 6 (some .int) [(0, 12, 15, 13), (0, 12, 19, 15)], Cond.methodLink RL 66 yX4_ifLevel, Cond.instanceMethod yX4_ifLevel, Cond.selects RX4 yX4_ifLevel yX4_ifLevel, Cond.code yX4_ifLevel cX4_ifLevel 4 (some .int), Cond.methodLink RX4 163 yX0_foreseeLevel, Cond.instanceMethod yX0_foreseeLevel, Cond.selects RX0 yX0_foreseeLevel yX0_foreseeLevel, Cond.code yX0_foreseeLevel cX0_foreseeLevel 4 none, Cond.methodLink RX4 167 yX4_trialNumber, Cond.instanceMethod yX4_trialNumber, Cond.selects RX4 yX4_trialNumber yX4_trialNumber, Cond.code yX4_trialNumber cX4_trialNumber 3 (some .int), Cond.methodLink RL 145 yX5_ifLevel, Cond.instanceMethod yX5_ifLevel, Cond.selects RX5 yX5_ifLevel yX5_ifLevel, Cond.code yX5_ifLevel cX5_ifLevel 4 (some .int), Cond.methodLink RX5 178 yX5_byLevel, Cond.instanceMethod yX5_byLevel, Cond.selects RX5 yX5_byLevel yX5_byLevel, Cond.code yX5_byLevel cX5_byLevel 4 (some .int), Cond.methodLink RX5 174 yX5_tries]
def wsL_law0_r28 : List Cond := [Cond.instanceMethod yX5_tries, Cond.selects RX5 yX5_tries yX5_tries, Cond.code yX5_tries cX5_tries 4 none, Cond.methodLink RL 146 yL_leastLevel, Cond.static yL_leastLevel, Cond.codeWith yL_leastLevel cL_leastLevel 4 (some .int) [(0, 9, 12, 13)], Cond.methodLink RL 69 yX4_leastLevel, Cond.instanceMethod yX4_leastLevel, Cond.selects RX4 yX4_leastLevel yX4_leastLevel, Cond.code yX4_leastLevel cX4_leastLevel 2 (some .int), Cond.methodLink RX4 170 yX4_leastSeenLevel, Cond.instanceMethod yX4_leastSeenLevel, Cond.selects RX4 yX4_leastSeenLevel yX4_leastSeenLevel, Cond.code yX4_leastSeenLevel cX4_leastSeenLevel 3 (some .int), Cond.methodLink RL 148 yX5_leastLevel, Cond.instanceMethod yX5_leastLevel, Cond.selects RX5 yX5_leastLevel yX5_leastLevel, Cond.code yX5_leastLevel cX5_leastLevel 2 (some .int), Cond.methodLink RX5 182 yX5_least, Cond.instanceMethod yX5_least, Cond.selects RX5 yX5_least yX5_least, Cond.code yX5_least cX5_least 3 (some .int), Cond.methodLink RL 149 yL_alikeSigns, Cond.static yL_alikeSigns]
def wsL_law0_r29 : List Cond := [Cond.codeWith yL_alikeSigns cL_alikeSigns 4 (some .int) [(0, 9, 12, 13)], Cond.methodLink RL 72 yX4_alikeSigns, Cond.instanceMethod yX4_alikeSigns, Cond.selects RX4 yX4_alikeSigns yX4_alikeSigns, Cond.code yX4_alikeSigns cX4_alikeSigns 2 (some .int), Cond.methodLink RX4 173 yX4_alikePairs, Cond.instanceMethod yX4_alikePairs, Cond.selects RX4 yX4_alikePairs yX4_alikePairs, Cond.code yX4_alikePairs cX4_alikePairs 6 (some .int), Cond.fieldLink RX4 272 "TurnDigits" "MASKS" "[I", Cond.methodLink RL 151 yX5_alikeSigns, Cond.instanceMethod yX5_alikeSigns, Cond.selects RX5 yX5_alikeSigns yX5_alikeSigns, Cond.code yX5_alikeSigns cX5_alikeSigns 2 (some .int), Cond.methodLink RX5 185 yX5_alike, Cond.instanceMethod yX5_alike, Cond.selects RX5 yX5_alike yX5_alike, Cond.code yX5_alike cX5_alike 5 (some .int), Cond.methodLink RL 152 yX4_numberShown, Cond.instanceMethod yX4_numberShown, Cond.selects RX4 yX4_numberShown yX4_numberShown, Cond.code yX4_numberShown cX4_numberShown 1 (some .int), Cond.methodLink RX4 176 yX4_clearNumber, Cond.instanceMethod yX4_clearNumber]
def wsL_law0_r30 : List Cond := [Cond.selects RX4 yX4_clearNumber yX4_clearNumber, Cond.code yX4_clearNumber cX4_clearNumber 6 (some .int), Cond.methodLink RL 155 yX5_numberShown, Cond.instanceMethod yX5_numberShown, Cond.selects RX5 yX5_numberShown yX5_numberShown, Cond.code yX5_numberShown cX5_numberShown 1 (some .int), Cond.methodLink RX5 188 yX5_shownNumber, Cond.instanceMethod yX5_shownNumber, Cond.selects RX5 yX5_shownNumber yX5_shownNumber, Cond.code yX5_shownNumber cX5_shownNumber 5 (some .int), Cond.methodLink RL 156 yX4_evenness, Cond.instanceMethod yX4_evenness, Cond.selects RX4 yX4_evenness yX4_evenness, Cond.code yX4_evenness cX4_evenness 1 (some .double), Cond.methodLink RX4 179 yX4_lightShare, Cond.instanceMethod yX4_lightShare, Cond.selects RX4 yX4_lightShare yX4_lightShare, Cond.code yX4_lightShare cX4_lightShare 5 (some .double), Cond.methodLink RX4 264 Lib.Math.min.name, Cond.static Lib.Math.min.name, Cond.code Lib.Math.min.name Lib.Math.min.code 2 (some .int), Cond.methodLink RX4 269 Lib.Math.max.name, Cond.methodLink RL 160 yX5_evenness, Cond.instanceMethod yX5_evenness]
def wsL_law0_r31 : List Cond := [Cond.selects RX5 yX5_evenness yX5_evenness, Cond.code yX5_evenness cX5_evenness 1 (some .double), Cond.methodLink RX5 191 yX5_even, Cond.instanceMethod yX5_even, Cond.selects RX5 yX5_even yX5_even, Cond.code yX5_even cX5_even 5 (some .double), Cond.methodLink RL 161 yX4_digest, Cond.instanceMethod yX4_digest, Cond.selects RX4 yX4_digest yX4_digest, Cond.code yX4_digest cX4_digest 4 (some .long), Cond.constantLong RX4 183 (2729), Cond.fieldLink RX4 197 "TurnDigits$Text" "codes" "[I", Cond.methodLink RX4 185 yX4_mix, Cond.static yX4_mix, Cond.code yX4_mix cX4_mix 4 (some .long), Cond.constantLong RX4 200 (31), Cond.methodLink RX4 189 yX4_mixDigit, Cond.instanceMethod yX4_mixDigit, Cond.selects RX4 yX4_mixDigit yX4_mixDigit, Cond.code yX4_mixDigit cX4_mixDigit 7 (some .long), Cond.methodLink RX4 193 yX4_bitsOfShare, Cond.static yX4_bitsOfShare, Cond.code yX4_bitsOfShare cX4_bitsOfShare 8 (some .long), Cond.constantLong RX4 202 (1023)]
def wsL_law0_r32 : List Cond := [Cond.constantDouble RX4 204 (4611686018427387904), Cond.constantDouble RX4 206 (4841369599423283200), Cond.methodLink RL 165 yX5_digest, Cond.instanceMethod yX5_digest, Cond.selects RX5 yX5_digest yX5_digest, Cond.code yX5_digest cX5_digest 5 (some .long), Cond.constantLong RX5 195 (2729), Cond.constantLong RX5 197 (31), Cond.methodLink RX5 199 yJxe99ae_doubleToLongBits_ccdee, Cond.static yJxe99ae_doubleToLongBits_ccdee, Cond.initialized RJxe99ae, Cond.code yJxe99ae_doubleToLongBits_ccdee cJxe99ae_doubleToLongBits_ccdee 2 (some .long), Cond.methodLink RJxe99ae 134 ⟨"java/lang/Double", "doubleToRawLongBits", "(D)J"⟩, Cond.native ⟨"java/lang/Double", "doubleToRawLongBits", "(D)J"⟩, Cond.static ⟨"java/lang/Double", "doubleToRawLongBits", "(D)J"⟩, Cond.initialized "java/lang/Double", Cond.constantLong RJxe99ae 137 (9221120237041090560), Cond.methodLink RJxe99ae 122 yJxe99ae_isNaN_b9ae7, Cond.static yJxe99ae_isNaN_b9ae7, Cond.code yJxe99ae_isNaN_b9ae7 cJxe99ae_isNaN_b9ae7 2 (some .boolean)]
def wsL_law0 : List Cond := (wsL_law0_r1 ++ (wsL_law0_r2 ++ (wsL_law0_r3 ++ (wsL_law0_r4 ++ (wsL_law0_r5 ++ (wsL_law0_r6 ++ (wsL_law0_r7 ++ (wsL_law0_r8 ++ (wsL_law0_r9 ++ (wsL_law0_r10 ++ (wsL_law0_r11 ++ (wsL_law0_r12 ++ (wsL_law0_r13 ++ (wsL_law0_r14 ++ (wsL_law0_r15 ++ (wsL_law0_r16 ++ (wsL_law0_r17 ++ (wsL_law0_r18 ++ (wsL_law0_r19 ++ (wsL_law0_r20 ++ (wsL_law0_r21 ++ (wsL_law0_r22 ++ (wsL_law0_r23 ++ (wsL_law0_r24 ++ (wsL_law0_r25 ++ (wsL_law0_r26 ++ (wsL_law0_r27 ++ (wsL_law0_r28 ++ (wsL_law0_r29 ++ (wsL_law0_r30 ++ (wsL_law0_r31 ++ wsL_law0_r32))))))))))))))))))))))))))))))) ++ wsX40 ++ wsX50 ++ wsX20 ++ wsX10 ++ wsX30 ++ wsX00 ++ ([] : List Cond)
def wsL_law : List Cond := wsL_law0 ++ (vx_atS RX4 279 "java/lang/IndexOutOfBoundsException" ["java/lang/RuntimeException", "java/lang/Exception"]).filter goodWord ++ (vx_atS RX4 134 "java/lang/IllegalArgumentException" ["java/lang/RuntimeException", "java/lang/Exception"]).filter goodWord ++ (vx_atS RX4 107 "java/lang/IllegalStateException" ["java/lang/RuntimeException", "java/lang/Exception"]).filter goodWord
set_option maxRecDepth 20000 in
theorem wsL_law_in0 : ∀ w ∈ wsL_law0, w ∈ lw_tbl := fun w h => (goodIn_p wsL_law0 [69, 72, 77, 81, 138, 158, 188, 729, 434, 437, 508, 528, 532, 795, 798, 801, 791, 804, 808, 812, 783, 539, 543, 816, 819, 823, 550, 553, 402, 827, 830, 561, 834, 568, 571, 838, 841, 583, 586, 589, 594, 845, 848, 604, 625, 287, 290, 631, 325, 852, 857, 860, 863, 866, 870, 639, 643, 874, 243, 878, 247, 251, 255, 259, 263, 267, 270, 882, 886, 890, 894, 898, 651, 655, 902, 663, 668, 787, 675, 278, 283, 294, 297, 397, 313, 317, 309, 305, 321, 330, 906, 910, 914, 918, 922, 926, 930, 934, 938, 682, 942, 689, 946, 696, 355, 359, 363, 367, 371, 375, 380, 384, 950, 954, 958, 962, 966, 969, 703, 973, 710, 406, 410, 977, 981, 985, 717, 414, 989, 993, 724, 418, 997, 1001, 274, 301, 1005, 1009, 337, 341, 345, 1013, 1017, 350, 388, 393, 422, 1021, 1026, 1029] (by decide +kernel) (by decide +kernel) w h).1
theorem wsL_law_x0 : ∀ w ∈ (vx_atS RX4 279 "java/lang/IndexOutOfBoundsException" ["java/lang/RuntimeException", "java/lang/Exception"]).filter goodWord, w ∈ lw_tbl := by decide +kernel
theorem wsL_law_x1 : ∀ w ∈ (vx_atS RX4 134 "java/lang/IllegalArgumentException" ["java/lang/RuntimeException", "java/lang/Exception"]).filter goodWord, w ∈ lw_tbl := by decide +kernel
theorem wsL_law_x2 : ∀ w ∈ (vx_atS RX4 107 "java/lang/IllegalStateException" ["java/lang/RuntimeException", "java/lang/Exception"]).filter goodWord, w ∈ lw_tbl := by decide +kernel
theorem wsL_law_in : ∀ w ∈ wsL_law, w ∈ lw_tbl := fun w h => (List.mem_append.mp h).elim (fun h => (List.mem_append.mp h).elim (fun h => (List.mem_append.mp h).elim (fun h => wsL_law_in0 w h) (fun h => wsL_law_x0 w h)) (fun h => wsL_law_x1 w h)) (fun h => wsL_law_x2 w h)
theorem inlX0 : ∀ w ∈ wsX00, w ∈ wsL_law := fun _ h => List.mem_append_left _ (List.mem_append_left _ (List.mem_append_left _ (List.mem_append_left _ (List.mem_append_right _ h))))
theorem inX0 : ∀ w ∈ wsX00, w ∈ lw_tbl := fun w h => wsL_law_in w (inlX0 w h)
theorem inlX1 : ∀ w ∈ wsX10, w ∈ wsL_law := fun _ h => List.mem_append_left _ (List.mem_append_left _ (List.mem_append_left _ (List.mem_append_left _ (List.mem_append_left _ (List.mem_append_left _ (List.mem_append_right _ h))))))
theorem inX1 : ∀ w ∈ wsX10, w ∈ lw_tbl := fun w h => wsL_law_in w (inlX1 w h)
theorem inlX2 : ∀ w ∈ wsX20, w ∈ wsL_law := fun _ h => List.mem_append_left _ (List.mem_append_left _ (List.mem_append_left _ (List.mem_append_left _ (List.mem_append_left _ (List.mem_append_left _ (List.mem_append_left _ (List.mem_append_right _ h)))))))
theorem inX2 : ∀ w ∈ wsX20, w ∈ lw_tbl := fun w h => wsL_law_in w (inlX2 w h)
theorem inlX3 : ∀ w ∈ wsX30, w ∈ wsL_law := fun _ h => List.mem_append_left _ (List.mem_append_left _ (List.mem_append_left _ (List.mem_append_left _ (List.mem_append_left _ (List.mem_append_right _ h)))))
theorem inX3 : ∀ w ∈ wsX30, w ∈ lw_tbl := fun w h => wsL_law_in w (inlX3 w h)
theorem inlX4 : ∀ w ∈ wsX40, w ∈ wsL_law := fun _ h => List.mem_append_left _ (List.mem_append_left _ (List.mem_append_left _ (List.mem_append_left _ (List.mem_append_left _ (List.mem_append_left _ (List.mem_append_left _ (List.mem_append_left _ (List.mem_append_left _ (List.mem_append_right _ h)))))))))
theorem inX4 : ∀ w ∈ wsX40, w ∈ lw_tbl := fun w h => wsL_law_in w (inlX4 w h)
theorem inlX5 : ∀ w ∈ wsX50, w ∈ wsL_law := fun _ h => List.mem_append_left _ (List.mem_append_left _ (List.mem_append_left _ (List.mem_append_left _ (List.mem_append_left _ (List.mem_append_left _ (List.mem_append_left _ (List.mem_append_left _ (List.mem_append_right _ h))))))))
theorem inX5 : ∀ w ∈ wsX50, w ∈ lw_tbl := fun w h => wsL_law_in w (inlX5 w h)
theorem inJx145de : ∀ w ∈ wsJx145de0, w ∈ lw_tbl := by decide +kernel
theorem inJxb160c : ∀ w ∈ wsJxb160c0, w ∈ lw_tbl := by decide +kernel
theorem inJxe99ae : ∀ w ∈ wsJxe99ae0, w ∈ lw_tbl := by decide +kernel
theorem inJ6 : ∀ w ∈ wsJ60, w ∈ lw_tbl := by decide +kernel
theorem inJ9 : ∀ w ∈ wsJ90, w ∈ lw_tbl := by decide +kernel
theorem inJxd2413 : ∀ w ∈ wsJxd24130, w ∈ lw_tbl := by decide +kernel
theorem inJ0 : ∀ w ∈ wsJ00, w ∈ lw_tbl := by decide +kernel
theorem inJ10 : ∀ w ∈ wsJ100, w ∈ lw_tbl := by decide +kernel
theorem inJxfd54e : ∀ w ∈ wsJxfd54e0, w ∈ lw_tbl := by decide +kernel
theorem inJx3cf43 : ∀ w ∈ wsJx3cf430, w ∈ lw_tbl := by decide +kernel
theorem inJ7 : ∀ w ∈ wsJ70, w ∈ lw_tbl := by decide +kernel
theorem dX0_init_0 : decode cX0_init 0 = .ok (.aload_n 0, 1) := by decide +kernel
theorem dX0_init_1 : decode cX0_init 1 = .ok (.invokespecial 3, 3) := by decide +kernel
theorem dX0_init_4 : decode cX0_init 4 = .ok (.aload_n 0, 1) := by decide +kernel
theorem dX0_init_5 : decode cX0_init 5 = .ok (.bipush 96, 2) := by decide +kernel
theorem dX0_init_7 : decode cX0_init 7 = .ok (.newarray .int, 2) := by decide +kernel
theorem dX0_init_9 : decode cX0_init 9 = .ok (.putfield 9, 3) := by decide +kernel
theorem dX0_init_12 : decode cX0_init 12 = .ok (.aload_n 0, 1) := by decide +kernel
theorem dX0_init_13 : decode cX0_init 13 = .ok (.bipush 96, 2) := by decide +kernel
theorem dX0_init_15 : decode cX0_init 15 = .ok (.newarray .int, 2) := by decide +kernel
theorem dX0_init_17 : decode cX0_init 17 = .ok (.putfield 15, 3) := by decide +kernel
theorem dX0_init_20 : decode cX0_init 20 = .ok (.aload_n 0, 1) := by decide +kernel
theorem dX0_init_21 : decode cX0_init 21 = .ok (.bipush 6, 2) := by decide +kernel
theorem dX0_init_23 : decode cX0_init 23 = .ok (.newarray .int, 2) := by decide +kernel
theorem dX0_init_25 : decode cX0_init 25 = .ok (.putfield 18, 3) := by decide +kernel
theorem dX0_init_28 : decode cX0_init 28 = .ok (.aload_n 0, 1) := by decide +kernel
theorem dX0_init_29 : decode cX0_init 29 = .ok (.bipush 6, 2) := by decide +kernel
theorem dX0_init_31 : decode cX0_init 31 = .ok (.newarray .int, 2) := by decide +kernel
theorem dX0_init_33 : decode cX0_init 33 = .ok (.putfield 21, 3) := by decide +kernel
theorem dX0_init_36 : decode cX0_init 36 = .ok (.aload_n 0, 1) := by decide +kernel
theorem dX0_init_37 : decode cX0_init 37 = .ok (.bipush 6, 2) := by decide +kernel
theorem dX0_init_39 : decode cX0_init 39 = .ok (.newarray .int, 2) := by decide +kernel
theorem dX0_init_41 : decode cX0_init 41 = .ok (.putfield 24, 3) := by decide +kernel
theorem dX0_init_44 : decode cX0_init 44 = .ok (.aload_n 0, 1) := by decide +kernel
theorem dX0_init_45 : decode cX0_init 45 = .ok (.bipush 6, 2) := by decide +kernel
theorem dX0_init_47 : decode cX0_init 47 = .ok (.newarray .int, 2) := by decide +kernel
theorem dX0_init_49 : decode cX0_init 49 = .ok (.putfield 27, 3) := by decide +kernel
theorem dX0_init_52 : decode cX0_init 52 = .ok (.aload_n 0, 1) := by decide +kernel
theorem dX0_init_53 : decode cX0_init 53 = .ok (.bipush 6, 2) := by decide +kernel
theorem dX0_init_55 : decode cX0_init 55 = .ok (.newarray .int, 2) := by decide +kernel
theorem dX0_init_57 : decode cX0_init 57 = .ok (.putfield 30, 3) := by decide +kernel
theorem dX0_init_60 : decode cX0_init 60 = .ok (.aload_n 0, 1) := by decide +kernel
theorem dX0_init_61 : decode cX0_init 61 = .ok (.iconst 0, 1) := by decide +kernel
theorem dX0_init_62 : decode cX0_init 62 = .ok (.putfield 33, 3) := by decide +kernel
theorem dX0_init_65 : decode cX0_init 65 = .ok (.aload_n 0, 1) := by decide +kernel
theorem dX0_init_66 : decode cX0_init 66 = .ok (.iconst 0, 1) := by decide +kernel
theorem dX0_init_67 : decode cX0_init 67 = .ok (.putfield 37, 3) := by decide +kernel
theorem dX0_init_70 : decode cX0_init 70 = .ok (.aload_n 0, 1) := by decide +kernel
theorem dX0_init_71 : decode cX0_init 71 = .ok (.iconst 0, 1) := by decide +kernel
theorem dX0_init_72 : decode cX0_init 72 = .ok (.putfield 40, 3) := by decide +kernel
theorem dX0_init_75 : decode cX0_init 75 = .ok (.return_, 1) := by decide +kernel
set_option maxRecDepth 20000 in
theorem ggX0_foresee_X0_passSlots : GoodIn wsX0_foresee wsX0_passSlots := goodIn_r _ [13, 14, 15, 16, 17, 18, 19, 20, 21, 22, 23, 2, 8, 24, 25, 26, 27, 28, 29, 30, 31, 32, 33, 34, 35, 36, 12, 37, 38, 39, 40, 41, 42, 43, 44, 45, 46, 47, 48, 49, 50, 51, 52, 53, 54, 55, 56, 57, 58, 59, 60, 61] (by decide +kernel) (by decide +kernel)
set_option maxRecDepth 20000 in
theorem gX0_foresee_X0_passSlots : GoodIn wsX0_foresee (wsV RX0 53 RX0 yX0_passSlots wsX0_passSlots) := goodIn_app (goodIn_of _ (by decide +kernel)) ggX0_foresee_X0_passSlots
theorem dX0_foresee_0 : decode cX0_foresee 0 = .ok (.aload_n 1, 1) := by decide +kernel
theorem dX0_foresee_1 : decode cX0_foresee 1 = .ok (.getfield 43, 3) := by decide +kernel
theorem dX0_foresee_4 : decode cX0_foresee 4 = .ok (.iconst 0, 1) := by decide +kernel
theorem dX0_foresee_5 : decode cX0_foresee 5 = .ok (.aload_n 0, 1) := by decide +kernel
theorem dX0_foresee_6 : decode cX0_foresee 6 = .ok (.getfield 24, 3) := by decide +kernel
theorem dX0_foresee_9 : decode cX0_foresee 9 = .ok (.iconst 0, 1) := by decide +kernel
theorem dX0_foresee_10 : decode cX0_foresee 10 = .ok (.bipush 6, 2) := by decide +kernel
theorem dX0_foresee_12 : decode cX0_foresee 12 = .ok (.invokestatic 46, 3) := by decide +kernel
theorem dX0_foresee_15 : decode cX0_foresee 15 = .ok (.aload_n 1, 1) := by decide +kernel
theorem dX0_foresee_16 : decode cX0_foresee 16 = .ok (.getfield 52, 3) := by decide +kernel
theorem dX0_foresee_19 : decode cX0_foresee 19 = .ok (.iconst 0, 1) := by decide +kernel
theorem dX0_foresee_20 : decode cX0_foresee 20 = .ok (.aload_n 0, 1) := by decide +kernel
theorem dX0_foresee_21 : decode cX0_foresee 21 = .ok (.getfield 27, 3) := by decide +kernel
theorem dX0_foresee_24 : decode cX0_foresee 24 = .ok (.iconst 0, 1) := by decide +kernel
theorem dX0_foresee_25 : decode cX0_foresee 25 = .ok (.bipush 6, 2) := by decide +kernel
theorem dX0_foresee_27 : decode cX0_foresee 27 = .ok (.invokestatic 46, 3) := by decide +kernel
theorem dX0_foresee_30 : decode cX0_foresee 30 = .ok (.aload_n 0, 1) := by decide +kernel
theorem dX0_foresee_31 : decode cX0_foresee 31 = .ok (.aload_n 1, 1) := by decide +kernel
theorem dX0_foresee_32 : decode cX0_foresee 32 = .ok (.invokevirtual 53, 3) := by decide +kernel
theorem dX0_foresee_35 : decode cX0_foresee 35 = .ok (.return_, 1) := by decide +kernel
set_option maxRecDepth 20000 in
theorem ggX0_foreseeLevel_J7_fill_53178 : GoodIn wsX0_foreseeLevel wsJ7_fill_53178 := goodIn_r _ [11] (by decide +kernel) (by decide +kernel)
set_option maxRecDepth 20000 in
theorem gX0_foreseeLevel_J7_fill_53178 : GoodIn wsX0_foreseeLevel (va_wsS RX0 57 yJ7_fill_53178 wsJ7_fill_53178) := goodIn_app (goodIn_of _ (by decide +kernel)) ggX0_foreseeLevel_J7_fill_53178
set_option maxRecDepth 20000 in
theorem ggX0_foreseeLevel_X0_passSlots : GoodIn wsX0_foreseeLevel wsX0_passSlots := goodIn_r _ [16, 17, 18, 19, 20, 21, 22, 23, 24, 25, 26, 2, 7, 27, 8, 9, 10, 11, 28, 29, 30, 31, 32, 33, 34, 35, 15, 36, 37, 38, 39, 40, 41, 42, 43, 44, 45, 46, 47, 48, 49, 50, 51, 52, 53, 54, 55, 56, 57, 58, 59, 60] (by decide +kernel) (by decide +kernel)
set_option maxRecDepth 20000 in
theorem gX0_foreseeLevel_X0_passSlots : GoodIn wsX0_foreseeLevel (wsV RX0 53 RX0 yX0_passSlots wsX0_passSlots) := goodIn_app (goodIn_of _ (by decide +kernel)) ggX0_foreseeLevel_X0_passSlots
theorem dX0_foreseeLevel_0 : decode cX0_foreseeLevel 0 = .ok (.aload_n 1, 1) := by decide +kernel
theorem dX0_foreseeLevel_1 : decode cX0_foreseeLevel 1 = .ok (.getfield 43, 3) := by decide +kernel
theorem dX0_foreseeLevel_4 : decode cX0_foreseeLevel 4 = .ok (.iconst 0, 1) := by decide +kernel
theorem dX0_foreseeLevel_5 : decode cX0_foreseeLevel 5 = .ok (.aload_n 0, 1) := by decide +kernel
theorem dX0_foreseeLevel_6 : decode cX0_foreseeLevel 6 = .ok (.getfield 24, 3) := by decide +kernel
theorem dX0_foreseeLevel_9 : decode cX0_foreseeLevel 9 = .ok (.iconst 0, 1) := by decide +kernel
theorem dX0_foreseeLevel_10 : decode cX0_foreseeLevel 10 = .ok (.bipush 6, 2) := by decide +kernel
theorem dX0_foreseeLevel_12 : decode cX0_foreseeLevel 12 = .ok (.invokestatic 46, 3) := by decide +kernel
theorem dX0_foreseeLevel_15 : decode cX0_foreseeLevel 15 = .ok (.aload_n 0, 1) := by decide +kernel
theorem dX0_foreseeLevel_16 : decode cX0_foreseeLevel 16 = .ok (.getfield 24, 3) := by decide +kernel
theorem dX0_foreseeLevel_19 : decode cX0_foreseeLevel 19 = .ok (.iload_n 2, 1) := by decide +kernel
theorem dX0_foreseeLevel_20 : decode cX0_foreseeLevel 20 = .ok (.iload_n 3, 1) := by decide +kernel
theorem dX0_foreseeLevel_21 : decode cX0_foreseeLevel 21 = .ok (.iastore, 1) := by decide +kernel
theorem dX0_foreseeLevel_22 : decode cX0_foreseeLevel 22 = .ok (.aload_n 0, 1) := by decide +kernel
theorem dX0_foreseeLevel_23 : decode cX0_foreseeLevel 23 = .ok (.getfield 27, 3) := by decide +kernel
theorem dX0_foreseeLevel_26 : decode cX0_foreseeLevel 26 = .ok (.iconst 0, 1) := by decide +kernel
theorem dX0_foreseeLevel_27 : decode cX0_foreseeLevel 27 = .ok (.invokestatic 57, 3) := by decide +kernel
theorem dX0_foreseeLevel_30 : decode cX0_foreseeLevel 30 = .ok (.aload_n 0, 1) := by decide +kernel
theorem dX0_foreseeLevel_31 : decode cX0_foreseeLevel 31 = .ok (.aload_n 1, 1) := by decide +kernel
theorem dX0_foreseeLevel_32 : decode cX0_foreseeLevel 32 = .ok (.invokevirtual 53, 3) := by decide +kernel
theorem dX0_foreseeLevel_35 : decode cX0_foreseeLevel 35 = .ok (.return_, 1) := by decide +kernel
set_option maxRecDepth 20000 in
theorem ggX0_passSlots_J7_fill_53178 : GoodIn wsX0_passSlots wsJ7_fill_53178 := goodIn_r _ [17] (by decide +kernel) (by decide +kernel)
set_option maxRecDepth 20000 in
theorem gX0_passSlots_J7_fill_53178 : GoodIn wsX0_passSlots (va_wsS RX0 57 yJ7_fill_53178 wsJ7_fill_53178) := goodIn_app (goodIn_of _ (by decide +kernel)) ggX0_passSlots_J7_fill_53178
set_option maxRecDepth 20000 in
theorem ggX0_passSlots_X4_giveSlot : GoodIn wsX0_passSlots wsX4_giveSlot := goodIn_r _ [20] (by decide +kernel) (by decide +kernel)
set_option maxRecDepth 20000 in
theorem gX0_passSlots_X4_giveSlot_n72 : GoodIn wsX0_passSlots (wsX4_giveSlot) := ggX0_passSlots_X4_giveSlot
set_option maxRecDepth 20000 in
theorem ggX0_passSlots_X4_litIn : GoodIn wsX0_passSlots wsX4_litIn := goodIn_r _ [22] (by decide +kernel) (by decide +kernel)
set_option maxRecDepth 20000 in
theorem gX0_passSlots_X4_litIn_n76 : GoodIn wsX0_passSlots (wsX4_litIn) := ggX0_passSlots_X4_litIn
set_option maxRecDepth 20000 in
theorem ggX0_passSlots_X0_noteSlot : GoodIn wsX0_passSlots wsX0_noteSlot := goodIn_r _ [27, 7, 8, 6, 28, 29, 30, 31, 42, 43, 44, 45, 46, 47, 48, 49, 50, 51] (by decide +kernel) (by decide +kernel)
set_option maxRecDepth 20000 in
theorem gX0_passSlots_X0_noteSlot : GoodIn wsX0_passSlots (wsV RX0 80 RX0 yX0_noteSlot wsX0_noteSlot) := goodIn_app (goodIn_of _ (by decide +kernel)) ggX0_passSlots_X0_noteSlot
theorem dX0_passSlots_0 : decode cX0_passSlots 0 = .ok (.aload_n 0, 1) := by decide +kernel
theorem dX0_passSlots_1 : decode cX0_passSlots 1 = .ok (.aload_n 1, 1) := by decide +kernel
theorem dX0_passSlots_2 : decode cX0_passSlots 2 = .ok (.getfield 63, 3) := by decide +kernel
theorem dX0_passSlots_5 : decode cX0_passSlots 5 = .ok (.iconst 0, 1) := by decide +kernel
theorem dX0_passSlots_6 : decode cX0_passSlots 6 = .ok (.iaload, 1) := by decide +kernel
theorem dX0_passSlots_7 : decode cX0_passSlots 7 = .ok (.putfield 33, 3) := by decide +kernel
theorem dX0_passSlots_10 : decode cX0_passSlots 10 = .ok (.aload_n 0, 1) := by decide +kernel
theorem dX0_passSlots_11 : decode cX0_passSlots 11 = .ok (.aload_n 1, 1) := by decide +kernel
theorem dX0_passSlots_12 : decode cX0_passSlots 12 = .ok (.getfield 63, 3) := by decide +kernel
theorem dX0_passSlots_15 : decode cX0_passSlots 15 = .ok (.iconst 2, 1) := by decide +kernel
theorem dX0_passSlots_16 : decode cX0_passSlots 16 = .ok (.iaload, 1) := by decide +kernel
theorem dX0_passSlots_17 : decode cX0_passSlots 17 = .ok (.putfield 37, 3) := by decide +kernel
theorem dX0_passSlots_20 : decode cX0_passSlots 20 = .ok (.aload_n 0, 1) := by decide +kernel
theorem dX0_passSlots_21 : decode cX0_passSlots 21 = .ok (.aload_n 1, 1) := by decide +kernel
theorem dX0_passSlots_22 : decode cX0_passSlots 22 = .ok (.getfield 63, 3) := by decide +kernel
theorem dX0_passSlots_25 : decode cX0_passSlots 25 = .ok (.iconst 3, 1) := by decide +kernel
theorem dX0_passSlots_26 : decode cX0_passSlots 26 = .ok (.iaload, 1) := by decide +kernel
theorem dX0_passSlots_27 : decode cX0_passSlots 27 = .ok (.aload_n 1, 1) := by decide +kernel
theorem dX0_passSlots_28 : decode cX0_passSlots 28 = .ok (.getfield 66, 3) := by decide +kernel
theorem dX0_passSlots_31 : decode cX0_passSlots 31 = .ok (.imul, 1) := by decide +kernel
theorem dX0_passSlots_32 : decode cX0_passSlots 32 = .ok (.putfield 40, 3) := by decide +kernel
theorem dX0_passSlots_35 : decode cX0_passSlots 35 = .ok (.aload_n 0, 1) := by decide +kernel
theorem dX0_passSlots_36 : decode cX0_passSlots 36 = .ok (.getfield 18, 3) := by decide +kernel
theorem dX0_passSlots_39 : decode cX0_passSlots 39 = .ok (.iconst 0, 1) := by decide +kernel
theorem dX0_passSlots_40 : decode cX0_passSlots 40 = .ok (.invokestatic 57, 3) := by decide +kernel
theorem dX0_passSlots_43 : decode cX0_passSlots 43 = .ok (.aload_n 0, 1) := by decide +kernel
theorem dX0_passSlots_44 : decode cX0_passSlots 44 = .ok (.getfield 21, 3) := by decide +kernel
theorem dX0_passSlots_47 : decode cX0_passSlots 47 = .ok (.iconst 0, 1) := by decide +kernel
theorem dX0_passSlots_48 : decode cX0_passSlots 48 = .ok (.invokestatic 57, 3) := by decide +kernel
theorem dX0_passSlots_51 : decode cX0_passSlots 51 = .ok (.aload_n 0, 1) := by decide +kernel
theorem dX0_passSlots_52 : decode cX0_passSlots 52 = .ok (.getfield 30, 3) := by decide +kernel
theorem dX0_passSlots_55 : decode cX0_passSlots 55 = .ok (.iconst 0, 1) := by decide +kernel
theorem dX0_passSlots_56 : decode cX0_passSlots 56 = .ok (.invokestatic 57, 3) := by decide +kernel
theorem dX0_passSlots_59 : decode cX0_passSlots 59 = .ok (.aload_n 1, 1) := by decide +kernel
theorem dX0_passSlots_60 : decode cX0_passSlots 60 = .ok (.getfield 63, 3) := by decide +kernel
theorem dX0_passSlots_63 : decode cX0_passSlots 63 = .ok (.iconst 1, 1) := by decide +kernel
theorem dX0_passSlots_64 : decode cX0_passSlots 64 = .ok (.iaload, 1) := by decide +kernel
theorem dX0_passSlots_65 : decode cX0_passSlots 65 = .ok (.iconst 1, 1) := by decide +kernel
theorem dX0_passSlots_66 : decode cX0_passSlots 66 = .ok (.if_icmp .ne 7, 3) := by decide +kernel
theorem dX0_passSlots_69 : decode cX0_passSlots 69 = .ok (.iconst 1, 1) := by decide +kernel
theorem dX0_passSlots_70 : decode cX0_passSlots 70 = .ok (.goto 4, 3) := by decide +kernel
theorem dX0_passSlots_73 : decode cX0_passSlots 73 = .ok (.iconst 0, 1) := by decide +kernel
theorem dX0_passSlots_74 : decode cX0_passSlots 74 = .ok (.istore_n 2, 1) := by decide +kernel
theorem dX0_passSlots_75 : decode cX0_passSlots 75 = .ok (.aload_n 1, 1) := by decide +kernel
theorem dX0_passSlots_76 : decode cX0_passSlots 76 = .ok (.getfield 69, 3) := by decide +kernel
theorem dX0_passSlots_79 : decode cX0_passSlots 79 = .ok (.istore_n 3, 1) := by decide +kernel
theorem dX0_passSlots_80 : decode cX0_passSlots 80 = .ok (.iconst 0, 1) := by decide +kernel
theorem dX0_passSlots_81 : decode cX0_passSlots 81 = .ok (.istore 4, 2) := by decide +kernel
theorem dX0_passSlots_83 : decode cX0_passSlots 83 = .ok (.iload 4, 2) := by decide +kernel
theorem dX0_passSlots_85 : decode cX0_passSlots 85 = .ok (.bipush 96, 2) := by decide +kernel
theorem dX0_passSlots_87 : decode cX0_passSlots 87 = .ok (.if_icmp .ge 74, 3) := by decide +kernel
theorem dX0_passSlots_90 : decode cX0_passSlots 90 = .ok (.iload 4, 2) := by decide +kernel
theorem dX0_passSlots_92 : decode cX0_passSlots 92 = .ok (.aload_n 0, 1) := by decide +kernel
theorem dX0_passSlots_93 : decode cX0_passSlots 93 = .ok (.getfield 33, 3) := by decide +kernel
theorem dX0_passSlots_96 : decode cX0_passSlots 96 = .ok (.if_icmp .ge 65, 3) := by decide +kernel
theorem dX0_passSlots_99 : decode cX0_passSlots 99 = .ok (.aload_n 0, 1) := by decide +kernel
theorem dX0_passSlots_100 : decode cX0_passSlots 100 = .ok (.getfield 9, 3) := by decide +kernel
theorem dX0_passSlots_103 : decode cX0_passSlots 103 = .ok (.iload 4, 2) := by decide +kernel
theorem dX0_passSlots_105 : decode cX0_passSlots 105 = .ok (.aload_n 0, 1) := by decide +kernel
theorem dX0_passSlots_106 : decode cX0_passSlots 106 = .ok (.getfield 24, 3) := by decide +kernel
theorem dX0_passSlots_109 : decode cX0_passSlots 109 = .ok (.aload_n 0, 1) := by decide +kernel
theorem dX0_passSlots_110 : decode cX0_passSlots 110 = .ok (.getfield 27, 3) := by decide +kernel
theorem dX0_passSlots_113 : decode cX0_passSlots 113 = .ok (.invokestatic 72, 3) := by decide +kernel
theorem dX0_passSlots_116 : decode cX0_passSlots 116 = .ok (.iastore, 1) := by decide +kernel
theorem dX0_passSlots_117 : decode cX0_passSlots 117 = .ok (.aload_n 0, 1) := by decide +kernel
theorem dX0_passSlots_118 : decode cX0_passSlots 118 = .ok (.getfield 15, 3) := by decide +kernel
theorem dX0_passSlots_121 : decode cX0_passSlots 121 = .ok (.iload 4, 2) := by decide +kernel
theorem dX0_passSlots_123 : decode cX0_passSlots 123 = .ok (.aload_n 0, 1) := by decide +kernel
theorem dX0_passSlots_124 : decode cX0_passSlots 124 = .ok (.getfield 9, 3) := by decide +kernel
theorem dX0_passSlots_127 : decode cX0_passSlots 127 = .ok (.iload 4, 2) := by decide +kernel
theorem dX0_passSlots_129 : decode cX0_passSlots 129 = .ok (.iaload, 1) := by decide +kernel
theorem dX0_passSlots_130 : decode cX0_passSlots 130 = .ok (.iload_n 3, 1) := by decide +kernel
theorem dX0_passSlots_131 : decode cX0_passSlots 131 = .ok (.iload_n 2, 1) := by decide +kernel
theorem dX0_passSlots_132 : decode cX0_passSlots 132 = .ok (.invokestatic 76, 3) := by decide +kernel
theorem dX0_passSlots_135 : decode cX0_passSlots 135 = .ok (.iastore, 1) := by decide +kernel
theorem dX0_passSlots_136 : decode cX0_passSlots 136 = .ok (.aload_n 0, 1) := by decide +kernel
theorem dX0_passSlots_137 : decode cX0_passSlots 137 = .ok (.aload_n 0, 1) := by decide +kernel
theorem dX0_passSlots_138 : decode cX0_passSlots 138 = .ok (.getfield 15, 3) := by decide +kernel
theorem dX0_passSlots_141 : decode cX0_passSlots 141 = .ok (.iload 4, 2) := by decide +kernel
theorem dX0_passSlots_143 : decode cX0_passSlots 143 = .ok (.iaload, 1) := by decide +kernel
theorem dX0_passSlots_144 : decode cX0_passSlots 144 = .ok (.invokevirtual 80, 3) := by decide +kernel
theorem dX0_passSlots_147 : decode cX0_passSlots 147 = .ok (.aload_n 0, 1) := by decide +kernel
theorem dX0_passSlots_148 : decode cX0_passSlots 148 = .ok (.getfield 9, 3) := by decide +kernel
theorem dX0_passSlots_151 : decode cX0_passSlots 151 = .ok (.iload 4, 2) := by decide +kernel
theorem dX0_passSlots_153 : decode cX0_passSlots 153 = .ok (.iaload, 1) := by decide +kernel
theorem dX0_passSlots_154 : decode cX0_passSlots 154 = .ok (.istore_n 3, 1) := by decide +kernel
theorem dX0_passSlots_155 : decode cX0_passSlots 155 = .ok (.iinc 4 1, 3) := by decide +kernel
theorem dX0_passSlots_158 : decode cX0_passSlots 158 = .ok (.goto (-75), 3) := by decide +kernel
theorem dX0_passSlots_161 : decode cX0_passSlots 161 = .ok (.return_, 1) := by decide +kernel
theorem dX0_noteSlot_0 : decode cX0_noteSlot 0 = .ok (.iconst 0, 1) := by decide +kernel
theorem dX0_noteSlot_1 : decode cX0_noteSlot 1 = .ok (.istore_n 2, 1) := by decide +kernel
theorem dX0_noteSlot_2 : decode cX0_noteSlot 2 = .ok (.iload_n 2, 1) := by decide +kernel
theorem dX0_noteSlot_3 : decode cX0_noteSlot 3 = .ok (.bipush 6, 2) := by decide +kernel
theorem dX0_noteSlot_5 : decode cX0_noteSlot 5 = .ok (.if_icmp .ge 65, 3) := by decide +kernel
theorem dX0_noteSlot_8 : decode cX0_noteSlot 8 = .ok (.iload_n 2, 1) := by decide +kernel
theorem dX0_noteSlot_9 : decode cX0_noteSlot 9 = .ok (.iload_n 1, 1) := by decide +kernel
theorem dX0_noteSlot_10 : decode cX0_noteSlot 10 = .ok (.if_icmp .ne 23, 3) := by decide +kernel
theorem dX0_noteSlot_13 : decode cX0_noteSlot 13 = .ok (.aload_n 0, 1) := by decide +kernel
theorem dX0_noteSlot_14 : decode cX0_noteSlot 14 = .ok (.getfield 21, 3) := by decide +kernel
theorem dX0_noteSlot_17 : decode cX0_noteSlot 17 = .ok (.iload_n 2, 1) := by decide +kernel
theorem dX0_noteSlot_18 : decode cX0_noteSlot 18 = .ok (.dup2, 1) := by decide +kernel
theorem dX0_noteSlot_19 : decode cX0_noteSlot 19 = .ok (.iaload, 1) := by decide +kernel
theorem dX0_noteSlot_20 : decode cX0_noteSlot 20 = .ok (.iconst 1, 1) := by decide +kernel
theorem dX0_noteSlot_21 : decode cX0_noteSlot 21 = .ok (.iadd, 1) := by decide +kernel
theorem dX0_noteSlot_22 : decode cX0_noteSlot 22 = .ok (.iastore, 1) := by decide +kernel
theorem dX0_noteSlot_23 : decode cX0_noteSlot 23 = .ok (.aload_n 0, 1) := by decide +kernel
theorem dX0_noteSlot_24 : decode cX0_noteSlot 24 = .ok (.getfield 30, 3) := by decide +kernel
theorem dX0_noteSlot_27 : decode cX0_noteSlot 27 = .ok (.iload_n 2, 1) := by decide +kernel
theorem dX0_noteSlot_28 : decode cX0_noteSlot 28 = .ok (.iconst 0, 1) := by decide +kernel
theorem dX0_noteSlot_29 : decode cX0_noteSlot 29 = .ok (.iastore, 1) := by decide +kernel
theorem dX0_noteSlot_30 : decode cX0_noteSlot 30 = .ok (.goto 34, 3) := by decide +kernel
theorem dX0_noteSlot_33 : decode cX0_noteSlot 33 = .ok (.aload_n 0, 1) := by decide +kernel
theorem dX0_noteSlot_34 : decode cX0_noteSlot 34 = .ok (.getfield 30, 3) := by decide +kernel
theorem dX0_noteSlot_37 : decode cX0_noteSlot 37 = .ok (.iload_n 2, 1) := by decide +kernel
theorem dX0_noteSlot_38 : decode cX0_noteSlot 38 = .ok (.dup2, 1) := by decide +kernel
theorem dX0_noteSlot_39 : decode cX0_noteSlot 39 = .ok (.iaload, 1) := by decide +kernel
theorem dX0_noteSlot_40 : decode cX0_noteSlot 40 = .ok (.iconst 1, 1) := by decide +kernel
theorem dX0_noteSlot_41 : decode cX0_noteSlot 41 = .ok (.iadd, 1) := by decide +kernel
theorem dX0_noteSlot_42 : decode cX0_noteSlot 42 = .ok (.iastore, 1) := by decide +kernel
theorem dX0_noteSlot_43 : decode cX0_noteSlot 43 = .ok (.aload_n 0, 1) := by decide +kernel
theorem dX0_noteSlot_44 : decode cX0_noteSlot 44 = .ok (.getfield 18, 3) := by decide +kernel
theorem dX0_noteSlot_47 : decode cX0_noteSlot 47 = .ok (.iload_n 2, 1) := by decide +kernel
theorem dX0_noteSlot_48 : decode cX0_noteSlot 48 = .ok (.aload_n 0, 1) := by decide +kernel
theorem dX0_noteSlot_49 : decode cX0_noteSlot 49 = .ok (.getfield 18, 3) := by decide +kernel
theorem dX0_noteSlot_52 : decode cX0_noteSlot 52 = .ok (.iload_n 2, 1) := by decide +kernel
theorem dX0_noteSlot_53 : decode cX0_noteSlot 53 = .ok (.iaload, 1) := by decide +kernel
theorem dX0_noteSlot_54 : decode cX0_noteSlot 54 = .ok (.aload_n 0, 1) := by decide +kernel
theorem dX0_noteSlot_55 : decode cX0_noteSlot 55 = .ok (.getfield 30, 3) := by decide +kernel
theorem dX0_noteSlot_58 : decode cX0_noteSlot 58 = .ok (.iload_n 2, 1) := by decide +kernel
theorem dX0_noteSlot_59 : decode cX0_noteSlot 59 = .ok (.iaload, 1) := by decide +kernel
theorem dX0_noteSlot_60 : decode cX0_noteSlot 60 = .ok (.invokestatic 84, 3) := by decide +kernel
theorem dX0_noteSlot_63 : decode cX0_noteSlot 63 = .ok (.iastore, 1) := by decide +kernel
theorem dX0_noteSlot_64 : decode cX0_noteSlot 64 = .ok (.iinc 2 1, 3) := by decide +kernel
theorem dX0_noteSlot_67 : decode cX0_noteSlot 67 = .ok (.goto (-65), 3) := by decide +kernel
theorem dX0_noteSlot_70 : decode cX0_noteSlot 70 = .ok (.return_, 1) := by decide +kernel
theorem dX0_lightOf_0 : decode cX0_lightOf 0 = .ok (.aload_n 0, 1) := by decide +kernel
theorem dX0_lightOf_1 : decode cX0_lightOf 1 = .ok (.getfield 33, 3) := by decide +kernel
theorem dX0_lightOf_4 : decode cX0_lightOf 4 = .ok (.ifCond .le 21, 3) := by decide +kernel
theorem dX0_lightOf_7 : decode cX0_lightOf 7 = .ok (.aload_n 0, 1) := by decide +kernel
theorem dX0_lightOf_8 : decode cX0_lightOf 8 = .ok (.getfield 21, 3) := by decide +kernel
theorem dX0_lightOf_11 : decode cX0_lightOf 11 = .ok (.iload_n 1, 1) := by decide +kernel
theorem dX0_lightOf_12 : decode cX0_lightOf 12 = .ok (.iaload, 1) := by decide +kernel
theorem dX0_lightOf_13 : decode cX0_lightOf 13 = .ok (.sipush 1000, 3) := by decide +kernel
theorem dX0_lightOf_16 : decode cX0_lightOf 16 = .ok (.imul, 1) := by decide +kernel
theorem dX0_lightOf_17 : decode cX0_lightOf 17 = .ok (.aload_n 0, 1) := by decide +kernel
theorem dX0_lightOf_18 : decode cX0_lightOf 18 = .ok (.getfield 33, 3) := by decide +kernel
theorem dX0_lightOf_21 : decode cX0_lightOf 21 = .ok (.idiv, 1) := by decide +kernel
theorem dX0_lightOf_22 : decode cX0_lightOf 22 = .ok (.goto 4, 3) := by decide +kernel
theorem dX0_lightOf_25 : decode cX0_lightOf 25 = .ok (.iconst 0, 1) := by decide +kernel
theorem dX0_lightOf_26 : decode cX0_lightOf 26 = .ok (.ireturn, 1) := by decide +kernel
theorem dX0_flickers_0 : decode cX0_flickers 0 = .ok (.aload_n 0, 1) := by decide +kernel
theorem dX0_flickers_1 : decode cX0_flickers 1 = .ok (.getfield 21, 3) := by decide +kernel
theorem dX0_flickers_4 : decode cX0_flickers 4 = .ok (.iload_n 1, 1) := by decide +kernel
theorem dX0_flickers_5 : decode cX0_flickers 5 = .ok (.iaload, 1) := by decide +kernel
theorem dX0_flickers_6 : decode cX0_flickers 6 = .ok (.ifCond .le 20, 3) := by decide +kernel
theorem dX0_flickers_9 : decode cX0_flickers 9 = .ok (.aload_n 0, 1) := by decide +kernel
theorem dX0_flickers_10 : decode cX0_flickers 10 = .ok (.getfield 18, 3) := by decide +kernel
theorem dX0_flickers_13 : decode cX0_flickers 13 = .ok (.iload_n 1, 1) := by decide +kernel
theorem dX0_flickers_14 : decode cX0_flickers 14 = .ok (.iaload, 1) := by decide +kernel
theorem dX0_flickers_15 : decode cX0_flickers 15 = .ok (.aload_n 0, 1) := by decide +kernel
theorem dX0_flickers_16 : decode cX0_flickers 16 = .ok (.getfield 37, 3) := by decide +kernel
theorem dX0_flickers_19 : decode cX0_flickers 19 = .ok (.if_icmp .le 7, 3) := by decide +kernel
theorem dX0_flickers_22 : decode cX0_flickers 22 = .ok (.iconst 1, 1) := by decide +kernel
theorem dX0_flickers_23 : decode cX0_flickers 23 = .ok (.goto 4, 3) := by decide +kernel
theorem dX0_flickers_26 : decode cX0_flickers 26 = .ok (.iconst 0, 1) := by decide +kernel
theorem dX0_flickers_27 : decode cX0_flickers 27 = .ok (.ireturn, 1) := by decide +kernel
set_option maxRecDepth 20000 in
theorem ggX0_isSeen_X0_lightOf : GoodIn wsX0_isSeen wsX0_lightOf := goodIn_r _ [6, 7, 8, 15, 16, 17, 18, 19, 20, 21, 22, 23, 24] (by decide +kernel) (by decide +kernel)
set_option maxRecDepth 20000 in
theorem gX0_isSeen_X0_lightOf : GoodIn wsX0_isSeen (wsV RX0 90 RX0 yX0_lightOf wsX0_lightOf) := goodIn_app (goodIn_of _ (by decide +kernel)) ggX0_isSeen_X0_lightOf
set_option maxRecDepth 20000 in
theorem ggX0_isSeen_X0_flickers : GoodIn wsX0_isSeen wsX0_flickers := goodIn_r _ [12, 8, 13, 14, 15, 16, 17, 18, 19, 20, 21, 22, 23, 24] (by decide +kernel) (by decide +kernel)
set_option maxRecDepth 20000 in
theorem gX0_isSeen_X0_flickers : GoodIn wsX0_isSeen (wsV RX0 94 RX0 yX0_flickers wsX0_flickers) := goodIn_app (goodIn_of _ (by decide +kernel)) ggX0_isSeen_X0_flickers
theorem dX0_isSeen_0 : decode cX0_isSeen 0 = .ok (.aload_n 0, 1) := by decide +kernel
theorem dX0_isSeen_1 : decode cX0_isSeen 1 = .ok (.iload_n 1, 1) := by decide +kernel
theorem dX0_isSeen_2 : decode cX0_isSeen 2 = .ok (.invokevirtual 90, 3) := by decide +kernel
theorem dX0_isSeen_5 : decode cX0_isSeen 5 = .ok (.istore_n 2, 1) := by decide +kernel
theorem dX0_isSeen_6 : decode cX0_isSeen 6 = .ok (.iload_n 2, 1) := by decide +kernel
theorem dX0_isSeen_7 : decode cX0_isSeen 7 = .ok (.ifCond .le 23, 3) := by decide +kernel
theorem dX0_isSeen_10 : decode cX0_isSeen 10 = .ok (.iload_n 2, 1) := by decide +kernel
theorem dX0_isSeen_11 : decode cX0_isSeen 11 = .ok (.aload_n 0, 1) := by decide +kernel
theorem dX0_isSeen_12 : decode cX0_isSeen 12 = .ok (.getfield 40, 3) := by decide +kernel
theorem dX0_isSeen_15 : decode cX0_isSeen 15 = .ok (.if_icmp .lt 15, 3) := by decide +kernel
theorem dX0_isSeen_18 : decode cX0_isSeen 18 = .ok (.aload_n 0, 1) := by decide +kernel
theorem dX0_isSeen_19 : decode cX0_isSeen 19 = .ok (.iload_n 1, 1) := by decide +kernel
theorem dX0_isSeen_20 : decode cX0_isSeen 20 = .ok (.invokevirtual 94, 3) := by decide +kernel
theorem dX0_isSeen_23 : decode cX0_isSeen 23 = .ok (.ifCond .ne 7, 3) := by decide +kernel
theorem dX0_isSeen_26 : decode cX0_isSeen 26 = .ok (.iconst 1, 1) := by decide +kernel
theorem dX0_isSeen_27 : decode cX0_isSeen 27 = .ok (.goto 4, 3) := by decide +kernel
theorem dX0_isSeen_30 : decode cX0_isSeen 30 = .ok (.iconst 0, 1) := by decide +kernel
theorem dX0_isSeen_31 : decode cX0_isSeen 31 = .ok (.ireturn, 1) := by decide +kernel
set_option maxRecDepth 20000 in
theorem ggX0_flickering_X0_flickers : GoodIn wsX0_flickering wsX0_flickers := goodIn_r _ [5, 6, 7, 8, 9, 10, 11, 12, 13, 14, 15, 16, 17, 18] (by decide +kernel) (by decide +kernel)
set_option maxRecDepth 20000 in
theorem gX0_flickering_X0_flickers : GoodIn wsX0_flickering (wsV RX0 94 RX0 yX0_flickers wsX0_flickers) := goodIn_app (goodIn_of _ (by decide +kernel)) ggX0_flickering_X0_flickers
theorem dX0_flickering_0 : decode cX0_flickering 0 = .ok (.iconst 0, 1) := by decide +kernel
theorem dX0_flickering_1 : decode cX0_flickering 1 = .ok (.istore_n 1, 1) := by decide +kernel
theorem dX0_flickering_2 : decode cX0_flickering 2 = .ok (.iconst 0, 1) := by decide +kernel
theorem dX0_flickering_3 : decode cX0_flickering 3 = .ok (.istore_n 2, 1) := by decide +kernel
theorem dX0_flickering_4 : decode cX0_flickering 4 = .ok (.iload_n 2, 1) := by decide +kernel
theorem dX0_flickering_5 : decode cX0_flickering 5 = .ok (.bipush 6, 2) := by decide +kernel
theorem dX0_flickering_7 : decode cX0_flickering 7 = .ok (.if_icmp .ge 20, 3) := by decide +kernel
theorem dX0_flickering_10 : decode cX0_flickering 10 = .ok (.aload_n 0, 1) := by decide +kernel
theorem dX0_flickering_11 : decode cX0_flickering 11 = .ok (.iload_n 2, 1) := by decide +kernel
theorem dX0_flickering_12 : decode cX0_flickering 12 = .ok (.invokevirtual 94, 3) := by decide +kernel
theorem dX0_flickering_15 : decode cX0_flickering 15 = .ok (.ifCond .eq 6, 3) := by decide +kernel
theorem dX0_flickering_18 : decode cX0_flickering 18 = .ok (.iinc 1 1, 3) := by decide +kernel
theorem dX0_flickering_21 : decode cX0_flickering 21 = .ok (.iinc 2 1, 3) := by decide +kernel
theorem dX0_flickering_24 : decode cX0_flickering 24 = .ok (.goto (-20), 3) := by decide +kernel
theorem dX0_flickering_27 : decode cX0_flickering 27 = .ok (.iload_n 1, 1) := by decide +kernel
theorem dX0_flickering_28 : decode cX0_flickering 28 = .ok (.ireturn, 1) := by decide +kernel
set_option maxRecDepth 20000 in
theorem ggX0_seen_X0_isSeen : GoodIn wsX0_seen wsX0_isSeen := goodIn_r _ [5, 6, 7, 8, 9, 4, 10, 11, 12, 13, 14, 15, 16, 17, 18, 19, 20, 21, 22, 23, 24, 25, 26, 27, 28] (by decide +kernel) (by decide +kernel)
set_option maxRecDepth 20000 in
theorem gX0_seen_X0_isSeen : GoodIn wsX0_seen (wsV RX0 98 RX0 yX0_isSeen wsX0_isSeen) := goodIn_app (goodIn_of _ (by decide +kernel)) ggX0_seen_X0_isSeen
theorem dX0_seen_0 : decode cX0_seen 0 = .ok (.iconst 0, 1) := by decide +kernel
theorem dX0_seen_1 : decode cX0_seen 1 = .ok (.istore_n 1, 1) := by decide +kernel
theorem dX0_seen_2 : decode cX0_seen 2 = .ok (.iconst 0, 1) := by decide +kernel
theorem dX0_seen_3 : decode cX0_seen 3 = .ok (.istore_n 2, 1) := by decide +kernel
theorem dX0_seen_4 : decode cX0_seen 4 = .ok (.iload_n 2, 1) := by decide +kernel
theorem dX0_seen_5 : decode cX0_seen 5 = .ok (.bipush 6, 2) := by decide +kernel
theorem dX0_seen_7 : decode cX0_seen 7 = .ok (.if_icmp .ge 20, 3) := by decide +kernel
theorem dX0_seen_10 : decode cX0_seen 10 = .ok (.aload_n 0, 1) := by decide +kernel
theorem dX0_seen_11 : decode cX0_seen 11 = .ok (.iload_n 2, 1) := by decide +kernel
theorem dX0_seen_12 : decode cX0_seen 12 = .ok (.invokevirtual 98, 3) := by decide +kernel
theorem dX0_seen_15 : decode cX0_seen 15 = .ok (.ifCond .eq 6, 3) := by decide +kernel
theorem dX0_seen_18 : decode cX0_seen 18 = .ok (.iinc 1 1, 3) := by decide +kernel
theorem dX0_seen_21 : decode cX0_seen 21 = .ok (.iinc 2 1, 3) := by decide +kernel
theorem dX0_seen_24 : decode cX0_seen 24 = .ok (.goto (-20), 3) := by decide +kernel
theorem dX0_seen_27 : decode cX0_seen 27 = .ok (.iload_n 1, 1) := by decide +kernel
theorem dX0_seen_28 : decode cX0_seen 28 = .ok (.ireturn, 1) := by decide +kernel
theorem dX0_darkSlots_0 : decode cX0_darkSlots 0 = .ok (.iconst 0, 1) := by decide +kernel
theorem dX0_darkSlots_1 : decode cX0_darkSlots 1 = .ok (.istore_n 1, 1) := by decide +kernel
theorem dX0_darkSlots_2 : decode cX0_darkSlots 2 = .ok (.iconst 0, 1) := by decide +kernel
theorem dX0_darkSlots_3 : decode cX0_darkSlots 3 = .ok (.istore_n 2, 1) := by decide +kernel
theorem dX0_darkSlots_4 : decode cX0_darkSlots 4 = .ok (.iload_n 2, 1) := by decide +kernel
theorem dX0_darkSlots_5 : decode cX0_darkSlots 5 = .ok (.bipush 96, 2) := by decide +kernel
theorem dX0_darkSlots_7 : decode cX0_darkSlots 7 = .ok (.if_icmp .ge 30, 3) := by decide +kernel
theorem dX0_darkSlots_10 : decode cX0_darkSlots 10 = .ok (.iload_n 2, 1) := by decide +kernel
theorem dX0_darkSlots_11 : decode cX0_darkSlots 11 = .ok (.aload_n 0, 1) := by decide +kernel
theorem dX0_darkSlots_12 : decode cX0_darkSlots 12 = .ok (.getfield 33, 3) := by decide +kernel
theorem dX0_darkSlots_15 : decode cX0_darkSlots 15 = .ok (.if_icmp .ge 22, 3) := by decide +kernel
theorem dX0_darkSlots_18 : decode cX0_darkSlots 18 = .ok (.aload_n 0, 1) := by decide +kernel
theorem dX0_darkSlots_19 : decode cX0_darkSlots 19 = .ok (.getfield 15, 3) := by decide +kernel
theorem dX0_darkSlots_22 : decode cX0_darkSlots 22 = .ok (.iload_n 2, 1) := by decide +kernel
theorem dX0_darkSlots_23 : decode cX0_darkSlots 23 = .ok (.iaload, 1) := by decide +kernel
theorem dX0_darkSlots_24 : decode cX0_darkSlots 24 = .ok (.iconst (-1), 1) := by decide +kernel
theorem dX0_darkSlots_25 : decode cX0_darkSlots 25 = .ok (.if_icmp .ne 6, 3) := by decide +kernel
theorem dX0_darkSlots_28 : decode cX0_darkSlots 28 = .ok (.iinc 1 1, 3) := by decide +kernel
theorem dX0_darkSlots_31 : decode cX0_darkSlots 31 = .ok (.iinc 2 1, 3) := by decide +kernel
theorem dX0_darkSlots_34 : decode cX0_darkSlots 34 = .ok (.goto (-30), 3) := by decide +kernel
theorem dX0_darkSlots_37 : decode cX0_darkSlots 37 = .ok (.iload_n 1, 1) := by decide +kernel
theorem dX0_darkSlots_38 : decode cX0_darkSlots 38 = .ok (.ireturn, 1) := by decide +kernel
theorem dX0_changes_0 : decode cX0_changes 0 = .ok (.iconst 0, 1) := by decide +kernel
theorem dX0_changes_1 : decode cX0_changes 1 = .ok (.istore_n 1, 1) := by decide +kernel
theorem dX0_changes_2 : decode cX0_changes 2 = .ok (.iconst 1, 1) := by decide +kernel
theorem dX0_changes_3 : decode cX0_changes 3 = .ok (.istore_n 2, 1) := by decide +kernel
theorem dX0_changes_4 : decode cX0_changes 4 = .ok (.iload_n 2, 1) := by decide +kernel
theorem dX0_changes_5 : decode cX0_changes 5 = .ok (.bipush 96, 2) := by decide +kernel
theorem dX0_changes_7 : decode cX0_changes 7 = .ok (.if_icmp .ge 37, 3) := by decide +kernel
theorem dX0_changes_10 : decode cX0_changes 10 = .ok (.iload_n 2, 1) := by decide +kernel
theorem dX0_changes_11 : decode cX0_changes 11 = .ok (.aload_n 0, 1) := by decide +kernel
theorem dX0_changes_12 : decode cX0_changes 12 = .ok (.getfield 33, 3) := by decide +kernel
theorem dX0_changes_15 : decode cX0_changes 15 = .ok (.if_icmp .ge 29, 3) := by decide +kernel
theorem dX0_changes_18 : decode cX0_changes 18 = .ok (.aload_n 0, 1) := by decide +kernel
theorem dX0_changes_19 : decode cX0_changes 19 = .ok (.getfield 9, 3) := by decide +kernel
theorem dX0_changes_22 : decode cX0_changes 22 = .ok (.iload_n 2, 1) := by decide +kernel
theorem dX0_changes_23 : decode cX0_changes 23 = .ok (.iaload, 1) := by decide +kernel
theorem dX0_changes_24 : decode cX0_changes 24 = .ok (.aload_n 0, 1) := by decide +kernel
theorem dX0_changes_25 : decode cX0_changes 25 = .ok (.getfield 9, 3) := by decide +kernel
theorem dX0_changes_28 : decode cX0_changes 28 = .ok (.iload_n 2, 1) := by decide +kernel
theorem dX0_changes_29 : decode cX0_changes 29 = .ok (.iconst 1, 1) := by decide +kernel
theorem dX0_changes_30 : decode cX0_changes 30 = .ok (.isub, 1) := by decide +kernel
theorem dX0_changes_31 : decode cX0_changes 31 = .ok (.iaload, 1) := by decide +kernel
theorem dX0_changes_32 : decode cX0_changes 32 = .ok (.if_icmp .eq 6, 3) := by decide +kernel
theorem dX0_changes_35 : decode cX0_changes 35 = .ok (.iinc 1 1, 3) := by decide +kernel
theorem dX0_changes_38 : decode cX0_changes 38 = .ok (.iinc 2 1, 3) := by decide +kernel
theorem dX0_changes_41 : decode cX0_changes 41 = .ok (.goto (-37), 3) := by decide +kernel
theorem dX0_changes_44 : decode cX0_changes 44 = .ok (.iload_n 1, 1) := by decide +kernel
theorem dX0_changes_45 : decode cX0_changes 45 = .ok (.ireturn, 1) := by decide +kernel
set_option maxRecDepth 20000 in
theorem ggX1_init_X2_init : GoodIn wsX1_init wsX2_init := goodIn_r _ [12, 13, 2, 3, 14, 15, 16, 17, 18, 19, 20, 21, 22, 23, 24, 25, 26, 27, 28, 29, 30, 31, 32, 36, 37, 38, 39, 40, 41, 42, 43, 44, 45] (by decide +kernel) (by decide +kernel)
set_option maxRecDepth 20000 in
theorem gX1_init_X2_init : GoodIn wsX1_init (wsX2_init) := ggX1_init_X2_init
theorem dX1_init_0 : decode cX1_init 0 = .ok (.aload_n 0, 1) := by decide +kernel
theorem dX1_init_1 : decode cX1_init 1 = .ok (.invokespecial 3, 3) := by decide +kernel
theorem dX1_init_4 : decode cX1_init 4 = .ok (.aload_n 0, 1) := by decide +kernel
theorem dX1_init_5 : decode cX1_init 5 = .ok (.bipush 6, 2) := by decide +kernel
theorem dX1_init_7 : decode cX1_init 7 = .ok (.anewarray 9, 3) := by decide +kernel
theorem dX1_init_10 : decode cX1_init 10 = .ok (.putfield 11, 3) := by decide +kernel
theorem dX1_init_13 : decode cX1_init 13 = .ok (.aload_n 0, 1) := by decide +kernel
theorem dX1_init_14 : decode cX1_init 14 = .ok (.iconst 0, 1) := by decide +kernel
theorem dX1_init_15 : decode cX1_init 15 = .ok (.putfield 17, 3) := by decide +kernel
theorem dX1_init_18 : decode cX1_init 18 = .ok (.aload_n 0, 1) := by decide +kernel
theorem dX1_init_19 : decode cX1_init 19 = .ok (.iconst 0, 1) := by decide +kernel
theorem dX1_init_20 : decode cX1_init 20 = .ok (.putfield 21, 3) := by decide +kernel
theorem dX1_init_23 : decode cX1_init 23 = .ok (.iconst 0, 1) := by decide +kernel
theorem dX1_init_24 : decode cX1_init 24 = .ok (.istore_n 1, 1) := by decide +kernel
theorem dX1_init_25 : decode cX1_init 25 = .ok (.iload_n 1, 1) := by decide +kernel
theorem dX1_init_26 : decode cX1_init 26 = .ok (.bipush 6, 2) := by decide +kernel
theorem dX1_init_28 : decode cX1_init 28 = .ok (.if_icmp .ge 22, 3) := by decide +kernel
theorem dX1_init_31 : decode cX1_init 31 = .ok (.aload_n 0, 1) := by decide +kernel
theorem dX1_init_32 : decode cX1_init 32 = .ok (.getfield 11, 3) := by decide +kernel
theorem dX1_init_35 : decode cX1_init 35 = .ok (.iload_n 1, 1) := by decide +kernel
theorem dX1_init_36 : decode cX1_init 36 = .ok (.new 9, 3) := by decide +kernel
theorem dX1_init_39 : decode cX1_init 39 = .ok (.dup, 1) := by decide +kernel
theorem dX1_init_40 : decode cX1_init 40 = .ok (.invokespecial 24, 3) := by decide +kernel
theorem dX1_init_43 : decode cX1_init 43 = .ok (.aastore, 1) := by decide +kernel
theorem dX1_init_44 : decode cX1_init 44 = .ok (.iinc 1 1, 3) := by decide +kernel
theorem dX1_init_47 : decode cX1_init 47 = .ok (.goto (-22), 3) := by decide +kernel
theorem dX1_init_50 : decode cX1_init 50 = .ok (.return_, 1) := by decide +kernel
set_option maxRecDepth 20000 in
theorem ggX1_push_X2_copyFrom : GoodIn wsX1_push wsX2_copyFrom := goodIn_r _ [8, 9, 10, 11, 12, 13, 14, 15, 16, 17, 18, 19, 20, 21, 22, 26, 27, 28, 29, 30, 31, 32, 33, 34, 35] (by decide +kernel) (by decide +kernel)
set_option maxRecDepth 20000 in
theorem gX1_push_X2_copyFrom : GoodIn wsX1_push (wsV RX1 25 RX2 yX2_copyFrom wsX2_copyFrom) := goodIn_app (goodIn_of _ (by decide +kernel)) ggX1_push_X2_copyFrom
theorem dX1_push_0 : decode cX1_push 0 = .ok (.aload_n 0, 1) := by decide +kernel
theorem dX1_push_1 : decode cX1_push 1 = .ok (.getfield 21, 3) := by decide +kernel
theorem dX1_push_4 : decode cX1_push 4 = .ok (.bipush 6, 2) := by decide +kernel
theorem dX1_push_6 : decode cX1_push 6 = .ok (.if_icmp .ne 26, 3) := by decide +kernel
theorem dX1_push_9 : decode cX1_push 9 = .ok (.aload_n 0, 1) := by decide +kernel
theorem dX1_push_10 : decode cX1_push 10 = .ok (.aload_n 0, 1) := by decide +kernel
theorem dX1_push_11 : decode cX1_push 11 = .ok (.getfield 17, 3) := by decide +kernel
theorem dX1_push_14 : decode cX1_push 14 = .ok (.iconst 1, 1) := by decide +kernel
theorem dX1_push_15 : decode cX1_push 15 = .ok (.iadd, 1) := by decide +kernel
theorem dX1_push_16 : decode cX1_push 16 = .ok (.bipush 6, 2) := by decide +kernel
theorem dX1_push_18 : decode cX1_push 18 = .ok (.irem, 1) := by decide +kernel
theorem dX1_push_19 : decode cX1_push 19 = .ok (.putfield 17, 3) := by decide +kernel
theorem dX1_push_22 : decode cX1_push 22 = .ok (.aload_n 0, 1) := by decide +kernel
theorem dX1_push_23 : decode cX1_push 23 = .ok (.dup, 1) := by decide +kernel
theorem dX1_push_24 : decode cX1_push 24 = .ok (.getfield 21, 3) := by decide +kernel
theorem dX1_push_27 : decode cX1_push 27 = .ok (.iconst 1, 1) := by decide +kernel
theorem dX1_push_28 : decode cX1_push 28 = .ok (.isub, 1) := by decide +kernel
theorem dX1_push_29 : decode cX1_push 29 = .ok (.putfield 21, 3) := by decide +kernel
theorem dX1_push_32 : decode cX1_push 32 = .ok (.aload_n 0, 1) := by decide +kernel
theorem dX1_push_33 : decode cX1_push 33 = .ok (.getfield 11, 3) := by decide +kernel
theorem dX1_push_36 : decode cX1_push 36 = .ok (.aload_n 0, 1) := by decide +kernel
theorem dX1_push_37 : decode cX1_push 37 = .ok (.getfield 17, 3) := by decide +kernel
theorem dX1_push_40 : decode cX1_push 40 = .ok (.aload_n 0, 1) := by decide +kernel
theorem dX1_push_41 : decode cX1_push 41 = .ok (.getfield 21, 3) := by decide +kernel
theorem dX1_push_44 : decode cX1_push 44 = .ok (.iadd, 1) := by decide +kernel
theorem dX1_push_45 : decode cX1_push 45 = .ok (.bipush 6, 2) := by decide +kernel
theorem dX1_push_47 : decode cX1_push 47 = .ok (.irem, 1) := by decide +kernel
theorem dX1_push_48 : decode cX1_push 48 = .ok (.aaload, 1) := by decide +kernel
theorem dX1_push_49 : decode cX1_push 49 = .ok (.aload_n 1, 1) := by decide +kernel
theorem dX1_push_50 : decode cX1_push 50 = .ok (.invokevirtual 25, 3) := by decide +kernel
theorem dX1_push_53 : decode cX1_push 53 = .ok (.aload_n 0, 1) := by decide +kernel
theorem dX1_push_54 : decode cX1_push 54 = .ok (.dup, 1) := by decide +kernel
theorem dX1_push_55 : decode cX1_push 55 = .ok (.getfield 21, 3) := by decide +kernel
theorem dX1_push_58 : decode cX1_push 58 = .ok (.iconst 1, 1) := by decide +kernel
theorem dX1_push_59 : decode cX1_push 59 = .ok (.iadd, 1) := by decide +kernel
theorem dX1_push_60 : decode cX1_push 60 = .ok (.putfield 21, 3) := by decide +kernel
theorem dX1_push_63 : decode cX1_push 63 = .ok (.return_, 1) := by decide +kernel
set_option maxRecDepth 20000 in
theorem ggX1_pop_X2_copyFrom : GoodIn wsX1_pop wsX2_copyFrom := goodIn_r _ [8, 9, 10, 11, 12, 13, 14, 15, 16, 17, 18, 19, 20, 21, 22, 26, 27, 28, 29, 30, 31, 32, 33, 34, 35] (by decide +kernel) (by decide +kernel)
set_option maxRecDepth 20000 in
theorem gX1_pop_X2_copyFrom : GoodIn wsX1_pop (wsV RX1 25 RX2 yX2_copyFrom wsX2_copyFrom) := goodIn_app (goodIn_of _ (by decide +kernel)) ggX1_pop_X2_copyFrom
theorem dX1_pop_0 : decode cX1_pop 0 = .ok (.aload_n 0, 1) := by decide +kernel
theorem dX1_pop_1 : decode cX1_pop 1 = .ok (.dup, 1) := by decide +kernel
theorem dX1_pop_2 : decode cX1_pop 2 = .ok (.getfield 21, 3) := by decide +kernel
theorem dX1_pop_5 : decode cX1_pop 5 = .ok (.iconst 1, 1) := by decide +kernel
theorem dX1_pop_6 : decode cX1_pop 6 = .ok (.isub, 1) := by decide +kernel
theorem dX1_pop_7 : decode cX1_pop 7 = .ok (.putfield 21, 3) := by decide +kernel
theorem dX1_pop_10 : decode cX1_pop 10 = .ok (.aload_n 1, 1) := by decide +kernel
theorem dX1_pop_11 : decode cX1_pop 11 = .ok (.aload_n 0, 1) := by decide +kernel
theorem dX1_pop_12 : decode cX1_pop 12 = .ok (.getfield 11, 3) := by decide +kernel
theorem dX1_pop_15 : decode cX1_pop 15 = .ok (.aload_n 0, 1) := by decide +kernel
theorem dX1_pop_16 : decode cX1_pop 16 = .ok (.getfield 17, 3) := by decide +kernel
theorem dX1_pop_19 : decode cX1_pop 19 = .ok (.aload_n 0, 1) := by decide +kernel
theorem dX1_pop_20 : decode cX1_pop 20 = .ok (.getfield 21, 3) := by decide +kernel
theorem dX1_pop_23 : decode cX1_pop 23 = .ok (.iadd, 1) := by decide +kernel
theorem dX1_pop_24 : decode cX1_pop 24 = .ok (.bipush 6, 2) := by decide +kernel
theorem dX1_pop_26 : decode cX1_pop 26 = .ok (.irem, 1) := by decide +kernel
theorem dX1_pop_27 : decode cX1_pop 27 = .ok (.aaload, 1) := by decide +kernel
theorem dX1_pop_28 : decode cX1_pop 28 = .ok (.invokevirtual 25, 3) := by decide +kernel
theorem dX1_pop_31 : decode cX1_pop 31 = .ok (.return_, 1) := by decide +kernel
set_option maxRecDepth 20000 in
theorem ggX2_init_J7_fill_53178 : GoodIn wsX2_init wsJ7_fill_53178 := goodIn_r _ [22] (by decide +kernel) (by decide +kernel)
set_option maxRecDepth 20000 in
theorem gX2_init_J7_fill_53178 : GoodIn wsX2_init (va_wsS RX2 43 yJ7_fill_53178 wsJ7_fill_53178) := goodIn_app (goodIn_of _ (by decide +kernel)) ggX2_init_J7_fill_53178
theorem dX2_init_0 : decode cX2_init 0 = .ok (.aload_n 0, 1) := by decide +kernel
theorem dX2_init_1 : decode cX2_init 1 = .ok (.invokespecial 3, 3) := by decide +kernel
theorem dX2_init_4 : decode cX2_init 4 = .ok (.aload_n 0, 1) := by decide +kernel
theorem dX2_init_5 : decode cX2_init 5 = .ok (.bipush 6, 2) := by decide +kernel
theorem dX2_init_7 : decode cX2_init 7 = .ok (.newarray .int, 2) := by decide +kernel
theorem dX2_init_9 : decode cX2_init 9 = .ok (.putfield 9, 3) := by decide +kernel
theorem dX2_init_12 : decode cX2_init 12 = .ok (.aload_n 0, 1) := by decide +kernel
theorem dX2_init_13 : decode cX2_init 13 = .ok (.bipush 6, 2) := by decide +kernel
theorem dX2_init_15 : decode cX2_init 15 = .ok (.newarray .int, 2) := by decide +kernel
theorem dX2_init_17 : decode cX2_init 17 = .ok (.putfield 15, 3) := by decide +kernel
theorem dX2_init_20 : decode cX2_init 20 = .ok (.aload_n 0, 1) := by decide +kernel
theorem dX2_init_21 : decode cX2_init 21 = .ok (.bipush 6, 2) := by decide +kernel
theorem dX2_init_23 : decode cX2_init 23 = .ok (.newarray .int, 2) := by decide +kernel
theorem dX2_init_25 : decode cX2_init 25 = .ok (.putfield 18, 3) := by decide +kernel
theorem dX2_init_28 : decode cX2_init 28 = .ok (.aload_n 0, 1) := by decide +kernel
theorem dX2_init_29 : decode cX2_init 29 = .ok (.bipush 6, 2) := by decide +kernel
theorem dX2_init_31 : decode cX2_init 31 = .ok (.newarray .int, 2) := by decide +kernel
theorem dX2_init_33 : decode cX2_init 33 = .ok (.putfield 21, 3) := by decide +kernel
theorem dX2_init_36 : decode cX2_init 36 = .ok (.aload_n 0, 1) := by decide +kernel
theorem dX2_init_37 : decode cX2_init 37 = .ok (.bipush 6, 2) := by decide +kernel
theorem dX2_init_39 : decode cX2_init 39 = .ok (.newarray .int, 2) := by decide +kernel
theorem dX2_init_41 : decode cX2_init 41 = .ok (.putfield 24, 3) := by decide +kernel
theorem dX2_init_44 : decode cX2_init 44 = .ok (.aload_n 0, 1) := by decide +kernel
theorem dX2_init_45 : decode cX2_init 45 = .ok (.bipush 42, 2) := by decide +kernel
theorem dX2_init_47 : decode cX2_init 47 = .ok (.newarray .int, 2) := by decide +kernel
theorem dX2_init_49 : decode cX2_init 49 = .ok (.putfield 27, 3) := by decide +kernel
theorem dX2_init_52 : decode cX2_init 52 = .ok (.aload_n 0, 1) := by decide +kernel
theorem dX2_init_53 : decode cX2_init 53 = .ok (.iconst 5, 1) := by decide +kernel
theorem dX2_init_54 : decode cX2_init 54 = .ok (.newarray .int, 2) := by decide +kernel
theorem dX2_init_56 : decode cX2_init 56 = .ok (.putfield 30, 3) := by decide +kernel
theorem dX2_init_59 : decode cX2_init 59 = .ok (.aload_n 0, 1) := by decide +kernel
theorem dX2_init_60 : decode cX2_init 60 = .ok (.iconst 2, 1) := by decide +kernel
theorem dX2_init_61 : decode cX2_init 61 = .ok (.putfield 33, 3) := by decide +kernel
theorem dX2_init_64 : decode cX2_init 64 = .ok (.aload_n 0, 1) := by decide +kernel
theorem dX2_init_65 : decode cX2_init 65 = .ok (.iconst 0, 1) := by decide +kernel
theorem dX2_init_66 : decode cX2_init 66 = .ok (.putfield 37, 3) := by decide +kernel
theorem dX2_init_69 : decode cX2_init 69 = .ok (.aload_n 0, 1) := by decide +kernel
theorem dX2_init_70 : decode cX2_init 70 = .ok (.iconst (-1), 1) := by decide +kernel
theorem dX2_init_71 : decode cX2_init 71 = .ok (.putfield 40, 3) := by decide +kernel
theorem dX2_init_74 : decode cX2_init 74 = .ok (.aload_n 0, 1) := by decide +kernel
theorem dX2_init_75 : decode cX2_init 75 = .ok (.getfield 9, 3) := by decide +kernel
theorem dX2_init_78 : decode cX2_init 78 = .ok (.bipush 11, 2) := by decide +kernel
theorem dX2_init_80 : decode cX2_init 80 = .ok (.invokestatic 43, 3) := by decide +kernel
theorem dX2_init_83 : decode cX2_init 83 = .ok (.aload_n 0, 1) := by decide +kernel
theorem dX2_init_84 : decode cX2_init 84 = .ok (.getfield 15, 3) := by decide +kernel
theorem dX2_init_87 : decode cX2_init 87 = .ok (.iconst 4, 1) := by decide +kernel
theorem dX2_init_88 : decode cX2_init 88 = .ok (.invokestatic 43, 3) := by decide +kernel
theorem dX2_init_91 : decode cX2_init 91 = .ok (.getstatic 49, 3) := by decide +kernel
theorem dX2_init_94 : decode cX2_init 94 = .ok (.iconst 0, 1) := by decide +kernel
theorem dX2_init_95 : decode cX2_init 95 = .ok (.aload_n 0, 1) := by decide +kernel
theorem dX2_init_96 : decode cX2_init 96 = .ok (.getfield 30, 3) := by decide +kernel
theorem dX2_init_99 : decode cX2_init 99 = .ok (.iconst 0, 1) := by decide +kernel
theorem dX2_init_100 : decode cX2_init 100 = .ok (.iconst 5, 1) := by decide +kernel
theorem dX2_init_101 : decode cX2_init 101 = .ok (.invokestatic 52, 3) := by decide +kernel
theorem dX2_init_104 : decode cX2_init 104 = .ok (.return_, 1) := by decide +kernel
theorem dX2_copyFrom_0 : decode cX2_copyFrom 0 = .ok (.aload_n 1, 1) := by decide +kernel
theorem dX2_copyFrom_1 : decode cX2_copyFrom 1 = .ok (.getfield 9, 3) := by decide +kernel
theorem dX2_copyFrom_4 : decode cX2_copyFrom 4 = .ok (.iconst 0, 1) := by decide +kernel
theorem dX2_copyFrom_5 : decode cX2_copyFrom 5 = .ok (.aload_n 0, 1) := by decide +kernel
theorem dX2_copyFrom_6 : decode cX2_copyFrom 6 = .ok (.getfield 9, 3) := by decide +kernel
theorem dX2_copyFrom_9 : decode cX2_copyFrom 9 = .ok (.iconst 0, 1) := by decide +kernel
theorem dX2_copyFrom_10 : decode cX2_copyFrom 10 = .ok (.bipush 6, 2) := by decide +kernel
theorem dX2_copyFrom_12 : decode cX2_copyFrom 12 = .ok (.invokestatic 52, 3) := by decide +kernel
theorem dX2_copyFrom_15 : decode cX2_copyFrom 15 = .ok (.aload_n 1, 1) := by decide +kernel
theorem dX2_copyFrom_16 : decode cX2_copyFrom 16 = .ok (.getfield 15, 3) := by decide +kernel
theorem dX2_copyFrom_19 : decode cX2_copyFrom 19 = .ok (.iconst 0, 1) := by decide +kernel
theorem dX2_copyFrom_20 : decode cX2_copyFrom 20 = .ok (.aload_n 0, 1) := by decide +kernel
theorem dX2_copyFrom_21 : decode cX2_copyFrom 21 = .ok (.getfield 15, 3) := by decide +kernel
theorem dX2_copyFrom_24 : decode cX2_copyFrom 24 = .ok (.iconst 0, 1) := by decide +kernel
theorem dX2_copyFrom_25 : decode cX2_copyFrom 25 = .ok (.bipush 6, 2) := by decide +kernel
theorem dX2_copyFrom_27 : decode cX2_copyFrom 27 = .ok (.invokestatic 52, 3) := by decide +kernel
theorem dX2_copyFrom_30 : decode cX2_copyFrom 30 = .ok (.aload_n 1, 1) := by decide +kernel
theorem dX2_copyFrom_31 : decode cX2_copyFrom 31 = .ok (.getfield 18, 3) := by decide +kernel
theorem dX2_copyFrom_34 : decode cX2_copyFrom 34 = .ok (.iconst 0, 1) := by decide +kernel
theorem dX2_copyFrom_35 : decode cX2_copyFrom 35 = .ok (.aload_n 0, 1) := by decide +kernel
theorem dX2_copyFrom_36 : decode cX2_copyFrom 36 = .ok (.getfield 18, 3) := by decide +kernel
theorem dX2_copyFrom_39 : decode cX2_copyFrom 39 = .ok (.iconst 0, 1) := by decide +kernel
theorem dX2_copyFrom_40 : decode cX2_copyFrom 40 = .ok (.bipush 6, 2) := by decide +kernel
theorem dX2_copyFrom_42 : decode cX2_copyFrom 42 = .ok (.invokestatic 52, 3) := by decide +kernel
theorem dX2_copyFrom_45 : decode cX2_copyFrom 45 = .ok (.aload_n 1, 1) := by decide +kernel
theorem dX2_copyFrom_46 : decode cX2_copyFrom 46 = .ok (.getfield 21, 3) := by decide +kernel
theorem dX2_copyFrom_49 : decode cX2_copyFrom 49 = .ok (.iconst 0, 1) := by decide +kernel
theorem dX2_copyFrom_50 : decode cX2_copyFrom 50 = .ok (.aload_n 0, 1) := by decide +kernel
theorem dX2_copyFrom_51 : decode cX2_copyFrom 51 = .ok (.getfield 21, 3) := by decide +kernel
theorem dX2_copyFrom_54 : decode cX2_copyFrom 54 = .ok (.iconst 0, 1) := by decide +kernel
theorem dX2_copyFrom_55 : decode cX2_copyFrom 55 = .ok (.bipush 6, 2) := by decide +kernel
theorem dX2_copyFrom_57 : decode cX2_copyFrom 57 = .ok (.invokestatic 52, 3) := by decide +kernel
theorem dX2_copyFrom_60 : decode cX2_copyFrom 60 = .ok (.aload_n 1, 1) := by decide +kernel
theorem dX2_copyFrom_61 : decode cX2_copyFrom 61 = .ok (.getfield 24, 3) := by decide +kernel
theorem dX2_copyFrom_64 : decode cX2_copyFrom 64 = .ok (.iconst 0, 1) := by decide +kernel
theorem dX2_copyFrom_65 : decode cX2_copyFrom 65 = .ok (.aload_n 0, 1) := by decide +kernel
theorem dX2_copyFrom_66 : decode cX2_copyFrom 66 = .ok (.getfield 24, 3) := by decide +kernel
theorem dX2_copyFrom_69 : decode cX2_copyFrom 69 = .ok (.iconst 0, 1) := by decide +kernel
theorem dX2_copyFrom_70 : decode cX2_copyFrom 70 = .ok (.bipush 6, 2) := by decide +kernel
theorem dX2_copyFrom_72 : decode cX2_copyFrom 72 = .ok (.invokestatic 52, 3) := by decide +kernel
theorem dX2_copyFrom_75 : decode cX2_copyFrom 75 = .ok (.aload_n 1, 1) := by decide +kernel
theorem dX2_copyFrom_76 : decode cX2_copyFrom 76 = .ok (.getfield 27, 3) := by decide +kernel
theorem dX2_copyFrom_79 : decode cX2_copyFrom 79 = .ok (.iconst 0, 1) := by decide +kernel
theorem dX2_copyFrom_80 : decode cX2_copyFrom 80 = .ok (.aload_n 0, 1) := by decide +kernel
theorem dX2_copyFrom_81 : decode cX2_copyFrom 81 = .ok (.getfield 27, 3) := by decide +kernel
theorem dX2_copyFrom_84 : decode cX2_copyFrom 84 = .ok (.iconst 0, 1) := by decide +kernel
theorem dX2_copyFrom_85 : decode cX2_copyFrom 85 = .ok (.bipush 42, 2) := by decide +kernel
theorem dX2_copyFrom_87 : decode cX2_copyFrom 87 = .ok (.invokestatic 52, 3) := by decide +kernel
theorem dX2_copyFrom_90 : decode cX2_copyFrom 90 = .ok (.aload_n 1, 1) := by decide +kernel
theorem dX2_copyFrom_91 : decode cX2_copyFrom 91 = .ok (.getfield 30, 3) := by decide +kernel
theorem dX2_copyFrom_94 : decode cX2_copyFrom 94 = .ok (.iconst 0, 1) := by decide +kernel
theorem dX2_copyFrom_95 : decode cX2_copyFrom 95 = .ok (.aload_n 0, 1) := by decide +kernel
theorem dX2_copyFrom_96 : decode cX2_copyFrom 96 = .ok (.getfield 30, 3) := by decide +kernel
theorem dX2_copyFrom_99 : decode cX2_copyFrom 99 = .ok (.iconst 0, 1) := by decide +kernel
theorem dX2_copyFrom_100 : decode cX2_copyFrom 100 = .ok (.iconst 5, 1) := by decide +kernel
theorem dX2_copyFrom_101 : decode cX2_copyFrom 101 = .ok (.invokestatic 52, 3) := by decide +kernel
theorem dX2_copyFrom_104 : decode cX2_copyFrom 104 = .ok (.aload_n 0, 1) := by decide +kernel
theorem dX2_copyFrom_105 : decode cX2_copyFrom 105 = .ok (.aload_n 1, 1) := by decide +kernel
theorem dX2_copyFrom_106 : decode cX2_copyFrom 106 = .ok (.getfield 33, 3) := by decide +kernel
theorem dX2_copyFrom_109 : decode cX2_copyFrom 109 = .ok (.putfield 33, 3) := by decide +kernel
theorem dX2_copyFrom_112 : decode cX2_copyFrom 112 = .ok (.aload_n 0, 1) := by decide +kernel
theorem dX2_copyFrom_113 : decode cX2_copyFrom 113 = .ok (.aload_n 1, 1) := by decide +kernel
theorem dX2_copyFrom_114 : decode cX2_copyFrom 114 = .ok (.getfield 37, 3) := by decide +kernel
theorem dX2_copyFrom_117 : decode cX2_copyFrom 117 = .ok (.putfield 37, 3) := by decide +kernel
theorem dX2_copyFrom_120 : decode cX2_copyFrom 120 = .ok (.aload_n 0, 1) := by decide +kernel
theorem dX2_copyFrom_121 : decode cX2_copyFrom 121 = .ok (.aload_n 1, 1) := by decide +kernel
theorem dX2_copyFrom_122 : decode cX2_copyFrom 122 = .ok (.getfield 40, 3) := by decide +kernel
theorem dX2_copyFrom_125 : decode cX2_copyFrom 125 = .ok (.putfield 40, 3) := by decide +kernel
theorem dX2_copyFrom_128 : decode cX2_copyFrom 128 = .ok (.return_, 1) := by decide +kernel
set_option maxRecDepth 20000 in
theorem ggX2_clearCredits_J7_fill_53178 : GoodIn wsX2_clearCredits wsJ7_fill_53178 := goodIn_r _ [5] (by decide +kernel) (by decide +kernel)
set_option maxRecDepth 20000 in
theorem gX2_clearCredits_J7_fill_53178 : GoodIn wsX2_clearCredits (va_wsS RX2 43 yJ7_fill_53178 wsJ7_fill_53178) := goodIn_app (goodIn_of _ (by decide +kernel)) ggX2_clearCredits_J7_fill_53178
theorem dX2_clearCredits_0 : decode cX2_clearCredits 0 = .ok (.aload_n 0, 1) := by decide +kernel
theorem dX2_clearCredits_1 : decode cX2_clearCredits 1 = .ok (.getfield 21, 3) := by decide +kernel
theorem dX2_clearCredits_4 : decode cX2_clearCredits 4 = .ok (.iconst 0, 1) := by decide +kernel
theorem dX2_clearCredits_5 : decode cX2_clearCredits 5 = .ok (.invokestatic 43, 3) := by decide +kernel
theorem dX2_clearCredits_8 : decode cX2_clearCredits 8 = .ok (.return_, 1) := by decide +kernel
set_option maxRecDepth 20000 in
theorem ggX2_putNumber_X4_magnitude : GoodIn wsX2_putNumber wsX4_magnitude := goodIn_r _ [5] (by decide +kernel) (by decide +kernel)
set_option maxRecDepth 20000 in
theorem gX2_putNumber_X4_magnitude_n58 : GoodIn wsX2_putNumber (wsX4_magnitude) := ggX2_putNumber_X4_magnitude
theorem dX2_putNumber_0 : decode cX2_putNumber 0 = .ok (.iload_n 3, 1) := by decide +kernel
theorem dX2_putNumber_1 : decode cX2_putNumber 1 = .ok (.ifCond .ge 10, 3) := by decide +kernel
theorem dX2_putNumber_4 : decode cX2_putNumber 4 = .ok (.iload 4, 2) := by decide +kernel
theorem dX2_putNumber_6 : decode cX2_putNumber 6 = .ok (.iconst 1, 1) := by decide +kernel
theorem dX2_putNumber_7 : decode cX2_putNumber 7 = .ok (.isub, 1) := by decide +kernel
theorem dX2_putNumber_8 : decode cX2_putNumber 8 = .ok (.goto 5, 3) := by decide +kernel
theorem dX2_putNumber_11 : decode cX2_putNumber 11 = .ok (.iload 4, 2) := by decide +kernel
theorem dX2_putNumber_13 : decode cX2_putNumber 13 = .ok (.istore 5, 2) := by decide +kernel
theorem dX2_putNumber_15 : decode cX2_putNumber 15 = .ok (.iload_n 3, 1) := by decide +kernel
theorem dX2_putNumber_16 : decode cX2_putNumber 16 = .ok (.invokestatic 58, 3) := by decide +kernel
theorem dX2_putNumber_19 : decode cX2_putNumber 19 = .ok (.lstore 6, 2) := by decide +kernel
theorem dX2_putNumber_21 : decode cX2_putNumber 21 = .ok (.iload_n 2, 1) := by decide +kernel
theorem dX2_putNumber_22 : decode cX2_putNumber 22 = .ok (.istore 8, 2) := by decide +kernel
theorem dX2_putNumber_24 : decode cX2_putNumber 24 = .ok (.iload 8, 2) := by decide +kernel
theorem dX2_putNumber_26 : decode cX2_putNumber 26 = .ok (.iload_n 1, 1) := by decide +kernel
theorem dX2_putNumber_27 : decode cX2_putNumber 27 = .ok (.if_icmp .lt 68, 3) := by decide +kernel
theorem dX2_putNumber_30 : decode cX2_putNumber 30 = .ok (.iload_n 2, 1) := by decide +kernel
theorem dX2_putNumber_31 : decode cX2_putNumber 31 = .ok (.iload 8, 2) := by decide +kernel
theorem dX2_putNumber_33 : decode cX2_putNumber 33 = .ok (.isub, 1) := by decide +kernel
theorem dX2_putNumber_34 : decode cX2_putNumber 34 = .ok (.istore 9, 2) := by decide +kernel
theorem dX2_putNumber_36 : decode cX2_putNumber 36 = .ok (.iload 9, 2) := by decide +kernel
theorem dX2_putNumber_38 : decode cX2_putNumber 38 = .ok (.iload 5, 2) := by decide +kernel
theorem dX2_putNumber_40 : decode cX2_putNumber 40 = .ok (.if_icmp .ge 28, 3) := by decide +kernel
theorem dX2_putNumber_43 : decode cX2_putNumber 43 = .ok (.aload_n 0, 1) := by decide +kernel
theorem dX2_putNumber_44 : decode cX2_putNumber 44 = .ok (.getfield 9, 3) := by decide +kernel
theorem dX2_putNumber_47 : decode cX2_putNumber 47 = .ok (.iload 8, 2) := by decide +kernel
theorem dX2_putNumber_49 : decode cX2_putNumber 49 = .ok (.lload 6, 2) := by decide +kernel
theorem dX2_putNumber_51 : decode cX2_putNumber 51 = .ok (.ldc2_w 62, 3) := by decide +kernel
theorem dX2_putNumber_54 : decode cX2_putNumber 54 = .ok (.lrem, 1) := by decide +kernel
theorem dX2_putNumber_55 : decode cX2_putNumber 55 = .ok (.l2i, 1) := by decide +kernel
theorem dX2_putNumber_56 : decode cX2_putNumber 56 = .ok (.iastore, 1) := by decide +kernel
theorem dX2_putNumber_57 : decode cX2_putNumber 57 = .ok (.lload 6, 2) := by decide +kernel
theorem dX2_putNumber_59 : decode cX2_putNumber 59 = .ok (.ldc2_w 62, 3) := by decide +kernel
theorem dX2_putNumber_62 : decode cX2_putNumber 62 = .ok (.ldiv, 1) := by decide +kernel
theorem dX2_putNumber_63 : decode cX2_putNumber 63 = .ok (.lstore 6, 2) := by decide +kernel
theorem dX2_putNumber_65 : decode cX2_putNumber 65 = .ok (.goto 24, 3) := by decide +kernel
theorem dX2_putNumber_68 : decode cX2_putNumber 68 = .ok (.aload_n 0, 1) := by decide +kernel
theorem dX2_putNumber_69 : decode cX2_putNumber 69 = .ok (.getfield 9, 3) := by decide +kernel
theorem dX2_putNumber_72 : decode cX2_putNumber 72 = .ok (.iload 8, 2) := by decide +kernel
theorem dX2_putNumber_74 : decode cX2_putNumber 74 = .ok (.iload 9, 2) := by decide +kernel
theorem dX2_putNumber_76 : decode cX2_putNumber 76 = .ok (.iload 4, 2) := by decide +kernel
theorem dX2_putNumber_78 : decode cX2_putNumber 78 = .ok (.if_icmp .ge 8, 3) := by decide +kernel
theorem dX2_putNumber_81 : decode cX2_putNumber 81 = .ok (.bipush 10, 2) := by decide +kernel
theorem dX2_putNumber_83 : decode cX2_putNumber 83 = .ok (.goto 5, 3) := by decide +kernel
theorem dX2_putNumber_86 : decode cX2_putNumber 86 = .ok (.bipush 11, 2) := by decide +kernel
theorem dX2_putNumber_88 : decode cX2_putNumber 88 = .ok (.iastore, 1) := by decide +kernel
theorem dX2_putNumber_89 : decode cX2_putNumber 89 = .ok (.iinc 8 (-1), 3) := by decide +kernel
theorem dX2_putNumber_92 : decode cX2_putNumber 92 = .ok (.goto (-68), 3) := by decide +kernel
theorem dX2_putNumber_95 : decode cX2_putNumber 95 = .ok (.return_, 1) := by decide +kernel
set_option maxRecDepth 20000 in
theorem ggX2_passSlot_X4_giveSlot : GoodIn wsX2_passSlot wsX4_giveSlot := goodIn_r _ [9] (by decide +kernel) (by decide +kernel)
set_option maxRecDepth 20000 in
theorem gX2_passSlot_X4_giveSlot_n64 : GoodIn wsX2_passSlot (wsX4_giveSlot) := ggX2_passSlot_X4_giveSlot
set_option maxRecDepth 20000 in
theorem ggX2_passSlot_X4_litIn : GoodIn wsX2_passSlot wsX4_litIn := goodIn_r _ [11] (by decide +kernel) (by decide +kernel)
set_option maxRecDepth 20000 in
theorem gX2_passSlot_X4_litIn_n68 : GoodIn wsX2_passSlot (wsX4_litIn) := ggX2_passSlot_X4_litIn
set_option maxRecDepth 20000 in
theorem ggX2_passSlot_X2_wearOut : GoodIn wsX2_passSlot wsX2_wearOut := goodIn_r _ [16, 4, 17, 18, 19, 20, 21, 15, 22, 23, 24, 8, 25, 26, 27, 28, 29, 30, 31, 32, 33, 34, 35] (by decide +kernel) (by decide +kernel)
set_option maxRecDepth 20000 in
theorem gX2_passSlot_X2_wearOut : GoodIn wsX2_passSlot (wsV RX2 72 RX2 yX2_wearOut wsX2_wearOut) := goodIn_app (goodIn_of _ (by decide +kernel)) ggX2_passSlot_X2_wearOut
theorem dX2_passSlot_0 : decode cX2_passSlot 0 = .ok (.aload_n 0, 1) := by decide +kernel
theorem dX2_passSlot_1 : decode cX2_passSlot 1 = .ok (.getfield 15, 3) := by decide +kernel
theorem dX2_passSlot_4 : decode cX2_passSlot 4 = .ok (.aload_n 0, 1) := by decide +kernel
theorem dX2_passSlot_5 : decode cX2_passSlot 5 = .ok (.getfield 21, 3) := by decide +kernel
theorem dX2_passSlot_8 : decode cX2_passSlot 8 = .ok (.invokestatic 64, 3) := by decide +kernel
theorem dX2_passSlot_11 : decode cX2_passSlot 11 = .ok (.istore_n 1, 1) := by decide +kernel
theorem dX2_passSlot_12 : decode cX2_passSlot 12 = .ok (.iload_n 1, 1) := by decide +kernel
theorem dX2_passSlot_13 : decode cX2_passSlot 13 = .ok (.aload_n 0, 1) := by decide +kernel
theorem dX2_passSlot_14 : decode cX2_passSlot 14 = .ok (.getfield 40, 3) := by decide +kernel
theorem dX2_passSlot_17 : decode cX2_passSlot 17 = .ok (.aload_n 0, 1) := by decide +kernel
theorem dX2_passSlot_18 : decode cX2_passSlot 18 = .ok (.getfield 30, 3) := by decide +kernel
theorem dX2_passSlot_21 : decode cX2_passSlot 21 = .ok (.iconst 1, 1) := by decide +kernel
theorem dX2_passSlot_22 : decode cX2_passSlot 22 = .ok (.iaload, 1) := by decide +kernel
theorem dX2_passSlot_23 : decode cX2_passSlot 23 = .ok (.iconst 1, 1) := by decide +kernel
theorem dX2_passSlot_24 : decode cX2_passSlot 24 = .ok (.if_icmp .ne 7, 3) := by decide +kernel
theorem dX2_passSlot_27 : decode cX2_passSlot 27 = .ok (.iconst 1, 1) := by decide +kernel
theorem dX2_passSlot_28 : decode cX2_passSlot 28 = .ok (.goto 4, 3) := by decide +kernel
theorem dX2_passSlot_31 : decode cX2_passSlot 31 = .ok (.iconst 0, 1) := by decide +kernel
theorem dX2_passSlot_32 : decode cX2_passSlot 32 = .ok (.invokestatic 68, 3) := by decide +kernel
theorem dX2_passSlot_35 : decode cX2_passSlot 35 = .ok (.istore_n 2, 1) := by decide +kernel
theorem dX2_passSlot_36 : decode cX2_passSlot 36 = .ok (.aload_n 0, 1) := by decide +kernel
theorem dX2_passSlot_37 : decode cX2_passSlot 37 = .ok (.iload_n 1, 1) := by decide +kernel
theorem dX2_passSlot_38 : decode cX2_passSlot 38 = .ok (.putfield 40, 3) := by decide +kernel
theorem dX2_passSlot_41 : decode cX2_passSlot 41 = .ok (.aload_n 0, 1) := by decide +kernel
theorem dX2_passSlot_42 : decode cX2_passSlot 42 = .ok (.dup, 1) := by decide +kernel
theorem dX2_passSlot_43 : decode cX2_passSlot 43 = .ok (.getfield 37, 3) := by decide +kernel
theorem dX2_passSlot_46 : decode cX2_passSlot 46 = .ok (.iconst 1, 1) := by decide +kernel
theorem dX2_passSlot_47 : decode cX2_passSlot 47 = .ok (.iadd, 1) := by decide +kernel
theorem dX2_passSlot_48 : decode cX2_passSlot 48 = .ok (.putfield 37, 3) := by decide +kernel
theorem dX2_passSlot_51 : decode cX2_passSlot 51 = .ok (.iload_n 2, 1) := by decide +kernel
theorem dX2_passSlot_52 : decode cX2_passSlot 52 = .ok (.iconst (-1), 1) := by decide +kernel
theorem dX2_passSlot_53 : decode cX2_passSlot 53 = .ok (.if_icmp .ne 5, 3) := by decide +kernel
theorem dX2_passSlot_56 : decode cX2_passSlot 56 = .ok (.iconst 0, 1) := by decide +kernel
theorem dX2_passSlot_57 : decode cX2_passSlot 57 = .ok (.ireturn, 1) := by decide +kernel
theorem dX2_passSlot_58 : decode cX2_passSlot 58 = .ok (.aload_n 0, 1) := by decide +kernel
theorem dX2_passSlot_59 : decode cX2_passSlot 59 = .ok (.getfield 24, 3) := by decide +kernel
theorem dX2_passSlot_62 : decode cX2_passSlot 62 = .ok (.iload_n 2, 1) := by decide +kernel
theorem dX2_passSlot_63 : decode cX2_passSlot 63 = .ok (.dup2, 1) := by decide +kernel
theorem dX2_passSlot_64 : decode cX2_passSlot 64 = .ok (.iaload, 1) := by decide +kernel
theorem dX2_passSlot_65 : decode cX2_passSlot 65 = .ok (.iconst 1, 1) := by decide +kernel
theorem dX2_passSlot_66 : decode cX2_passSlot 66 = .ok (.iadd, 1) := by decide +kernel
theorem dX2_passSlot_67 : decode cX2_passSlot 67 = .ok (.iastore, 1) := by decide +kernel
theorem dX2_passSlot_68 : decode cX2_passSlot 68 = .ok (.aload_n 0, 1) := by decide +kernel
theorem dX2_passSlot_69 : decode cX2_passSlot 69 = .ok (.iload_n 2, 1) := by decide +kernel
theorem dX2_passSlot_70 : decode cX2_passSlot 70 = .ok (.invokevirtual 72, 3) := by decide +kernel
theorem dX2_passSlot_73 : decode cX2_passSlot 73 = .ok (.ireturn, 1) := by decide +kernel
set_option maxRecDepth 20000 in
theorem ggX2_wearOut_X2_shownSegments : GoodIn wsX2_wearOut wsX2_shownSegments := goodIn_r _ [8, 9, 3, 13, 14, 15, 16, 17, 18, 19, 20, 21, 22] (by decide +kernel) (by decide +kernel)
set_option maxRecDepth 20000 in
theorem gX2_wearOut_X2_shownSegments : GoodIn wsX2_wearOut (wsV RX2 76 RX2 yX2_shownSegments wsX2_shownSegments) := goodIn_app (goodIn_of _ (by decide +kernel)) ggX2_wearOut_X2_shownSegments
set_option maxRecDepth 20000 in
theorem ggX2_wearOut_X4_wearPlace : GoodIn wsX2_wearOut wsX4_wearPlace := goodIn_r _ [12] (by decide +kernel) (by decide +kernel)
set_option maxRecDepth 20000 in
theorem gX2_wearOut_X4_wearPlace_n79 : GoodIn wsX2_wearOut (wsX4_wearPlace) := ggX2_wearOut_X4_wearPlace
theorem dX2_wearOut_0 : decode cX2_wearOut 0 = .ok (.aload_n 0, 1) := by decide +kernel
theorem dX2_wearOut_1 : decode cX2_wearOut 1 = .ok (.getfield 30, 3) := by decide +kernel
theorem dX2_wearOut_4 : decode cX2_wearOut 4 = .ok (.iconst 4, 1) := by decide +kernel
theorem dX2_wearOut_5 : decode cX2_wearOut 5 = .ok (.iaload, 1) := by decide +kernel
theorem dX2_wearOut_6 : decode cX2_wearOut 6 = .ok (.bipush 100, 2) := by decide +kernel
theorem dX2_wearOut_8 : decode cX2_wearOut 8 = .ok (.imul, 1) := by decide +kernel
theorem dX2_wearOut_9 : decode cX2_wearOut 9 = .ok (.istore_n 2, 1) := by decide +kernel
theorem dX2_wearOut_10 : decode cX2_wearOut 10 = .ok (.aload_n 0, 1) := by decide +kernel
theorem dX2_wearOut_11 : decode cX2_wearOut 11 = .ok (.iload_n 1, 1) := by decide +kernel
theorem dX2_wearOut_12 : decode cX2_wearOut 12 = .ok (.invokevirtual 76, 3) := by decide +kernel
theorem dX2_wearOut_15 : decode cX2_wearOut 15 = .ok (.istore_n 3, 1) := by decide +kernel
theorem dX2_wearOut_16 : decode cX2_wearOut 16 = .ok (.iconst 0, 1) := by decide +kernel
theorem dX2_wearOut_17 : decode cX2_wearOut 17 = .ok (.istore 4, 2) := by decide +kernel
theorem dX2_wearOut_19 : decode cX2_wearOut 19 = .ok (.iconst 0, 1) := by decide +kernel
theorem dX2_wearOut_20 : decode cX2_wearOut 20 = .ok (.istore 5, 2) := by decide +kernel
theorem dX2_wearOut_22 : decode cX2_wearOut 22 = .ok (.iload 5, 2) := by decide +kernel
theorem dX2_wearOut_24 : decode cX2_wearOut 24 = .ok (.bipush 7, 2) := by decide +kernel
theorem dX2_wearOut_26 : decode cX2_wearOut 26 = .ok (.if_icmp .ge 69, 3) := by decide +kernel
theorem dX2_wearOut_29 : decode cX2_wearOut 29 = .ok (.iload_n 3, 1) := by decide +kernel
theorem dX2_wearOut_30 : decode cX2_wearOut 30 = .ok (.iload 5, 2) := by decide +kernel
theorem dX2_wearOut_32 : decode cX2_wearOut 32 = .ok (.ishr, 1) := by decide +kernel
theorem dX2_wearOut_33 : decode cX2_wearOut 33 = .ok (.iconst 1, 1) := by decide +kernel
theorem dX2_wearOut_34 : decode cX2_wearOut 34 = .ok (.iand, 1) := by decide +kernel
theorem dX2_wearOut_35 : decode cX2_wearOut 35 = .ok (.iconst 1, 1) := by decide +kernel
theorem dX2_wearOut_36 : decode cX2_wearOut 36 = .ok (.if_icmp .ne 53, 3) := by decide +kernel
theorem dX2_wearOut_39 : decode cX2_wearOut 39 = .ok (.iload_n 1, 1) := by decide +kernel
theorem dX2_wearOut_40 : decode cX2_wearOut 40 = .ok (.iload 5, 2) := by decide +kernel
theorem dX2_wearOut_42 : decode cX2_wearOut 42 = .ok (.invokestatic 79, 3) := by decide +kernel
theorem dX2_wearOut_45 : decode cX2_wearOut 45 = .ok (.istore 6, 2) := by decide +kernel
theorem dX2_wearOut_47 : decode cX2_wearOut 47 = .ok (.aload_n 0, 1) := by decide +kernel
theorem dX2_wearOut_48 : decode cX2_wearOut 48 = .ok (.getfield 27, 3) := by decide +kernel
theorem dX2_wearOut_51 : decode cX2_wearOut 51 = .ok (.iload 6, 2) := by decide +kernel
theorem dX2_wearOut_53 : decode cX2_wearOut 53 = .ok (.dup2, 1) := by decide +kernel
theorem dX2_wearOut_54 : decode cX2_wearOut 54 = .ok (.iaload, 1) := by decide +kernel
theorem dX2_wearOut_55 : decode cX2_wearOut 55 = .ok (.iconst 1, 1) := by decide +kernel
theorem dX2_wearOut_56 : decode cX2_wearOut 56 = .ok (.iadd, 1) := by decide +kernel
theorem dX2_wearOut_57 : decode cX2_wearOut 57 = .ok (.iastore, 1) := by decide +kernel
theorem dX2_wearOut_58 : decode cX2_wearOut 58 = .ok (.iload_n 2, 1) := by decide +kernel
theorem dX2_wearOut_59 : decode cX2_wearOut 59 = .ok (.ifCond .le 30, 3) := by decide +kernel
theorem dX2_wearOut_62 : decode cX2_wearOut 62 = .ok (.aload_n 0, 1) := by decide +kernel
theorem dX2_wearOut_63 : decode cX2_wearOut 63 = .ok (.getfield 27, 3) := by decide +kernel
theorem dX2_wearOut_66 : decode cX2_wearOut 66 = .ok (.iload 6, 2) := by decide +kernel
theorem dX2_wearOut_68 : decode cX2_wearOut 68 = .ok (.iaload, 1) := by decide +kernel
theorem dX2_wearOut_69 : decode cX2_wearOut 69 = .ok (.iload_n 2, 1) := by decide +kernel
theorem dX2_wearOut_70 : decode cX2_wearOut 70 = .ok (.if_icmp .lt 19, 3) := by decide +kernel
theorem dX2_wearOut_73 : decode cX2_wearOut 73 = .ok (.aload_n 0, 1) := by decide +kernel
theorem dX2_wearOut_74 : decode cX2_wearOut 74 = .ok (.getfield 18, 3) := by decide +kernel
theorem dX2_wearOut_77 : decode cX2_wearOut 77 = .ok (.iload_n 1, 1) := by decide +kernel
theorem dX2_wearOut_78 : decode cX2_wearOut 78 = .ok (.dup2, 1) := by decide +kernel
theorem dX2_wearOut_79 : decode cX2_wearOut 79 = .ok (.iaload, 1) := by decide +kernel
theorem dX2_wearOut_80 : decode cX2_wearOut 80 = .ok (.iconst 1, 1) := by decide +kernel
theorem dX2_wearOut_81 : decode cX2_wearOut 81 = .ok (.iload 5, 2) := by decide +kernel
theorem dX2_wearOut_83 : decode cX2_wearOut 83 = .ok (.ishl, 1) := by decide +kernel
theorem dX2_wearOut_84 : decode cX2_wearOut 84 = .ok (.ior, 1) := by decide +kernel
theorem dX2_wearOut_85 : decode cX2_wearOut 85 = .ok (.iastore, 1) := by decide +kernel
theorem dX2_wearOut_86 : decode cX2_wearOut 86 = .ok (.iinc 4 1, 3) := by decide +kernel
theorem dX2_wearOut_89 : decode cX2_wearOut 89 = .ok (.iinc 5 1, 3) := by decide +kernel
theorem dX2_wearOut_92 : decode cX2_wearOut 92 = .ok (.goto (-70), 3) := by decide +kernel
theorem dX2_wearOut_95 : decode cX2_wearOut 95 = .ok (.iload 4, 2) := by decide +kernel
theorem dX2_wearOut_97 : decode cX2_wearOut 97 = .ok (.ireturn, 1) := by decide +kernel
theorem dX2_shownSegments_0 : decode cX2_shownSegments 0 = .ok (.getstatic 83, 3) := by decide +kernel
theorem dX2_shownSegments_3 : decode cX2_shownSegments 3 = .ok (.aload_n 0, 1) := by decide +kernel
theorem dX2_shownSegments_4 : decode cX2_shownSegments 4 = .ok (.getfield 9, 3) := by decide +kernel
theorem dX2_shownSegments_7 : decode cX2_shownSegments 7 = .ok (.iload_n 1, 1) := by decide +kernel
theorem dX2_shownSegments_8 : decode cX2_shownSegments 8 = .ok (.iaload, 1) := by decide +kernel
theorem dX2_shownSegments_9 : decode cX2_shownSegments 9 = .ok (.iaload, 1) := by decide +kernel
theorem dX2_shownSegments_10 : decode cX2_shownSegments 10 = .ok (.aload_n 0, 1) := by decide +kernel
theorem dX2_shownSegments_11 : decode cX2_shownSegments 11 = .ok (.getfield 18, 3) := by decide +kernel
theorem dX2_shownSegments_14 : decode cX2_shownSegments 14 = .ok (.iload_n 1, 1) := by decide +kernel
theorem dX2_shownSegments_15 : decode cX2_shownSegments 15 = .ok (.iaload, 1) := by decide +kernel
theorem dX2_shownSegments_16 : decode cX2_shownSegments 16 = .ok (.iconst (-1), 1) := by decide +kernel
theorem dX2_shownSegments_17 : decode cX2_shownSegments 17 = .ok (.ixor, 1) := by decide +kernel
theorem dX2_shownSegments_18 : decode cX2_shownSegments 18 = .ok (.iand, 1) := by decide +kernel
theorem dX2_shownSegments_19 : decode cX2_shownSegments 19 = .ok (.ireturn, 1) := by decide +kernel
set_option maxRecDepth 20000 in
theorem ggX2_readableSigns_X2_shownSegments : GoodIn wsX2_readableSigns wsX2_shownSegments := goodIn_r _ [6, 7, 1, 8, 9, 10, 11, 12, 13, 14, 15, 16, 17] (by decide +kernel) (by decide +kernel)
set_option maxRecDepth 20000 in
theorem gX2_readableSigns_X2_shownSegments : GoodIn wsX2_readableSigns (wsV RX2 76 RX2 yX2_shownSegments wsX2_shownSegments) := goodIn_app (goodIn_of _ (by decide +kernel)) ggX2_readableSigns_X2_shownSegments
theorem dX2_readableSigns_0 : decode cX2_readableSigns 0 = .ok (.aload_n 0, 1) := by decide +kernel
theorem dX2_readableSigns_1 : decode cX2_readableSigns 1 = .ok (.iload_n 1, 1) := by decide +kernel
theorem dX2_readableSigns_2 : decode cX2_readableSigns 2 = .ok (.invokevirtual 76, 3) := by decide +kernel
theorem dX2_readableSigns_5 : decode cX2_readableSigns 5 = .ok (.istore_n 2, 1) := by decide +kernel
theorem dX2_readableSigns_6 : decode cX2_readableSigns 6 = .ok (.iconst 0, 1) := by decide +kernel
theorem dX2_readableSigns_7 : decode cX2_readableSigns 7 = .ok (.istore_n 3, 1) := by decide +kernel
theorem dX2_readableSigns_8 : decode cX2_readableSigns 8 = .ok (.iconst 0, 1) := by decide +kernel
theorem dX2_readableSigns_9 : decode cX2_readableSigns 9 = .ok (.istore 4, 2) := by decide +kernel
theorem dX2_readableSigns_11 : decode cX2_readableSigns 11 = .ok (.iload 4, 2) := by decide +kernel
theorem dX2_readableSigns_13 : decode cX2_readableSigns 13 = .ok (.bipush 12, 2) := by decide +kernel
theorem dX2_readableSigns_15 : decode cX2_readableSigns 15 = .ok (.if_icmp .ge 35, 3) := by decide +kernel
theorem dX2_readableSigns_18 : decode cX2_readableSigns 18 = .ok (.getstatic 83, 3) := by decide +kernel
theorem dX2_readableSigns_21 : decode cX2_readableSigns 21 = .ok (.iload 4, 2) := by decide +kernel
theorem dX2_readableSigns_23 : decode cX2_readableSigns 23 = .ok (.iaload, 1) := by decide +kernel
theorem dX2_readableSigns_24 : decode cX2_readableSigns 24 = .ok (.aload_n 0, 1) := by decide +kernel
theorem dX2_readableSigns_25 : decode cX2_readableSigns 25 = .ok (.getfield 18, 3) := by decide +kernel
theorem dX2_readableSigns_28 : decode cX2_readableSigns 28 = .ok (.iload_n 1, 1) := by decide +kernel
theorem dX2_readableSigns_29 : decode cX2_readableSigns 29 = .ok (.iaload, 1) := by decide +kernel
theorem dX2_readableSigns_30 : decode cX2_readableSigns 30 = .ok (.iconst (-1), 1) := by decide +kernel
theorem dX2_readableSigns_31 : decode cX2_readableSigns 31 = .ok (.ixor, 1) := by decide +kernel
theorem dX2_readableSigns_32 : decode cX2_readableSigns 32 = .ok (.iand, 1) := by decide +kernel
theorem dX2_readableSigns_33 : decode cX2_readableSigns 33 = .ok (.iload_n 2, 1) := by decide +kernel
theorem dX2_readableSigns_34 : decode cX2_readableSigns 34 = .ok (.if_icmp .ne 10, 3) := by decide +kernel
theorem dX2_readableSigns_37 : decode cX2_readableSigns 37 = .ok (.iload_n 3, 1) := by decide +kernel
theorem dX2_readableSigns_38 : decode cX2_readableSigns 38 = .ok (.iconst 1, 1) := by decide +kernel
theorem dX2_readableSigns_39 : decode cX2_readableSigns 39 = .ok (.iload 4, 2) := by decide +kernel
theorem dX2_readableSigns_41 : decode cX2_readableSigns 41 = .ok (.ishl, 1) := by decide +kernel
theorem dX2_readableSigns_42 : decode cX2_readableSigns 42 = .ok (.ior, 1) := by decide +kernel
theorem dX2_readableSigns_43 : decode cX2_readableSigns 43 = .ok (.istore_n 3, 1) := by decide +kernel
theorem dX2_readableSigns_44 : decode cX2_readableSigns 44 = .ok (.iinc 4 1, 3) := by decide +kernel
theorem dX2_readableSigns_47 : decode cX2_readableSigns 47 = .ok (.goto (-36), 3) := by decide +kernel
theorem dX2_readableSigns_50 : decode cX2_readableSigns 50 = .ok (.iload_n 3, 1) := by decide +kernel
theorem dX2_readableSigns_51 : decode cX2_readableSigns 51 = .ok (.ireturn, 1) := by decide +kernel
theorem dX2_levelSum_0 : decode cX2_levelSum 0 = .ok (.iconst 0, 1) := by decide +kernel
theorem dX2_levelSum_1 : decode cX2_levelSum 1 = .ok (.istore_n 1, 1) := by decide +kernel
theorem dX2_levelSum_2 : decode cX2_levelSum 2 = .ok (.iconst 0, 1) := by decide +kernel
theorem dX2_levelSum_3 : decode cX2_levelSum 3 = .ok (.istore_n 2, 1) := by decide +kernel
theorem dX2_levelSum_4 : decode cX2_levelSum 4 = .ok (.iload_n 2, 1) := by decide +kernel
theorem dX2_levelSum_5 : decode cX2_levelSum 5 = .ok (.bipush 6, 2) := by decide +kernel
theorem dX2_levelSum_7 : decode cX2_levelSum 7 = .ok (.if_icmp .ge 18, 3) := by decide +kernel
theorem dX2_levelSum_10 : decode cX2_levelSum 10 = .ok (.iload_n 1, 1) := by decide +kernel
theorem dX2_levelSum_11 : decode cX2_levelSum 11 = .ok (.aload_n 0, 1) := by decide +kernel
theorem dX2_levelSum_12 : decode cX2_levelSum 12 = .ok (.getfield 15, 3) := by decide +kernel
theorem dX2_levelSum_15 : decode cX2_levelSum 15 = .ok (.iload_n 2, 1) := by decide +kernel
theorem dX2_levelSum_16 : decode cX2_levelSum 16 = .ok (.iaload, 1) := by decide +kernel
theorem dX2_levelSum_17 : decode cX2_levelSum 17 = .ok (.iadd, 1) := by decide +kernel
theorem dX2_levelSum_18 : decode cX2_levelSum 18 = .ok (.istore_n 1, 1) := by decide +kernel
theorem dX2_levelSum_19 : decode cX2_levelSum 19 = .ok (.iinc 2 1, 3) := by decide +kernel
theorem dX2_levelSum_22 : decode cX2_levelSum 22 = .ok (.goto (-18), 3) := by decide +kernel
theorem dX2_levelSum_25 : decode cX2_levelSum 25 = .ok (.iload_n 1, 1) := by decide +kernel
theorem dX2_levelSum_26 : decode cX2_levelSum 26 = .ok (.ireturn, 1) := by decide +kernel
set_option maxRecDepth 20000 in
theorem ggX2_burntSegments_J6_bitCount_0f7a4 : GoodIn wsX2_burntSegments wsJ6_bitCount_0f7a4 := goodIn_r _ [5, 6, 7, 8] (by decide +kernel) (by decide +kernel)
set_option maxRecDepth 20000 in
theorem gX2_burntSegments_J6_bitCount_0f7a4 : GoodIn wsX2_burntSegments (va_wsS RX2 86 yJ6_bitCount_0f7a4 wsJ6_bitCount_0f7a4) := goodIn_app (goodIn_of _ (by decide +kernel)) ggX2_burntSegments_J6_bitCount_0f7a4
theorem dX2_burntSegments_0 : decode cX2_burntSegments 0 = .ok (.iconst 0, 1) := by decide +kernel
theorem dX2_burntSegments_1 : decode cX2_burntSegments 1 = .ok (.istore_n 1, 1) := by decide +kernel
theorem dX2_burntSegments_2 : decode cX2_burntSegments 2 = .ok (.iconst 0, 1) := by decide +kernel
theorem dX2_burntSegments_3 : decode cX2_burntSegments 3 = .ok (.istore_n 2, 1) := by decide +kernel
theorem dX2_burntSegments_4 : decode cX2_burntSegments 4 = .ok (.iload_n 2, 1) := by decide +kernel
theorem dX2_burntSegments_5 : decode cX2_burntSegments 5 = .ok (.bipush 6, 2) := by decide +kernel
theorem dX2_burntSegments_7 : decode cX2_burntSegments 7 = .ok (.if_icmp .ge 21, 3) := by decide +kernel
theorem dX2_burntSegments_10 : decode cX2_burntSegments 10 = .ok (.iload_n 1, 1) := by decide +kernel
theorem dX2_burntSegments_11 : decode cX2_burntSegments 11 = .ok (.aload_n 0, 1) := by decide +kernel
theorem dX2_burntSegments_12 : decode cX2_burntSegments 12 = .ok (.getfield 18, 3) := by decide +kernel
theorem dX2_burntSegments_15 : decode cX2_burntSegments 15 = .ok (.iload_n 2, 1) := by decide +kernel
theorem dX2_burntSegments_16 : decode cX2_burntSegments 16 = .ok (.iaload, 1) := by decide +kernel
theorem dX2_burntSegments_17 : decode cX2_burntSegments 17 = .ok (.invokestatic 86, 3) := by decide +kernel
theorem dX2_burntSegments_20 : decode cX2_burntSegments 20 = .ok (.iadd, 1) := by decide +kernel
theorem dX2_burntSegments_21 : decode cX2_burntSegments 21 = .ok (.istore_n 1, 1) := by decide +kernel
theorem dX2_burntSegments_22 : decode cX2_burntSegments 22 = .ok (.iinc 2 1, 3) := by decide +kernel
theorem dX2_burntSegments_25 : decode cX2_burntSegments 25 = .ok (.goto (-21), 3) := by decide +kernel
theorem dX2_burntSegments_28 : decode cX2_burntSegments 28 = .ok (.iload_n 1, 1) := by decide +kernel
theorem dX2_burntSegments_29 : decode cX2_burntSegments 29 = .ok (.ireturn, 1) := by decide +kernel
theorem dX3_init_0 : decode cX3_init 0 = .ok (.aload_n 0, 1) := by decide +kernel
theorem dX3_init_1 : decode cX3_init 1 = .ok (.invokespecial 3, 3) := by decide +kernel
theorem dX3_init_4 : decode cX3_init 4 = .ok (.aload_n 0, 1) := by decide +kernel
theorem dX3_init_5 : decode cX3_init 5 = .ok (.bipush 60, 2) := by decide +kernel
theorem dX3_init_7 : decode cX3_init 7 = .ok (.newarray .int, 2) := by decide +kernel
theorem dX3_init_9 : decode cX3_init 9 = .ok (.putfield 9, 3) := by decide +kernel
theorem dX3_init_12 : decode cX3_init 12 = .ok (.aload_n 0, 1) := by decide +kernel
theorem dX3_init_13 : decode cX3_init 13 = .ok (.iconst 0, 1) := by decide +kernel
theorem dX3_init_14 : decode cX3_init 14 = .ok (.putfield 15, 3) := by decide +kernel
theorem dX3_init_17 : decode cX3_init 17 = .ok (.aload_n 0, 1) := by decide +kernel
theorem dX3_init_18 : decode cX3_init 18 = .ok (.bipush 6, 2) := by decide +kernel
theorem dX3_init_20 : decode cX3_init 20 = .ok (.newarray .int, 2) := by decide +kernel
theorem dX3_init_22 : decode cX3_init 22 = .ok (.putfield 19, 3) := by decide +kernel
theorem dX3_init_25 : decode cX3_init 25 = .ok (.aload_n 0, 1) := by decide +kernel
theorem dX3_init_26 : decode cX3_init 26 = .ok (.bipush 6, 2) := by decide +kernel
theorem dX3_init_28 : decode cX3_init 28 = .ok (.newarray .int, 2) := by decide +kernel
theorem dX3_init_30 : decode cX3_init 30 = .ok (.putfield 22, 3) := by decide +kernel
theorem dX3_init_33 : decode cX3_init 33 = .ok (.aload_n 0, 1) := by decide +kernel
theorem dX3_init_34 : decode cX3_init 34 = .ok (.iconst 0, 1) := by decide +kernel
theorem dX3_init_35 : decode cX3_init 35 = .ok (.putfield 25, 3) := by decide +kernel
theorem dX3_init_38 : decode cX3_init 38 = .ok (.aload_n 0, 1) := by decide +kernel
theorem dX3_init_39 : decode cX3_init 39 = .ok (.iconst 0, 1) := by decide +kernel
theorem dX3_init_40 : decode cX3_init 40 = .ok (.putfield 28, 3) := by decide +kernel
theorem dX3_init_43 : decode cX3_init 43 = .ok (.return_, 1) := by decide +kernel
theorem dX3_put_0 : decode cX3_put 0 = .ok (.aload_n 0, 1) := by decide +kernel
theorem dX3_put_1 : decode cX3_put 1 = .ok (.getfield 15, 3) := by decide +kernel
theorem dX3_put_4 : decode cX3_put 4 = .ok (.bipush 60, 2) := by decide +kernel
theorem dX3_put_6 : decode cX3_put 6 = .ok (.if_icmp .lt 5, 3) := by decide +kernel
theorem dX3_put_9 : decode cX3_put 9 = .ok (.iconst 0, 1) := by decide +kernel
theorem dX3_put_10 : decode cX3_put 10 = .ok (.ireturn, 1) := by decide +kernel
theorem dX3_put_11 : decode cX3_put 11 = .ok (.aload_n 0, 1) := by decide +kernel
theorem dX3_put_12 : decode cX3_put 12 = .ok (.getfield 9, 3) := by decide +kernel
theorem dX3_put_15 : decode cX3_put 15 = .ok (.aload_n 0, 1) := by decide +kernel
theorem dX3_put_16 : decode cX3_put 16 = .ok (.getfield 15, 3) := by decide +kernel
theorem dX3_put_19 : decode cX3_put 19 = .ok (.iload_n 1, 1) := by decide +kernel
theorem dX3_put_20 : decode cX3_put 20 = .ok (.iastore, 1) := by decide +kernel
theorem dX3_put_21 : decode cX3_put 21 = .ok (.aload_n 0, 1) := by decide +kernel
theorem dX3_put_22 : decode cX3_put 22 = .ok (.dup, 1) := by decide +kernel
theorem dX3_put_23 : decode cX3_put 23 = .ok (.getfield 15, 3) := by decide +kernel
theorem dX3_put_26 : decode cX3_put 26 = .ok (.iconst 1, 1) := by decide +kernel
theorem dX3_put_27 : decode cX3_put 27 = .ok (.iadd, 1) := by decide +kernel
theorem dX3_put_28 : decode cX3_put 28 = .ok (.putfield 15, 3) := by decide +kernel
theorem dX3_put_31 : decode cX3_put 31 = .ok (.iconst 1, 1) := by decide +kernel
theorem dX3_put_32 : decode cX3_put 32 = .ok (.ireturn, 1) := by decide +kernel
set_option maxRecDepth 20000 in
theorem ggX3_scan_X3_takes : GoodIn wsX3_scan wsX3_takes := goodIn_r _ [9, 2, 10, 11, 12, 8, 13, 14, 15, 16, 17, 1, 18, 19, 20, 21, 22, 23, 24, 25, 26, 27, 28, 29, 30, 31, 32] (by decide +kernel) (by decide +kernel)
set_option maxRecDepth 20000 in
theorem gX3_scan_X3_takes : GoodIn wsX3_scan (wsV RX3 31 RX3 yX3_takes wsX3_takes) := goodIn_app (goodIn_of _ (by decide +kernel)) ggX3_scan_X3_takes
theorem dX3_scan_0 : decode cX3_scan 0 = .ok (.aload_n 0, 1) := by decide +kernel
theorem dX3_scan_1 : decode cX3_scan 1 = .ok (.iconst 0, 1) := by decide +kernel
theorem dX3_scan_2 : decode cX3_scan 2 = .ok (.putfield 25, 3) := by decide +kernel
theorem dX3_scan_5 : decode cX3_scan 5 = .ok (.aload_n 0, 1) := by decide +kernel
theorem dX3_scan_6 : decode cX3_scan 6 = .ok (.iconst 0, 1) := by decide +kernel
theorem dX3_scan_7 : decode cX3_scan 7 = .ok (.putfield 28, 3) := by decide +kernel
theorem dX3_scan_10 : decode cX3_scan 10 = .ok (.iconst 0, 1) := by decide +kernel
theorem dX3_scan_11 : decode cX3_scan 11 = .ok (.istore_n 1, 1) := by decide +kernel
theorem dX3_scan_12 : decode cX3_scan 12 = .ok (.iload_n 1, 1) := by decide +kernel
theorem dX3_scan_13 : decode cX3_scan 13 = .ok (.aload_n 0, 1) := by decide +kernel
theorem dX3_scan_14 : decode cX3_scan 14 = .ok (.getfield 15, 3) := by decide +kernel
theorem dX3_scan_17 : decode cX3_scan 17 = .ok (.if_icmp .ge 28, 3) := by decide +kernel
theorem dX3_scan_20 : decode cX3_scan 20 = .ok (.iload_n 1, 1) := by decide +kernel
theorem dX3_scan_21 : decode cX3_scan 21 = .ok (.bipush 60, 2) := by decide +kernel
theorem dX3_scan_23 : decode cX3_scan 23 = .ok (.if_icmp .ge 22, 3) := by decide +kernel
theorem dX3_scan_26 : decode cX3_scan 26 = .ok (.aload_n 0, 1) := by decide +kernel
theorem dX3_scan_27 : decode cX3_scan 27 = .ok (.aload_n 0, 1) := by decide +kernel
theorem dX3_scan_28 : decode cX3_scan 28 = .ok (.getfield 9, 3) := by decide +kernel
theorem dX3_scan_31 : decode cX3_scan 31 = .ok (.iload_n 1, 1) := by decide +kernel
theorem dX3_scan_32 : decode cX3_scan 32 = .ok (.iaload, 1) := by decide +kernel
theorem dX3_scan_33 : decode cX3_scan 33 = .ok (.invokevirtual 31, 3) := by decide +kernel
theorem dX3_scan_36 : decode cX3_scan 36 = .ok (.ifCond .eq 9, 3) := by decide +kernel
theorem dX3_scan_39 : decode cX3_scan 39 = .ok (.iinc 1 1, 3) := by decide +kernel
theorem dX3_scan_42 : decode cX3_scan 42 = .ok (.goto (-30), 3) := by decide +kernel
theorem dX3_scan_45 : decode cX3_scan 45 = .ok (.iload_n 1, 1) := by decide +kernel
theorem dX3_scan_46 : decode cX3_scan 46 = .ok (.ireturn, 1) := by decide +kernel
theorem dX3_isWhole_0 : decode cX3_isWhole 0 = .ok (.aload_n 0, 1) := by decide +kernel
theorem dX3_isWhole_1 : decode cX3_isWhole 1 = .ok (.getfield 28, 3) := by decide +kernel
theorem dX3_isWhole_4 : decode cX3_isWhole 4 = .ok (.ifCond .eq 15, 3) := by decide +kernel
theorem dX3_isWhole_7 : decode cX3_isWhole 7 = .ok (.aload_n 0, 1) := by decide +kernel
theorem dX3_isWhole_8 : decode cX3_isWhole 8 = .ok (.getfield 28, 3) := by decide +kernel
theorem dX3_isWhole_11 : decode cX3_isWhole 11 = .ok (.iconst 2, 1) := by decide +kernel
theorem dX3_isWhole_12 : decode cX3_isWhole 12 = .ok (.if_icmp .eq 7, 3) := by decide +kernel
theorem dX3_isWhole_15 : decode cX3_isWhole 15 = .ok (.iconst 1, 1) := by decide +kernel
theorem dX3_isWhole_16 : decode cX3_isWhole 16 = .ok (.goto 4, 3) := by decide +kernel
theorem dX3_isWhole_19 : decode cX3_isWhole 19 = .ok (.iconst 0, 1) := by decide +kernel
theorem dX3_isWhole_20 : decode cX3_isWhole 20 = .ok (.ireturn, 1) := by decide +kernel
set_option maxRecDepth 20000 in
theorem ggX3_takes_X3_takesLevel : GoodIn wsX3_takes wsX3_takesLevel := goodIn_r _ [6, 1, 7, 8, 9, 5, 10, 11, 12, 21, 22, 23, 24, 25, 26] (by decide +kernel) (by decide +kernel)
set_option maxRecDepth 20000 in
theorem gX3_takes_X3_takesLevel : GoodIn wsX3_takes (wsV RX3 35 RX3 yX3_takesLevel wsX3_takesLevel) := goodIn_app (goodIn_of _ (by decide +kernel)) ggX3_takes_X3_takesLevel
set_option maxRecDepth 20000 in
theorem ggX3_takes_X3_tellLevel : GoodIn wsX3_takes wsX3_tellLevel := goodIn_r _ [10, 11, 12, 21, 22, 23, 24, 25, 26] (by decide +kernel) (by decide +kernel)
set_option maxRecDepth 20000 in
theorem gX3_takes_X3_tellLevel : GoodIn wsX3_takes (wsV RX3 38 RX3 yX3_tellLevel wsX3_tellLevel) := goodIn_app (goodIn_of _ (by decide +kernel)) ggX3_takes_X3_tellLevel
set_option maxRecDepth 20000 in
theorem ggX3_takes_X3_takesSign : GoodIn wsX3_takes wsX3_takesSign := goodIn_r _ [16, 11, 17, 12, 1, 18, 19, 5, 20, 21, 22, 23, 24, 25, 26] (by decide +kernel) (by decide +kernel)
set_option maxRecDepth 20000 in
theorem gX3_takes_X3_takesSign : GoodIn wsX3_takes (wsV RX3 42 RX3 yX3_takesSign wsX3_takesSign) := goodIn_app (goodIn_of _ (by decide +kernel)) ggX3_takes_X3_takesSign
theorem dX3_takes_0 : decode cX3_takes 0 = .ok (.aload_n 0, 1) := by decide +kernel
theorem dX3_takes_1 : decode cX3_takes 1 = .ok (.getfield 28, 3) := by decide +kernel
theorem dX3_takes_4 : decode cX3_takes 4 = .ok (.iconst 2, 1) := by decide +kernel
theorem dX3_takes_5 : decode cX3_takes 5 = .ok (.if_icmp .ne 9, 3) := by decide +kernel
theorem dX3_takes_8 : decode cX3_takes 8 = .ok (.aload_n 0, 1) := by decide +kernel
theorem dX3_takes_9 : decode cX3_takes 9 = .ok (.iload_n 1, 1) := by decide +kernel
theorem dX3_takes_10 : decode cX3_takes 10 = .ok (.invokevirtual 35, 3) := by decide +kernel
theorem dX3_takes_13 : decode cX3_takes 13 = .ok (.ireturn, 1) := by decide +kernel
theorem dX3_takes_14 : decode cX3_takes 14 = .ok (.aload_n 0, 1) := by decide +kernel
theorem dX3_takes_15 : decode cX3_takes 15 = .ok (.getfield 28, 3) := by decide +kernel
theorem dX3_takes_18 : decode cX3_takes 18 = .ok (.iconst 3, 1) := by decide +kernel
theorem dX3_takes_19 : decode cX3_takes 19 = .ok (.if_icmp .ne 33, 3) := by decide +kernel
theorem dX3_takes_22 : decode cX3_takes 22 = .ok (.iload_n 1, 1) := by decide +kernel
theorem dX3_takes_23 : decode cX3_takes 23 = .ok (.bipush 48, 2) := by decide +kernel
theorem dX3_takes_25 : decode cX3_takes 25 = .ok (.if_icmp .lt 27, 3) := by decide +kernel
theorem dX3_takes_28 : decode cX3_takes 28 = .ok (.iload_n 1, 1) := by decide +kernel
theorem dX3_takes_29 : decode cX3_takes 29 = .ok (.bipush 53, 2) := by decide +kernel
theorem dX3_takes_31 : decode cX3_takes 31 = .ok (.if_icmp .gt 21, 3) := by decide +kernel
theorem dX3_takes_34 : decode cX3_takes 34 = .ok (.aload_n 0, 1) := by decide +kernel
theorem dX3_takes_35 : decode cX3_takes 35 = .ok (.bipush 10, 2) := by decide +kernel
theorem dX3_takes_37 : decode cX3_takes 37 = .ok (.iload_n 1, 1) := by decide +kernel
theorem dX3_takes_38 : decode cX3_takes 38 = .ok (.iadd, 1) := by decide +kernel
theorem dX3_takes_39 : decode cX3_takes 39 = .ok (.bipush 48, 2) := by decide +kernel
theorem dX3_takes_41 : decode cX3_takes 41 = .ok (.isub, 1) := by decide +kernel
theorem dX3_takes_42 : decode cX3_takes 42 = .ok (.invokevirtual 38, 3) := by decide +kernel
theorem dX3_takes_45 : decode cX3_takes 45 = .ok (.aload_n 0, 1) := by decide +kernel
theorem dX3_takes_46 : decode cX3_takes 46 = .ok (.iconst 4, 1) := by decide +kernel
theorem dX3_takes_47 : decode cX3_takes 47 = .ok (.putfield 28, 3) := by decide +kernel
theorem dX3_takes_50 : decode cX3_takes 50 = .ok (.iconst 1, 1) := by decide +kernel
theorem dX3_takes_51 : decode cX3_takes 51 = .ok (.ireturn, 1) := by decide +kernel
theorem dX3_takes_52 : decode cX3_takes 52 = .ok (.aload_n 0, 1) := by decide +kernel
theorem dX3_takes_53 : decode cX3_takes 53 = .ok (.getfield 28, 3) := by decide +kernel
theorem dX3_takes_56 : decode cX3_takes 56 = .ok (.iconst 1, 1) := by decide +kernel
theorem dX3_takes_57 : decode cX3_takes 57 = .ok (.if_icmp .ne 16, 3) := by decide +kernel
theorem dX3_takes_60 : decode cX3_takes 60 = .ok (.iload_n 1, 1) := by decide +kernel
theorem dX3_takes_61 : decode cX3_takes 61 = .ok (.bipush 42, 2) := by decide +kernel
theorem dX3_takes_63 : decode cX3_takes 63 = .ok (.if_icmp .ne 10, 3) := by decide +kernel
theorem dX3_takes_66 : decode cX3_takes 66 = .ok (.aload_n 0, 1) := by decide +kernel
theorem dX3_takes_67 : decode cX3_takes 67 = .ok (.iconst 2, 1) := by decide +kernel
theorem dX3_takes_68 : decode cX3_takes 68 = .ok (.putfield 28, 3) := by decide +kernel
theorem dX3_takes_71 : decode cX3_takes 71 = .ok (.iconst 1, 1) := by decide +kernel
theorem dX3_takes_72 : decode cX3_takes 72 = .ok (.ireturn, 1) := by decide +kernel
theorem dX3_takes_73 : decode cX3_takes 73 = .ok (.aload_n 0, 1) := by decide +kernel
theorem dX3_takes_74 : decode cX3_takes 74 = .ok (.iload_n 1, 1) := by decide +kernel
theorem dX3_takes_75 : decode cX3_takes 75 = .ok (.invokevirtual 42, 3) := by decide +kernel
theorem dX3_takes_78 : decode cX3_takes 78 = .ok (.ireturn, 1) := by decide +kernel
set_option maxRecDepth 20000 in
theorem ggX3_takesLevel_X3_tellLevel : GoodIn wsX3_takesLevel wsX3_tellLevel := goodIn_r _ [6, 7, 8, 9, 10, 11, 12, 13, 14] (by decide +kernel) (by decide +kernel)
set_option maxRecDepth 20000 in
theorem gX3_takesLevel_X3_tellLevel : GoodIn wsX3_takesLevel (wsV RX3 38 RX3 yX3_tellLevel wsX3_tellLevel) := goodIn_app (goodIn_of _ (by decide +kernel)) ggX3_takesLevel_X3_tellLevel
theorem dX3_takesLevel_0 : decode cX3_takesLevel 0 = .ok (.iload_n 1, 1) := by decide +kernel
theorem dX3_takesLevel_1 : decode cX3_takesLevel 1 = .ok (.bipush 48, 2) := by decide +kernel
theorem dX3_takesLevel_3 : decode cX3_takesLevel 3 = .ok (.if_icmp .lt 9, 3) := by decide +kernel
theorem dX3_takesLevel_6 : decode cX3_takesLevel 6 = .ok (.iload_n 1, 1) := by decide +kernel
theorem dX3_takesLevel_7 : decode cX3_takesLevel 7 = .ok (.bipush 57, 2) := by decide +kernel
theorem dX3_takesLevel_9 : decode cX3_takesLevel 9 = .ok (.if_icmp .le 5, 3) := by decide +kernel
theorem dX3_takesLevel_12 : decode cX3_takesLevel 12 = .ok (.iconst 0, 1) := by decide +kernel
theorem dX3_takesLevel_13 : decode cX3_takesLevel 13 = .ok (.ireturn, 1) := by decide +kernel
theorem dX3_takesLevel_14 : decode cX3_takesLevel 14 = .ok (.aload_n 0, 1) := by decide +kernel
theorem dX3_takesLevel_15 : decode cX3_takesLevel 15 = .ok (.iload_n 1, 1) := by decide +kernel
theorem dX3_takesLevel_16 : decode cX3_takesLevel 16 = .ok (.bipush 48, 2) := by decide +kernel
theorem dX3_takesLevel_18 : decode cX3_takesLevel 18 = .ok (.isub, 1) := by decide +kernel
theorem dX3_takesLevel_19 : decode cX3_takesLevel 19 = .ok (.invokevirtual 38, 3) := by decide +kernel
theorem dX3_takesLevel_22 : decode cX3_takesLevel 22 = .ok (.aload_n 0, 1) := by decide +kernel
theorem dX3_takesLevel_23 : decode cX3_takesLevel 23 = .ok (.iload_n 1, 1) := by decide +kernel
theorem dX3_takesLevel_24 : decode cX3_takesLevel 24 = .ok (.bipush 49, 2) := by decide +kernel
theorem dX3_takesLevel_26 : decode cX3_takesLevel 26 = .ok (.if_icmp .ne 7, 3) := by decide +kernel
theorem dX3_takesLevel_29 : decode cX3_takesLevel 29 = .ok (.iconst 3, 1) := by decide +kernel
theorem dX3_takesLevel_30 : decode cX3_takesLevel 30 = .ok (.goto 4, 3) := by decide +kernel
theorem dX3_takesLevel_33 : decode cX3_takesLevel 33 = .ok (.iconst 4, 1) := by decide +kernel
theorem dX3_takesLevel_34 : decode cX3_takesLevel 34 = .ok (.putfield 28, 3) := by decide +kernel
theorem dX3_takesLevel_37 : decode cX3_takesLevel 37 = .ok (.iconst 1, 1) := by decide +kernel
theorem dX3_takesLevel_38 : decode cX3_takesLevel 38 = .ok (.ireturn, 1) := by decide +kernel
theorem dX3_tellLevel_0 : decode cX3_tellLevel 0 = .ok (.aload_n 0, 1) := by decide +kernel
theorem dX3_tellLevel_1 : decode cX3_tellLevel 1 = .ok (.getfield 25, 3) := by decide +kernel
theorem dX3_tellLevel_4 : decode cX3_tellLevel 4 = .ok (.ifCond .le 24, 3) := by decide +kernel
theorem dX3_tellLevel_7 : decode cX3_tellLevel 7 = .ok (.aload_n 0, 1) := by decide +kernel
theorem dX3_tellLevel_8 : decode cX3_tellLevel 8 = .ok (.getfield 25, 3) := by decide +kernel
theorem dX3_tellLevel_11 : decode cX3_tellLevel 11 = .ok (.bipush 6, 2) := by decide +kernel
theorem dX3_tellLevel_13 : decode cX3_tellLevel 13 = .ok (.if_icmp .gt 15, 3) := by decide +kernel
theorem dX3_tellLevel_16 : decode cX3_tellLevel 16 = .ok (.aload_n 0, 1) := by decide +kernel
theorem dX3_tellLevel_17 : decode cX3_tellLevel 17 = .ok (.getfield 22, 3) := by decide +kernel
theorem dX3_tellLevel_20 : decode cX3_tellLevel 20 = .ok (.aload_n 0, 1) := by decide +kernel
theorem dX3_tellLevel_21 : decode cX3_tellLevel 21 = .ok (.getfield 25, 3) := by decide +kernel
theorem dX3_tellLevel_24 : decode cX3_tellLevel 24 = .ok (.iconst 1, 1) := by decide +kernel
theorem dX3_tellLevel_25 : decode cX3_tellLevel 25 = .ok (.isub, 1) := by decide +kernel
theorem dX3_tellLevel_26 : decode cX3_tellLevel 26 = .ok (.iload_n 1, 1) := by decide +kernel
theorem dX3_tellLevel_27 : decode cX3_tellLevel 27 = .ok (.iastore, 1) := by decide +kernel
theorem dX3_tellLevel_28 : decode cX3_tellLevel 28 = .ok (.return_, 1) := by decide +kernel
set_option maxRecDepth 20000 in
theorem ggX3_takesSign_X3_signOf : GoodIn wsX3_takesSign wsX3_signOf := goodIn_r _ [8] (by decide +kernel) (by decide +kernel)
set_option maxRecDepth 20000 in
theorem gX3_takesSign_X3_signOf : GoodIn wsX3_takesSign (va_wsS RX3 45 yX3_signOf wsX3_signOf) := goodIn_app (goodIn_of _ (by decide +kernel)) ggX3_takesSign_X3_signOf
theorem dX3_takesSign_0 : decode cX3_takesSign 0 = .ok (.iload_n 1, 1) := by decide +kernel
theorem dX3_takesSign_1 : decode cX3_takesSign 1 = .ok (.invokestatic 45, 3) := by decide +kernel
theorem dX3_takesSign_4 : decode cX3_takesSign 4 = .ok (.istore_n 2, 1) := by decide +kernel
theorem dX3_takesSign_5 : decode cX3_takesSign 5 = .ok (.iload_n 2, 1) := by decide +kernel
theorem dX3_takesSign_6 : decode cX3_takesSign 6 = .ok (.iconst (-1), 1) := by decide +kernel
theorem dX3_takesSign_7 : decode cX3_takesSign 7 = .ok (.if_icmp .eq 12, 3) := by decide +kernel
theorem dX3_takesSign_10 : decode cX3_takesSign 10 = .ok (.aload_n 0, 1) := by decide +kernel
theorem dX3_takesSign_11 : decode cX3_takesSign 11 = .ok (.getfield 25, 3) := by decide +kernel
theorem dX3_takesSign_14 : decode cX3_takesSign 14 = .ok (.bipush 6, 2) := by decide +kernel
theorem dX3_takesSign_16 : decode cX3_takesSign 16 = .ok (.if_icmp .lt 5, 3) := by decide +kernel
theorem dX3_takesSign_19 : decode cX3_takesSign 19 = .ok (.iconst 0, 1) := by decide +kernel
theorem dX3_takesSign_20 : decode cX3_takesSign 20 = .ok (.ireturn, 1) := by decide +kernel
theorem dX3_takesSign_21 : decode cX3_takesSign 21 = .ok (.aload_n 0, 1) := by decide +kernel
theorem dX3_takesSign_22 : decode cX3_takesSign 22 = .ok (.getfield 19, 3) := by decide +kernel
theorem dX3_takesSign_25 : decode cX3_takesSign 25 = .ok (.aload_n 0, 1) := by decide +kernel
theorem dX3_takesSign_26 : decode cX3_takesSign 26 = .ok (.getfield 25, 3) := by decide +kernel
theorem dX3_takesSign_29 : decode cX3_takesSign 29 = .ok (.iload_n 2, 1) := by decide +kernel
theorem dX3_takesSign_30 : decode cX3_takesSign 30 = .ok (.iastore, 1) := by decide +kernel
theorem dX3_takesSign_31 : decode cX3_takesSign 31 = .ok (.aload_n 0, 1) := by decide +kernel
theorem dX3_takesSign_32 : decode cX3_takesSign 32 = .ok (.getfield 22, 3) := by decide +kernel
theorem dX3_takesSign_35 : decode cX3_takesSign 35 = .ok (.aload_n 0, 1) := by decide +kernel
theorem dX3_takesSign_36 : decode cX3_takesSign 36 = .ok (.getfield 25, 3) := by decide +kernel
theorem dX3_takesSign_39 : decode cX3_takesSign 39 = .ok (.iconst (-1), 1) := by decide +kernel
theorem dX3_takesSign_40 : decode cX3_takesSign 40 = .ok (.iastore, 1) := by decide +kernel
theorem dX3_takesSign_41 : decode cX3_takesSign 41 = .ok (.aload_n 0, 1) := by decide +kernel
theorem dX3_takesSign_42 : decode cX3_takesSign 42 = .ok (.dup, 1) := by decide +kernel
theorem dX3_takesSign_43 : decode cX3_takesSign 43 = .ok (.getfield 25, 3) := by decide +kernel
theorem dX3_takesSign_46 : decode cX3_takesSign 46 = .ok (.iconst 1, 1) := by decide +kernel
theorem dX3_takesSign_47 : decode cX3_takesSign 47 = .ok (.iadd, 1) := by decide +kernel
theorem dX3_takesSign_48 : decode cX3_takesSign 48 = .ok (.putfield 25, 3) := by decide +kernel
theorem dX3_takesSign_51 : decode cX3_takesSign 51 = .ok (.aload_n 0, 1) := by decide +kernel
theorem dX3_takesSign_52 : decode cX3_takesSign 52 = .ok (.iconst 1, 1) := by decide +kernel
theorem dX3_takesSign_53 : decode cX3_takesSign 53 = .ok (.putfield 28, 3) := by decide +kernel
theorem dX3_takesSign_56 : decode cX3_takesSign 56 = .ok (.iconst 1, 1) := by decide +kernel
theorem dX3_takesSign_57 : decode cX3_takesSign 57 = .ok (.ireturn, 1) := by decide +kernel
theorem dX3_signOf_0 : decode cX3_signOf 0 = .ok (.iload_n 0, 1) := by decide +kernel
theorem dX3_signOf_1 : decode cX3_signOf 1 = .ok (.bipush 48, 2) := by decide +kernel
theorem dX3_signOf_3 : decode cX3_signOf 3 = .ok (.if_icmp .lt 14, 3) := by decide +kernel
theorem dX3_signOf_6 : decode cX3_signOf 6 = .ok (.iload_n 0, 1) := by decide +kernel
theorem dX3_signOf_7 : decode cX3_signOf 7 = .ok (.bipush 57, 2) := by decide +kernel
theorem dX3_signOf_9 : decode cX3_signOf 9 = .ok (.if_icmp .gt 8, 3) := by decide +kernel
theorem dX3_signOf_12 : decode cX3_signOf 12 = .ok (.iload_n 0, 1) := by decide +kernel
theorem dX3_signOf_13 : decode cX3_signOf 13 = .ok (.bipush 48, 2) := by decide +kernel
theorem dX3_signOf_15 : decode cX3_signOf 15 = .ok (.isub, 1) := by decide +kernel
theorem dX3_signOf_16 : decode cX3_signOf 16 = .ok (.ireturn, 1) := by decide +kernel
theorem dX3_signOf_17 : decode cX3_signOf 17 = .ok (.iload_n 0, 1) := by decide +kernel
theorem dX3_signOf_18 : decode cX3_signOf 18 = .ok (.bipush 45, 2) := by decide +kernel
theorem dX3_signOf_20 : decode cX3_signOf 20 = .ok (.if_icmp .ne 6, 3) := by decide +kernel
theorem dX3_signOf_23 : decode cX3_signOf 23 = .ok (.bipush 10, 2) := by decide +kernel
theorem dX3_signOf_25 : decode cX3_signOf 25 = .ok (.ireturn, 1) := by decide +kernel
theorem dX3_signOf_26 : decode cX3_signOf 26 = .ok (.iload_n 0, 1) := by decide +kernel
theorem dX3_signOf_27 : decode cX3_signOf 27 = .ok (.bipush 95, 2) := by decide +kernel
theorem dX3_signOf_29 : decode cX3_signOf 29 = .ok (.if_icmp .ne 8, 3) := by decide +kernel
theorem dX3_signOf_32 : decode cX3_signOf 32 = .ok (.bipush 11, 2) := by decide +kernel
theorem dX3_signOf_34 : decode cX3_signOf 34 = .ok (.goto 4, 3) := by decide +kernel
theorem dX3_signOf_37 : decode cX3_signOf 37 = .ok (.iconst (-1), 1) := by decide +kernel
theorem dX3_signOf_38 : decode cX3_signOf 38 = .ok (.ireturn, 1) := by decide +kernel
set_option maxRecDepth 20000 in
theorem ggX4_init_X2_init : GoodIn wsX4_init wsX2_init := goodIn_r _ [23, 24, 2, 3, 25, 26, 27, 28, 29, 30, 31, 32, 33, 34, 35, 36, 37, 38, 39, 40, 41, 42, 43, 76, 77, 78, 79, 80, 81, 82, 83, 84, 85] (by decide +kernel) (by decide +kernel)
set_option maxRecDepth 20000 in
theorem gX4_init_X2_init : GoodIn wsX4_init (wsX2_init) := ggX4_init_X2_init
set_option maxRecDepth 20000 in
theorem ggX4_init_X1_init : GoodIn wsX4_init wsX1_init := goodIn_r _ [46, 47, 2, 3, 48, 49, 50, 51, 5, 6, 52, 22, 23, 24, 25, 26, 27, 28, 29, 30, 31, 32, 33, 34, 35, 36, 37, 38, 39, 40, 41, 42, 43, 91, 92, 93, 76, 77, 78, 79, 80, 81, 82, 83, 84, 85] (by decide +kernel) (by decide +kernel)
set_option maxRecDepth 20000 in
theorem gX4_init_X1_init : GoodIn wsX4_init (wsX1_init) := ggX4_init_X1_init
set_option maxRecDepth 20000 in
theorem ggX4_init_X3_init : GoodIn wsX4_init wsX3_init := goodIn_r _ [55, 56, 2, 3, 25, 57, 58, 59, 60, 61, 62, 94, 95, 96, 97, 98, 99] (by decide +kernel) (by decide +kernel)
set_option maxRecDepth 20000 in
theorem gX4_init_X3_init : GoodIn wsX4_init (wsX3_init) := ggX4_init_X3_init
set_option maxRecDepth 20000 in
theorem ggX4_init_X0_init : GoodIn wsX4_init wsX0_init := goodIn_r _ [64, 65, 2, 3, 25, 66, 67, 68, 69, 70, 71, 72, 73, 74, 75, 100, 101, 102, 103, 104, 105, 106, 107, 108, 109] (by decide +kernel) (by decide +kernel)
set_option maxRecDepth 20000 in
theorem gX4_init_X0_init_n32 : GoodIn wsX4_init (wsX0_init) := ggX4_init_X0_init
theorem dX4_init_0 : decode cX4_init 0 = .ok (.aload_n 0, 1) := by decide +kernel
theorem dX4_init_1 : decode cX4_init 1 = .ok (.invokespecial 1, 3) := by decide +kernel
theorem dX4_init_4 : decode cX4_init 4 = .ok (.aload_n 0, 1) := by decide +kernel
theorem dX4_init_5 : decode cX4_init 5 = .ok (.new 7, 3) := by decide +kernel
theorem dX4_init_8 : decode cX4_init 8 = .ok (.dup, 1) := by decide +kernel
theorem dX4_init_9 : decode cX4_init 9 = .ok (.invokespecial 9, 3) := by decide +kernel
theorem dX4_init_12 : decode cX4_init 12 = .ok (.putfield 10, 3) := by decide +kernel
theorem dX4_init_15 : decode cX4_init 15 = .ok (.aload_n 0, 1) := by decide +kernel
theorem dX4_init_16 : decode cX4_init 16 = .ok (.new 16, 3) := by decide +kernel
theorem dX4_init_19 : decode cX4_init 19 = .ok (.dup, 1) := by decide +kernel
theorem dX4_init_20 : decode cX4_init 20 = .ok (.invokespecial 18, 3) := by decide +kernel
theorem dX4_init_23 : decode cX4_init 23 = .ok (.putfield 19, 3) := by decide +kernel
theorem dX4_init_26 : decode cX4_init 26 = .ok (.aload_n 0, 1) := by decide +kernel
theorem dX4_init_27 : decode cX4_init 27 = .ok (.new 23, 3) := by decide +kernel
theorem dX4_init_30 : decode cX4_init 30 = .ok (.dup, 1) := by decide +kernel
theorem dX4_init_31 : decode cX4_init 31 = .ok (.invokespecial 25, 3) := by decide +kernel
theorem dX4_init_34 : decode cX4_init 34 = .ok (.putfield 26, 3) := by decide +kernel
theorem dX4_init_37 : decode cX4_init 37 = .ok (.aload_n 0, 1) := by decide +kernel
theorem dX4_init_38 : decode cX4_init 38 = .ok (.new 30, 3) := by decide +kernel
theorem dX4_init_41 : decode cX4_init 41 = .ok (.dup, 1) := by decide +kernel
theorem dX4_init_42 : decode cX4_init 42 = .ok (.invokespecial 32, 3) := by decide +kernel
theorem dX4_init_45 : decode cX4_init 45 = .ok (.putfield 33, 3) := by decide +kernel
theorem dX4_init_48 : decode cX4_init 48 = .ok (.aload_n 0, 1) := by decide +kernel
theorem dX4_init_49 : decode cX4_init 49 = .ok (.new 30, 3) := by decide +kernel
theorem dX4_init_52 : decode cX4_init 52 = .ok (.dup, 1) := by decide +kernel
theorem dX4_init_53 : decode cX4_init 53 = .ok (.invokespecial 32, 3) := by decide +kernel
theorem dX4_init_56 : decode cX4_init 56 = .ok (.putfield 37, 3) := by decide +kernel
theorem dX4_init_59 : decode cX4_init 59 = .ok (.return_, 1) := by decide +kernel
set_option maxRecDepth 20000 in
theorem ggX4_show_X4_requireDigit : GoodIn wsX4_show wsX4_requireDigit := goodIn_ca (goodIn_r _ [7, 8, 9] (by decide +kernel) (by decide +kernel)) (goodIn_sub (fun _ h => List.mem_cons_of_mem _ (List.mem_append_left _ (List.mem_append_right _ h))) (by decide +kernel))
set_option maxRecDepth 20000 in
theorem gX4_show_X4_requireDigit : GoodIn wsX4_show (va_wsS RX4 40 yX4_requireDigit wsX4_requireDigit) := goodIn_app (goodIn_of _ (by decide +kernel)) ggX4_show_X4_requireDigit
set_option maxRecDepth 20000 in
theorem ggX4_show_X4_requireRange : GoodIn wsX4_show wsX4_requireRange := goodIn_ca (goodIn_r _ [12, 13, 14] (by decide +kernel) (by decide +kernel)) (goodIn_sub (fun _ h => List.mem_cons_of_mem _ (List.mem_append_right _ h)) (by decide +kernel))
set_option maxRecDepth 20000 in
theorem gX4_show_X4_requireRange : GoodIn wsX4_show (va_wsS RX4 44 yX4_requireRange wsX4_requireRange) := goodIn_app (goodIn_of _ (by decide +kernel)) ggX4_show_X4_requireRange
set_option maxRecDepth 20000 in
theorem ggX4_show_X1_push : GoodIn wsX4_show wsX1_push := goodIn_r _ [19, 20, 21, 22, 23, 24, 25, 26, 27, 28, 29, 30, 31, 32, 33, 34, 35, 36, 37, 38, 39, 40, 41, 57, 58, 59, 47, 48, 49, 50, 51, 52, 53, 54, 55, 56] (by decide +kernel) (by decide +kernel)
set_option maxRecDepth 20000 in
theorem gX4_show_X1_push : GoodIn wsX4_show (wsV RX4 48 RX1 yX1_push wsX1_push) := goodIn_app (goodIn_of _ (by decide +kernel)) ggX4_show_X1_push
theorem dX4_show_0 : decode cX4_show 0 = .ok (.iload_n 1, 1) := by decide +kernel
theorem dX4_show_1 : decode cX4_show 1 = .ok (.invokestatic 40, 3) := by decide +kernel
theorem dX4_show_4 : decode cX4_show 4 = .ok (.iload_n 2, 1) := by decide +kernel
theorem dX4_show_5 : decode cX4_show 5 = .ok (.iconst 0, 1) := by decide +kernel
theorem dX4_show_6 : decode cX4_show 6 = .ok (.bipush 11, 2) := by decide +kernel
theorem dX4_show_8 : decode cX4_show 8 = .ok (.invokestatic 44, 3) := by decide +kernel
theorem dX4_show_11 : decode cX4_show 11 = .ok (.aload_n 0, 1) := by decide +kernel
theorem dX4_show_12 : decode cX4_show 12 = .ok (.getfield 19, 3) := by decide +kernel
theorem dX4_show_15 : decode cX4_show 15 = .ok (.aload_n 0, 1) := by decide +kernel
theorem dX4_show_16 : decode cX4_show 16 = .ok (.getfield 10, 3) := by decide +kernel
theorem dX4_show_19 : decode cX4_show 19 = .ok (.invokevirtual 48, 3) := by decide +kernel
theorem dX4_show_22 : decode cX4_show 22 = .ok (.aload_n 0, 1) := by decide +kernel
theorem dX4_show_23 : decode cX4_show 23 = .ok (.getfield 10, 3) := by decide +kernel
theorem dX4_show_26 : decode cX4_show 26 = .ok (.getfield 52, 3) := by decide +kernel
theorem dX4_show_29 : decode cX4_show 29 = .ok (.iload_n 1, 1) := by decide +kernel
theorem dX4_show_30 : decode cX4_show 30 = .ok (.iaload, 1) := by decide +kernel
theorem dX4_show_31 : decode cX4_show 31 = .ok (.istore_n 3, 1) := by decide +kernel
theorem dX4_show_32 : decode cX4_show 32 = .ok (.aload_n 0, 1) := by decide +kernel
theorem dX4_show_33 : decode cX4_show 33 = .ok (.getfield 10, 3) := by decide +kernel
theorem dX4_show_36 : decode cX4_show 36 = .ok (.getfield 52, 3) := by decide +kernel
theorem dX4_show_39 : decode cX4_show 39 = .ok (.iload_n 1, 1) := by decide +kernel
theorem dX4_show_40 : decode cX4_show 40 = .ok (.iload_n 2, 1) := by decide +kernel
theorem dX4_show_41 : decode cX4_show 41 = .ok (.iastore, 1) := by decide +kernel
theorem dX4_show_42 : decode cX4_show 42 = .ok (.iload_n 3, 1) := by decide +kernel
theorem dX4_show_43 : decode cX4_show 43 = .ok (.ireturn, 1) := by decide +kernel
set_option maxRecDepth 20000 in
theorem ggX4_level_X4_requireDigit : GoodIn wsX4_level wsX4_requireDigit := goodIn_ca (goodIn_r _ [7, 8, 9] (by decide +kernel) (by decide +kernel)) (goodIn_sub (fun _ h => List.mem_cons_of_mem _ (List.mem_append_left _ (List.mem_append_right _ h))) (by decide +kernel))
set_option maxRecDepth 20000 in
theorem gX4_level_X4_requireDigit : GoodIn wsX4_level (va_wsS RX4 40 yX4_requireDigit wsX4_requireDigit) := goodIn_app (goodIn_of _ (by decide +kernel)) ggX4_level_X4_requireDigit
set_option maxRecDepth 20000 in
theorem ggX4_level_X4_requireRange : GoodIn wsX4_level wsX4_requireRange := goodIn_ca (goodIn_r _ [12, 13, 14] (by decide +kernel) (by decide +kernel)) (goodIn_sub (fun _ h => List.mem_cons_of_mem _ (List.mem_append_right _ h)) (by decide +kernel))
set_option maxRecDepth 20000 in
theorem gX4_level_X4_requireRange : GoodIn wsX4_level (va_wsS RX4 44 yX4_requireRange wsX4_requireRange) := goodIn_app (goodIn_of _ (by decide +kernel)) ggX4_level_X4_requireRange
set_option maxRecDepth 20000 in
theorem ggX4_level_X1_push : GoodIn wsX4_level wsX1_push := goodIn_r _ [19, 20, 21, 22, 23, 24, 25, 26, 27, 28, 29, 30, 31, 32, 33, 34, 35, 36, 37, 38, 39, 40, 41, 65, 66, 67, 55, 56, 57, 58, 59, 60, 61, 62, 63, 64] (by decide +kernel) (by decide +kernel)
set_option maxRecDepth 20000 in
theorem gX4_level_X1_push : GoodIn wsX4_level (wsV RX4 48 RX1 yX1_push wsX1_push) := goodIn_app (goodIn_of _ (by decide +kernel)) ggX4_level_X1_push
set_option maxRecDepth 20000 in
theorem ggX4_level_X2_clearCredits : GoodIn wsX4_level wsX2_clearCredits := goodIn_r _ [45, 35, 46, 47, 48, 49, 55, 56, 57, 58, 59, 60, 61, 62, 63, 64] (by decide +kernel) (by decide +kernel)
set_option maxRecDepth 20000 in
theorem gX4_level_X2_clearCredits : GoodIn wsX4_level (wsV RX4 59 RX2 yX2_clearCredits wsX2_clearCredits) := goodIn_app (goodIn_of _ (by decide +kernel)) ggX4_level_X2_clearCredits
theorem dX4_level_0 : decode cX4_level 0 = .ok (.iload_n 1, 1) := by decide +kernel
theorem dX4_level_1 : decode cX4_level 1 = .ok (.invokestatic 40, 3) := by decide +kernel
theorem dX4_level_4 : decode cX4_level 4 = .ok (.iload_n 2, 1) := by decide +kernel
theorem dX4_level_5 : decode cX4_level 5 = .ok (.iconst 0, 1) := by decide +kernel
theorem dX4_level_6 : decode cX4_level 6 = .ok (.bipush 15, 2) := by decide +kernel
theorem dX4_level_8 : decode cX4_level 8 = .ok (.invokestatic 44, 3) := by decide +kernel
theorem dX4_level_11 : decode cX4_level 11 = .ok (.aload_n 0, 1) := by decide +kernel
theorem dX4_level_12 : decode cX4_level 12 = .ok (.getfield 19, 3) := by decide +kernel
theorem dX4_level_15 : decode cX4_level 15 = .ok (.aload_n 0, 1) := by decide +kernel
theorem dX4_level_16 : decode cX4_level 16 = .ok (.getfield 10, 3) := by decide +kernel
theorem dX4_level_19 : decode cX4_level 19 = .ok (.invokevirtual 48, 3) := by decide +kernel
theorem dX4_level_22 : decode cX4_level 22 = .ok (.aload_n 0, 1) := by decide +kernel
theorem dX4_level_23 : decode cX4_level 23 = .ok (.getfield 10, 3) := by decide +kernel
theorem dX4_level_26 : decode cX4_level 26 = .ok (.getfield 56, 3) := by decide +kernel
theorem dX4_level_29 : decode cX4_level 29 = .ok (.iload_n 1, 1) := by decide +kernel
theorem dX4_level_30 : decode cX4_level 30 = .ok (.iaload, 1) := by decide +kernel
theorem dX4_level_31 : decode cX4_level 31 = .ok (.istore_n 3, 1) := by decide +kernel
theorem dX4_level_32 : decode cX4_level 32 = .ok (.aload_n 0, 1) := by decide +kernel
theorem dX4_level_33 : decode cX4_level 33 = .ok (.getfield 10, 3) := by decide +kernel
theorem dX4_level_36 : decode cX4_level 36 = .ok (.getfield 56, 3) := by decide +kernel
theorem dX4_level_39 : decode cX4_level 39 = .ok (.iload_n 1, 1) := by decide +kernel
theorem dX4_level_40 : decode cX4_level 40 = .ok (.iload_n 2, 1) := by decide +kernel
theorem dX4_level_41 : decode cX4_level 41 = .ok (.iastore, 1) := by decide +kernel
theorem dX4_level_42 : decode cX4_level 42 = .ok (.aload_n 0, 1) := by decide +kernel
theorem dX4_level_43 : decode cX4_level 43 = .ok (.getfield 10, 3) := by decide +kernel
theorem dX4_level_46 : decode cX4_level 46 = .ok (.invokevirtual 59, 3) := by decide +kernel
theorem dX4_level_49 : decode cX4_level 49 = .ok (.iload_n 3, 1) := by decide +kernel
theorem dX4_level_50 : decode cX4_level 50 = .ok (.ireturn, 1) := by decide +kernel
set_option maxRecDepth 20000 in
theorem ggX4_burn_X4_requireDigit : GoodIn wsX4_burn wsX4_requireDigit := goodIn_ca (goodIn_r _ [8, 9, 10] (by decide +kernel) (by decide +kernel)) (goodIn_sub (fun _ h => List.mem_cons_of_mem _ (List.mem_append_right _ h)) (by decide +kernel))
set_option maxRecDepth 20000 in
theorem gX4_burn_X4_requireDigit : GoodIn wsX4_burn (va_wsS RX4 40 yX4_requireDigit wsX4_requireDigit) := goodIn_app (goodIn_of _ (by decide +kernel)) ggX4_burn_X4_requireDigit
set_option maxRecDepth 20000 in
theorem ggX4_burn_X4_requireSegment : GoodIn wsX4_burn wsX4_requireSegment := goodIn_ca (goodIn_r _ [13, 9, 10] (by decide +kernel) (by decide +kernel)) (goodIn_sub (fun _ h => List.mem_cons_of_mem _ (List.mem_append_right _ h)) (by decide +kernel))
set_option maxRecDepth 20000 in
theorem gX4_burn_X4_requireSegment : GoodIn wsX4_burn (va_wsS RX4 62 yX4_requireSegment wsX4_requireSegment) := goodIn_app (goodIn_of _ (by decide +kernel)) ggX4_burn_X4_requireSegment
set_option maxRecDepth 20000 in
theorem ggX4_burn_X1_push : GoodIn wsX4_burn wsX1_push := goodIn_r _ [18, 19, 20, 21, 22, 23, 24, 25, 26, 27, 28, 29, 30, 31, 32, 33, 34, 35, 36, 37, 38, 39, 40, 59, 60, 61, 49, 50, 51, 52, 53, 54, 55, 56, 57, 58] (by decide +kernel) (by decide +kernel)
set_option maxRecDepth 20000 in
theorem gX4_burn_X1_push : GoodIn wsX4_burn (wsV RX4 48 RX1 yX1_push wsX1_push) := goodIn_app (goodIn_of _ (by decide +kernel)) ggX4_burn_X1_push
set_option maxRecDepth 20000 in
theorem ggX4_burn_X4_wearPlace : GoodIn wsX4_burn wsX4_wearPlace := goodIn_r _ [43] (by decide +kernel) (by decide +kernel)
set_option maxRecDepth 20000 in
theorem gX4_burn_X4_wearPlace : GoodIn wsX4_burn (va_wsS RX4 71 yX4_wearPlace wsX4_wearPlace) := goodIn_app (goodIn_of _ (by decide +kernel)) ggX4_burn_X4_wearPlace
theorem dX4_burn_0 : decode cX4_burn 0 = .ok (.iload_n 1, 1) := by decide +kernel
theorem dX4_burn_1 : decode cX4_burn 1 = .ok (.invokestatic 40, 3) := by decide +kernel
theorem dX4_burn_4 : decode cX4_burn 4 = .ok (.iload_n 2, 1) := by decide +kernel
theorem dX4_burn_5 : decode cX4_burn 5 = .ok (.invokestatic 62, 3) := by decide +kernel
theorem dX4_burn_8 : decode cX4_burn 8 = .ok (.aload_n 0, 1) := by decide +kernel
theorem dX4_burn_9 : decode cX4_burn 9 = .ok (.getfield 19, 3) := by decide +kernel
theorem dX4_burn_12 : decode cX4_burn 12 = .ok (.aload_n 0, 1) := by decide +kernel
theorem dX4_burn_13 : decode cX4_burn 13 = .ok (.getfield 10, 3) := by decide +kernel
theorem dX4_burn_16 : decode cX4_burn 16 = .ok (.invokevirtual 48, 3) := by decide +kernel
theorem dX4_burn_19 : decode cX4_burn 19 = .ok (.iconst 1, 1) := by decide +kernel
theorem dX4_burn_20 : decode cX4_burn 20 = .ok (.iload_n 2, 1) := by decide +kernel
theorem dX4_burn_21 : decode cX4_burn 21 = .ok (.ishl, 1) := by decide +kernel
theorem dX4_burn_22 : decode cX4_burn 22 = .ok (.istore 4, 2) := by decide +kernel
theorem dX4_burn_24 : decode cX4_burn 24 = .ok (.aload_n 0, 1) := by decide +kernel
theorem dX4_burn_25 : decode cX4_burn 25 = .ok (.getfield 10, 3) := by decide +kernel
theorem dX4_burn_28 : decode cX4_burn 28 = .ok (.getfield 65, 3) := by decide +kernel
theorem dX4_burn_31 : decode cX4_burn 31 = .ok (.iload_n 1, 1) := by decide +kernel
theorem dX4_burn_32 : decode cX4_burn 32 = .ok (.iaload, 1) := by decide +kernel
theorem dX4_burn_33 : decode cX4_burn 33 = .ok (.iload 4, 2) := by decide +kernel
theorem dX4_burn_35 : decode cX4_burn 35 = .ok (.iand, 1) := by decide +kernel
theorem dX4_burn_36 : decode cX4_burn 36 = .ok (.ifCond .eq 7, 3) := by decide +kernel
theorem dX4_burn_39 : decode cX4_burn 39 = .ok (.iconst 1, 1) := by decide +kernel
theorem dX4_burn_40 : decode cX4_burn 40 = .ok (.goto 4, 3) := by decide +kernel
theorem dX4_burn_43 : decode cX4_burn 43 = .ok (.iconst 0, 1) := by decide +kernel
theorem dX4_burn_44 : decode cX4_burn 44 = .ok (.istore 5, 2) := by decide +kernel
theorem dX4_burn_46 : decode cX4_burn 46 = .ok (.iload_n 3, 1) := by decide +kernel
theorem dX4_burn_47 : decode cX4_burn 47 = .ok (.ifCond .eq 20, 3) := by decide +kernel
theorem dX4_burn_50 : decode cX4_burn 50 = .ok (.aload_n 0, 1) := by decide +kernel
theorem dX4_burn_51 : decode cX4_burn 51 = .ok (.getfield 10, 3) := by decide +kernel
theorem dX4_burn_54 : decode cX4_burn 54 = .ok (.getfield 65, 3) := by decide +kernel
theorem dX4_burn_57 : decode cX4_burn 57 = .ok (.iload_n 1, 1) := by decide +kernel
theorem dX4_burn_58 : decode cX4_burn 58 = .ok (.dup2, 1) := by decide +kernel
theorem dX4_burn_59 : decode cX4_burn 59 = .ok (.iaload, 1) := by decide +kernel
theorem dX4_burn_60 : decode cX4_burn 60 = .ok (.iload 4, 2) := by decide +kernel
theorem dX4_burn_62 : decode cX4_burn 62 = .ok (.ior, 1) := by decide +kernel
theorem dX4_burn_63 : decode cX4_burn 63 = .ok (.iastore, 1) := by decide +kernel
theorem dX4_burn_64 : decode cX4_burn 64 = .ok (.goto 33, 3) := by decide +kernel
theorem dX4_burn_67 : decode cX4_burn 67 = .ok (.aload_n 0, 1) := by decide +kernel
theorem dX4_burn_68 : decode cX4_burn 68 = .ok (.getfield 10, 3) := by decide +kernel
theorem dX4_burn_71 : decode cX4_burn 71 = .ok (.getfield 65, 3) := by decide +kernel
theorem dX4_burn_74 : decode cX4_burn 74 = .ok (.iload_n 1, 1) := by decide +kernel
theorem dX4_burn_75 : decode cX4_burn 75 = .ok (.dup2, 1) := by decide +kernel
theorem dX4_burn_76 : decode cX4_burn 76 = .ok (.iaload, 1) := by decide +kernel
theorem dX4_burn_77 : decode cX4_burn 77 = .ok (.iload 4, 2) := by decide +kernel
theorem dX4_burn_79 : decode cX4_burn 79 = .ok (.iconst (-1), 1) := by decide +kernel
theorem dX4_burn_80 : decode cX4_burn 80 = .ok (.ixor, 1) := by decide +kernel
theorem dX4_burn_81 : decode cX4_burn 81 = .ok (.iand, 1) := by decide +kernel
theorem dX4_burn_82 : decode cX4_burn 82 = .ok (.iastore, 1) := by decide +kernel
theorem dX4_burn_83 : decode cX4_burn 83 = .ok (.aload_n 0, 1) := by decide +kernel
theorem dX4_burn_84 : decode cX4_burn 84 = .ok (.getfield 10, 3) := by decide +kernel
theorem dX4_burn_87 : decode cX4_burn 87 = .ok (.getfield 68, 3) := by decide +kernel
theorem dX4_burn_90 : decode cX4_burn 90 = .ok (.iload_n 1, 1) := by decide +kernel
theorem dX4_burn_91 : decode cX4_burn 91 = .ok (.iload_n 2, 1) := by decide +kernel
theorem dX4_burn_92 : decode cX4_burn 92 = .ok (.invokestatic 71, 3) := by decide +kernel
theorem dX4_burn_95 : decode cX4_burn 95 = .ok (.iconst 0, 1) := by decide +kernel
theorem dX4_burn_96 : decode cX4_burn 96 = .ok (.iastore, 1) := by decide +kernel
theorem dX4_burn_97 : decode cX4_burn 97 = .ok (.iload 5, 2) := by decide +kernel
theorem dX4_burn_99 : decode cX4_burn 99 = .ok (.ireturn, 1) := by decide +kernel
set_option maxRecDepth 20000 in
theorem ggX4_ambient_X4_requireRange : GoodIn wsX4_ambient wsX4_requireRange := goodIn_ca (goodIn_r _ [7, 8, 9] (by decide +kernel) (by decide +kernel)) (goodIn_sub (fun _ h => List.mem_cons_of_mem _ (List.mem_append_right _ h)) (by decide +kernel))
set_option maxRecDepth 20000 in
theorem gX4_ambient_X4_requireRange : GoodIn wsX4_ambient (va_wsS RX4 44 yX4_requireRange wsX4_requireRange) := goodIn_app (goodIn_of _ (by decide +kernel)) ggX4_ambient_X4_requireRange
set_option maxRecDepth 20000 in
theorem ggX4_ambient_X1_push : GoodIn wsX4_ambient wsX1_push := goodIn_r _ [14, 15, 16, 17, 18, 19, 20, 21, 22, 23, 24, 25, 26, 27, 28, 29, 30, 31, 32, 33, 34, 35, 36, 52, 53, 54, 42, 43, 44, 45, 46, 47, 48, 49, 50, 51] (by decide +kernel) (by decide +kernel)
set_option maxRecDepth 20000 in
theorem gX4_ambient_X1_push : GoodIn wsX4_ambient (wsV RX4 48 RX1 yX1_push wsX1_push) := goodIn_app (goodIn_of _ (by decide +kernel)) ggX4_ambient_X1_push
theorem dX4_ambient_0 : decode cX4_ambient 0 = .ok (.iload_n 1, 1) := by decide +kernel
theorem dX4_ambient_1 : decode cX4_ambient 1 = .ok (.iconst 0, 1) := by decide +kernel
theorem dX4_ambient_2 : decode cX4_ambient 2 = .ok (.bipush 20, 2) := by decide +kernel
theorem dX4_ambient_4 : decode cX4_ambient 4 = .ok (.invokestatic 44, 3) := by decide +kernel
theorem dX4_ambient_7 : decode cX4_ambient 7 = .ok (.aload_n 0, 1) := by decide +kernel
theorem dX4_ambient_8 : decode cX4_ambient 8 = .ok (.getfield 19, 3) := by decide +kernel
theorem dX4_ambient_11 : decode cX4_ambient 11 = .ok (.aload_n 0, 1) := by decide +kernel
theorem dX4_ambient_12 : decode cX4_ambient 12 = .ok (.getfield 10, 3) := by decide +kernel
theorem dX4_ambient_15 : decode cX4_ambient 15 = .ok (.invokevirtual 48, 3) := by decide +kernel
theorem dX4_ambient_18 : decode cX4_ambient 18 = .ok (.aload_n 0, 1) := by decide +kernel
theorem dX4_ambient_19 : decode cX4_ambient 19 = .ok (.getfield 10, 3) := by decide +kernel
theorem dX4_ambient_22 : decode cX4_ambient 22 = .ok (.getfield 75, 3) := by decide +kernel
theorem dX4_ambient_25 : decode cX4_ambient 25 = .ok (.istore_n 2, 1) := by decide +kernel
theorem dX4_ambient_26 : decode cX4_ambient 26 = .ok (.aload_n 0, 1) := by decide +kernel
theorem dX4_ambient_27 : decode cX4_ambient 27 = .ok (.getfield 10, 3) := by decide +kernel
theorem dX4_ambient_30 : decode cX4_ambient 30 = .ok (.iload_n 1, 1) := by decide +kernel
theorem dX4_ambient_31 : decode cX4_ambient 31 = .ok (.putfield 75, 3) := by decide +kernel
theorem dX4_ambient_34 : decode cX4_ambient 34 = .ok (.iload_n 2, 1) := by decide +kernel
theorem dX4_ambient_35 : decode cX4_ambient 35 = .ok (.ireturn, 1) := by decide +kernel
set_option maxRecDepth 20000 in
theorem ggX4_set_X4_requireSetting : GoodIn wsX4_set wsX4_requireSetting := goodIn_ca (goodIn_r _ [9, 10, 11] (by decide +kernel) (by decide +kernel)) (goodIn_sub (fun _ h => List.mem_cons_of_mem _ (List.mem_append_left _ (List.mem_append_right _ h))) (by decide +kernel))
set_option maxRecDepth 20000 in
theorem gX4_set_X4_requireSetting : GoodIn wsX4_set (va_wsS RX4 79 yX4_requireSetting wsX4_requireSetting) := goodIn_app (goodIn_of _ (by decide +kernel)) ggX4_set_X4_requireSetting
set_option maxRecDepth 20000 in
theorem ggX4_set_X4_requireRange : GoodIn wsX4_set wsX4_requireRange := goodIn_ca (goodIn_r _ [14, 15, 16] (by decide +kernel) (by decide +kernel)) (goodIn_sub (fun _ h => List.mem_cons_of_mem _ (List.mem_append_right _ h)) (by decide +kernel))
set_option maxRecDepth 20000 in
theorem gX4_set_X4_requireRange : GoodIn wsX4_set (va_wsS RX4 44 yX4_requireRange wsX4_requireRange) := goodIn_app (goodIn_of _ (by decide +kernel)) ggX4_set_X4_requireRange
set_option maxRecDepth 20000 in
theorem ggX4_set_X1_push : GoodIn wsX4_set wsX1_push := goodIn_r _ [21, 22, 23, 24, 25, 26, 27, 28, 29, 30, 31, 32, 33, 34, 35, 36, 37, 38, 39, 40, 41, 42, 43, 59, 60, 61, 49, 50, 51, 52, 53, 54, 55, 56, 57, 58] (by decide +kernel) (by decide +kernel)
set_option maxRecDepth 20000 in
theorem gX4_set_X1_push : GoodIn wsX4_set (wsV RX4 48 RX1 yX1_push wsX1_push) := goodIn_app (goodIn_of _ (by decide +kernel)) ggX4_set_X1_push
theorem dX4_set_0 : decode cX4_set 0 = .ok (.iload_n 1, 1) := by decide +kernel
theorem dX4_set_1 : decode cX4_set 1 = .ok (.invokestatic 79, 3) := by decide +kernel
theorem dX4_set_4 : decode cX4_set 4 = .ok (.iload_n 2, 1) := by decide +kernel
theorem dX4_set_5 : decode cX4_set 5 = .ok (.getstatic 82, 3) := by decide +kernel
theorem dX4_set_8 : decode cX4_set 8 = .ok (.iload_n 1, 1) := by decide +kernel
theorem dX4_set_9 : decode cX4_set 9 = .ok (.iaload, 1) := by decide +kernel
theorem dX4_set_10 : decode cX4_set 10 = .ok (.getstatic 85, 3) := by decide +kernel
theorem dX4_set_13 : decode cX4_set 13 = .ok (.iload_n 1, 1) := by decide +kernel
theorem dX4_set_14 : decode cX4_set 14 = .ok (.iaload, 1) := by decide +kernel
theorem dX4_set_15 : decode cX4_set 15 = .ok (.invokestatic 44, 3) := by decide +kernel
theorem dX4_set_18 : decode cX4_set 18 = .ok (.aload_n 0, 1) := by decide +kernel
theorem dX4_set_19 : decode cX4_set 19 = .ok (.getfield 19, 3) := by decide +kernel
theorem dX4_set_22 : decode cX4_set 22 = .ok (.aload_n 0, 1) := by decide +kernel
theorem dX4_set_23 : decode cX4_set 23 = .ok (.getfield 10, 3) := by decide +kernel
theorem dX4_set_26 : decode cX4_set 26 = .ok (.invokevirtual 48, 3) := by decide +kernel
theorem dX4_set_29 : decode cX4_set 29 = .ok (.aload_n 0, 1) := by decide +kernel
theorem dX4_set_30 : decode cX4_set 30 = .ok (.getfield 10, 3) := by decide +kernel
theorem dX4_set_33 : decode cX4_set 33 = .ok (.getfield 88, 3) := by decide +kernel
theorem dX4_set_36 : decode cX4_set 36 = .ok (.iload_n 1, 1) := by decide +kernel
theorem dX4_set_37 : decode cX4_set 37 = .ok (.iaload, 1) := by decide +kernel
theorem dX4_set_38 : decode cX4_set 38 = .ok (.istore_n 3, 1) := by decide +kernel
theorem dX4_set_39 : decode cX4_set 39 = .ok (.aload_n 0, 1) := by decide +kernel
theorem dX4_set_40 : decode cX4_set 40 = .ok (.getfield 10, 3) := by decide +kernel
theorem dX4_set_43 : decode cX4_set 43 = .ok (.getfield 88, 3) := by decide +kernel
theorem dX4_set_46 : decode cX4_set 46 = .ok (.iload_n 1, 1) := by decide +kernel
theorem dX4_set_47 : decode cX4_set 47 = .ok (.iload_n 2, 1) := by decide +kernel
theorem dX4_set_48 : decode cX4_set 48 = .ok (.iastore, 1) := by decide +kernel
theorem dX4_set_49 : decode cX4_set 49 = .ok (.iload_n 3, 1) := by decide +kernel
theorem dX4_set_50 : decode cX4_set 50 = .ok (.ireturn, 1) := by decide +kernel
set_option maxRecDepth 20000 in
theorem ggX4_number_X4_requireDigit : GoodIn wsX4_number wsX4_requireDigit := goodIn_ca (goodIn_r _ [6, 7, 8] (by decide +kernel) (by decide +kernel)) (goodIn_sub (fun _ h => List.mem_cons_of_mem _ (List.mem_append_left _ (List.mem_append_right _ h))) (by decide +kernel))
set_option maxRecDepth 20000 in
theorem gX4_number_X4_requireDigit : GoodIn wsX4_number (va_wsS RX4 40 yX4_requireDigit wsX4_requireDigit) := goodIn_app (goodIn_of _ (by decide +kernel)) ggX4_number_X4_requireDigit
set_option maxRecDepth 20000 in
theorem ggX4_number_X4_numberLength : GoodIn wsX4_number wsX4_numberLength := goodIn_r _ [11, 12, 13, 14, 5, 15] (by decide +kernel) (by decide +kernel)
set_option maxRecDepth 20000 in
theorem gX4_number_X4_numberLength : GoodIn wsX4_number (va_wsS RX4 91 yX4_numberLength wsX4_numberLength) := goodIn_app (goodIn_of _ (by decide +kernel)) ggX4_number_X4_numberLength
set_option maxRecDepth 20000 in
theorem ggX4_number_X4_requireRange : GoodIn wsX4_number wsX4_requireRange := goodIn_ca (goodIn_r _ [18, 19, 20] (by decide +kernel) (by decide +kernel)) (goodIn_sub (fun _ h => List.mem_cons_of_mem _ (List.mem_append_right _ h)) (by decide +kernel))
set_option maxRecDepth 20000 in
theorem gX4_number_X4_requireRange : GoodIn wsX4_number (va_wsS RX4 44 yX4_requireRange wsX4_requireRange) := goodIn_app (goodIn_of _ (by decide +kernel)) ggX4_number_X4_requireRange
set_option maxRecDepth 20000 in
theorem ggX4_number_X1_push : GoodIn wsX4_number wsX1_push := goodIn_r _ [25, 26, 27, 28, 29, 30, 31, 32, 33, 34, 35, 36, 37, 38, 39, 40, 41, 42, 43, 44, 45, 46, 47, 58, 59, 60, 61, 62, 63, 64, 65, 66, 67, 68, 69, 70] (by decide +kernel) (by decide +kernel)
set_option maxRecDepth 20000 in
theorem gX4_number_X1_push : GoodIn wsX4_number (wsV RX4 48 RX1 yX1_push wsX1_push) := goodIn_app (goodIn_of _ (by decide +kernel)) ggX4_number_X1_push
set_option maxRecDepth 20000 in
theorem ggX4_number_X2_putNumber : GoodIn wsX4_number wsX2_putNumber := goodIn_r _ [51, 34, 52, 14, 5, 15, 61, 62, 63, 64, 65, 66, 67, 68, 69, 70] (by decide +kernel) (by decide +kernel)
set_option maxRecDepth 20000 in
theorem gX4_number_X2_putNumber : GoodIn wsX4_number (wsV RX4 95 RX2 yX2_putNumber wsX2_putNumber) := goodIn_app (goodIn_of _ (by decide +kernel)) ggX4_number_X2_putNumber
theorem dX4_number_0 : decode cX4_number 0 = .ok (.iload_n 1, 1) := by decide +kernel
theorem dX4_number_1 : decode cX4_number 1 = .ok (.invokestatic 40, 3) := by decide +kernel
theorem dX4_number_4 : decode cX4_number 4 = .ok (.iload_n 2, 1) := by decide +kernel
theorem dX4_number_5 : decode cX4_number 5 = .ok (.invokestatic 40, 3) := by decide +kernel
theorem dX4_number_8 : decode cX4_number 8 = .ok (.iload_n 3, 1) := by decide +kernel
theorem dX4_number_9 : decode cX4_number 9 = .ok (.invokestatic 91, 3) := by decide +kernel
theorem dX4_number_12 : decode cX4_number 12 = .ok (.istore 4, 2) := by decide +kernel
theorem dX4_number_14 : decode cX4_number 14 = .ok (.iload 4, 2) := by decide +kernel
theorem dX4_number_16 : decode cX4_number 16 = .ok (.iconst 1, 1) := by decide +kernel
theorem dX4_number_17 : decode cX4_number 17 = .ok (.iload_n 2, 1) := by decide +kernel
theorem dX4_number_18 : decode cX4_number 18 = .ok (.iload_n 1, 1) := by decide +kernel
theorem dX4_number_19 : decode cX4_number 19 = .ok (.isub, 1) := by decide +kernel
theorem dX4_number_20 : decode cX4_number 20 = .ok (.iconst 1, 1) := by decide +kernel
theorem dX4_number_21 : decode cX4_number 21 = .ok (.iadd, 1) := by decide +kernel
theorem dX4_number_22 : decode cX4_number 22 = .ok (.invokestatic 44, 3) := by decide +kernel
theorem dX4_number_25 : decode cX4_number 25 = .ok (.aload_n 0, 1) := by decide +kernel
theorem dX4_number_26 : decode cX4_number 26 = .ok (.getfield 19, 3) := by decide +kernel
theorem dX4_number_29 : decode cX4_number 29 = .ok (.aload_n 0, 1) := by decide +kernel
theorem dX4_number_30 : decode cX4_number 30 = .ok (.getfield 10, 3) := by decide +kernel
theorem dX4_number_33 : decode cX4_number 33 = .ok (.invokevirtual 48, 3) := by decide +kernel
theorem dX4_number_36 : decode cX4_number 36 = .ok (.aload_n 0, 1) := by decide +kernel
theorem dX4_number_37 : decode cX4_number 37 = .ok (.getfield 10, 3) := by decide +kernel
theorem dX4_number_40 : decode cX4_number 40 = .ok (.iload_n 1, 1) := by decide +kernel
theorem dX4_number_41 : decode cX4_number 41 = .ok (.iload_n 2, 1) := by decide +kernel
theorem dX4_number_42 : decode cX4_number 42 = .ok (.iload_n 3, 1) := by decide +kernel
theorem dX4_number_43 : decode cX4_number 43 = .ok (.iload 4, 2) := by decide +kernel
theorem dX4_number_45 : decode cX4_number 45 = .ok (.invokevirtual 95, 3) := by decide +kernel
theorem dX4_number_48 : decode cX4_number 48 = .ok (.iload 4, 2) := by decide +kernel
theorem dX4_number_50 : decode cX4_number 50 = .ok (.ireturn, 1) := by decide +kernel
set_option maxRecDepth 20000 in
theorem ggX4_run_X4_requireRange : GoodIn wsX4_run wsX4_requireRange := goodIn_ca (goodIn_r _ [10, 11, 12] (by decide +kernel) (by decide +kernel)) (goodIn_sub (fun _ h => List.mem_cons_of_mem _ (List.mem_append_right _ h)) (by decide +kernel))
set_option maxRecDepth 20000 in
theorem gX4_run_X4_requireRange : GoodIn wsX4_run (va_wsS RX4 44 yX4_requireRange wsX4_requireRange) := goodIn_app (goodIn_of _ (by decide +kernel)) ggX4_run_X4_requireRange
set_option maxRecDepth 20000 in
theorem ggX4_run_X1_push : GoodIn wsX4_run wsX1_push := goodIn_r _ [17, 18, 19, 20, 21, 22, 23, 24, 25, 26, 27, 28, 29, 30, 31, 32, 33, 34, 35, 36, 37, 38, 39, 73, 74, 75, 63, 64, 65, 66, 67, 68, 69, 70, 71, 72] (by decide +kernel) (by decide +kernel)
set_option maxRecDepth 20000 in
theorem gX4_run_X1_push : GoodIn wsX4_run (wsV RX4 48 RX1 yX1_push wsX1_push) := goodIn_app (goodIn_of _ (by decide +kernel)) ggX4_run_X1_push
set_option maxRecDepth 20000 in
theorem ggX4_run_X2_passSlot : GoodIn wsX4_run wsX2_passSlot := goodIn_r _ [43, 31, 33, 39, 36, 38, 34, 44, 9, 45, 46, 47, 48, 49, 50, 24, 51, 35, 32, 52, 53, 54, 55, 26, 56, 57, 63, 64, 65, 66, 67, 68, 69, 70, 71, 72] (by decide +kernel) (by decide +kernel)
set_option maxRecDepth 20000 in
theorem gX4_run_X2_passSlot : GoodIn wsX4_run (wsV RX4 110 RX2 yX2_passSlot wsX2_passSlot) := goodIn_app (goodIn_of _ (by decide +kernel)) ggX4_run_X2_passSlot
theorem dX4_run_0 : decode cX4_run 0 = .ok (.iload_n 1, 1) := by decide +kernel
theorem dX4_run_1 : decode cX4_run 1 = .ok (.iconst 1, 1) := by decide +kernel
theorem dX4_run_2 : decode cX4_run 2 = .ok (.sipush 500, 3) := by decide +kernel
theorem dX4_run_5 : decode cX4_run 5 = .ok (.invokestatic 44, 3) := by decide +kernel
theorem dX4_run_8 : decode cX4_run 8 = .ok (.aload_n 0, 1) := by decide +kernel
theorem dX4_run_9 : decode cX4_run 9 = .ok (.getfield 10, 3) := by decide +kernel
theorem dX4_run_12 : decode cX4_run 12 = .ok (.getfield 99, 3) := by decide +kernel
theorem dX4_run_15 : decode cX4_run 15 = .ok (.iload_n 1, 1) := by decide +kernel
theorem dX4_run_16 : decode cX4_run 16 = .ok (.iadd, 1) := by decide +kernel
theorem dX4_run_17 : decode cX4_run 17 = .ok (.ldc 102, 2) := by decide +kernel
theorem dX4_run_19 : decode cX4_run 19 = .ok (.if_icmp .le 13, 3) := by decide +kernel
theorem dX4_run_22 : decode cX4_run 22 = .ok (.new 103, 3) := by decide +kernel
theorem dX4_run_25 : decode cX4_run 25 = .ok (.dup, 1) := by decide +kernel
theorem dX4_run_26 : decode cX4_run 26 = .ok (.ldc 105, 2) := by decide +kernel
theorem dX4_run_28 : decode cX4_run 28 = .ok (.invokespecial 107, 3) := by decide +kernel
theorem dX4_run_31 : decode cX4_run 31 = .ok (.athrow, 1) := by decide +kernel
theorem dX4_run_32 : decode cX4_run 32 = .ok (.aload_n 0, 1) := by decide +kernel
theorem dX4_run_33 : decode cX4_run 33 = .ok (.getfield 19, 3) := by decide +kernel
theorem dX4_run_36 : decode cX4_run 36 = .ok (.aload_n 0, 1) := by decide +kernel
theorem dX4_run_37 : decode cX4_run 37 = .ok (.getfield 10, 3) := by decide +kernel
theorem dX4_run_40 : decode cX4_run 40 = .ok (.invokevirtual 48, 3) := by decide +kernel
theorem dX4_run_43 : decode cX4_run 43 = .ok (.iconst 0, 1) := by decide +kernel
theorem dX4_run_44 : decode cX4_run 44 = .ok (.istore_n 2, 1) := by decide +kernel
theorem dX4_run_45 : decode cX4_run 45 = .ok (.iconst 0, 1) := by decide +kernel
theorem dX4_run_46 : decode cX4_run 46 = .ok (.istore_n 3, 1) := by decide +kernel
theorem dX4_run_47 : decode cX4_run 47 = .ok (.iload_n 3, 1) := by decide +kernel
theorem dX4_run_48 : decode cX4_run 48 = .ok (.iload_n 1, 1) := by decide +kernel
theorem dX4_run_49 : decode cX4_run 49 = .ok (.if_icmp .ge 19, 3) := by decide +kernel
theorem dX4_run_52 : decode cX4_run 52 = .ok (.iload_n 2, 1) := by decide +kernel
theorem dX4_run_53 : decode cX4_run 53 = .ok (.aload_n 0, 1) := by decide +kernel
theorem dX4_run_54 : decode cX4_run 54 = .ok (.getfield 10, 3) := by decide +kernel
theorem dX4_run_57 : decode cX4_run 57 = .ok (.invokevirtual 110, 3) := by decide +kernel
theorem dX4_run_60 : decode cX4_run 60 = .ok (.iadd, 1) := by decide +kernel
theorem dX4_run_61 : decode cX4_run 61 = .ok (.istore_n 2, 1) := by decide +kernel
theorem dX4_run_62 : decode cX4_run 62 = .ok (.iinc 3 1, 3) := by decide +kernel
theorem dX4_run_65 : decode cX4_run 65 = .ok (.goto (-18), 3) := by decide +kernel
theorem dX4_run_68 : decode cX4_run 68 = .ok (.iload_n 2, 1) := by decide +kernel
theorem dX4_run_69 : decode cX4_run 69 = .ok (.ireturn, 1) := by decide +kernel
set_option maxRecDepth 20000 in
theorem ggX4_append_X4_requireRange : GoodIn wsX4_append wsX4_requireRange := goodIn_ca (goodIn_r _ [8, 9, 10] (by decide +kernel) (by decide +kernel)) (goodIn_sub (fun _ h => List.mem_cons_of_mem _ (List.mem_append_right _ h)) (by decide +kernel))
set_option maxRecDepth 20000 in
theorem gX4_append_X4_requireRange : GoodIn wsX4_append (va_wsS RX4 44 yX4_requireRange wsX4_requireRange) := goodIn_app (goodIn_of _ (by decide +kernel)) ggX4_append_X4_requireRange
set_option maxRecDepth 20000 in
theorem ggX4_append_X3_put : GoodIn wsX4_append wsX3_put := goodIn_r _ [15, 16, 17, 23, 24, 25, 26, 27, 28] (by decide +kernel) (by decide +kernel)
set_option maxRecDepth 20000 in
theorem gX4_append_X3_put : GoodIn wsX4_append (wsV RX4 114 RX3 yX3_put wsX3_put) := goodIn_app (goodIn_of _ (by decide +kernel)) ggX4_append_X3_put
theorem dX4_append_0 : decode cX4_append 0 = .ok (.iload_n 1, 1) := by decide +kernel
theorem dX4_append_1 : decode cX4_append 1 = .ok (.bipush 33, 2) := by decide +kernel
theorem dX4_append_3 : decode cX4_append 3 = .ok (.bipush 126, 2) := by decide +kernel
theorem dX4_append_5 : decode cX4_append 5 = .ok (.invokestatic 44, 3) := by decide +kernel
theorem dX4_append_8 : decode cX4_append 8 = .ok (.aload_n 0, 1) := by decide +kernel
theorem dX4_append_9 : decode cX4_append 9 = .ok (.getfield 26, 3) := by decide +kernel
theorem dX4_append_12 : decode cX4_append 12 = .ok (.iload_n 1, 1) := by decide +kernel
theorem dX4_append_13 : decode cX4_append 13 = .ok (.invokevirtual 114, 3) := by decide +kernel
theorem dX4_append_16 : decode cX4_append 16 = .ok (.ifCond .ne 13, 3) := by decide +kernel
theorem dX4_append_19 : decode cX4_append 19 = .ok (.new 103, 3) := by decide +kernel
theorem dX4_append_22 : decode cX4_append 22 = .ok (.dup, 1) := by decide +kernel
theorem dX4_append_23 : decode cX4_append 23 = .ok (.ldc 118, 2) := by decide +kernel
theorem dX4_append_25 : decode cX4_append 25 = .ok (.invokespecial 107, 3) := by decide +kernel
theorem dX4_append_28 : decode cX4_append 28 = .ok (.athrow, 1) := by decide +kernel
theorem dX4_append_29 : decode cX4_append 29 = .ok (.aload_n 0, 1) := by decide +kernel
theorem dX4_append_30 : decode cX4_append 30 = .ok (.getfield 26, 3) := by decide +kernel
theorem dX4_append_33 : decode cX4_append 33 = .ok (.getfield 120, 3) := by decide +kernel
theorem dX4_append_36 : decode cX4_append 36 = .ok (.ireturn, 1) := by decide +kernel
theorem dX4_clearBuffer_0 : decode cX4_clearBuffer 0 = .ok (.aload_n 0, 1) := by decide +kernel
theorem dX4_clearBuffer_1 : decode cX4_clearBuffer 1 = .ok (.getfield 26, 3) := by decide +kernel
theorem dX4_clearBuffer_4 : decode cX4_clearBuffer 4 = .ok (.getfield 120, 3) := by decide +kernel
theorem dX4_clearBuffer_7 : decode cX4_clearBuffer 7 = .ok (.istore_n 1, 1) := by decide +kernel
theorem dX4_clearBuffer_8 : decode cX4_clearBuffer 8 = .ok (.aload_n 0, 1) := by decide +kernel
theorem dX4_clearBuffer_9 : decode cX4_clearBuffer 9 = .ok (.getfield 26, 3) := by decide +kernel
theorem dX4_clearBuffer_12 : decode cX4_clearBuffer 12 = .ok (.iconst 0, 1) := by decide +kernel
theorem dX4_clearBuffer_13 : decode cX4_clearBuffer 13 = .ok (.putfield 120, 3) := by decide +kernel
theorem dX4_clearBuffer_16 : decode cX4_clearBuffer 16 = .ok (.iload_n 1, 1) := by decide +kernel
theorem dX4_clearBuffer_17 : decode cX4_clearBuffer 17 = .ok (.ireturn, 1) := by decide +kernel
set_option maxRecDepth 20000 in
theorem ggX4_firstError_X3_scan : GoodIn wsX4_firstError wsX3_scan := goodIn_r _ [6, 7, 8, 9, 10, 11, 12, 13, 5, 14, 15, 16, 17, 18, 19, 20, 21, 22, 23, 24, 25, 26, 27, 28, 29, 30, 31, 37, 38, 39, 40, 41, 42] (by decide +kernel) (by decide +kernel)
set_option maxRecDepth 20000 in
theorem gX4_firstError_X3_scan : GoodIn wsX4_firstError (wsV RX4 123 RX3 yX3_scan wsX3_scan) := goodIn_app (goodIn_of _ (by decide +kernel)) ggX4_firstError_X3_scan
theorem dX4_firstError_0 : decode cX4_firstError 0 = .ok (.aload_n 0, 1) := by decide +kernel
theorem dX4_firstError_1 : decode cX4_firstError 1 = .ok (.getfield 26, 3) := by decide +kernel
theorem dX4_firstError_4 : decode cX4_firstError 4 = .ok (.invokevirtual 123, 3) := by decide +kernel
theorem dX4_firstError_7 : decode cX4_firstError 7 = .ok (.ireturn, 1) := by decide +kernel
set_option maxRecDepth 20000 in
theorem ggX4_read_X3_scan : GoodIn wsX4_read wsX3_scan := goodIn_r _ [16, 17, 18, 19, 20, 21, 22, 23, 15, 24, 25, 26, 27, 28, 29, 30, 31, 32, 33, 34, 35, 36, 37, 38, 39, 40, 41, 86, 87, 88, 89, 90, 91] (by decide +kernel) (by decide +kernel)
set_option maxRecDepth 20000 in
theorem gX4_read_X3_scan : GoodIn wsX4_read (wsV RX4 123 RX3 yX3_scan wsX3_scan) := goodIn_app (goodIn_of _ (by decide +kernel)) ggX4_read_X3_scan
set_option maxRecDepth 20000 in
theorem ggX4_read_X3_isWhole : GoodIn wsX4_read wsX3_isWhole := goodIn_r _ [45, 18, 86, 87, 88, 89, 90, 91] (by decide +kernel) (by decide +kernel)
set_option maxRecDepth 20000 in
theorem gX4_read_X3_isWhole : GoodIn wsX4_read (wsV RX4 126 RX3 yX3_isWhole wsX3_isWhole) := goodIn_app (goodIn_of _ (by decide +kernel)) ggX4_read_X3_isWhole
set_option maxRecDepth 20000 in
theorem ggX4_read_X1_push : GoodIn wsX4_read wsX1_push := goodIn_r _ [50, 51, 52, 53, 54, 55, 56, 57, 58, 59, 60, 61, 62, 63, 64, 65, 66, 67, 68, 69, 70, 71, 72, 102, 103, 104, 92, 93, 94, 95, 96, 97, 98, 99, 100, 101] (by decide +kernel) (by decide +kernel)
set_option maxRecDepth 20000 in
theorem gX4_read_X1_push : GoodIn wsX4_read (wsV RX4 48 RX1 yX1_push wsX1_push) := goodIn_app (goodIn_of _ (by decide +kernel)) ggX4_read_X1_push
set_option maxRecDepth 20000 in
theorem ggX4_read_X2_clearCredits : GoodIn wsX4_read wsX2_clearCredits := goodIn_r _ [76, 66, 77, 78, 79, 80, 92, 93, 94, 95, 96, 97, 98, 99, 100, 101] (by decide +kernel) (by decide +kernel)
set_option maxRecDepth 20000 in
theorem gX4_read_X2_clearCredits : GoodIn wsX4_read (wsV RX4 59 RX2 yX2_clearCredits wsX2_clearCredits) := goodIn_app (goodIn_of _ (by decide +kernel)) ggX4_read_X2_clearCredits
theorem dX4_read_0 : decode cX4_read 0 = .ok (.aload_n 0, 1) := by decide +kernel
theorem dX4_read_1 : decode cX4_read 1 = .ok (.getfield 26, 3) := by decide +kernel
theorem dX4_read_4 : decode cX4_read 4 = .ok (.invokevirtual 123, 3) := by decide +kernel
theorem dX4_read_7 : decode cX4_read 7 = .ok (.aload_n 0, 1) := by decide +kernel
theorem dX4_read_8 : decode cX4_read 8 = .ok (.getfield 26, 3) := by decide +kernel
theorem dX4_read_11 : decode cX4_read 11 = .ok (.getfield 120, 3) := by decide +kernel
theorem dX4_read_14 : decode cX4_read 14 = .ok (.if_icmp .lt 13, 3) := by decide +kernel
theorem dX4_read_17 : decode cX4_read 17 = .ok (.aload_n 0, 1) := by decide +kernel
theorem dX4_read_18 : decode cX4_read 18 = .ok (.getfield 26, 3) := by decide +kernel
theorem dX4_read_21 : decode cX4_read 21 = .ok (.invokevirtual 126, 3) := by decide +kernel
theorem dX4_read_24 : decode cX4_read 24 = .ok (.ifCond .ne 13, 3) := by decide +kernel
theorem dX4_read_27 : decode cX4_read 27 = .ok (.new 130, 3) := by decide +kernel
theorem dX4_read_30 : decode cX4_read 30 = .ok (.dup, 1) := by decide +kernel
theorem dX4_read_31 : decode cX4_read 31 = .ok (.ldc 132, 2) := by decide +kernel
theorem dX4_read_33 : decode cX4_read 33 = .ok (.invokespecial 134, 3) := by decide +kernel
theorem dX4_read_36 : decode cX4_read 36 = .ok (.athrow, 1) := by decide +kernel
theorem dX4_read_37 : decode cX4_read 37 = .ok (.aload_n 0, 1) := by decide +kernel
theorem dX4_read_38 : decode cX4_read 38 = .ok (.getfield 19, 3) := by decide +kernel
theorem dX4_read_41 : decode cX4_read 41 = .ok (.aload_n 0, 1) := by decide +kernel
theorem dX4_read_42 : decode cX4_read 42 = .ok (.getfield 10, 3) := by decide +kernel
theorem dX4_read_45 : decode cX4_read 45 = .ok (.invokevirtual 48, 3) := by decide +kernel
theorem dX4_read_48 : decode cX4_read 48 = .ok (.iconst 0, 1) := by decide +kernel
theorem dX4_read_49 : decode cX4_read 49 = .ok (.istore_n 1, 1) := by decide +kernel
theorem dX4_read_50 : decode cX4_read 50 = .ok (.iconst 0, 1) := by decide +kernel
theorem dX4_read_51 : decode cX4_read 51 = .ok (.istore_n 2, 1) := by decide +kernel
theorem dX4_read_52 : decode cX4_read 52 = .ok (.iload_n 2, 1) := by decide +kernel
theorem dX4_read_53 : decode cX4_read 53 = .ok (.bipush 6, 2) := by decide +kernel
theorem dX4_read_55 : decode cX4_read 55 = .ok (.if_icmp .ge 71, 3) := by decide +kernel
theorem dX4_read_58 : decode cX4_read 58 = .ok (.iload_n 2, 1) := by decide +kernel
theorem dX4_read_59 : decode cX4_read 59 = .ok (.aload_n 0, 1) := by decide +kernel
theorem dX4_read_60 : decode cX4_read 60 = .ok (.getfield 26, 3) := by decide +kernel
theorem dX4_read_63 : decode cX4_read 63 = .ok (.getfield 135, 3) := by decide +kernel
theorem dX4_read_66 : decode cX4_read 66 = .ok (.if_icmp .ge 60, 3) := by decide +kernel
theorem dX4_read_69 : decode cX4_read 69 = .ok (.aload_n 0, 1) := by decide +kernel
theorem dX4_read_70 : decode cX4_read 70 = .ok (.getfield 10, 3) := by decide +kernel
theorem dX4_read_73 : decode cX4_read 73 = .ok (.getfield 52, 3) := by decide +kernel
theorem dX4_read_76 : decode cX4_read 76 = .ok (.iload_n 2, 1) := by decide +kernel
theorem dX4_read_77 : decode cX4_read 77 = .ok (.aload_n 0, 1) := by decide +kernel
theorem dX4_read_78 : decode cX4_read 78 = .ok (.getfield 26, 3) := by decide +kernel
theorem dX4_read_81 : decode cX4_read 81 = .ok (.getfield 138, 3) := by decide +kernel
theorem dX4_read_84 : decode cX4_read 84 = .ok (.iload_n 2, 1) := by decide +kernel
theorem dX4_read_85 : decode cX4_read 85 = .ok (.iaload, 1) := by decide +kernel
theorem dX4_read_86 : decode cX4_read 86 = .ok (.iastore, 1) := by decide +kernel
theorem dX4_read_87 : decode cX4_read 87 = .ok (.aload_n 0, 1) := by decide +kernel
theorem dX4_read_88 : decode cX4_read 88 = .ok (.getfield 26, 3) := by decide +kernel
theorem dX4_read_91 : decode cX4_read 91 = .ok (.getfield 139, 3) := by decide +kernel
theorem dX4_read_94 : decode cX4_read 94 = .ok (.iload_n 2, 1) := by decide +kernel
theorem dX4_read_95 : decode cX4_read 95 = .ok (.iaload, 1) := by decide +kernel
theorem dX4_read_96 : decode cX4_read 96 = .ok (.iconst (-1), 1) := by decide +kernel
theorem dX4_read_97 : decode cX4_read 97 = .ok (.if_icmp .eq 23, 3) := by decide +kernel
theorem dX4_read_100 : decode cX4_read 100 = .ok (.aload_n 0, 1) := by decide +kernel
theorem dX4_read_101 : decode cX4_read 101 = .ok (.getfield 10, 3) := by decide +kernel
theorem dX4_read_104 : decode cX4_read 104 = .ok (.getfield 56, 3) := by decide +kernel
theorem dX4_read_107 : decode cX4_read 107 = .ok (.iload_n 2, 1) := by decide +kernel
theorem dX4_read_108 : decode cX4_read 108 = .ok (.aload_n 0, 1) := by decide +kernel
theorem dX4_read_109 : decode cX4_read 109 = .ok (.getfield 26, 3) := by decide +kernel
theorem dX4_read_112 : decode cX4_read 112 = .ok (.getfield 139, 3) := by decide +kernel
theorem dX4_read_115 : decode cX4_read 115 = .ok (.iload_n 2, 1) := by decide +kernel
theorem dX4_read_116 : decode cX4_read 116 = .ok (.iaload, 1) := by decide +kernel
theorem dX4_read_117 : decode cX4_read 117 = .ok (.iastore, 1) := by decide +kernel
theorem dX4_read_118 : decode cX4_read 118 = .ok (.iconst 1, 1) := by decide +kernel
theorem dX4_read_119 : decode cX4_read 119 = .ok (.istore_n 1, 1) := by decide +kernel
theorem dX4_read_120 : decode cX4_read 120 = .ok (.iinc 2 1, 3) := by decide +kernel
theorem dX4_read_123 : decode cX4_read 123 = .ok (.goto (-71), 3) := by decide +kernel
theorem dX4_read_126 : decode cX4_read 126 = .ok (.iload_n 1, 1) := by decide +kernel
theorem dX4_read_127 : decode cX4_read 127 = .ok (.ifCond .eq 10, 3) := by decide +kernel
theorem dX4_read_130 : decode cX4_read 130 = .ok (.aload_n 0, 1) := by decide +kernel
theorem dX4_read_131 : decode cX4_read 131 = .ok (.getfield 10, 3) := by decide +kernel
theorem dX4_read_134 : decode cX4_read 134 = .ok (.invokevirtual 59, 3) := by decide +kernel
theorem dX4_read_137 : decode cX4_read 137 = .ok (.aload_n 0, 1) := by decide +kernel
theorem dX4_read_138 : decode cX4_read 138 = .ok (.getfield 26, 3) := by decide +kernel
theorem dX4_read_141 : decode cX4_read 141 = .ok (.iconst 0, 1) := by decide +kernel
theorem dX4_read_142 : decode cX4_read 142 = .ok (.putfield 120, 3) := by decide +kernel
theorem dX4_read_145 : decode cX4_read 145 = .ok (.aload_n 0, 1) := by decide +kernel
theorem dX4_read_146 : decode cX4_read 146 = .ok (.getfield 26, 3) := by decide +kernel
theorem dX4_read_149 : decode cX4_read 149 = .ok (.getfield 135, 3) := by decide +kernel
theorem dX4_read_152 : decode cX4_read 152 = .ok (.ireturn, 1) := by decide +kernel
set_option maxRecDepth 20000 in
theorem ggX4_undo_X1_pop : GoodIn wsX4_undo wsX1_pop := goodIn_r _ [10, 11, 12, 13, 14, 15, 16, 17, 18, 19, 20, 21, 22, 23, 24, 25, 26, 27, 28, 29, 30, 31, 32, 38, 39, 40, 41, 42, 43, 44, 45, 46, 47, 48, 49, 50] (by decide +kernel) (by decide +kernel)
set_option maxRecDepth 20000 in
theorem gX4_undo_X1_pop : GoodIn wsX4_undo (wsV RX4 145 RX1 yX1_pop wsX1_pop) := goodIn_app (goodIn_of _ (by decide +kernel)) ggX4_undo_X1_pop
theorem dX4_undo_0 : decode cX4_undo 0 = .ok (.aload_n 0, 1) := by decide +kernel
theorem dX4_undo_1 : decode cX4_undo 1 = .ok (.getfield 19, 3) := by decide +kernel
theorem dX4_undo_4 : decode cX4_undo 4 = .ok (.getfield 140, 3) := by decide +kernel
theorem dX4_undo_7 : decode cX4_undo 7 = .ok (.ifCond .ne 13, 3) := by decide +kernel
theorem dX4_undo_10 : decode cX4_undo 10 = .ok (.new 103, 3) := by decide +kernel
theorem dX4_undo_13 : decode cX4_undo 13 = .ok (.dup, 1) := by decide +kernel
theorem dX4_undo_14 : decode cX4_undo 14 = .ok (.ldc 143, 2) := by decide +kernel
theorem dX4_undo_16 : decode cX4_undo 16 = .ok (.invokespecial 107, 3) := by decide +kernel
theorem dX4_undo_19 : decode cX4_undo 19 = .ok (.athrow, 1) := by decide +kernel
theorem dX4_undo_20 : decode cX4_undo 20 = .ok (.aload_n 0, 1) := by decide +kernel
theorem dX4_undo_21 : decode cX4_undo 21 = .ok (.getfield 19, 3) := by decide +kernel
theorem dX4_undo_24 : decode cX4_undo 24 = .ok (.aload_n 0, 1) := by decide +kernel
theorem dX4_undo_25 : decode cX4_undo 25 = .ok (.getfield 10, 3) := by decide +kernel
theorem dX4_undo_28 : decode cX4_undo 28 = .ok (.invokevirtual 145, 3) := by decide +kernel
theorem dX4_undo_31 : decode cX4_undo 31 = .ok (.aload_n 0, 1) := by decide +kernel
theorem dX4_undo_32 : decode cX4_undo 32 = .ok (.getfield 19, 3) := by decide +kernel
theorem dX4_undo_35 : decode cX4_undo 35 = .ok (.getfield 140, 3) := by decide +kernel
theorem dX4_undo_38 : decode cX4_undo 38 = .ok (.ireturn, 1) := by decide +kernel
set_option maxRecDepth 20000 in
theorem ggX4_digit_X4_requireDigit : GoodIn wsX4_digit wsX4_requireDigit := goodIn_ca (goodIn_r _ [6, 7, 8] (by decide +kernel) (by decide +kernel)) (goodIn_sub (fun _ h => List.mem_cons_of_mem _ (List.mem_append_left _ (List.mem_append_right _ h))) (by decide +kernel))
set_option maxRecDepth 20000 in
theorem gX4_digit_X4_requireDigit : GoodIn wsX4_digit (va_wsS RX4 40 yX4_requireDigit wsX4_requireDigit) := goodIn_app (goodIn_of _ (by decide +kernel)) ggX4_digit_X4_requireDigit
set_option maxRecDepth 20000 in
theorem ggX4_digit_X4_requireRange : GoodIn wsX4_digit wsX4_requireRange := goodIn_ca (goodIn_r _ [11, 12, 13] (by decide +kernel) (by decide +kernel)) (goodIn_sub (fun _ h => List.mem_cons_of_mem _ (List.mem_append_right _ h)) (by decide +kernel))
set_option maxRecDepth 20000 in
theorem gX4_digit_X4_requireRange : GoodIn wsX4_digit (va_wsS RX4 44 yX4_requireRange wsX4_requireRange) := goodIn_app (goodIn_of _ (by decide +kernel)) ggX4_digit_X4_requireRange
set_option maxRecDepth 20000 in
theorem ggX4_digit_X0_foresee : GoodIn wsX4_digit wsX0_foresee := goodIn_r _ [18, 19, 20, 21, 22, 23, 24, 25, 26, 27, 28, 29, 17, 30, 31, 32, 33, 34, 35, 36, 37, 38, 39, 40, 41, 42, 43, 44, 45, 46, 5, 47, 48, 49, 50, 51, 52, 53, 54, 55, 56, 57, 110, 111, 112, 113, 114, 115, 116, 117, 118, 119, 120, 121, 122, 123, 124, 125, 126, 127, 128, 129] (by decide +kernel) (by decide +kernel)
set_option maxRecDepth 20000 in
theorem gX4_digit_X0_foresee : GoodIn wsX4_digit (wsV RX4 148 RX0 yX0_foresee wsX0_foresee) := goodIn_app (goodIn_of _ (by decide +kernel)) ggX4_digit_X0_foresee
set_option maxRecDepth 20000 in
theorem ggX4_digit_X4_property : GoodIn wsX4_digit wsX4_property := goodIn_r _ [61, 2, 62, 63, 64, 65, 1, 66, 67, 68, 69, 70, 71, 72, 73, 74, 75, 76, 77, 17, 78, 32, 37, 79, 80, 81, 82, 36, 33, 83, 84, 85, 86, 35, 87, 88, 89, 90, 91, 5, 92, 93, 94, 95, 96, 97, 98, 99, 100, 101, 102, 103, 104, 105, 106, 107, 108, 109, 110, 111, 112, 113, 114, 115, 116, 117, 118, 119, 120, 121, 122, 123, 124, 125, 126, 127, 128, 129] (by decide +kernel) (by decide +kernel)
set_option maxRecDepth 20000 in
theorem gX4_digit_X4_property : GoodIn wsX4_digit (wsV RX4 151 RX4 yX4_property wsX4_property) := goodIn_app (goodIn_of _ (by decide +kernel)) ggX4_digit_X4_property
theorem dX4_digit_0 : decode cX4_digit 0 = .ok (.iload_n 1, 1) := by decide +kernel
theorem dX4_digit_1 : decode cX4_digit 1 = .ok (.invokestatic 40, 3) := by decide +kernel
theorem dX4_digit_4 : decode cX4_digit 4 = .ok (.iload_n 2, 1) := by decide +kernel
theorem dX4_digit_5 : decode cX4_digit 5 = .ok (.iconst 0, 1) := by decide +kernel
theorem dX4_digit_6 : decode cX4_digit 6 = .ok (.bipush 11, 2) := by decide +kernel
theorem dX4_digit_8 : decode cX4_digit 8 = .ok (.invokestatic 44, 3) := by decide +kernel
theorem dX4_digit_11 : decode cX4_digit 11 = .ok (.aload_n 0, 1) := by decide +kernel
theorem dX4_digit_12 : decode cX4_digit 12 = .ok (.getfield 33, 3) := by decide +kernel
theorem dX4_digit_15 : decode cX4_digit 15 = .ok (.aload_n 0, 1) := by decide +kernel
theorem dX4_digit_16 : decode cX4_digit 16 = .ok (.getfield 10, 3) := by decide +kernel
theorem dX4_digit_19 : decode cX4_digit 19 = .ok (.invokevirtual 148, 3) := by decide +kernel
theorem dX4_digit_22 : decode cX4_digit 22 = .ok (.aload_n 0, 1) := by decide +kernel
theorem dX4_digit_23 : decode cX4_digit 23 = .ok (.iload_n 1, 1) := by decide +kernel
theorem dX4_digit_24 : decode cX4_digit 24 = .ok (.iload_n 2, 1) := by decide +kernel
theorem dX4_digit_25 : decode cX4_digit 25 = .ok (.invokevirtual 151, 3) := by decide +kernel
theorem dX4_digit_28 : decode cX4_digit 28 = .ok (.ireturn, 1) := by decide +kernel
set_option maxRecDepth 20000 in
theorem ggX4_wear_X4_requireDigit : GoodIn wsX4_wear wsX4_requireDigit := goodIn_ca (goodIn_r _ [6, 7, 8] (by decide +kernel) (by decide +kernel)) (goodIn_sub (fun _ h => List.mem_cons_of_mem _ (List.mem_append_right _ h)) (by decide +kernel))
set_option maxRecDepth 20000 in
theorem gX4_wear_X4_requireDigit : GoodIn wsX4_wear (va_wsS RX4 40 yX4_requireDigit wsX4_requireDigit) := goodIn_app (goodIn_of _ (by decide +kernel)) ggX4_wear_X4_requireDigit
set_option maxRecDepth 20000 in
theorem ggX4_wear_X4_requireSegment : GoodIn wsX4_wear wsX4_requireSegment := goodIn_ca (goodIn_r _ [11, 7, 8] (by decide +kernel) (by decide +kernel)) (goodIn_sub (fun _ h => List.mem_cons_of_mem _ (List.mem_append_right _ h)) (by decide +kernel))
set_option maxRecDepth 20000 in
theorem gX4_wear_X4_requireSegment : GoodIn wsX4_wear (va_wsS RX4 62 yX4_requireSegment wsX4_requireSegment) := goodIn_app (goodIn_of _ (by decide +kernel)) ggX4_wear_X4_requireSegment
set_option maxRecDepth 20000 in
theorem ggX4_wear_X4_wearPlace : GoodIn wsX4_wear wsX4_wearPlace := goodIn_r _ [14] (by decide +kernel) (by decide +kernel)
set_option maxRecDepth 20000 in
theorem gX4_wear_X4_wearPlace : GoodIn wsX4_wear (va_wsS RX4 71 yX4_wearPlace wsX4_wearPlace) := goodIn_app (goodIn_of _ (by decide +kernel)) ggX4_wear_X4_wearPlace
theorem dX4_wear_0 : decode cX4_wear 0 = .ok (.iload_n 1, 1) := by decide +kernel
theorem dX4_wear_1 : decode cX4_wear 1 = .ok (.invokestatic 40, 3) := by decide +kernel
theorem dX4_wear_4 : decode cX4_wear 4 = .ok (.iload_n 2, 1) := by decide +kernel
theorem dX4_wear_5 : decode cX4_wear 5 = .ok (.invokestatic 62, 3) := by decide +kernel
theorem dX4_wear_8 : decode cX4_wear 8 = .ok (.aload_n 0, 1) := by decide +kernel
theorem dX4_wear_9 : decode cX4_wear 9 = .ok (.getfield 10, 3) := by decide +kernel
theorem dX4_wear_12 : decode cX4_wear 12 = .ok (.getfield 68, 3) := by decide +kernel
theorem dX4_wear_15 : decode cX4_wear 15 = .ok (.iload_n 1, 1) := by decide +kernel
theorem dX4_wear_16 : decode cX4_wear 16 = .ok (.iload_n 2, 1) := by decide +kernel
theorem dX4_wear_17 : decode cX4_wear 17 = .ok (.invokestatic 71, 3) := by decide +kernel
theorem dX4_wear_20 : decode cX4_wear 20 = .ok (.iaload, 1) := by decide +kernel
theorem dX4_wear_21 : decode cX4_wear 21 = .ok (.ireturn, 1) := by decide +kernel
set_option maxRecDepth 20000 in
theorem ggX4_slot_X4_requireRange : GoodIn wsX4_slot wsX4_requireRange := goodIn_ca (goodIn_r _ [9, 10, 11] (by decide +kernel) (by decide +kernel)) (goodIn_sub (fun _ h => List.mem_cons_of_mem _ (List.mem_append_right _ h)) (by decide +kernel))
set_option maxRecDepth 20000 in
theorem gX4_slot_X4_requireRange : GoodIn wsX4_slot (va_wsS RX4 44 yX4_requireRange wsX4_requireRange) := goodIn_app (goodIn_of _ (by decide +kernel)) ggX4_slot_X4_requireRange
set_option maxRecDepth 20000 in
theorem ggX4_slot_X0_foresee : GoodIn wsX4_slot wsX0_foresee := goodIn_r _ [16, 17, 18, 19, 20, 21, 22, 23, 24, 25, 26, 27, 15, 28, 29, 30, 31, 32, 33, 34, 35, 36, 37, 38, 39, 40, 41, 42, 43, 44, 8, 45, 46, 47, 48, 49, 50, 51, 52, 53, 54, 55, 61, 62, 63, 64, 65, 66, 67, 68, 69, 70, 71, 72, 73, 74, 75, 76, 77, 78, 79, 80] (by decide +kernel) (by decide +kernel)
set_option maxRecDepth 20000 in
theorem gX4_slot_X0_foresee : GoodIn wsX4_slot (wsV RX4 148 RX0 yX0_foresee wsX0_foresee) := goodIn_app (goodIn_of _ (by decide +kernel)) ggX4_slot_X0_foresee
theorem dX4_slot_0 : decode cX4_slot 0 = .ok (.iload_n 1, 1) := by decide +kernel
theorem dX4_slot_1 : decode cX4_slot 1 = .ok (.iconst 0, 1) := by decide +kernel
theorem dX4_slot_2 : decode cX4_slot 2 = .ok (.aload_n 0, 1) := by decide +kernel
theorem dX4_slot_3 : decode cX4_slot 3 = .ok (.getfield 10, 3) := by decide +kernel
theorem dX4_slot_6 : decode cX4_slot 6 = .ok (.getfield 88, 3) := by decide +kernel
theorem dX4_slot_9 : decode cX4_slot 9 = .ok (.iconst 0, 1) := by decide +kernel
theorem dX4_slot_10 : decode cX4_slot 10 = .ok (.iaload, 1) := by decide +kernel
theorem dX4_slot_11 : decode cX4_slot 11 = .ok (.iconst 1, 1) := by decide +kernel
theorem dX4_slot_12 : decode cX4_slot 12 = .ok (.isub, 1) := by decide +kernel
theorem dX4_slot_13 : decode cX4_slot 13 = .ok (.invokestatic 44, 3) := by decide +kernel
theorem dX4_slot_16 : decode cX4_slot 16 = .ok (.aload_n 0, 1) := by decide +kernel
theorem dX4_slot_17 : decode cX4_slot 17 = .ok (.getfield 33, 3) := by decide +kernel
theorem dX4_slot_20 : decode cX4_slot 20 = .ok (.aload_n 0, 1) := by decide +kernel
theorem dX4_slot_21 : decode cX4_slot 21 = .ok (.getfield 10, 3) := by decide +kernel
theorem dX4_slot_24 : decode cX4_slot 24 = .ok (.invokevirtual 148, 3) := by decide +kernel
theorem dX4_slot_27 : decode cX4_slot 27 = .ok (.iload_n 2, 1) := by decide +kernel
theorem dX4_slot_28 : decode cX4_slot 28 = .ok (.ifCond .eq 15, 3) := by decide +kernel
theorem dX4_slot_31 : decode cX4_slot 31 = .ok (.aload_n 0, 1) := by decide +kernel
theorem dX4_slot_32 : decode cX4_slot 32 = .ok (.getfield 33, 3) := by decide +kernel
theorem dX4_slot_35 : decode cX4_slot 35 = .ok (.getfield 154, 3) := by decide +kernel
theorem dX4_slot_38 : decode cX4_slot 38 = .ok (.iload_n 1, 1) := by decide +kernel
theorem dX4_slot_39 : decode cX4_slot 39 = .ok (.iaload, 1) := by decide +kernel
theorem dX4_slot_40 : decode cX4_slot 40 = .ok (.goto 12, 3) := by decide +kernel
theorem dX4_slot_43 : decode cX4_slot 43 = .ok (.aload_n 0, 1) := by decide +kernel
theorem dX4_slot_44 : decode cX4_slot 44 = .ok (.getfield 33, 3) := by decide +kernel
theorem dX4_slot_47 : decode cX4_slot 47 = .ok (.getfield 157, 3) := by decide +kernel
theorem dX4_slot_50 : decode cX4_slot 50 = .ok (.iload_n 1, 1) := by decide +kernel
theorem dX4_slot_51 : decode cX4_slot 51 = .ok (.iaload, 1) := by decide +kernel
theorem dX4_slot_52 : decode cX4_slot 52 = .ok (.ireturn, 1) := by decide +kernel
set_option maxRecDepth 20000 in
theorem ggX4_count_X4_requireRange : GoodIn wsX4_count wsX4_requireRange := goodIn_ca (goodIn_r _ [6, 7, 8] (by decide +kernel) (by decide +kernel)) (goodIn_sub (fun _ h => List.mem_cons_of_mem _ (List.mem_append_right _ h)) (by decide +kernel))
set_option maxRecDepth 20000 in
theorem gX4_count_X4_requireRange : GoodIn wsX4_count (va_wsS RX4 44 yX4_requireRange wsX4_requireRange) := goodIn_app (goodIn_of _ (by decide +kernel)) ggX4_count_X4_requireRange
set_option maxRecDepth 20000 in
theorem ggX4_count_X0_foresee : GoodIn wsX4_count wsX0_foresee := goodIn_r _ [13, 14, 15, 16, 17, 18, 19, 20, 21, 22, 23, 24, 12, 25, 26, 27, 28, 29, 30, 31, 32, 33, 34, 35, 36, 37, 38, 39, 40, 41, 5, 42, 43, 44, 45, 46, 47, 48, 49, 50, 51, 52, 132, 133, 134, 135, 136, 137, 138, 139, 140, 141, 142, 143, 144, 145, 146, 147, 148, 149, 150, 151] (by decide +kernel) (by decide +kernel)
set_option maxRecDepth 20000 in
theorem gX4_count_X0_foresee : GoodIn wsX4_count (wsV RX4 148 RX0 yX0_foresee wsX0_foresee) := goodIn_app (goodIn_of _ (by decide +kernel)) ggX4_count_X0_foresee
set_option maxRecDepth 20000 in
theorem ggX4_count_X4_total : GoodIn wsX4_count wsX4_total := goodIn_r _ [56, 2, 57, 1, 58, 59, 60, 61, 62, 63, 64, 65, 66, 67, 68, 69, 70, 12, 71, 27, 36, 72, 73, 74, 75, 35, 76, 77, 78, 79, 80, 81, 82, 83, 32, 31, 28, 84, 85, 86, 87, 88, 89, 90, 91, 30, 92, 93, 94, 95, 96, 97, 98, 5, 99, 100, 101, 102, 103, 104, 105, 106, 107, 108, 109, 110, 111, 112, 113, 114, 115, 116, 117, 118, 119, 120, 121, 122, 123, 124, 125, 126, 127, 128, 129, 130, 131, 132, 133, 134, 135, 136, 137, 138, 139, 140, 141, 152, 153, 154, 142, 143, 144, 145, 146, 147, 148, 149, 150, 151] (by decide +kernel) (by decide +kernel)
set_option maxRecDepth 20000 in
theorem gX4_count_X4_total : GoodIn wsX4_count (wsV RX4 160 RX4 yX4_total wsX4_total) := goodIn_app (goodIn_of _ (by decide +kernel)) ggX4_count_X4_total
theorem dX4_count_0 : decode cX4_count 0 = .ok (.iload_n 1, 1) := by decide +kernel
theorem dX4_count_1 : decode cX4_count 1 = .ok (.iconst 0, 1) := by decide +kernel
theorem dX4_count_2 : decode cX4_count 2 = .ok (.bipush 10, 2) := by decide +kernel
theorem dX4_count_4 : decode cX4_count 4 = .ok (.invokestatic 44, 3) := by decide +kernel
theorem dX4_count_7 : decode cX4_count 7 = .ok (.aload_n 0, 1) := by decide +kernel
theorem dX4_count_8 : decode cX4_count 8 = .ok (.getfield 33, 3) := by decide +kernel
theorem dX4_count_11 : decode cX4_count 11 = .ok (.aload_n 0, 1) := by decide +kernel
theorem dX4_count_12 : decode cX4_count 12 = .ok (.getfield 10, 3) := by decide +kernel
theorem dX4_count_15 : decode cX4_count 15 = .ok (.invokevirtual 148, 3) := by decide +kernel
theorem dX4_count_18 : decode cX4_count 18 = .ok (.aload_n 0, 1) := by decide +kernel
theorem dX4_count_19 : decode cX4_count 19 = .ok (.iload_n 1, 1) := by decide +kernel
theorem dX4_count_20 : decode cX4_count 20 = .ok (.invokevirtual 160, 3) := by decide +kernel
theorem dX4_count_23 : decode cX4_count 23 = .ok (.ireturn, 1) := by decide +kernel
set_option maxRecDepth 20000 in
theorem ggX4_setting_X4_requireSetting : GoodIn wsX4_setting wsX4_requireSetting := goodIn_ca (goodIn_r _ [6, 7, 8] (by decide +kernel) (by decide +kernel)) (goodIn_sub (fun _ h => List.mem_cons_of_mem _ (List.mem_append_right _ h)) (by decide +kernel))
set_option maxRecDepth 20000 in
theorem gX4_setting_X4_requireSetting : GoodIn wsX4_setting (va_wsS RX4 79 yX4_requireSetting wsX4_requireSetting) := goodIn_app (goodIn_of _ (by decide +kernel)) ggX4_setting_X4_requireSetting
theorem dX4_setting_0 : decode cX4_setting 0 = .ok (.iload_n 1, 1) := by decide +kernel
theorem dX4_setting_1 : decode cX4_setting 1 = .ok (.invokestatic 79, 3) := by decide +kernel
theorem dX4_setting_4 : decode cX4_setting 4 = .ok (.aload_n 0, 1) := by decide +kernel
theorem dX4_setting_5 : decode cX4_setting 5 = .ok (.getfield 10, 3) := by decide +kernel
theorem dX4_setting_8 : decode cX4_setting 8 = .ok (.getfield 88, 3) := by decide +kernel
theorem dX4_setting_11 : decode cX4_setting 11 = .ok (.iload_n 1, 1) := by decide +kernel
theorem dX4_setting_12 : decode cX4_setting 12 = .ok (.iaload, 1) := by decide +kernel
theorem dX4_setting_13 : decode cX4_setting 13 = .ok (.ireturn, 1) := by decide +kernel
set_option maxRecDepth 20000 in
theorem ggX4_ifLevel_X4_requireDigit : GoodIn wsX4_ifLevel wsX4_requireDigit := goodIn_ca (goodIn_r _ [6, 7, 8] (by decide +kernel) (by decide +kernel)) (goodIn_sub (fun _ h => List.mem_cons_of_mem _ (List.mem_append_left _ (List.mem_append_right _ h))) (by decide +kernel))
set_option maxRecDepth 20000 in
theorem gX4_ifLevel_X4_requireDigit : GoodIn wsX4_ifLevel (va_wsS RX4 40 yX4_requireDigit wsX4_requireDigit) := goodIn_app (goodIn_of _ (by decide +kernel)) ggX4_ifLevel_X4_requireDigit
set_option maxRecDepth 20000 in
theorem ggX4_ifLevel_X4_requireRange : GoodIn wsX4_ifLevel wsX4_requireRange := goodIn_ca (goodIn_r _ [11, 12, 13] (by decide +kernel) (by decide +kernel)) (goodIn_sub (fun _ h => List.mem_cons_of_mem _ (List.mem_append_right _ h)) (by decide +kernel))
set_option maxRecDepth 20000 in
theorem gX4_ifLevel_X4_requireRange : GoodIn wsX4_ifLevel (va_wsS RX4 44 yX4_requireRange wsX4_requireRange) := goodIn_app (goodIn_of _ (by decide +kernel)) ggX4_ifLevel_X4_requireRange
set_option maxRecDepth 20000 in
theorem ggX4_ifLevel_X0_foreseeLevel : GoodIn wsX4_ifLevel wsX0_foreseeLevel := goodIn_r _ [18, 19, 20, 21, 22, 23, 24, 25, 26, 27, 28, 29, 30, 31, 32, 17, 33, 34, 35, 36, 37, 38, 39, 40, 41, 42, 43, 44, 45, 5, 46, 47, 48, 49, 50, 51, 52, 53, 54, 55, 56, 87, 88, 89, 90, 91, 92, 93, 94, 95, 96, 97, 98, 99, 100, 101, 102, 103, 104, 105, 106] (by decide +kernel) (by decide +kernel)
set_option maxRecDepth 20000 in
theorem gX4_ifLevel_X0_foreseeLevel : GoodIn wsX4_ifLevel (wsV RX4 163 RX0 yX0_foreseeLevel wsX0_foreseeLevel) := goodIn_app (goodIn_of _ (by decide +kernel)) ggX4_ifLevel_X0_foreseeLevel
set_option maxRecDepth 20000 in
theorem ggX4_ifLevel_X4_trialNumber : GoodIn wsX4_ifLevel wsX4_trialNumber := goodIn_r _ [60, 1, 61, 62, 63, 17, 64, 35, 40, 65, 66, 67, 68, 69, 70, 71, 72, 38, 73, 74, 75, 76, 77, 39, 36, 78, 79, 80, 81, 82, 83, 84, 85, 86, 97, 98, 99, 100, 101, 102, 103, 104, 105, 106] (by decide +kernel) (by decide +kernel)
set_option maxRecDepth 20000 in
theorem gX4_ifLevel_X4_trialNumber : GoodIn wsX4_ifLevel (wsV RX4 167 RX4 yX4_trialNumber wsX4_trialNumber) := goodIn_app (goodIn_of _ (by decide +kernel)) ggX4_ifLevel_X4_trialNumber
theorem dX4_ifLevel_0 : decode cX4_ifLevel 0 = .ok (.iload_n 1, 1) := by decide +kernel
theorem dX4_ifLevel_1 : decode cX4_ifLevel 1 = .ok (.invokestatic 40, 3) := by decide +kernel
theorem dX4_ifLevel_4 : decode cX4_ifLevel 4 = .ok (.iload_n 2, 1) := by decide +kernel
theorem dX4_ifLevel_5 : decode cX4_ifLevel 5 = .ok (.iconst 0, 1) := by decide +kernel
theorem dX4_ifLevel_6 : decode cX4_ifLevel 6 = .ok (.bipush 15, 2) := by decide +kernel
theorem dX4_ifLevel_8 : decode cX4_ifLevel 8 = .ok (.invokestatic 44, 3) := by decide +kernel
theorem dX4_ifLevel_11 : decode cX4_ifLevel 11 = .ok (.iload_n 3, 1) := by decide +kernel
theorem dX4_ifLevel_12 : decode cX4_ifLevel 12 = .ok (.iconst 0, 1) := by decide +kernel
theorem dX4_ifLevel_13 : decode cX4_ifLevel 13 = .ok (.iconst 2, 1) := by decide +kernel
theorem dX4_ifLevel_14 : decode cX4_ifLevel 14 = .ok (.invokestatic 44, 3) := by decide +kernel
theorem dX4_ifLevel_17 : decode cX4_ifLevel 17 = .ok (.aload_n 0, 1) := by decide +kernel
theorem dX4_ifLevel_18 : decode cX4_ifLevel 18 = .ok (.getfield 37, 3) := by decide +kernel
theorem dX4_ifLevel_21 : decode cX4_ifLevel 21 = .ok (.aload_n 0, 1) := by decide +kernel
theorem dX4_ifLevel_22 : decode cX4_ifLevel 22 = .ok (.getfield 10, 3) := by decide +kernel
theorem dX4_ifLevel_25 : decode cX4_ifLevel 25 = .ok (.iload_n 1, 1) := by decide +kernel
theorem dX4_ifLevel_26 : decode cX4_ifLevel 26 = .ok (.iload_n 2, 1) := by decide +kernel
theorem dX4_ifLevel_27 : decode cX4_ifLevel 27 = .ok (.invokevirtual 163, 3) := by decide +kernel
theorem dX4_ifLevel_30 : decode cX4_ifLevel 30 = .ok (.aload_n 0, 1) := by decide +kernel
theorem dX4_ifLevel_31 : decode cX4_ifLevel 31 = .ok (.iload_n 1, 1) := by decide +kernel
theorem dX4_ifLevel_32 : decode cX4_ifLevel 32 = .ok (.iload_n 3, 1) := by decide +kernel
theorem dX4_ifLevel_33 : decode cX4_ifLevel 33 = .ok (.invokevirtual 167, 3) := by decide +kernel
theorem dX4_ifLevel_36 : decode cX4_ifLevel 36 = .ok (.ireturn, 1) := by decide +kernel
set_option maxRecDepth 20000 in
theorem ggX4_leastLevel_X4_requireDigit : GoodIn wsX4_leastLevel wsX4_requireDigit := goodIn_ca (goodIn_r _ [4, 5, 6] (by decide +kernel) (by decide +kernel)) (goodIn_sub (fun _ h => List.mem_cons_of_mem _ (List.mem_append_right _ h)) (by decide +kernel))
set_option maxRecDepth 20000 in
theorem gX4_leastLevel_X4_requireDigit : GoodIn wsX4_leastLevel (va_wsS RX4 40 yX4_requireDigit wsX4_requireDigit) := goodIn_app (goodIn_of _ (by decide +kernel)) ggX4_leastLevel_X4_requireDigit
set_option maxRecDepth 20000 in
theorem ggX4_leastLevel_X4_leastSeenLevel : GoodIn wsX4_leastLevel wsX4_leastSeenLevel := goodIn_r _ [10, 11, 12, 13, 14, 15, 16, 17, 18, 19, 20, 21, 22, 23, 24, 25, 26, 27, 28, 29, 30, 31, 32, 33, 34, 35, 36, 37, 38, 39, 40, 41, 42, 43, 44, 3, 45, 46, 47, 48, 49, 50, 51, 52, 53, 54, 55, 56, 57, 58, 59, 60, 61, 62, 63, 64, 65, 66, 67, 68, 69, 70, 71, 72, 73, 74, 75, 76, 77, 78, 79, 80, 81, 82, 83, 84, 85, 86, 87, 88, 89, 90, 91, 92] (by decide +kernel) (by decide +kernel)
set_option maxRecDepth 20000 in
theorem gX4_leastLevel_X4_leastSeenLevel : GoodIn wsX4_leastLevel (wsV RX4 170 RX4 yX4_leastSeenLevel wsX4_leastSeenLevel) := goodIn_app (goodIn_of _ (by decide +kernel)) ggX4_leastLevel_X4_leastSeenLevel
theorem dX4_leastLevel_0 : decode cX4_leastLevel 0 = .ok (.iload_n 1, 1) := by decide +kernel
theorem dX4_leastLevel_1 : decode cX4_leastLevel 1 = .ok (.invokestatic 40, 3) := by decide +kernel
theorem dX4_leastLevel_4 : decode cX4_leastLevel 4 = .ok (.aload_n 0, 1) := by decide +kernel
theorem dX4_leastLevel_5 : decode cX4_leastLevel 5 = .ok (.iload_n 1, 1) := by decide +kernel
theorem dX4_leastLevel_6 : decode cX4_leastLevel 6 = .ok (.invokevirtual 170, 3) := by decide +kernel
theorem dX4_leastLevel_9 : decode cX4_leastLevel 9 = .ok (.ireturn, 1) := by decide +kernel
set_option maxRecDepth 20000 in
theorem ggX4_alikeSigns_X4_requireDigit : GoodIn wsX4_alikeSigns wsX4_requireDigit := goodIn_ca (goodIn_r _ [4, 5, 6] (by decide +kernel) (by decide +kernel)) (goodIn_sub (fun _ h => List.mem_cons_of_mem _ (List.mem_append_right _ h)) (by decide +kernel))
set_option maxRecDepth 20000 in
theorem gX4_alikeSigns_X4_requireDigit : GoodIn wsX4_alikeSigns (va_wsS RX4 40 yX4_requireDigit wsX4_requireDigit) := goodIn_app (goodIn_of _ (by decide +kernel)) ggX4_alikeSigns_X4_requireDigit
set_option maxRecDepth 20000 in
theorem ggX4_alikeSigns_X4_alikePairs : GoodIn wsX4_alikeSigns wsX4_alikePairs := goodIn_r _ [10, 11, 12, 13, 14, 15, 16, 17, 18, 19, 20, 21, 22, 23, 24, 25, 26, 27, 28] (by decide +kernel) (by decide +kernel)
set_option maxRecDepth 20000 in
theorem gX4_alikeSigns_X4_alikePairs : GoodIn wsX4_alikeSigns (wsV RX4 173 RX4 yX4_alikePairs wsX4_alikePairs) := goodIn_app (goodIn_of _ (by decide +kernel)) ggX4_alikeSigns_X4_alikePairs
theorem dX4_alikeSigns_0 : decode cX4_alikeSigns 0 = .ok (.iload_n 1, 1) := by decide +kernel
theorem dX4_alikeSigns_1 : decode cX4_alikeSigns 1 = .ok (.invokestatic 40, 3) := by decide +kernel
theorem dX4_alikeSigns_4 : decode cX4_alikeSigns 4 = .ok (.aload_n 0, 1) := by decide +kernel
theorem dX4_alikeSigns_5 : decode cX4_alikeSigns 5 = .ok (.iload_n 1, 1) := by decide +kernel
theorem dX4_alikeSigns_6 : decode cX4_alikeSigns 6 = .ok (.invokevirtual 173, 3) := by decide +kernel
theorem dX4_alikeSigns_9 : decode cX4_alikeSigns 9 = .ok (.ireturn, 1) := by decide +kernel
set_option maxRecDepth 20000 in
theorem ggX4_numberShown_X0_foresee : GoodIn wsX4_numberShown wsX0_foresee := goodIn_r _ [7, 8, 9, 10, 11, 12, 13, 14, 15, 16, 17, 18, 6, 19, 20, 21, 22, 23, 24, 25, 26, 27, 28, 29, 30, 31, 32, 33, 34, 35, 36, 37, 38, 39, 40, 41, 42, 43, 44, 45, 46, 47, 92, 93, 94, 95, 96, 97, 98, 99, 100, 101, 102, 103, 104, 105, 106, 107, 108, 109, 110, 111] (by decide +kernel) (by decide +kernel)
set_option maxRecDepth 20000 in
theorem gX4_numberShown_X0_foresee : GoodIn wsX4_numberShown (wsV RX4 148 RX0 yX0_foresee wsX0_foresee) := goodIn_app (goodIn_of _ (by decide +kernel)) ggX4_numberShown_X0_foresee
set_option maxRecDepth 20000 in
theorem ggX4_numberShown_X4_clearNumber : GoodIn wsX4_numberShown wsX4_clearNumber := goodIn_r _ [51, 2, 52, 53, 54, 55, 36, 56, 1, 57, 58, 59, 6, 60, 24, 61, 62, 63, 64, 21, 26, 65, 66, 67, 68, 25, 22, 69, 70, 71, 72, 73, 74, 75, 76, 77, 78, 79, 80, 81, 82, 83, 84, 85, 86, 87, 88, 89, 90, 91, 92, 93, 94, 95, 96, 97, 98, 99, 100, 101, 102, 103, 104, 105, 106, 107, 108, 109, 110, 111] (by decide +kernel) (by decide +kernel)
set_option maxRecDepth 20000 in
theorem gX4_numberShown_X4_clearNumber : GoodIn wsX4_numberShown (wsV RX4 176 RX4 yX4_clearNumber wsX4_clearNumber) := goodIn_app (goodIn_of _ (by decide +kernel)) ggX4_numberShown_X4_clearNumber
theorem dX4_numberShown_0 : decode cX4_numberShown 0 = .ok (.aload_n 0, 1) := by decide +kernel
theorem dX4_numberShown_1 : decode cX4_numberShown 1 = .ok (.getfield 33, 3) := by decide +kernel
theorem dX4_numberShown_4 : decode cX4_numberShown 4 = .ok (.aload_n 0, 1) := by decide +kernel
theorem dX4_numberShown_5 : decode cX4_numberShown 5 = .ok (.getfield 10, 3) := by decide +kernel
theorem dX4_numberShown_8 : decode cX4_numberShown 8 = .ok (.invokevirtual 148, 3) := by decide +kernel
theorem dX4_numberShown_11 : decode cX4_numberShown 11 = .ok (.aload_n 0, 1) := by decide +kernel
theorem dX4_numberShown_12 : decode cX4_numberShown 12 = .ok (.invokevirtual 176, 3) := by decide +kernel
theorem dX4_numberShown_15 : decode cX4_numberShown 15 = .ok (.ireturn, 1) := by decide +kernel
set_option maxRecDepth 20000 in
theorem ggX4_evenness_X0_foresee : GoodIn wsX4_evenness wsX0_foresee := goodIn_r _ [7, 8, 9, 10, 11, 12, 13, 14, 15, 16, 17, 18, 6, 19, 20, 21, 22, 23, 24, 25, 26, 27, 28, 29, 30, 31, 32, 33, 34, 35, 36, 37, 38, 39, 40, 41, 42, 43, 44, 45, 46, 47, 66, 67, 68, 69, 70, 71, 72, 73, 74, 75, 76, 77, 78, 79, 80, 81, 82, 83, 84, 85] (by decide +kernel) (by decide +kernel)
set_option maxRecDepth 20000 in
theorem gX4_evenness_X0_foresee : GoodIn wsX4_evenness (wsV RX4 148 RX0 yX0_foresee wsX0_foresee) := goodIn_app (goodIn_of _ (by decide +kernel)) ggX4_evenness_X0_foresee
set_option maxRecDepth 20000 in
theorem ggX4_evenness_X4_lightShare : GoodIn wsX4_evenness wsX4_lightShare := goodIn_r _ [51, 2, 52, 1, 53, 54, 46, 55, 56, 45, 47, 57, 58, 59, 6, 60, 21, 26, 61, 62, 63, 64, 65, 66, 67, 68, 69, 70, 71, 72, 73, 74, 75, 76, 77, 78, 79, 80, 81, 82, 83, 84, 85] (by decide +kernel) (by decide +kernel)
set_option maxRecDepth 20000 in
theorem gX4_evenness_X4_lightShare : GoodIn wsX4_evenness (wsV RX4 179 RX4 yX4_lightShare wsX4_lightShare) := goodIn_app (goodIn_of _ (by decide +kernel)) ggX4_evenness_X4_lightShare
theorem dX4_evenness_0 : decode cX4_evenness 0 = .ok (.aload_n 0, 1) := by decide +kernel
theorem dX4_evenness_1 : decode cX4_evenness 1 = .ok (.getfield 33, 3) := by decide +kernel
theorem dX4_evenness_4 : decode cX4_evenness 4 = .ok (.aload_n 0, 1) := by decide +kernel
theorem dX4_evenness_5 : decode cX4_evenness 5 = .ok (.getfield 10, 3) := by decide +kernel
theorem dX4_evenness_8 : decode cX4_evenness 8 = .ok (.invokevirtual 148, 3) := by decide +kernel
theorem dX4_evenness_11 : decode cX4_evenness 11 = .ok (.aload_n 0, 1) := by decide +kernel
theorem dX4_evenness_12 : decode cX4_evenness 12 = .ok (.invokevirtual 179, 3) := by decide +kernel
theorem dX4_evenness_15 : decode cX4_evenness 15 = .ok (.dreturn, 1) := by decide +kernel
set_option maxRecDepth 20000 in
theorem ggX4_digest_X0_foresee : GoodIn wsX4_digest wsX0_foresee := goodIn_r _ [14, 15, 16, 17, 18, 19, 20, 21, 22, 23, 24, 25, 13, 26, 27, 28, 29, 30, 31, 32, 33, 34, 35, 36, 37, 38, 39, 40, 41, 42, 43, 44, 45, 46, 47, 48, 49, 50, 51, 52, 53, 54, 195, 196, 197, 198, 199, 200, 201, 202, 203, 204, 205, 206, 207, 208, 209, 210, 211, 212, 213, 214] (by decide +kernel) (by decide +kernel)
set_option maxRecDepth 20000 in
theorem gX4_digest_X0_foresee : GoodIn wsX4_digest (wsV RX4 148 RX0 yX0_foresee wsX0_foresee) := goodIn_app (goodIn_of _ (by decide +kernel)) ggX4_digest_X0_foresee
set_option maxRecDepth 20000 in
theorem ggX4_digest_X4_total : GoodIn wsX4_digest wsX4_total := goodIn_r _ [58, 2, 59, 1, 60, 61, 62, 63, 64, 65, 66, 67, 68, 69, 70, 71, 72, 13, 73, 28, 37, 74, 75, 76, 77, 36, 78, 79, 80, 81, 82, 83, 84, 85, 33, 32, 29, 86, 87, 88, 89, 90, 91, 92, 93, 31, 94, 95, 96, 97, 98, 99, 100, 43, 101, 102, 103, 104, 105, 106, 107, 108, 109, 110, 111, 112, 113, 114, 115, 116, 117, 118, 119, 120, 121, 122, 123, 124, 125, 126, 127, 128, 190, 191, 192, 193, 194, 195, 196, 197, 198, 199, 200, 201, 202, 203, 204, 221, 222, 223, 205, 206, 207, 208, 209, 210, 211, 212, 213, 214] (by decide +kernel) (by decide +kernel)
set_option maxRecDepth 20000 in
theorem gX4_digest_X4_total : GoodIn wsX4_digest (wsV RX4 160 RX4 yX4_total wsX4_total) := goodIn_app (goodIn_of _ (by decide +kernel)) ggX4_digest_X4_total
set_option maxRecDepth 20000 in
theorem ggX4_digest_X4_mix : GoodIn wsX4_digest wsX4_mix := goodIn_r _ [131, 132] (by decide +kernel) (by decide +kernel)
set_option maxRecDepth 20000 in
theorem gX4_digest_X4_mix : GoodIn wsX4_digest (va_wsS RX4 185 yX4_mix wsX4_mix) := goodIn_app (goodIn_of _ (by decide +kernel)) ggX4_digest_X4_mix
set_option maxRecDepth 20000 in
theorem ggX4_digest_X4_mixDigit : GoodIn wsX4_digest wsX4_mixDigit := goodIn_r _ [136, 2, 137, 138, 139, 140, 141, 43, 142, 143, 144, 145, 146, 1, 147, 148, 149, 113, 114, 67, 115, 116, 111, 150, 95, 96, 13, 97, 28, 33, 151, 83, 84, 85, 32, 29, 106, 91, 92, 93, 31, 94, 82, 102, 103, 104, 105, 107, 108, 109, 110, 112, 117, 118, 119, 120, 121, 122, 123, 129, 130, 131, 132, 152, 153, 154, 155, 156, 157, 158, 15, 16, 17, 18, 19, 20, 22, 38, 39, 40, 41, 23, 24, 25, 26, 27, 30, 34, 35, 36, 37, 42, 44, 45, 46, 47, 48, 49, 50, 51, 52, 53, 54, 159, 160, 161, 162, 86, 87, 88, 89, 90, 78, 79, 80, 81, 163, 164, 165, 166, 167, 168, 169, 170, 171, 190, 191, 192, 193, 194, 195, 196, 197, 198, 199, 200, 201, 202, 203, 204, 205, 206, 207, 208, 209, 210, 211, 212, 213, 214] (by decide +kernel) (by decide +kernel)
set_option maxRecDepth 20000 in
theorem gX4_digest_X4_mixDigit : GoodIn wsX4_digest (wsV RX4 189 RX4 yX4_mixDigit wsX4_mixDigit) := goodIn_app (goodIn_of _ (by decide +kernel)) ggX4_digest_X4_mixDigit
set_option maxRecDepth 20000 in
theorem ggX4_digest_X4_clearNumber : GoodIn wsX4_digest wsX4_clearNumber := goodIn_r _ [175, 2, 143, 102, 103, 104, 43, 105, 1, 106, 91, 92, 13, 93, 31, 94, 95, 96, 97, 28, 33, 82, 83, 84, 85, 32, 29, 107, 108, 109, 67, 110, 111, 112, 113, 114, 115, 116, 117, 118, 119, 120, 121, 122, 123, 190, 191, 192, 193, 194, 195, 196, 197, 198, 199, 200, 201, 202, 203, 204, 205, 206, 207, 208, 209, 210, 211, 212, 213, 214] (by decide +kernel) (by decide +kernel)
set_option maxRecDepth 20000 in
theorem gX4_digest_X4_clearNumber : GoodIn wsX4_digest (wsV RX4 176 RX4 yX4_clearNumber wsX4_clearNumber) := goodIn_app (goodIn_of _ (by decide +kernel)) ggX4_digest_X4_clearNumber
set_option maxRecDepth 20000 in
theorem ggX4_digest_X4_lightShare : GoodIn wsX4_digest wsX4_lightShare := goodIn_r _ [179, 2, 144, 1, 180, 181, 53, 182, 183, 52, 54, 150, 95, 96, 13, 97, 28, 33, 190, 191, 192, 193, 194, 195, 196, 197, 198, 199, 200, 201, 202, 203, 204, 205, 206, 207, 208, 209, 210, 211, 212, 213, 214] (by decide +kernel) (by decide +kernel)
set_option maxRecDepth 20000 in
theorem gX4_digest_X4_lightShare : GoodIn wsX4_digest (wsV RX4 179 RX4 yX4_lightShare wsX4_lightShare) := goodIn_app (goodIn_of _ (by decide +kernel)) ggX4_digest_X4_lightShare
set_option maxRecDepth 20000 in
theorem ggX4_digest_X4_bitsOfShare : GoodIn wsX4_digest wsX4_bitsOfShare := goodIn_r _ [186, 187, 188, 189] (by decide +kernel) (by decide +kernel)
set_option maxRecDepth 20000 in
theorem gX4_digest_X4_bitsOfShare : GoodIn wsX4_digest (va_wsS RX4 193 yX4_bitsOfShare wsX4_bitsOfShare) := goodIn_app (goodIn_of _ (by decide +kernel)) ggX4_digest_X4_bitsOfShare
theorem dX4_digest_0 : decode cX4_digest 0 = .ok (.aload_n 0, 1) := by decide +kernel
theorem dX4_digest_1 : decode cX4_digest 1 = .ok (.getfield 33, 3) := by decide +kernel
theorem dX4_digest_4 : decode cX4_digest 4 = .ok (.aload_n 0, 1) := by decide +kernel
theorem dX4_digest_5 : decode cX4_digest 5 = .ok (.getfield 10, 3) := by decide +kernel
theorem dX4_digest_8 : decode cX4_digest 8 = .ok (.invokevirtual 148, 3) := by decide +kernel
theorem dX4_digest_11 : decode cX4_digest 11 = .ok (.ldc2_w 183, 3) := by decide +kernel
theorem dX4_digest_14 : decode cX4_digest 14 = .ok (.lstore_n 1, 1) := by decide +kernel
theorem dX4_digest_15 : decode cX4_digest 15 = .ok (.iconst 0, 1) := by decide +kernel
theorem dX4_digest_16 : decode cX4_digest 16 = .ok (.istore_n 3, 1) := by decide +kernel
theorem dX4_digest_17 : decode cX4_digest 17 = .ok (.iload_n 3, 1) := by decide +kernel
theorem dX4_digest_18 : decode cX4_digest 18 = .ok (.bipush 11, 2) := by decide +kernel
theorem dX4_digest_20 : decode cX4_digest 20 = .ok (.if_icmp .ge 20, 3) := by decide +kernel
theorem dX4_digest_23 : decode cX4_digest 23 = .ok (.lload_n 1, 1) := by decide +kernel
theorem dX4_digest_24 : decode cX4_digest 24 = .ok (.aload_n 0, 1) := by decide +kernel
theorem dX4_digest_25 : decode cX4_digest 25 = .ok (.iload_n 3, 1) := by decide +kernel
theorem dX4_digest_26 : decode cX4_digest 26 = .ok (.invokevirtual 160, 3) := by decide +kernel
theorem dX4_digest_29 : decode cX4_digest 29 = .ok (.i2l, 1) := by decide +kernel
theorem dX4_digest_30 : decode cX4_digest 30 = .ok (.invokestatic 185, 3) := by decide +kernel
theorem dX4_digest_33 : decode cX4_digest 33 = .ok (.lstore_n 1, 1) := by decide +kernel
theorem dX4_digest_34 : decode cX4_digest 34 = .ok (.iinc 3 1, 3) := by decide +kernel
theorem dX4_digest_37 : decode cX4_digest 37 = .ok (.goto (-20), 3) := by decide +kernel
theorem dX4_digest_40 : decode cX4_digest 40 = .ok (.iconst 0, 1) := by decide +kernel
theorem dX4_digest_41 : decode cX4_digest 41 = .ok (.istore_n 3, 1) := by decide +kernel
theorem dX4_digest_42 : decode cX4_digest 42 = .ok (.iload_n 3, 1) := by decide +kernel
theorem dX4_digest_43 : decode cX4_digest 43 = .ok (.iconst 5, 1) := by decide +kernel
theorem dX4_digest_44 : decode cX4_digest 44 = .ok (.if_icmp .ge 24, 3) := by decide +kernel
theorem dX4_digest_47 : decode cX4_digest 47 = .ok (.lload_n 1, 1) := by decide +kernel
theorem dX4_digest_48 : decode cX4_digest 48 = .ok (.aload_n 0, 1) := by decide +kernel
theorem dX4_digest_49 : decode cX4_digest 49 = .ok (.getfield 10, 3) := by decide +kernel
theorem dX4_digest_52 : decode cX4_digest 52 = .ok (.getfield 88, 3) := by decide +kernel
theorem dX4_digest_55 : decode cX4_digest 55 = .ok (.iload_n 3, 1) := by decide +kernel
theorem dX4_digest_56 : decode cX4_digest 56 = .ok (.iaload, 1) := by decide +kernel
theorem dX4_digest_57 : decode cX4_digest 57 = .ok (.i2l, 1) := by decide +kernel
theorem dX4_digest_58 : decode cX4_digest 58 = .ok (.invokestatic 185, 3) := by decide +kernel
theorem dX4_digest_61 : decode cX4_digest 61 = .ok (.lstore_n 1, 1) := by decide +kernel
theorem dX4_digest_62 : decode cX4_digest 62 = .ok (.iinc 3 1, 3) := by decide +kernel
theorem dX4_digest_65 : decode cX4_digest 65 = .ok (.goto (-23), 3) := by decide +kernel
theorem dX4_digest_68 : decode cX4_digest 68 = .ok (.iconst 0, 1) := by decide +kernel
theorem dX4_digest_69 : decode cX4_digest 69 = .ok (.istore_n 3, 1) := by decide +kernel
theorem dX4_digest_70 : decode cX4_digest 70 = .ok (.iload_n 3, 1) := by decide +kernel
theorem dX4_digest_71 : decode cX4_digest 71 = .ok (.bipush 6, 2) := by decide +kernel
theorem dX4_digest_73 : decode cX4_digest 73 = .ok (.if_icmp .ge 16, 3) := by decide +kernel
theorem dX4_digest_76 : decode cX4_digest 76 = .ok (.aload_n 0, 1) := by decide +kernel
theorem dX4_digest_77 : decode cX4_digest 77 = .ok (.lload_n 1, 1) := by decide +kernel
theorem dX4_digest_78 : decode cX4_digest 78 = .ok (.iload_n 3, 1) := by decide +kernel
theorem dX4_digest_79 : decode cX4_digest 79 = .ok (.invokevirtual 189, 3) := by decide +kernel
theorem dX4_digest_82 : decode cX4_digest 82 = .ok (.lstore_n 1, 1) := by decide +kernel
theorem dX4_digest_83 : decode cX4_digest 83 = .ok (.iinc 3 1, 3) := by decide +kernel
theorem dX4_digest_86 : decode cX4_digest 86 = .ok (.goto (-16), 3) := by decide +kernel
theorem dX4_digest_89 : decode cX4_digest 89 = .ok (.iconst 0, 1) := by decide +kernel
theorem dX4_digest_90 : decode cX4_digest 90 = .ok (.istore_n 3, 1) := by decide +kernel
theorem dX4_digest_91 : decode cX4_digest 91 = .ok (.iload_n 3, 1) := by decide +kernel
theorem dX4_digest_92 : decode cX4_digest 92 = .ok (.bipush 6, 2) := by decide +kernel
theorem dX4_digest_94 : decode cX4_digest 94 = .ok (.if_icmp .ge 39, 3) := by decide +kernel
theorem dX4_digest_97 : decode cX4_digest 97 = .ok (.lload_n 1, 1) := by decide +kernel
theorem dX4_digest_98 : decode cX4_digest 98 = .ok (.aload_n 0, 1) := by decide +kernel
theorem dX4_digest_99 : decode cX4_digest 99 = .ok (.getfield 33, 3) := by decide +kernel
theorem dX4_digest_102 : decode cX4_digest 102 = .ok (.getfield 154, 3) := by decide +kernel
theorem dX4_digest_105 : decode cX4_digest 105 = .ok (.iload_n 3, 1) := by decide +kernel
theorem dX4_digest_106 : decode cX4_digest 106 = .ok (.iaload, 1) := by decide +kernel
theorem dX4_digest_107 : decode cX4_digest 107 = .ok (.i2l, 1) := by decide +kernel
theorem dX4_digest_108 : decode cX4_digest 108 = .ok (.invokestatic 185, 3) := by decide +kernel
theorem dX4_digest_111 : decode cX4_digest 111 = .ok (.lstore_n 1, 1) := by decide +kernel
theorem dX4_digest_112 : decode cX4_digest 112 = .ok (.lload_n 1, 1) := by decide +kernel
theorem dX4_digest_113 : decode cX4_digest 113 = .ok (.aload_n 0, 1) := by decide +kernel
theorem dX4_digest_114 : decode cX4_digest 114 = .ok (.getfield 33, 3) := by decide +kernel
theorem dX4_digest_117 : decode cX4_digest 117 = .ok (.getfield 157, 3) := by decide +kernel
theorem dX4_digest_120 : decode cX4_digest 120 = .ok (.iload_n 3, 1) := by decide +kernel
theorem dX4_digest_121 : decode cX4_digest 121 = .ok (.iaload, 1) := by decide +kernel
theorem dX4_digest_122 : decode cX4_digest 122 = .ok (.i2l, 1) := by decide +kernel
theorem dX4_digest_123 : decode cX4_digest 123 = .ok (.invokestatic 185, 3) := by decide +kernel
theorem dX4_digest_126 : decode cX4_digest 126 = .ok (.lstore_n 1, 1) := by decide +kernel
theorem dX4_digest_127 : decode cX4_digest 127 = .ok (.iinc 3 1, 3) := by decide +kernel
theorem dX4_digest_130 : decode cX4_digest 130 = .ok (.goto (-39), 3) := by decide +kernel
theorem dX4_digest_133 : decode cX4_digest 133 = .ok (.lload_n 1, 1) := by decide +kernel
theorem dX4_digest_134 : decode cX4_digest 134 = .ok (.aload_n 0, 1) := by decide +kernel
theorem dX4_digest_135 : decode cX4_digest 135 = .ok (.invokevirtual 176, 3) := by decide +kernel
theorem dX4_digest_138 : decode cX4_digest 138 = .ok (.i2l, 1) := by decide +kernel
theorem dX4_digest_139 : decode cX4_digest 139 = .ok (.invokestatic 185, 3) := by decide +kernel
theorem dX4_digest_142 : decode cX4_digest 142 = .ok (.lstore_n 1, 1) := by decide +kernel
theorem dX4_digest_143 : decode cX4_digest 143 = .ok (.lload_n 1, 1) := by decide +kernel
theorem dX4_digest_144 : decode cX4_digest 144 = .ok (.aload_n 0, 1) := by decide +kernel
theorem dX4_digest_145 : decode cX4_digest 145 = .ok (.invokevirtual 179, 3) := by decide +kernel
theorem dX4_digest_148 : decode cX4_digest 148 = .ok (.invokestatic 193, 3) := by decide +kernel
theorem dX4_digest_151 : decode cX4_digest 151 = .ok (.invokestatic 185, 3) := by decide +kernel
theorem dX4_digest_154 : decode cX4_digest 154 = .ok (.lstore_n 1, 1) := by decide +kernel
theorem dX4_digest_155 : decode cX4_digest 155 = .ok (.lload_n 1, 1) := by decide +kernel
theorem dX4_digest_156 : decode cX4_digest 156 = .ok (.aload_n 0, 1) := by decide +kernel
theorem dX4_digest_157 : decode cX4_digest 157 = .ok (.getfield 26, 3) := by decide +kernel
theorem dX4_digest_160 : decode cX4_digest 160 = .ok (.getfield 120, 3) := by decide +kernel
theorem dX4_digest_163 : decode cX4_digest 163 = .ok (.i2l, 1) := by decide +kernel
theorem dX4_digest_164 : decode cX4_digest 164 = .ok (.invokestatic 185, 3) := by decide +kernel
theorem dX4_digest_167 : decode cX4_digest 167 = .ok (.lstore_n 1, 1) := by decide +kernel
theorem dX4_digest_168 : decode cX4_digest 168 = .ok (.iconst 0, 1) := by decide +kernel
theorem dX4_digest_169 : decode cX4_digest 169 = .ok (.istore_n 3, 1) := by decide +kernel
theorem dX4_digest_170 : decode cX4_digest 170 = .ok (.iload_n 3, 1) := by decide +kernel
theorem dX4_digest_171 : decode cX4_digest 171 = .ok (.bipush 60, 2) := by decide +kernel
theorem dX4_digest_173 : decode cX4_digest 173 = .ok (.if_icmp .ge 35, 3) := by decide +kernel
theorem dX4_digest_176 : decode cX4_digest 176 = .ok (.iload_n 3, 1) := by decide +kernel
theorem dX4_digest_177 : decode cX4_digest 177 = .ok (.aload_n 0, 1) := by decide +kernel
theorem dX4_digest_178 : decode cX4_digest 178 = .ok (.getfield 26, 3) := by decide +kernel
theorem dX4_digest_181 : decode cX4_digest 181 = .ok (.getfield 120, 3) := by decide +kernel
theorem dX4_digest_184 : decode cX4_digest 184 = .ok (.if_icmp .ge 24, 3) := by decide +kernel
theorem dX4_digest_187 : decode cX4_digest 187 = .ok (.lload_n 1, 1) := by decide +kernel
theorem dX4_digest_188 : decode cX4_digest 188 = .ok (.aload_n 0, 1) := by decide +kernel
theorem dX4_digest_189 : decode cX4_digest 189 = .ok (.getfield 26, 3) := by decide +kernel
theorem dX4_digest_192 : decode cX4_digest 192 = .ok (.getfield 197, 3) := by decide +kernel
theorem dX4_digest_195 : decode cX4_digest 195 = .ok (.iload_n 3, 1) := by decide +kernel
theorem dX4_digest_196 : decode cX4_digest 196 = .ok (.iaload, 1) := by decide +kernel
theorem dX4_digest_197 : decode cX4_digest 197 = .ok (.i2l, 1) := by decide +kernel
theorem dX4_digest_198 : decode cX4_digest 198 = .ok (.invokestatic 185, 3) := by decide +kernel
theorem dX4_digest_201 : decode cX4_digest 201 = .ok (.lstore_n 1, 1) := by decide +kernel
theorem dX4_digest_202 : decode cX4_digest 202 = .ok (.iinc 3 1, 3) := by decide +kernel
theorem dX4_digest_205 : decode cX4_digest 205 = .ok (.goto (-35), 3) := by decide +kernel
theorem dX4_digest_208 : decode cX4_digest 208 = .ok (.lload_n 1, 1) := by decide +kernel
theorem dX4_digest_209 : decode cX4_digest 209 = .ok (.lreturn, 1) := by decide +kernel
theorem dX4_mix_0 : decode cX4_mix 0 = .ok (.ldc2_w 200, 3) := by decide +kernel
theorem dX4_mix_3 : decode cX4_mix 3 = .ok (.lload_n 0, 1) := by decide +kernel
theorem dX4_mix_4 : decode cX4_mix 4 = .ok (.lmul, 1) := by decide +kernel
theorem dX4_mix_5 : decode cX4_mix 5 = .ok (.lload_n 2, 1) := by decide +kernel
theorem dX4_mix_6 : decode cX4_mix 6 = .ok (.ladd, 1) := by decide +kernel
theorem dX4_mix_7 : decode cX4_mix 7 = .ok (.lreturn, 1) := by decide +kernel
set_option maxRecDepth 20000 in
theorem ggX4_mixDigit_X4_property : GoodIn wsX4_mixDigit wsX4_property := goodIn_r _ [8, 1, 9, 10, 11, 12, 13, 14, 15, 16, 17, 18, 19, 20, 21, 22, 23, 24, 25, 26, 27, 28, 29, 30, 31, 32, 33, 34, 35, 36, 37, 38, 39, 40, 41, 42, 43, 44, 45, 7, 46, 47, 48, 49, 50, 51, 52, 53, 54, 55, 56, 57, 58, 125, 126, 127, 128, 129, 130, 131, 132, 133, 134, 135, 136, 137, 138, 139, 140, 141, 142, 143, 144, 145, 146, 147, 148, 149] (by decide +kernel) (by decide +kernel)
set_option maxRecDepth 20000 in
theorem gX4_mixDigit_X4_property : GoodIn wsX4_mixDigit (wsV RX4 151 RX4 yX4_property wsX4_property) := goodIn_app (goodIn_of _ (by decide +kernel)) ggX4_mixDigit_X4_property
set_option maxRecDepth 20000 in
theorem ggX4_mixDigit_X4_mix : GoodIn wsX4_mixDigit wsX4_mix := goodIn_r _ [61, 62] (by decide +kernel) (by decide +kernel)
set_option maxRecDepth 20000 in
theorem gX4_mixDigit_X4_mix : GoodIn wsX4_mixDigit (va_wsS RX4 185 yX4_mix wsX4_mix) := goodIn_app (goodIn_of _ (by decide +kernel)) ggX4_mixDigit_X4_mix
set_option maxRecDepth 20000 in
theorem ggX4_mixDigit_X4_wearPlace : GoodIn wsX4_mixDigit wsX4_wearPlace := goodIn_r _ [65] (by decide +kernel) (by decide +kernel)
set_option maxRecDepth 20000 in
theorem gX4_mixDigit_X4_wearPlace : GoodIn wsX4_mixDigit (va_wsS RX4 71 yX4_wearPlace wsX4_wearPlace) := goodIn_app (goodIn_of _ (by decide +kernel)) ggX4_mixDigit_X4_wearPlace
set_option maxRecDepth 20000 in
theorem ggX4_mixDigit_X0_foreseeLevel : GoodIn wsX4_mixDigit wsX0_foreseeLevel := goodIn_r _ [69, 70, 71, 72, 73, 74, 75, 76, 77, 78, 79, 80, 81, 82, 83, 26, 84, 85, 28, 35, 86, 40, 34, 29, 87, 88, 89, 90, 91, 7, 92, 93, 94, 95, 96, 97, 98, 99, 100, 101, 102, 130, 131, 132, 133, 134, 135, 136, 137, 138, 139, 140, 141, 142, 143, 144, 145, 146, 147, 148, 149] (by decide +kernel) (by decide +kernel)
set_option maxRecDepth 20000 in
theorem gX4_mixDigit_X0_foreseeLevel : GoodIn wsX4_mixDigit (wsV RX4 163 RX0 yX0_foreseeLevel wsX0_foreseeLevel) := goodIn_app (goodIn_of _ (by decide +kernel)) ggX4_mixDigit_X0_foreseeLevel
set_option maxRecDepth 20000 in
theorem ggX4_mixDigit_X4_trialNumber : GoodIn wsX4_mixDigit wsX4_trialNumber := goodIn_r _ [106, 3, 23, 24, 25, 26, 27, 28, 29, 107, 108, 109, 110, 111, 37, 38, 39, 40, 41, 42, 31, 32, 33, 34, 35, 112, 113, 114, 115, 125, 126, 127, 128, 129, 140, 141, 142, 143, 144, 145, 146, 147, 148, 149] (by decide +kernel) (by decide +kernel)
set_option maxRecDepth 20000 in
theorem gX4_mixDigit_X4_trialNumber : GoodIn wsX4_mixDigit (wsV RX4 167 RX4 yX4_trialNumber wsX4_trialNumber) := goodIn_app (goodIn_of _ (by decide +kernel)) ggX4_mixDigit_X4_trialNumber
set_option maxRecDepth 20000 in
theorem ggX4_mixDigit_X4_leastSeenLevel : GoodIn wsX4_mixDigit wsX4_leastSeenLevel := goodIn_r _ [119, 3, 1, 66, 67, 68, 26, 69, 70, 71, 72, 73, 74, 75, 76, 77, 78, 79, 80, 81, 82, 83, 84, 85, 28, 35, 86, 40, 34, 29, 87, 88, 89, 90, 91, 7, 92, 93, 94, 95, 96, 97, 98, 99, 100, 101, 102, 36, 37, 38, 39, 41, 24, 25, 27, 42, 31, 32, 33, 125, 126, 127, 128, 129, 130, 131, 132, 133, 134, 135, 136, 137, 138, 139, 140, 141, 142, 143, 144, 145, 146, 147, 148, 149] (by decide +kernel) (by decide +kernel)
set_option maxRecDepth 20000 in
theorem gX4_mixDigit_X4_leastSeenLevel : GoodIn wsX4_mixDigit (wsV RX4 170 RX4 yX4_leastSeenLevel wsX4_leastSeenLevel) := goodIn_app (goodIn_of _ (by decide +kernel)) ggX4_mixDigit_X4_leastSeenLevel
set_option maxRecDepth 20000 in
theorem ggX4_mixDigit_X4_alikePairs : GoodIn wsX4_mixDigit wsX4_alikePairs := goodIn_r _ [123, 1, 11, 124, 125, 126, 127, 128, 129, 130, 131, 132, 133, 134, 135, 136, 137, 138, 139] (by decide +kernel) (by decide +kernel)
set_option maxRecDepth 20000 in
theorem gX4_mixDigit_X4_alikePairs : GoodIn wsX4_mixDigit (wsV RX4 173 RX4 yX4_alikePairs wsX4_alikePairs) := goodIn_app (goodIn_of _ (by decide +kernel)) ggX4_mixDigit_X4_alikePairs
theorem dX4_mixDigit_0 : decode cX4_mixDigit 0 = .ok (.lload_n 1, 1) := by decide +kernel
theorem dX4_mixDigit_1 : decode cX4_mixDigit 1 = .ok (.lstore 4, 2) := by decide +kernel
theorem dX4_mixDigit_3 : decode cX4_mixDigit 3 = .ok (.iconst 0, 1) := by decide +kernel
theorem dX4_mixDigit_4 : decode cX4_mixDigit 4 = .ok (.istore 6, 2) := by decide +kernel
theorem dX4_mixDigit_6 : decode cX4_mixDigit 6 = .ok (.iload 6, 2) := by decide +kernel
theorem dX4_mixDigit_8 : decode cX4_mixDigit 8 = .ok (.bipush 12, 2) := by decide +kernel
theorem dX4_mixDigit_10 : decode cX4_mixDigit 10 = .ok (.if_icmp .ge 24, 3) := by decide +kernel
theorem dX4_mixDigit_13 : decode cX4_mixDigit 13 = .ok (.lload 4, 2) := by decide +kernel
theorem dX4_mixDigit_15 : decode cX4_mixDigit 15 = .ok (.aload_n 0, 1) := by decide +kernel
theorem dX4_mixDigit_16 : decode cX4_mixDigit 16 = .ok (.iload_n 3, 1) := by decide +kernel
theorem dX4_mixDigit_17 : decode cX4_mixDigit 17 = .ok (.iload 6, 2) := by decide +kernel
theorem dX4_mixDigit_19 : decode cX4_mixDigit 19 = .ok (.invokevirtual 151, 3) := by decide +kernel
theorem dX4_mixDigit_22 : decode cX4_mixDigit 22 = .ok (.i2l, 1) := by decide +kernel
theorem dX4_mixDigit_23 : decode cX4_mixDigit 23 = .ok (.invokestatic 185, 3) := by decide +kernel
theorem dX4_mixDigit_26 : decode cX4_mixDigit 26 = .ok (.lstore 4, 2) := by decide +kernel
theorem dX4_mixDigit_28 : decode cX4_mixDigit 28 = .ok (.iinc 6 1, 3) := by decide +kernel
theorem dX4_mixDigit_31 : decode cX4_mixDigit 31 = .ok (.goto (-25), 3) := by decide +kernel
theorem dX4_mixDigit_34 : decode cX4_mixDigit 34 = .ok (.iconst 0, 1) := by decide +kernel
theorem dX4_mixDigit_35 : decode cX4_mixDigit 35 = .ok (.istore 6, 2) := by decide +kernel
theorem dX4_mixDigit_37 : decode cX4_mixDigit 37 = .ok (.iload 6, 2) := by decide +kernel
theorem dX4_mixDigit_39 : decode cX4_mixDigit 39 = .ok (.bipush 7, 2) := by decide +kernel
theorem dX4_mixDigit_41 : decode cX4_mixDigit 41 = .ok (.if_icmp .ge 31, 3) := by decide +kernel
theorem dX4_mixDigit_44 : decode cX4_mixDigit 44 = .ok (.lload 4, 2) := by decide +kernel
theorem dX4_mixDigit_46 : decode cX4_mixDigit 46 = .ok (.aload_n 0, 1) := by decide +kernel
theorem dX4_mixDigit_47 : decode cX4_mixDigit 47 = .ok (.getfield 10, 3) := by decide +kernel
theorem dX4_mixDigit_50 : decode cX4_mixDigit 50 = .ok (.getfield 68, 3) := by decide +kernel
theorem dX4_mixDigit_53 : decode cX4_mixDigit 53 = .ok (.iload_n 3, 1) := by decide +kernel
theorem dX4_mixDigit_54 : decode cX4_mixDigit 54 = .ok (.iload 6, 2) := by decide +kernel
theorem dX4_mixDigit_56 : decode cX4_mixDigit 56 = .ok (.invokestatic 71, 3) := by decide +kernel
theorem dX4_mixDigit_59 : decode cX4_mixDigit 59 = .ok (.iaload, 1) := by decide +kernel
theorem dX4_mixDigit_60 : decode cX4_mixDigit 60 = .ok (.i2l, 1) := by decide +kernel
theorem dX4_mixDigit_61 : decode cX4_mixDigit 61 = .ok (.invokestatic 185, 3) := by decide +kernel
theorem dX4_mixDigit_64 : decode cX4_mixDigit 64 = .ok (.lstore 4, 2) := by decide +kernel
theorem dX4_mixDigit_66 : decode cX4_mixDigit 66 = .ok (.iinc 6 1, 3) := by decide +kernel
theorem dX4_mixDigit_69 : decode cX4_mixDigit 69 = .ok (.goto (-32), 3) := by decide +kernel
theorem dX4_mixDigit_72 : decode cX4_mixDigit 72 = .ok (.aload_n 0, 1) := by decide +kernel
theorem dX4_mixDigit_73 : decode cX4_mixDigit 73 = .ok (.getfield 37, 3) := by decide +kernel
theorem dX4_mixDigit_76 : decode cX4_mixDigit 76 = .ok (.aload_n 0, 1) := by decide +kernel
theorem dX4_mixDigit_77 : decode cX4_mixDigit 77 = .ok (.getfield 10, 3) := by decide +kernel
theorem dX4_mixDigit_80 : decode cX4_mixDigit 80 = .ok (.iload_n 3, 1) := by decide +kernel
theorem dX4_mixDigit_81 : decode cX4_mixDigit 81 = .ok (.bipush 9, 2) := by decide +kernel
theorem dX4_mixDigit_83 : decode cX4_mixDigit 83 = .ok (.invokevirtual 163, 3) := by decide +kernel
theorem dX4_mixDigit_86 : decode cX4_mixDigit 86 = .ok (.iconst 0, 1) := by decide +kernel
theorem dX4_mixDigit_87 : decode cX4_mixDigit 87 = .ok (.istore 6, 2) := by decide +kernel
theorem dX4_mixDigit_89 : decode cX4_mixDigit 89 = .ok (.iload 6, 2) := by decide +kernel
theorem dX4_mixDigit_91 : decode cX4_mixDigit 91 = .ok (.iconst 3, 1) := by decide +kernel
theorem dX4_mixDigit_92 : decode cX4_mixDigit 92 = .ok (.if_icmp .ge 24, 3) := by decide +kernel
theorem dX4_mixDigit_95 : decode cX4_mixDigit 95 = .ok (.lload 4, 2) := by decide +kernel
theorem dX4_mixDigit_97 : decode cX4_mixDigit 97 = .ok (.aload_n 0, 1) := by decide +kernel
theorem dX4_mixDigit_98 : decode cX4_mixDigit 98 = .ok (.iload_n 3, 1) := by decide +kernel
theorem dX4_mixDigit_99 : decode cX4_mixDigit 99 = .ok (.iload 6, 2) := by decide +kernel
theorem dX4_mixDigit_101 : decode cX4_mixDigit 101 = .ok (.invokevirtual 167, 3) := by decide +kernel
theorem dX4_mixDigit_104 : decode cX4_mixDigit 104 = .ok (.i2l, 1) := by decide +kernel
theorem dX4_mixDigit_105 : decode cX4_mixDigit 105 = .ok (.invokestatic 185, 3) := by decide +kernel
theorem dX4_mixDigit_108 : decode cX4_mixDigit 108 = .ok (.lstore 4, 2) := by decide +kernel
theorem dX4_mixDigit_110 : decode cX4_mixDigit 110 = .ok (.iinc 6 1, 3) := by decide +kernel
theorem dX4_mixDigit_113 : decode cX4_mixDigit 113 = .ok (.goto (-24), 3) := by decide +kernel
theorem dX4_mixDigit_116 : decode cX4_mixDigit 116 = .ok (.lload 4, 2) := by decide +kernel
theorem dX4_mixDigit_118 : decode cX4_mixDigit 118 = .ok (.aload_n 0, 1) := by decide +kernel
theorem dX4_mixDigit_119 : decode cX4_mixDigit 119 = .ok (.iload_n 3, 1) := by decide +kernel
theorem dX4_mixDigit_120 : decode cX4_mixDigit 120 = .ok (.invokevirtual 170, 3) := by decide +kernel
theorem dX4_mixDigit_123 : decode cX4_mixDigit 123 = .ok (.i2l, 1) := by decide +kernel
theorem dX4_mixDigit_124 : decode cX4_mixDigit 124 = .ok (.invokestatic 185, 3) := by decide +kernel
theorem dX4_mixDigit_127 : decode cX4_mixDigit 127 = .ok (.lstore 4, 2) := by decide +kernel
theorem dX4_mixDigit_129 : decode cX4_mixDigit 129 = .ok (.lload 4, 2) := by decide +kernel
theorem dX4_mixDigit_131 : decode cX4_mixDigit 131 = .ok (.aload_n 0, 1) := by decide +kernel
theorem dX4_mixDigit_132 : decode cX4_mixDigit 132 = .ok (.iload_n 3, 1) := by decide +kernel
theorem dX4_mixDigit_133 : decode cX4_mixDigit 133 = .ok (.invokevirtual 173, 3) := by decide +kernel
theorem dX4_mixDigit_136 : decode cX4_mixDigit 136 = .ok (.i2l, 1) := by decide +kernel
theorem dX4_mixDigit_137 : decode cX4_mixDigit 137 = .ok (.invokestatic 185, 3) := by decide +kernel
theorem dX4_mixDigit_140 : decode cX4_mixDigit 140 = .ok (.lreturn, 1) := by decide +kernel
theorem dX4_bitsOfShare_0 : decode cX4_bitsOfShare 0 = .ok (.dload_n 0, 1) := by decide +kernel
theorem dX4_bitsOfShare_1 : decode cX4_bitsOfShare 1 = .ok (.dconst 0, 1) := by decide +kernel
theorem dX4_bitsOfShare_2 : decode cX4_bitsOfShare 2 = .ok (.dcmp .g, 1) := by decide +kernel
theorem dX4_bitsOfShare_3 : decode cX4_bitsOfShare 3 = .ok (.ifCond .gt 5, 3) := by decide +kernel
theorem dX4_bitsOfShare_6 : decode cX4_bitsOfShare 6 = .ok (.lconst 0, 1) := by decide +kernel
theorem dX4_bitsOfShare_7 : decode cX4_bitsOfShare 7 = .ok (.lreturn, 1) := by decide +kernel
theorem dX4_bitsOfShare_8 : decode cX4_bitsOfShare 8 = .ok (.dload_n 0, 1) := by decide +kernel
theorem dX4_bitsOfShare_9 : decode cX4_bitsOfShare 9 = .ok (.dstore_n 2, 1) := by decide +kernel
theorem dX4_bitsOfShare_10 : decode cX4_bitsOfShare 10 = .ok (.ldc2_w 202, 3) := by decide +kernel
theorem dX4_bitsOfShare_13 : decode cX4_bitsOfShare 13 = .ok (.lstore 4, 2) := by decide +kernel
theorem dX4_bitsOfShare_15 : decode cX4_bitsOfShare 15 = .ok (.iconst 0, 1) := by decide +kernel
theorem dX4_bitsOfShare_16 : decode cX4_bitsOfShare 16 = .ok (.istore 6, 2) := by decide +kernel
theorem dX4_bitsOfShare_18 : decode cX4_bitsOfShare 18 = .ok (.iload 6, 2) := by decide +kernel
theorem dX4_bitsOfShare_20 : decode cX4_bitsOfShare 20 = .ok (.sipush 1000, 3) := by decide +kernel
theorem dX4_bitsOfShare_23 : decode cX4_bitsOfShare 23 = .ok (.if_icmp .ge 27, 3) := by decide +kernel
theorem dX4_bitsOfShare_26 : decode cX4_bitsOfShare 26 = .ok (.dload_n 2, 1) := by decide +kernel
theorem dX4_bitsOfShare_27 : decode cX4_bitsOfShare 27 = .ok (.dconst 1, 1) := by decide +kernel
theorem dX4_bitsOfShare_28 : decode cX4_bitsOfShare 28 = .ok (.dcmp .g, 1) := by decide +kernel
theorem dX4_bitsOfShare_29 : decode cX4_bitsOfShare 29 = .ok (.ifCond .ge 21, 3) := by decide +kernel
theorem dX4_bitsOfShare_32 : decode cX4_bitsOfShare 32 = .ok (.dload_n 2, 1) := by decide +kernel
theorem dX4_bitsOfShare_33 : decode cX4_bitsOfShare 33 = .ok (.ldc2_w 204, 3) := by decide +kernel
theorem dX4_bitsOfShare_36 : decode cX4_bitsOfShare 36 = .ok (.dmul, 1) := by decide +kernel
theorem dX4_bitsOfShare_37 : decode cX4_bitsOfShare 37 = .ok (.dstore_n 2, 1) := by decide +kernel
theorem dX4_bitsOfShare_38 : decode cX4_bitsOfShare 38 = .ok (.lload 4, 2) := by decide +kernel
theorem dX4_bitsOfShare_40 : decode cX4_bitsOfShare 40 = .ok (.lconst 1, 1) := by decide +kernel
theorem dX4_bitsOfShare_41 : decode cX4_bitsOfShare 41 = .ok (.lsub, 1) := by decide +kernel
theorem dX4_bitsOfShare_42 : decode cX4_bitsOfShare 42 = .ok (.lstore 4, 2) := by decide +kernel
theorem dX4_bitsOfShare_44 : decode cX4_bitsOfShare 44 = .ok (.iinc 6 1, 3) := by decide +kernel
theorem dX4_bitsOfShare_47 : decode cX4_bitsOfShare 47 = .ok (.goto (-29), 3) := by decide +kernel
theorem dX4_bitsOfShare_50 : decode cX4_bitsOfShare 50 = .ok (.dload_n 2, 1) := by decide +kernel
theorem dX4_bitsOfShare_51 : decode cX4_bitsOfShare 51 = .ok (.dconst 1, 1) := by decide +kernel
theorem dX4_bitsOfShare_52 : decode cX4_bitsOfShare 52 = .ok (.dsub, 1) := by decide +kernel
theorem dX4_bitsOfShare_53 : decode cX4_bitsOfShare 53 = .ok (.ldc2_w 206, 3) := by decide +kernel
theorem dX4_bitsOfShare_56 : decode cX4_bitsOfShare 56 = .ok (.dmul, 1) := by decide +kernel
theorem dX4_bitsOfShare_57 : decode cX4_bitsOfShare 57 = .ok (.d2l, 1) := by decide +kernel
theorem dX4_bitsOfShare_58 : decode cX4_bitsOfShare 58 = .ok (.lstore 6, 2) := by decide +kernel
theorem dX4_bitsOfShare_60 : decode cX4_bitsOfShare 60 = .ok (.lload 4, 2) := by decide +kernel
theorem dX4_bitsOfShare_62 : decode cX4_bitsOfShare 62 = .ok (.bipush 52, 2) := by decide +kernel
theorem dX4_bitsOfShare_64 : decode cX4_bitsOfShare 64 = .ok (.lshl, 1) := by decide +kernel
theorem dX4_bitsOfShare_65 : decode cX4_bitsOfShare 65 = .ok (.lload 6, 2) := by decide +kernel
theorem dX4_bitsOfShare_67 : decode cX4_bitsOfShare 67 = .ok (.lor, 1) := by decide +kernel
theorem dX4_bitsOfShare_68 : decode cX4_bitsOfShare 68 = .ok (.lreturn, 1) := by decide +kernel
set_option maxRecDepth 20000 in
theorem ggX4_property_X2_shownSegments : GoodIn wsX4_property wsX2_shownSegments := goodIn_r _ [13, 14, 15, 58, 59, 60, 61, 62, 63, 64, 65, 66, 67] (by decide +kernel) (by decide +kernel)
set_option maxRecDepth 20000 in
theorem gX4_property_X2_shownSegments : GoodIn wsX4_property (wsV RX4 208 RX2 yX2_shownSegments wsX2_shownSegments) := goodIn_app (goodIn_of _ (by decide +kernel)) ggX4_property_X2_shownSegments
set_option maxRecDepth 20000 in
theorem ggX4_property_X0_lightOf : GoodIn wsX4_property wsX0_lightOf := goodIn_r _ [20, 21, 22, 68, 69, 70, 71, 72, 73, 74, 75, 76, 77] (by decide +kernel) (by decide +kernel)
set_option maxRecDepth 20000 in
theorem gX4_property_X0_lightOf : GoodIn wsX4_property (wsV RX4 214 RX0 yX0_lightOf wsX0_lightOf) := goodIn_app (goodIn_of _ (by decide +kernel)) ggX4_property_X0_lightOf
set_option maxRecDepth 20000 in
theorem ggX4_property_X0_flickers : GoodIn wsX4_property wsX0_flickers := goodIn_r _ [26, 22, 27, 28, 68, 69, 70, 71, 72, 73, 74, 75, 76, 77] (by decide +kernel) (by decide +kernel)
set_option maxRecDepth 20000 in
theorem gX4_property_X0_flickers : GoodIn wsX4_property (wsV RX4 220 RX0 yX0_flickers wsX0_flickers) := goodIn_app (goodIn_of _ (by decide +kernel)) ggX4_property_X0_flickers
set_option maxRecDepth 20000 in
theorem ggX4_property_X0_isSeen : GoodIn wsX4_property wsX0_isSeen := goodIn_r _ [32, 33, 34, 17, 18, 19, 20, 21, 22, 35, 24, 25, 26, 27, 28, 68, 69, 70, 71, 72, 73, 74, 75, 76, 77] (by decide +kernel) (by decide +kernel)
set_option maxRecDepth 20000 in
theorem gX4_property_X0_isSeen : GoodIn wsX4_property (wsV RX4 223 RX0 yX0_isSeen wsX0_isSeen) := goodIn_app (goodIn_of _ (by decide +kernel)) ggX4_property_X0_isSeen
set_option maxRecDepth 20000 in
theorem ggX4_property_X4_isClear : GoodIn wsX4_property wsX4_isClear := goodIn_r _ [40, 6, 1, 29, 30, 31, 19, 32, 33, 34, 17, 18, 20, 21, 22, 35, 24, 25, 26, 27, 28, 41, 42, 43, 12, 44, 15, 45, 10, 11, 13, 14, 46, 47, 48, 49, 50, 51, 52, 53, 54, 55, 56, 57, 68, 69, 70, 71, 72, 73, 74, 75, 76, 77, 58, 59, 60, 61, 62, 63, 64, 65, 66, 67] (by decide +kernel) (by decide +kernel)
set_option maxRecDepth 20000 in
theorem gX4_property_X4_isClear : GoodIn wsX4_property (wsV RX4 226 RX4 yX4_isClear wsX4_isClear) := goodIn_app (goodIn_of _ (by decide +kernel)) ggX4_property_X4_isClear
set_option maxRecDepth 20000 in
theorem ggX4_property_X2_readableSigns : GoodIn wsX4_property wsX2_readableSigns := goodIn_r _ [44, 15, 45, 10, 11, 12, 13, 14, 58, 59, 60, 61, 62, 63, 64, 65, 66, 67] (by decide +kernel) (by decide +kernel)
set_option maxRecDepth 20000 in
theorem gX4_property_X2_readableSigns : GoodIn wsX4_property (wsV RX4 229 RX2 yX2_readableSigns wsX2_readableSigns) := goodIn_app (goodIn_of _ (by decide +kernel)) ggX4_property_X2_readableSigns
theorem dX4_property_0 : decode cX4_property 0 = .ok (.iload_n 2, 1) := by decide +kernel
theorem dX4_property_1 : decode cX4_property 1 = .ok (.tableswitch 184 0 10 #[59, 69, 79, 89, 98, 108, 117, 127, 144, 161, 175], 59) := by decide +kernel
theorem dX4_property_60 : decode cX4_property 60 = .ok (.aload_n 0, 1) := by decide +kernel
theorem dX4_property_61 : decode cX4_property 61 = .ok (.getfield 10, 3) := by decide +kernel
theorem dX4_property_64 : decode cX4_property 64 = .ok (.getfield 52, 3) := by decide +kernel
theorem dX4_property_67 : decode cX4_property 67 = .ok (.iload_n 1, 1) := by decide +kernel
theorem dX4_property_68 : decode cX4_property 68 = .ok (.iaload, 1) := by decide +kernel
theorem dX4_property_69 : decode cX4_property 69 = .ok (.ireturn, 1) := by decide +kernel
theorem dX4_property_70 : decode cX4_property 70 = .ok (.aload_n 0, 1) := by decide +kernel
theorem dX4_property_71 : decode cX4_property 71 = .ok (.getfield 10, 3) := by decide +kernel
theorem dX4_property_74 : decode cX4_property 74 = .ok (.getfield 56, 3) := by decide +kernel
theorem dX4_property_77 : decode cX4_property 77 = .ok (.iload_n 1, 1) := by decide +kernel
theorem dX4_property_78 : decode cX4_property 78 = .ok (.iaload, 1) := by decide +kernel
theorem dX4_property_79 : decode cX4_property 79 = .ok (.ireturn, 1) := by decide +kernel
theorem dX4_property_80 : decode cX4_property 80 = .ok (.aload_n 0, 1) := by decide +kernel
theorem dX4_property_81 : decode cX4_property 81 = .ok (.getfield 10, 3) := by decide +kernel
theorem dX4_property_84 : decode cX4_property 84 = .ok (.getfield 65, 3) := by decide +kernel
theorem dX4_property_87 : decode cX4_property 87 = .ok (.iload_n 1, 1) := by decide +kernel
theorem dX4_property_88 : decode cX4_property 88 = .ok (.iaload, 1) := by decide +kernel
theorem dX4_property_89 : decode cX4_property 89 = .ok (.ireturn, 1) := by decide +kernel
theorem dX4_property_90 : decode cX4_property 90 = .ok (.aload_n 0, 1) := by decide +kernel
theorem dX4_property_91 : decode cX4_property 91 = .ok (.getfield 10, 3) := by decide +kernel
theorem dX4_property_94 : decode cX4_property 94 = .ok (.iload_n 1, 1) := by decide +kernel
theorem dX4_property_95 : decode cX4_property 95 = .ok (.invokevirtual 208, 3) := by decide +kernel
theorem dX4_property_98 : decode cX4_property 98 = .ok (.ireturn, 1) := by decide +kernel
theorem dX4_property_99 : decode cX4_property 99 = .ok (.aload_n 0, 1) := by decide +kernel
theorem dX4_property_100 : decode cX4_property 100 = .ok (.getfield 10, 3) := by decide +kernel
theorem dX4_property_103 : decode cX4_property 103 = .ok (.getfield 211, 3) := by decide +kernel
theorem dX4_property_106 : decode cX4_property 106 = .ok (.iload_n 1, 1) := by decide +kernel
theorem dX4_property_107 : decode cX4_property 107 = .ok (.iaload, 1) := by decide +kernel
theorem dX4_property_108 : decode cX4_property 108 = .ok (.ireturn, 1) := by decide +kernel
theorem dX4_property_109 : decode cX4_property 109 = .ok (.aload_n 0, 1) := by decide +kernel
theorem dX4_property_110 : decode cX4_property 110 = .ok (.getfield 33, 3) := by decide +kernel
theorem dX4_property_113 : decode cX4_property 113 = .ok (.iload_n 1, 1) := by decide +kernel
theorem dX4_property_114 : decode cX4_property 114 = .ok (.invokevirtual 214, 3) := by decide +kernel
theorem dX4_property_117 : decode cX4_property 117 = .ok (.ireturn, 1) := by decide +kernel
theorem dX4_property_118 : decode cX4_property 118 = .ok (.aload_n 0, 1) := by decide +kernel
theorem dX4_property_119 : decode cX4_property 119 = .ok (.getfield 33, 3) := by decide +kernel
theorem dX4_property_122 : decode cX4_property 122 = .ok (.getfield 217, 3) := by decide +kernel
theorem dX4_property_125 : decode cX4_property 125 = .ok (.iload_n 1, 1) := by decide +kernel
theorem dX4_property_126 : decode cX4_property 126 = .ok (.iaload, 1) := by decide +kernel
theorem dX4_property_127 : decode cX4_property 127 = .ok (.ireturn, 1) := by decide +kernel
theorem dX4_property_128 : decode cX4_property 128 = .ok (.aload_n 0, 1) := by decide +kernel
theorem dX4_property_129 : decode cX4_property 129 = .ok (.getfield 33, 3) := by decide +kernel
theorem dX4_property_132 : decode cX4_property 132 = .ok (.iload_n 1, 1) := by decide +kernel
theorem dX4_property_133 : decode cX4_property 133 = .ok (.invokevirtual 220, 3) := by decide +kernel
theorem dX4_property_136 : decode cX4_property 136 = .ok (.ifCond .eq 7, 3) := by decide +kernel
theorem dX4_property_139 : decode cX4_property 139 = .ok (.iconst 1, 1) := by decide +kernel
theorem dX4_property_140 : decode cX4_property 140 = .ok (.goto 4, 3) := by decide +kernel
theorem dX4_property_143 : decode cX4_property 143 = .ok (.iconst 0, 1) := by decide +kernel
theorem dX4_property_144 : decode cX4_property 144 = .ok (.ireturn, 1) := by decide +kernel
theorem dX4_property_145 : decode cX4_property 145 = .ok (.aload_n 0, 1) := by decide +kernel
theorem dX4_property_146 : decode cX4_property 146 = .ok (.getfield 33, 3) := by decide +kernel
theorem dX4_property_149 : decode cX4_property 149 = .ok (.iload_n 1, 1) := by decide +kernel
theorem dX4_property_150 : decode cX4_property 150 = .ok (.invokevirtual 223, 3) := by decide +kernel
theorem dX4_property_153 : decode cX4_property 153 = .ok (.ifCond .eq 7, 3) := by decide +kernel
theorem dX4_property_156 : decode cX4_property 156 = .ok (.iconst 1, 1) := by decide +kernel
theorem dX4_property_157 : decode cX4_property 157 = .ok (.goto 4, 3) := by decide +kernel
theorem dX4_property_160 : decode cX4_property 160 = .ok (.iconst 0, 1) := by decide +kernel
theorem dX4_property_161 : decode cX4_property 161 = .ok (.ireturn, 1) := by decide +kernel
theorem dX4_property_162 : decode cX4_property 162 = .ok (.aload_n 0, 1) := by decide +kernel
theorem dX4_property_163 : decode cX4_property 163 = .ok (.iload_n 1, 1) := by decide +kernel
theorem dX4_property_164 : decode cX4_property 164 = .ok (.invokevirtual 226, 3) := by decide +kernel
theorem dX4_property_167 : decode cX4_property 167 = .ok (.ifCond .eq 7, 3) := by decide +kernel
theorem dX4_property_170 : decode cX4_property 170 = .ok (.iconst 1, 1) := by decide +kernel
theorem dX4_property_171 : decode cX4_property 171 = .ok (.goto 4, 3) := by decide +kernel
theorem dX4_property_174 : decode cX4_property 174 = .ok (.iconst 0, 1) := by decide +kernel
theorem dX4_property_175 : decode cX4_property 175 = .ok (.ireturn, 1) := by decide +kernel
theorem dX4_property_176 : decode cX4_property 176 = .ok (.aload_n 0, 1) := by decide +kernel
theorem dX4_property_177 : decode cX4_property 177 = .ok (.getfield 10, 3) := by decide +kernel
theorem dX4_property_180 : decode cX4_property 180 = .ok (.iload_n 1, 1) := by decide +kernel
theorem dX4_property_181 : decode cX4_property 181 = .ok (.invokevirtual 229, 3) := by decide +kernel
theorem dX4_property_184 : decode cX4_property 184 = .ok (.ireturn, 1) := by decide +kernel
theorem dX4_property_185 : decode cX4_property 185 = .ok (.aload_n 0, 1) := by decide +kernel
theorem dX4_property_186 : decode cX4_property 186 = .ok (.getfield 10, 3) := by decide +kernel
theorem dX4_property_189 : decode cX4_property 189 = .ok (.getfield 232, 3) := by decide +kernel
theorem dX4_property_192 : decode cX4_property 192 = .ok (.iload_n 1, 1) := by decide +kernel
theorem dX4_property_193 : decode cX4_property 193 = .ok (.iaload, 1) := by decide +kernel
theorem dX4_property_194 : decode cX4_property 194 = .ok (.ireturn, 1) := by decide +kernel
set_option maxRecDepth 20000 in
theorem ggX4_total_X2_levelSum : GoodIn wsX4_total wsX2_levelSum := goodIn_r _ [12, 13, 87, 88, 89, 90, 91, 92, 93, 94, 95, 96] (by decide +kernel) (by decide +kernel)
set_option maxRecDepth 20000 in
theorem gX4_total_X2_levelSum : GoodIn wsX4_total (wsV RX4 235 RX2 yX2_levelSum wsX2_levelSum) := goodIn_app (goodIn_of _ (by decide +kernel)) ggX4_total_X2_levelSum
set_option maxRecDepth 20000 in
theorem ggX4_total_X0_darkSlots : GoodIn wsX4_total wsX0_darkSlots := goodIn_r _ [18, 19, 20, 100, 101, 102, 103, 104, 105, 106, 107, 108, 109] (by decide +kernel) (by decide +kernel)
set_option maxRecDepth 20000 in
theorem gX4_total_X0_darkSlots : GoodIn wsX4_total (wsV RX4 238 RX0 yX0_darkSlots wsX0_darkSlots) := goodIn_app (goodIn_of _ (by decide +kernel)) ggX4_total_X0_darkSlots
set_option maxRecDepth 20000 in
theorem ggX4_total_X0_changes : GoodIn wsX4_total wsX0_changes := goodIn_r _ [24, 19, 25, 100, 101, 102, 103, 104, 105, 106, 107, 108, 109] (by decide +kernel) (by decide +kernel)
set_option maxRecDepth 20000 in
theorem gX4_total_X0_changes : GoodIn wsX4_total (wsV RX4 241 RX0 yX0_changes wsX0_changes) := goodIn_app (goodIn_of _ (by decide +kernel)) ggX4_total_X0_changes
set_option maxRecDepth 20000 in
theorem ggX4_total_X0_flickering : GoodIn wsX4_total wsX0_flickering := goodIn_r _ [29, 30, 31, 32, 17, 33, 34, 35, 36, 100, 101, 102, 103, 104, 105, 106, 107, 108, 109] (by decide +kernel) (by decide +kernel)
set_option maxRecDepth 20000 in
theorem gX4_total_X0_flickering : GoodIn wsX4_total (wsV RX4 244 RX0 yX0_flickering wsX0_flickering) := goodIn_app (goodIn_of _ (by decide +kernel)) ggX4_total_X0_flickering
set_option maxRecDepth 20000 in
theorem ggX4_total_X0_seen : GoodIn wsX4_total wsX0_seen := goodIn_r _ [40, 41, 42, 43, 17, 44, 45, 46, 47, 48, 49, 19, 34, 30, 31, 32, 33, 35, 36, 100, 101, 102, 103, 104, 105, 106, 107, 108, 109] (by decide +kernel) (by decide +kernel)
set_option maxRecDepth 20000 in
theorem gX4_total_X0_seen : GoodIn wsX4_total (wsV RX4 247 RX0 yX0_seen wsX0_seen) := goodIn_app (goodIn_of _ (by decide +kernel)) ggX4_total_X0_seen
set_option maxRecDepth 20000 in
theorem ggX4_total_X4_clearDigits : GoodIn wsX4_total wsX4_clearDigits := goodIn_r _ [54, 55, 56, 57, 53, 58, 3, 1, 59, 42, 43, 17, 44, 45, 46, 47, 48, 49, 19, 34, 30, 31, 32, 33, 35, 36, 60, 61, 62, 11, 63, 64, 65, 66, 67, 68, 69, 70, 71, 72, 73, 74, 75, 76, 82, 83, 84, 85, 86, 100, 101, 102, 103, 104, 105, 106, 107, 108, 109, 87, 88, 89, 90, 91, 92, 93, 94, 95, 96] (by decide +kernel) (by decide +kernel)
set_option maxRecDepth 20000 in
theorem gX4_total_X4_clearDigits : GoodIn wsX4_total (wsV RX4 250 RX4 yX4_clearDigits wsX4_clearDigits) := goodIn_app (goodIn_of _ (by decide +kernel)) ggX4_total_X4_clearDigits
set_option maxRecDepth 20000 in
theorem ggX4_total_X2_burntSegments : GoodIn wsX4_total wsX2_burntSegments := goodIn_r _ [80, 64, 81, 71, 72, 73, 74, 75, 76, 87, 88, 89, 90, 91, 92, 93, 94, 95, 96] (by decide +kernel) (by decide +kernel)
set_option maxRecDepth 20000 in
theorem gX4_total_X2_burntSegments : GoodIn wsX4_total (wsV RX4 253 RX2 yX2_burntSegments wsX2_burntSegments) := goodIn_app (goodIn_of _ (by decide +kernel)) ggX4_total_X2_burntSegments
theorem dX4_total_0 : decode cX4_total 0 = .ok (.iload_n 1, 1) := by decide +kernel
theorem dX4_total_1 : decode cX4_total 1 = .ok (.tableswitch 132 0 9 #[55, 63, 71, 79, 87, 95, 103, 108, 116, 124], 55) := by decide +kernel
theorem dX4_total_56 : decode cX4_total 56 = .ok (.aload_n 0, 1) := by decide +kernel
theorem dX4_total_57 : decode cX4_total 57 = .ok (.getfield 10, 3) := by decide +kernel
theorem dX4_total_60 : decode cX4_total 60 = .ok (.getfield 99, 3) := by decide +kernel
theorem dX4_total_63 : decode cX4_total 63 = .ok (.ireturn, 1) := by decide +kernel
theorem dX4_total_64 : decode cX4_total 64 = .ok (.aload_n 0, 1) := by decide +kernel
theorem dX4_total_65 : decode cX4_total 65 = .ok (.getfield 10, 3) := by decide +kernel
theorem dX4_total_68 : decode cX4_total 68 = .ok (.invokevirtual 235, 3) := by decide +kernel
theorem dX4_total_71 : decode cX4_total 71 = .ok (.ireturn, 1) := by decide +kernel
theorem dX4_total_72 : decode cX4_total 72 = .ok (.aload_n 0, 1) := by decide +kernel
theorem dX4_total_73 : decode cX4_total 73 = .ok (.getfield 33, 3) := by decide +kernel
theorem dX4_total_76 : decode cX4_total 76 = .ok (.invokevirtual 238, 3) := by decide +kernel
theorem dX4_total_79 : decode cX4_total 79 = .ok (.ireturn, 1) := by decide +kernel
theorem dX4_total_80 : decode cX4_total 80 = .ok (.aload_n 0, 1) := by decide +kernel
theorem dX4_total_81 : decode cX4_total 81 = .ok (.getfield 33, 3) := by decide +kernel
theorem dX4_total_84 : decode cX4_total 84 = .ok (.invokevirtual 241, 3) := by decide +kernel
theorem dX4_total_87 : decode cX4_total 87 = .ok (.ireturn, 1) := by decide +kernel
theorem dX4_total_88 : decode cX4_total 88 = .ok (.aload_n 0, 1) := by decide +kernel
theorem dX4_total_89 : decode cX4_total 89 = .ok (.getfield 33, 3) := by decide +kernel
theorem dX4_total_92 : decode cX4_total 92 = .ok (.invokevirtual 244, 3) := by decide +kernel
theorem dX4_total_95 : decode cX4_total 95 = .ok (.ireturn, 1) := by decide +kernel
theorem dX4_total_96 : decode cX4_total 96 = .ok (.aload_n 0, 1) := by decide +kernel
theorem dX4_total_97 : decode cX4_total 97 = .ok (.getfield 33, 3) := by decide +kernel
theorem dX4_total_100 : decode cX4_total 100 = .ok (.invokevirtual 247, 3) := by decide +kernel
theorem dX4_total_103 : decode cX4_total 103 = .ok (.ireturn, 1) := by decide +kernel
theorem dX4_total_104 : decode cX4_total 104 = .ok (.aload_n 0, 1) := by decide +kernel
theorem dX4_total_105 : decode cX4_total 105 = .ok (.invokevirtual 250, 3) := by decide +kernel
theorem dX4_total_108 : decode cX4_total 108 = .ok (.ireturn, 1) := by decide +kernel
theorem dX4_total_109 : decode cX4_total 109 = .ok (.aload_n 0, 1) := by decide +kernel
theorem dX4_total_110 : decode cX4_total 110 = .ok (.getfield 10, 3) := by decide +kernel
theorem dX4_total_113 : decode cX4_total 113 = .ok (.invokevirtual 253, 3) := by decide +kernel
theorem dX4_total_116 : decode cX4_total 116 = .ok (.ireturn, 1) := by decide +kernel
theorem dX4_total_117 : decode cX4_total 117 = .ok (.aload_n 0, 1) := by decide +kernel
theorem dX4_total_118 : decode cX4_total 118 = .ok (.getfield 10, 3) := by decide +kernel
theorem dX4_total_121 : decode cX4_total 121 = .ok (.getfield 75, 3) := by decide +kernel
theorem dX4_total_124 : decode cX4_total 124 = .ok (.ireturn, 1) := by decide +kernel
theorem dX4_total_125 : decode cX4_total 125 = .ok (.aload_n 0, 1) := by decide +kernel
theorem dX4_total_126 : decode cX4_total 126 = .ok (.getfield 10, 3) := by decide +kernel
theorem dX4_total_129 : decode cX4_total 129 = .ok (.getfield 256, 3) := by decide +kernel
theorem dX4_total_132 : decode cX4_total 132 = .ok (.ireturn, 1) := by decide +kernel
theorem dX4_total_133 : decode cX4_total 133 = .ok (.aload_n 0, 1) := by decide +kernel
theorem dX4_total_134 : decode cX4_total 134 = .ok (.getfield 19, 3) := by decide +kernel
theorem dX4_total_137 : decode cX4_total 137 = .ok (.getfield 140, 3) := by decide +kernel
theorem dX4_total_140 : decode cX4_total 140 = .ok (.ireturn, 1) := by decide +kernel
set_option maxRecDepth 20000 in
theorem ggX4_isClear_X0_isSeen : GoodIn wsX4_isClear wsX0_isSeen := goodIn_r _ [7, 8, 9, 10, 11, 6, 12, 13, 14, 15, 16, 17, 18, 19, 20, 44, 45, 46, 47, 48, 49, 50, 51, 52, 53] (by decide +kernel) (by decide +kernel)
set_option maxRecDepth 20000 in
theorem gX4_isClear_X0_isSeen : GoodIn wsX4_isClear (wsV RX4 223 RX0 yX0_isSeen wsX0_isSeen) := goodIn_app (goodIn_of _ (by decide +kernel)) ggX4_isClear_X0_isSeen
set_option maxRecDepth 20000 in
theorem ggX4_isClear_X2_readableSigns : GoodIn wsX4_isClear wsX2_readableSigns := goodIn_r _ [25, 26, 27, 28, 29, 24, 30, 31, 54, 55, 56, 57, 58, 59, 60, 61, 62, 63] (by decide +kernel) (by decide +kernel)
set_option maxRecDepth 20000 in
theorem gX4_isClear_X2_readableSigns : GoodIn wsX4_isClear (wsV RX4 229 RX2 yX2_readableSigns wsX2_readableSigns) := goodIn_app (goodIn_of _ (by decide +kernel)) ggX4_isClear_X2_readableSigns
set_option maxRecDepth 20000 in
theorem ggX4_isClear_J6_bitCount_0f7a4 : GoodIn wsX4_isClear wsJ6_bitCount_0f7a4 := goodIn_r _ [35, 36, 37, 38] (by decide +kernel) (by decide +kernel)
set_option maxRecDepth 20000 in
theorem gX4_isClear_J6_bitCount_0f7a4 : GoodIn wsX4_isClear (va_wsS RX4 259 yJ6_bitCount_0f7a4 wsJ6_bitCount_0f7a4) := goodIn_app (goodIn_of _ (by decide +kernel)) ggX4_isClear_J6_bitCount_0f7a4
theorem dX4_isClear_0 : decode cX4_isClear 0 = .ok (.aload_n 0, 1) := by decide +kernel
theorem dX4_isClear_1 : decode cX4_isClear 1 = .ok (.getfield 33, 3) := by decide +kernel
theorem dX4_isClear_4 : decode cX4_isClear 4 = .ok (.iload_n 1, 1) := by decide +kernel
theorem dX4_isClear_5 : decode cX4_isClear 5 = .ok (.invokevirtual 223, 3) := by decide +kernel
theorem dX4_isClear_8 : decode cX4_isClear 8 = .ok (.ifCond .eq 22, 3) := by decide +kernel
theorem dX4_isClear_11 : decode cX4_isClear 11 = .ok (.aload_n 0, 1) := by decide +kernel
theorem dX4_isClear_12 : decode cX4_isClear 12 = .ok (.getfield 10, 3) := by decide +kernel
theorem dX4_isClear_15 : decode cX4_isClear 15 = .ok (.iload_n 1, 1) := by decide +kernel
theorem dX4_isClear_16 : decode cX4_isClear 16 = .ok (.invokevirtual 229, 3) := by decide +kernel
theorem dX4_isClear_19 : decode cX4_isClear 19 = .ok (.invokestatic 259, 3) := by decide +kernel
theorem dX4_isClear_22 : decode cX4_isClear 22 = .ok (.iconst 1, 1) := by decide +kernel
theorem dX4_isClear_23 : decode cX4_isClear 23 = .ok (.if_icmp .ne 7, 3) := by decide +kernel
theorem dX4_isClear_26 : decode cX4_isClear 26 = .ok (.iconst 1, 1) := by decide +kernel
theorem dX4_isClear_27 : decode cX4_isClear 27 = .ok (.goto 4, 3) := by decide +kernel
theorem dX4_isClear_30 : decode cX4_isClear 30 = .ok (.iconst 0, 1) := by decide +kernel
theorem dX4_isClear_31 : decode cX4_isClear 31 = .ok (.ireturn, 1) := by decide +kernel
set_option maxRecDepth 20000 in
theorem ggX4_clearDigits_X4_isClear : GoodIn wsX4_clearDigits wsX4_isClear := goodIn_r _ [5, 6, 7, 8, 9, 10, 11, 12, 13, 14, 15, 16, 17, 18, 19, 20, 21, 22, 23, 24, 25, 26, 27, 28, 29, 30, 31, 32, 33, 34, 35, 36, 37, 38, 39, 40, 41, 42, 43, 44, 45, 46, 47, 48, 49, 50, 51, 52, 53, 54, 55, 56, 57, 58, 59, 60, 61, 62, 63, 64, 65, 66, 67, 68] (by decide +kernel) (by decide +kernel)
set_option maxRecDepth 20000 in
theorem gX4_clearDigits_X4_isClear : GoodIn wsX4_clearDigits (wsV RX4 226 RX4 yX4_isClear wsX4_isClear) := goodIn_app (goodIn_of _ (by decide +kernel)) ggX4_clearDigits_X4_isClear
theorem dX4_clearDigits_0 : decode cX4_clearDigits 0 = .ok (.iconst 0, 1) := by decide +kernel
theorem dX4_clearDigits_1 : decode cX4_clearDigits 1 = .ok (.istore_n 1, 1) := by decide +kernel
theorem dX4_clearDigits_2 : decode cX4_clearDigits 2 = .ok (.iconst 0, 1) := by decide +kernel
theorem dX4_clearDigits_3 : decode cX4_clearDigits 3 = .ok (.istore_n 2, 1) := by decide +kernel
theorem dX4_clearDigits_4 : decode cX4_clearDigits 4 = .ok (.iload_n 2, 1) := by decide +kernel
theorem dX4_clearDigits_5 : decode cX4_clearDigits 5 = .ok (.bipush 6, 2) := by decide +kernel
theorem dX4_clearDigits_7 : decode cX4_clearDigits 7 = .ok (.if_icmp .ge 20, 3) := by decide +kernel
theorem dX4_clearDigits_10 : decode cX4_clearDigits 10 = .ok (.aload_n 0, 1) := by decide +kernel
theorem dX4_clearDigits_11 : decode cX4_clearDigits 11 = .ok (.iload_n 2, 1) := by decide +kernel
theorem dX4_clearDigits_12 : decode cX4_clearDigits 12 = .ok (.invokevirtual 226, 3) := by decide +kernel
theorem dX4_clearDigits_15 : decode cX4_clearDigits 15 = .ok (.ifCond .eq 6, 3) := by decide +kernel
theorem dX4_clearDigits_18 : decode cX4_clearDigits 18 = .ok (.iinc 1 1, 3) := by decide +kernel
theorem dX4_clearDigits_21 : decode cX4_clearDigits 21 = .ok (.iinc 2 1, 3) := by decide +kernel
theorem dX4_clearDigits_24 : decode cX4_clearDigits 24 = .ok (.goto (-20), 3) := by decide +kernel
theorem dX4_clearDigits_27 : decode cX4_clearDigits 27 = .ok (.iload_n 1, 1) := by decide +kernel
theorem dX4_clearDigits_28 : decode cX4_clearDigits 28 = .ok (.ireturn, 1) := by decide +kernel
set_option maxRecDepth 20000 in
theorem ggX4_clearNumber_X4_isClear : GoodIn wsX4_clearNumber wsX4_isClear := goodIn_r _ [7, 8, 1, 9, 10, 11, 12, 13, 14, 15, 16, 17, 18, 19, 20, 21, 22, 23, 24, 25, 26, 27, 28, 29, 30, 31, 32, 33, 34, 35, 36, 37, 38, 39, 40, 41, 42, 43, 44, 45, 46, 47, 48, 49, 60, 61, 62, 63, 64, 65, 66, 67, 68, 69, 50, 51, 52, 53, 54, 55, 56, 57, 58, 59] (by decide +kernel) (by decide +kernel)
set_option maxRecDepth 20000 in
theorem gX4_clearNumber_X4_isClear : GoodIn wsX4_clearNumber (wsV RX4 226 RX4 yX4_isClear wsX4_isClear) := goodIn_app (goodIn_of _ (by decide +kernel)) ggX4_clearNumber_X4_isClear
theorem dX4_clearNumber_0 : decode cX4_clearNumber 0 = .ok (.iconst 0, 1) := by decide +kernel
theorem dX4_clearNumber_1 : decode cX4_clearNumber 1 = .ok (.istore_n 1, 1) := by decide +kernel
theorem dX4_clearNumber_2 : decode cX4_clearNumber 2 = .ok (.iload_n 1, 1) := by decide +kernel
theorem dX4_clearNumber_3 : decode cX4_clearNumber 3 = .ok (.bipush 6, 2) := by decide +kernel
theorem dX4_clearNumber_5 : decode cX4_clearNumber 5 = .ok (.if_icmp .ge 23, 3) := by decide +kernel
theorem dX4_clearNumber_8 : decode cX4_clearNumber 8 = .ok (.aload_n 0, 1) := by decide +kernel
theorem dX4_clearNumber_9 : decode cX4_clearNumber 9 = .ok (.getfield 10, 3) := by decide +kernel
theorem dX4_clearNumber_12 : decode cX4_clearNumber 12 = .ok (.getfield 52, 3) := by decide +kernel
theorem dX4_clearNumber_15 : decode cX4_clearNumber 15 = .ok (.iload_n 1, 1) := by decide +kernel
theorem dX4_clearNumber_16 : decode cX4_clearNumber 16 = .ok (.iaload, 1) := by decide +kernel
theorem dX4_clearNumber_17 : decode cX4_clearNumber 17 = .ok (.bipush 11, 2) := by decide +kernel
theorem dX4_clearNumber_19 : decode cX4_clearNumber 19 = .ok (.if_icmp .ne 9, 3) := by decide +kernel
theorem dX4_clearNumber_22 : decode cX4_clearNumber 22 = .ok (.iinc 1 1, 3) := by decide +kernel
theorem dX4_clearNumber_25 : decode cX4_clearNumber 25 = .ok (.goto (-23), 3) := by decide +kernel
theorem dX4_clearNumber_28 : decode cX4_clearNumber 28 = .ok (.iload_n 1, 1) := by decide +kernel
theorem dX4_clearNumber_29 : decode cX4_clearNumber 29 = .ok (.bipush 6, 2) := by decide +kernel
theorem dX4_clearNumber_31 : decode cX4_clearNumber 31 = .ok (.if_icmp .ge 21, 3) := by decide +kernel
theorem dX4_clearNumber_34 : decode cX4_clearNumber 34 = .ok (.aload_n 0, 1) := by decide +kernel
theorem dX4_clearNumber_35 : decode cX4_clearNumber 35 = .ok (.getfield 10, 3) := by decide +kernel
theorem dX4_clearNumber_38 : decode cX4_clearNumber 38 = .ok (.getfield 52, 3) := by decide +kernel
theorem dX4_clearNumber_41 : decode cX4_clearNumber 41 = .ok (.iload_n 1, 1) := by decide +kernel
theorem dX4_clearNumber_42 : decode cX4_clearNumber 42 = .ok (.iaload, 1) := by decide +kernel
theorem dX4_clearNumber_43 : decode cX4_clearNumber 43 = .ok (.bipush 10, 2) := by decide +kernel
theorem dX4_clearNumber_45 : decode cX4_clearNumber 45 = .ok (.if_icmp .ne 7, 3) := by decide +kernel
theorem dX4_clearNumber_48 : decode cX4_clearNumber 48 = .ok (.iconst 1, 1) := by decide +kernel
theorem dX4_clearNumber_49 : decode cX4_clearNumber 49 = .ok (.goto 4, 3) := by decide +kernel
theorem dX4_clearNumber_52 : decode cX4_clearNumber 52 = .ok (.iconst 0, 1) := by decide +kernel
theorem dX4_clearNumber_53 : decode cX4_clearNumber 53 = .ok (.istore_n 2, 1) := by decide +kernel
theorem dX4_clearNumber_54 : decode cX4_clearNumber 54 = .ok (.iload_n 2, 1) := by decide +kernel
theorem dX4_clearNumber_55 : decode cX4_clearNumber 55 = .ok (.ifCond .eq 9, 3) := by decide +kernel
theorem dX4_clearNumber_58 : decode cX4_clearNumber 58 = .ok (.iload_n 1, 1) := by decide +kernel
theorem dX4_clearNumber_59 : decode cX4_clearNumber 59 = .ok (.iconst 1, 1) := by decide +kernel
theorem dX4_clearNumber_60 : decode cX4_clearNumber 60 = .ok (.iadd, 1) := by decide +kernel
theorem dX4_clearNumber_61 : decode cX4_clearNumber 61 = .ok (.goto 4, 3) := by decide +kernel
theorem dX4_clearNumber_64 : decode cX4_clearNumber 64 = .ok (.iload_n 1, 1) := by decide +kernel
theorem dX4_clearNumber_65 : decode cX4_clearNumber 65 = .ok (.istore_n 3, 1) := by decide +kernel
theorem dX4_clearNumber_66 : decode cX4_clearNumber 66 = .ok (.iload_n 3, 1) := by decide +kernel
theorem dX4_clearNumber_67 : decode cX4_clearNumber 67 = .ok (.bipush 6, 2) := by decide +kernel
theorem dX4_clearNumber_69 : decode cX4_clearNumber 69 = .ok (.if_icmp .ge 15, 3) := by decide +kernel
theorem dX4_clearNumber_72 : decode cX4_clearNumber 72 = .ok (.iload_n 2, 1) := by decide +kernel
theorem dX4_clearNumber_73 : decode cX4_clearNumber 73 = .ok (.ifCond .eq 13, 3) := by decide +kernel
theorem dX4_clearNumber_76 : decode cX4_clearNumber 76 = .ok (.aload_n 0, 1) := by decide +kernel
theorem dX4_clearNumber_77 : decode cX4_clearNumber 77 = .ok (.iload_n 1, 1) := by decide +kernel
theorem dX4_clearNumber_78 : decode cX4_clearNumber 78 = .ok (.invokevirtual 226, 3) := by decide +kernel
theorem dX4_clearNumber_81 : decode cX4_clearNumber 81 = .ok (.ifCond .ne 5, 3) := by decide +kernel
theorem dX4_clearNumber_84 : decode cX4_clearNumber 84 = .ok (.iconst (-1), 1) := by decide +kernel
theorem dX4_clearNumber_85 : decode cX4_clearNumber 85 = .ok (.ireturn, 1) := by decide +kernel
theorem dX4_clearNumber_86 : decode cX4_clearNumber 86 = .ok (.iconst 0, 1) := by decide +kernel
theorem dX4_clearNumber_87 : decode cX4_clearNumber 87 = .ok (.istore 4, 2) := by decide +kernel
theorem dX4_clearNumber_89 : decode cX4_clearNumber 89 = .ok (.iload_n 3, 1) := by decide +kernel
theorem dX4_clearNumber_90 : decode cX4_clearNumber 90 = .ok (.istore 5, 2) := by decide +kernel
theorem dX4_clearNumber_92 : decode cX4_clearNumber 92 = .ok (.iload 5, 2) := by decide +kernel
theorem dX4_clearNumber_94 : decode cX4_clearNumber 94 = .ok (.bipush 6, 2) := by decide +kernel
theorem dX4_clearNumber_96 : decode cX4_clearNumber 96 = .ok (.if_icmp .ge 53, 3) := by decide +kernel
theorem dX4_clearNumber_99 : decode cX4_clearNumber 99 = .ok (.aload_n 0, 1) := by decide +kernel
theorem dX4_clearNumber_100 : decode cX4_clearNumber 100 = .ok (.getfield 10, 3) := by decide +kernel
theorem dX4_clearNumber_103 : decode cX4_clearNumber 103 = .ok (.getfield 52, 3) := by decide +kernel
theorem dX4_clearNumber_106 : decode cX4_clearNumber 106 = .ok (.iload 5, 2) := by decide +kernel
theorem dX4_clearNumber_108 : decode cX4_clearNumber 108 = .ok (.iaload, 1) := by decide +kernel
theorem dX4_clearNumber_109 : decode cX4_clearNumber 109 = .ok (.bipush 9, 2) := by decide +kernel
theorem dX4_clearNumber_111 : decode cX4_clearNumber 111 = .ok (.if_icmp .gt 12, 3) := by decide +kernel
theorem dX4_clearNumber_114 : decode cX4_clearNumber 114 = .ok (.aload_n 0, 1) := by decide +kernel
theorem dX4_clearNumber_115 : decode cX4_clearNumber 115 = .ok (.iload 5, 2) := by decide +kernel
theorem dX4_clearNumber_117 : decode cX4_clearNumber 117 = .ok (.invokevirtual 226, 3) := by decide +kernel
theorem dX4_clearNumber_120 : decode cX4_clearNumber 120 = .ok (.ifCond .ne 5, 3) := by decide +kernel
theorem dX4_clearNumber_123 : decode cX4_clearNumber 123 = .ok (.iconst (-1), 1) := by decide +kernel
theorem dX4_clearNumber_124 : decode cX4_clearNumber 124 = .ok (.ireturn, 1) := by decide +kernel
theorem dX4_clearNumber_125 : decode cX4_clearNumber 125 = .ok (.bipush 10, 2) := by decide +kernel
theorem dX4_clearNumber_127 : decode cX4_clearNumber 127 = .ok (.iload 4, 2) := by decide +kernel
theorem dX4_clearNumber_129 : decode cX4_clearNumber 129 = .ok (.imul, 1) := by decide +kernel
theorem dX4_clearNumber_130 : decode cX4_clearNumber 130 = .ok (.aload_n 0, 1) := by decide +kernel
theorem dX4_clearNumber_131 : decode cX4_clearNumber 131 = .ok (.getfield 10, 3) := by decide +kernel
theorem dX4_clearNumber_134 : decode cX4_clearNumber 134 = .ok (.getfield 52, 3) := by decide +kernel
theorem dX4_clearNumber_137 : decode cX4_clearNumber 137 = .ok (.iload 5, 2) := by decide +kernel
theorem dX4_clearNumber_139 : decode cX4_clearNumber 139 = .ok (.iaload, 1) := by decide +kernel
theorem dX4_clearNumber_140 : decode cX4_clearNumber 140 = .ok (.iadd, 1) := by decide +kernel
theorem dX4_clearNumber_141 : decode cX4_clearNumber 141 = .ok (.istore 4, 2) := by decide +kernel
theorem dX4_clearNumber_143 : decode cX4_clearNumber 143 = .ok (.iinc 5 1, 3) := by decide +kernel
theorem dX4_clearNumber_146 : decode cX4_clearNumber 146 = .ok (.goto (-54), 3) := by decide +kernel
theorem dX4_clearNumber_149 : decode cX4_clearNumber 149 = .ok (.iload_n 2, 1) := by decide +kernel
theorem dX4_clearNumber_150 : decode cX4_clearNumber 150 = .ok (.ifCond .eq 9, 3) := by decide +kernel
theorem dX4_clearNumber_153 : decode cX4_clearNumber 153 = .ok (.iload 4, 2) := by decide +kernel
theorem dX4_clearNumber_155 : decode cX4_clearNumber 155 = .ok (.ineg, 1) := by decide +kernel
theorem dX4_clearNumber_156 : decode cX4_clearNumber 156 = .ok (.goto 5, 3) := by decide +kernel
theorem dX4_clearNumber_159 : decode cX4_clearNumber 159 = .ok (.iload 4, 2) := by decide +kernel
theorem dX4_clearNumber_161 : decode cX4_clearNumber 161 = .ok (.ireturn, 1) := by decide +kernel
set_option maxRecDepth 20000 in
theorem ggX4_lightShare_X0_lightOf : GoodIn wsX4_lightShare wsX0_lightOf := goodIn_r _ [15, 16, 17, 33, 34, 35, 36, 37, 38, 39, 40, 41, 42] (by decide +kernel) (by decide +kernel)
set_option maxRecDepth 20000 in
theorem gX4_lightShare_X0_lightOf : GoodIn wsX4_lightShare (wsV RX4 214 RX0 yX0_lightOf wsX0_lightOf) := goodIn_app (goodIn_of _ (by decide +kernel)) ggX4_lightShare_X0_lightOf
theorem dX4_lightShare_0 : decode cX4_lightShare 0 = .ok (.sipush 1000, 3) := by decide +kernel
theorem dX4_lightShare_3 : decode cX4_lightShare 3 = .ok (.istore_n 1, 1) := by decide +kernel
theorem dX4_lightShare_4 : decode cX4_lightShare 4 = .ok (.iconst 0, 1) := by decide +kernel
theorem dX4_lightShare_5 : decode cX4_lightShare 5 = .ok (.istore_n 2, 1) := by decide +kernel
theorem dX4_lightShare_6 : decode cX4_lightShare 6 = .ok (.iconst 0, 1) := by decide +kernel
theorem dX4_lightShare_7 : decode cX4_lightShare 7 = .ok (.istore_n 3, 1) := by decide +kernel
theorem dX4_lightShare_8 : decode cX4_lightShare 8 = .ok (.iload_n 3, 1) := by decide +kernel
theorem dX4_lightShare_9 : decode cX4_lightShare 9 = .ok (.bipush 6, 2) := by decide +kernel
theorem dX4_lightShare_11 : decode cX4_lightShare 11 = .ok (.if_icmp .ge 45, 3) := by decide +kernel
theorem dX4_lightShare_14 : decode cX4_lightShare 14 = .ok (.aload_n 0, 1) := by decide +kernel
theorem dX4_lightShare_15 : decode cX4_lightShare 15 = .ok (.getfield 10, 3) := by decide +kernel
theorem dX4_lightShare_18 : decode cX4_lightShare 18 = .ok (.getfield 56, 3) := by decide +kernel
theorem dX4_lightShare_21 : decode cX4_lightShare 21 = .ok (.iload_n 3, 1) := by decide +kernel
theorem dX4_lightShare_22 : decode cX4_lightShare 22 = .ok (.iaload, 1) := by decide +kernel
theorem dX4_lightShare_23 : decode cX4_lightShare 23 = .ok (.ifCond .le 27, 3) := by decide +kernel
theorem dX4_lightShare_26 : decode cX4_lightShare 26 = .ok (.aload_n 0, 1) := by decide +kernel
theorem dX4_lightShare_27 : decode cX4_lightShare 27 = .ok (.getfield 33, 3) := by decide +kernel
theorem dX4_lightShare_30 : decode cX4_lightShare 30 = .ok (.iload_n 3, 1) := by decide +kernel
theorem dX4_lightShare_31 : decode cX4_lightShare 31 = .ok (.invokevirtual 214, 3) := by decide +kernel
theorem dX4_lightShare_34 : decode cX4_lightShare 34 = .ok (.istore 4, 2) := by decide +kernel
theorem dX4_lightShare_36 : decode cX4_lightShare 36 = .ok (.iload_n 1, 1) := by decide +kernel
theorem dX4_lightShare_37 : decode cX4_lightShare 37 = .ok (.iload 4, 2) := by decide +kernel
theorem dX4_lightShare_39 : decode cX4_lightShare 39 = .ok (.invokestatic 264, 3) := by decide +kernel
theorem dX4_lightShare_42 : decode cX4_lightShare 42 = .ok (.istore_n 1, 1) := by decide +kernel
theorem dX4_lightShare_43 : decode cX4_lightShare 43 = .ok (.iload_n 2, 1) := by decide +kernel
theorem dX4_lightShare_44 : decode cX4_lightShare 44 = .ok (.iload 4, 2) := by decide +kernel
theorem dX4_lightShare_46 : decode cX4_lightShare 46 = .ok (.invokestatic 269, 3) := by decide +kernel
theorem dX4_lightShare_49 : decode cX4_lightShare 49 = .ok (.istore_n 2, 1) := by decide +kernel
theorem dX4_lightShare_50 : decode cX4_lightShare 50 = .ok (.iinc 3 1, 3) := by decide +kernel
theorem dX4_lightShare_53 : decode cX4_lightShare 53 = .ok (.goto (-45), 3) := by decide +kernel
theorem dX4_lightShare_56 : decode cX4_lightShare 56 = .ok (.iload_n 2, 1) := by decide +kernel
theorem dX4_lightShare_57 : decode cX4_lightShare 57 = .ok (.ifCond .le 11, 3) := by decide +kernel
theorem dX4_lightShare_60 : decode cX4_lightShare 60 = .ok (.iload_n 1, 1) := by decide +kernel
theorem dX4_lightShare_61 : decode cX4_lightShare 61 = .ok (.i2d, 1) := by decide +kernel
theorem dX4_lightShare_62 : decode cX4_lightShare 62 = .ok (.iload_n 2, 1) := by decide +kernel
theorem dX4_lightShare_63 : decode cX4_lightShare 63 = .ok (.i2d, 1) := by decide +kernel
theorem dX4_lightShare_64 : decode cX4_lightShare 64 = .ok (.ddiv, 1) := by decide +kernel
theorem dX4_lightShare_65 : decode cX4_lightShare 65 = .ok (.goto 4, 3) := by decide +kernel
theorem dX4_lightShare_68 : decode cX4_lightShare 68 = .ok (.dconst 1, 1) := by decide +kernel
theorem dX4_lightShare_69 : decode cX4_lightShare 69 = .ok (.dreturn, 1) := by decide +kernel
set_option maxRecDepth 20000 in
theorem ggX4_trialNumber_X0_lightOf : GoodIn wsX4_trialNumber wsX0_lightOf := goodIn_r _ [6, 7, 8, 34, 35, 36, 37, 38, 39, 40, 41, 42, 43] (by decide +kernel) (by decide +kernel)
set_option maxRecDepth 20000 in
theorem gX4_trialNumber_X0_lightOf : GoodIn wsX4_trialNumber (wsV RX4 214 RX0 yX0_lightOf wsX0_lightOf) := goodIn_app (goodIn_of _ (by decide +kernel)) ggX4_trialNumber_X0_lightOf
set_option maxRecDepth 20000 in
theorem ggX4_trialNumber_X0_seen : GoodIn wsX4_trialNumber wsX0_seen := goodIn_r _ [12, 13, 14, 15, 5, 16, 17, 18, 3, 4, 6, 7, 8, 19, 20, 21, 22, 23, 24, 34, 35, 36, 37, 38, 39, 40, 41, 42, 43] (by decide +kernel) (by decide +kernel)
set_option maxRecDepth 20000 in
theorem gX4_trialNumber_X0_seen : GoodIn wsX4_trialNumber (wsV RX4 247 RX0 yX0_seen wsX0_seen) := goodIn_app (goodIn_of _ (by decide +kernel)) ggX4_trialNumber_X0_seen
set_option maxRecDepth 20000 in
theorem ggX4_trialNumber_X0_flickering : GoodIn wsX4_trialNumber wsX0_flickering := goodIn_r _ [28, 19, 20, 21, 5, 22, 8, 23, 24, 34, 35, 36, 37, 38, 39, 40, 41, 42, 43] (by decide +kernel) (by decide +kernel)
set_option maxRecDepth 20000 in
theorem gX4_trialNumber_X0_flickering : GoodIn wsX4_trialNumber (wsV RX4 244 RX0 yX0_flickering wsX0_flickering) := goodIn_app (goodIn_of _ (by decide +kernel)) ggX4_trialNumber_X0_flickering
theorem dX4_trialNumber_0 : decode cX4_trialNumber 0 = .ok (.iload_n 2, 1) := by decide +kernel
theorem dX4_trialNumber_1 : decode cX4_trialNumber 1 = .ok (.lookupswitch 44 #[(0, 27), (1, 36)], 27) := by decide +kernel
theorem dX4_trialNumber_28 : decode cX4_trialNumber 28 = .ok (.aload_n 0, 1) := by decide +kernel
theorem dX4_trialNumber_29 : decode cX4_trialNumber 29 = .ok (.getfield 37, 3) := by decide +kernel
theorem dX4_trialNumber_32 : decode cX4_trialNumber 32 = .ok (.iload_n 1, 1) := by decide +kernel
theorem dX4_trialNumber_33 : decode cX4_trialNumber 33 = .ok (.invokevirtual 214, 3) := by decide +kernel
theorem dX4_trialNumber_36 : decode cX4_trialNumber 36 = .ok (.ireturn, 1) := by decide +kernel
theorem dX4_trialNumber_37 : decode cX4_trialNumber 37 = .ok (.aload_n 0, 1) := by decide +kernel
theorem dX4_trialNumber_38 : decode cX4_trialNumber 38 = .ok (.getfield 37, 3) := by decide +kernel
theorem dX4_trialNumber_41 : decode cX4_trialNumber 41 = .ok (.invokevirtual 247, 3) := by decide +kernel
theorem dX4_trialNumber_44 : decode cX4_trialNumber 44 = .ok (.ireturn, 1) := by decide +kernel
theorem dX4_trialNumber_45 : decode cX4_trialNumber 45 = .ok (.aload_n 0, 1) := by decide +kernel
theorem dX4_trialNumber_46 : decode cX4_trialNumber 46 = .ok (.getfield 37, 3) := by decide +kernel
theorem dX4_trialNumber_49 : decode cX4_trialNumber 49 = .ok (.invokevirtual 244, 3) := by decide +kernel
theorem dX4_trialNumber_52 : decode cX4_trialNumber 52 = .ok (.ireturn, 1) := by decide +kernel
set_option maxRecDepth 20000 in
theorem ggX4_leastSeenLevel_X0_foreseeLevel : GoodIn wsX4_leastSeenLevel wsX0_foreseeLevel := goodIn_r _ [7, 8, 9, 10, 11, 12, 13, 14, 15, 16, 17, 18, 19, 20, 21, 6, 22, 23, 24, 25, 26, 27, 28, 29, 30, 31, 32, 33, 34, 35, 36, 37, 38, 39, 40, 41, 42, 43, 44, 45, 46, 64, 65, 66, 67, 68, 69, 70, 71, 72, 73, 74, 75, 76, 77, 78, 79, 80, 81, 82, 83] (by decide +kernel) (by decide +kernel)
set_option maxRecDepth 20000 in
theorem gX4_leastSeenLevel_X0_foreseeLevel : GoodIn wsX4_leastSeenLevel (wsV RX4 163 RX0 yX0_foreseeLevel wsX0_foreseeLevel) := goodIn_app (goodIn_of _ (by decide +kernel)) ggX4_leastSeenLevel_X0_foreseeLevel
set_option maxRecDepth 20000 in
theorem ggX4_leastSeenLevel_X0_isSeen : GoodIn wsX4_leastSeenLevel wsX0_isSeen := goodIn_r _ [50, 27, 51, 52, 53, 6, 54, 24, 29, 55, 56, 57, 58, 28, 25, 74, 75, 76, 77, 78, 79, 80, 81, 82, 83] (by decide +kernel) (by decide +kernel)
set_option maxRecDepth 20000 in
theorem gX4_leastSeenLevel_X0_isSeen : GoodIn wsX4_leastSeenLevel (wsV RX4 223 RX0 yX0_isSeen wsX0_isSeen) := goodIn_app (goodIn_of _ (by decide +kernel)) ggX4_leastSeenLevel_X0_isSeen
theorem dX4_leastSeenLevel_0 : decode cX4_leastSeenLevel 0 = .ok (.iconst 0, 1) := by decide +kernel
theorem dX4_leastSeenLevel_1 : decode cX4_leastSeenLevel 1 = .ok (.istore_n 2, 1) := by decide +kernel
theorem dX4_leastSeenLevel_2 : decode cX4_leastSeenLevel 2 = .ok (.iload_n 2, 1) := by decide +kernel
theorem dX4_leastSeenLevel_3 : decode cX4_leastSeenLevel 3 = .ok (.bipush 15, 2) := by decide +kernel
theorem dX4_leastSeenLevel_5 : decode cX4_leastSeenLevel 5 = .ok (.if_icmp .gt 35, 3) := by decide +kernel
theorem dX4_leastSeenLevel_8 : decode cX4_leastSeenLevel 8 = .ok (.aload_n 0, 1) := by decide +kernel
theorem dX4_leastSeenLevel_9 : decode cX4_leastSeenLevel 9 = .ok (.getfield 37, 3) := by decide +kernel
theorem dX4_leastSeenLevel_12 : decode cX4_leastSeenLevel 12 = .ok (.aload_n 0, 1) := by decide +kernel
theorem dX4_leastSeenLevel_13 : decode cX4_leastSeenLevel 13 = .ok (.getfield 10, 3) := by decide +kernel
theorem dX4_leastSeenLevel_16 : decode cX4_leastSeenLevel 16 = .ok (.iload_n 1, 1) := by decide +kernel
theorem dX4_leastSeenLevel_17 : decode cX4_leastSeenLevel 17 = .ok (.iload_n 2, 1) := by decide +kernel
theorem dX4_leastSeenLevel_18 : decode cX4_leastSeenLevel 18 = .ok (.invokevirtual 163, 3) := by decide +kernel
theorem dX4_leastSeenLevel_21 : decode cX4_leastSeenLevel 21 = .ok (.aload_n 0, 1) := by decide +kernel
theorem dX4_leastSeenLevel_22 : decode cX4_leastSeenLevel 22 = .ok (.getfield 37, 3) := by decide +kernel
theorem dX4_leastSeenLevel_25 : decode cX4_leastSeenLevel 25 = .ok (.iload_n 1, 1) := by decide +kernel
theorem dX4_leastSeenLevel_26 : decode cX4_leastSeenLevel 26 = .ok (.invokevirtual 223, 3) := by decide +kernel
theorem dX4_leastSeenLevel_29 : decode cX4_leastSeenLevel 29 = .ok (.ifCond .eq 5, 3) := by decide +kernel
theorem dX4_leastSeenLevel_32 : decode cX4_leastSeenLevel 32 = .ok (.iload_n 2, 1) := by decide +kernel
theorem dX4_leastSeenLevel_33 : decode cX4_leastSeenLevel 33 = .ok (.ireturn, 1) := by decide +kernel
theorem dX4_leastSeenLevel_34 : decode cX4_leastSeenLevel 34 = .ok (.iinc 2 1, 3) := by decide +kernel
theorem dX4_leastSeenLevel_37 : decode cX4_leastSeenLevel 37 = .ok (.goto (-35), 3) := by decide +kernel
theorem dX4_leastSeenLevel_40 : decode cX4_leastSeenLevel 40 = .ok (.iconst (-1), 1) := by decide +kernel
theorem dX4_leastSeenLevel_41 : decode cX4_leastSeenLevel 41 = .ok (.ireturn, 1) := by decide +kernel
theorem dX4_alikePairs_0 : decode cX4_alikePairs 0 = .ok (.aload_n 0, 1) := by decide +kernel
theorem dX4_alikePairs_1 : decode cX4_alikePairs 1 = .ok (.getfield 10, 3) := by decide +kernel
theorem dX4_alikePairs_4 : decode cX4_alikePairs 4 = .ok (.getfield 65, 3) := by decide +kernel
theorem dX4_alikePairs_7 : decode cX4_alikePairs 7 = .ok (.iload_n 1, 1) := by decide +kernel
theorem dX4_alikePairs_8 : decode cX4_alikePairs 8 = .ok (.iaload, 1) := by decide +kernel
theorem dX4_alikePairs_9 : decode cX4_alikePairs 9 = .ok (.iconst (-1), 1) := by decide +kernel
theorem dX4_alikePairs_10 : decode cX4_alikePairs 10 = .ok (.ixor, 1) := by decide +kernel
theorem dX4_alikePairs_11 : decode cX4_alikePairs 11 = .ok (.istore_n 2, 1) := by decide +kernel
theorem dX4_alikePairs_12 : decode cX4_alikePairs 12 = .ok (.iconst 0, 1) := by decide +kernel
theorem dX4_alikePairs_13 : decode cX4_alikePairs 13 = .ok (.istore_n 3, 1) := by decide +kernel
theorem dX4_alikePairs_14 : decode cX4_alikePairs 14 = .ok (.iconst 0, 1) := by decide +kernel
theorem dX4_alikePairs_15 : decode cX4_alikePairs 15 = .ok (.istore 4, 2) := by decide +kernel
theorem dX4_alikePairs_17 : decode cX4_alikePairs 17 = .ok (.iload 4, 2) := by decide +kernel
theorem dX4_alikePairs_19 : decode cX4_alikePairs 19 = .ok (.bipush 12, 2) := by decide +kernel
theorem dX4_alikePairs_21 : decode cX4_alikePairs 21 = .ok (.if_icmp .ge 50, 3) := by decide +kernel
theorem dX4_alikePairs_24 : decode cX4_alikePairs 24 = .ok (.iload 4, 2) := by decide +kernel
theorem dX4_alikePairs_26 : decode cX4_alikePairs 26 = .ok (.iconst 1, 1) := by decide +kernel
theorem dX4_alikePairs_27 : decode cX4_alikePairs 27 = .ok (.iadd, 1) := by decide +kernel
theorem dX4_alikePairs_28 : decode cX4_alikePairs 28 = .ok (.istore 5, 2) := by decide +kernel
theorem dX4_alikePairs_30 : decode cX4_alikePairs 30 = .ok (.iload 5, 2) := by decide +kernel
theorem dX4_alikePairs_32 : decode cX4_alikePairs 32 = .ok (.bipush 12, 2) := by decide +kernel
theorem dX4_alikePairs_34 : decode cX4_alikePairs 34 = .ok (.if_icmp .ge 31, 3) := by decide +kernel
theorem dX4_alikePairs_37 : decode cX4_alikePairs 37 = .ok (.getstatic 272, 3) := by decide +kernel
theorem dX4_alikePairs_40 : decode cX4_alikePairs 40 = .ok (.iload 4, 2) := by decide +kernel
theorem dX4_alikePairs_42 : decode cX4_alikePairs 42 = .ok (.iaload, 1) := by decide +kernel
theorem dX4_alikePairs_43 : decode cX4_alikePairs 43 = .ok (.iload_n 2, 1) := by decide +kernel
theorem dX4_alikePairs_44 : decode cX4_alikePairs 44 = .ok (.iand, 1) := by decide +kernel
theorem dX4_alikePairs_45 : decode cX4_alikePairs 45 = .ok (.getstatic 272, 3) := by decide +kernel
theorem dX4_alikePairs_48 : decode cX4_alikePairs 48 = .ok (.iload 5, 2) := by decide +kernel
theorem dX4_alikePairs_50 : decode cX4_alikePairs 50 = .ok (.iaload, 1) := by decide +kernel
theorem dX4_alikePairs_51 : decode cX4_alikePairs 51 = .ok (.iload_n 2, 1) := by decide +kernel
theorem dX4_alikePairs_52 : decode cX4_alikePairs 52 = .ok (.iand, 1) := by decide +kernel
theorem dX4_alikePairs_53 : decode cX4_alikePairs 53 = .ok (.if_icmp .ne 6, 3) := by decide +kernel
theorem dX4_alikePairs_56 : decode cX4_alikePairs 56 = .ok (.iinc 3 1, 3) := by decide +kernel
theorem dX4_alikePairs_59 : decode cX4_alikePairs 59 = .ok (.iinc 5 1, 3) := by decide +kernel
theorem dX4_alikePairs_62 : decode cX4_alikePairs 62 = .ok (.goto (-32), 3) := by decide +kernel
theorem dX4_alikePairs_65 : decode cX4_alikePairs 65 = .ok (.iinc 4 1, 3) := by decide +kernel
theorem dX4_alikePairs_68 : decode cX4_alikePairs 68 = .ok (.goto (-51), 3) := by decide +kernel
theorem dX4_alikePairs_71 : decode cX4_alikePairs 71 = .ok (.iload_n 3, 1) := by decide +kernel
theorem dX4_alikePairs_72 : decode cX4_alikePairs 72 = .ok (.ireturn, 1) := by decide +kernel
theorem dX4_requireDigit_0 : decode cX4_requireDigit 0 = .ok (.iload_n 0, 1) := by decide +kernel
theorem dX4_requireDigit_1 : decode cX4_requireDigit 1 = .ok (.ifCond .lt 9, 3) := by decide +kernel
theorem dX4_requireDigit_4 : decode cX4_requireDigit 4 = .ok (.iload_n 0, 1) := by decide +kernel
theorem dX4_requireDigit_5 : decode cX4_requireDigit 5 = .ok (.bipush 6, 2) := by decide +kernel
theorem dX4_requireDigit_7 : decode cX4_requireDigit 7 = .ok (.if_icmp .lt 14, 3) := by decide +kernel
theorem dX4_requireDigit_10 : decode cX4_requireDigit 10 = .ok (.new 275, 3) := by decide +kernel
theorem dX4_requireDigit_13 : decode cX4_requireDigit 13 = .ok (.dup, 1) := by decide +kernel
theorem dX4_requireDigit_14 : decode cX4_requireDigit 14 = .ok (.ldc_w 277, 3) := by decide +kernel
theorem dX4_requireDigit_17 : decode cX4_requireDigit 17 = .ok (.invokespecial 279, 3) := by decide +kernel
theorem dX4_requireDigit_20 : decode cX4_requireDigit 20 = .ok (.athrow, 1) := by decide +kernel
theorem dX4_requireDigit_21 : decode cX4_requireDigit 21 = .ok (.return_, 1) := by decide +kernel
theorem dX4_requireSegment_0 : decode cX4_requireSegment 0 = .ok (.iload_n 0, 1) := by decide +kernel
theorem dX4_requireSegment_1 : decode cX4_requireSegment 1 = .ok (.ifCond .lt 9, 3) := by decide +kernel
theorem dX4_requireSegment_4 : decode cX4_requireSegment 4 = .ok (.iload_n 0, 1) := by decide +kernel
theorem dX4_requireSegment_5 : decode cX4_requireSegment 5 = .ok (.bipush 7, 2) := by decide +kernel
theorem dX4_requireSegment_7 : decode cX4_requireSegment 7 = .ok (.if_icmp .lt 14, 3) := by decide +kernel
theorem dX4_requireSegment_10 : decode cX4_requireSegment 10 = .ok (.new 275, 3) := by decide +kernel
theorem dX4_requireSegment_13 : decode cX4_requireSegment 13 = .ok (.dup, 1) := by decide +kernel
theorem dX4_requireSegment_14 : decode cX4_requireSegment 14 = .ok (.ldc_w 280, 3) := by decide +kernel
theorem dX4_requireSegment_17 : decode cX4_requireSegment 17 = .ok (.invokespecial 279, 3) := by decide +kernel
theorem dX4_requireSegment_20 : decode cX4_requireSegment 20 = .ok (.athrow, 1) := by decide +kernel
theorem dX4_requireSegment_21 : decode cX4_requireSegment 21 = .ok (.return_, 1) := by decide +kernel
theorem dX4_requireSetting_0 : decode cX4_requireSetting 0 = .ok (.iload_n 0, 1) := by decide +kernel
theorem dX4_requireSetting_1 : decode cX4_requireSetting 1 = .ok (.ifCond .lt 8, 3) := by decide +kernel
theorem dX4_requireSetting_4 : decode cX4_requireSetting 4 = .ok (.iload_n 0, 1) := by decide +kernel
theorem dX4_requireSetting_5 : decode cX4_requireSetting 5 = .ok (.iconst 5, 1) := by decide +kernel
theorem dX4_requireSetting_6 : decode cX4_requireSetting 6 = .ok (.if_icmp .lt 14, 3) := by decide +kernel
theorem dX4_requireSetting_9 : decode cX4_requireSetting 9 = .ok (.new 275, 3) := by decide +kernel
theorem dX4_requireSetting_12 : decode cX4_requireSetting 12 = .ok (.dup, 1) := by decide +kernel
theorem dX4_requireSetting_13 : decode cX4_requireSetting 13 = .ok (.ldc_w 282, 3) := by decide +kernel
theorem dX4_requireSetting_16 : decode cX4_requireSetting 16 = .ok (.invokespecial 279, 3) := by decide +kernel
theorem dX4_requireSetting_19 : decode cX4_requireSetting 19 = .ok (.athrow, 1) := by decide +kernel
theorem dX4_requireSetting_20 : decode cX4_requireSetting 20 = .ok (.return_, 1) := by decide +kernel
theorem dX4_requireRange_0 : decode cX4_requireRange 0 = .ok (.iload_n 0, 1) := by decide +kernel
theorem dX4_requireRange_1 : decode cX4_requireRange 1 = .ok (.iload_n 1, 1) := by decide +kernel
theorem dX4_requireRange_2 : decode cX4_requireRange 2 = .ok (.if_icmp .lt 8, 3) := by decide +kernel
theorem dX4_requireRange_5 : decode cX4_requireRange 5 = .ok (.iload_n 0, 1) := by decide +kernel
theorem dX4_requireRange_6 : decode cX4_requireRange 6 = .ok (.iload_n 2, 1) := by decide +kernel
theorem dX4_requireRange_7 : decode cX4_requireRange 7 = .ok (.if_icmp .le 14, 3) := by decide +kernel
theorem dX4_requireRange_10 : decode cX4_requireRange 10 = .ok (.new 130, 3) := by decide +kernel
theorem dX4_requireRange_13 : decode cX4_requireRange 13 = .ok (.dup, 1) := by decide +kernel
theorem dX4_requireRange_14 : decode cX4_requireRange 14 = .ok (.ldc_w 284, 3) := by decide +kernel
theorem dX4_requireRange_17 : decode cX4_requireRange 17 = .ok (.invokespecial 134, 3) := by decide +kernel
theorem dX4_requireRange_20 : decode cX4_requireRange 20 = .ok (.athrow, 1) := by decide +kernel
theorem dX4_requireRange_21 : decode cX4_requireRange 21 = .ok (.return_, 1) := by decide +kernel
theorem dX4_wearPlace_0 : decode cX4_wearPlace 0 = .ok (.iload_n 0, 1) := by decide +kernel
theorem dX4_wearPlace_1 : decode cX4_wearPlace 1 = .ok (.bipush 7, 2) := by decide +kernel
theorem dX4_wearPlace_3 : decode cX4_wearPlace 3 = .ok (.imul, 1) := by decide +kernel
theorem dX4_wearPlace_4 : decode cX4_wearPlace 4 = .ok (.iload_n 1, 1) := by decide +kernel
theorem dX4_wearPlace_5 : decode cX4_wearPlace 5 = .ok (.iadd, 1) := by decide +kernel
theorem dX4_wearPlace_6 : decode cX4_wearPlace 6 = .ok (.ireturn, 1) := by decide +kernel
theorem dX4_magnitude_0 : decode cX4_magnitude 0 = .ok (.iload_n 0, 1) := by decide +kernel
theorem dX4_magnitude_1 : decode cX4_magnitude 1 = .ok (.ifCond .ge 9, 3) := by decide +kernel
theorem dX4_magnitude_4 : decode cX4_magnitude 4 = .ok (.iload_n 0, 1) := by decide +kernel
theorem dX4_magnitude_5 : decode cX4_magnitude 5 = .ok (.i2l, 1) := by decide +kernel
theorem dX4_magnitude_6 : decode cX4_magnitude 6 = .ok (.lneg, 1) := by decide +kernel
theorem dX4_magnitude_7 : decode cX4_magnitude 7 = .ok (.goto 5, 3) := by decide +kernel
theorem dX4_magnitude_10 : decode cX4_magnitude 10 = .ok (.iload_n 0, 1) := by decide +kernel
theorem dX4_magnitude_11 : decode cX4_magnitude 11 = .ok (.i2l, 1) := by decide +kernel
theorem dX4_magnitude_12 : decode cX4_magnitude 12 = .ok (.lreturn, 1) := by decide +kernel
set_option maxRecDepth 20000 in
theorem ggX4_numberLength_X4_magnitude : GoodIn wsX4_numberLength wsX4_magnitude := goodIn_r _ [5] (by decide +kernel) (by decide +kernel)
set_option maxRecDepth 20000 in
theorem gX4_numberLength_X4_magnitude : GoodIn wsX4_numberLength (va_wsS RX4 286 yX4_magnitude wsX4_magnitude) := goodIn_app (goodIn_of _ (by decide +kernel)) ggX4_numberLength_X4_magnitude
theorem dX4_numberLength_0 : decode cX4_numberLength 0 = .ok (.iload_n 0, 1) := by decide +kernel
theorem dX4_numberLength_1 : decode cX4_numberLength 1 = .ok (.ifCond .ge 7, 3) := by decide +kernel
theorem dX4_numberLength_4 : decode cX4_numberLength 4 = .ok (.iconst 2, 1) := by decide +kernel
theorem dX4_numberLength_5 : decode cX4_numberLength 5 = .ok (.goto 4, 3) := by decide +kernel
theorem dX4_numberLength_8 : decode cX4_numberLength 8 = .ok (.iconst 1, 1) := by decide +kernel
theorem dX4_numberLength_9 : decode cX4_numberLength 9 = .ok (.istore_n 1, 1) := by decide +kernel
theorem dX4_numberLength_10 : decode cX4_numberLength 10 = .ok (.iload_n 0, 1) := by decide +kernel
theorem dX4_numberLength_11 : decode cX4_numberLength 11 = .ok (.invokestatic 286, 3) := by decide +kernel
theorem dX4_numberLength_14 : decode cX4_numberLength 14 = .ok (.ldc2_w 290, 3) := by decide +kernel
theorem dX4_numberLength_17 : decode cX4_numberLength 17 = .ok (.ldiv, 1) := by decide +kernel
theorem dX4_numberLength_18 : decode cX4_numberLength 18 = .ok (.lstore_n 2, 1) := by decide +kernel
theorem dX4_numberLength_19 : decode cX4_numberLength 19 = .ok (.lload_n 2, 1) := by decide +kernel
theorem dX4_numberLength_20 : decode cX4_numberLength 20 = .ok (.lconst 0, 1) := by decide +kernel
theorem dX4_numberLength_21 : decode cX4_numberLength 21 = .ok (.lcmp, 1) := by decide +kernel
theorem dX4_numberLength_22 : decode cX4_numberLength 22 = .ok (.ifCond .le 21, 3) := by decide +kernel
theorem dX4_numberLength_25 : decode cX4_numberLength 25 = .ok (.iload_n 1, 1) := by decide +kernel
theorem dX4_numberLength_26 : decode cX4_numberLength 26 = .ok (.bipush 6, 2) := by decide +kernel
theorem dX4_numberLength_28 : decode cX4_numberLength 28 = .ok (.if_icmp .gt 15, 3) := by decide +kernel
theorem dX4_numberLength_31 : decode cX4_numberLength 31 = .ok (.lload_n 2, 1) := by decide +kernel
theorem dX4_numberLength_32 : decode cX4_numberLength 32 = .ok (.ldc2_w 290, 3) := by decide +kernel
theorem dX4_numberLength_35 : decode cX4_numberLength 35 = .ok (.ldiv, 1) := by decide +kernel
theorem dX4_numberLength_36 : decode cX4_numberLength 36 = .ok (.lstore_n 2, 1) := by decide +kernel
theorem dX4_numberLength_37 : decode cX4_numberLength 37 = .ok (.iinc 1 1, 3) := by decide +kernel
theorem dX4_numberLength_40 : decode cX4_numberLength 40 = .ok (.goto (-21), 3) := by decide +kernel
theorem dX4_numberLength_43 : decode cX4_numberLength 43 = .ok (.iload_n 1, 1) := by decide +kernel
theorem dX4_numberLength_44 : decode cX4_numberLength 44 = .ok (.ireturn, 1) := by decide +kernel
theorem dX4_giveSlot_0 : decode cX4_giveSlot 0 = .ok (.iconst 0, 1) := by decide +kernel
theorem dX4_giveSlot_1 : decode cX4_giveSlot 1 = .ok (.istore_n 2, 1) := by decide +kernel
theorem dX4_giveSlot_2 : decode cX4_giveSlot 2 = .ok (.iconst (-1), 1) := by decide +kernel
theorem dX4_giveSlot_3 : decode cX4_giveSlot 3 = .ok (.istore_n 3, 1) := by decide +kernel
theorem dX4_giveSlot_4 : decode cX4_giveSlot 4 = .ok (.iconst 0, 1) := by decide +kernel
theorem dX4_giveSlot_5 : decode cX4_giveSlot 5 = .ok (.istore 4, 2) := by decide +kernel
theorem dX4_giveSlot_7 : decode cX4_giveSlot 7 = .ok (.iload 4, 2) := by decide +kernel
theorem dX4_giveSlot_9 : decode cX4_giveSlot 9 = .ok (.bipush 6, 2) := by decide +kernel
theorem dX4_giveSlot_11 : decode cX4_giveSlot 11 = .ok (.if_icmp .ge 52, 3) := by decide +kernel
theorem dX4_giveSlot_14 : decode cX4_giveSlot 14 = .ok (.aload_n 1, 1) := by decide +kernel
theorem dX4_giveSlot_15 : decode cX4_giveSlot 15 = .ok (.iload 4, 2) := by decide +kernel
theorem dX4_giveSlot_17 : decode cX4_giveSlot 17 = .ok (.dup2, 1) := by decide +kernel
theorem dX4_giveSlot_18 : decode cX4_giveSlot 18 = .ok (.iaload, 1) := by decide +kernel
theorem dX4_giveSlot_19 : decode cX4_giveSlot 19 = .ok (.aload_n 0, 1) := by decide +kernel
theorem dX4_giveSlot_20 : decode cX4_giveSlot 20 = .ok (.iload 4, 2) := by decide +kernel
theorem dX4_giveSlot_22 : decode cX4_giveSlot 22 = .ok (.iaload, 1) := by decide +kernel
theorem dX4_giveSlot_23 : decode cX4_giveSlot 23 = .ok (.iadd, 1) := by decide +kernel
theorem dX4_giveSlot_24 : decode cX4_giveSlot 24 = .ok (.iastore, 1) := by decide +kernel
theorem dX4_giveSlot_25 : decode cX4_giveSlot 25 = .ok (.iload_n 2, 1) := by decide +kernel
theorem dX4_giveSlot_26 : decode cX4_giveSlot 26 = .ok (.aload_n 0, 1) := by decide +kernel
theorem dX4_giveSlot_27 : decode cX4_giveSlot 27 = .ok (.iload 4, 2) := by decide +kernel
theorem dX4_giveSlot_29 : decode cX4_giveSlot 29 = .ok (.iaload, 1) := by decide +kernel
theorem dX4_giveSlot_30 : decode cX4_giveSlot 30 = .ok (.iadd, 1) := by decide +kernel
theorem dX4_giveSlot_31 : decode cX4_giveSlot 31 = .ok (.istore_n 2, 1) := by decide +kernel
theorem dX4_giveSlot_32 : decode cX4_giveSlot 32 = .ok (.aload_n 0, 1) := by decide +kernel
theorem dX4_giveSlot_33 : decode cX4_giveSlot 33 = .ok (.iload 4, 2) := by decide +kernel
theorem dX4_giveSlot_35 : decode cX4_giveSlot 35 = .ok (.iaload, 1) := by decide +kernel
theorem dX4_giveSlot_36 : decode cX4_giveSlot 36 = .ok (.ifCond .le 21, 3) := by decide +kernel
theorem dX4_giveSlot_39 : decode cX4_giveSlot 39 = .ok (.iload_n 3, 1) := by decide +kernel
theorem dX4_giveSlot_40 : decode cX4_giveSlot 40 = .ok (.iconst (-1), 1) := by decide +kernel
theorem dX4_giveSlot_41 : decode cX4_giveSlot 41 = .ok (.if_icmp .eq 13, 3) := by decide +kernel
theorem dX4_giveSlot_44 : decode cX4_giveSlot 44 = .ok (.aload_n 1, 1) := by decide +kernel
theorem dX4_giveSlot_45 : decode cX4_giveSlot 45 = .ok (.iload 4, 2) := by decide +kernel
theorem dX4_giveSlot_47 : decode cX4_giveSlot 47 = .ok (.iaload, 1) := by decide +kernel
theorem dX4_giveSlot_48 : decode cX4_giveSlot 48 = .ok (.aload_n 1, 1) := by decide +kernel
theorem dX4_giveSlot_49 : decode cX4_giveSlot 49 = .ok (.iload_n 3, 1) := by decide +kernel
theorem dX4_giveSlot_50 : decode cX4_giveSlot 50 = .ok (.iaload, 1) := by decide +kernel
theorem dX4_giveSlot_51 : decode cX4_giveSlot 51 = .ok (.if_icmp .le 6, 3) := by decide +kernel
theorem dX4_giveSlot_54 : decode cX4_giveSlot 54 = .ok (.iload 4, 2) := by decide +kernel
theorem dX4_giveSlot_56 : decode cX4_giveSlot 56 = .ok (.istore_n 3, 1) := by decide +kernel
theorem dX4_giveSlot_57 : decode cX4_giveSlot 57 = .ok (.iinc 4 1, 3) := by decide +kernel
theorem dX4_giveSlot_60 : decode cX4_giveSlot 60 = .ok (.goto (-53), 3) := by decide +kernel
theorem dX4_giveSlot_63 : decode cX4_giveSlot 63 = .ok (.iload_n 3, 1) := by decide +kernel
theorem dX4_giveSlot_64 : decode cX4_giveSlot 64 = .ok (.iconst (-1), 1) := by decide +kernel
theorem dX4_giveSlot_65 : decode cX4_giveSlot 65 = .ok (.if_icmp .eq 10, 3) := by decide +kernel
theorem dX4_giveSlot_68 : decode cX4_giveSlot 68 = .ok (.aload_n 1, 1) := by decide +kernel
theorem dX4_giveSlot_69 : decode cX4_giveSlot 69 = .ok (.iload_n 3, 1) := by decide +kernel
theorem dX4_giveSlot_70 : decode cX4_giveSlot 70 = .ok (.dup2, 1) := by decide +kernel
theorem dX4_giveSlot_71 : decode cX4_giveSlot 71 = .ok (.iaload, 1) := by decide +kernel
theorem dX4_giveSlot_72 : decode cX4_giveSlot 72 = .ok (.iload_n 2, 1) := by decide +kernel
theorem dX4_giveSlot_73 : decode cX4_giveSlot 73 = .ok (.isub, 1) := by decide +kernel
theorem dX4_giveSlot_74 : decode cX4_giveSlot 74 = .ok (.iastore, 1) := by decide +kernel
theorem dX4_giveSlot_75 : decode cX4_giveSlot 75 = .ok (.iload_n 3, 1) := by decide +kernel
theorem dX4_giveSlot_76 : decode cX4_giveSlot 76 = .ok (.ireturn, 1) := by decide +kernel
theorem dX4_litIn_0 : decode cX4_litIn 0 = .ok (.iload_n 2, 1) := by decide +kernel
theorem dX4_litIn_1 : decode cX4_litIn 1 = .ok (.ifCond .eq 12, 3) := by decide +kernel
theorem dX4_litIn_4 : decode cX4_litIn 4 = .ok (.iload_n 0, 1) := by decide +kernel
theorem dX4_litIn_5 : decode cX4_litIn 5 = .ok (.iload_n 1, 1) := by decide +kernel
theorem dX4_litIn_6 : decode cX4_litIn 6 = .ok (.if_icmp .eq 7, 3) := by decide +kernel
theorem dX4_litIn_9 : decode cX4_litIn 9 = .ok (.iconst (-1), 1) := by decide +kernel
theorem dX4_litIn_10 : decode cX4_litIn 10 = .ok (.goto 4, 3) := by decide +kernel
theorem dX4_litIn_13 : decode cX4_litIn 13 = .ok (.iload_n 0, 1) := by decide +kernel
theorem dX4_litIn_14 : decode cX4_litIn 14 = .ok (.ireturn, 1) := by decide +kernel
theorem dX5_init_0 : decode cX5_init 0 = .ok (.aload_n 0, 1) := by decide +kernel
theorem dX5_init_1 : decode cX5_init 1 = .ok (.invokespecial 1, 3) := by decide +kernel
theorem dX5_init_4 : decode cX5_init 4 = .ok (.aload_n 0, 1) := by decide +kernel
theorem dX5_init_5 : decode cX5_init 5 = .ok (.bipush 12, 2) := by decide +kernel
theorem dX5_init_7 : decode cX5_init 7 = .ok (.newarray .int, 2) := by decide +kernel
theorem dX5_init_9 : decode cX5_init 9 = .ok (.dup, 1) := by decide +kernel
theorem dX5_init_10 : decode cX5_init 10 = .ok (.iconst 0, 1) := by decide +kernel
theorem dX5_init_11 : decode cX5_init 11 = .ok (.bipush 63, 2) := by decide +kernel
theorem dX5_init_13 : decode cX5_init 13 = .ok (.iastore, 1) := by decide +kernel
theorem dX5_init_14 : decode cX5_init 14 = .ok (.dup, 1) := by decide +kernel
theorem dX5_init_15 : decode cX5_init 15 = .ok (.iconst 1, 1) := by decide +kernel
theorem dX5_init_16 : decode cX5_init 16 = .ok (.bipush 6, 2) := by decide +kernel
theorem dX5_init_18 : decode cX5_init 18 = .ok (.iastore, 1) := by decide +kernel
theorem dX5_init_19 : decode cX5_init 19 = .ok (.dup, 1) := by decide +kernel
theorem dX5_init_20 : decode cX5_init 20 = .ok (.iconst 2, 1) := by decide +kernel
theorem dX5_init_21 : decode cX5_init 21 = .ok (.bipush 91, 2) := by decide +kernel
theorem dX5_init_23 : decode cX5_init 23 = .ok (.iastore, 1) := by decide +kernel
theorem dX5_init_24 : decode cX5_init 24 = .ok (.dup, 1) := by decide +kernel
theorem dX5_init_25 : decode cX5_init 25 = .ok (.iconst 3, 1) := by decide +kernel
theorem dX5_init_26 : decode cX5_init 26 = .ok (.bipush 79, 2) := by decide +kernel
theorem dX5_init_28 : decode cX5_init 28 = .ok (.iastore, 1) := by decide +kernel
theorem dX5_init_29 : decode cX5_init 29 = .ok (.dup, 1) := by decide +kernel
theorem dX5_init_30 : decode cX5_init 30 = .ok (.iconst 4, 1) := by decide +kernel
theorem dX5_init_31 : decode cX5_init 31 = .ok (.bipush 102, 2) := by decide +kernel
theorem dX5_init_33 : decode cX5_init 33 = .ok (.iastore, 1) := by decide +kernel
theorem dX5_init_34 : decode cX5_init 34 = .ok (.dup, 1) := by decide +kernel
theorem dX5_init_35 : decode cX5_init 35 = .ok (.iconst 5, 1) := by decide +kernel
theorem dX5_init_36 : decode cX5_init 36 = .ok (.bipush 109, 2) := by decide +kernel
theorem dX5_init_38 : decode cX5_init 38 = .ok (.iastore, 1) := by decide +kernel
theorem dX5_init_39 : decode cX5_init 39 = .ok (.dup, 1) := by decide +kernel
theorem dX5_init_40 : decode cX5_init 40 = .ok (.bipush 6, 2) := by decide +kernel
theorem dX5_init_42 : decode cX5_init 42 = .ok (.bipush 125, 2) := by decide +kernel
theorem dX5_init_44 : decode cX5_init 44 = .ok (.iastore, 1) := by decide +kernel
theorem dX5_init_45 : decode cX5_init 45 = .ok (.dup, 1) := by decide +kernel
theorem dX5_init_46 : decode cX5_init 46 = .ok (.bipush 7, 2) := by decide +kernel
theorem dX5_init_48 : decode cX5_init 48 = .ok (.bipush 7, 2) := by decide +kernel
theorem dX5_init_50 : decode cX5_init 50 = .ok (.iastore, 1) := by decide +kernel
theorem dX5_init_51 : decode cX5_init 51 = .ok (.dup, 1) := by decide +kernel
theorem dX5_init_52 : decode cX5_init 52 = .ok (.bipush 8, 2) := by decide +kernel
theorem dX5_init_54 : decode cX5_init 54 = .ok (.bipush 127, 2) := by decide +kernel
theorem dX5_init_56 : decode cX5_init 56 = .ok (.iastore, 1) := by decide +kernel
theorem dX5_init_57 : decode cX5_init 57 = .ok (.dup, 1) := by decide +kernel
theorem dX5_init_58 : decode cX5_init 58 = .ok (.bipush 9, 2) := by decide +kernel
theorem dX5_init_60 : decode cX5_init 60 = .ok (.bipush 111, 2) := by decide +kernel
theorem dX5_init_62 : decode cX5_init 62 = .ok (.iastore, 1) := by decide +kernel
theorem dX5_init_63 : decode cX5_init 63 = .ok (.dup, 1) := by decide +kernel
theorem dX5_init_64 : decode cX5_init 64 = .ok (.bipush 10, 2) := by decide +kernel
theorem dX5_init_66 : decode cX5_init 66 = .ok (.bipush 64, 2) := by decide +kernel
theorem dX5_init_68 : decode cX5_init 68 = .ok (.iastore, 1) := by decide +kernel
theorem dX5_init_69 : decode cX5_init 69 = .ok (.dup, 1) := by decide +kernel
theorem dX5_init_70 : decode cX5_init 70 = .ok (.bipush 11, 2) := by decide +kernel
theorem dX5_init_72 : decode cX5_init 72 = .ok (.iconst 0, 1) := by decide +kernel
theorem dX5_init_73 : decode cX5_init 73 = .ok (.iastore, 1) := by decide +kernel
theorem dX5_init_74 : decode cX5_init 74 = .ok (.putfield 7, 3) := by decide +kernel
theorem dX5_init_77 : decode cX5_init 77 = .ok (.aload_n 0, 1) := by decide +kernel
theorem dX5_init_78 : decode cX5_init 78 = .ok (.bipush 80, 2) := by decide +kernel
theorem dX5_init_80 : decode cX5_init 80 = .ok (.newarray .int, 2) := by decide +kernel
theorem dX5_init_82 : decode cX5_init 82 = .ok (.putfield 13, 3) := by decide +kernel
theorem dX5_init_85 : decode cX5_init 85 = .ok (.aload_n 0, 1) := by decide +kernel
theorem dX5_init_86 : decode cX5_init 86 = .ok (.bipush 80, 2) := by decide +kernel
theorem dX5_init_88 : decode cX5_init 88 = .ok (.newarray .int, 2) := by decide +kernel
theorem dX5_init_90 : decode cX5_init 90 = .ok (.putfield 16, 3) := by decide +kernel
theorem dX5_init_93 : decode cX5_init 93 = .ok (.aload_n 0, 1) := by decide +kernel
theorem dX5_init_94 : decode cX5_init 94 = .ok (.sipush 480, 3) := by decide +kernel
theorem dX5_init_97 : decode cX5_init 97 = .ok (.newarray .int, 2) := by decide +kernel
theorem dX5_init_99 : decode cX5_init 99 = .ok (.putfield 19, 3) := by decide +kernel
theorem dX5_init_102 : decode cX5_init 102 = .ok (.aload_n 0, 1) := by decide +kernel
theorem dX5_init_103 : decode cX5_init 103 = .ok (.bipush 60, 2) := by decide +kernel
theorem dX5_init_105 : decode cX5_init 105 = .ok (.newarray .int, 2) := by decide +kernel
theorem dX5_init_107 : decode cX5_init 107 = .ok (.putfield 22, 3) := by decide +kernel
theorem dX5_init_110 : decode cX5_init 110 = .ok (.aload_n 0, 1) := by decide +kernel
theorem dX5_init_111 : decode cX5_init 111 = .ok (.bipush 12, 2) := by decide +kernel
theorem dX5_init_113 : decode cX5_init 113 = .ok (.newarray .int, 2) := by decide +kernel
theorem dX5_init_115 : decode cX5_init 115 = .ok (.putfield 25, 3) := by decide +kernel
theorem dX5_init_118 : decode cX5_init 118 = .ok (.aload_n 0, 1) := by decide +kernel
theorem dX5_init_119 : decode cX5_init 119 = .ok (.bipush 96, 2) := by decide +kernel
theorem dX5_init_121 : decode cX5_init 121 = .ok (.newarray .int, 2) := by decide +kernel
theorem dX5_init_123 : decode cX5_init 123 = .ok (.putfield 28, 3) := by decide +kernel
theorem dX5_init_126 : decode cX5_init 126 = .ok (.aload_n 0, 1) := by decide +kernel
theorem dX5_init_127 : decode cX5_init 127 = .ok (.bipush 96, 2) := by decide +kernel
theorem dX5_init_129 : decode cX5_init 129 = .ok (.newarray .int, 2) := by decide +kernel
theorem dX5_init_131 : decode cX5_init 131 = .ok (.putfield 31, 3) := by decide +kernel
theorem dX5_init_134 : decode cX5_init 134 = .ok (.aload_n 0, 1) := by decide +kernel
theorem dX5_init_135 : decode cX5_init 135 = .ok (.bipush 6, 2) := by decide +kernel
theorem dX5_init_137 : decode cX5_init 137 = .ok (.newarray .int, 2) := by decide +kernel
theorem dX5_init_139 : decode cX5_init 139 = .ok (.putfield 34, 3) := by decide +kernel
theorem dX5_init_142 : decode cX5_init 142 = .ok (.aload_n 0, 1) := by decide +kernel
theorem dX5_init_143 : decode cX5_init 143 = .ok (.getfield 13, 3) := by decide +kernel
theorem dX5_init_146 : decode cX5_init 146 = .ok (.iconst 1, 1) := by decide +kernel
theorem dX5_init_147 : decode cX5_init 147 = .ok (.iconst 2, 1) := by decide +kernel
theorem dX5_init_148 : decode cX5_init 148 = .ok (.iastore, 1) := by decide +kernel
theorem dX5_init_149 : decode cX5_init 149 = .ok (.aload_n 0, 1) := by decide +kernel
theorem dX5_init_150 : decode cX5_init 150 = .ok (.getfield 13, 3) := by decide +kernel
theorem dX5_init_153 : decode cX5_init 153 = .ok (.iconst 2, 1) := by decide +kernel
theorem dX5_init_154 : decode cX5_init 154 = .ok (.bipush 24, 2) := by decide +kernel
theorem dX5_init_156 : decode cX5_init 156 = .ok (.iastore, 1) := by decide +kernel
theorem dX5_init_157 : decode cX5_init 157 = .ok (.aload_n 0, 1) := by decide +kernel
theorem dX5_init_158 : decode cX5_init 158 = .ok (.getfield 13, 3) := by decide +kernel
theorem dX5_init_161 : decode cX5_init 161 = .ok (.iconst 4, 1) := by decide +kernel
theorem dX5_init_162 : decode cX5_init 162 = .ok (.bipush 12, 2) := by decide +kernel
theorem dX5_init_164 : decode cX5_init 164 = .ok (.iastore, 1) := by decide +kernel
theorem dX5_init_165 : decode cX5_init 165 = .ok (.aload_n 0, 1) := by decide +kernel
theorem dX5_init_166 : decode cX5_init 166 = .ok (.getfield 13, 3) := by decide +kernel
theorem dX5_init_169 : decode cX5_init 169 = .ok (.iconst 5, 1) := by decide +kernel
theorem dX5_init_170 : decode cX5_init 170 = .ok (.bipush 10, 2) := by decide +kernel
theorem dX5_init_172 : decode cX5_init 172 = .ok (.iastore, 1) := by decide +kernel
theorem dX5_init_173 : decode cX5_init 173 = .ok (.aload_n 0, 1) := by decide +kernel
theorem dX5_init_174 : decode cX5_init 174 = .ok (.getfield 13, 3) := by decide +kernel
theorem dX5_init_177 : decode cX5_init 177 = .ok (.bipush 7, 2) := by decide +kernel
theorem dX5_init_179 : decode cX5_init 179 = .ok (.iconst (-1), 1) := by decide +kernel
theorem dX5_init_180 : decode cX5_init 180 = .ok (.iastore, 1) := by decide +kernel
theorem dX5_init_181 : decode cX5_init 181 = .ok (.iconst 0, 1) := by decide +kernel
theorem dX5_init_182 : decode cX5_init 182 = .ok (.istore_n 1, 1) := by decide +kernel
theorem dX5_init_183 : decode cX5_init 183 = .ok (.iload_n 1, 1) := by decide +kernel
theorem dX5_init_184 : decode cX5_init 184 = .ok (.bipush 6, 2) := by decide +kernel
theorem dX5_init_186 : decode cX5_init 186 = .ok (.if_icmp .ge 30, 3) := by decide +kernel
theorem dX5_init_189 : decode cX5_init 189 = .ok (.aload_n 0, 1) := by decide +kernel
theorem dX5_init_190 : decode cX5_init 190 = .ok (.getfield 13, 3) := by decide +kernel
theorem dX5_init_193 : decode cX5_init 193 = .ok (.bipush 8, 2) := by decide +kernel
theorem dX5_init_195 : decode cX5_init 195 = .ok (.iload_n 1, 1) := by decide +kernel
theorem dX5_init_196 : decode cX5_init 196 = .ok (.iadd, 1) := by decide +kernel
theorem dX5_init_197 : decode cX5_init 197 = .ok (.bipush 11, 2) := by decide +kernel
theorem dX5_init_199 : decode cX5_init 199 = .ok (.iastore, 1) := by decide +kernel
theorem dX5_init_200 : decode cX5_init 200 = .ok (.aload_n 0, 1) := by decide +kernel
theorem dX5_init_201 : decode cX5_init 201 = .ok (.getfield 13, 3) := by decide +kernel
theorem dX5_init_204 : decode cX5_init 204 = .ok (.bipush 14, 2) := by decide +kernel
theorem dX5_init_206 : decode cX5_init 206 = .ok (.iload_n 1, 1) := by decide +kernel
theorem dX5_init_207 : decode cX5_init 207 = .ok (.iadd, 1) := by decide +kernel
theorem dX5_init_208 : decode cX5_init 208 = .ok (.iconst 4, 1) := by decide +kernel
theorem dX5_init_209 : decode cX5_init 209 = .ok (.iastore, 1) := by decide +kernel
theorem dX5_init_210 : decode cX5_init 210 = .ok (.iinc 1 1, 3) := by decide +kernel
theorem dX5_init_213 : decode cX5_init 213 = .ok (.goto (-30), 3) := by decide +kernel
theorem dX5_init_216 : decode cX5_init 216 = .ok (.return_, 1) := by decide +kernel
theorem dX5_thrown_0 : decode cX5_thrown 0 = .ok (.aload_n 0, 1) := by decide +kernel
theorem dX5_thrown_1 : decode cX5_thrown 1 = .ok (.getfield 37, 3) := by decide +kernel
theorem dX5_thrown_4 : decode cX5_thrown 4 = .ok (.ireturn, 1) := by decide +kernel
theorem dX5_fails_0 : decode cX5_fails 0 = .ok (.aload_n 0, 1) := by decide +kernel
theorem dX5_fails_1 : decode cX5_fails 1 = .ok (.iload_n 1, 1) := by decide +kernel
theorem dX5_fails_2 : decode cX5_fails 2 = .ok (.putfield 37, 3) := by decide +kernel
theorem dX5_fails_5 : decode cX5_fails 5 = .ok (.iconst 0, 1) := by decide +kernel
theorem dX5_fails_6 : decode cX5_fails 6 = .ok (.ireturn, 1) := by decide +kernel
theorem dX5_in_0 : decode cX5_in 0 = .ok (.iload_n 0, 1) := by decide +kernel
theorem dX5_in_1 : decode cX5_in 1 = .ok (.iload_n 1, 1) := by decide +kernel
theorem dX5_in_2 : decode cX5_in 2 = .ok (.if_icmp .lt 12, 3) := by decide +kernel
theorem dX5_in_5 : decode cX5_in 5 = .ok (.iload_n 0, 1) := by decide +kernel
theorem dX5_in_6 : decode cX5_in 6 = .ok (.iload_n 2, 1) := by decide +kernel
theorem dX5_in_7 : decode cX5_in 7 = .ok (.if_icmp .gt 7, 3) := by decide +kernel
theorem dX5_in_10 : decode cX5_in 10 = .ok (.iconst 1, 1) := by decide +kernel
theorem dX5_in_11 : decode cX5_in 11 = .ok (.goto 4, 3) := by decide +kernel
theorem dX5_in_14 : decode cX5_in 14 = .ok (.iconst 0, 1) := by decide +kernel
theorem dX5_in_15 : decode cX5_in 15 = .ok (.ireturn, 1) := by decide +kernel
set_option maxRecDepth 20000 in
theorem ggX5_isDigit_X5_in : GoodIn wsX5_isDigit wsX5_in := goodIn_r _ [4] (by decide +kernel) (by decide +kernel)
set_option maxRecDepth 20000 in
theorem gX5_isDigit_X5_in : GoodIn wsX5_isDigit (va_wsS RX5 41 yX5_in wsX5_in) := goodIn_app (goodIn_of _ (by decide +kernel)) ggX5_isDigit_X5_in
theorem dX5_isDigit_0 : decode cX5_isDigit 0 = .ok (.iload_n 0, 1) := by decide +kernel
theorem dX5_isDigit_1 : decode cX5_isDigit 1 = .ok (.iconst 0, 1) := by decide +kernel
theorem dX5_isDigit_2 : decode cX5_isDigit 2 = .ok (.iconst 5, 1) := by decide +kernel
theorem dX5_isDigit_3 : decode cX5_isDigit 3 = .ok (.invokestatic 41, 3) := by decide +kernel
theorem dX5_isDigit_6 : decode cX5_isDigit 6 = .ok (.ireturn, 1) := by decide +kernel
set_option maxRecDepth 20000 in
theorem ggX5_isSign_X5_in : GoodIn wsX5_isSign wsX5_in := goodIn_r _ [4] (by decide +kernel) (by decide +kernel)
set_option maxRecDepth 20000 in
theorem gX5_isSign_X5_in : GoodIn wsX5_isSign (va_wsS RX5 41 yX5_in wsX5_in) := goodIn_app (goodIn_of _ (by decide +kernel)) ggX5_isSign_X5_in
theorem dX5_isSign_0 : decode cX5_isSign 0 = .ok (.iload_n 0, 1) := by decide +kernel
theorem dX5_isSign_1 : decode cX5_isSign 1 = .ok (.iconst 0, 1) := by decide +kernel
theorem dX5_isSign_2 : decode cX5_isSign 2 = .ok (.bipush 11, 2) := by decide +kernel
theorem dX5_isSign_4 : decode cX5_isSign 4 = .ok (.invokestatic 41, 3) := by decide +kernel
theorem dX5_isSign_7 : decode cX5_isSign 7 = .ok (.ireturn, 1) := by decide +kernel
set_option maxRecDepth 20000 in
theorem ggX5_isLevel_X5_in : GoodIn wsX5_isLevel wsX5_in := goodIn_r _ [4] (by decide +kernel) (by decide +kernel)
set_option maxRecDepth 20000 in
theorem gX5_isLevel_X5_in : GoodIn wsX5_isLevel (va_wsS RX5 41 yX5_in wsX5_in) := goodIn_app (goodIn_of _ (by decide +kernel)) ggX5_isLevel_X5_in
theorem dX5_isLevel_0 : decode cX5_isLevel 0 = .ok (.iload_n 0, 1) := by decide +kernel
theorem dX5_isLevel_1 : decode cX5_isLevel 1 = .ok (.iconst 0, 1) := by decide +kernel
theorem dX5_isLevel_2 : decode cX5_isLevel 2 = .ok (.bipush 15, 2) := by decide +kernel
theorem dX5_isLevel_4 : decode cX5_isLevel 4 = .ok (.invokestatic 41, 3) := by decide +kernel
theorem dX5_isLevel_7 : decode cX5_isLevel 7 = .ok (.ireturn, 1) := by decide +kernel
set_option maxRecDepth 20000 in
theorem ggX5_isSegment_X5_in : GoodIn wsX5_isSegment wsX5_in := goodIn_r _ [4] (by decide +kernel) (by decide +kernel)
set_option maxRecDepth 20000 in
theorem gX5_isSegment_X5_in : GoodIn wsX5_isSegment (va_wsS RX5 41 yX5_in wsX5_in) := goodIn_app (goodIn_of _ (by decide +kernel)) ggX5_isSegment_X5_in
theorem dX5_isSegment_0 : decode cX5_isSegment 0 = .ok (.iload_n 0, 1) := by decide +kernel
theorem dX5_isSegment_1 : decode cX5_isSegment 1 = .ok (.iconst 0, 1) := by decide +kernel
theorem dX5_isSegment_2 : decode cX5_isSegment 2 = .ok (.bipush 6, 2) := by decide +kernel
theorem dX5_isSegment_4 : decode cX5_isSegment 4 = .ok (.invokestatic 41, 3) := by decide +kernel
theorem dX5_isSegment_7 : decode cX5_isSegment 7 = .ok (.ireturn, 1) := by decide +kernel
theorem dX5_saves_0 : decode cX5_saves 0 = .ok (.aload_n 0, 1) := by decide +kernel
theorem dX5_saves_1 : decode cX5_saves 1 = .ok (.getfield 45, 3) := by decide +kernel
theorem dX5_saves_4 : decode cX5_saves 4 = .ok (.bipush 6, 2) := by decide +kernel
theorem dX5_saves_6 : decode cX5_saves 6 = .ok (.if_icmp .ne 43, 3) := by decide +kernel
theorem dX5_saves_9 : decode cX5_saves 9 = .ok (.iconst 0, 1) := by decide +kernel
theorem dX5_saves_10 : decode cX5_saves 10 = .ok (.istore_n 1, 1) := by decide +kernel
theorem dX5_saves_11 : decode cX5_saves 11 = .ok (.iload_n 1, 1) := by decide +kernel
theorem dX5_saves_12 : decode cX5_saves 12 = .ok (.sipush 400, 3) := by decide +kernel
theorem dX5_saves_15 : decode cX5_saves 15 = .ok (.if_icmp .ge 24, 3) := by decide +kernel
theorem dX5_saves_18 : decode cX5_saves 18 = .ok (.aload_n 0, 1) := by decide +kernel
theorem dX5_saves_19 : decode cX5_saves 19 = .ok (.getfield 19, 3) := by decide +kernel
theorem dX5_saves_22 : decode cX5_saves 22 = .ok (.iload_n 1, 1) := by decide +kernel
theorem dX5_saves_23 : decode cX5_saves 23 = .ok (.aload_n 0, 1) := by decide +kernel
theorem dX5_saves_24 : decode cX5_saves 24 = .ok (.getfield 19, 3) := by decide +kernel
theorem dX5_saves_27 : decode cX5_saves 27 = .ok (.iload_n 1, 1) := by decide +kernel
theorem dX5_saves_28 : decode cX5_saves 28 = .ok (.bipush 80, 2) := by decide +kernel
theorem dX5_saves_30 : decode cX5_saves 30 = .ok (.iadd, 1) := by decide +kernel
theorem dX5_saves_31 : decode cX5_saves 31 = .ok (.iaload, 1) := by decide +kernel
theorem dX5_saves_32 : decode cX5_saves 32 = .ok (.iastore, 1) := by decide +kernel
theorem dX5_saves_33 : decode cX5_saves 33 = .ok (.iinc 1 1, 3) := by decide +kernel
theorem dX5_saves_36 : decode cX5_saves 36 = .ok (.goto (-25), 3) := by decide +kernel
theorem dX5_saves_39 : decode cX5_saves 39 = .ok (.aload_n 0, 1) := by decide +kernel
theorem dX5_saves_40 : decode cX5_saves 40 = .ok (.dup, 1) := by decide +kernel
theorem dX5_saves_41 : decode cX5_saves 41 = .ok (.getfield 45, 3) := by decide +kernel
theorem dX5_saves_44 : decode cX5_saves 44 = .ok (.iconst 1, 1) := by decide +kernel
theorem dX5_saves_45 : decode cX5_saves 45 = .ok (.isub, 1) := by decide +kernel
theorem dX5_saves_46 : decode cX5_saves 46 = .ok (.putfield 45, 3) := by decide +kernel
theorem dX5_saves_49 : decode cX5_saves 49 = .ok (.iconst 0, 1) := by decide +kernel
theorem dX5_saves_50 : decode cX5_saves 50 = .ok (.istore_n 1, 1) := by decide +kernel
theorem dX5_saves_51 : decode cX5_saves 51 = .ok (.iload_n 1, 1) := by decide +kernel
theorem dX5_saves_52 : decode cX5_saves 52 = .ok (.bipush 80, 2) := by decide +kernel
theorem dX5_saves_54 : decode cX5_saves 54 = .ok (.if_icmp .ge 29, 3) := by decide +kernel
theorem dX5_saves_57 : decode cX5_saves 57 = .ok (.aload_n 0, 1) := by decide +kernel
theorem dX5_saves_58 : decode cX5_saves 58 = .ok (.getfield 19, 3) := by decide +kernel
theorem dX5_saves_61 : decode cX5_saves 61 = .ok (.bipush 80, 2) := by decide +kernel
theorem dX5_saves_63 : decode cX5_saves 63 = .ok (.aload_n 0, 1) := by decide +kernel
theorem dX5_saves_64 : decode cX5_saves 64 = .ok (.getfield 45, 3) := by decide +kernel
theorem dX5_saves_67 : decode cX5_saves 67 = .ok (.imul, 1) := by decide +kernel
theorem dX5_saves_68 : decode cX5_saves 68 = .ok (.iload_n 1, 1) := by decide +kernel
theorem dX5_saves_69 : decode cX5_saves 69 = .ok (.iadd, 1) := by decide +kernel
theorem dX5_saves_70 : decode cX5_saves 70 = .ok (.aload_n 0, 1) := by decide +kernel
theorem dX5_saves_71 : decode cX5_saves 71 = .ok (.getfield 13, 3) := by decide +kernel
theorem dX5_saves_74 : decode cX5_saves 74 = .ok (.iload_n 1, 1) := by decide +kernel
theorem dX5_saves_75 : decode cX5_saves 75 = .ok (.iaload, 1) := by decide +kernel
theorem dX5_saves_76 : decode cX5_saves 76 = .ok (.iastore, 1) := by decide +kernel
theorem dX5_saves_77 : decode cX5_saves 77 = .ok (.iinc 1 1, 3) := by decide +kernel
theorem dX5_saves_80 : decode cX5_saves 80 = .ok (.goto (-29), 3) := by decide +kernel
theorem dX5_saves_83 : decode cX5_saves 83 = .ok (.aload_n 0, 1) := by decide +kernel
theorem dX5_saves_84 : decode cX5_saves 84 = .ok (.dup, 1) := by decide +kernel
theorem dX5_saves_85 : decode cX5_saves 85 = .ok (.getfield 45, 3) := by decide +kernel
theorem dX5_saves_88 : decode cX5_saves 88 = .ok (.iconst 1, 1) := by decide +kernel
theorem dX5_saves_89 : decode cX5_saves 89 = .ok (.iadd, 1) := by decide +kernel
theorem dX5_saves_90 : decode cX5_saves 90 = .ok (.putfield 45, 3) := by decide +kernel
theorem dX5_saves_93 : decode cX5_saves 93 = .ok (.return_, 1) := by decide +kernel
set_option maxRecDepth 20000 in
theorem ggX5_undo_X5_fails : GoodIn wsX5_undo wsX5_fails := goodIn_r _ [9, 1, 10, 11, 12, 13, 14, 15, 16, 17, 18, 19, 20, 21, 22, 23, 24, 25] (by decide +kernel) (by decide +kernel)
set_option maxRecDepth 20000 in
theorem gX5_undo_X5_fails : GoodIn wsX5_undo (wsV RX5 48 RX5 yX5_fails wsX5_fails) := goodIn_app (goodIn_of _ (by decide +kernel)) ggX5_undo_X5_fails
theorem dX5_undo_0 : decode cX5_undo 0 = .ok (.aload_n 0, 1) := by decide +kernel
theorem dX5_undo_1 : decode cX5_undo 1 = .ok (.iconst 0, 1) := by decide +kernel
theorem dX5_undo_2 : decode cX5_undo 2 = .ok (.putfield 37, 3) := by decide +kernel
theorem dX5_undo_5 : decode cX5_undo 5 = .ok (.aload_n 0, 1) := by decide +kernel
theorem dX5_undo_6 : decode cX5_undo 6 = .ok (.getfield 45, 3) := by decide +kernel
theorem dX5_undo_9 : decode cX5_undo 9 = .ok (.ifCond .ne 9, 3) := by decide +kernel
theorem dX5_undo_12 : decode cX5_undo 12 = .ok (.aload_n 0, 1) := by decide +kernel
theorem dX5_undo_13 : decode cX5_undo 13 = .ok (.iconst 1, 1) := by decide +kernel
theorem dX5_undo_14 : decode cX5_undo 14 = .ok (.invokevirtual 48, 3) := by decide +kernel
theorem dX5_undo_17 : decode cX5_undo 17 = .ok (.ireturn, 1) := by decide +kernel
theorem dX5_undo_18 : decode cX5_undo 18 = .ok (.aload_n 0, 1) := by decide +kernel
theorem dX5_undo_19 : decode cX5_undo 19 = .ok (.dup, 1) := by decide +kernel
theorem dX5_undo_20 : decode cX5_undo 20 = .ok (.getfield 45, 3) := by decide +kernel
theorem dX5_undo_23 : decode cX5_undo 23 = .ok (.iconst 1, 1) := by decide +kernel
theorem dX5_undo_24 : decode cX5_undo 24 = .ok (.isub, 1) := by decide +kernel
theorem dX5_undo_25 : decode cX5_undo 25 = .ok (.putfield 45, 3) := by decide +kernel
theorem dX5_undo_28 : decode cX5_undo 28 = .ok (.iconst 0, 1) := by decide +kernel
theorem dX5_undo_29 : decode cX5_undo 29 = .ok (.istore_n 1, 1) := by decide +kernel
theorem dX5_undo_30 : decode cX5_undo 30 = .ok (.iload_n 1, 1) := by decide +kernel
theorem dX5_undo_31 : decode cX5_undo 31 = .ok (.bipush 80, 2) := by decide +kernel
theorem dX5_undo_33 : decode cX5_undo 33 = .ok (.if_icmp .ge 29, 3) := by decide +kernel
theorem dX5_undo_36 : decode cX5_undo 36 = .ok (.aload_n 0, 1) := by decide +kernel
theorem dX5_undo_37 : decode cX5_undo 37 = .ok (.getfield 13, 3) := by decide +kernel
theorem dX5_undo_40 : decode cX5_undo 40 = .ok (.iload_n 1, 1) := by decide +kernel
theorem dX5_undo_41 : decode cX5_undo 41 = .ok (.aload_n 0, 1) := by decide +kernel
theorem dX5_undo_42 : decode cX5_undo 42 = .ok (.getfield 19, 3) := by decide +kernel
theorem dX5_undo_45 : decode cX5_undo 45 = .ok (.bipush 80, 2) := by decide +kernel
theorem dX5_undo_47 : decode cX5_undo 47 = .ok (.aload_n 0, 1) := by decide +kernel
theorem dX5_undo_48 : decode cX5_undo 48 = .ok (.getfield 45, 3) := by decide +kernel
theorem dX5_undo_51 : decode cX5_undo 51 = .ok (.imul, 1) := by decide +kernel
theorem dX5_undo_52 : decode cX5_undo 52 = .ok (.iload_n 1, 1) := by decide +kernel
theorem dX5_undo_53 : decode cX5_undo 53 = .ok (.iadd, 1) := by decide +kernel
theorem dX5_undo_54 : decode cX5_undo 54 = .ok (.iaload, 1) := by decide +kernel
theorem dX5_undo_55 : decode cX5_undo 55 = .ok (.iastore, 1) := by decide +kernel
theorem dX5_undo_56 : decode cX5_undo 56 = .ok (.iinc 1 1, 3) := by decide +kernel
theorem dX5_undo_59 : decode cX5_undo 59 = .ok (.goto (-29), 3) := by decide +kernel
theorem dX5_undo_62 : decode cX5_undo 62 = .ok (.aload_n 0, 1) := by decide +kernel
theorem dX5_undo_63 : decode cX5_undo 63 = .ok (.getfield 45, 3) := by decide +kernel
theorem dX5_undo_66 : decode cX5_undo 66 = .ok (.ireturn, 1) := by decide +kernel
theorem dX5_shownAs_0 : decode cX5_shownAs 0 = .ok (.aload_n 0, 1) := by decide +kernel
theorem dX5_shownAs_1 : decode cX5_shownAs 1 = .ok (.getfield 7, 3) := by decide +kernel
theorem dX5_shownAs_4 : decode cX5_shownAs 4 = .ok (.iload_n 2, 1) := by decide +kernel
theorem dX5_shownAs_5 : decode cX5_shownAs 5 = .ok (.iaload, 1) := by decide +kernel
theorem dX5_shownAs_6 : decode cX5_shownAs 6 = .ok (.aload_n 0, 1) := by decide +kernel
theorem dX5_shownAs_7 : decode cX5_shownAs 7 = .ok (.getfield 13, 3) := by decide +kernel
theorem dX5_shownAs_10 : decode cX5_shownAs 10 = .ok (.bipush 20, 2) := by decide +kernel
theorem dX5_shownAs_12 : decode cX5_shownAs 12 = .ok (.iload_n 1, 1) := by decide +kernel
theorem dX5_shownAs_13 : decode cX5_shownAs 13 = .ok (.iadd, 1) := by decide +kernel
theorem dX5_shownAs_14 : decode cX5_shownAs 14 = .ok (.iaload, 1) := by decide +kernel
theorem dX5_shownAs_15 : decode cX5_shownAs 15 = .ok (.iconst (-1), 1) := by decide +kernel
theorem dX5_shownAs_16 : decode cX5_shownAs 16 = .ok (.ixor, 1) := by decide +kernel
theorem dX5_shownAs_17 : decode cX5_shownAs 17 = .ok (.iand, 1) := by decide +kernel
theorem dX5_shownAs_18 : decode cX5_shownAs 18 = .ok (.ireturn, 1) := by decide +kernel
theorem dX5_levels_0 : decode cX5_levels 0 = .ok (.iconst 0, 1) := by decide +kernel
theorem dX5_levels_1 : decode cX5_levels 1 = .ok (.istore_n 1, 1) := by decide +kernel
theorem dX5_levels_2 : decode cX5_levels 2 = .ok (.iconst 0, 1) := by decide +kernel
theorem dX5_levels_3 : decode cX5_levels 3 = .ok (.istore_n 2, 1) := by decide +kernel
theorem dX5_levels_4 : decode cX5_levels 4 = .ok (.iload_n 2, 1) := by decide +kernel
theorem dX5_levels_5 : decode cX5_levels 5 = .ok (.bipush 6, 2) := by decide +kernel
theorem dX5_levels_7 : decode cX5_levels 7 = .ok (.if_icmp .ge 18, 3) := by decide +kernel
theorem dX5_levels_10 : decode cX5_levels 10 = .ok (.iload_n 1, 1) := by decide +kernel
theorem dX5_levels_11 : decode cX5_levels 11 = .ok (.aload_n 0, 1) := by decide +kernel
theorem dX5_levels_12 : decode cX5_levels 12 = .ok (.bipush 14, 2) := by decide +kernel
theorem dX5_levels_14 : decode cX5_levels 14 = .ok (.iload_n 2, 1) := by decide +kernel
theorem dX5_levels_15 : decode cX5_levels 15 = .ok (.iadd, 1) := by decide +kernel
theorem dX5_levels_16 : decode cX5_levels 16 = .ok (.iaload, 1) := by decide +kernel
theorem dX5_levels_17 : decode cX5_levels 17 = .ok (.iadd, 1) := by decide +kernel
theorem dX5_levels_18 : decode cX5_levels 18 = .ok (.istore_n 1, 1) := by decide +kernel
theorem dX5_levels_19 : decode cX5_levels 19 = .ok (.iinc 2 1, 3) := by decide +kernel
theorem dX5_levels_22 : decode cX5_levels 22 = .ok (.goto (-18), 3) := by decide +kernel
theorem dX5_levels_25 : decode cX5_levels 25 = .ok (.iload_n 1, 1) := by decide +kernel
theorem dX5_levels_26 : decode cX5_levels 26 = .ok (.ireturn, 1) := by decide +kernel
set_option maxRecDepth 20000 in
theorem ggX5_turns_X5_levels : GoodIn wsX5_turns wsX5_levels := goodIn_r _ [4] (by decide +kernel) (by decide +kernel)
set_option maxRecDepth 20000 in
theorem gX5_turns_X5_levels : GoodIn wsX5_turns (va_wsS RX5 52 yX5_levels wsX5_levels) := goodIn_app (goodIn_of _ (by decide +kernel)) ggX5_turns_X5_levels
theorem dX5_turns_0 : decode cX5_turns 0 = .ok (.iconst (-1), 1) := by decide +kernel
theorem dX5_turns_1 : decode cX5_turns 1 = .ok (.istore_n 3, 1) := by decide +kernel
theorem dX5_turns_2 : decode cX5_turns 2 = .ok (.iconst 0, 1) := by decide +kernel
theorem dX5_turns_3 : decode cX5_turns 3 = .ok (.istore 4, 2) := by decide +kernel
theorem dX5_turns_5 : decode cX5_turns 5 = .ok (.iload 4, 2) := by decide +kernel
theorem dX5_turns_7 : decode cX5_turns 7 = .ok (.bipush 6, 2) := by decide +kernel
theorem dX5_turns_9 : decode cX5_turns 9 = .ok (.if_icmp .ge 61, 3) := by decide +kernel
theorem dX5_turns_12 : decode cX5_turns 12 = .ok (.aload_n 1, 1) := by decide +kernel
theorem dX5_turns_13 : decode cX5_turns 13 = .ok (.iload_n 2, 1) := by decide +kernel
theorem dX5_turns_14 : decode cX5_turns 14 = .ok (.iload 4, 2) := by decide +kernel
theorem dX5_turns_16 : decode cX5_turns 16 = .ok (.iadd, 1) := by decide +kernel
theorem dX5_turns_17 : decode cX5_turns 17 = .ok (.dup2, 1) := by decide +kernel
theorem dX5_turns_18 : decode cX5_turns 18 = .ok (.iaload, 1) := by decide +kernel
theorem dX5_turns_19 : decode cX5_turns 19 = .ok (.aload_n 0, 1) := by decide +kernel
theorem dX5_turns_20 : decode cX5_turns 20 = .ok (.bipush 14, 2) := by decide +kernel
theorem dX5_turns_22 : decode cX5_turns 22 = .ok (.iload 4, 2) := by decide +kernel
theorem dX5_turns_24 : decode cX5_turns 24 = .ok (.iadd, 1) := by decide +kernel
theorem dX5_turns_25 : decode cX5_turns 25 = .ok (.iaload, 1) := by decide +kernel
theorem dX5_turns_26 : decode cX5_turns 26 = .ok (.iadd, 1) := by decide +kernel
theorem dX5_turns_27 : decode cX5_turns 27 = .ok (.iastore, 1) := by decide +kernel
theorem dX5_turns_28 : decode cX5_turns 28 = .ok (.aload_n 0, 1) := by decide +kernel
theorem dX5_turns_29 : decode cX5_turns 29 = .ok (.bipush 14, 2) := by decide +kernel
theorem dX5_turns_31 : decode cX5_turns 31 = .ok (.iload 4, 2) := by decide +kernel
theorem dX5_turns_33 : decode cX5_turns 33 = .ok (.iadd, 1) := by decide +kernel
theorem dX5_turns_34 : decode cX5_turns 34 = .ok (.iaload, 1) := by decide +kernel
theorem dX5_turns_35 : decode cX5_turns 35 = .ok (.ifCond .le 27, 3) := by decide +kernel
theorem dX5_turns_38 : decode cX5_turns 38 = .ok (.iload_n 3, 1) := by decide +kernel
theorem dX5_turns_39 : decode cX5_turns 39 = .ok (.iconst (-1), 1) := by decide +kernel
theorem dX5_turns_40 : decode cX5_turns 40 = .ok (.if_icmp .eq 17, 3) := by decide +kernel
theorem dX5_turns_43 : decode cX5_turns 43 = .ok (.aload_n 1, 1) := by decide +kernel
theorem dX5_turns_44 : decode cX5_turns 44 = .ok (.iload_n 2, 1) := by decide +kernel
theorem dX5_turns_45 : decode cX5_turns 45 = .ok (.iload 4, 2) := by decide +kernel
theorem dX5_turns_47 : decode cX5_turns 47 = .ok (.iadd, 1) := by decide +kernel
theorem dX5_turns_48 : decode cX5_turns 48 = .ok (.iaload, 1) := by decide +kernel
theorem dX5_turns_49 : decode cX5_turns 49 = .ok (.aload_n 1, 1) := by decide +kernel
theorem dX5_turns_50 : decode cX5_turns 50 = .ok (.iload_n 2, 1) := by decide +kernel
theorem dX5_turns_51 : decode cX5_turns 51 = .ok (.iload_n 3, 1) := by decide +kernel
theorem dX5_turns_52 : decode cX5_turns 52 = .ok (.iadd, 1) := by decide +kernel
theorem dX5_turns_53 : decode cX5_turns 53 = .ok (.iaload, 1) := by decide +kernel
theorem dX5_turns_54 : decode cX5_turns 54 = .ok (.if_icmp .le 8, 3) := by decide +kernel
theorem dX5_turns_57 : decode cX5_turns 57 = .ok (.iload 4, 2) := by decide +kernel
theorem dX5_turns_59 : decode cX5_turns 59 = .ok (.goto 4, 3) := by decide +kernel
theorem dX5_turns_62 : decode cX5_turns 62 = .ok (.iload_n 3, 1) := by decide +kernel
theorem dX5_turns_63 : decode cX5_turns 63 = .ok (.istore_n 3, 1) := by decide +kernel
theorem dX5_turns_64 : decode cX5_turns 64 = .ok (.iinc 4 1, 3) := by decide +kernel
theorem dX5_turns_67 : decode cX5_turns 67 = .ok (.goto (-62), 3) := by decide +kernel
theorem dX5_turns_70 : decode cX5_turns 70 = .ok (.iload_n 3, 1) := by decide +kernel
theorem dX5_turns_71 : decode cX5_turns 71 = .ok (.iconst (-1), 1) := by decide +kernel
theorem dX5_turns_72 : decode cX5_turns 72 = .ok (.if_icmp .eq 15, 3) := by decide +kernel
theorem dX5_turns_75 : decode cX5_turns 75 = .ok (.aload_n 1, 1) := by decide +kernel
theorem dX5_turns_76 : decode cX5_turns 76 = .ok (.iload_n 2, 1) := by decide +kernel
theorem dX5_turns_77 : decode cX5_turns 77 = .ok (.iload_n 3, 1) := by decide +kernel
theorem dX5_turns_78 : decode cX5_turns 78 = .ok (.iadd, 1) := by decide +kernel
theorem dX5_turns_79 : decode cX5_turns 79 = .ok (.dup2, 1) := by decide +kernel
theorem dX5_turns_80 : decode cX5_turns 80 = .ok (.iaload, 1) := by decide +kernel
theorem dX5_turns_81 : decode cX5_turns 81 = .ok (.aload_n 0, 1) := by decide +kernel
theorem dX5_turns_82 : decode cX5_turns 82 = .ok (.invokestatic 52, 3) := by decide +kernel
theorem dX5_turns_85 : decode cX5_turns 85 = .ok (.isub, 1) := by decide +kernel
theorem dX5_turns_86 : decode cX5_turns 86 = .ok (.iastore, 1) := by decide +kernel
theorem dX5_turns_87 : decode cX5_turns 87 = .ok (.iload_n 3, 1) := by decide +kernel
theorem dX5_turns_88 : decode cX5_turns 88 = .ok (.ireturn, 1) := by decide +kernel
theorem dX5_litBy_0 : decode cX5_litBy 0 = .ok (.aload_n 0, 1) := by decide +kernel
theorem dX5_litBy_1 : decode cX5_litBy 1 = .ok (.iconst 3, 1) := by decide +kernel
theorem dX5_litBy_2 : decode cX5_litBy 2 = .ok (.iaload, 1) := by decide +kernel
theorem dX5_litBy_3 : decode cX5_litBy 3 = .ok (.iconst 1, 1) := by decide +kernel
theorem dX5_litBy_4 : decode cX5_litBy 4 = .ok (.if_icmp .ne 16, 3) := by decide +kernel
theorem dX5_litBy_7 : decode cX5_litBy 7 = .ok (.iload_n 1, 1) := by decide +kernel
theorem dX5_litBy_8 : decode cX5_litBy 8 = .ok (.iload_n 2, 1) := by decide +kernel
theorem dX5_litBy_9 : decode cX5_litBy 9 = .ok (.if_icmp .ne 7, 3) := by decide +kernel
theorem dX5_litBy_12 : decode cX5_litBy 12 = .ok (.iload_n 3, 1) := by decide +kernel
theorem dX5_litBy_13 : decode cX5_litBy 13 = .ok (.ifCond .ne 7, 3) := by decide +kernel
theorem dX5_litBy_16 : decode cX5_litBy 16 = .ok (.iconst (-1), 1) := by decide +kernel
theorem dX5_litBy_17 : decode cX5_litBy 17 = .ok (.goto 4, 3) := by decide +kernel
theorem dX5_litBy_20 : decode cX5_litBy 20 = .ok (.iload_n 1, 1) := by decide +kernel
theorem dX5_litBy_21 : decode cX5_litBy 21 = .ok (.ireturn, 1) := by decide +kernel
set_option maxRecDepth 20000 in
theorem ggX5_frames_X5_turns : GoodIn wsX5_frames wsX5_turns := goodIn_r _ [8, 9, 10, 7, 11] (by decide +kernel) (by decide +kernel)
set_option maxRecDepth 20000 in
theorem gX5_frames_X5_turns : GoodIn wsX5_frames (va_wsS RX5 59 yX5_turns wsX5_turns) := goodIn_app (goodIn_of _ (by decide +kernel)) ggX5_frames_X5_turns
set_option maxRecDepth 20000 in
theorem ggX5_frames_X5_litBy : GoodIn wsX5_frames wsX5_litBy := goodIn_r _ [14] (by decide +kernel) (by decide +kernel)
set_option maxRecDepth 20000 in
theorem gX5_frames_X5_litBy : GoodIn wsX5_frames (va_wsS RX5 63 yX5_litBy wsX5_litBy) := goodIn_app (goodIn_of _ (by decide +kernel)) ggX5_frames_X5_litBy
theorem dX5_frames_0 : decode cX5_frames 0 = .ok (.aload_n 0, 1) := by decide +kernel
theorem dX5_frames_1 : decode cX5_frames 1 = .ok (.aload_n 1, 1) := by decide +kernel
theorem dX5_frames_2 : decode cX5_frames 2 = .ok (.iconst 2, 1) := by decide +kernel
theorem dX5_frames_3 : decode cX5_frames 3 = .ok (.iaload, 1) := by decide +kernel
theorem dX5_frames_4 : decode cX5_frames 4 = .ok (.putfield 56, 3) := by decide +kernel
theorem dX5_frames_7 : decode cX5_frames 7 = .ok (.iconst 0, 1) := by decide +kernel
theorem dX5_frames_8 : decode cX5_frames 8 = .ok (.istore_n 2, 1) := by decide +kernel
theorem dX5_frames_9 : decode cX5_frames 9 = .ok (.iload_n 2, 1) := by decide +kernel
theorem dX5_frames_10 : decode cX5_frames 10 = .ok (.bipush 6, 2) := by decide +kernel
theorem dX5_frames_12 : decode cX5_frames 12 = .ok (.if_icmp .ge 21, 3) := by decide +kernel
theorem dX5_frames_15 : decode cX5_frames 15 = .ok (.aload_n 0, 1) := by decide +kernel
theorem dX5_frames_16 : decode cX5_frames 16 = .ok (.getfield 34, 3) := by decide +kernel
theorem dX5_frames_19 : decode cX5_frames 19 = .ok (.iload_n 2, 1) := by decide +kernel
theorem dX5_frames_20 : decode cX5_frames 20 = .ok (.aload_n 1, 1) := by decide +kernel
theorem dX5_frames_21 : decode cX5_frames 21 = .ok (.bipush 26, 2) := by decide +kernel
theorem dX5_frames_23 : decode cX5_frames 23 = .ok (.iload_n 2, 1) := by decide +kernel
theorem dX5_frames_24 : decode cX5_frames 24 = .ok (.iadd, 1) := by decide +kernel
theorem dX5_frames_25 : decode cX5_frames 25 = .ok (.iaload, 1) := by decide +kernel
theorem dX5_frames_26 : decode cX5_frames 26 = .ok (.iastore, 1) := by decide +kernel
theorem dX5_frames_27 : decode cX5_frames 27 = .ok (.iinc 2 1, 3) := by decide +kernel
theorem dX5_frames_30 : decode cX5_frames 30 = .ok (.goto (-21), 3) := by decide +kernel
theorem dX5_frames_33 : decode cX5_frames 33 = .ok (.iconst 0, 1) := by decide +kernel
theorem dX5_frames_34 : decode cX5_frames 34 = .ok (.istore_n 2, 1) := by decide +kernel
theorem dX5_frames_35 : decode cX5_frames 35 = .ok (.iload_n 2, 1) := by decide +kernel
theorem dX5_frames_36 : decode cX5_frames 36 = .ok (.aload_n 0, 1) := by decide +kernel
theorem dX5_frames_37 : decode cX5_frames 37 = .ok (.getfield 56, 3) := by decide +kernel
theorem dX5_frames_40 : decode cX5_frames 40 = .ok (.if_icmp .ge 64, 3) := by decide +kernel
theorem dX5_frames_43 : decode cX5_frames 43 = .ok (.aload_n 0, 1) := by decide +kernel
theorem dX5_frames_44 : decode cX5_frames 44 = .ok (.getfield 28, 3) := by decide +kernel
theorem dX5_frames_47 : decode cX5_frames 47 = .ok (.iload_n 2, 1) := by decide +kernel
theorem dX5_frames_48 : decode cX5_frames 48 = .ok (.aload_n 1, 1) := by decide +kernel
theorem dX5_frames_49 : decode cX5_frames 49 = .ok (.aload_n 0, 1) := by decide +kernel
theorem dX5_frames_50 : decode cX5_frames 50 = .ok (.getfield 34, 3) := by decide +kernel
theorem dX5_frames_53 : decode cX5_frames 53 = .ok (.iconst 0, 1) := by decide +kernel
theorem dX5_frames_54 : decode cX5_frames 54 = .ok (.invokestatic 59, 3) := by decide +kernel
theorem dX5_frames_57 : decode cX5_frames 57 = .ok (.iastore, 1) := by decide +kernel
theorem dX5_frames_58 : decode cX5_frames 58 = .ok (.aload_n 0, 1) := by decide +kernel
theorem dX5_frames_59 : decode cX5_frames 59 = .ok (.getfield 31, 3) := by decide +kernel
theorem dX5_frames_62 : decode cX5_frames 62 = .ok (.iload_n 2, 1) := by decide +kernel
theorem dX5_frames_63 : decode cX5_frames 63 = .ok (.aload_n 1, 1) := by decide +kernel
theorem dX5_frames_64 : decode cX5_frames 64 = .ok (.aload_n 0, 1) := by decide +kernel
theorem dX5_frames_65 : decode cX5_frames 65 = .ok (.getfield 28, 3) := by decide +kernel
theorem dX5_frames_68 : decode cX5_frames 68 = .ok (.iload_n 2, 1) := by decide +kernel
theorem dX5_frames_69 : decode cX5_frames 69 = .ok (.iaload, 1) := by decide +kernel
theorem dX5_frames_70 : decode cX5_frames 70 = .ok (.iload_n 2, 1) := by decide +kernel
theorem dX5_frames_71 : decode cX5_frames 71 = .ok (.ifCond .ne 10, 3) := by decide +kernel
theorem dX5_frames_74 : decode cX5_frames 74 = .ok (.aload_n 1, 1) := by decide +kernel
theorem dX5_frames_75 : decode cX5_frames 75 = .ok (.bipush 7, 2) := by decide +kernel
theorem dX5_frames_77 : decode cX5_frames 77 = .ok (.iaload, 1) := by decide +kernel
theorem dX5_frames_78 : decode cX5_frames 78 = .ok (.goto 11, 3) := by decide +kernel
theorem dX5_frames_81 : decode cX5_frames 81 = .ok (.aload_n 0, 1) := by decide +kernel
theorem dX5_frames_82 : decode cX5_frames 82 = .ok (.getfield 28, 3) := by decide +kernel
theorem dX5_frames_85 : decode cX5_frames 85 = .ok (.iload_n 2, 1) := by decide +kernel
theorem dX5_frames_86 : decode cX5_frames 86 = .ok (.iconst 1, 1) := by decide +kernel
theorem dX5_frames_87 : decode cX5_frames 87 = .ok (.isub, 1) := by decide +kernel
theorem dX5_frames_88 : decode cX5_frames 88 = .ok (.iaload, 1) := by decide +kernel
theorem dX5_frames_89 : decode cX5_frames 89 = .ok (.aload_n 1, 1) := by decide +kernel
theorem dX5_frames_90 : decode cX5_frames 90 = .ok (.iconst 0, 1) := by decide +kernel
theorem dX5_frames_91 : decode cX5_frames 91 = .ok (.iaload, 1) := by decide +kernel
theorem dX5_frames_92 : decode cX5_frames 92 = .ok (.iload_n 2, 1) := by decide +kernel
theorem dX5_frames_93 : decode cX5_frames 93 = .ok (.iadd, 1) := by decide +kernel
theorem dX5_frames_94 : decode cX5_frames 94 = .ok (.invokestatic 63, 3) := by decide +kernel
theorem dX5_frames_97 : decode cX5_frames 97 = .ok (.iastore, 1) := by decide +kernel
theorem dX5_frames_98 : decode cX5_frames 98 = .ok (.iinc 2 1, 3) := by decide +kernel
theorem dX5_frames_101 : decode cX5_frames 101 = .ok (.goto (-66), 3) := by decide +kernel
theorem dX5_frames_104 : decode cX5_frames 104 = .ok (.return_, 1) := by decide +kernel
theorem dX5_light_0 : decode cX5_light 0 = .ok (.iconst 0, 1) := by decide +kernel
theorem dX5_light_1 : decode cX5_light 1 = .ok (.istore_n 2, 1) := by decide +kernel
theorem dX5_light_2 : decode cX5_light 2 = .ok (.iconst 0, 1) := by decide +kernel
theorem dX5_light_3 : decode cX5_light 3 = .ok (.istore_n 3, 1) := by decide +kernel
theorem dX5_light_4 : decode cX5_light 4 = .ok (.iload_n 3, 1) := by decide +kernel
theorem dX5_light_5 : decode cX5_light 5 = .ok (.aload_n 0, 1) := by decide +kernel
theorem dX5_light_6 : decode cX5_light 6 = .ok (.getfield 56, 3) := by decide +kernel
theorem dX5_light_9 : decode cX5_light 9 = .ok (.if_icmp .ge 27, 3) := by decide +kernel
theorem dX5_light_12 : decode cX5_light 12 = .ok (.iload_n 2, 1) := by decide +kernel
theorem dX5_light_13 : decode cX5_light 13 = .ok (.aload_n 0, 1) := by decide +kernel
theorem dX5_light_14 : decode cX5_light 14 = .ok (.getfield 31, 3) := by decide +kernel
theorem dX5_light_17 : decode cX5_light 17 = .ok (.iload_n 3, 1) := by decide +kernel
theorem dX5_light_18 : decode cX5_light 18 = .ok (.iaload, 1) := by decide +kernel
theorem dX5_light_19 : decode cX5_light 19 = .ok (.iload_n 1, 1) := by decide +kernel
theorem dX5_light_20 : decode cX5_light 20 = .ok (.if_icmp .ne 7, 3) := by decide +kernel
theorem dX5_light_23 : decode cX5_light 23 = .ok (.iconst 1, 1) := by decide +kernel
theorem dX5_light_24 : decode cX5_light 24 = .ok (.goto 4, 3) := by decide +kernel
theorem dX5_light_27 : decode cX5_light 27 = .ok (.iconst 0, 1) := by decide +kernel
theorem dX5_light_28 : decode cX5_light 28 = .ok (.iadd, 1) := by decide +kernel
theorem dX5_light_29 : decode cX5_light 29 = .ok (.istore_n 2, 1) := by decide +kernel
theorem dX5_light_30 : decode cX5_light 30 = .ok (.iinc 3 1, 3) := by decide +kernel
theorem dX5_light_33 : decode cX5_light 33 = .ok (.goto (-29), 3) := by decide +kernel
theorem dX5_light_36 : decode cX5_light 36 = .ok (.iload_n 2, 1) := by decide +kernel
theorem dX5_light_37 : decode cX5_light 37 = .ok (.sipush 1000, 3) := by decide +kernel
theorem dX5_light_40 : decode cX5_light 40 = .ok (.imul, 1) := by decide +kernel
theorem dX5_light_41 : decode cX5_light 41 = .ok (.aload_n 0, 1) := by decide +kernel
theorem dX5_light_42 : decode cX5_light 42 = .ok (.getfield 56, 3) := by decide +kernel
theorem dX5_light_45 : decode cX5_light 45 = .ok (.idiv, 1) := by decide +kernel
theorem dX5_light_46 : decode cX5_light 46 = .ok (.ireturn, 1) := by decide +kernel
theorem dX5_gap_0 : decode cX5_gap 0 = .ok (.iconst 0, 1) := by decide +kernel
theorem dX5_gap_1 : decode cX5_gap 1 = .ok (.istore_n 2, 1) := by decide +kernel
theorem dX5_gap_2 : decode cX5_gap 2 = .ok (.iconst 0, 1) := by decide +kernel
theorem dX5_gap_3 : decode cX5_gap 3 = .ok (.istore_n 3, 1) := by decide +kernel
theorem dX5_gap_4 : decode cX5_gap 4 = .ok (.iconst 0, 1) := by decide +kernel
theorem dX5_gap_5 : decode cX5_gap 5 = .ok (.istore 4, 2) := by decide +kernel
theorem dX5_gap_7 : decode cX5_gap 7 = .ok (.iload 4, 2) := by decide +kernel
theorem dX5_gap_9 : decode cX5_gap 9 = .ok (.aload_n 0, 1) := by decide +kernel
theorem dX5_gap_10 : decode cX5_gap 10 = .ok (.getfield 56, 3) := by decide +kernel
theorem dX5_gap_13 : decode cX5_gap 13 = .ok (.if_icmp .ge 39, 3) := by decide +kernel
theorem dX5_gap_16 : decode cX5_gap 16 = .ok (.aload_n 0, 1) := by decide +kernel
theorem dX5_gap_17 : decode cX5_gap 17 = .ok (.getfield 31, 3) := by decide +kernel
theorem dX5_gap_20 : decode cX5_gap 20 = .ok (.iload 4, 2) := by decide +kernel
theorem dX5_gap_22 : decode cX5_gap 22 = .ok (.iaload, 1) := by decide +kernel
theorem dX5_gap_23 : decode cX5_gap 23 = .ok (.iload_n 1, 1) := by decide +kernel
theorem dX5_gap_24 : decode cX5_gap 24 = .ok (.if_icmp .ne 7, 3) := by decide +kernel
theorem dX5_gap_27 : decode cX5_gap 27 = .ok (.iconst 0, 1) := by decide +kernel
theorem dX5_gap_28 : decode cX5_gap 28 = .ok (.goto 6, 3) := by decide +kernel
theorem dX5_gap_31 : decode cX5_gap 31 = .ok (.iload_n 3, 1) := by decide +kernel
theorem dX5_gap_32 : decode cX5_gap 32 = .ok (.iconst 1, 1) := by decide +kernel
theorem dX5_gap_33 : decode cX5_gap 33 = .ok (.iadd, 1) := by decide +kernel
theorem dX5_gap_34 : decode cX5_gap 34 = .ok (.istore_n 3, 1) := by decide +kernel
theorem dX5_gap_35 : decode cX5_gap 35 = .ok (.iload_n 3, 1) := by decide +kernel
theorem dX5_gap_36 : decode cX5_gap 36 = .ok (.iload_n 2, 1) := by decide +kernel
theorem dX5_gap_37 : decode cX5_gap 37 = .ok (.if_icmp .le 7, 3) := by decide +kernel
theorem dX5_gap_40 : decode cX5_gap 40 = .ok (.iload_n 3, 1) := by decide +kernel
theorem dX5_gap_41 : decode cX5_gap 41 = .ok (.goto 4, 3) := by decide +kernel
theorem dX5_gap_44 : decode cX5_gap 44 = .ok (.iload_n 2, 1) := by decide +kernel
theorem dX5_gap_45 : decode cX5_gap 45 = .ok (.istore_n 2, 1) := by decide +kernel
theorem dX5_gap_46 : decode cX5_gap 46 = .ok (.iinc 4 1, 3) := by decide +kernel
theorem dX5_gap_49 : decode cX5_gap 49 = .ok (.goto (-42), 3) := by decide +kernel
theorem dX5_gap_52 : decode cX5_gap 52 = .ok (.iload_n 2, 1) := by decide +kernel
theorem dX5_gap_53 : decode cX5_gap 53 = .ok (.ireturn, 1) := by decide +kernel
set_option maxRecDepth 20000 in
theorem ggX5_flickers_X5_gap : GoodIn wsX5_flickers wsX5_gap := goodIn_r _ [6, 1, 7, 8, 9, 10, 11, 12, 13, 14, 15, 16, 17, 18, 19, 20, 21, 22, 23] (by decide +kernel) (by decide +kernel)
set_option maxRecDepth 20000 in
theorem gX5_flickers_X5_gap : GoodIn wsX5_flickers (wsV RX5 67 RX5 yX5_gap wsX5_gap) := goodIn_app (goodIn_of _ (by decide +kernel)) ggX5_flickers_X5_gap
theorem dX5_flickers_0 : decode cX5_flickers 0 = .ok (.aload_n 0, 1) := by decide +kernel
theorem dX5_flickers_1 : decode cX5_flickers 1 = .ok (.iload_n 2, 1) := by decide +kernel
theorem dX5_flickers_2 : decode cX5_flickers 2 = .ok (.invokevirtual 67, 3) := by decide +kernel
theorem dX5_flickers_5 : decode cX5_flickers 5 = .ok (.istore_n 3, 1) := by decide +kernel
theorem dX5_flickers_6 : decode cX5_flickers 6 = .ok (.iload_n 3, 1) := by decide +kernel
theorem dX5_flickers_7 : decode cX5_flickers 7 = .ok (.aload_n 0, 1) := by decide +kernel
theorem dX5_flickers_8 : decode cX5_flickers 8 = .ok (.getfield 56, 3) := by decide +kernel
theorem dX5_flickers_11 : decode cX5_flickers 11 = .ok (.if_icmp .ge 14, 3) := by decide +kernel
theorem dX5_flickers_14 : decode cX5_flickers 14 = .ok (.iload_n 3, 1) := by decide +kernel
theorem dX5_flickers_15 : decode cX5_flickers 15 = .ok (.aload_n 1, 1) := by decide +kernel
theorem dX5_flickers_16 : decode cX5_flickers 16 = .ok (.iconst 4, 1) := by decide +kernel
theorem dX5_flickers_17 : decode cX5_flickers 17 = .ok (.iaload, 1) := by decide +kernel
theorem dX5_flickers_18 : decode cX5_flickers 18 = .ok (.if_icmp .le 7, 3) := by decide +kernel
theorem dX5_flickers_21 : decode cX5_flickers 21 = .ok (.iconst 1, 1) := by decide +kernel
theorem dX5_flickers_22 : decode cX5_flickers 22 = .ok (.goto 4, 3) := by decide +kernel
theorem dX5_flickers_25 : decode cX5_flickers 25 = .ok (.iconst 0, 1) := by decide +kernel
theorem dX5_flickers_26 : decode cX5_flickers 26 = .ok (.ireturn, 1) := by decide +kernel
set_option maxRecDepth 20000 in
theorem ggX5_isSeen_X5_light : GoodIn wsX5_isSeen wsX5_light := goodIn_r _ [5, 6, 7, 16, 17, 18, 19, 20, 21, 22, 23, 24, 25, 26, 27, 28, 29, 30, 31] (by decide +kernel) (by decide +kernel)
set_option maxRecDepth 20000 in
theorem gX5_isSeen_X5_light : GoodIn wsX5_isSeen (wsV RX5 70 RX5 yX5_light wsX5_light) := goodIn_app (goodIn_of _ (by decide +kernel)) ggX5_isSeen_X5_light
set_option maxRecDepth 20000 in
theorem ggX5_isSeen_X5_flickers : GoodIn wsX5_isSeen wsX5_flickers := goodIn_r _ [11, 6, 12, 13, 14, 4, 15, 7, 16, 17, 18, 19, 20, 21, 22, 23, 24, 25, 26, 27, 28, 29, 30, 31] (by decide +kernel) (by decide +kernel)
set_option maxRecDepth 20000 in
theorem gX5_isSeen_X5_flickers : GoodIn wsX5_isSeen (wsV RX5 73 RX5 yX5_flickers wsX5_flickers) := goodIn_app (goodIn_of _ (by decide +kernel)) ggX5_isSeen_X5_flickers
theorem dX5_isSeen_0 : decode cX5_isSeen 0 = .ok (.aload_n 0, 1) := by decide +kernel
theorem dX5_isSeen_1 : decode cX5_isSeen 1 = .ok (.iload_n 2, 1) := by decide +kernel
theorem dX5_isSeen_2 : decode cX5_isSeen 2 = .ok (.invokevirtual 70, 3) := by decide +kernel
theorem dX5_isSeen_5 : decode cX5_isSeen 5 = .ok (.istore_n 3, 1) := by decide +kernel
theorem dX5_isSeen_6 : decode cX5_isSeen 6 = .ok (.iload_n 3, 1) := by decide +kernel
theorem dX5_isSeen_7 : decode cX5_isSeen 7 = .ok (.ifCond .le 27, 3) := by decide +kernel
theorem dX5_isSeen_10 : decode cX5_isSeen 10 = .ok (.iload_n 3, 1) := by decide +kernel
theorem dX5_isSeen_11 : decode cX5_isSeen 11 = .ok (.aload_n 1, 1) := by decide +kernel
theorem dX5_isSeen_12 : decode cX5_isSeen 12 = .ok (.iconst 5, 1) := by decide +kernel
theorem dX5_isSeen_13 : decode cX5_isSeen 13 = .ok (.iaload, 1) := by decide +kernel
theorem dX5_isSeen_14 : decode cX5_isSeen 14 = .ok (.aload_n 1, 1) := by decide +kernel
theorem dX5_isSeen_15 : decode cX5_isSeen 15 = .ok (.iconst 1, 1) := by decide +kernel
theorem dX5_isSeen_16 : decode cX5_isSeen 16 = .ok (.iaload, 1) := by decide +kernel
theorem dX5_isSeen_17 : decode cX5_isSeen 17 = .ok (.imul, 1) := by decide +kernel
theorem dX5_isSeen_18 : decode cX5_isSeen 18 = .ok (.if_icmp .lt 16, 3) := by decide +kernel
theorem dX5_isSeen_21 : decode cX5_isSeen 21 = .ok (.aload_n 0, 1) := by decide +kernel
theorem dX5_isSeen_22 : decode cX5_isSeen 22 = .ok (.aload_n 1, 1) := by decide +kernel
theorem dX5_isSeen_23 : decode cX5_isSeen 23 = .ok (.iload_n 2, 1) := by decide +kernel
theorem dX5_isSeen_24 : decode cX5_isSeen 24 = .ok (.invokevirtual 73, 3) := by decide +kernel
theorem dX5_isSeen_27 : decode cX5_isSeen 27 = .ok (.ifCond .ne 7, 3) := by decide +kernel
theorem dX5_isSeen_30 : decode cX5_isSeen 30 = .ok (.iconst 1, 1) := by decide +kernel
theorem dX5_isSeen_31 : decode cX5_isSeen 31 = .ok (.goto 4, 3) := by decide +kernel
theorem dX5_isSeen_34 : decode cX5_isSeen 34 = .ok (.iconst 0, 1) := by decide +kernel
theorem dX5_isSeen_35 : decode cX5_isSeen 35 = .ok (.ireturn, 1) := by decide +kernel
set_option maxRecDepth 20000 in
theorem ggX5_readable_X5_shownAs : GoodIn wsX5_readable wsX5_shownAs := goodIn_r _ [6, 7, 1, 8, 9, 10, 11, 12, 13, 14, 15, 16, 17, 18, 19, 20, 21, 22, 23] (by decide +kernel) (by decide +kernel)
set_option maxRecDepth 20000 in
theorem gX5_readable_X5_shownAs : GoodIn wsX5_readable (wsV RX5 77 RX5 yX5_shownAs wsX5_shownAs) := goodIn_app (goodIn_of _ (by decide +kernel)) ggX5_readable_X5_shownAs
theorem dX5_readable_0 : decode cX5_readable 0 = .ok (.iconst 0, 1) := by decide +kernel
theorem dX5_readable_1 : decode cX5_readable 1 = .ok (.istore_n 2, 1) := by decide +kernel
theorem dX5_readable_2 : decode cX5_readable 2 = .ok (.iconst 0, 1) := by decide +kernel
theorem dX5_readable_3 : decode cX5_readable 3 = .ok (.istore_n 3, 1) := by decide +kernel
theorem dX5_readable_4 : decode cX5_readable 4 = .ok (.iload_n 3, 1) := by decide +kernel
theorem dX5_readable_5 : decode cX5_readable 5 = .ok (.bipush 12, 2) := by decide +kernel
theorem dX5_readable_7 : decode cX5_readable 7 = .ok (.if_icmp .ge 42, 3) := by decide +kernel
theorem dX5_readable_10 : decode cX5_readable 10 = .ok (.iload_n 2, 1) := by decide +kernel
theorem dX5_readable_11 : decode cX5_readable 11 = .ok (.aload_n 0, 1) := by decide +kernel
theorem dX5_readable_12 : decode cX5_readable 12 = .ok (.iload_n 1, 1) := by decide +kernel
theorem dX5_readable_13 : decode cX5_readable 13 = .ok (.iload_n 3, 1) := by decide +kernel
theorem dX5_readable_14 : decode cX5_readable 14 = .ok (.invokevirtual 77, 3) := by decide +kernel
theorem dX5_readable_17 : decode cX5_readable 17 = .ok (.aload_n 0, 1) := by decide +kernel
theorem dX5_readable_18 : decode cX5_readable 18 = .ok (.iload_n 1, 1) := by decide +kernel
theorem dX5_readable_19 : decode cX5_readable 19 = .ok (.aload_n 0, 1) := by decide +kernel
theorem dX5_readable_20 : decode cX5_readable 20 = .ok (.getfield 13, 3) := by decide +kernel
theorem dX5_readable_23 : decode cX5_readable 23 = .ok (.bipush 8, 2) := by decide +kernel
theorem dX5_readable_25 : decode cX5_readable 25 = .ok (.iload_n 1, 1) := by decide +kernel
theorem dX5_readable_26 : decode cX5_readable 26 = .ok (.iadd, 1) := by decide +kernel
theorem dX5_readable_27 : decode cX5_readable 27 = .ok (.iaload, 1) := by decide +kernel
theorem dX5_readable_28 : decode cX5_readable 28 = .ok (.invokevirtual 77, 3) := by decide +kernel
theorem dX5_readable_31 : decode cX5_readable 31 = .ok (.if_icmp .ne 9, 3) := by decide +kernel
theorem dX5_readable_34 : decode cX5_readable 34 = .ok (.iconst 1, 1) := by decide +kernel
theorem dX5_readable_35 : decode cX5_readable 35 = .ok (.iload_n 3, 1) := by decide +kernel
theorem dX5_readable_36 : decode cX5_readable 36 = .ok (.ishl, 1) := by decide +kernel
theorem dX5_readable_37 : decode cX5_readable 37 = .ok (.goto 4, 3) := by decide +kernel
theorem dX5_readable_40 : decode cX5_readable 40 = .ok (.iconst 0, 1) := by decide +kernel
theorem dX5_readable_41 : decode cX5_readable 41 = .ok (.ior, 1) := by decide +kernel
theorem dX5_readable_42 : decode cX5_readable 42 = .ok (.istore_n 2, 1) := by decide +kernel
theorem dX5_readable_43 : decode cX5_readable 43 = .ok (.iinc 3 1, 3) := by decide +kernel
theorem dX5_readable_46 : decode cX5_readable 46 = .ok (.goto (-42), 3) := by decide +kernel
theorem dX5_readable_49 : decode cX5_readable 49 = .ok (.iload_n 2, 1) := by decide +kernel
theorem dX5_readable_50 : decode cX5_readable 50 = .ok (.ireturn, 1) := by decide +kernel
set_option maxRecDepth 20000 in
theorem ggX5_isClear_X5_readable : GoodIn wsX5_isClear wsX5_readable := goodIn_r _ [6, 1, 7, 8, 9, 5, 10, 11, 30, 31, 32, 33, 34, 35, 36, 37, 38, 39, 40, 41, 42, 43, 44, 45] (by decide +kernel) (by decide +kernel)
set_option maxRecDepth 20000 in
theorem gX5_isClear_X5_readable : GoodIn wsX5_isClear (wsV RX5 81 RX5 yX5_readable wsX5_readable) := goodIn_app (goodIn_of _ (by decide +kernel)) ggX5_isClear_X5_readable
set_option maxRecDepth 20000 in
theorem ggX5_isClear_X5_isSeen : GoodIn wsX5_isClear wsX5_isSeen := goodIn_r _ [15, 16, 17, 18, 5, 19, 20, 21, 22, 23, 24, 25, 26, 27, 28, 29, 30, 31, 32, 33, 34, 35, 36, 37, 38, 39, 40, 41, 42, 43, 44, 45] (by decide +kernel) (by decide +kernel)
set_option maxRecDepth 20000 in
theorem gX5_isClear_X5_isSeen : GoodIn wsX5_isClear (wsV RX5 84 RX5 yX5_isSeen wsX5_isSeen) := goodIn_app (goodIn_of _ (by decide +kernel)) ggX5_isClear_X5_isSeen
theorem dX5_isClear_0 : decode cX5_isClear 0 = .ok (.aload_n 0, 1) := by decide +kernel
theorem dX5_isClear_1 : decode cX5_isClear 1 = .ok (.iload_n 1, 1) := by decide +kernel
theorem dX5_isClear_2 : decode cX5_isClear 2 = .ok (.invokevirtual 81, 3) := by decide +kernel
theorem dX5_isClear_5 : decode cX5_isClear 5 = .ok (.istore_n 2, 1) := by decide +kernel
theorem dX5_isClear_6 : decode cX5_isClear 6 = .ok (.aload_n 0, 1) := by decide +kernel
theorem dX5_isClear_7 : decode cX5_isClear 7 = .ok (.aload_n 0, 1) := by decide +kernel
theorem dX5_isClear_8 : decode cX5_isClear 8 = .ok (.getfield 13, 3) := by decide +kernel
theorem dX5_isClear_11 : decode cX5_isClear 11 = .ok (.iload_n 1, 1) := by decide +kernel
theorem dX5_isClear_12 : decode cX5_isClear 12 = .ok (.invokevirtual 84, 3) := by decide +kernel
theorem dX5_isClear_15 : decode cX5_isClear 15 = .ok (.ifCond .eq 15, 3) := by decide +kernel
theorem dX5_isClear_18 : decode cX5_isClear 18 = .ok (.iload_n 2, 1) := by decide +kernel
theorem dX5_isClear_19 : decode cX5_isClear 19 = .ok (.iload_n 2, 1) := by decide +kernel
theorem dX5_isClear_20 : decode cX5_isClear 20 = .ok (.iconst 1, 1) := by decide +kernel
theorem dX5_isClear_21 : decode cX5_isClear 21 = .ok (.isub, 1) := by decide +kernel
theorem dX5_isClear_22 : decode cX5_isClear 22 = .ok (.iand, 1) := by decide +kernel
theorem dX5_isClear_23 : decode cX5_isClear 23 = .ok (.ifCond .ne 7, 3) := by decide +kernel
theorem dX5_isClear_26 : decode cX5_isClear 26 = .ok (.iconst 1, 1) := by decide +kernel
theorem dX5_isClear_27 : decode cX5_isClear 27 = .ok (.goto 4, 3) := by decide +kernel
theorem dX5_isClear_30 : decode cX5_isClear 30 = .ok (.iconst 0, 1) := by decide +kernel
theorem dX5_isClear_31 : decode cX5_isClear 31 = .ok (.ireturn, 1) := by decide +kernel
theorem dX5_ones_0 : decode cX5_ones 0 = .ok (.iconst 0, 1) := by decide +kernel
theorem dX5_ones_1 : decode cX5_ones 1 = .ok (.istore_n 1, 1) := by decide +kernel
theorem dX5_ones_2 : decode cX5_ones 2 = .ok (.iload_n 0, 1) := by decide +kernel
theorem dX5_ones_3 : decode cX5_ones 3 = .ok (.istore_n 2, 1) := by decide +kernel
theorem dX5_ones_4 : decode cX5_ones 4 = .ok (.iload_n 2, 1) := by decide +kernel
theorem dX5_ones_5 : decode cX5_ones 5 = .ok (.ifCond .eq 15, 3) := by decide +kernel
theorem dX5_ones_8 : decode cX5_ones 8 = .ok (.iinc 1 1, 3) := by decide +kernel
theorem dX5_ones_11 : decode cX5_ones 11 = .ok (.iload_n 2, 1) := by decide +kernel
theorem dX5_ones_12 : decode cX5_ones 12 = .ok (.iload_n 2, 1) := by decide +kernel
theorem dX5_ones_13 : decode cX5_ones 13 = .ok (.iconst 1, 1) := by decide +kernel
theorem dX5_ones_14 : decode cX5_ones 14 = .ok (.isub, 1) := by decide +kernel
theorem dX5_ones_15 : decode cX5_ones 15 = .ok (.iand, 1) := by decide +kernel
theorem dX5_ones_16 : decode cX5_ones 16 = .ok (.istore_n 2, 1) := by decide +kernel
theorem dX5_ones_17 : decode cX5_ones 17 = .ok (.goto (-13), 3) := by decide +kernel
theorem dX5_ones_20 : decode cX5_ones 20 = .ok (.iload_n 1, 1) := by decide +kernel
theorem dX5_ones_21 : decode cX5_ones 21 = .ok (.ireturn, 1) := by decide +kernel
theorem dX5_changes_0 : decode cX5_changes 0 = .ok (.aload_n 0, 1) := by decide +kernel
theorem dX5_changes_1 : decode cX5_changes 1 = .ok (.getfield 13, 3) := by decide +kernel
theorem dX5_changes_4 : decode cX5_changes 4 = .ok (.iload_n 1, 1) := by decide +kernel
theorem dX5_changes_5 : decode cX5_changes 5 = .ok (.iaload, 1) := by decide +kernel
theorem dX5_changes_6 : decode cX5_changes 6 = .ok (.istore_n 3, 1) := by decide +kernel
theorem dX5_changes_7 : decode cX5_changes 7 = .ok (.aload_n 0, 1) := by decide +kernel
theorem dX5_changes_8 : decode cX5_changes 8 = .ok (.getfield 13, 3) := by decide +kernel
theorem dX5_changes_11 : decode cX5_changes 11 = .ok (.iload_n 1, 1) := by decide +kernel
theorem dX5_changes_12 : decode cX5_changes 12 = .ok (.iload_n 2, 1) := by decide +kernel
theorem dX5_changes_13 : decode cX5_changes 13 = .ok (.iastore, 1) := by decide +kernel
theorem dX5_changes_14 : decode cX5_changes 14 = .ok (.iload_n 3, 1) := by decide +kernel
theorem dX5_changes_15 : decode cX5_changes 15 = .ok (.ireturn, 1) := by decide +kernel
theorem dX5_noCredits_0 : decode cX5_noCredits 0 = .ok (.iconst 0, 1) := by decide +kernel
theorem dX5_noCredits_1 : decode cX5_noCredits 1 = .ok (.istore_n 1, 1) := by decide +kernel
theorem dX5_noCredits_2 : decode cX5_noCredits 2 = .ok (.iload_n 1, 1) := by decide +kernel
theorem dX5_noCredits_3 : decode cX5_noCredits 3 = .ok (.bipush 6, 2) := by decide +kernel
theorem dX5_noCredits_5 : decode cX5_noCredits 5 = .ok (.if_icmp .ge 19, 3) := by decide +kernel
theorem dX5_noCredits_8 : decode cX5_noCredits 8 = .ok (.aload_n 0, 1) := by decide +kernel
theorem dX5_noCredits_9 : decode cX5_noCredits 9 = .ok (.getfield 13, 3) := by decide +kernel
theorem dX5_noCredits_12 : decode cX5_noCredits 12 = .ok (.bipush 26, 2) := by decide +kernel
theorem dX5_noCredits_14 : decode cX5_noCredits 14 = .ok (.iload_n 1, 1) := by decide +kernel
theorem dX5_noCredits_15 : decode cX5_noCredits 15 = .ok (.iadd, 1) := by decide +kernel
theorem dX5_noCredits_16 : decode cX5_noCredits 16 = .ok (.iconst 0, 1) := by decide +kernel
theorem dX5_noCredits_17 : decode cX5_noCredits 17 = .ok (.iastore, 1) := by decide +kernel
theorem dX5_noCredits_18 : decode cX5_noCredits 18 = .ok (.iinc 1 1, 3) := by decide +kernel
theorem dX5_noCredits_21 : decode cX5_noCredits 21 = .ok (.goto (-19), 3) := by decide +kernel
theorem dX5_noCredits_24 : decode cX5_noCredits 24 = .ok (.return_, 1) := by decide +kernel
set_option maxRecDepth 20000 in
theorem ggX5_show_X5_isDigit : GoodIn wsX5_show wsX5_isDigit := goodIn_r _ [5, 6, 7, 4, 8] (by decide +kernel) (by decide +kernel)
set_option maxRecDepth 20000 in
theorem gX5_show_X5_isDigit : GoodIn wsX5_show (va_wsS RX5 87 yX5_isDigit wsX5_isDigit) := goodIn_app (goodIn_of _ (by decide +kernel)) ggX5_show_X5_isDigit
set_option maxRecDepth 20000 in
theorem ggX5_show_X5_fails : GoodIn wsX5_show wsX5_fails := goodIn_r _ [12, 1, 27, 28, 29, 30, 31, 32, 33, 34, 35, 36, 37, 38, 39, 40, 41, 42] (by decide +kernel) (by decide +kernel)
set_option maxRecDepth 20000 in
theorem gX5_show_X5_fails : GoodIn wsX5_show (wsV RX5 48 RX5 yX5_fails wsX5_fails) := goodIn_app (goodIn_of _ (by decide +kernel)) ggX5_show_X5_fails
set_option maxRecDepth 20000 in
theorem ggX5_show_X5_isSign : GoodIn wsX5_show wsX5_isSign := goodIn_r _ [15, 6, 7, 4, 8] (by decide +kernel) (by decide +kernel)
set_option maxRecDepth 20000 in
theorem gX5_show_X5_isSign : GoodIn wsX5_show (va_wsS RX5 91 yX5_isSign wsX5_isSign) := goodIn_app (goodIn_of _ (by decide +kernel)) ggX5_show_X5_isSign
set_option maxRecDepth 20000 in
theorem ggX5_show_X5_saves : GoodIn wsX5_show wsX5_saves := goodIn_r _ [19, 20, 21, 22, 27, 28, 29, 30, 31, 32, 33, 34, 35, 36, 37, 38, 39, 40, 41, 42] (by decide +kernel) (by decide +kernel)
set_option maxRecDepth 20000 in
theorem gX5_show_X5_saves : GoodIn wsX5_show (wsV RX5 94 RX5 yX5_saves wsX5_saves) := goodIn_app (goodIn_of _ (by decide +kernel)) ggX5_show_X5_saves
set_option maxRecDepth 20000 in
theorem ggX5_show_X5_changes : GoodIn wsX5_show wsX5_changes := goodIn_r _ [26, 22, 27, 28, 29, 30, 31, 32, 33, 34, 35, 36, 37, 38, 39, 40, 41, 42] (by decide +kernel) (by decide +kernel)
set_option maxRecDepth 20000 in
theorem gX5_show_X5_changes : GoodIn wsX5_show (wsV RX5 97 RX5 yX5_changes wsX5_changes) := goodIn_app (goodIn_of _ (by decide +kernel)) ggX5_show_X5_changes
theorem dX5_show_0 : decode cX5_show 0 = .ok (.aload_n 0, 1) := by decide +kernel
theorem dX5_show_1 : decode cX5_show 1 = .ok (.iconst 0, 1) := by decide +kernel
theorem dX5_show_2 : decode cX5_show 2 = .ok (.putfield 37, 3) := by decide +kernel
theorem dX5_show_5 : decode cX5_show 5 = .ok (.iload_n 1, 1) := by decide +kernel
theorem dX5_show_6 : decode cX5_show 6 = .ok (.invokestatic 87, 3) := by decide +kernel
theorem dX5_show_9 : decode cX5_show 9 = .ok (.ifCond .ne 9, 3) := by decide +kernel
theorem dX5_show_12 : decode cX5_show 12 = .ok (.aload_n 0, 1) := by decide +kernel
theorem dX5_show_13 : decode cX5_show 13 = .ok (.iconst 1, 1) := by decide +kernel
theorem dX5_show_14 : decode cX5_show 14 = .ok (.invokevirtual 48, 3) := by decide +kernel
theorem dX5_show_17 : decode cX5_show 17 = .ok (.ireturn, 1) := by decide +kernel
theorem dX5_show_18 : decode cX5_show 18 = .ok (.iload_n 2, 1) := by decide +kernel
theorem dX5_show_19 : decode cX5_show 19 = .ok (.invokestatic 91, 3) := by decide +kernel
theorem dX5_show_22 : decode cX5_show 22 = .ok (.ifCond .ne 9, 3) := by decide +kernel
theorem dX5_show_25 : decode cX5_show 25 = .ok (.aload_n 0, 1) := by decide +kernel
theorem dX5_show_26 : decode cX5_show 26 = .ok (.iconst 2, 1) := by decide +kernel
theorem dX5_show_27 : decode cX5_show 27 = .ok (.invokevirtual 48, 3) := by decide +kernel
theorem dX5_show_30 : decode cX5_show 30 = .ok (.ireturn, 1) := by decide +kernel
theorem dX5_show_31 : decode cX5_show 31 = .ok (.aload_n 0, 1) := by decide +kernel
theorem dX5_show_32 : decode cX5_show 32 = .ok (.invokevirtual 94, 3) := by decide +kernel
theorem dX5_show_35 : decode cX5_show 35 = .ok (.aload_n 0, 1) := by decide +kernel
theorem dX5_show_36 : decode cX5_show 36 = .ok (.bipush 8, 2) := by decide +kernel
theorem dX5_show_38 : decode cX5_show 38 = .ok (.iload_n 1, 1) := by decide +kernel
theorem dX5_show_39 : decode cX5_show 39 = .ok (.iadd, 1) := by decide +kernel
theorem dX5_show_40 : decode cX5_show 40 = .ok (.iload_n 2, 1) := by decide +kernel
theorem dX5_show_41 : decode cX5_show 41 = .ok (.invokevirtual 97, 3) := by decide +kernel
theorem dX5_show_44 : decode cX5_show 44 = .ok (.ireturn, 1) := by decide +kernel
set_option maxRecDepth 20000 in
theorem ggX5_level_X5_isDigit : GoodIn wsX5_level wsX5_isDigit := goodIn_r _ [5, 6, 7, 4, 8] (by decide +kernel) (by decide +kernel)
set_option maxRecDepth 20000 in
theorem gX5_level_X5_isDigit : GoodIn wsX5_level (va_wsS RX5 87 yX5_isDigit wsX5_isDigit) := goodIn_app (goodIn_of _ (by decide +kernel)) ggX5_level_X5_isDigit
set_option maxRecDepth 20000 in
theorem ggX5_level_X5_fails : GoodIn wsX5_level wsX5_fails := goodIn_r _ [12, 1, 31, 32, 33, 34, 35, 36, 37, 38, 39, 40, 41, 42, 43, 44, 45, 46] (by decide +kernel) (by decide +kernel)
set_option maxRecDepth 20000 in
theorem gX5_level_X5_fails : GoodIn wsX5_level (wsV RX5 48 RX5 yX5_fails wsX5_fails) := goodIn_app (goodIn_of _ (by decide +kernel)) ggX5_level_X5_fails
set_option maxRecDepth 20000 in
theorem ggX5_level_X5_isLevel : GoodIn wsX5_level wsX5_isLevel := goodIn_r _ [15, 6, 7, 4, 8] (by decide +kernel) (by decide +kernel)
set_option maxRecDepth 20000 in
theorem gX5_level_X5_isLevel : GoodIn wsX5_level (va_wsS RX5 100 yX5_isLevel wsX5_isLevel) := goodIn_app (goodIn_of _ (by decide +kernel)) ggX5_level_X5_isLevel
set_option maxRecDepth 20000 in
theorem ggX5_level_X5_saves : GoodIn wsX5_level wsX5_saves := goodIn_r _ [19, 20, 21, 22, 31, 32, 33, 34, 35, 36, 37, 38, 39, 40, 41, 42, 43, 44, 45, 46] (by decide +kernel) (by decide +kernel)
set_option maxRecDepth 20000 in
theorem gX5_level_X5_saves : GoodIn wsX5_level (wsV RX5 94 RX5 yX5_saves wsX5_saves) := goodIn_app (goodIn_of _ (by decide +kernel)) ggX5_level_X5_saves
set_option maxRecDepth 20000 in
theorem ggX5_level_X5_noCredits : GoodIn wsX5_level wsX5_noCredits := goodIn_r _ [26, 22, 31, 32, 33, 34, 35, 36, 37, 38, 39, 40, 41, 42, 43, 44, 45, 46] (by decide +kernel) (by decide +kernel)
set_option maxRecDepth 20000 in
theorem gX5_level_X5_noCredits : GoodIn wsX5_level (wsV RX5 103 RX5 yX5_noCredits wsX5_noCredits) := goodIn_app (goodIn_of _ (by decide +kernel)) ggX5_level_X5_noCredits
set_option maxRecDepth 20000 in
theorem ggX5_level_X5_changes : GoodIn wsX5_level wsX5_changes := goodIn_r _ [30, 22, 31, 32, 33, 34, 35, 36, 37, 38, 39, 40, 41, 42, 43, 44, 45, 46] (by decide +kernel) (by decide +kernel)
set_option maxRecDepth 20000 in
theorem gX5_level_X5_changes : GoodIn wsX5_level (wsV RX5 97 RX5 yX5_changes wsX5_changes) := goodIn_app (goodIn_of _ (by decide +kernel)) ggX5_level_X5_changes
theorem dX5_level_0 : decode cX5_level 0 = .ok (.aload_n 0, 1) := by decide +kernel
theorem dX5_level_1 : decode cX5_level 1 = .ok (.iconst 0, 1) := by decide +kernel
theorem dX5_level_2 : decode cX5_level 2 = .ok (.putfield 37, 3) := by decide +kernel
theorem dX5_level_5 : decode cX5_level 5 = .ok (.iload_n 1, 1) := by decide +kernel
theorem dX5_level_6 : decode cX5_level 6 = .ok (.invokestatic 87, 3) := by decide +kernel
theorem dX5_level_9 : decode cX5_level 9 = .ok (.ifCond .ne 9, 3) := by decide +kernel
theorem dX5_level_12 : decode cX5_level 12 = .ok (.aload_n 0, 1) := by decide +kernel
theorem dX5_level_13 : decode cX5_level 13 = .ok (.iconst 1, 1) := by decide +kernel
theorem dX5_level_14 : decode cX5_level 14 = .ok (.invokevirtual 48, 3) := by decide +kernel
theorem dX5_level_17 : decode cX5_level 17 = .ok (.ireturn, 1) := by decide +kernel
theorem dX5_level_18 : decode cX5_level 18 = .ok (.iload_n 2, 1) := by decide +kernel
theorem dX5_level_19 : decode cX5_level 19 = .ok (.invokestatic 100, 3) := by decide +kernel
theorem dX5_level_22 : decode cX5_level 22 = .ok (.ifCond .ne 9, 3) := by decide +kernel
theorem dX5_level_25 : decode cX5_level 25 = .ok (.aload_n 0, 1) := by decide +kernel
theorem dX5_level_26 : decode cX5_level 26 = .ok (.iconst 2, 1) := by decide +kernel
theorem dX5_level_27 : decode cX5_level 27 = .ok (.invokevirtual 48, 3) := by decide +kernel
theorem dX5_level_30 : decode cX5_level 30 = .ok (.ireturn, 1) := by decide +kernel
theorem dX5_level_31 : decode cX5_level 31 = .ok (.aload_n 0, 1) := by decide +kernel
theorem dX5_level_32 : decode cX5_level 32 = .ok (.invokevirtual 94, 3) := by decide +kernel
theorem dX5_level_35 : decode cX5_level 35 = .ok (.aload_n 0, 1) := by decide +kernel
theorem dX5_level_36 : decode cX5_level 36 = .ok (.invokevirtual 103, 3) := by decide +kernel
theorem dX5_level_39 : decode cX5_level 39 = .ok (.aload_n 0, 1) := by decide +kernel
theorem dX5_level_40 : decode cX5_level 40 = .ok (.bipush 14, 2) := by decide +kernel
theorem dX5_level_42 : decode cX5_level 42 = .ok (.iload_n 1, 1) := by decide +kernel
theorem dX5_level_43 : decode cX5_level 43 = .ok (.iadd, 1) := by decide +kernel
theorem dX5_level_44 : decode cX5_level 44 = .ok (.iload_n 2, 1) := by decide +kernel
theorem dX5_level_45 : decode cX5_level 45 = .ok (.invokevirtual 97, 3) := by decide +kernel
theorem dX5_level_48 : decode cX5_level 48 = .ok (.ireturn, 1) := by decide +kernel
set_option maxRecDepth 20000 in
theorem ggX5_burn_X5_isDigit : GoodIn wsX5_burn wsX5_isDigit := goodIn_r _ [6, 7, 8, 5, 9] (by decide +kernel) (by decide +kernel)
set_option maxRecDepth 20000 in
theorem gX5_burn_X5_isDigit : GoodIn wsX5_burn (va_wsS RX5 87 yX5_isDigit wsX5_isDigit) := goodIn_app (goodIn_of _ (by decide +kernel)) ggX5_burn_X5_isDigit
set_option maxRecDepth 20000 in
theorem ggX5_burn_X5_isSegment : GoodIn wsX5_burn wsX5_isSegment := goodIn_r _ [12, 7, 8, 5, 9] (by decide +kernel) (by decide +kernel)
set_option maxRecDepth 20000 in
theorem gX5_burn_X5_isSegment : GoodIn wsX5_burn (va_wsS RX5 106 yX5_isSegment wsX5_isSegment) := goodIn_app (goodIn_of _ (by decide +kernel)) ggX5_burn_X5_isSegment
set_option maxRecDepth 20000 in
theorem ggX5_burn_X5_fails : GoodIn wsX5_burn wsX5_fails := goodIn_r _ [16, 1, 23, 24, 25, 26, 27, 28, 29, 30, 31, 32, 33, 34, 35, 36, 37, 38] (by decide +kernel) (by decide +kernel)
set_option maxRecDepth 20000 in
theorem gX5_burn_X5_fails : GoodIn wsX5_burn (wsV RX5 48 RX5 yX5_fails wsX5_fails) := goodIn_app (goodIn_of _ (by decide +kernel)) ggX5_burn_X5_fails
set_option maxRecDepth 20000 in
theorem ggX5_burn_X5_saves : GoodIn wsX5_burn wsX5_saves := goodIn_r _ [20, 21, 22, 2, 23, 24, 25, 26, 27, 28, 29, 30, 31, 32, 33, 34, 35, 36, 37, 38] (by decide +kernel) (by decide +kernel)
set_option maxRecDepth 20000 in
theorem gX5_burn_X5_saves : GoodIn wsX5_burn (wsV RX5 94 RX5 yX5_saves wsX5_saves) := goodIn_app (goodIn_of _ (by decide +kernel)) ggX5_burn_X5_saves
theorem dX5_burn_0 : decode cX5_burn 0 = .ok (.aload_n 0, 1) := by decide +kernel
theorem dX5_burn_1 : decode cX5_burn 1 = .ok (.iconst 0, 1) := by decide +kernel
theorem dX5_burn_2 : decode cX5_burn 2 = .ok (.putfield 37, 3) := by decide +kernel
theorem dX5_burn_5 : decode cX5_burn 5 = .ok (.iload_n 1, 1) := by decide +kernel
theorem dX5_burn_6 : decode cX5_burn 6 = .ok (.invokestatic 87, 3) := by decide +kernel
theorem dX5_burn_9 : decode cX5_burn 9 = .ok (.ifCond .eq 10, 3) := by decide +kernel
theorem dX5_burn_12 : decode cX5_burn 12 = .ok (.iload_n 2, 1) := by decide +kernel
theorem dX5_burn_13 : decode cX5_burn 13 = .ok (.invokestatic 106, 3) := by decide +kernel
theorem dX5_burn_16 : decode cX5_burn 16 = .ok (.ifCond .ne 9, 3) := by decide +kernel
theorem dX5_burn_19 : decode cX5_burn 19 = .ok (.aload_n 0, 1) := by decide +kernel
theorem dX5_burn_20 : decode cX5_burn 20 = .ok (.iconst 1, 1) := by decide +kernel
theorem dX5_burn_21 : decode cX5_burn 21 = .ok (.invokevirtual 48, 3) := by decide +kernel
theorem dX5_burn_24 : decode cX5_burn 24 = .ok (.ireturn, 1) := by decide +kernel
theorem dX5_burn_25 : decode cX5_burn 25 = .ok (.aload_n 0, 1) := by decide +kernel
theorem dX5_burn_26 : decode cX5_burn 26 = .ok (.invokevirtual 94, 3) := by decide +kernel
theorem dX5_burn_29 : decode cX5_burn 29 = .ok (.iconst 1, 1) := by decide +kernel
theorem dX5_burn_30 : decode cX5_burn 30 = .ok (.iload_n 2, 1) := by decide +kernel
theorem dX5_burn_31 : decode cX5_burn 31 = .ok (.ishl, 1) := by decide +kernel
theorem dX5_burn_32 : decode cX5_burn 32 = .ok (.istore 4, 2) := by decide +kernel
theorem dX5_burn_34 : decode cX5_burn 34 = .ok (.aload_n 0, 1) := by decide +kernel
theorem dX5_burn_35 : decode cX5_burn 35 = .ok (.getfield 13, 3) := by decide +kernel
theorem dX5_burn_38 : decode cX5_burn 38 = .ok (.bipush 20, 2) := by decide +kernel
theorem dX5_burn_40 : decode cX5_burn 40 = .ok (.iload_n 1, 1) := by decide +kernel
theorem dX5_burn_41 : decode cX5_burn 41 = .ok (.iadd, 1) := by decide +kernel
theorem dX5_burn_42 : decode cX5_burn 42 = .ok (.iaload, 1) := by decide +kernel
theorem dX5_burn_43 : decode cX5_burn 43 = .ok (.iload_n 2, 1) := by decide +kernel
theorem dX5_burn_44 : decode cX5_burn 44 = .ok (.ishr, 1) := by decide +kernel
theorem dX5_burn_45 : decode cX5_burn 45 = .ok (.iconst 1, 1) := by decide +kernel
theorem dX5_burn_46 : decode cX5_burn 46 = .ok (.iand, 1) := by decide +kernel
theorem dX5_burn_47 : decode cX5_burn 47 = .ok (.istore 5, 2) := by decide +kernel
theorem dX5_burn_49 : decode cX5_burn 49 = .ok (.aload_n 0, 1) := by decide +kernel
theorem dX5_burn_50 : decode cX5_burn 50 = .ok (.getfield 13, 3) := by decide +kernel
theorem dX5_burn_53 : decode cX5_burn 53 = .ok (.bipush 20, 2) := by decide +kernel
theorem dX5_burn_55 : decode cX5_burn 55 = .ok (.iload_n 1, 1) := by decide +kernel
theorem dX5_burn_56 : decode cX5_burn 56 = .ok (.iadd, 1) := by decide +kernel
theorem dX5_burn_57 : decode cX5_burn 57 = .ok (.iload_n 3, 1) := by decide +kernel
theorem dX5_burn_58 : decode cX5_burn 58 = .ok (.ifCond .eq 18, 3) := by decide +kernel
theorem dX5_burn_61 : decode cX5_burn 61 = .ok (.aload_n 0, 1) := by decide +kernel
theorem dX5_burn_62 : decode cX5_burn 62 = .ok (.getfield 13, 3) := by decide +kernel
theorem dX5_burn_65 : decode cX5_burn 65 = .ok (.bipush 20, 2) := by decide +kernel
theorem dX5_burn_67 : decode cX5_burn 67 = .ok (.iload_n 1, 1) := by decide +kernel
theorem dX5_burn_68 : decode cX5_burn 68 = .ok (.iadd, 1) := by decide +kernel
theorem dX5_burn_69 : decode cX5_burn 69 = .ok (.iaload, 1) := by decide +kernel
theorem dX5_burn_70 : decode cX5_burn 70 = .ok (.iload 4, 2) := by decide +kernel
theorem dX5_burn_72 : decode cX5_burn 72 = .ok (.ior, 1) := by decide +kernel
theorem dX5_burn_73 : decode cX5_burn 73 = .ok (.goto 17, 3) := by decide +kernel
theorem dX5_burn_76 : decode cX5_burn 76 = .ok (.aload_n 0, 1) := by decide +kernel
theorem dX5_burn_77 : decode cX5_burn 77 = .ok (.getfield 13, 3) := by decide +kernel
theorem dX5_burn_80 : decode cX5_burn 80 = .ok (.bipush 20, 2) := by decide +kernel
theorem dX5_burn_82 : decode cX5_burn 82 = .ok (.iload_n 1, 1) := by decide +kernel
theorem dX5_burn_83 : decode cX5_burn 83 = .ok (.iadd, 1) := by decide +kernel
theorem dX5_burn_84 : decode cX5_burn 84 = .ok (.iaload, 1) := by decide +kernel
theorem dX5_burn_85 : decode cX5_burn 85 = .ok (.iload 4, 2) := by decide +kernel
theorem dX5_burn_87 : decode cX5_burn 87 = .ok (.iconst (-1), 1) := by decide +kernel
theorem dX5_burn_88 : decode cX5_burn 88 = .ok (.ixor, 1) := by decide +kernel
theorem dX5_burn_89 : decode cX5_burn 89 = .ok (.iand, 1) := by decide +kernel
theorem dX5_burn_90 : decode cX5_burn 90 = .ok (.iastore, 1) := by decide +kernel
theorem dX5_burn_91 : decode cX5_burn 91 = .ok (.iload_n 3, 1) := by decide +kernel
theorem dX5_burn_92 : decode cX5_burn 92 = .ok (.ifCond .ne 18, 3) := by decide +kernel
theorem dX5_burn_95 : decode cX5_burn 95 = .ok (.aload_n 0, 1) := by decide +kernel
theorem dX5_burn_96 : decode cX5_burn 96 = .ok (.getfield 13, 3) := by decide +kernel
theorem dX5_burn_99 : decode cX5_burn 99 = .ok (.bipush 38, 2) := by decide +kernel
theorem dX5_burn_101 : decode cX5_burn 101 = .ok (.bipush 7, 2) := by decide +kernel
theorem dX5_burn_103 : decode cX5_burn 103 = .ok (.iload_n 1, 1) := by decide +kernel
theorem dX5_burn_104 : decode cX5_burn 104 = .ok (.imul, 1) := by decide +kernel
theorem dX5_burn_105 : decode cX5_burn 105 = .ok (.iadd, 1) := by decide +kernel
theorem dX5_burn_106 : decode cX5_burn 106 = .ok (.iload_n 2, 1) := by decide +kernel
theorem dX5_burn_107 : decode cX5_burn 107 = .ok (.iadd, 1) := by decide +kernel
theorem dX5_burn_108 : decode cX5_burn 108 = .ok (.iconst 0, 1) := by decide +kernel
theorem dX5_burn_109 : decode cX5_burn 109 = .ok (.iastore, 1) := by decide +kernel
theorem dX5_burn_110 : decode cX5_burn 110 = .ok (.iload 5, 2) := by decide +kernel
theorem dX5_burn_112 : decode cX5_burn 112 = .ok (.ireturn, 1) := by decide +kernel
set_option maxRecDepth 20000 in
theorem ggX5_ambient_X5_in : GoodIn wsX5_ambient wsX5_in := goodIn_r _ [5] (by decide +kernel) (by decide +kernel)
set_option maxRecDepth 20000 in
theorem gX5_ambient_X5_in : GoodIn wsX5_ambient (va_wsS RX5 41 yX5_in wsX5_in) := goodIn_app (goodIn_of _ (by decide +kernel)) ggX5_ambient_X5_in
set_option maxRecDepth 20000 in
theorem ggX5_ambient_X5_fails : GoodIn wsX5_ambient wsX5_fails := goodIn_r _ [9, 1, 21, 22, 23, 24, 25, 26, 27, 28, 29, 30, 31, 32, 33, 34, 35, 36] (by decide +kernel) (by decide +kernel)
set_option maxRecDepth 20000 in
theorem gX5_ambient_X5_fails : GoodIn wsX5_ambient (wsV RX5 48 RX5 yX5_fails wsX5_fails) := goodIn_app (goodIn_of _ (by decide +kernel)) ggX5_ambient_X5_fails
set_option maxRecDepth 20000 in
theorem ggX5_ambient_X5_saves : GoodIn wsX5_ambient wsX5_saves := goodIn_r _ [13, 14, 15, 16, 21, 22, 23, 24, 25, 26, 27, 28, 29, 30, 31, 32, 33, 34, 35, 36] (by decide +kernel) (by decide +kernel)
set_option maxRecDepth 20000 in
theorem gX5_ambient_X5_saves : GoodIn wsX5_ambient (wsV RX5 94 RX5 yX5_saves wsX5_saves) := goodIn_app (goodIn_of _ (by decide +kernel)) ggX5_ambient_X5_saves
set_option maxRecDepth 20000 in
theorem ggX5_ambient_X5_changes : GoodIn wsX5_ambient wsX5_changes := goodIn_r _ [20, 16, 21, 22, 23, 24, 25, 26, 27, 28, 29, 30, 31, 32, 33, 34, 35, 36] (by decide +kernel) (by decide +kernel)
set_option maxRecDepth 20000 in
theorem gX5_ambient_X5_changes : GoodIn wsX5_ambient (wsV RX5 97 RX5 yX5_changes wsX5_changes) := goodIn_app (goodIn_of _ (by decide +kernel)) ggX5_ambient_X5_changes
theorem dX5_ambient_0 : decode cX5_ambient 0 = .ok (.aload_n 0, 1) := by decide +kernel
theorem dX5_ambient_1 : decode cX5_ambient 1 = .ok (.iconst 0, 1) := by decide +kernel
theorem dX5_ambient_2 : decode cX5_ambient 2 = .ok (.putfield 37, 3) := by decide +kernel
theorem dX5_ambient_5 : decode cX5_ambient 5 = .ok (.iload_n 1, 1) := by decide +kernel
theorem dX5_ambient_6 : decode cX5_ambient 6 = .ok (.iconst 0, 1) := by decide +kernel
theorem dX5_ambient_7 : decode cX5_ambient 7 = .ok (.bipush 20, 2) := by decide +kernel
theorem dX5_ambient_9 : decode cX5_ambient 9 = .ok (.invokestatic 41, 3) := by decide +kernel
theorem dX5_ambient_12 : decode cX5_ambient 12 = .ok (.ifCond .ne 9, 3) := by decide +kernel
theorem dX5_ambient_15 : decode cX5_ambient 15 = .ok (.aload_n 0, 1) := by decide +kernel
theorem dX5_ambient_16 : decode cX5_ambient 16 = .ok (.iconst 1, 1) := by decide +kernel
theorem dX5_ambient_17 : decode cX5_ambient 17 = .ok (.invokevirtual 48, 3) := by decide +kernel
theorem dX5_ambient_20 : decode cX5_ambient 20 = .ok (.ireturn, 1) := by decide +kernel
theorem dX5_ambient_21 : decode cX5_ambient 21 = .ok (.aload_n 0, 1) := by decide +kernel
theorem dX5_ambient_22 : decode cX5_ambient 22 = .ok (.invokevirtual 94, 3) := by decide +kernel
theorem dX5_ambient_25 : decode cX5_ambient 25 = .ok (.aload_n 0, 1) := by decide +kernel
theorem dX5_ambient_26 : decode cX5_ambient 26 = .ok (.iconst 1, 1) := by decide +kernel
theorem dX5_ambient_27 : decode cX5_ambient 27 = .ok (.iload_n 1, 1) := by decide +kernel
theorem dX5_ambient_28 : decode cX5_ambient 28 = .ok (.invokevirtual 97, 3) := by decide +kernel
theorem dX5_ambient_31 : decode cX5_ambient 31 = .ok (.ireturn, 1) := by decide +kernel
set_option maxRecDepth 20000 in
theorem ggX5_isFor_X5_in : GoodIn wsX5_isFor wsX5_in := goodIn_r _ [4] (by decide +kernel) (by decide +kernel)
set_option maxRecDepth 20000 in
theorem gX5_isFor_X5_in : GoodIn wsX5_isFor (va_wsS RX5 41 yX5_in wsX5_in) := goodIn_app (goodIn_of _ (by decide +kernel)) ggX5_isFor_X5_in
theorem dX5_isFor_0 : decode cX5_isFor 0 = .ok (.iload_n 0, 1) := by decide +kernel
theorem dX5_isFor_1 : decode cX5_isFor 1 = .ok (.tableswitch 63 0 3 #[31, 40, 47, 55], 31) := by decide +kernel
theorem dX5_isFor_32 : decode cX5_isFor 32 = .ok (.iload_n 1, 1) := by decide +kernel
theorem dX5_isFor_33 : decode cX5_isFor 33 = .ok (.bipush 6, 2) := by decide +kernel
theorem dX5_isFor_35 : decode cX5_isFor 35 = .ok (.bipush 96, 2) := by decide +kernel
theorem dX5_isFor_37 : decode cX5_isFor 37 = .ok (.invokestatic 41, 3) := by decide +kernel
theorem dX5_isFor_40 : decode cX5_isFor 40 = .ok (.ireturn, 1) := by decide +kernel
theorem dX5_isFor_41 : decode cX5_isFor 41 = .ok (.iload_n 1, 1) := by decide +kernel
theorem dX5_isFor_42 : decode cX5_isFor 42 = .ok (.iconst 0, 1) := by decide +kernel
theorem dX5_isFor_43 : decode cX5_isFor 43 = .ok (.iconst 1, 1) := by decide +kernel
theorem dX5_isFor_44 : decode cX5_isFor 44 = .ok (.invokestatic 41, 3) := by decide +kernel
theorem dX5_isFor_47 : decode cX5_isFor 47 = .ok (.ireturn, 1) := by decide +kernel
theorem dX5_isFor_48 : decode cX5_isFor 48 = .ok (.iload_n 1, 1) := by decide +kernel
theorem dX5_isFor_49 : decode cX5_isFor 49 = .ok (.iconst 1, 1) := by decide +kernel
theorem dX5_isFor_50 : decode cX5_isFor 50 = .ok (.bipush 96, 2) := by decide +kernel
theorem dX5_isFor_52 : decode cX5_isFor 52 = .ok (.invokestatic 41, 3) := by decide +kernel
theorem dX5_isFor_55 : decode cX5_isFor 55 = .ok (.ireturn, 1) := by decide +kernel
theorem dX5_isFor_56 : decode cX5_isFor 56 = .ok (.iload_n 1, 1) := by decide +kernel
theorem dX5_isFor_57 : decode cX5_isFor 57 = .ok (.iconst 1, 1) := by decide +kernel
theorem dX5_isFor_58 : decode cX5_isFor 58 = .ok (.bipush 20, 2) := by decide +kernel
theorem dX5_isFor_60 : decode cX5_isFor 60 = .ok (.invokestatic 41, 3) := by decide +kernel
theorem dX5_isFor_63 : decode cX5_isFor 63 = .ok (.ireturn, 1) := by decide +kernel
theorem dX5_isFor_64 : decode cX5_isFor 64 = .ok (.iload_n 1, 1) := by decide +kernel
theorem dX5_isFor_65 : decode cX5_isFor 65 = .ok (.iconst 0, 1) := by decide +kernel
theorem dX5_isFor_66 : decode cX5_isFor 66 = .ok (.bipush 99, 2) := by decide +kernel
theorem dX5_isFor_68 : decode cX5_isFor 68 = .ok (.invokestatic 41, 3) := by decide +kernel
theorem dX5_isFor_71 : decode cX5_isFor 71 = .ok (.ireturn, 1) := by decide +kernel
set_option maxRecDepth 20000 in
theorem ggX5_set_X5_in : GoodIn wsX5_set wsX5_in := goodIn_r _ [5] (by decide +kernel) (by decide +kernel)
set_option maxRecDepth 20000 in
theorem gX5_set_X5_in : GoodIn wsX5_set (va_wsS RX5 41 yX5_in wsX5_in) := goodIn_app (goodIn_of _ (by decide +kernel)) ggX5_set_X5_in
set_option maxRecDepth 20000 in
theorem ggX5_set_X5_fails : GoodIn wsX5_set wsX5_fails := goodIn_r _ [9, 1, 24, 25, 26, 27, 28, 29, 30, 31, 32, 33, 34, 35, 36, 37, 38, 39] (by decide +kernel) (by decide +kernel)
set_option maxRecDepth 20000 in
theorem gX5_set_X5_fails : GoodIn wsX5_set (wsV RX5 48 RX5 yX5_fails wsX5_fails) := goodIn_app (goodIn_of _ (by decide +kernel)) ggX5_set_X5_fails
set_option maxRecDepth 20000 in
theorem ggX5_set_X5_isFor : GoodIn wsX5_set wsX5_isFor := goodIn_r _ [12, 2, 3, 4, 5] (by decide +kernel) (by decide +kernel)
set_option maxRecDepth 20000 in
theorem gX5_set_X5_isFor : GoodIn wsX5_set (va_wsS RX5 109 yX5_isFor wsX5_isFor) := goodIn_app (goodIn_of _ (by decide +kernel)) ggX5_set_X5_isFor
set_option maxRecDepth 20000 in
theorem ggX5_set_X5_saves : GoodIn wsX5_set wsX5_saves := goodIn_r _ [16, 17, 18, 19, 24, 25, 26, 27, 28, 29, 30, 31, 32, 33, 34, 35, 36, 37, 38, 39] (by decide +kernel) (by decide +kernel)
set_option maxRecDepth 20000 in
theorem gX5_set_X5_saves : GoodIn wsX5_set (wsV RX5 94 RX5 yX5_saves wsX5_saves) := goodIn_app (goodIn_of _ (by decide +kernel)) ggX5_set_X5_saves
set_option maxRecDepth 20000 in
theorem ggX5_set_X5_changes : GoodIn wsX5_set wsX5_changes := goodIn_r _ [23, 19, 24, 25, 26, 27, 28, 29, 30, 31, 32, 33, 34, 35, 36, 37, 38, 39] (by decide +kernel) (by decide +kernel)
set_option maxRecDepth 20000 in
theorem gX5_set_X5_changes : GoodIn wsX5_set (wsV RX5 97 RX5 yX5_changes wsX5_changes) := goodIn_app (goodIn_of _ (by decide +kernel)) ggX5_set_X5_changes
theorem dX5_set_0 : decode cX5_set 0 = .ok (.aload_n 0, 1) := by decide +kernel
theorem dX5_set_1 : decode cX5_set 1 = .ok (.iconst 0, 1) := by decide +kernel
theorem dX5_set_2 : decode cX5_set 2 = .ok (.putfield 37, 3) := by decide +kernel
theorem dX5_set_5 : decode cX5_set 5 = .ok (.iload_n 1, 1) := by decide +kernel
theorem dX5_set_6 : decode cX5_set 6 = .ok (.iconst 0, 1) := by decide +kernel
theorem dX5_set_7 : decode cX5_set 7 = .ok (.iconst 4, 1) := by decide +kernel
theorem dX5_set_8 : decode cX5_set 8 = .ok (.invokestatic 41, 3) := by decide +kernel
theorem dX5_set_11 : decode cX5_set 11 = .ok (.ifCond .ne 9, 3) := by decide +kernel
theorem dX5_set_14 : decode cX5_set 14 = .ok (.aload_n 0, 1) := by decide +kernel
theorem dX5_set_15 : decode cX5_set 15 = .ok (.iconst 1, 1) := by decide +kernel
theorem dX5_set_16 : decode cX5_set 16 = .ok (.invokevirtual 48, 3) := by decide +kernel
theorem dX5_set_19 : decode cX5_set 19 = .ok (.ireturn, 1) := by decide +kernel
theorem dX5_set_20 : decode cX5_set 20 = .ok (.iload_n 1, 1) := by decide +kernel
theorem dX5_set_21 : decode cX5_set 21 = .ok (.iload_n 2, 1) := by decide +kernel
theorem dX5_set_22 : decode cX5_set 22 = .ok (.invokestatic 109, 3) := by decide +kernel
theorem dX5_set_25 : decode cX5_set 25 = .ok (.ifCond .ne 9, 3) := by decide +kernel
theorem dX5_set_28 : decode cX5_set 28 = .ok (.aload_n 0, 1) := by decide +kernel
theorem dX5_set_29 : decode cX5_set 29 = .ok (.iconst 2, 1) := by decide +kernel
theorem dX5_set_30 : decode cX5_set 30 = .ok (.invokevirtual 48, 3) := by decide +kernel
theorem dX5_set_33 : decode cX5_set 33 = .ok (.ireturn, 1) := by decide +kernel
theorem dX5_set_34 : decode cX5_set 34 = .ok (.aload_n 0, 1) := by decide +kernel
theorem dX5_set_35 : decode cX5_set 35 = .ok (.invokevirtual 94, 3) := by decide +kernel
theorem dX5_set_38 : decode cX5_set 38 = .ok (.aload_n 0, 1) := by decide +kernel
theorem dX5_set_39 : decode cX5_set 39 = .ok (.iconst 2, 1) := by decide +kernel
theorem dX5_set_40 : decode cX5_set 40 = .ok (.iload_n 1, 1) := by decide +kernel
theorem dX5_set_41 : decode cX5_set 41 = .ok (.iadd, 1) := by decide +kernel
theorem dX5_set_42 : decode cX5_set 42 = .ok (.iload_n 2, 1) := by decide +kernel
theorem dX5_set_43 : decode cX5_set 43 = .ok (.invokevirtual 97, 3) := by decide +kernel
theorem dX5_set_46 : decode cX5_set 46 = .ok (.ireturn, 1) := by decide +kernel
theorem dX5_sizeOf_0 : decode cX5_sizeOf 0 = .ok (.iload_n 0, 1) := by decide +kernel
theorem dX5_sizeOf_1 : decode cX5_sizeOf 1 = .ok (.ifCond .ge 7, 3) := by decide +kernel
theorem dX5_sizeOf_4 : decode cX5_sizeOf 4 = .ok (.iconst 2, 1) := by decide +kernel
theorem dX5_sizeOf_5 : decode cX5_sizeOf 5 = .ok (.goto 4, 3) := by decide +kernel
theorem dX5_sizeOf_8 : decode cX5_sizeOf 8 = .ok (.iconst 1, 1) := by decide +kernel
theorem dX5_sizeOf_9 : decode cX5_sizeOf 9 = .ok (.istore_n 1, 1) := by decide +kernel
theorem dX5_sizeOf_10 : decode cX5_sizeOf 10 = .ok (.iload_n 0, 1) := by decide +kernel
theorem dX5_sizeOf_11 : decode cX5_sizeOf 11 = .ok (.bipush 10, 2) := by decide +kernel
theorem dX5_sizeOf_13 : decode cX5_sizeOf 13 = .ok (.idiv, 1) := by decide +kernel
theorem dX5_sizeOf_14 : decode cX5_sizeOf 14 = .ok (.istore_n 2, 1) := by decide +kernel
theorem dX5_sizeOf_15 : decode cX5_sizeOf 15 = .ok (.iload_n 2, 1) := by decide +kernel
theorem dX5_sizeOf_16 : decode cX5_sizeOf 16 = .ok (.ifCond .eq 14, 3) := by decide +kernel
theorem dX5_sizeOf_19 : decode cX5_sizeOf 19 = .ok (.iinc 1 1, 3) := by decide +kernel
theorem dX5_sizeOf_22 : decode cX5_sizeOf 22 = .ok (.iload_n 2, 1) := by decide +kernel
theorem dX5_sizeOf_23 : decode cX5_sizeOf 23 = .ok (.bipush 10, 2) := by decide +kernel
theorem dX5_sizeOf_25 : decode cX5_sizeOf 25 = .ok (.idiv, 1) := by decide +kernel
theorem dX5_sizeOf_26 : decode cX5_sizeOf 26 = .ok (.istore_n 2, 1) := by decide +kernel
theorem dX5_sizeOf_27 : decode cX5_sizeOf 27 = .ok (.goto (-12), 3) := by decide +kernel
theorem dX5_sizeOf_30 : decode cX5_sizeOf 30 = .ok (.iload_n 1, 1) := by decide +kernel
theorem dX5_sizeOf_31 : decode cX5_sizeOf 31 = .ok (.ireturn, 1) := by decide +kernel
set_option maxRecDepth 20000 in
theorem ggX5_number_X5_isDigit : GoodIn wsX5_number wsX5_isDigit := goodIn_r _ [6, 7, 8, 5, 9] (by decide +kernel) (by decide +kernel)
set_option maxRecDepth 20000 in
theorem gX5_number_X5_isDigit : GoodIn wsX5_number (va_wsS RX5 87 yX5_isDigit wsX5_isDigit) := goodIn_app (goodIn_of _ (by decide +kernel)) ggX5_number_X5_isDigit
set_option maxRecDepth 20000 in
theorem ggX5_number_X5_fails : GoodIn wsX5_number wsX5_fails := goodIn_r _ [13, 1, 23, 24, 25, 26, 27, 28, 29, 30, 31, 32, 33, 34, 35, 36, 37, 38] (by decide +kernel) (by decide +kernel)
set_option maxRecDepth 20000 in
theorem gX5_number_X5_fails : GoodIn wsX5_number (wsV RX5 48 RX5 yX5_fails wsX5_fails) := goodIn_app (goodIn_of _ (by decide +kernel)) ggX5_number_X5_fails
set_option maxRecDepth 20000 in
theorem ggX5_number_X5_sizeOf : GoodIn wsX5_number wsX5_sizeOf := goodIn_r _ [16] (by decide +kernel) (by decide +kernel)
set_option maxRecDepth 20000 in
theorem gX5_number_X5_sizeOf : GoodIn wsX5_number (va_wsS RX5 113 yX5_sizeOf wsX5_sizeOf) := goodIn_app (goodIn_of _ (by decide +kernel)) ggX5_number_X5_sizeOf
set_option maxRecDepth 20000 in
theorem ggX5_number_X5_saves : GoodIn wsX5_number wsX5_saves := goodIn_r _ [20, 21, 22, 2, 23, 24, 25, 26, 27, 28, 29, 30, 31, 32, 33, 34, 35, 36, 37, 38] (by decide +kernel) (by decide +kernel)
set_option maxRecDepth 20000 in
theorem gX5_number_X5_saves : GoodIn wsX5_number (wsV RX5 94 RX5 yX5_saves wsX5_saves) := goodIn_app (goodIn_of _ (by decide +kernel)) ggX5_number_X5_saves
theorem dX5_number_0 : decode cX5_number 0 = .ok (.aload_n 0, 1) := by decide +kernel
theorem dX5_number_1 : decode cX5_number 1 = .ok (.iconst 0, 1) := by decide +kernel
theorem dX5_number_2 : decode cX5_number 2 = .ok (.putfield 37, 3) := by decide +kernel
theorem dX5_number_5 : decode cX5_number 5 = .ok (.iload_n 1, 1) := by decide +kernel
theorem dX5_number_6 : decode cX5_number 6 = .ok (.invokestatic 87, 3) := by decide +kernel
theorem dX5_number_9 : decode cX5_number 9 = .ok (.ifCond .eq 10, 3) := by decide +kernel
theorem dX5_number_12 : decode cX5_number 12 = .ok (.iload_n 2, 1) := by decide +kernel
theorem dX5_number_13 : decode cX5_number 13 = .ok (.invokestatic 87, 3) := by decide +kernel
theorem dX5_number_16 : decode cX5_number 16 = .ok (.ifCond .ne 9, 3) := by decide +kernel
theorem dX5_number_19 : decode cX5_number 19 = .ok (.aload_n 0, 1) := by decide +kernel
theorem dX5_number_20 : decode cX5_number 20 = .ok (.iconst 1, 1) := by decide +kernel
theorem dX5_number_21 : decode cX5_number 21 = .ok (.invokevirtual 48, 3) := by decide +kernel
theorem dX5_number_24 : decode cX5_number 24 = .ok (.ireturn, 1) := by decide +kernel
theorem dX5_number_25 : decode cX5_number 25 = .ok (.iload_n 3, 1) := by decide +kernel
theorem dX5_number_26 : decode cX5_number 26 = .ok (.invokestatic 113, 3) := by decide +kernel
theorem dX5_number_29 : decode cX5_number 29 = .ok (.istore 4, 2) := by decide +kernel
theorem dX5_number_31 : decode cX5_number 31 = .ok (.iload_n 2, 1) := by decide +kernel
theorem dX5_number_32 : decode cX5_number 32 = .ok (.iload_n 1, 1) := by decide +kernel
theorem dX5_number_33 : decode cX5_number 33 = .ok (.if_icmp .lt 13, 3) := by decide +kernel
theorem dX5_number_36 : decode cX5_number 36 = .ok (.iload 4, 2) := by decide +kernel
theorem dX5_number_38 : decode cX5_number 38 = .ok (.iload_n 2, 1) := by decide +kernel
theorem dX5_number_39 : decode cX5_number 39 = .ok (.iload_n 1, 1) := by decide +kernel
theorem dX5_number_40 : decode cX5_number 40 = .ok (.isub, 1) := by decide +kernel
theorem dX5_number_41 : decode cX5_number 41 = .ok (.iconst 1, 1) := by decide +kernel
theorem dX5_number_42 : decode cX5_number 42 = .ok (.iadd, 1) := by decide +kernel
theorem dX5_number_43 : decode cX5_number 43 = .ok (.if_icmp .le 9, 3) := by decide +kernel
theorem dX5_number_46 : decode cX5_number 46 = .ok (.aload_n 0, 1) := by decide +kernel
theorem dX5_number_47 : decode cX5_number 47 = .ok (.iconst 2, 1) := by decide +kernel
theorem dX5_number_48 : decode cX5_number 48 = .ok (.invokevirtual 48, 3) := by decide +kernel
theorem dX5_number_51 : decode cX5_number 51 = .ok (.ireturn, 1) := by decide +kernel
theorem dX5_number_52 : decode cX5_number 52 = .ok (.aload_n 0, 1) := by decide +kernel
theorem dX5_number_53 : decode cX5_number 53 = .ok (.invokevirtual 94, 3) := by decide +kernel
theorem dX5_number_56 : decode cX5_number 56 = .ok (.iload_n 3, 1) := by decide +kernel
theorem dX5_number_57 : decode cX5_number 57 = .ok (.istore 5, 2) := by decide +kernel
theorem dX5_number_59 : decode cX5_number 59 = .ok (.iload_n 2, 1) := by decide +kernel
theorem dX5_number_60 : decode cX5_number 60 = .ok (.istore 6, 2) := by decide +kernel
theorem dX5_number_62 : decode cX5_number 62 = .ok (.iload 6, 2) := by decide +kernel
theorem dX5_number_64 : decode cX5_number 64 = .ok (.iload_n 1, 1) := by decide +kernel
theorem dX5_number_65 : decode cX5_number 65 = .ok (.if_icmp .lt 94, 3) := by decide +kernel
theorem dX5_number_68 : decode cX5_number 68 = .ok (.iload_n 2, 1) := by decide +kernel
theorem dX5_number_69 : decode cX5_number 69 = .ok (.iload 6, 2) := by decide +kernel
theorem dX5_number_71 : decode cX5_number 71 = .ok (.isub, 1) := by decide +kernel
theorem dX5_number_72 : decode cX5_number 72 = .ok (.istore 7, 2) := by decide +kernel
theorem dX5_number_74 : decode cX5_number 74 = .ok (.iload_n 3, 1) := by decide +kernel
theorem dX5_number_75 : decode cX5_number 75 = .ok (.ifCond .ge 16, 3) := by decide +kernel
theorem dX5_number_78 : decode cX5_number 78 = .ok (.iload 7, 2) := by decide +kernel
theorem dX5_number_80 : decode cX5_number 80 = .ok (.iload 4, 2) := by decide +kernel
theorem dX5_number_82 : decode cX5_number 82 = .ok (.iconst 1, 1) := by decide +kernel
theorem dX5_number_83 : decode cX5_number 83 = .ok (.isub, 1) := by decide +kernel
theorem dX5_number_84 : decode cX5_number 84 = .ok (.if_icmp .ne 7, 3) := by decide +kernel
theorem dX5_number_87 : decode cX5_number 87 = .ok (.iconst 1, 1) := by decide +kernel
theorem dX5_number_88 : decode cX5_number 88 = .ok (.goto 4, 3) := by decide +kernel
theorem dX5_number_91 : decode cX5_number 91 = .ok (.iconst 0, 1) := by decide +kernel
theorem dX5_number_92 : decode cX5_number 92 = .ok (.istore 8, 2) := by decide +kernel
theorem dX5_number_94 : decode cX5_number 94 = .ok (.iload 5, 2) := by decide +kernel
theorem dX5_number_96 : decode cX5_number 96 = .ok (.bipush 10, 2) := by decide +kernel
theorem dX5_number_98 : decode cX5_number 98 = .ok (.irem, 1) := by decide +kernel
theorem dX5_number_99 : decode cX5_number 99 = .ok (.istore 9, 2) := by decide +kernel
theorem dX5_number_101 : decode cX5_number 101 = .ok (.aload_n 0, 1) := by decide +kernel
theorem dX5_number_102 : decode cX5_number 102 = .ok (.getfield 13, 3) := by decide +kernel
theorem dX5_number_105 : decode cX5_number 105 = .ok (.bipush 8, 2) := by decide +kernel
theorem dX5_number_107 : decode cX5_number 107 = .ok (.iload 6, 2) := by decide +kernel
theorem dX5_number_109 : decode cX5_number 109 = .ok (.iadd, 1) := by decide +kernel
theorem dX5_number_110 : decode cX5_number 110 = .ok (.iload 7, 2) := by decide +kernel
theorem dX5_number_112 : decode cX5_number 112 = .ok (.iload 4, 2) := by decide +kernel
theorem dX5_number_114 : decode cX5_number 114 = .ok (.if_icmp .lt 8, 3) := by decide +kernel
theorem dX5_number_117 : decode cX5_number 117 = .ok (.bipush 11, 2) := by decide +kernel
theorem dX5_number_119 : decode cX5_number 119 = .ok (.goto 26, 3) := by decide +kernel
theorem dX5_number_122 : decode cX5_number 122 = .ok (.iload 8, 2) := by decide +kernel
theorem dX5_number_124 : decode cX5_number 124 = .ok (.ifCond .eq 8, 3) := by decide +kernel
theorem dX5_number_127 : decode cX5_number 127 = .ok (.bipush 10, 2) := by decide +kernel
theorem dX5_number_129 : decode cX5_number 129 = .ok (.goto 16, 3) := by decide +kernel
theorem dX5_number_132 : decode cX5_number 132 = .ok (.iload 9, 2) := by decide +kernel
theorem dX5_number_134 : decode cX5_number 134 = .ok (.ifCond .ge 9, 3) := by decide +kernel
theorem dX5_number_137 : decode cX5_number 137 = .ok (.iload 9, 2) := by decide +kernel
theorem dX5_number_139 : decode cX5_number 139 = .ok (.ineg, 1) := by decide +kernel
theorem dX5_number_140 : decode cX5_number 140 = .ok (.goto 5, 3) := by decide +kernel
theorem dX5_number_143 : decode cX5_number 143 = .ok (.iload 9, 2) := by decide +kernel
theorem dX5_number_145 : decode cX5_number 145 = .ok (.iastore, 1) := by decide +kernel
theorem dX5_number_146 : decode cX5_number 146 = .ok (.iload 5, 2) := by decide +kernel
theorem dX5_number_148 : decode cX5_number 148 = .ok (.bipush 10, 2) := by decide +kernel
theorem dX5_number_150 : decode cX5_number 150 = .ok (.idiv, 1) := by decide +kernel
theorem dX5_number_151 : decode cX5_number 151 = .ok (.istore 5, 2) := by decide +kernel
theorem dX5_number_153 : decode cX5_number 153 = .ok (.iinc 6 (-1), 3) := by decide +kernel
theorem dX5_number_156 : decode cX5_number 156 = .ok (.goto (-94), 3) := by decide +kernel
theorem dX5_number_159 : decode cX5_number 159 = .ok (.iload 4, 2) := by decide +kernel
theorem dX5_number_161 : decode cX5_number 161 = .ok (.ireturn, 1) := by decide +kernel
set_option maxRecDepth 20000 in
theorem ggX5_goes_X5_turns : GoodIn wsX5_goes wsX5_turns := goodIn_r _ [5, 6, 7, 4, 8] (by decide +kernel) (by decide +kernel)
set_option maxRecDepth 20000 in
theorem gX5_goes_X5_turns : GoodIn wsX5_goes (va_wsS RX5 59 yX5_turns wsX5_turns) := goodIn_app (goodIn_of _ (by decide +kernel)) ggX5_goes_X5_turns
set_option maxRecDepth 20000 in
theorem ggX5_goes_X5_litBy : GoodIn wsX5_goes wsX5_litBy := goodIn_r _ [11] (by decide +kernel) (by decide +kernel)
set_option maxRecDepth 20000 in
theorem gX5_goes_X5_litBy : GoodIn wsX5_goes (va_wsS RX5 63 yX5_litBy wsX5_litBy) := goodIn_app (goodIn_of _ (by decide +kernel)) ggX5_goes_X5_litBy
set_option maxRecDepth 20000 in
theorem ggX5_goes_X5_shownAs : GoodIn wsX5_goes wsX5_shownAs := goodIn_r _ [15, 16, 1, 17, 18, 19, 20, 21, 22, 23, 24, 25, 26, 27, 28, 29, 30, 31, 32] (by decide +kernel) (by decide +kernel)
set_option maxRecDepth 20000 in
theorem gX5_goes_X5_shownAs : GoodIn wsX5_goes (wsV RX5 77 RX5 yX5_shownAs wsX5_shownAs) := goodIn_app (goodIn_of _ (by decide +kernel)) ggX5_goes_X5_shownAs
theorem dX5_goes_0 : decode cX5_goes 0 = .ok (.aload_n 0, 1) := by decide +kernel
theorem dX5_goes_1 : decode cX5_goes 1 = .ok (.getfield 13, 3) := by decide +kernel
theorem dX5_goes_4 : decode cX5_goes 4 = .ok (.aload_n 0, 1) := by decide +kernel
theorem dX5_goes_5 : decode cX5_goes 5 = .ok (.getfield 13, 3) := by decide +kernel
theorem dX5_goes_8 : decode cX5_goes 8 = .ok (.bipush 26, 2) := by decide +kernel
theorem dX5_goes_10 : decode cX5_goes 10 = .ok (.invokestatic 59, 3) := by decide +kernel
theorem dX5_goes_13 : decode cX5_goes 13 = .ok (.istore_n 1, 1) := by decide +kernel
theorem dX5_goes_14 : decode cX5_goes 14 = .ok (.aload_n 0, 1) := by decide +kernel
theorem dX5_goes_15 : decode cX5_goes 15 = .ok (.getfield 13, 3) := by decide +kernel
theorem dX5_goes_18 : decode cX5_goes 18 = .ok (.iload_n 1, 1) := by decide +kernel
theorem dX5_goes_19 : decode cX5_goes 19 = .ok (.aload_n 0, 1) := by decide +kernel
theorem dX5_goes_20 : decode cX5_goes 20 = .ok (.getfield 13, 3) := by decide +kernel
theorem dX5_goes_23 : decode cX5_goes 23 = .ok (.bipush 7, 2) := by decide +kernel
theorem dX5_goes_25 : decode cX5_goes 25 = .ok (.iaload, 1) := by decide +kernel
theorem dX5_goes_26 : decode cX5_goes 26 = .ok (.aload_n 0, 1) := by decide +kernel
theorem dX5_goes_27 : decode cX5_goes 27 = .ok (.getfield 13, 3) := by decide +kernel
theorem dX5_goes_30 : decode cX5_goes 30 = .ok (.iconst 0, 1) := by decide +kernel
theorem dX5_goes_31 : decode cX5_goes 31 = .ok (.iaload, 1) := by decide +kernel
theorem dX5_goes_32 : decode cX5_goes 32 = .ok (.invokestatic 63, 3) := by decide +kernel
theorem dX5_goes_35 : decode cX5_goes 35 = .ok (.istore_n 2, 1) := by decide +kernel
theorem dX5_goes_36 : decode cX5_goes 36 = .ok (.aload_n 0, 1) := by decide +kernel
theorem dX5_goes_37 : decode cX5_goes 37 = .ok (.getfield 13, 3) := by decide +kernel
theorem dX5_goes_40 : decode cX5_goes 40 = .ok (.bipush 7, 2) := by decide +kernel
theorem dX5_goes_42 : decode cX5_goes 42 = .ok (.iload_n 1, 1) := by decide +kernel
theorem dX5_goes_43 : decode cX5_goes 43 = .ok (.iastore, 1) := by decide +kernel
theorem dX5_goes_44 : decode cX5_goes 44 = .ok (.aload_n 0, 1) := by decide +kernel
theorem dX5_goes_45 : decode cX5_goes 45 = .ok (.getfield 13, 3) := by decide +kernel
theorem dX5_goes_48 : decode cX5_goes 48 = .ok (.iconst 0, 1) := by decide +kernel
theorem dX5_goes_49 : decode cX5_goes 49 = .ok (.dup2, 1) := by decide +kernel
theorem dX5_goes_50 : decode cX5_goes 50 = .ok (.iaload, 1) := by decide +kernel
theorem dX5_goes_51 : decode cX5_goes 51 = .ok (.iconst 1, 1) := by decide +kernel
theorem dX5_goes_52 : decode cX5_goes 52 = .ok (.iadd, 1) := by decide +kernel
theorem dX5_goes_53 : decode cX5_goes 53 = .ok (.iastore, 1) := by decide +kernel
theorem dX5_goes_54 : decode cX5_goes 54 = .ok (.iconst 0, 1) := by decide +kernel
theorem dX5_goes_55 : decode cX5_goes 55 = .ok (.istore_n 3, 1) := by decide +kernel
theorem dX5_goes_56 : decode cX5_goes 56 = .ok (.iload_n 2, 1) := by decide +kernel
theorem dX5_goes_57 : decode cX5_goes 57 = .ok (.iconst (-1), 1) := by decide +kernel
theorem dX5_goes_58 : decode cX5_goes 58 = .ok (.if_icmp .eq 161, 3) := by decide +kernel
theorem dX5_goes_61 : decode cX5_goes 61 = .ok (.aload_n 0, 1) := by decide +kernel
theorem dX5_goes_62 : decode cX5_goes 62 = .ok (.iload_n 2, 1) := by decide +kernel
theorem dX5_goes_63 : decode cX5_goes 63 = .ok (.aload_n 0, 1) := by decide +kernel
theorem dX5_goes_64 : decode cX5_goes 64 = .ok (.getfield 13, 3) := by decide +kernel
theorem dX5_goes_67 : decode cX5_goes 67 = .ok (.bipush 8, 2) := by decide +kernel
theorem dX5_goes_69 : decode cX5_goes 69 = .ok (.iload_n 2, 1) := by decide +kernel
theorem dX5_goes_70 : decode cX5_goes 70 = .ok (.iadd, 1) := by decide +kernel
theorem dX5_goes_71 : decode cX5_goes 71 = .ok (.iaload, 1) := by decide +kernel
theorem dX5_goes_72 : decode cX5_goes 72 = .ok (.invokevirtual 77, 3) := by decide +kernel
theorem dX5_goes_75 : decode cX5_goes 75 = .ok (.istore 4, 2) := by decide +kernel
theorem dX5_goes_77 : decode cX5_goes 77 = .ok (.aload_n 0, 1) := by decide +kernel
theorem dX5_goes_78 : decode cX5_goes 78 = .ok (.getfield 13, 3) := by decide +kernel
theorem dX5_goes_81 : decode cX5_goes 81 = .ok (.bipush 32, 2) := by decide +kernel
theorem dX5_goes_83 : decode cX5_goes 83 = .ok (.iload_n 2, 1) := by decide +kernel
theorem dX5_goes_84 : decode cX5_goes 84 = .ok (.iadd, 1) := by decide +kernel
theorem dX5_goes_85 : decode cX5_goes 85 = .ok (.dup2, 1) := by decide +kernel
theorem dX5_goes_86 : decode cX5_goes 86 = .ok (.iaload, 1) := by decide +kernel
theorem dX5_goes_87 : decode cX5_goes 87 = .ok (.iconst 1, 1) := by decide +kernel
theorem dX5_goes_88 : decode cX5_goes 88 = .ok (.iadd, 1) := by decide +kernel
theorem dX5_goes_89 : decode cX5_goes 89 = .ok (.iastore, 1) := by decide +kernel
theorem dX5_goes_90 : decode cX5_goes 90 = .ok (.iconst 0, 1) := by decide +kernel
theorem dX5_goes_91 : decode cX5_goes 91 = .ok (.istore 5, 2) := by decide +kernel
theorem dX5_goes_93 : decode cX5_goes 93 = .ok (.iload 5, 2) := by decide +kernel
theorem dX5_goes_95 : decode cX5_goes 95 = .ok (.bipush 7, 2) := by decide +kernel
theorem dX5_goes_97 : decode cX5_goes 97 = .ok (.if_icmp .ge 122, 3) := by decide +kernel
theorem dX5_goes_100 : decode cX5_goes 100 = .ok (.iload 4, 2) := by decide +kernel
theorem dX5_goes_102 : decode cX5_goes 102 = .ok (.iload 5, 2) := by decide +kernel
theorem dX5_goes_104 : decode cX5_goes 104 = .ok (.ishr, 1) := by decide +kernel
theorem dX5_goes_105 : decode cX5_goes 105 = .ok (.iconst 1, 1) := by decide +kernel
theorem dX5_goes_106 : decode cX5_goes 106 = .ok (.iand, 1) := by decide +kernel
theorem dX5_goes_107 : decode cX5_goes 107 = .ok (.iconst 1, 1) := by decide +kernel
theorem dX5_goes_108 : decode cX5_goes 108 = .ok (.if_icmp .ne 105, 3) := by decide +kernel
theorem dX5_goes_111 : decode cX5_goes 111 = .ok (.aload_n 0, 1) := by decide +kernel
theorem dX5_goes_112 : decode cX5_goes 112 = .ok (.getfield 13, 3) := by decide +kernel
theorem dX5_goes_115 : decode cX5_goes 115 = .ok (.bipush 38, 2) := by decide +kernel
theorem dX5_goes_117 : decode cX5_goes 117 = .ok (.bipush 7, 2) := by decide +kernel
theorem dX5_goes_119 : decode cX5_goes 119 = .ok (.iload_n 2, 1) := by decide +kernel
theorem dX5_goes_120 : decode cX5_goes 120 = .ok (.imul, 1) := by decide +kernel
theorem dX5_goes_121 : decode cX5_goes 121 = .ok (.iadd, 1) := by decide +kernel
theorem dX5_goes_122 : decode cX5_goes 122 = .ok (.iload 5, 2) := by decide +kernel
theorem dX5_goes_124 : decode cX5_goes 124 = .ok (.iadd, 1) := by decide +kernel
theorem dX5_goes_125 : decode cX5_goes 125 = .ok (.dup2, 1) := by decide +kernel
theorem dX5_goes_126 : decode cX5_goes 126 = .ok (.iaload, 1) := by decide +kernel
theorem dX5_goes_127 : decode cX5_goes 127 = .ok (.iconst 1, 1) := by decide +kernel
theorem dX5_goes_128 : decode cX5_goes 128 = .ok (.iadd, 1) := by decide +kernel
theorem dX5_goes_129 : decode cX5_goes 129 = .ok (.iastore, 1) := by decide +kernel
theorem dX5_goes_130 : decode cX5_goes 130 = .ok (.aload_n 0, 1) := by decide +kernel
theorem dX5_goes_131 : decode cX5_goes 131 = .ok (.getfield 13, 3) := by decide +kernel
theorem dX5_goes_134 : decode cX5_goes 134 = .ok (.bipush 6, 2) := by decide +kernel
theorem dX5_goes_136 : decode cX5_goes 136 = .ok (.iaload, 1) := by decide +kernel
theorem dX5_goes_137 : decode cX5_goes 137 = .ok (.ifCond .le 35, 3) := by decide +kernel
theorem dX5_goes_140 : decode cX5_goes 140 = .ok (.aload_n 0, 1) := by decide +kernel
theorem dX5_goes_141 : decode cX5_goes 141 = .ok (.getfield 13, 3) := by decide +kernel
theorem dX5_goes_144 : decode cX5_goes 144 = .ok (.bipush 38, 2) := by decide +kernel
theorem dX5_goes_146 : decode cX5_goes 146 = .ok (.bipush 7, 2) := by decide +kernel
theorem dX5_goes_148 : decode cX5_goes 148 = .ok (.iload_n 2, 1) := by decide +kernel
theorem dX5_goes_149 : decode cX5_goes 149 = .ok (.imul, 1) := by decide +kernel
theorem dX5_goes_150 : decode cX5_goes 150 = .ok (.iadd, 1) := by decide +kernel
theorem dX5_goes_151 : decode cX5_goes 151 = .ok (.iload 5, 2) := by decide +kernel
theorem dX5_goes_153 : decode cX5_goes 153 = .ok (.iadd, 1) := by decide +kernel
theorem dX5_goes_154 : decode cX5_goes 154 = .ok (.iaload, 1) := by decide +kernel
theorem dX5_goes_155 : decode cX5_goes 155 = .ok (.bipush 100, 2) := by decide +kernel
theorem dX5_goes_157 : decode cX5_goes 157 = .ok (.aload_n 0, 1) := by decide +kernel
theorem dX5_goes_158 : decode cX5_goes 158 = .ok (.getfield 13, 3) := by decide +kernel
theorem dX5_goes_161 : decode cX5_goes 161 = .ok (.bipush 6, 2) := by decide +kernel
theorem dX5_goes_163 : decode cX5_goes 163 = .ok (.iaload, 1) := by decide +kernel
theorem dX5_goes_164 : decode cX5_goes 164 = .ok (.imul, 1) := by decide +kernel
theorem dX5_goes_165 : decode cX5_goes 165 = .ok (.if_icmp .lt 7, 3) := by decide +kernel
theorem dX5_goes_168 : decode cX5_goes 168 = .ok (.iconst 1, 1) := by decide +kernel
theorem dX5_goes_169 : decode cX5_goes 169 = .ok (.goto 4, 3) := by decide +kernel
theorem dX5_goes_172 : decode cX5_goes 172 = .ok (.iconst 0, 1) := by decide +kernel
theorem dX5_goes_173 : decode cX5_goes 173 = .ok (.istore 6, 2) := by decide +kernel
theorem dX5_goes_175 : decode cX5_goes 175 = .ok (.aload_n 0, 1) := by decide +kernel
theorem dX5_goes_176 : decode cX5_goes 176 = .ok (.getfield 13, 3) := by decide +kernel
theorem dX5_goes_179 : decode cX5_goes 179 = .ok (.bipush 20, 2) := by decide +kernel
theorem dX5_goes_181 : decode cX5_goes 181 = .ok (.iload_n 2, 1) := by decide +kernel
theorem dX5_goes_182 : decode cX5_goes 182 = .ok (.iadd, 1) := by decide +kernel
theorem dX5_goes_183 : decode cX5_goes 183 = .ok (.dup2, 1) := by decide +kernel
theorem dX5_goes_184 : decode cX5_goes 184 = .ok (.iaload, 1) := by decide +kernel
theorem dX5_goes_185 : decode cX5_goes 185 = .ok (.iload 6, 2) := by decide +kernel
theorem dX5_goes_187 : decode cX5_goes 187 = .ok (.ifCond .eq 10, 3) := by decide +kernel
theorem dX5_goes_190 : decode cX5_goes 190 = .ok (.iconst 1, 1) := by decide +kernel
theorem dX5_goes_191 : decode cX5_goes 191 = .ok (.iload 5, 2) := by decide +kernel
theorem dX5_goes_193 : decode cX5_goes 193 = .ok (.ishl, 1) := by decide +kernel
theorem dX5_goes_194 : decode cX5_goes 194 = .ok (.goto 4, 3) := by decide +kernel
theorem dX5_goes_197 : decode cX5_goes 197 = .ok (.iconst 0, 1) := by decide +kernel
theorem dX5_goes_198 : decode cX5_goes 198 = .ok (.ior, 1) := by decide +kernel
theorem dX5_goes_199 : decode cX5_goes 199 = .ok (.iastore, 1) := by decide +kernel
theorem dX5_goes_200 : decode cX5_goes 200 = .ok (.iload_n 3, 1) := by decide +kernel
theorem dX5_goes_201 : decode cX5_goes 201 = .ok (.iload 6, 2) := by decide +kernel
theorem dX5_goes_203 : decode cX5_goes 203 = .ok (.ifCond .eq 7, 3) := by decide +kernel
theorem dX5_goes_206 : decode cX5_goes 206 = .ok (.iconst 1, 1) := by decide +kernel
theorem dX5_goes_207 : decode cX5_goes 207 = .ok (.goto 4, 3) := by decide +kernel
theorem dX5_goes_210 : decode cX5_goes 210 = .ok (.iconst 0, 1) := by decide +kernel
theorem dX5_goes_211 : decode cX5_goes 211 = .ok (.iadd, 1) := by decide +kernel
theorem dX5_goes_212 : decode cX5_goes 212 = .ok (.istore_n 3, 1) := by decide +kernel
theorem dX5_goes_213 : decode cX5_goes 213 = .ok (.iinc 5 1, 3) := by decide +kernel
theorem dX5_goes_216 : decode cX5_goes 216 = .ok (.goto (-123), 3) := by decide +kernel
theorem dX5_goes_219 : decode cX5_goes 219 = .ok (.iload_n 3, 1) := by decide +kernel
theorem dX5_goes_220 : decode cX5_goes 220 = .ok (.ireturn, 1) := by decide +kernel
set_option maxRecDepth 20000 in
theorem ggX5_run_X5_in : GoodIn wsX5_run wsX5_in := goodIn_r _ [7] (by decide +kernel) (by decide +kernel)
set_option maxRecDepth 20000 in
theorem gX5_run_X5_in : GoodIn wsX5_run (va_wsS RX5 41 yX5_in wsX5_in) := goodIn_app (goodIn_of _ (by decide +kernel)) ggX5_run_X5_in
set_option maxRecDepth 20000 in
theorem ggX5_run_X5_fails : GoodIn wsX5_run wsX5_fails := goodIn_r _ [11, 1, 36, 37, 38, 39, 40, 41, 42, 43, 44, 45, 46, 47, 48, 49, 50, 51] (by decide +kernel) (by decide +kernel)
set_option maxRecDepth 20000 in
theorem gX5_run_X5_fails : GoodIn wsX5_run (wsV RX5 48 RX5 yX5_fails wsX5_fails) := goodIn_app (goodIn_of _ (by decide +kernel)) ggX5_run_X5_fails
set_option maxRecDepth 20000 in
theorem ggX5_run_X5_saves : GoodIn wsX5_run wsX5_saves := goodIn_r _ [15, 16, 17, 2, 36, 37, 38, 39, 40, 41, 42, 43, 44, 45, 46, 47, 48, 49, 50, 51] (by decide +kernel) (by decide +kernel)
set_option maxRecDepth 20000 in
theorem gX5_run_X5_saves : GoodIn wsX5_run (wsV RX5 94 RX5 yX5_saves wsX5_saves) := goodIn_app (goodIn_of _ (by decide +kernel)) ggX5_run_X5_saves
set_option maxRecDepth 20000 in
theorem ggX5_run_X5_goes : GoodIn wsX5_run wsX5_goes := goodIn_r _ [21, 2, 22, 23, 6, 24, 25, 26, 27, 28, 29, 30, 31, 32, 33, 34, 35, 36, 37, 38, 39, 40, 41, 42, 43, 44, 45, 46, 47, 48, 49, 50, 51] (by decide +kernel) (by decide +kernel)
set_option maxRecDepth 20000 in
theorem gX5_run_X5_goes : GoodIn wsX5_run (wsV RX5 117 RX5 yX5_goes wsX5_goes) := goodIn_app (goodIn_of _ (by decide +kernel)) ggX5_run_X5_goes
theorem dX5_run_0 : decode cX5_run 0 = .ok (.aload_n 0, 1) := by decide +kernel
theorem dX5_run_1 : decode cX5_run 1 = .ok (.iconst 0, 1) := by decide +kernel
theorem dX5_run_2 : decode cX5_run 2 = .ok (.putfield 37, 3) := by decide +kernel
theorem dX5_run_5 : decode cX5_run 5 = .ok (.iload_n 1, 1) := by decide +kernel
theorem dX5_run_6 : decode cX5_run 6 = .ok (.iconst 1, 1) := by decide +kernel
theorem dX5_run_7 : decode cX5_run 7 = .ok (.sipush 500, 3) := by decide +kernel
theorem dX5_run_10 : decode cX5_run 10 = .ok (.invokestatic 41, 3) := by decide +kernel
theorem dX5_run_13 : decode cX5_run 13 = .ok (.ifCond .ne 9, 3) := by decide +kernel
theorem dX5_run_16 : decode cX5_run 16 = .ok (.aload_n 0, 1) := by decide +kernel
theorem dX5_run_17 : decode cX5_run 17 = .ok (.iconst 1, 1) := by decide +kernel
theorem dX5_run_18 : decode cX5_run 18 = .ok (.invokevirtual 48, 3) := by decide +kernel
theorem dX5_run_21 : decode cX5_run 21 = .ok (.ireturn, 1) := by decide +kernel
theorem dX5_run_22 : decode cX5_run 22 = .ok (.aload_n 0, 1) := by decide +kernel
theorem dX5_run_23 : decode cX5_run 23 = .ok (.getfield 13, 3) := by decide +kernel
theorem dX5_run_26 : decode cX5_run 26 = .ok (.iconst 0, 1) := by decide +kernel
theorem dX5_run_27 : decode cX5_run 27 = .ok (.iaload, 1) := by decide +kernel
theorem dX5_run_28 : decode cX5_run 28 = .ok (.iload_n 1, 1) := by decide +kernel
theorem dX5_run_29 : decode cX5_run 29 = .ok (.iadd, 1) := by decide +kernel
theorem dX5_run_30 : decode cX5_run 30 = .ok (.ldc 116, 2) := by decide +kernel
theorem dX5_run_32 : decode cX5_run 32 = .ok (.if_icmp .le 9, 3) := by decide +kernel
theorem dX5_run_35 : decode cX5_run 35 = .ok (.aload_n 0, 1) := by decide +kernel
theorem dX5_run_36 : decode cX5_run 36 = .ok (.iconst 2, 1) := by decide +kernel
theorem dX5_run_37 : decode cX5_run 37 = .ok (.invokevirtual 48, 3) := by decide +kernel
theorem dX5_run_40 : decode cX5_run 40 = .ok (.ireturn, 1) := by decide +kernel
theorem dX5_run_41 : decode cX5_run 41 = .ok (.aload_n 0, 1) := by decide +kernel
theorem dX5_run_42 : decode cX5_run 42 = .ok (.invokevirtual 94, 3) := by decide +kernel
theorem dX5_run_45 : decode cX5_run 45 = .ok (.iconst 0, 1) := by decide +kernel
theorem dX5_run_46 : decode cX5_run 46 = .ok (.istore_n 2, 1) := by decide +kernel
theorem dX5_run_47 : decode cX5_run 47 = .ok (.iconst 0, 1) := by decide +kernel
theorem dX5_run_48 : decode cX5_run 48 = .ok (.istore_n 3, 1) := by decide +kernel
theorem dX5_run_49 : decode cX5_run 49 = .ok (.iload_n 3, 1) := by decide +kernel
theorem dX5_run_50 : decode cX5_run 50 = .ok (.iload_n 1, 1) := by decide +kernel
theorem dX5_run_51 : decode cX5_run 51 = .ok (.if_icmp .ge 16, 3) := by decide +kernel
theorem dX5_run_54 : decode cX5_run 54 = .ok (.iload_n 2, 1) := by decide +kernel
theorem dX5_run_55 : decode cX5_run 55 = .ok (.aload_n 0, 1) := by decide +kernel
theorem dX5_run_56 : decode cX5_run 56 = .ok (.invokevirtual 117, 3) := by decide +kernel
theorem dX5_run_59 : decode cX5_run 59 = .ok (.iadd, 1) := by decide +kernel
theorem dX5_run_60 : decode cX5_run 60 = .ok (.istore_n 2, 1) := by decide +kernel
theorem dX5_run_61 : decode cX5_run 61 = .ok (.iinc 3 1, 3) := by decide +kernel
theorem dX5_run_64 : decode cX5_run 64 = .ok (.goto (-15), 3) := by decide +kernel
theorem dX5_run_67 : decode cX5_run 67 = .ok (.iload_n 2, 1) := by decide +kernel
theorem dX5_run_68 : decode cX5_run 68 = .ok (.ireturn, 1) := by decide +kernel
set_option maxRecDepth 20000 in
theorem ggX5_append_X5_in : GoodIn wsX5_append wsX5_in := goodIn_r _ [7] (by decide +kernel) (by decide +kernel)
set_option maxRecDepth 20000 in
theorem gX5_append_X5_in : GoodIn wsX5_append (va_wsS RX5 41 yX5_in wsX5_in) := goodIn_app (goodIn_of _ (by decide +kernel)) ggX5_append_X5_in
set_option maxRecDepth 20000 in
theorem ggX5_append_X5_fails : GoodIn wsX5_append wsX5_fails := goodIn_r _ [11, 1, 12, 13, 14, 15, 16, 17, 18, 19, 20, 21, 22, 23, 24, 25, 26, 27] (by decide +kernel) (by decide +kernel)
set_option maxRecDepth 20000 in
theorem gX5_append_X5_fails : GoodIn wsX5_append (wsV RX5 48 RX5 yX5_fails wsX5_fails) := goodIn_app (goodIn_of _ (by decide +kernel)) ggX5_append_X5_fails
theorem dX5_append_0 : decode cX5_append 0 = .ok (.aload_n 0, 1) := by decide +kernel
theorem dX5_append_1 : decode cX5_append 1 = .ok (.iconst 0, 1) := by decide +kernel
theorem dX5_append_2 : decode cX5_append 2 = .ok (.putfield 37, 3) := by decide +kernel
theorem dX5_append_5 : decode cX5_append 5 = .ok (.iload_n 1, 1) := by decide +kernel
theorem dX5_append_6 : decode cX5_append 6 = .ok (.bipush 33, 2) := by decide +kernel
theorem dX5_append_8 : decode cX5_append 8 = .ok (.bipush 126, 2) := by decide +kernel
theorem dX5_append_10 : decode cX5_append 10 = .ok (.invokestatic 41, 3) := by decide +kernel
theorem dX5_append_13 : decode cX5_append 13 = .ok (.ifCond .ne 9, 3) := by decide +kernel
theorem dX5_append_16 : decode cX5_append 16 = .ok (.aload_n 0, 1) := by decide +kernel
theorem dX5_append_17 : decode cX5_append 17 = .ok (.iconst 1, 1) := by decide +kernel
theorem dX5_append_18 : decode cX5_append 18 = .ok (.invokevirtual 48, 3) := by decide +kernel
theorem dX5_append_21 : decode cX5_append 21 = .ok (.ireturn, 1) := by decide +kernel
theorem dX5_append_22 : decode cX5_append 22 = .ok (.aload_n 0, 1) := by decide +kernel
theorem dX5_append_23 : decode cX5_append 23 = .ok (.getfield 121, 3) := by decide +kernel
theorem dX5_append_26 : decode cX5_append 26 = .ok (.bipush 60, 2) := by decide +kernel
theorem dX5_append_28 : decode cX5_append 28 = .ok (.if_icmp .ne 9, 3) := by decide +kernel
theorem dX5_append_31 : decode cX5_append 31 = .ok (.aload_n 0, 1) := by decide +kernel
theorem dX5_append_32 : decode cX5_append 32 = .ok (.iconst 2, 1) := by decide +kernel
theorem dX5_append_33 : decode cX5_append 33 = .ok (.invokevirtual 48, 3) := by decide +kernel
theorem dX5_append_36 : decode cX5_append 36 = .ok (.ireturn, 1) := by decide +kernel
theorem dX5_append_37 : decode cX5_append 37 = .ok (.aload_n 0, 1) := by decide +kernel
theorem dX5_append_38 : decode cX5_append 38 = .ok (.getfield 22, 3) := by decide +kernel
theorem dX5_append_41 : decode cX5_append 41 = .ok (.aload_n 0, 1) := by decide +kernel
theorem dX5_append_42 : decode cX5_append 42 = .ok (.getfield 121, 3) := by decide +kernel
theorem dX5_append_45 : decode cX5_append 45 = .ok (.iload_n 1, 1) := by decide +kernel
theorem dX5_append_46 : decode cX5_append 46 = .ok (.iastore, 1) := by decide +kernel
theorem dX5_append_47 : decode cX5_append 47 = .ok (.aload_n 0, 1) := by decide +kernel
theorem dX5_append_48 : decode cX5_append 48 = .ok (.dup, 1) := by decide +kernel
theorem dX5_append_49 : decode cX5_append 49 = .ok (.getfield 121, 3) := by decide +kernel
theorem dX5_append_52 : decode cX5_append 52 = .ok (.iconst 1, 1) := by decide +kernel
theorem dX5_append_53 : decode cX5_append 53 = .ok (.iadd, 1) := by decide +kernel
theorem dX5_append_54 : decode cX5_append 54 = .ok (.putfield 121, 3) := by decide +kernel
theorem dX5_append_57 : decode cX5_append 57 = .ok (.aload_n 0, 1) := by decide +kernel
theorem dX5_append_58 : decode cX5_append 58 = .ok (.getfield 121, 3) := by decide +kernel
theorem dX5_append_61 : decode cX5_append 61 = .ok (.ireturn, 1) := by decide +kernel
theorem dX5_clearBuffer_0 : decode cX5_clearBuffer 0 = .ok (.aload_n 0, 1) := by decide +kernel
theorem dX5_clearBuffer_1 : decode cX5_clearBuffer 1 = .ok (.iconst 0, 1) := by decide +kernel
theorem dX5_clearBuffer_2 : decode cX5_clearBuffer 2 = .ok (.putfield 37, 3) := by decide +kernel
theorem dX5_clearBuffer_5 : decode cX5_clearBuffer 5 = .ok (.aload_n 0, 1) := by decide +kernel
theorem dX5_clearBuffer_6 : decode cX5_clearBuffer 6 = .ok (.getfield 121, 3) := by decide +kernel
theorem dX5_clearBuffer_9 : decode cX5_clearBuffer 9 = .ok (.istore_n 1, 1) := by decide +kernel
theorem dX5_clearBuffer_10 : decode cX5_clearBuffer 10 = .ok (.aload_n 0, 1) := by decide +kernel
theorem dX5_clearBuffer_11 : decode cX5_clearBuffer 11 = .ok (.iconst 0, 1) := by decide +kernel
theorem dX5_clearBuffer_12 : decode cX5_clearBuffer 12 = .ok (.putfield 121, 3) := by decide +kernel
theorem dX5_clearBuffer_15 : decode cX5_clearBuffer 15 = .ok (.iload_n 1, 1) := by decide +kernel
theorem dX5_clearBuffer_16 : decode cX5_clearBuffer 16 = .ok (.ireturn, 1) := by decide +kernel
set_option maxRecDepth 20000 in
theorem ggX5_isAt_X5_in : GoodIn wsX5_isAt wsX5_in := goodIn_r _ [7] (by decide +kernel) (by decide +kernel)
set_option maxRecDepth 20000 in
theorem gX5_isAt_X5_in : GoodIn wsX5_isAt (va_wsS RX5 41 yX5_in wsX5_in) := goodIn_app (goodIn_of _ (by decide +kernel)) ggX5_isAt_X5_in
theorem dX5_isAt_0 : decode cX5_isAt 0 = .ok (.aload_n 0, 1) := by decide +kernel
theorem dX5_isAt_1 : decode cX5_isAt 1 = .ok (.getfield 124, 3) := by decide +kernel
theorem dX5_isAt_4 : decode cX5_isAt 4 = .ok (.aload_n 0, 1) := by decide +kernel
theorem dX5_isAt_5 : decode cX5_isAt 5 = .ok (.getfield 121, 3) := by decide +kernel
theorem dX5_isAt_8 : decode cX5_isAt 8 = .ok (.if_icmp .ge 24, 3) := by decide +kernel
theorem dX5_isAt_11 : decode cX5_isAt 11 = .ok (.aload_n 0, 1) := by decide +kernel
theorem dX5_isAt_12 : decode cX5_isAt 12 = .ok (.getfield 22, 3) := by decide +kernel
theorem dX5_isAt_15 : decode cX5_isAt 15 = .ok (.aload_n 0, 1) := by decide +kernel
theorem dX5_isAt_16 : decode cX5_isAt 16 = .ok (.getfield 124, 3) := by decide +kernel
theorem dX5_isAt_19 : decode cX5_isAt 19 = .ok (.iaload, 1) := by decide +kernel
theorem dX5_isAt_20 : decode cX5_isAt 20 = .ok (.iload_n 1, 1) := by decide +kernel
theorem dX5_isAt_21 : decode cX5_isAt 21 = .ok (.iload_n 2, 1) := by decide +kernel
theorem dX5_isAt_22 : decode cX5_isAt 22 = .ok (.invokestatic 41, 3) := by decide +kernel
theorem dX5_isAt_25 : decode cX5_isAt 25 = .ok (.ifCond .eq 7, 3) := by decide +kernel
theorem dX5_isAt_28 : decode cX5_isAt 28 = .ok (.iconst 1, 1) := by decide +kernel
theorem dX5_isAt_29 : decode cX5_isAt 29 = .ok (.goto 4, 3) := by decide +kernel
theorem dX5_isAt_32 : decode cX5_isAt 32 = .ok (.iconst 0, 1) := by decide +kernel
theorem dX5_isAt_33 : decode cX5_isAt 33 = .ok (.ireturn, 1) := by decide +kernel
theorem dX5_stops_0 : decode cX5_stops 0 = .ok (.aload_n 0, 1) := by decide +kernel
theorem dX5_stops_1 : decode cX5_stops 1 = .ok (.aload_n 0, 1) := by decide +kernel
theorem dX5_stops_2 : decode cX5_stops 2 = .ok (.getfield 124, 3) := by decide +kernel
theorem dX5_stops_5 : decode cX5_stops 5 = .ok (.aload_n 0, 1) := by decide +kernel
theorem dX5_stops_6 : decode cX5_stops 6 = .ok (.getfield 121, 3) := by decide +kernel
theorem dX5_stops_9 : decode cX5_stops 9 = .ok (.if_icmp .ge 7, 3) := by decide +kernel
theorem dX5_stops_12 : decode cX5_stops 12 = .ok (.iconst 1, 1) := by decide +kernel
theorem dX5_stops_13 : decode cX5_stops 13 = .ok (.goto 4, 3) := by decide +kernel
theorem dX5_stops_16 : decode cX5_stops 16 = .ok (.iconst 0, 1) := by decide +kernel
theorem dX5_stops_17 : decode cX5_stops 17 = .ok (.putfield 127, 3) := by decide +kernel
theorem dX5_stops_20 : decode cX5_stops 20 = .ok (.iconst 0, 1) := by decide +kernel
theorem dX5_stops_21 : decode cX5_stops 21 = .ok (.ireturn, 1) := by decide +kernel
set_option maxRecDepth 20000 in
theorem ggX5_isPart_X5_isAt : GoodIn wsX5_isPart wsX5_isAt := goodIn_r _ [9, 4, 10, 3, 11, 12, 8, 13, 19, 20, 21, 22, 23, 24, 25, 26, 27, 28, 29, 30, 31, 32, 33, 34] (by decide +kernel) (by decide +kernel)
set_option maxRecDepth 20000 in
theorem gX5_isPart_X5_isAt : GoodIn wsX5_isPart (wsV RX5 131 RX5 yX5_isAt wsX5_isAt) := goodIn_app (goodIn_of _ (by decide +kernel)) ggX5_isPart_X5_isAt
set_option maxRecDepth 20000 in
theorem ggX5_isPart_X5_stops : GoodIn wsX5_isPart wsX5_stops := goodIn_r _ [17, 4, 10, 18, 19, 20, 21, 22, 23, 24, 25, 26, 27, 28, 29, 30, 31, 32, 33, 34] (by decide +kernel) (by decide +kernel)
set_option maxRecDepth 20000 in
theorem gX5_isPart_X5_stops : GoodIn wsX5_isPart (wsV RX5 134 RX5 yX5_stops wsX5_stops) := goodIn_app (goodIn_of _ (by decide +kernel)) ggX5_isPart_X5_stops
theorem dX5_isPart_0 : decode cX5_isPart 0 = .ok (.aload_n 0, 1) := by decide +kernel
theorem dX5_isPart_1 : decode cX5_isPart 1 = .ok (.bipush 48, 2) := by decide +kernel
theorem dX5_isPart_3 : decode cX5_isPart 3 = .ok (.bipush 57, 2) := by decide +kernel
theorem dX5_isPart_5 : decode cX5_isPart 5 = .ok (.invokevirtual 131, 3) := by decide +kernel
theorem dX5_isPart_8 : decode cX5_isPart 8 = .ok (.istore_n 1, 1) := by decide +kernel
theorem dX5_isPart_9 : decode cX5_isPart 9 = .ok (.iload_n 1, 1) := by decide +kernel
theorem dX5_isPart_10 : decode cX5_isPart 10 = .ok (.ifCond .ne 30, 3) := by decide +kernel
theorem dX5_isPart_13 : decode cX5_isPart 13 = .ok (.aload_n 0, 1) := by decide +kernel
theorem dX5_isPart_14 : decode cX5_isPart 14 = .ok (.bipush 45, 2) := by decide +kernel
theorem dX5_isPart_16 : decode cX5_isPart 16 = .ok (.bipush 45, 2) := by decide +kernel
theorem dX5_isPart_18 : decode cX5_isPart 18 = .ok (.invokevirtual 131, 3) := by decide +kernel
theorem dX5_isPart_21 : decode cX5_isPart 21 = .ok (.ifCond .ne 19, 3) := by decide +kernel
theorem dX5_isPart_24 : decode cX5_isPart 24 = .ok (.aload_n 0, 1) := by decide +kernel
theorem dX5_isPart_25 : decode cX5_isPart 25 = .ok (.bipush 95, 2) := by decide +kernel
theorem dX5_isPart_27 : decode cX5_isPart 27 = .ok (.bipush 95, 2) := by decide +kernel
theorem dX5_isPart_29 : decode cX5_isPart 29 = .ok (.invokevirtual 131, 3) := by decide +kernel
theorem dX5_isPart_32 : decode cX5_isPart 32 = .ok (.ifCond .ne 8, 3) := by decide +kernel
theorem dX5_isPart_35 : decode cX5_isPart 35 = .ok (.aload_n 0, 1) := by decide +kernel
theorem dX5_isPart_36 : decode cX5_isPart 36 = .ok (.invokevirtual 134, 3) := by decide +kernel
theorem dX5_isPart_39 : decode cX5_isPart 39 = .ok (.ireturn, 1) := by decide +kernel
theorem dX5_isPart_40 : decode cX5_isPart 40 = .ok (.aload_n 0, 1) := by decide +kernel
theorem dX5_isPart_41 : decode cX5_isPart 41 = .ok (.getfield 25, 3) := by decide +kernel
theorem dX5_isPart_44 : decode cX5_isPart 44 = .ok (.iconst 2, 1) := by decide +kernel
theorem dX5_isPart_45 : decode cX5_isPart 45 = .ok (.aload_n 0, 1) := by decide +kernel
theorem dX5_isPart_46 : decode cX5_isPart 46 = .ok (.getfield 138, 3) := by decide +kernel
theorem dX5_isPart_49 : decode cX5_isPart 49 = .ok (.imul, 1) := by decide +kernel
theorem dX5_isPart_50 : decode cX5_isPart 50 = .ok (.iload_n 1, 1) := by decide +kernel
theorem dX5_isPart_51 : decode cX5_isPart 51 = .ok (.ifCond .eq 18, 3) := by decide +kernel
theorem dX5_isPart_54 : decode cX5_isPart 54 = .ok (.aload_n 0, 1) := by decide +kernel
theorem dX5_isPart_55 : decode cX5_isPart 55 = .ok (.getfield 22, 3) := by decide +kernel
theorem dX5_isPart_58 : decode cX5_isPart 58 = .ok (.aload_n 0, 1) := by decide +kernel
theorem dX5_isPart_59 : decode cX5_isPart 59 = .ok (.getfield 124, 3) := by decide +kernel
theorem dX5_isPart_62 : decode cX5_isPart 62 = .ok (.iaload, 1) := by decide +kernel
theorem dX5_isPart_63 : decode cX5_isPart 63 = .ok (.bipush 48, 2) := by decide +kernel
theorem dX5_isPart_65 : decode cX5_isPart 65 = .ok (.isub, 1) := by decide +kernel
theorem dX5_isPart_66 : decode cX5_isPart 66 = .ok (.goto 21, 3) := by decide +kernel
theorem dX5_isPart_69 : decode cX5_isPart 69 = .ok (.aload_n 0, 1) := by decide +kernel
theorem dX5_isPart_70 : decode cX5_isPart 70 = .ok (.bipush 45, 2) := by decide +kernel
theorem dX5_isPart_72 : decode cX5_isPart 72 = .ok (.bipush 45, 2) := by decide +kernel
theorem dX5_isPart_74 : decode cX5_isPart 74 = .ok (.invokevirtual 131, 3) := by decide +kernel
theorem dX5_isPart_77 : decode cX5_isPart 77 = .ok (.ifCond .eq 8, 3) := by decide +kernel
theorem dX5_isPart_80 : decode cX5_isPart 80 = .ok (.bipush 10, 2) := by decide +kernel
theorem dX5_isPart_82 : decode cX5_isPart 82 = .ok (.goto 5, 3) := by decide +kernel
theorem dX5_isPart_85 : decode cX5_isPart 85 = .ok (.bipush 11, 2) := by decide +kernel
theorem dX5_isPart_87 : decode cX5_isPart 87 = .ok (.iastore, 1) := by decide +kernel
theorem dX5_isPart_88 : decode cX5_isPart 88 = .ok (.aload_n 0, 1) := by decide +kernel
theorem dX5_isPart_89 : decode cX5_isPart 89 = .ok (.getfield 25, 3) := by decide +kernel
theorem dX5_isPart_92 : decode cX5_isPart 92 = .ok (.iconst 2, 1) := by decide +kernel
theorem dX5_isPart_93 : decode cX5_isPart 93 = .ok (.aload_n 0, 1) := by decide +kernel
theorem dX5_isPart_94 : decode cX5_isPart 94 = .ok (.getfield 138, 3) := by decide +kernel
theorem dX5_isPart_97 : decode cX5_isPart 97 = .ok (.imul, 1) := by decide +kernel
theorem dX5_isPart_98 : decode cX5_isPart 98 = .ok (.iconst 1, 1) := by decide +kernel
theorem dX5_isPart_99 : decode cX5_isPart 99 = .ok (.iadd, 1) := by decide +kernel
theorem dX5_isPart_100 : decode cX5_isPart 100 = .ok (.iconst (-1), 1) := by decide +kernel
theorem dX5_isPart_101 : decode cX5_isPart 101 = .ok (.iastore, 1) := by decide +kernel
theorem dX5_isPart_102 : decode cX5_isPart 102 = .ok (.aload_n 0, 1) := by decide +kernel
theorem dX5_isPart_103 : decode cX5_isPart 103 = .ok (.dup, 1) := by decide +kernel
theorem dX5_isPart_104 : decode cX5_isPart 104 = .ok (.getfield 124, 3) := by decide +kernel
theorem dX5_isPart_107 : decode cX5_isPart 107 = .ok (.iconst 1, 1) := by decide +kernel
theorem dX5_isPart_108 : decode cX5_isPart 108 = .ok (.iadd, 1) := by decide +kernel
theorem dX5_isPart_109 : decode cX5_isPart 109 = .ok (.putfield 124, 3) := by decide +kernel
theorem dX5_isPart_112 : decode cX5_isPart 112 = .ok (.aload_n 0, 1) := by decide +kernel
theorem dX5_isPart_113 : decode cX5_isPart 113 = .ok (.bipush 42, 2) := by decide +kernel
theorem dX5_isPart_115 : decode cX5_isPart 115 = .ok (.bipush 42, 2) := by decide +kernel
theorem dX5_isPart_117 : decode cX5_isPart 117 = .ok (.invokevirtual 131, 3) := by decide +kernel
theorem dX5_isPart_120 : decode cX5_isPart 120 = .ok (.ifCond .ne 5, 3) := by decide +kernel
theorem dX5_isPart_123 : decode cX5_isPart 123 = .ok (.iconst 1, 1) := by decide +kernel
theorem dX5_isPart_124 : decode cX5_isPart 124 = .ok (.ireturn, 1) := by decide +kernel
theorem dX5_isPart_125 : decode cX5_isPart 125 = .ok (.aload_n 0, 1) := by decide +kernel
theorem dX5_isPart_126 : decode cX5_isPart 126 = .ok (.dup, 1) := by decide +kernel
theorem dX5_isPart_127 : decode cX5_isPart 127 = .ok (.getfield 124, 3) := by decide +kernel
theorem dX5_isPart_130 : decode cX5_isPart 130 = .ok (.iconst 1, 1) := by decide +kernel
theorem dX5_isPart_131 : decode cX5_isPart 131 = .ok (.iadd, 1) := by decide +kernel
theorem dX5_isPart_132 : decode cX5_isPart 132 = .ok (.putfield 124, 3) := by decide +kernel
theorem dX5_isPart_135 : decode cX5_isPart 135 = .ok (.aload_n 0, 1) := by decide +kernel
theorem dX5_isPart_136 : decode cX5_isPart 136 = .ok (.bipush 48, 2) := by decide +kernel
theorem dX5_isPart_138 : decode cX5_isPart 138 = .ok (.bipush 57, 2) := by decide +kernel
theorem dX5_isPart_140 : decode cX5_isPart 140 = .ok (.invokevirtual 131, 3) := by decide +kernel
theorem dX5_isPart_143 : decode cX5_isPart 143 = .ok (.ifCond .ne 8, 3) := by decide +kernel
theorem dX5_isPart_146 : decode cX5_isPart 146 = .ok (.aload_n 0, 1) := by decide +kernel
theorem dX5_isPart_147 : decode cX5_isPart 147 = .ok (.invokevirtual 134, 3) := by decide +kernel
theorem dX5_isPart_150 : decode cX5_isPart 150 = .ok (.ireturn, 1) := by decide +kernel
theorem dX5_isPart_151 : decode cX5_isPart 151 = .ok (.aload_n 0, 1) := by decide +kernel
theorem dX5_isPart_152 : decode cX5_isPart 152 = .ok (.getfield 22, 3) := by decide +kernel
theorem dX5_isPart_155 : decode cX5_isPart 155 = .ok (.aload_n 0, 1) := by decide +kernel
theorem dX5_isPart_156 : decode cX5_isPart 156 = .ok (.getfield 124, 3) := by decide +kernel
theorem dX5_isPart_159 : decode cX5_isPart 159 = .ok (.iaload, 1) := by decide +kernel
theorem dX5_isPart_160 : decode cX5_isPart 160 = .ok (.bipush 48, 2) := by decide +kernel
theorem dX5_isPart_162 : decode cX5_isPart 162 = .ok (.isub, 1) := by decide +kernel
theorem dX5_isPart_163 : decode cX5_isPart 163 = .ok (.istore_n 2, 1) := by decide +kernel
theorem dX5_isPart_164 : decode cX5_isPart 164 = .ok (.aload_n 0, 1) := by decide +kernel
theorem dX5_isPart_165 : decode cX5_isPart 165 = .ok (.dup, 1) := by decide +kernel
theorem dX5_isPart_166 : decode cX5_isPart 166 = .ok (.getfield 124, 3) := by decide +kernel
theorem dX5_isPart_169 : decode cX5_isPart 169 = .ok (.iconst 1, 1) := by decide +kernel
theorem dX5_isPart_170 : decode cX5_isPart 170 = .ok (.iadd, 1) := by decide +kernel
theorem dX5_isPart_171 : decode cX5_isPart 171 = .ok (.putfield 124, 3) := by decide +kernel
theorem dX5_isPart_174 : decode cX5_isPart 174 = .ok (.iload_n 2, 1) := by decide +kernel
theorem dX5_isPart_175 : decode cX5_isPart 175 = .ok (.iconst 1, 1) := by decide +kernel
theorem dX5_isPart_176 : decode cX5_isPart 176 = .ok (.if_icmp .ne 40, 3) := by decide +kernel
theorem dX5_isPart_179 : decode cX5_isPart 179 = .ok (.aload_n 0, 1) := by decide +kernel
theorem dX5_isPart_180 : decode cX5_isPart 180 = .ok (.bipush 48, 2) := by decide +kernel
theorem dX5_isPart_182 : decode cX5_isPart 182 = .ok (.bipush 53, 2) := by decide +kernel
theorem dX5_isPart_184 : decode cX5_isPart 184 = .ok (.invokevirtual 131, 3) := by decide +kernel
theorem dX5_isPart_187 : decode cX5_isPart 187 = .ok (.ifCond .eq 29, 3) := by decide +kernel
theorem dX5_isPart_190 : decode cX5_isPart 190 = .ok (.bipush 10, 2) := by decide +kernel
theorem dX5_isPart_192 : decode cX5_isPart 192 = .ok (.aload_n 0, 1) := by decide +kernel
theorem dX5_isPart_193 : decode cX5_isPart 193 = .ok (.getfield 22, 3) := by decide +kernel
theorem dX5_isPart_196 : decode cX5_isPart 196 = .ok (.aload_n 0, 1) := by decide +kernel
theorem dX5_isPart_197 : decode cX5_isPart 197 = .ok (.getfield 124, 3) := by decide +kernel
theorem dX5_isPart_200 : decode cX5_isPart 200 = .ok (.iaload, 1) := by decide +kernel
theorem dX5_isPart_201 : decode cX5_isPart 201 = .ok (.iadd, 1) := by decide +kernel
theorem dX5_isPart_202 : decode cX5_isPart 202 = .ok (.bipush 48, 2) := by decide +kernel
theorem dX5_isPart_204 : decode cX5_isPart 204 = .ok (.isub, 1) := by decide +kernel
theorem dX5_isPart_205 : decode cX5_isPart 205 = .ok (.istore_n 2, 1) := by decide +kernel
theorem dX5_isPart_206 : decode cX5_isPart 206 = .ok (.aload_n 0, 1) := by decide +kernel
theorem dX5_isPart_207 : decode cX5_isPart 207 = .ok (.dup, 1) := by decide +kernel
theorem dX5_isPart_208 : decode cX5_isPart 208 = .ok (.getfield 124, 3) := by decide +kernel
theorem dX5_isPart_211 : decode cX5_isPart 211 = .ok (.iconst 1, 1) := by decide +kernel
theorem dX5_isPart_212 : decode cX5_isPart 212 = .ok (.iadd, 1) := by decide +kernel
theorem dX5_isPart_213 : decode cX5_isPart 213 = .ok (.putfield 124, 3) := by decide +kernel
theorem dX5_isPart_216 : decode cX5_isPart 216 = .ok (.aload_n 0, 1) := by decide +kernel
theorem dX5_isPart_217 : decode cX5_isPart 217 = .ok (.getfield 25, 3) := by decide +kernel
theorem dX5_isPart_220 : decode cX5_isPart 220 = .ok (.iconst 2, 1) := by decide +kernel
theorem dX5_isPart_221 : decode cX5_isPart 221 = .ok (.aload_n 0, 1) := by decide +kernel
theorem dX5_isPart_222 : decode cX5_isPart 222 = .ok (.getfield 138, 3) := by decide +kernel
theorem dX5_isPart_225 : decode cX5_isPart 225 = .ok (.imul, 1) := by decide +kernel
theorem dX5_isPart_226 : decode cX5_isPart 226 = .ok (.iconst 1, 1) := by decide +kernel
theorem dX5_isPart_227 : decode cX5_isPart 227 = .ok (.iadd, 1) := by decide +kernel
theorem dX5_isPart_228 : decode cX5_isPart 228 = .ok (.iload_n 2, 1) := by decide +kernel
theorem dX5_isPart_229 : decode cX5_isPart 229 = .ok (.iastore, 1) := by decide +kernel
theorem dX5_isPart_230 : decode cX5_isPart 230 = .ok (.iconst 1, 1) := by decide +kernel
theorem dX5_isPart_231 : decode cX5_isPart 231 = .ok (.ireturn, 1) := by decide +kernel
set_option maxRecDepth 20000 in
theorem ggX5_isText_X5_isPart : GoodIn wsX5_isText wsX5_isPart := goodIn_r _ [9, 10, 2, 11, 1, 12, 13, 14, 8, 15, 4, 16, 17, 18, 19, 20, 21, 22, 3, 23, 24, 25, 26, 27, 28, 29, 30, 31, 32, 33, 34, 35, 36, 37, 38] (by decide +kernel) (by decide +kernel)
set_option maxRecDepth 20000 in
theorem gX5_isText_X5_isPart : GoodIn wsX5_isText (wsV RX5 141 RX5 yX5_isPart wsX5_isPart) := goodIn_app (goodIn_of _ (by decide +kernel)) ggX5_isText_X5_isPart
theorem dX5_isText_0 : decode cX5_isText 0 = .ok (.aload_n 0, 1) := by decide +kernel
theorem dX5_isText_1 : decode cX5_isText 1 = .ok (.iconst 0, 1) := by decide +kernel
theorem dX5_isText_2 : decode cX5_isText 2 = .ok (.putfield 124, 3) := by decide +kernel
theorem dX5_isText_5 : decode cX5_isText 5 = .ok (.aload_n 0, 1) := by decide +kernel
theorem dX5_isText_6 : decode cX5_isText 6 = .ok (.iconst 0, 1) := by decide +kernel
theorem dX5_isText_7 : decode cX5_isText 7 = .ok (.putfield 138, 3) := by decide +kernel
theorem dX5_isText_10 : decode cX5_isText 10 = .ok (.aload_n 0, 1) := by decide +kernel
theorem dX5_isText_11 : decode cX5_isText 11 = .ok (.iconst 0, 1) := by decide +kernel
theorem dX5_isText_12 : decode cX5_isText 12 = .ok (.putfield 127, 3) := by decide +kernel
theorem dX5_isText_15 : decode cX5_isText 15 = .ok (.iconst 1, 1) := by decide +kernel
theorem dX5_isText_16 : decode cX5_isText 16 = .ok (.istore_n 1, 1) := by decide +kernel
theorem dX5_isText_17 : decode cX5_isText 17 = .ok (.iload_n 1, 1) := by decide +kernel
theorem dX5_isText_18 : decode cX5_isText 18 = .ok (.ifCond .eq 51, 3) := by decide +kernel
theorem dX5_isText_21 : decode cX5_isText 21 = .ok (.aload_n 0, 1) := by decide +kernel
theorem dX5_isText_22 : decode cX5_isText 22 = .ok (.invokevirtual 141, 3) := by decide +kernel
theorem dX5_isText_25 : decode cX5_isText 25 = .ok (.ifCond .ne 5, 3) := by decide +kernel
theorem dX5_isText_28 : decode cX5_isText 28 = .ok (.iconst 0, 1) := by decide +kernel
theorem dX5_isText_29 : decode cX5_isText 29 = .ok (.ireturn, 1) := by decide +kernel
theorem dX5_isText_30 : decode cX5_isText 30 = .ok (.aload_n 0, 1) := by decide +kernel
theorem dX5_isText_31 : decode cX5_isText 31 = .ok (.dup, 1) := by decide +kernel
theorem dX5_isText_32 : decode cX5_isText 32 = .ok (.getfield 138, 3) := by decide +kernel
theorem dX5_isText_35 : decode cX5_isText 35 = .ok (.iconst 1, 1) := by decide +kernel
theorem dX5_isText_36 : decode cX5_isText 36 = .ok (.iadd, 1) := by decide +kernel
theorem dX5_isText_37 : decode cX5_isText 37 = .ok (.putfield 138, 3) := by decide +kernel
theorem dX5_isText_40 : decode cX5_isText 40 = .ok (.aload_n 0, 1) := by decide +kernel
theorem dX5_isText_41 : decode cX5_isText 41 = .ok (.getfield 138, 3) := by decide +kernel
theorem dX5_isText_44 : decode cX5_isText 44 = .ok (.bipush 6, 2) := by decide +kernel
theorem dX5_isText_46 : decode cX5_isText 46 = .ok (.if_icmp .ge 18, 3) := by decide +kernel
theorem dX5_isText_49 : decode cX5_isText 49 = .ok (.aload_n 0, 1) := by decide +kernel
theorem dX5_isText_50 : decode cX5_isText 50 = .ok (.getfield 124, 3) := by decide +kernel
theorem dX5_isText_53 : decode cX5_isText 53 = .ok (.aload_n 0, 1) := by decide +kernel
theorem dX5_isText_54 : decode cX5_isText 54 = .ok (.getfield 121, 3) := by decide +kernel
theorem dX5_isText_57 : decode cX5_isText 57 = .ok (.if_icmp .ge 7, 3) := by decide +kernel
theorem dX5_isText_60 : decode cX5_isText 60 = .ok (.iconst 1, 1) := by decide +kernel
theorem dX5_isText_61 : decode cX5_isText 61 = .ok (.goto 4, 3) := by decide +kernel
theorem dX5_isText_64 : decode cX5_isText 64 = .ok (.iconst 0, 1) := by decide +kernel
theorem dX5_isText_65 : decode cX5_isText 65 = .ok (.istore_n 1, 1) := by decide +kernel
theorem dX5_isText_66 : decode cX5_isText 66 = .ok (.goto (-49), 3) := by decide +kernel
theorem dX5_isText_69 : decode cX5_isText 69 = .ok (.aload_n 0, 1) := by decide +kernel
theorem dX5_isText_70 : decode cX5_isText 70 = .ok (.aload_n 0, 1) := by decide +kernel
theorem dX5_isText_71 : decode cX5_isText 71 = .ok (.getfield 124, 3) := by decide +kernel
theorem dX5_isText_74 : decode cX5_isText 74 = .ok (.aload_n 0, 1) := by decide +kernel
theorem dX5_isText_75 : decode cX5_isText 75 = .ok (.getfield 121, 3) := by decide +kernel
theorem dX5_isText_78 : decode cX5_isText 78 = .ok (.if_icmp .ge 7, 3) := by decide +kernel
theorem dX5_isText_81 : decode cX5_isText 81 = .ok (.iconst 1, 1) := by decide +kernel
theorem dX5_isText_82 : decode cX5_isText 82 = .ok (.goto 4, 3) := by decide +kernel
theorem dX5_isText_85 : decode cX5_isText 85 = .ok (.iconst 0, 1) := by decide +kernel
theorem dX5_isText_86 : decode cX5_isText 86 = .ok (.putfield 127, 3) := by decide +kernel
theorem dX5_isText_89 : decode cX5_isText 89 = .ok (.aload_n 0, 1) := by decide +kernel
theorem dX5_isText_90 : decode cX5_isText 90 = .ok (.getfield 124, 3) := by decide +kernel
theorem dX5_isText_93 : decode cX5_isText 93 = .ok (.aload_n 0, 1) := by decide +kernel
theorem dX5_isText_94 : decode cX5_isText 94 = .ok (.getfield 121, 3) := by decide +kernel
theorem dX5_isText_97 : decode cX5_isText 97 = .ok (.if_icmp .ne 7, 3) := by decide +kernel
theorem dX5_isText_100 : decode cX5_isText 100 = .ok (.iconst 1, 1) := by decide +kernel
theorem dX5_isText_101 : decode cX5_isText 101 = .ok (.goto 4, 3) := by decide +kernel
theorem dX5_isText_104 : decode cX5_isText 104 = .ok (.iconst 0, 1) := by decide +kernel
theorem dX5_isText_105 : decode cX5_isText 105 = .ok (.ireturn, 1) := by decide +kernel
set_option maxRecDepth 20000 in
theorem ggX5_firstError_X5_isText : GoodIn wsX5_firstError wsX5_isText := goodIn_r _ [9, 3, 10, 2, 4, 11, 12, 13, 8, 14, 15, 16, 17, 18, 19, 20, 21, 22, 23, 24, 25, 26, 27, 28, 29, 30, 31, 32, 33, 34, 35, 36, 37, 38, 39, 40, 41, 42, 43] (by decide +kernel) (by decide +kernel)
set_option maxRecDepth 20000 in
theorem gX5_firstError_X5_isText : GoodIn wsX5_firstError (wsV RX5 144 RX5 yX5_isText wsX5_isText) := goodIn_app (goodIn_of _ (by decide +kernel)) ggX5_firstError_X5_isText
theorem dX5_firstError_0 : decode cX5_firstError 0 = .ok (.aload_n 0, 1) := by decide +kernel
theorem dX5_firstError_1 : decode cX5_firstError 1 = .ok (.iconst 0, 1) := by decide +kernel
theorem dX5_firstError_2 : decode cX5_firstError 2 = .ok (.putfield 37, 3) := by decide +kernel
theorem dX5_firstError_5 : decode cX5_firstError 5 = .ok (.aload_n 0, 1) := by decide +kernel
theorem dX5_firstError_6 : decode cX5_firstError 6 = .ok (.invokevirtual 144, 3) := by decide +kernel
theorem dX5_firstError_9 : decode cX5_firstError 9 = .ok (.istore_n 1, 1) := by decide +kernel
theorem dX5_firstError_10 : decode cX5_firstError 10 = .ok (.iload_n 1, 1) := by decide +kernel
theorem dX5_firstError_11 : decode cX5_firstError 11 = .ok (.ifCond .ne 17, 3) := by decide +kernel
theorem dX5_firstError_14 : decode cX5_firstError 14 = .ok (.aload_n 0, 1) := by decide +kernel
theorem dX5_firstError_15 : decode cX5_firstError 15 = .ok (.getfield 127, 3) := by decide +kernel
theorem dX5_firstError_18 : decode cX5_firstError 18 = .ok (.ifCond .eq 10, 3) := by decide +kernel
theorem dX5_firstError_21 : decode cX5_firstError 21 = .ok (.aload_n 0, 1) := by decide +kernel
theorem dX5_firstError_22 : decode cX5_firstError 22 = .ok (.getfield 124, 3) := by decide +kernel
theorem dX5_firstError_25 : decode cX5_firstError 25 = .ok (.goto 7, 3) := by decide +kernel
theorem dX5_firstError_28 : decode cX5_firstError 28 = .ok (.aload_n 0, 1) := by decide +kernel
theorem dX5_firstError_29 : decode cX5_firstError 29 = .ok (.getfield 121, 3) := by decide +kernel
theorem dX5_firstError_32 : decode cX5_firstError 32 = .ok (.ireturn, 1) := by decide +kernel
set_option maxRecDepth 20000 in
theorem ggX5_read_X5_isText : GoodIn wsX5_read wsX5_isText := goodIn_r _ [10, 11, 3, 12, 2, 13, 14, 15, 9, 16, 5, 17, 18, 19, 20, 21, 22, 23, 24, 25, 26, 27, 28, 43, 44, 45, 46, 47, 48, 49, 50, 51, 52, 53, 54, 55, 56, 57, 58] (by decide +kernel) (by decide +kernel)
set_option maxRecDepth 20000 in
theorem gX5_read_X5_isText : GoodIn wsX5_read (wsV RX5 144 RX5 yX5_isText wsX5_isText) := goodIn_app (goodIn_of _ (by decide +kernel)) ggX5_read_X5_isText
set_option maxRecDepth 20000 in
theorem ggX5_read_X5_fails : GoodIn wsX5_read wsX5_fails := goodIn_r _ [32, 1, 43, 44, 45, 46, 47, 48, 49, 50, 51, 52, 53, 54, 55, 56, 57, 58] (by decide +kernel) (by decide +kernel)
set_option maxRecDepth 20000 in
theorem gX5_read_X5_fails : GoodIn wsX5_read (wsV RX5 48 RX5 yX5_fails wsX5_fails) := goodIn_app (goodIn_of _ (by decide +kernel)) ggX5_read_X5_fails
set_option maxRecDepth 20000 in
theorem ggX5_read_X5_saves : GoodIn wsX5_read wsX5_saves := goodIn_r _ [36, 37, 38, 4, 43, 44, 45, 46, 47, 48, 49, 50, 51, 52, 53, 54, 55, 56, 57, 58] (by decide +kernel) (by decide +kernel)
set_option maxRecDepth 20000 in
theorem gX5_read_X5_saves : GoodIn wsX5_read (wsV RX5 94 RX5 yX5_saves wsX5_saves) := goodIn_app (goodIn_of _ (by decide +kernel)) ggX5_read_X5_saves
set_option maxRecDepth 20000 in
theorem ggX5_read_X5_noCredits : GoodIn wsX5_read wsX5_noCredits := goodIn_r _ [42, 4, 43, 44, 45, 46, 47, 48, 49, 50, 51, 52, 53, 54, 55, 56, 57, 58] (by decide +kernel) (by decide +kernel)
set_option maxRecDepth 20000 in
theorem gX5_read_X5_noCredits : GoodIn wsX5_read (wsV RX5 103 RX5 yX5_noCredits wsX5_noCredits) := goodIn_app (goodIn_of _ (by decide +kernel)) ggX5_read_X5_noCredits
theorem dX5_read_0 : decode cX5_read 0 = .ok (.aload_n 0, 1) := by decide +kernel
theorem dX5_read_1 : decode cX5_read 1 = .ok (.iconst 0, 1) := by decide +kernel
theorem dX5_read_2 : decode cX5_read 2 = .ok (.putfield 37, 3) := by decide +kernel
theorem dX5_read_5 : decode cX5_read 5 = .ok (.aload_n 0, 1) := by decide +kernel
theorem dX5_read_6 : decode cX5_read 6 = .ok (.invokevirtual 144, 3) := by decide +kernel
theorem dX5_read_9 : decode cX5_read 9 = .ok (.ifCond .ne 9, 3) := by decide +kernel
theorem dX5_read_12 : decode cX5_read 12 = .ok (.aload_n 0, 1) := by decide +kernel
theorem dX5_read_13 : decode cX5_read 13 = .ok (.iconst 1, 1) := by decide +kernel
theorem dX5_read_14 : decode cX5_read 14 = .ok (.invokevirtual 48, 3) := by decide +kernel
theorem dX5_read_17 : decode cX5_read 17 = .ok (.ireturn, 1) := by decide +kernel
theorem dX5_read_18 : decode cX5_read 18 = .ok (.aload_n 0, 1) := by decide +kernel
theorem dX5_read_19 : decode cX5_read 19 = .ok (.invokevirtual 94, 3) := by decide +kernel
theorem dX5_read_22 : decode cX5_read 22 = .ok (.aload_n 0, 1) := by decide +kernel
theorem dX5_read_23 : decode cX5_read 23 = .ok (.iconst 0, 1) := by decide +kernel
theorem dX5_read_24 : decode cX5_read 24 = .ok (.putfield 121, 3) := by decide +kernel
theorem dX5_read_27 : decode cX5_read 27 = .ok (.iconst 0, 1) := by decide +kernel
theorem dX5_read_28 : decode cX5_read 28 = .ok (.istore_n 1, 1) := by decide +kernel
theorem dX5_read_29 : decode cX5_read 29 = .ok (.iload_n 1, 1) := by decide +kernel
theorem dX5_read_30 : decode cX5_read 30 = .ok (.aload_n 0, 1) := by decide +kernel
theorem dX5_read_31 : decode cX5_read 31 = .ok (.getfield 138, 3) := by decide +kernel
theorem dX5_read_34 : decode cX5_read 34 = .ok (.if_icmp .ge 63, 3) := by decide +kernel
theorem dX5_read_37 : decode cX5_read 37 = .ok (.aload_n 0, 1) := by decide +kernel
theorem dX5_read_38 : decode cX5_read 38 = .ok (.getfield 13, 3) := by decide +kernel
theorem dX5_read_41 : decode cX5_read 41 = .ok (.bipush 8, 2) := by decide +kernel
theorem dX5_read_43 : decode cX5_read 43 = .ok (.iload_n 1, 1) := by decide +kernel
theorem dX5_read_44 : decode cX5_read 44 = .ok (.iadd, 1) := by decide +kernel
theorem dX5_read_45 : decode cX5_read 45 = .ok (.aload_n 0, 1) := by decide +kernel
theorem dX5_read_46 : decode cX5_read 46 = .ok (.getfield 25, 3) := by decide +kernel
theorem dX5_read_49 : decode cX5_read 49 = .ok (.iconst 2, 1) := by decide +kernel
theorem dX5_read_50 : decode cX5_read 50 = .ok (.iload_n 1, 1) := by decide +kernel
theorem dX5_read_51 : decode cX5_read 51 = .ok (.imul, 1) := by decide +kernel
theorem dX5_read_52 : decode cX5_read 52 = .ok (.iaload, 1) := by decide +kernel
theorem dX5_read_53 : decode cX5_read 53 = .ok (.iastore, 1) := by decide +kernel
theorem dX5_read_54 : decode cX5_read 54 = .ok (.aload_n 0, 1) := by decide +kernel
theorem dX5_read_55 : decode cX5_read 55 = .ok (.getfield 25, 3) := by decide +kernel
theorem dX5_read_58 : decode cX5_read 58 = .ok (.iconst 2, 1) := by decide +kernel
theorem dX5_read_59 : decode cX5_read 59 = .ok (.iload_n 1, 1) := by decide +kernel
theorem dX5_read_60 : decode cX5_read 60 = .ok (.imul, 1) := by decide +kernel
theorem dX5_read_61 : decode cX5_read 61 = .ok (.iconst 1, 1) := by decide +kernel
theorem dX5_read_62 : decode cX5_read 62 = .ok (.iadd, 1) := by decide +kernel
theorem dX5_read_63 : decode cX5_read 63 = .ok (.iaload, 1) := by decide +kernel
theorem dX5_read_64 : decode cX5_read 64 = .ok (.iconst (-1), 1) := by decide +kernel
theorem dX5_read_65 : decode cX5_read 65 = .ok (.if_icmp .eq 26, 3) := by decide +kernel
theorem dX5_read_68 : decode cX5_read 68 = .ok (.aload_n 0, 1) := by decide +kernel
theorem dX5_read_69 : decode cX5_read 69 = .ok (.getfield 13, 3) := by decide +kernel
theorem dX5_read_72 : decode cX5_read 72 = .ok (.bipush 14, 2) := by decide +kernel
theorem dX5_read_74 : decode cX5_read 74 = .ok (.iload_n 1, 1) := by decide +kernel
theorem dX5_read_75 : decode cX5_read 75 = .ok (.iadd, 1) := by decide +kernel
theorem dX5_read_76 : decode cX5_read 76 = .ok (.aload_n 0, 1) := by decide +kernel
theorem dX5_read_77 : decode cX5_read 77 = .ok (.getfield 25, 3) := by decide +kernel
theorem dX5_read_80 : decode cX5_read 80 = .ok (.iconst 2, 1) := by decide +kernel
theorem dX5_read_81 : decode cX5_read 81 = .ok (.iload_n 1, 1) := by decide +kernel
theorem dX5_read_82 : decode cX5_read 82 = .ok (.imul, 1) := by decide +kernel
theorem dX5_read_83 : decode cX5_read 83 = .ok (.iconst 1, 1) := by decide +kernel
theorem dX5_read_84 : decode cX5_read 84 = .ok (.iadd, 1) := by decide +kernel
theorem dX5_read_85 : decode cX5_read 85 = .ok (.iaload, 1) := by decide +kernel
theorem dX5_read_86 : decode cX5_read 86 = .ok (.iastore, 1) := by decide +kernel
theorem dX5_read_87 : decode cX5_read 87 = .ok (.aload_n 0, 1) := by decide +kernel
theorem dX5_read_88 : decode cX5_read 88 = .ok (.invokevirtual 103, 3) := by decide +kernel
theorem dX5_read_91 : decode cX5_read 91 = .ok (.iinc 1 1, 3) := by decide +kernel
theorem dX5_read_94 : decode cX5_read 94 = .ok (.goto (-65), 3) := by decide +kernel
theorem dX5_read_97 : decode cX5_read 97 = .ok (.aload_n 0, 1) := by decide +kernel
theorem dX5_read_98 : decode cX5_read 98 = .ok (.getfield 138, 3) := by decide +kernel
theorem dX5_read_101 : decode cX5_read 101 = .ok (.ireturn, 1) := by decide +kernel
set_option maxRecDepth 20000 in
theorem ggX5_ofDigit_X5_shownAs : GoodIn wsX5_ofDigit wsX5_shownAs := goodIn_r _ [6, 7, 1, 49, 50, 51, 52, 53, 54, 55, 56, 57, 58, 59, 60, 61, 62, 63, 64] (by decide +kernel) (by decide +kernel)
set_option maxRecDepth 20000 in
theorem gX5_ofDigit_X5_shownAs : GoodIn wsX5_ofDigit (wsV RX5 77 RX5 yX5_shownAs wsX5_shownAs) := goodIn_app (goodIn_of _ (by decide +kernel)) ggX5_ofDigit_X5_shownAs
set_option maxRecDepth 20000 in
theorem ggX5_ofDigit_X5_readable : GoodIn wsX5_ofDigit wsX5_readable := goodIn_r _ [11, 1, 2, 3, 4, 5, 6, 7, 49, 50, 51, 52, 53, 54, 55, 56, 57, 58, 59, 60, 61, 62, 63, 64] (by decide +kernel) (by decide +kernel)
set_option maxRecDepth 20000 in
theorem gX5_ofDigit_X5_readable : GoodIn wsX5_ofDigit (wsV RX5 81 RX5 yX5_readable wsX5_readable) := goodIn_app (goodIn_of _ (by decide +kernel)) ggX5_ofDigit_X5_readable
set_option maxRecDepth 20000 in
theorem ggX5_ofDigit_X5_frames : GoodIn wsX5_ofDigit wsX5_frames := goodIn_r _ [15, 16, 17, 18, 19, 20, 21, 5, 22, 23, 24, 25, 26, 27, 28, 49, 50, 51, 52, 53, 54, 55, 56, 57, 58, 59, 60, 61, 62, 63, 64] (by decide +kernel) (by decide +kernel)
set_option maxRecDepth 20000 in
theorem gX5_ofDigit_X5_frames : GoodIn wsX5_ofDigit (wsV RX5 147 RX5 yX5_frames wsX5_frames) := goodIn_app (goodIn_of _ (by decide +kernel)) ggX5_ofDigit_X5_frames
set_option maxRecDepth 20000 in
theorem ggX5_ofDigit_X5_light : GoodIn wsX5_ofDigit wsX5_light := goodIn_r _ [32, 16, 19, 49, 50, 51, 52, 53, 54, 55, 56, 57, 58, 59, 60, 61, 62, 63, 64] (by decide +kernel) (by decide +kernel)
set_option maxRecDepth 20000 in
theorem gX5_ofDigit_X5_light : GoodIn wsX5_ofDigit (wsV RX5 70 RX5 yX5_light wsX5_light) := goodIn_app (goodIn_of _ (by decide +kernel)) ggX5_ofDigit_X5_light
set_option maxRecDepth 20000 in
theorem ggX5_ofDigit_X5_gap : GoodIn wsX5_ofDigit wsX5_gap := goodIn_r _ [36, 16, 19, 49, 50, 51, 52, 53, 54, 55, 56, 57, 58, 59, 60, 61, 62, 63, 64] (by decide +kernel) (by decide +kernel)
set_option maxRecDepth 20000 in
theorem gX5_ofDigit_X5_gap : GoodIn wsX5_ofDigit (wsV RX5 67 RX5 yX5_gap wsX5_gap) := goodIn_app (goodIn_of _ (by decide +kernel)) ggX5_ofDigit_X5_gap
set_option maxRecDepth 20000 in
theorem ggX5_ofDigit_X5_flickers : GoodIn wsX5_ofDigit wsX5_flickers := goodIn_r _ [40, 16, 33, 34, 35, 5, 36, 19, 49, 50, 51, 52, 53, 54, 55, 56, 57, 58, 59, 60, 61, 62, 63, 64] (by decide +kernel) (by decide +kernel)
set_option maxRecDepth 20000 in
theorem gX5_ofDigit_X5_flickers : GoodIn wsX5_ofDigit (wsV RX5 73 RX5 yX5_flickers wsX5_flickers) := goodIn_app (goodIn_of _ (by decide +kernel)) ggX5_ofDigit_X5_flickers
set_option maxRecDepth 20000 in
theorem ggX5_ofDigit_X5_isSeen : GoodIn wsX5_ofDigit wsX5_isSeen := goodIn_r _ [44, 29, 30, 31, 5, 32, 16, 19, 37, 38, 39, 40, 33, 34, 35, 36, 49, 50, 51, 52, 53, 54, 55, 56, 57, 58, 59, 60, 61, 62, 63, 64] (by decide +kernel) (by decide +kernel)
set_option maxRecDepth 20000 in
theorem gX5_ofDigit_X5_isSeen : GoodIn wsX5_ofDigit (wsV RX5 84 RX5 yX5_isSeen wsX5_isSeen) := goodIn_app (goodIn_of _ (by decide +kernel)) ggX5_ofDigit_X5_isSeen
set_option maxRecDepth 20000 in
theorem ggX5_ofDigit_X5_isClear : GoodIn wsX5_ofDigit wsX5_isClear := goodIn_r _ [48, 1, 8, 9, 10, 5, 11, 2, 3, 4, 6, 7, 41, 42, 43, 44, 29, 30, 31, 32, 16, 19, 37, 38, 39, 40, 33, 34, 35, 36, 49, 50, 51, 52, 53, 54, 55, 56, 57, 58, 59, 60, 61, 62, 63, 64] (by decide +kernel) (by decide +kernel)
set_option maxRecDepth 20000 in
theorem gX5_ofDigit_X5_isClear : GoodIn wsX5_ofDigit (wsV RX5 151 RX5 yX5_isClear wsX5_isClear) := goodIn_app (goodIn_of _ (by decide +kernel)) ggX5_ofDigit_X5_isClear
theorem dX5_ofDigit_0 : decode cX5_ofDigit 0 = .ok (.iload_n 2, 1) := by decide +kernel
theorem dX5_ofDigit_1 : decode cX5_ofDigit 1 = .ok (.iconst 5, 1) := by decide +kernel
theorem dX5_ofDigit_2 : decode cX5_ofDigit 2 = .ok (.if_icmp .ge 57, 3) := by decide +kernel
theorem dX5_ofDigit_5 : decode cX5_ofDigit 5 = .ok (.iload_n 2, 1) := by decide +kernel
theorem dX5_ofDigit_6 : decode cX5_ofDigit 6 = .ok (.iconst 3, 1) := by decide +kernel
theorem dX5_ofDigit_7 : decode cX5_ofDigit 7 = .ok (.if_icmp .ge 20, 3) := by decide +kernel
theorem dX5_ofDigit_10 : decode cX5_ofDigit 10 = .ok (.aload_n 0, 1) := by decide +kernel
theorem dX5_ofDigit_11 : decode cX5_ofDigit 11 = .ok (.getfield 13, 3) := by decide +kernel
theorem dX5_ofDigit_14 : decode cX5_ofDigit 14 = .ok (.bipush 8, 2) := by decide +kernel
theorem dX5_ofDigit_16 : decode cX5_ofDigit 16 = .ok (.bipush 6, 2) := by decide +kernel
theorem dX5_ofDigit_18 : decode cX5_ofDigit 18 = .ok (.iload_n 2, 1) := by decide +kernel
theorem dX5_ofDigit_19 : decode cX5_ofDigit 19 = .ok (.imul, 1) := by decide +kernel
theorem dX5_ofDigit_20 : decode cX5_ofDigit 20 = .ok (.iadd, 1) := by decide +kernel
theorem dX5_ofDigit_21 : decode cX5_ofDigit 21 = .ok (.iload_n 1, 1) := by decide +kernel
theorem dX5_ofDigit_22 : decode cX5_ofDigit 22 = .ok (.iadd, 1) := by decide +kernel
theorem dX5_ofDigit_23 : decode cX5_ofDigit 23 = .ok (.iaload, 1) := by decide +kernel
theorem dX5_ofDigit_24 : decode cX5_ofDigit 24 = .ok (.goto 34, 3) := by decide +kernel
theorem dX5_ofDigit_27 : decode cX5_ofDigit 27 = .ok (.iload_n 2, 1) := by decide +kernel
theorem dX5_ofDigit_28 : decode cX5_ofDigit 28 = .ok (.iconst 3, 1) := by decide +kernel
theorem dX5_ofDigit_29 : decode cX5_ofDigit 29 = .ok (.if_icmp .ne 20, 3) := by decide +kernel
theorem dX5_ofDigit_32 : decode cX5_ofDigit 32 = .ok (.aload_n 0, 1) := by decide +kernel
theorem dX5_ofDigit_33 : decode cX5_ofDigit 33 = .ok (.iload_n 1, 1) := by decide +kernel
theorem dX5_ofDigit_34 : decode cX5_ofDigit 34 = .ok (.aload_n 0, 1) := by decide +kernel
theorem dX5_ofDigit_35 : decode cX5_ofDigit 35 = .ok (.getfield 13, 3) := by decide +kernel
theorem dX5_ofDigit_38 : decode cX5_ofDigit 38 = .ok (.bipush 8, 2) := by decide +kernel
theorem dX5_ofDigit_40 : decode cX5_ofDigit 40 = .ok (.iload_n 1, 1) := by decide +kernel
theorem dX5_ofDigit_41 : decode cX5_ofDigit 41 = .ok (.iadd, 1) := by decide +kernel
theorem dX5_ofDigit_42 : decode cX5_ofDigit 42 = .ok (.iaload, 1) := by decide +kernel
theorem dX5_ofDigit_43 : decode cX5_ofDigit 43 = .ok (.invokevirtual 77, 3) := by decide +kernel
theorem dX5_ofDigit_46 : decode cX5_ofDigit 46 = .ok (.goto 12, 3) := by decide +kernel
theorem dX5_ofDigit_49 : decode cX5_ofDigit 49 = .ok (.aload_n 0, 1) := by decide +kernel
theorem dX5_ofDigit_50 : decode cX5_ofDigit 50 = .ok (.getfield 13, 3) := by decide +kernel
theorem dX5_ofDigit_53 : decode cX5_ofDigit 53 = .ok (.bipush 26, 2) := by decide +kernel
theorem dX5_ofDigit_55 : decode cX5_ofDigit 55 = .ok (.iload_n 1, 1) := by decide +kernel
theorem dX5_ofDigit_56 : decode cX5_ofDigit 56 = .ok (.iadd, 1) := by decide +kernel
theorem dX5_ofDigit_57 : decode cX5_ofDigit 57 = .ok (.iaload, 1) := by decide +kernel
theorem dX5_ofDigit_58 : decode cX5_ofDigit 58 = .ok (.ireturn, 1) := by decide +kernel
theorem dX5_ofDigit_59 : decode cX5_ofDigit 59 = .ok (.iload_n 2, 1) := by decide +kernel
theorem dX5_ofDigit_60 : decode cX5_ofDigit 60 = .ok (.bipush 9, 2) := by decide +kernel
theorem dX5_ofDigit_62 : decode cX5_ofDigit 62 = .ok (.if_icmp .le 27, 3) := by decide +kernel
theorem dX5_ofDigit_65 : decode cX5_ofDigit 65 = .ok (.iload_n 2, 1) := by decide +kernel
theorem dX5_ofDigit_66 : decode cX5_ofDigit 66 = .ok (.bipush 10, 2) := by decide +kernel
theorem dX5_ofDigit_68 : decode cX5_ofDigit 68 = .ok (.if_icmp .ne 11, 3) := by decide +kernel
theorem dX5_ofDigit_71 : decode cX5_ofDigit 71 = .ok (.aload_n 0, 1) := by decide +kernel
theorem dX5_ofDigit_72 : decode cX5_ofDigit 72 = .ok (.iload_n 1, 1) := by decide +kernel
theorem dX5_ofDigit_73 : decode cX5_ofDigit 73 = .ok (.invokevirtual 81, 3) := by decide +kernel
theorem dX5_ofDigit_76 : decode cX5_ofDigit 76 = .ok (.goto 12, 3) := by decide +kernel
theorem dX5_ofDigit_79 : decode cX5_ofDigit 79 = .ok (.aload_n 0, 1) := by decide +kernel
theorem dX5_ofDigit_80 : decode cX5_ofDigit 80 = .ok (.getfield 13, 3) := by decide +kernel
theorem dX5_ofDigit_83 : decode cX5_ofDigit 83 = .ok (.bipush 32, 2) := by decide +kernel
theorem dX5_ofDigit_85 : decode cX5_ofDigit 85 = .ok (.iload_n 1, 1) := by decide +kernel
theorem dX5_ofDigit_86 : decode cX5_ofDigit 86 = .ok (.iadd, 1) := by decide +kernel
theorem dX5_ofDigit_87 : decode cX5_ofDigit 87 = .ok (.iaload, 1) := by decide +kernel
theorem dX5_ofDigit_88 : decode cX5_ofDigit 88 = .ok (.ireturn, 1) := by decide +kernel
theorem dX5_ofDigit_89 : decode cX5_ofDigit 89 = .ok (.aload_n 0, 1) := by decide +kernel
theorem dX5_ofDigit_90 : decode cX5_ofDigit 90 = .ok (.aload_n 0, 1) := by decide +kernel
theorem dX5_ofDigit_91 : decode cX5_ofDigit 91 = .ok (.getfield 13, 3) := by decide +kernel
theorem dX5_ofDigit_94 : decode cX5_ofDigit 94 = .ok (.invokevirtual 147, 3) := by decide +kernel
theorem dX5_ofDigit_97 : decode cX5_ofDigit 97 = .ok (.iload_n 2, 1) := by decide +kernel
theorem dX5_ofDigit_98 : decode cX5_ofDigit 98 = .ok (.bipush 7, 2) := by decide +kernel
theorem dX5_ofDigit_100 : decode cX5_ofDigit 100 = .ok (.if_icmp .ge 22, 3) := by decide +kernel
theorem dX5_ofDigit_103 : decode cX5_ofDigit 103 = .ok (.iload_n 2, 1) := by decide +kernel
theorem dX5_ofDigit_104 : decode cX5_ofDigit 104 = .ok (.iconst 5, 1) := by decide +kernel
theorem dX5_ofDigit_105 : decode cX5_ofDigit 105 = .ok (.if_icmp .ne 11, 3) := by decide +kernel
theorem dX5_ofDigit_108 : decode cX5_ofDigit 108 = .ok (.aload_n 0, 1) := by decide +kernel
theorem dX5_ofDigit_109 : decode cX5_ofDigit 109 = .ok (.iload_n 1, 1) := by decide +kernel
theorem dX5_ofDigit_110 : decode cX5_ofDigit 110 = .ok (.invokevirtual 70, 3) := by decide +kernel
theorem dX5_ofDigit_113 : decode cX5_ofDigit 113 = .ok (.goto 8, 3) := by decide +kernel
theorem dX5_ofDigit_116 : decode cX5_ofDigit 116 = .ok (.aload_n 0, 1) := by decide +kernel
theorem dX5_ofDigit_117 : decode cX5_ofDigit 117 = .ok (.iload_n 1, 1) := by decide +kernel
theorem dX5_ofDigit_118 : decode cX5_ofDigit 118 = .ok (.invokevirtual 67, 3) := by decide +kernel
theorem dX5_ofDigit_121 : decode cX5_ofDigit 121 = .ok (.ireturn, 1) := by decide +kernel
theorem dX5_ofDigit_122 : decode cX5_ofDigit 122 = .ok (.iload_n 2, 1) := by decide +kernel
theorem dX5_ofDigit_123 : decode cX5_ofDigit 123 = .ok (.bipush 7, 2) := by decide +kernel
theorem dX5_ofDigit_125 : decode cX5_ofDigit 125 = .ok (.if_icmp .ne 18, 3) := by decide +kernel
theorem dX5_ofDigit_128 : decode cX5_ofDigit 128 = .ok (.aload_n 0, 1) := by decide +kernel
theorem dX5_ofDigit_129 : decode cX5_ofDigit 129 = .ok (.aload_n 0, 1) := by decide +kernel
theorem dX5_ofDigit_130 : decode cX5_ofDigit 130 = .ok (.getfield 13, 3) := by decide +kernel
theorem dX5_ofDigit_133 : decode cX5_ofDigit 133 = .ok (.iload_n 1, 1) := by decide +kernel
theorem dX5_ofDigit_134 : decode cX5_ofDigit 134 = .ok (.invokevirtual 73, 3) := by decide +kernel
theorem dX5_ofDigit_137 : decode cX5_ofDigit 137 = .ok (.ifCond .eq 39, 3) := by decide +kernel
theorem dX5_ofDigit_140 : decode cX5_ofDigit 140 = .ok (.goto 32, 3) := by decide +kernel
theorem dX5_ofDigit_143 : decode cX5_ofDigit 143 = .ok (.iload_n 2, 1) := by decide +kernel
theorem dX5_ofDigit_144 : decode cX5_ofDigit 144 = .ok (.bipush 8, 2) := by decide +kernel
theorem dX5_ofDigit_146 : decode cX5_ofDigit 146 = .ok (.if_icmp .ne 18, 3) := by decide +kernel
theorem dX5_ofDigit_149 : decode cX5_ofDigit 149 = .ok (.aload_n 0, 1) := by decide +kernel
theorem dX5_ofDigit_150 : decode cX5_ofDigit 150 = .ok (.aload_n 0, 1) := by decide +kernel
theorem dX5_ofDigit_151 : decode cX5_ofDigit 151 = .ok (.getfield 13, 3) := by decide +kernel
theorem dX5_ofDigit_154 : decode cX5_ofDigit 154 = .ok (.iload_n 1, 1) := by decide +kernel
theorem dX5_ofDigit_155 : decode cX5_ofDigit 155 = .ok (.invokevirtual 84, 3) := by decide +kernel
theorem dX5_ofDigit_158 : decode cX5_ofDigit 158 = .ok (.ifCond .eq 18, 3) := by decide +kernel
theorem dX5_ofDigit_161 : decode cX5_ofDigit 161 = .ok (.goto 11, 3) := by decide +kernel
theorem dX5_ofDigit_164 : decode cX5_ofDigit 164 = .ok (.aload_n 0, 1) := by decide +kernel
theorem dX5_ofDigit_165 : decode cX5_ofDigit 165 = .ok (.iload_n 1, 1) := by decide +kernel
theorem dX5_ofDigit_166 : decode cX5_ofDigit 166 = .ok (.invokevirtual 151, 3) := by decide +kernel
theorem dX5_ofDigit_169 : decode cX5_ofDigit 169 = .ok (.ifCond .eq 7, 3) := by decide +kernel
theorem dX5_ofDigit_172 : decode cX5_ofDigit 172 = .ok (.iconst 1, 1) := by decide +kernel
theorem dX5_ofDigit_173 : decode cX5_ofDigit 173 = .ok (.goto 4, 3) := by decide +kernel
theorem dX5_ofDigit_176 : decode cX5_ofDigit 176 = .ok (.iconst 0, 1) := by decide +kernel
theorem dX5_ofDigit_177 : decode cX5_ofDigit 177 = .ok (.ireturn, 1) := by decide +kernel
set_option maxRecDepth 20000 in
theorem ggX5_digit_X5_isDigit : GoodIn wsX5_digit wsX5_isDigit := goodIn_r _ [5, 6, 7, 4, 8] (by decide +kernel) (by decide +kernel)
set_option maxRecDepth 20000 in
theorem gX5_digit_X5_isDigit : GoodIn wsX5_digit (va_wsS RX5 87 yX5_isDigit wsX5_isDigit) := goodIn_app (goodIn_of _ (by decide +kernel)) ggX5_digit_X5_isDigit
set_option maxRecDepth 20000 in
theorem ggX5_digit_X5_fails : GoodIn wsX5_digit wsX5_fails := goodIn_r _ [12, 1, 64, 65, 66, 67, 68, 69, 70, 71, 72, 73, 74, 75, 76, 77, 78, 79] (by decide +kernel) (by decide +kernel)
set_option maxRecDepth 20000 in
theorem gX5_digit_X5_fails : GoodIn wsX5_digit (wsV RX5 48 RX5 yX5_fails wsX5_fails) := goodIn_app (goodIn_of _ (by decide +kernel)) ggX5_digit_X5_fails
set_option maxRecDepth 20000 in
theorem ggX5_digit_X5_in : GoodIn wsX5_digit wsX5_in := goodIn_r _ [8] (by decide +kernel) (by decide +kernel)
set_option maxRecDepth 20000 in
theorem gX5_digit_X5_in : GoodIn wsX5_digit (va_wsS RX5 41 yX5_in wsX5_in) := goodIn_app (goodIn_of _ (by decide +kernel)) ggX5_digit_X5_in
set_option maxRecDepth 20000 in
theorem ggX5_digit_X5_ofDigit : GoodIn wsX5_digit wsX5_ofDigit := goodIn_r _ [16, 17, 18, 19, 20, 4, 21, 22, 23, 24, 25, 26, 27, 28, 29, 30, 31, 32, 33, 34, 35, 36, 37, 38, 39, 40, 41, 42, 43, 44, 45, 46, 47, 48, 49, 50, 51, 52, 53, 54, 55, 56, 57, 58, 59, 60, 61, 62, 63, 64, 65, 66, 67, 68, 69, 70, 71, 72, 73, 74, 75, 76, 77, 78, 79] (by decide +kernel) (by decide +kernel)
set_option maxRecDepth 20000 in
theorem gX5_digit_X5_ofDigit : GoodIn wsX5_digit (wsV RX5 154 RX5 yX5_ofDigit wsX5_ofDigit) := goodIn_app (goodIn_of _ (by decide +kernel)) ggX5_digit_X5_ofDigit
theorem dX5_digit_0 : decode cX5_digit 0 = .ok (.aload_n 0, 1) := by decide +kernel
theorem dX5_digit_1 : decode cX5_digit 1 = .ok (.iconst 0, 1) := by decide +kernel
theorem dX5_digit_2 : decode cX5_digit 2 = .ok (.putfield 37, 3) := by decide +kernel
theorem dX5_digit_5 : decode cX5_digit 5 = .ok (.iload_n 1, 1) := by decide +kernel
theorem dX5_digit_6 : decode cX5_digit 6 = .ok (.invokestatic 87, 3) := by decide +kernel
theorem dX5_digit_9 : decode cX5_digit 9 = .ok (.ifCond .ne 9, 3) := by decide +kernel
theorem dX5_digit_12 : decode cX5_digit 12 = .ok (.aload_n 0, 1) := by decide +kernel
theorem dX5_digit_13 : decode cX5_digit 13 = .ok (.iconst 1, 1) := by decide +kernel
theorem dX5_digit_14 : decode cX5_digit 14 = .ok (.invokevirtual 48, 3) := by decide +kernel
theorem dX5_digit_17 : decode cX5_digit 17 = .ok (.ireturn, 1) := by decide +kernel
theorem dX5_digit_18 : decode cX5_digit 18 = .ok (.iload_n 2, 1) := by decide +kernel
theorem dX5_digit_19 : decode cX5_digit 19 = .ok (.iconst 0, 1) := by decide +kernel
theorem dX5_digit_20 : decode cX5_digit 20 = .ok (.bipush 11, 2) := by decide +kernel
theorem dX5_digit_22 : decode cX5_digit 22 = .ok (.invokestatic 41, 3) := by decide +kernel
theorem dX5_digit_25 : decode cX5_digit 25 = .ok (.ifCond .eq 12, 3) := by decide +kernel
theorem dX5_digit_28 : decode cX5_digit 28 = .ok (.aload_n 0, 1) := by decide +kernel
theorem dX5_digit_29 : decode cX5_digit 29 = .ok (.iload_n 1, 1) := by decide +kernel
theorem dX5_digit_30 : decode cX5_digit 30 = .ok (.iload_n 2, 1) := by decide +kernel
theorem dX5_digit_31 : decode cX5_digit 31 = .ok (.invokevirtual 154, 3) := by decide +kernel
theorem dX5_digit_34 : decode cX5_digit 34 = .ok (.goto 8, 3) := by decide +kernel
theorem dX5_digit_37 : decode cX5_digit 37 = .ok (.aload_n 0, 1) := by decide +kernel
theorem dX5_digit_38 : decode cX5_digit 38 = .ok (.iconst 2, 1) := by decide +kernel
theorem dX5_digit_39 : decode cX5_digit 39 = .ok (.invokevirtual 48, 3) := by decide +kernel
theorem dX5_digit_42 : decode cX5_digit 42 = .ok (.ireturn, 1) := by decide +kernel
set_option maxRecDepth 20000 in
theorem ggX5_wear_X5_isDigit : GoodIn wsX5_wear wsX5_isDigit := goodIn_r _ [6, 7, 8, 5, 9] (by decide +kernel) (by decide +kernel)
set_option maxRecDepth 20000 in
theorem gX5_wear_X5_isDigit : GoodIn wsX5_wear (va_wsS RX5 87 yX5_isDigit wsX5_isDigit) := goodIn_app (goodIn_of _ (by decide +kernel)) ggX5_wear_X5_isDigit
set_option maxRecDepth 20000 in
theorem ggX5_wear_X5_isSegment : GoodIn wsX5_wear wsX5_isSegment := goodIn_r _ [12, 7, 8, 5, 9] (by decide +kernel) (by decide +kernel)
set_option maxRecDepth 20000 in
theorem gX5_wear_X5_isSegment : GoodIn wsX5_wear (va_wsS RX5 106 yX5_isSegment wsX5_isSegment) := goodIn_app (goodIn_of _ (by decide +kernel)) ggX5_wear_X5_isSegment
set_option maxRecDepth 20000 in
theorem ggX5_wear_X5_fails : GoodIn wsX5_wear wsX5_fails := goodIn_r _ [16, 1, 17, 18, 19, 20, 21, 22, 23, 24, 25, 26, 27, 28, 29, 30, 31, 32] (by decide +kernel) (by decide +kernel)
set_option maxRecDepth 20000 in
theorem gX5_wear_X5_fails : GoodIn wsX5_wear (wsV RX5 48 RX5 yX5_fails wsX5_fails) := goodIn_app (goodIn_of _ (by decide +kernel)) ggX5_wear_X5_fails
theorem dX5_wear_0 : decode cX5_wear 0 = .ok (.aload_n 0, 1) := by decide +kernel
theorem dX5_wear_1 : decode cX5_wear 1 = .ok (.iconst 0, 1) := by decide +kernel
theorem dX5_wear_2 : decode cX5_wear 2 = .ok (.putfield 37, 3) := by decide +kernel
theorem dX5_wear_5 : decode cX5_wear 5 = .ok (.iload_n 1, 1) := by decide +kernel
theorem dX5_wear_6 : decode cX5_wear 6 = .ok (.invokestatic 87, 3) := by decide +kernel
theorem dX5_wear_9 : decode cX5_wear 9 = .ok (.ifCond .eq 27, 3) := by decide +kernel
theorem dX5_wear_12 : decode cX5_wear 12 = .ok (.iload_n 2, 1) := by decide +kernel
theorem dX5_wear_13 : decode cX5_wear 13 = .ok (.invokestatic 106, 3) := by decide +kernel
theorem dX5_wear_16 : decode cX5_wear 16 = .ok (.ifCond .eq 20, 3) := by decide +kernel
theorem dX5_wear_19 : decode cX5_wear 19 = .ok (.aload_n 0, 1) := by decide +kernel
theorem dX5_wear_20 : decode cX5_wear 20 = .ok (.getfield 13, 3) := by decide +kernel
theorem dX5_wear_23 : decode cX5_wear 23 = .ok (.bipush 38, 2) := by decide +kernel
theorem dX5_wear_25 : decode cX5_wear 25 = .ok (.bipush 7, 2) := by decide +kernel
theorem dX5_wear_27 : decode cX5_wear 27 = .ok (.iload_n 1, 1) := by decide +kernel
theorem dX5_wear_28 : decode cX5_wear 28 = .ok (.imul, 1) := by decide +kernel
theorem dX5_wear_29 : decode cX5_wear 29 = .ok (.iadd, 1) := by decide +kernel
theorem dX5_wear_30 : decode cX5_wear 30 = .ok (.iload_n 2, 1) := by decide +kernel
theorem dX5_wear_31 : decode cX5_wear 31 = .ok (.iadd, 1) := by decide +kernel
theorem dX5_wear_32 : decode cX5_wear 32 = .ok (.iaload, 1) := by decide +kernel
theorem dX5_wear_33 : decode cX5_wear 33 = .ok (.goto 8, 3) := by decide +kernel
theorem dX5_wear_36 : decode cX5_wear 36 = .ok (.aload_n 0, 1) := by decide +kernel
theorem dX5_wear_37 : decode cX5_wear 37 = .ok (.iconst 1, 1) := by decide +kernel
theorem dX5_wear_38 : decode cX5_wear 38 = .ok (.invokevirtual 48, 3) := by decide +kernel
theorem dX5_wear_41 : decode cX5_wear 41 = .ok (.ireturn, 1) := by decide +kernel
set_option maxRecDepth 20000 in
theorem ggX5_slot_X5_in : GoodIn wsX5_slot wsX5_in := goodIn_r _ [8] (by decide +kernel) (by decide +kernel)
set_option maxRecDepth 20000 in
theorem gX5_slot_X5_in : GoodIn wsX5_slot (va_wsS RX5 41 yX5_in wsX5_in) := goodIn_app (goodIn_of _ (by decide +kernel)) ggX5_slot_X5_in
set_option maxRecDepth 20000 in
theorem ggX5_slot_X5_fails : GoodIn wsX5_slot wsX5_fails := goodIn_r _ [12, 1, 28, 29, 30, 31, 32, 33, 34, 35, 36, 37, 38, 39, 40, 41, 42, 43] (by decide +kernel) (by decide +kernel)
set_option maxRecDepth 20000 in
theorem gX5_slot_X5_fails : GoodIn wsX5_slot (wsV RX5 48 RX5 yX5_fails wsX5_fails) := goodIn_app (goodIn_of _ (by decide +kernel)) ggX5_slot_X5_fails
set_option maxRecDepth 20000 in
theorem ggX5_slot_X5_frames : GoodIn wsX5_slot wsX5_frames := goodIn_r _ [16, 17, 18, 4, 3, 19, 20, 7, 21, 22, 23, 24, 25, 26, 27, 28, 29, 30, 31, 32, 33, 34, 35, 36, 37, 38, 39, 40, 41, 42, 43] (by decide +kernel) (by decide +kernel)
set_option maxRecDepth 20000 in
theorem gX5_slot_X5_frames : GoodIn wsX5_slot (wsV RX5 147 RX5 yX5_frames wsX5_frames) := goodIn_app (goodIn_of _ (by decide +kernel)) ggX5_slot_X5_frames
theorem dX5_slot_0 : decode cX5_slot 0 = .ok (.aload_n 0, 1) := by decide +kernel
theorem dX5_slot_1 : decode cX5_slot 1 = .ok (.iconst 0, 1) := by decide +kernel
theorem dX5_slot_2 : decode cX5_slot 2 = .ok (.putfield 37, 3) := by decide +kernel
theorem dX5_slot_5 : decode cX5_slot 5 = .ok (.iload_n 1, 1) := by decide +kernel
theorem dX5_slot_6 : decode cX5_slot 6 = .ok (.iconst 0, 1) := by decide +kernel
theorem dX5_slot_7 : decode cX5_slot 7 = .ok (.aload_n 0, 1) := by decide +kernel
theorem dX5_slot_8 : decode cX5_slot 8 = .ok (.getfield 13, 3) := by decide +kernel
theorem dX5_slot_11 : decode cX5_slot 11 = .ok (.iconst 2, 1) := by decide +kernel
theorem dX5_slot_12 : decode cX5_slot 12 = .ok (.iaload, 1) := by decide +kernel
theorem dX5_slot_13 : decode cX5_slot 13 = .ok (.iconst 1, 1) := by decide +kernel
theorem dX5_slot_14 : decode cX5_slot 14 = .ok (.isub, 1) := by decide +kernel
theorem dX5_slot_15 : decode cX5_slot 15 = .ok (.invokestatic 41, 3) := by decide +kernel
theorem dX5_slot_18 : decode cX5_slot 18 = .ok (.ifCond .ne 9, 3) := by decide +kernel
theorem dX5_slot_21 : decode cX5_slot 21 = .ok (.aload_n 0, 1) := by decide +kernel
theorem dX5_slot_22 : decode cX5_slot 22 = .ok (.iconst 1, 1) := by decide +kernel
theorem dX5_slot_23 : decode cX5_slot 23 = .ok (.invokevirtual 48, 3) := by decide +kernel
theorem dX5_slot_26 : decode cX5_slot 26 = .ok (.ireturn, 1) := by decide +kernel
theorem dX5_slot_27 : decode cX5_slot 27 = .ok (.aload_n 0, 1) := by decide +kernel
theorem dX5_slot_28 : decode cX5_slot 28 = .ok (.aload_n 0, 1) := by decide +kernel
theorem dX5_slot_29 : decode cX5_slot 29 = .ok (.getfield 13, 3) := by decide +kernel
theorem dX5_slot_32 : decode cX5_slot 32 = .ok (.invokevirtual 147, 3) := by decide +kernel
theorem dX5_slot_35 : decode cX5_slot 35 = .ok (.iload_n 2, 1) := by decide +kernel
theorem dX5_slot_36 : decode cX5_slot 36 = .ok (.ifCond .eq 12, 3) := by decide +kernel
theorem dX5_slot_39 : decode cX5_slot 39 = .ok (.aload_n 0, 1) := by decide +kernel
theorem dX5_slot_40 : decode cX5_slot 40 = .ok (.getfield 31, 3) := by decide +kernel
theorem dX5_slot_43 : decode cX5_slot 43 = .ok (.iload_n 1, 1) := by decide +kernel
theorem dX5_slot_44 : decode cX5_slot 44 = .ok (.iaload, 1) := by decide +kernel
theorem dX5_slot_45 : decode cX5_slot 45 = .ok (.goto 9, 3) := by decide +kernel
theorem dX5_slot_48 : decode cX5_slot 48 = .ok (.aload_n 0, 1) := by decide +kernel
theorem dX5_slot_49 : decode cX5_slot 49 = .ok (.getfield 28, 3) := by decide +kernel
theorem dX5_slot_52 : decode cX5_slot 52 = .ok (.iload_n 1, 1) := by decide +kernel
theorem dX5_slot_53 : decode cX5_slot 53 = .ok (.iaload, 1) := by decide +kernel
theorem dX5_slot_54 : decode cX5_slot 54 = .ok (.ireturn, 1) := by decide +kernel
theorem dX5_inFrame_0 : decode cX5_inFrame 0 = .ok (.iconst 0, 1) := by decide +kernel
theorem dX5_inFrame_1 : decode cX5_inFrame 1 = .ok (.istore_n 2, 1) := by decide +kernel
theorem dX5_inFrame_2 : decode cX5_inFrame 2 = .ok (.iconst 0, 1) := by decide +kernel
theorem dX5_inFrame_3 : decode cX5_inFrame 3 = .ok (.istore_n 3, 1) := by decide +kernel
theorem dX5_inFrame_4 : decode cX5_inFrame 4 = .ok (.iload_n 3, 1) := by decide +kernel
theorem dX5_inFrame_5 : decode cX5_inFrame 5 = .ok (.aload_n 0, 1) := by decide +kernel
theorem dX5_inFrame_6 : decode cX5_inFrame 6 = .ok (.getfield 56, 3) := by decide +kernel
theorem dX5_inFrame_9 : decode cX5_inFrame 9 = .ok (.if_icmp .ge 55, 3) := by decide +kernel
theorem dX5_inFrame_12 : decode cX5_inFrame 12 = .ok (.iload_n 2, 1) := by decide +kernel
theorem dX5_inFrame_13 : decode cX5_inFrame 13 = .ok (.iload_n 1, 1) := by decide +kernel
theorem dX5_inFrame_14 : decode cX5_inFrame 14 = .ok (.ifCond .eq 16, 3) := by decide +kernel
theorem dX5_inFrame_17 : decode cX5_inFrame 17 = .ok (.aload_n 0, 1) := by decide +kernel
theorem dX5_inFrame_18 : decode cX5_inFrame 18 = .ok (.getfield 31, 3) := by decide +kernel
theorem dX5_inFrame_21 : decode cX5_inFrame 21 = .ok (.iload_n 3, 1) := by decide +kernel
theorem dX5_inFrame_22 : decode cX5_inFrame 22 = .ok (.iaload, 1) := by decide +kernel
theorem dX5_inFrame_23 : decode cX5_inFrame 23 = .ok (.iconst (-1), 1) := by decide +kernel
theorem dX5_inFrame_24 : decode cX5_inFrame 24 = .ok (.if_icmp .ne 31, 3) := by decide +kernel
theorem dX5_inFrame_27 : decode cX5_inFrame 27 = .ok (.goto 24, 3) := by decide +kernel
theorem dX5_inFrame_30 : decode cX5_inFrame 30 = .ok (.iload_n 3, 1) := by decide +kernel
theorem dX5_inFrame_31 : decode cX5_inFrame 31 = .ok (.ifCond .le 24, 3) := by decide +kernel
theorem dX5_inFrame_34 : decode cX5_inFrame 34 = .ok (.aload_n 0, 1) := by decide +kernel
theorem dX5_inFrame_35 : decode cX5_inFrame 35 = .ok (.getfield 28, 3) := by decide +kernel
theorem dX5_inFrame_38 : decode cX5_inFrame 38 = .ok (.iload_n 3, 1) := by decide +kernel
theorem dX5_inFrame_39 : decode cX5_inFrame 39 = .ok (.iaload, 1) := by decide +kernel
theorem dX5_inFrame_40 : decode cX5_inFrame 40 = .ok (.aload_n 0, 1) := by decide +kernel
theorem dX5_inFrame_41 : decode cX5_inFrame 41 = .ok (.getfield 28, 3) := by decide +kernel
theorem dX5_inFrame_44 : decode cX5_inFrame 44 = .ok (.iload_n 3, 1) := by decide +kernel
theorem dX5_inFrame_45 : decode cX5_inFrame 45 = .ok (.iconst 1, 1) := by decide +kernel
theorem dX5_inFrame_46 : decode cX5_inFrame 46 = .ok (.isub, 1) := by decide +kernel
theorem dX5_inFrame_47 : decode cX5_inFrame 47 = .ok (.iaload, 1) := by decide +kernel
theorem dX5_inFrame_48 : decode cX5_inFrame 48 = .ok (.if_icmp .eq 7, 3) := by decide +kernel
theorem dX5_inFrame_51 : decode cX5_inFrame 51 = .ok (.iconst 1, 1) := by decide +kernel
theorem dX5_inFrame_52 : decode cX5_inFrame 52 = .ok (.goto 4, 3) := by decide +kernel
theorem dX5_inFrame_55 : decode cX5_inFrame 55 = .ok (.iconst 0, 1) := by decide +kernel
theorem dX5_inFrame_56 : decode cX5_inFrame 56 = .ok (.iadd, 1) := by decide +kernel
theorem dX5_inFrame_57 : decode cX5_inFrame 57 = .ok (.istore_n 2, 1) := by decide +kernel
theorem dX5_inFrame_58 : decode cX5_inFrame 58 = .ok (.iinc 3 1, 3) := by decide +kernel
theorem dX5_inFrame_61 : decode cX5_inFrame 61 = .ok (.goto (-57), 3) := by decide +kernel
theorem dX5_inFrame_64 : decode cX5_inFrame 64 = .ok (.iload_n 2, 1) := by decide +kernel
theorem dX5_inFrame_65 : decode cX5_inFrame 65 = .ok (.ireturn, 1) := by decide +kernel
set_option maxRecDepth 20000 in
theorem ggX5_those_X5_flickers : GoodIn wsX5_those wsX5_flickers := goodIn_r _ [5, 6, 7, 8, 9, 4, 10, 11, 34, 35, 36, 37, 38, 39, 40, 41, 42, 43, 44, 45, 46, 47, 48, 49] (by decide +kernel) (by decide +kernel)
set_option maxRecDepth 20000 in
theorem gX5_those_X5_flickers : GoodIn wsX5_those (wsV RX5 73 RX5 yX5_flickers wsX5_flickers) := goodIn_app (goodIn_of _ (by decide +kernel)) ggX5_those_X5_flickers
set_option maxRecDepth 20000 in
theorem ggX5_those_X5_isSeen : GoodIn wsX5_those wsX5_isSeen := goodIn_r _ [15, 16, 17, 18, 4, 19, 6, 11, 1, 2, 3, 5, 7, 8, 9, 10, 34, 35, 36, 37, 38, 39, 40, 41, 42, 43, 44, 45, 46, 47, 48, 49] (by decide +kernel) (by decide +kernel)
set_option maxRecDepth 20000 in
theorem gX5_those_X5_isSeen : GoodIn wsX5_those (wsV RX5 84 RX5 yX5_isSeen wsX5_isSeen) := goodIn_app (goodIn_of _ (by decide +kernel)) ggX5_those_X5_isSeen
set_option maxRecDepth 20000 in
theorem ggX5_those_X5_isClear : GoodIn wsX5_those wsX5_isClear := goodIn_r _ [23, 24, 25, 26, 27, 4, 28, 29, 30, 31, 32, 33, 12, 13, 14, 15, 16, 17, 18, 19, 6, 11, 1, 2, 3, 5, 7, 8, 9, 10, 34, 35, 36, 37, 38, 39, 40, 41, 42, 43, 44, 45, 46, 47, 48, 49] (by decide +kernel) (by decide +kernel)
set_option maxRecDepth 20000 in
theorem gX5_those_X5_isClear : GoodIn wsX5_those (wsV RX5 151 RX5 yX5_isClear wsX5_isClear) := goodIn_app (goodIn_of _ (by decide +kernel)) ggX5_those_X5_isClear
theorem dX5_those_0 : decode cX5_those 0 = .ok (.iconst 0, 1) := by decide +kernel
theorem dX5_those_1 : decode cX5_those 1 = .ok (.istore_n 3, 1) := by decide +kernel
theorem dX5_those_2 : decode cX5_those 2 = .ok (.iconst 0, 1) := by decide +kernel
theorem dX5_those_3 : decode cX5_those 3 = .ok (.istore 4, 2) := by decide +kernel
theorem dX5_those_5 : decode cX5_those 5 = .ok (.iload 4, 2) := by decide +kernel
theorem dX5_those_7 : decode cX5_those 7 = .ok (.bipush 6, 2) := by decide +kernel
theorem dX5_those_9 : decode cX5_those 9 = .ok (.if_icmp .ge 62, 3) := by decide +kernel
theorem dX5_those_12 : decode cX5_those 12 = .ok (.iload_n 3, 1) := by decide +kernel
theorem dX5_those_13 : decode cX5_those 13 = .ok (.iload_n 2, 1) := by decide +kernel
theorem dX5_those_14 : decode cX5_those 14 = .ok (.iconst 4, 1) := by decide +kernel
theorem dX5_those_15 : decode cX5_those 15 = .ok (.if_icmp .ne 16, 3) := by decide +kernel
theorem dX5_those_18 : decode cX5_those 18 = .ok (.aload_n 0, 1) := by decide +kernel
theorem dX5_those_19 : decode cX5_those 19 = .ok (.aload_n 1, 1) := by decide +kernel
theorem dX5_those_20 : decode cX5_those 20 = .ok (.iload 4, 2) := by decide +kernel
theorem dX5_those_22 : decode cX5_those 22 = .ok (.invokevirtual 73, 3) := by decide +kernel
theorem dX5_those_25 : decode cX5_those 25 = .ok (.ifCond .eq 37, 3) := by decide +kernel
theorem dX5_those_28 : decode cX5_those 28 = .ok (.goto 30, 3) := by decide +kernel
theorem dX5_those_31 : decode cX5_those 31 = .ok (.iload_n 2, 1) := by decide +kernel
theorem dX5_those_32 : decode cX5_those 32 = .ok (.iconst 5, 1) := by decide +kernel
theorem dX5_those_33 : decode cX5_those 33 = .ok (.if_icmp .ne 16, 3) := by decide +kernel
theorem dX5_those_36 : decode cX5_those 36 = .ok (.aload_n 0, 1) := by decide +kernel
theorem dX5_those_37 : decode cX5_those 37 = .ok (.aload_n 1, 1) := by decide +kernel
theorem dX5_those_38 : decode cX5_those 38 = .ok (.iload 4, 2) := by decide +kernel
theorem dX5_those_40 : decode cX5_those 40 = .ok (.invokevirtual 84, 3) := by decide +kernel
theorem dX5_those_43 : decode cX5_those 43 = .ok (.ifCond .eq 19, 3) := by decide +kernel
theorem dX5_those_46 : decode cX5_those 46 = .ok (.goto 12, 3) := by decide +kernel
theorem dX5_those_49 : decode cX5_those 49 = .ok (.aload_n 0, 1) := by decide +kernel
theorem dX5_those_50 : decode cX5_those 50 = .ok (.iload 4, 2) := by decide +kernel
theorem dX5_those_52 : decode cX5_those 52 = .ok (.invokevirtual 151, 3) := by decide +kernel
theorem dX5_those_55 : decode cX5_those 55 = .ok (.ifCond .eq 7, 3) := by decide +kernel
theorem dX5_those_58 : decode cX5_those 58 = .ok (.iconst 1, 1) := by decide +kernel
theorem dX5_those_59 : decode cX5_those 59 = .ok (.goto 4, 3) := by decide +kernel
theorem dX5_those_62 : decode cX5_those 62 = .ok (.iconst 0, 1) := by decide +kernel
theorem dX5_those_63 : decode cX5_those 63 = .ok (.iadd, 1) := by decide +kernel
theorem dX5_those_64 : decode cX5_those 64 = .ok (.istore_n 3, 1) := by decide +kernel
theorem dX5_those_65 : decode cX5_those 65 = .ok (.iinc 4 1, 3) := by decide +kernel
theorem dX5_those_68 : decode cX5_those 68 = .ok (.goto (-63), 3) := by decide +kernel
theorem dX5_those_71 : decode cX5_those 71 = .ok (.iload_n 3, 1) := by decide +kernel
theorem dX5_those_72 : decode cX5_those 72 = .ok (.ireturn, 1) := by decide +kernel
set_option maxRecDepth 20000 in
theorem ggX5_burnt_X5_ones : GoodIn wsX5_burnt wsX5_ones := goodIn_r _ [5] (by decide +kernel) (by decide +kernel)
set_option maxRecDepth 20000 in
theorem gX5_burnt_X5_ones : GoodIn wsX5_burnt (va_wsS RX5 157 yX5_ones wsX5_ones) := goodIn_app (goodIn_of _ (by decide +kernel)) ggX5_burnt_X5_ones
theorem dX5_burnt_0 : decode cX5_burnt 0 = .ok (.iconst 0, 1) := by decide +kernel
theorem dX5_burnt_1 : decode cX5_burnt 1 = .ok (.istore_n 1, 1) := by decide +kernel
theorem dX5_burnt_2 : decode cX5_burnt 2 = .ok (.iconst 0, 1) := by decide +kernel
theorem dX5_burnt_3 : decode cX5_burnt 3 = .ok (.istore_n 2, 1) := by decide +kernel
theorem dX5_burnt_4 : decode cX5_burnt 4 = .ok (.iload_n 2, 1) := by decide +kernel
theorem dX5_burnt_5 : decode cX5_burnt 5 = .ok (.bipush 6, 2) := by decide +kernel
theorem dX5_burnt_7 : decode cX5_burnt 7 = .ok (.if_icmp .ge 24, 3) := by decide +kernel
theorem dX5_burnt_10 : decode cX5_burnt 10 = .ok (.iload_n 1, 1) := by decide +kernel
theorem dX5_burnt_11 : decode cX5_burnt 11 = .ok (.aload_n 0, 1) := by decide +kernel
theorem dX5_burnt_12 : decode cX5_burnt 12 = .ok (.getfield 13, 3) := by decide +kernel
theorem dX5_burnt_15 : decode cX5_burnt 15 = .ok (.bipush 20, 2) := by decide +kernel
theorem dX5_burnt_17 : decode cX5_burnt 17 = .ok (.iload_n 2, 1) := by decide +kernel
theorem dX5_burnt_18 : decode cX5_burnt 18 = .ok (.iadd, 1) := by decide +kernel
theorem dX5_burnt_19 : decode cX5_burnt 19 = .ok (.iaload, 1) := by decide +kernel
theorem dX5_burnt_20 : decode cX5_burnt 20 = .ok (.invokestatic 157, 3) := by decide +kernel
theorem dX5_burnt_23 : decode cX5_burnt 23 = .ok (.iadd, 1) := by decide +kernel
theorem dX5_burnt_24 : decode cX5_burnt 24 = .ok (.istore_n 1, 1) := by decide +kernel
theorem dX5_burnt_25 : decode cX5_burnt 25 = .ok (.iinc 2 1, 3) := by decide +kernel
theorem dX5_burnt_28 : decode cX5_burnt 28 = .ok (.goto (-24), 3) := by decide +kernel
theorem dX5_burnt_31 : decode cX5_burnt 31 = .ok (.iload_n 1, 1) := by decide +kernel
theorem dX5_burnt_32 : decode cX5_burnt 32 = .ok (.ireturn, 1) := by decide +kernel
set_option maxRecDepth 20000 in
theorem ggX5_counted_X5_frames : GoodIn wsX5_counted wsX5_frames := goodIn_r _ [7, 8, 9, 10, 11, 12, 13, 6, 14, 15, 16, 17, 18, 19, 20, 65, 66, 67, 68, 69, 70, 71, 72, 73, 74, 75, 76, 77, 78, 79, 80] (by decide +kernel) (by decide +kernel)
set_option maxRecDepth 20000 in
theorem gX5_counted_X5_frames : GoodIn wsX5_counted (wsV RX5 147 RX5 yX5_frames wsX5_frames) := goodIn_app (goodIn_of _ (by decide +kernel)) ggX5_counted_X5_frames
set_option maxRecDepth 20000 in
theorem ggX5_counted_X5_levels : GoodIn wsX5_counted wsX5_levels := goodIn_r _ [17] (by decide +kernel) (by decide +kernel)
set_option maxRecDepth 20000 in
theorem gX5_counted_X5_levels : GoodIn wsX5_counted (va_wsS RX5 52 yX5_levels wsX5_levels) := goodIn_app (goodIn_of _ (by decide +kernel)) ggX5_counted_X5_levels
set_option maxRecDepth 20000 in
theorem ggX5_counted_X5_inFrame : GoodIn wsX5_counted wsX5_inFrame := goodIn_r _ [24, 8, 11, 10, 65, 66, 67, 68, 69, 70, 71, 72, 73, 74, 75, 76, 77, 78, 79, 80] (by decide +kernel) (by decide +kernel)
set_option maxRecDepth 20000 in
theorem gX5_counted_X5_inFrame : GoodIn wsX5_counted (wsV RX5 160 RX5 yX5_inFrame wsX5_inFrame) := goodIn_app (goodIn_of _ (by decide +kernel)) ggX5_counted_X5_inFrame
set_option maxRecDepth 20000 in
theorem ggX5_counted_X5_those : GoodIn wsX5_counted wsX5_those := goodIn_r _ [28, 29, 30, 31, 6, 32, 8, 33, 34, 35, 36, 11, 37, 38, 39, 40, 41, 42, 43, 44, 45, 46, 47, 48, 1, 49, 50, 51, 52, 53, 54, 55, 56, 57, 65, 66, 67, 68, 69, 70, 71, 72, 73, 74, 75, 76, 77, 78, 79, 80] (by decide +kernel) (by decide +kernel)
set_option maxRecDepth 20000 in
theorem gX5_counted_X5_those : GoodIn wsX5_counted (wsV RX5 164 RX5 yX5_those wsX5_those) := goodIn_app (goodIn_of _ (by decide +kernel)) ggX5_counted_X5_those
set_option maxRecDepth 20000 in
theorem ggX5_counted_X5_burnt : GoodIn wsX5_counted wsX5_burnt := goodIn_r _ [61, 1, 62, 63, 6, 64, 65, 66, 67, 68, 69, 70, 71, 72, 73, 74, 75, 76, 77, 78, 79, 80] (by decide +kernel) (by decide +kernel)
set_option maxRecDepth 20000 in
theorem gX5_counted_X5_burnt : GoodIn wsX5_counted (wsV RX5 168 RX5 yX5_burnt wsX5_burnt) := goodIn_app (goodIn_of _ (by decide +kernel)) ggX5_counted_X5_burnt
theorem dX5_counted_0 : decode cX5_counted 0 = .ok (.aload_n 0, 1) := by decide +kernel
theorem dX5_counted_1 : decode cX5_counted 1 = .ok (.aload_n 0, 1) := by decide +kernel
theorem dX5_counted_2 : decode cX5_counted 2 = .ok (.getfield 13, 3) := by decide +kernel
theorem dX5_counted_5 : decode cX5_counted 5 = .ok (.invokevirtual 147, 3) := by decide +kernel
theorem dX5_counted_8 : decode cX5_counted 8 = .ok (.iload_n 1, 1) := by decide +kernel
theorem dX5_counted_9 : decode cX5_counted 9 = .ok (.iconst 4, 1) := by decide +kernel
theorem dX5_counted_10 : decode cX5_counted 10 = .ok (.if_icmp .ge 46, 3) := by decide +kernel
theorem dX5_counted_13 : decode cX5_counted 13 = .ok (.iload_n 1, 1) := by decide +kernel
theorem dX5_counted_14 : decode cX5_counted 14 = .ok (.ifCond .ne 12, 3) := by decide +kernel
theorem dX5_counted_17 : decode cX5_counted 17 = .ok (.aload_n 0, 1) := by decide +kernel
theorem dX5_counted_18 : decode cX5_counted 18 = .ok (.getfield 13, 3) := by decide +kernel
theorem dX5_counted_21 : decode cX5_counted 21 = .ok (.iconst 0, 1) := by decide +kernel
theorem dX5_counted_22 : decode cX5_counted 22 = .ok (.iaload, 1) := by decide +kernel
theorem dX5_counted_23 : decode cX5_counted 23 = .ok (.goto 32, 3) := by decide +kernel
theorem dX5_counted_26 : decode cX5_counted 26 = .ok (.iload_n 1, 1) := by decide +kernel
theorem dX5_counted_27 : decode cX5_counted 27 = .ok (.iconst 1, 1) := by decide +kernel
theorem dX5_counted_28 : decode cX5_counted 28 = .ok (.if_icmp .ne 13, 3) := by decide +kernel
theorem dX5_counted_31 : decode cX5_counted 31 = .ok (.aload_n 0, 1) := by decide +kernel
theorem dX5_counted_32 : decode cX5_counted 32 = .ok (.getfield 13, 3) := by decide +kernel
theorem dX5_counted_35 : decode cX5_counted 35 = .ok (.invokestatic 52, 3) := by decide +kernel
theorem dX5_counted_38 : decode cX5_counted 38 = .ok (.goto 17, 3) := by decide +kernel
theorem dX5_counted_41 : decode cX5_counted 41 = .ok (.aload_n 0, 1) := by decide +kernel
theorem dX5_counted_42 : decode cX5_counted 42 = .ok (.iload_n 1, 1) := by decide +kernel
theorem dX5_counted_43 : decode cX5_counted 43 = .ok (.iconst 2, 1) := by decide +kernel
theorem dX5_counted_44 : decode cX5_counted 44 = .ok (.if_icmp .ne 7, 3) := by decide +kernel
theorem dX5_counted_47 : decode cX5_counted 47 = .ok (.iconst 1, 1) := by decide +kernel
theorem dX5_counted_48 : decode cX5_counted 48 = .ok (.goto 4, 3) := by decide +kernel
theorem dX5_counted_51 : decode cX5_counted 51 = .ok (.iconst 0, 1) := by decide +kernel
theorem dX5_counted_52 : decode cX5_counted 52 = .ok (.invokevirtual 160, 3) := by decide +kernel
theorem dX5_counted_55 : decode cX5_counted 55 = .ok (.ireturn, 1) := by decide +kernel
theorem dX5_counted_56 : decode cX5_counted 56 = .ok (.iload_n 1, 1) := by decide +kernel
theorem dX5_counted_57 : decode cX5_counted 57 = .ok (.bipush 7, 2) := by decide +kernel
theorem dX5_counted_59 : decode cX5_counted 59 = .ok (.if_icmp .ge 13, 3) := by decide +kernel
theorem dX5_counted_62 : decode cX5_counted 62 = .ok (.aload_n 0, 1) := by decide +kernel
theorem dX5_counted_63 : decode cX5_counted 63 = .ok (.aload_n 0, 1) := by decide +kernel
theorem dX5_counted_64 : decode cX5_counted 64 = .ok (.getfield 13, 3) := by decide +kernel
theorem dX5_counted_67 : decode cX5_counted 67 = .ok (.iload_n 1, 1) := by decide +kernel
theorem dX5_counted_68 : decode cX5_counted 68 = .ok (.invokevirtual 164, 3) := by decide +kernel
theorem dX5_counted_71 : decode cX5_counted 71 = .ok (.ireturn, 1) := by decide +kernel
theorem dX5_counted_72 : decode cX5_counted 72 = .ok (.iload_n 1, 1) := by decide +kernel
theorem dX5_counted_73 : decode cX5_counted 73 = .ok (.bipush 7, 2) := by decide +kernel
theorem dX5_counted_75 : decode cX5_counted 75 = .ok (.if_icmp .ne 10, 3) := by decide +kernel
theorem dX5_counted_78 : decode cX5_counted 78 = .ok (.aload_n 0, 1) := by decide +kernel
theorem dX5_counted_79 : decode cX5_counted 79 = .ok (.invokevirtual 168, 3) := by decide +kernel
theorem dX5_counted_82 : decode cX5_counted 82 = .ok (.goto 38, 3) := by decide +kernel
theorem dX5_counted_85 : decode cX5_counted 85 = .ok (.iload_n 1, 1) := by decide +kernel
theorem dX5_counted_86 : decode cX5_counted 86 = .ok (.bipush 8, 2) := by decide +kernel
theorem dX5_counted_88 : decode cX5_counted 88 = .ok (.if_icmp .ne 12, 3) := by decide +kernel
theorem dX5_counted_91 : decode cX5_counted 91 = .ok (.aload_n 0, 1) := by decide +kernel
theorem dX5_counted_92 : decode cX5_counted 92 = .ok (.getfield 13, 3) := by decide +kernel
theorem dX5_counted_95 : decode cX5_counted 95 = .ok (.iconst 1, 1) := by decide +kernel
theorem dX5_counted_96 : decode cX5_counted 96 = .ok (.iaload, 1) := by decide +kernel
theorem dX5_counted_97 : decode cX5_counted 97 = .ok (.goto 23, 3) := by decide +kernel
theorem dX5_counted_100 : decode cX5_counted 100 = .ok (.iload_n 1, 1) := by decide +kernel
theorem dX5_counted_101 : decode cX5_counted 101 = .ok (.bipush 9, 2) := by decide +kernel
theorem dX5_counted_103 : decode cX5_counted 103 = .ok (.if_icmp .ne 13, 3) := by decide +kernel
theorem dX5_counted_106 : decode cX5_counted 106 = .ok (.aload_n 0, 1) := by decide +kernel
theorem dX5_counted_107 : decode cX5_counted 107 = .ok (.getfield 13, 3) := by decide +kernel
theorem dX5_counted_110 : decode cX5_counted 110 = .ok (.bipush 7, 2) := by decide +kernel
theorem dX5_counted_112 : decode cX5_counted 112 = .ok (.iaload, 1) := by decide +kernel
theorem dX5_counted_113 : decode cX5_counted 113 = .ok (.goto 7, 3) := by decide +kernel
theorem dX5_counted_116 : decode cX5_counted 116 = .ok (.aload_n 0, 1) := by decide +kernel
theorem dX5_counted_117 : decode cX5_counted 117 = .ok (.getfield 45, 3) := by decide +kernel
theorem dX5_counted_120 : decode cX5_counted 120 = .ok (.ireturn, 1) := by decide +kernel
set_option maxRecDepth 20000 in
theorem ggX5_count_X5_in : GoodIn wsX5_count wsX5_in := goodIn_r _ [5] (by decide +kernel) (by decide +kernel)
set_option maxRecDepth 20000 in
theorem gX5_count_X5_in : GoodIn wsX5_count (va_wsS RX5 41 yX5_in wsX5_in) := goodIn_app (goodIn_of _ (by decide +kernel)) ggX5_count_X5_in
set_option maxRecDepth 20000 in
theorem ggX5_count_X5_counted : GoodIn wsX5_count wsX5_counted := goodIn_r _ [9, 10, 11, 12, 13, 14, 4, 15, 16, 17, 18, 19, 20, 21, 22, 23, 24, 25, 26, 27, 28, 29, 30, 31, 32, 33, 34, 35, 36, 37, 38, 39, 40, 41, 42, 43, 44, 45, 46, 47, 48, 49, 50, 51, 52, 53, 54, 55, 56, 57, 58, 59, 60, 61, 62, 63, 64, 65, 66, 67, 68, 69, 70, 71, 72, 77, 78, 79, 80, 81, 82, 83, 84, 85, 86, 87, 88, 89, 90, 91, 92] (by decide +kernel) (by decide +kernel)
set_option maxRecDepth 20000 in
theorem gX5_count_X5_counted : GoodIn wsX5_count (wsV RX5 171 RX5 yX5_counted wsX5_counted) := goodIn_app (goodIn_of _ (by decide +kernel)) ggX5_count_X5_counted
set_option maxRecDepth 20000 in
theorem ggX5_count_X5_fails : GoodIn wsX5_count wsX5_fails := goodIn_r _ [76, 1, 77, 78, 79, 80, 81, 82, 83, 84, 85, 86, 87, 88, 89, 90, 91, 92] (by decide +kernel) (by decide +kernel)
set_option maxRecDepth 20000 in
theorem gX5_count_X5_fails : GoodIn wsX5_count (wsV RX5 48 RX5 yX5_fails wsX5_fails) := goodIn_app (goodIn_of _ (by decide +kernel)) ggX5_count_X5_fails
theorem dX5_count_0 : decode cX5_count 0 = .ok (.aload_n 0, 1) := by decide +kernel
theorem dX5_count_1 : decode cX5_count 1 = .ok (.iconst 0, 1) := by decide +kernel
theorem dX5_count_2 : decode cX5_count 2 = .ok (.putfield 37, 3) := by decide +kernel
theorem dX5_count_5 : decode cX5_count 5 = .ok (.iload_n 1, 1) := by decide +kernel
theorem dX5_count_6 : decode cX5_count 6 = .ok (.iconst 0, 1) := by decide +kernel
theorem dX5_count_7 : decode cX5_count 7 = .ok (.bipush 10, 2) := by decide +kernel
theorem dX5_count_9 : decode cX5_count 9 = .ok (.invokestatic 41, 3) := by decide +kernel
theorem dX5_count_12 : decode cX5_count 12 = .ok (.ifCond .eq 11, 3) := by decide +kernel
theorem dX5_count_15 : decode cX5_count 15 = .ok (.aload_n 0, 1) := by decide +kernel
theorem dX5_count_16 : decode cX5_count 16 = .ok (.iload_n 1, 1) := by decide +kernel
theorem dX5_count_17 : decode cX5_count 17 = .ok (.invokevirtual 171, 3) := by decide +kernel
theorem dX5_count_20 : decode cX5_count 20 = .ok (.goto 8, 3) := by decide +kernel
theorem dX5_count_23 : decode cX5_count 23 = .ok (.aload_n 0, 1) := by decide +kernel
theorem dX5_count_24 : decode cX5_count 24 = .ok (.iconst 1, 1) := by decide +kernel
theorem dX5_count_25 : decode cX5_count 25 = .ok (.invokevirtual 48, 3) := by decide +kernel
theorem dX5_count_28 : decode cX5_count 28 = .ok (.ireturn, 1) := by decide +kernel
set_option maxRecDepth 20000 in
theorem ggX5_setting_X5_in : GoodIn wsX5_setting wsX5_in := goodIn_r _ [6] (by decide +kernel) (by decide +kernel)
set_option maxRecDepth 20000 in
theorem gX5_setting_X5_in : GoodIn wsX5_setting (va_wsS RX5 41 yX5_in wsX5_in) := goodIn_app (goodIn_of _ (by decide +kernel)) ggX5_setting_X5_in
set_option maxRecDepth 20000 in
theorem ggX5_setting_X5_fails : GoodIn wsX5_setting wsX5_fails := goodIn_r _ [10, 1, 11, 12, 13, 14, 15, 16, 17, 18, 19, 20, 21, 22, 23, 24, 25, 26] (by decide +kernel) (by decide +kernel)
set_option maxRecDepth 20000 in
theorem gX5_setting_X5_fails : GoodIn wsX5_setting (wsV RX5 48 RX5 yX5_fails wsX5_fails) := goodIn_app (goodIn_of _ (by decide +kernel)) ggX5_setting_X5_fails
theorem dX5_setting_0 : decode cX5_setting 0 = .ok (.aload_n 0, 1) := by decide +kernel
theorem dX5_setting_1 : decode cX5_setting 1 = .ok (.iconst 0, 1) := by decide +kernel
theorem dX5_setting_2 : decode cX5_setting 2 = .ok (.putfield 37, 3) := by decide +kernel
theorem dX5_setting_5 : decode cX5_setting 5 = .ok (.iload_n 1, 1) := by decide +kernel
theorem dX5_setting_6 : decode cX5_setting 6 = .ok (.iconst 0, 1) := by decide +kernel
theorem dX5_setting_7 : decode cX5_setting 7 = .ok (.iconst 4, 1) := by decide +kernel
theorem dX5_setting_8 : decode cX5_setting 8 = .ok (.invokestatic 41, 3) := by decide +kernel
theorem dX5_setting_11 : decode cX5_setting 11 = .ok (.ifCond .eq 14, 3) := by decide +kernel
theorem dX5_setting_14 : decode cX5_setting 14 = .ok (.aload_n 0, 1) := by decide +kernel
theorem dX5_setting_15 : decode cX5_setting 15 = .ok (.getfield 13, 3) := by decide +kernel
theorem dX5_setting_18 : decode cX5_setting 18 = .ok (.iconst 2, 1) := by decide +kernel
theorem dX5_setting_19 : decode cX5_setting 19 = .ok (.iload_n 1, 1) := by decide +kernel
theorem dX5_setting_20 : decode cX5_setting 20 = .ok (.iadd, 1) := by decide +kernel
theorem dX5_setting_21 : decode cX5_setting 21 = .ok (.iaload, 1) := by decide +kernel
theorem dX5_setting_22 : decode cX5_setting 22 = .ok (.goto 8, 3) := by decide +kernel
theorem dX5_setting_25 : decode cX5_setting 25 = .ok (.aload_n 0, 1) := by decide +kernel
theorem dX5_setting_26 : decode cX5_setting 26 = .ok (.iconst 1, 1) := by decide +kernel
theorem dX5_setting_27 : decode cX5_setting 27 = .ok (.invokevirtual 48, 3) := by decide +kernel
theorem dX5_setting_30 : decode cX5_setting 30 = .ok (.ireturn, 1) := by decide +kernel
set_option maxRecDepth 20000 in
theorem ggX5_tries_X5_frames : GoodIn wsX5_tries wsX5_frames := goodIn_r _ [7, 8, 9, 10, 11, 12, 13, 6, 14, 15, 16, 17, 18, 19, 20, 21, 22, 23, 24, 25, 26, 27, 28, 29, 30, 31, 32, 33, 34, 35, 36] (by decide +kernel) (by decide +kernel)
set_option maxRecDepth 20000 in
theorem gX5_tries_X5_frames : GoodIn wsX5_tries (wsV RX5 147 RX5 yX5_frames wsX5_frames) := goodIn_app (goodIn_of _ (by decide +kernel)) ggX5_tries_X5_frames
theorem dX5_tries_0 : decode cX5_tries 0 = .ok (.iconst 0, 1) := by decide +kernel
theorem dX5_tries_1 : decode cX5_tries 1 = .ok (.istore_n 3, 1) := by decide +kernel
theorem dX5_tries_2 : decode cX5_tries 2 = .ok (.iload_n 3, 1) := by decide +kernel
theorem dX5_tries_3 : decode cX5_tries 3 = .ok (.bipush 80, 2) := by decide +kernel
theorem dX5_tries_5 : decode cX5_tries 5 = .ok (.if_icmp .ge 21, 3) := by decide +kernel
theorem dX5_tries_8 : decode cX5_tries 8 = .ok (.aload_n 0, 1) := by decide +kernel
theorem dX5_tries_9 : decode cX5_tries 9 = .ok (.getfield 16, 3) := by decide +kernel
theorem dX5_tries_12 : decode cX5_tries 12 = .ok (.iload_n 3, 1) := by decide +kernel
theorem dX5_tries_13 : decode cX5_tries 13 = .ok (.aload_n 0, 1) := by decide +kernel
theorem dX5_tries_14 : decode cX5_tries 14 = .ok (.getfield 13, 3) := by decide +kernel
theorem dX5_tries_17 : decode cX5_tries 17 = .ok (.iload_n 3, 1) := by decide +kernel
theorem dX5_tries_18 : decode cX5_tries 18 = .ok (.iaload, 1) := by decide +kernel
theorem dX5_tries_19 : decode cX5_tries 19 = .ok (.iastore, 1) := by decide +kernel
theorem dX5_tries_20 : decode cX5_tries 20 = .ok (.iinc 3 1, 3) := by decide +kernel
theorem dX5_tries_23 : decode cX5_tries 23 = .ok (.goto (-21), 3) := by decide +kernel
theorem dX5_tries_26 : decode cX5_tries 26 = .ok (.iconst 0, 1) := by decide +kernel
theorem dX5_tries_27 : decode cX5_tries 27 = .ok (.istore_n 3, 1) := by decide +kernel
theorem dX5_tries_28 : decode cX5_tries 28 = .ok (.iload_n 3, 1) := by decide +kernel
theorem dX5_tries_29 : decode cX5_tries 29 = .ok (.bipush 6, 2) := by decide +kernel
theorem dX5_tries_31 : decode cX5_tries 31 = .ok (.if_icmp .ge 19, 3) := by decide +kernel
theorem dX5_tries_34 : decode cX5_tries 34 = .ok (.aload_n 0, 1) := by decide +kernel
theorem dX5_tries_35 : decode cX5_tries 35 = .ok (.getfield 16, 3) := by decide +kernel
theorem dX5_tries_38 : decode cX5_tries 38 = .ok (.bipush 26, 2) := by decide +kernel
theorem dX5_tries_40 : decode cX5_tries 40 = .ok (.iload_n 3, 1) := by decide +kernel
theorem dX5_tries_41 : decode cX5_tries 41 = .ok (.iadd, 1) := by decide +kernel
theorem dX5_tries_42 : decode cX5_tries 42 = .ok (.iconst 0, 1) := by decide +kernel
theorem dX5_tries_43 : decode cX5_tries 43 = .ok (.iastore, 1) := by decide +kernel
theorem dX5_tries_44 : decode cX5_tries 44 = .ok (.iinc 3 1, 3) := by decide +kernel
theorem dX5_tries_47 : decode cX5_tries 47 = .ok (.goto (-19), 3) := by decide +kernel
theorem dX5_tries_50 : decode cX5_tries 50 = .ok (.aload_n 0, 1) := by decide +kernel
theorem dX5_tries_51 : decode cX5_tries 51 = .ok (.getfield 16, 3) := by decide +kernel
theorem dX5_tries_54 : decode cX5_tries 54 = .ok (.bipush 14, 2) := by decide +kernel
theorem dX5_tries_56 : decode cX5_tries 56 = .ok (.iload_n 1, 1) := by decide +kernel
theorem dX5_tries_57 : decode cX5_tries 57 = .ok (.iadd, 1) := by decide +kernel
theorem dX5_tries_58 : decode cX5_tries 58 = .ok (.iload_n 2, 1) := by decide +kernel
theorem dX5_tries_59 : decode cX5_tries 59 = .ok (.iastore, 1) := by decide +kernel
theorem dX5_tries_60 : decode cX5_tries 60 = .ok (.aload_n 0, 1) := by decide +kernel
theorem dX5_tries_61 : decode cX5_tries 61 = .ok (.aload_n 0, 1) := by decide +kernel
theorem dX5_tries_62 : decode cX5_tries 62 = .ok (.getfield 16, 3) := by decide +kernel
theorem dX5_tries_65 : decode cX5_tries 65 = .ok (.invokevirtual 147, 3) := by decide +kernel
theorem dX5_tries_68 : decode cX5_tries 68 = .ok (.return_, 1) := by decide +kernel
set_option maxRecDepth 20000 in
theorem ggX5_byLevel_X5_tries : GoodIn wsX5_byLevel wsX5_tries := goodIn_r _ [6, 1, 7, 8, 9, 10, 5, 11, 12, 13, 14, 15, 16, 17, 18, 19, 20, 21, 22, 23, 24, 58, 59, 60, 61, 62, 63, 64, 65, 66, 67, 68, 69, 70, 71, 72, 73] (by decide +kernel) (by decide +kernel)
set_option maxRecDepth 20000 in
theorem gX5_byLevel_X5_tries : GoodIn wsX5_byLevel (wsV RX5 174 RX5 yX5_tries wsX5_tries) := goodIn_app (goodIn_of _ (by decide +kernel)) ggX5_byLevel_X5_tries
set_option maxRecDepth 20000 in
theorem ggX5_byLevel_X5_light : GoodIn wsX5_byLevel wsX5_light := goodIn_r _ [28, 12, 15, 58, 59, 60, 61, 62, 63, 64, 65, 66, 67, 68, 69, 70, 71, 72, 73] (by decide +kernel) (by decide +kernel)
set_option maxRecDepth 20000 in
theorem gX5_byLevel_X5_light : GoodIn wsX5_byLevel (wsV RX5 70 RX5 yX5_light wsX5_light) := goodIn_app (goodIn_of _ (by decide +kernel)) ggX5_byLevel_X5_light
set_option maxRecDepth 20000 in
theorem ggX5_byLevel_X5_those : GoodIn wsX5_byLevel wsX5_those := goodIn_r _ [32, 33, 34, 35, 5, 36, 12, 37, 38, 39, 40, 15, 41, 42, 43, 44, 25, 26, 27, 28, 45, 46, 47, 48, 7, 49, 50, 51, 52, 53, 54, 55, 56, 57, 58, 59, 60, 61, 62, 63, 64, 65, 66, 67, 68, 69, 70, 71, 72, 73] (by decide +kernel) (by decide +kernel)
set_option maxRecDepth 20000 in
theorem gX5_byLevel_X5_those : GoodIn wsX5_byLevel (wsV RX5 164 RX5 yX5_those wsX5_those) := goodIn_app (goodIn_of _ (by decide +kernel)) ggX5_byLevel_X5_those
theorem dX5_byLevel_0 : decode cX5_byLevel 0 = .ok (.aload_n 0, 1) := by decide +kernel
theorem dX5_byLevel_1 : decode cX5_byLevel 1 = .ok (.iload_n 1, 1) := by decide +kernel
theorem dX5_byLevel_2 : decode cX5_byLevel 2 = .ok (.iload_n 2, 1) := by decide +kernel
theorem dX5_byLevel_3 : decode cX5_byLevel 3 = .ok (.invokevirtual 174, 3) := by decide +kernel
theorem dX5_byLevel_6 : decode cX5_byLevel 6 = .ok (.iload_n 3, 1) := by decide +kernel
theorem dX5_byLevel_7 : decode cX5_byLevel 7 = .ok (.ifCond .ne 11, 3) := by decide +kernel
theorem dX5_byLevel_10 : decode cX5_byLevel 10 = .ok (.aload_n 0, 1) := by decide +kernel
theorem dX5_byLevel_11 : decode cX5_byLevel 11 = .ok (.iload_n 1, 1) := by decide +kernel
theorem dX5_byLevel_12 : decode cX5_byLevel 12 = .ok (.invokevirtual 70, 3) := by decide +kernel
theorem dX5_byLevel_15 : decode cX5_byLevel 15 = .ok (.goto 21, 3) := by decide +kernel
theorem dX5_byLevel_18 : decode cX5_byLevel 18 = .ok (.aload_n 0, 1) := by decide +kernel
theorem dX5_byLevel_19 : decode cX5_byLevel 19 = .ok (.aload_n 0, 1) := by decide +kernel
theorem dX5_byLevel_20 : decode cX5_byLevel 20 = .ok (.getfield 16, 3) := by decide +kernel
theorem dX5_byLevel_23 : decode cX5_byLevel 23 = .ok (.iload_n 3, 1) := by decide +kernel
theorem dX5_byLevel_24 : decode cX5_byLevel 24 = .ok (.iconst 1, 1) := by decide +kernel
theorem dX5_byLevel_25 : decode cX5_byLevel 25 = .ok (.if_icmp .ne 7, 3) := by decide +kernel
theorem dX5_byLevel_28 : decode cX5_byLevel 28 = .ok (.iconst 5, 1) := by decide +kernel
theorem dX5_byLevel_29 : decode cX5_byLevel 29 = .ok (.goto 4, 3) := by decide +kernel
theorem dX5_byLevel_32 : decode cX5_byLevel 32 = .ok (.iconst 4, 1) := by decide +kernel
theorem dX5_byLevel_33 : decode cX5_byLevel 33 = .ok (.invokevirtual 164, 3) := by decide +kernel
theorem dX5_byLevel_36 : decode cX5_byLevel 36 = .ok (.ireturn, 1) := by decide +kernel
set_option maxRecDepth 20000 in
theorem ggX5_ifLevel_X5_isDigit : GoodIn wsX5_ifLevel wsX5_isDigit := goodIn_r _ [5, 6, 7, 4, 8] (by decide +kernel) (by decide +kernel)
set_option maxRecDepth 20000 in
theorem gX5_ifLevel_X5_isDigit : GoodIn wsX5_ifLevel (va_wsS RX5 87 yX5_isDigit wsX5_isDigit) := goodIn_app (goodIn_of _ (by decide +kernel)) ggX5_ifLevel_X5_isDigit
set_option maxRecDepth 20000 in
theorem ggX5_ifLevel_X5_fails : GoodIn wsX5_ifLevel wsX5_fails := goodIn_r _ [12, 1, 76, 77, 78, 79, 80, 81, 82, 83, 84, 85, 86, 87, 88, 89, 90, 91] (by decide +kernel) (by decide +kernel)
set_option maxRecDepth 20000 in
theorem gX5_ifLevel_X5_fails : GoodIn wsX5_ifLevel (wsV RX5 48 RX5 yX5_fails wsX5_fails) := goodIn_app (goodIn_of _ (by decide +kernel)) ggX5_ifLevel_X5_fails
set_option maxRecDepth 20000 in
theorem ggX5_ifLevel_X5_isLevel : GoodIn wsX5_ifLevel wsX5_isLevel := goodIn_r _ [15, 6, 7, 4, 8] (by decide +kernel) (by decide +kernel)
set_option maxRecDepth 20000 in
theorem gX5_ifLevel_X5_isLevel : GoodIn wsX5_ifLevel (va_wsS RX5 100 yX5_isLevel wsX5_isLevel) := goodIn_app (goodIn_of _ (by decide +kernel)) ggX5_ifLevel_X5_isLevel
set_option maxRecDepth 20000 in
theorem ggX5_ifLevel_X5_in : GoodIn wsX5_ifLevel wsX5_in := goodIn_r _ [8] (by decide +kernel) (by decide +kernel)
set_option maxRecDepth 20000 in
theorem gX5_ifLevel_X5_in : GoodIn wsX5_ifLevel (va_wsS RX5 41 yX5_in wsX5_in) := goodIn_app (goodIn_of _ (by decide +kernel)) ggX5_ifLevel_X5_in
set_option maxRecDepth 20000 in
theorem ggX5_ifLevel_X5_byLevel : GoodIn wsX5_ifLevel wsX5_byLevel := goodIn_r _ [19, 20, 21, 22, 23, 4, 24, 25, 26, 27, 28, 29, 30, 31, 32, 33, 34, 35, 36, 37, 38, 39, 40, 41, 42, 43, 44, 45, 46, 47, 48, 49, 50, 51, 52, 53, 54, 55, 56, 57, 58, 59, 60, 61, 62, 63, 64, 65, 66, 67, 68, 69, 70, 71, 72, 73, 74, 75, 76, 77, 78, 79, 80, 81, 82, 83, 84, 85, 86, 87, 88, 89, 90, 91] (by decide +kernel) (by decide +kernel)
set_option maxRecDepth 20000 in
theorem gX5_ifLevel_X5_byLevel : GoodIn wsX5_ifLevel (wsV RX5 178 RX5 yX5_byLevel wsX5_byLevel) := goodIn_app (goodIn_of _ (by decide +kernel)) ggX5_ifLevel_X5_byLevel
theorem dX5_ifLevel_0 : decode cX5_ifLevel 0 = .ok (.aload_n 0, 1) := by decide +kernel
theorem dX5_ifLevel_1 : decode cX5_ifLevel 1 = .ok (.iconst 0, 1) := by decide +kernel
theorem dX5_ifLevel_2 : decode cX5_ifLevel 2 = .ok (.putfield 37, 3) := by decide +kernel
theorem dX5_ifLevel_5 : decode cX5_ifLevel 5 = .ok (.iload_n 1, 1) := by decide +kernel
theorem dX5_ifLevel_6 : decode cX5_ifLevel 6 = .ok (.invokestatic 87, 3) := by decide +kernel
theorem dX5_ifLevel_9 : decode cX5_ifLevel 9 = .ok (.ifCond .ne 9, 3) := by decide +kernel
theorem dX5_ifLevel_12 : decode cX5_ifLevel 12 = .ok (.aload_n 0, 1) := by decide +kernel
theorem dX5_ifLevel_13 : decode cX5_ifLevel 13 = .ok (.iconst 1, 1) := by decide +kernel
theorem dX5_ifLevel_14 : decode cX5_ifLevel 14 = .ok (.invokevirtual 48, 3) := by decide +kernel
theorem dX5_ifLevel_17 : decode cX5_ifLevel 17 = .ok (.ireturn, 1) := by decide +kernel
theorem dX5_ifLevel_18 : decode cX5_ifLevel 18 = .ok (.iload_n 2, 1) := by decide +kernel
theorem dX5_ifLevel_19 : decode cX5_ifLevel 19 = .ok (.invokestatic 100, 3) := by decide +kernel
theorem dX5_ifLevel_22 : decode cX5_ifLevel 22 = .ok (.ifCond .eq 22, 3) := by decide +kernel
theorem dX5_ifLevel_25 : decode cX5_ifLevel 25 = .ok (.iload_n 3, 1) := by decide +kernel
theorem dX5_ifLevel_26 : decode cX5_ifLevel 26 = .ok (.iconst 0, 1) := by decide +kernel
theorem dX5_ifLevel_27 : decode cX5_ifLevel 27 = .ok (.iconst 2, 1) := by decide +kernel
theorem dX5_ifLevel_28 : decode cX5_ifLevel 28 = .ok (.invokestatic 41, 3) := by decide +kernel
theorem dX5_ifLevel_31 : decode cX5_ifLevel 31 = .ok (.ifCond .eq 13, 3) := by decide +kernel
theorem dX5_ifLevel_34 : decode cX5_ifLevel 34 = .ok (.aload_n 0, 1) := by decide +kernel
theorem dX5_ifLevel_35 : decode cX5_ifLevel 35 = .ok (.iload_n 1, 1) := by decide +kernel
theorem dX5_ifLevel_36 : decode cX5_ifLevel 36 = .ok (.iload_n 2, 1) := by decide +kernel
theorem dX5_ifLevel_37 : decode cX5_ifLevel 37 = .ok (.iload_n 3, 1) := by decide +kernel
theorem dX5_ifLevel_38 : decode cX5_ifLevel 38 = .ok (.invokevirtual 178, 3) := by decide +kernel
theorem dX5_ifLevel_41 : decode cX5_ifLevel 41 = .ok (.goto 8, 3) := by decide +kernel
theorem dX5_ifLevel_44 : decode cX5_ifLevel 44 = .ok (.aload_n 0, 1) := by decide +kernel
theorem dX5_ifLevel_45 : decode cX5_ifLevel 45 = .ok (.iconst 2, 1) := by decide +kernel
theorem dX5_ifLevel_46 : decode cX5_ifLevel 46 = .ok (.invokevirtual 48, 3) := by decide +kernel
theorem dX5_ifLevel_49 : decode cX5_ifLevel 49 = .ok (.ireturn, 1) := by decide +kernel
set_option maxRecDepth 20000 in
theorem ggX5_least_X5_tries : GoodIn wsX5_least wsX5_tries := goodIn_r _ [6, 1, 7, 8, 9, 10, 5, 11, 12, 13, 14, 15, 16, 17, 18, 19, 20, 21, 22, 23, 24, 41, 42, 43, 44, 45, 46, 47, 48, 49, 50, 51, 52, 53, 54, 55, 56] (by decide +kernel) (by decide +kernel)
set_option maxRecDepth 20000 in
theorem gX5_least_X5_tries : GoodIn wsX5_least (wsV RX5 174 RX5 yX5_tries wsX5_tries) := goodIn_app (goodIn_of _ (by decide +kernel)) ggX5_least_X5_tries
set_option maxRecDepth 20000 in
theorem ggX5_least_X5_isSeen : GoodIn wsX5_least wsX5_isSeen := goodIn_r _ [28, 29, 30, 31, 5, 32, 12, 15, 33, 34, 35, 36, 37, 38, 39, 40, 41, 42, 43, 44, 45, 46, 47, 48, 49, 50, 51, 52, 53, 54, 55, 56] (by decide +kernel) (by decide +kernel)
set_option maxRecDepth 20000 in
theorem gX5_least_X5_isSeen : GoodIn wsX5_least (wsV RX5 84 RX5 yX5_isSeen wsX5_isSeen) := goodIn_app (goodIn_of _ (by decide +kernel)) ggX5_least_X5_isSeen
theorem dX5_least_0 : decode cX5_least 0 = .ok (.iconst 0, 1) := by decide +kernel
theorem dX5_least_1 : decode cX5_least 1 = .ok (.istore_n 2, 1) := by decide +kernel
theorem dX5_least_2 : decode cX5_least 2 = .ok (.iload_n 2, 1) := by decide +kernel
theorem dX5_least_3 : decode cX5_least 3 = .ok (.bipush 15, 2) := by decide +kernel
theorem dX5_least_5 : decode cX5_least 5 = .ok (.if_icmp .gt 29, 3) := by decide +kernel
theorem dX5_least_8 : decode cX5_least 8 = .ok (.aload_n 0, 1) := by decide +kernel
theorem dX5_least_9 : decode cX5_least 9 = .ok (.iload_n 1, 1) := by decide +kernel
theorem dX5_least_10 : decode cX5_least 10 = .ok (.iload_n 2, 1) := by decide +kernel
theorem dX5_least_11 : decode cX5_least 11 = .ok (.invokevirtual 174, 3) := by decide +kernel
theorem dX5_least_14 : decode cX5_least 14 = .ok (.aload_n 0, 1) := by decide +kernel
theorem dX5_least_15 : decode cX5_least 15 = .ok (.aload_n 0, 1) := by decide +kernel
theorem dX5_least_16 : decode cX5_least 16 = .ok (.getfield 16, 3) := by decide +kernel
theorem dX5_least_19 : decode cX5_least 19 = .ok (.iload_n 1, 1) := by decide +kernel
theorem dX5_least_20 : decode cX5_least 20 = .ok (.invokevirtual 84, 3) := by decide +kernel
theorem dX5_least_23 : decode cX5_least 23 = .ok (.ifCond .eq 5, 3) := by decide +kernel
theorem dX5_least_26 : decode cX5_least 26 = .ok (.iload_n 2, 1) := by decide +kernel
theorem dX5_least_27 : decode cX5_least 27 = .ok (.ireturn, 1) := by decide +kernel
theorem dX5_least_28 : decode cX5_least 28 = .ok (.iinc 2 1, 3) := by decide +kernel
theorem dX5_least_31 : decode cX5_least 31 = .ok (.goto (-29), 3) := by decide +kernel
theorem dX5_least_34 : decode cX5_least 34 = .ok (.iconst (-1), 1) := by decide +kernel
theorem dX5_least_35 : decode cX5_least 35 = .ok (.ireturn, 1) := by decide +kernel
set_option maxRecDepth 20000 in
theorem ggX5_leastLevel_X5_isDigit : GoodIn wsX5_leastLevel wsX5_isDigit := goodIn_r _ [5, 6, 7, 4, 8] (by decide +kernel) (by decide +kernel)
set_option maxRecDepth 20000 in
theorem gX5_leastLevel_X5_isDigit : GoodIn wsX5_leastLevel (va_wsS RX5 87 yX5_isDigit wsX5_isDigit) := goodIn_app (goodIn_of _ (by decide +kernel)) ggX5_leastLevel_X5_isDigit
set_option maxRecDepth 20000 in
theorem ggX5_leastLevel_X5_least : GoodIn wsX5_leastLevel wsX5_least := goodIn_r _ [12, 13, 14, 15, 16, 4, 17, 18, 19, 20, 21, 22, 23, 24, 25, 26, 27, 28, 29, 30, 31, 32, 33, 34, 35, 36, 37, 38, 39, 40, 41, 42, 43, 44, 45, 46, 47, 48, 49, 50, 51, 56, 57, 58, 59, 60, 61, 62, 63, 64, 65, 66, 67, 68, 69, 70, 71] (by decide +kernel) (by decide +kernel)
set_option maxRecDepth 20000 in
theorem gX5_leastLevel_X5_least : GoodIn wsX5_leastLevel (wsV RX5 182 RX5 yX5_least wsX5_least) := goodIn_app (goodIn_of _ (by decide +kernel)) ggX5_leastLevel_X5_least
set_option maxRecDepth 20000 in
theorem ggX5_leastLevel_X5_fails : GoodIn wsX5_leastLevel wsX5_fails := goodIn_r _ [55, 1, 56, 57, 58, 59, 60, 61, 62, 63, 64, 65, 66, 67, 68, 69, 70, 71] (by decide +kernel) (by decide +kernel)
set_option maxRecDepth 20000 in
theorem gX5_leastLevel_X5_fails : GoodIn wsX5_leastLevel (wsV RX5 48 RX5 yX5_fails wsX5_fails) := goodIn_app (goodIn_of _ (by decide +kernel)) ggX5_leastLevel_X5_fails
theorem dX5_leastLevel_0 : decode cX5_leastLevel 0 = .ok (.aload_n 0, 1) := by decide +kernel
theorem dX5_leastLevel_1 : decode cX5_leastLevel 1 = .ok (.iconst 0, 1) := by decide +kernel
theorem dX5_leastLevel_2 : decode cX5_leastLevel 2 = .ok (.putfield 37, 3) := by decide +kernel
theorem dX5_leastLevel_5 : decode cX5_leastLevel 5 = .ok (.iload_n 1, 1) := by decide +kernel
theorem dX5_leastLevel_6 : decode cX5_leastLevel 6 = .ok (.invokestatic 87, 3) := by decide +kernel
theorem dX5_leastLevel_9 : decode cX5_leastLevel 9 = .ok (.ifCond .eq 11, 3) := by decide +kernel
theorem dX5_leastLevel_12 : decode cX5_leastLevel 12 = .ok (.aload_n 0, 1) := by decide +kernel
theorem dX5_leastLevel_13 : decode cX5_leastLevel 13 = .ok (.iload_n 1, 1) := by decide +kernel
theorem dX5_leastLevel_14 : decode cX5_leastLevel 14 = .ok (.invokevirtual 182, 3) := by decide +kernel
theorem dX5_leastLevel_17 : decode cX5_leastLevel 17 = .ok (.goto 8, 3) := by decide +kernel
theorem dX5_leastLevel_20 : decode cX5_leastLevel 20 = .ok (.aload_n 0, 1) := by decide +kernel
theorem dX5_leastLevel_21 : decode cX5_leastLevel 21 = .ok (.iconst 1, 1) := by decide +kernel
theorem dX5_leastLevel_22 : decode cX5_leastLevel 22 = .ok (.invokevirtual 48, 3) := by decide +kernel
theorem dX5_leastLevel_25 : decode cX5_leastLevel 25 = .ok (.ireturn, 1) := by decide +kernel
set_option maxRecDepth 20000 in
theorem ggX5_alike_X5_shownAs : GoodIn wsX5_alike wsX5_shownAs := goodIn_r _ [5, 6, 7, 8, 9, 10, 11, 12, 13, 14, 15, 16, 17, 18, 19, 20, 21, 22, 23] (by decide +kernel) (by decide +kernel)
set_option maxRecDepth 20000 in
theorem gX5_alike_X5_shownAs : GoodIn wsX5_alike (wsV RX5 77 RX5 yX5_shownAs wsX5_shownAs) := goodIn_app (goodIn_of _ (by decide +kernel)) ggX5_alike_X5_shownAs
theorem dX5_alike_0 : decode cX5_alike 0 = .ok (.iconst 0, 1) := by decide +kernel
theorem dX5_alike_1 : decode cX5_alike 1 = .ok (.istore_n 2, 1) := by decide +kernel
theorem dX5_alike_2 : decode cX5_alike 2 = .ok (.iconst 0, 1) := by decide +kernel
theorem dX5_alike_3 : decode cX5_alike 3 = .ok (.istore_n 3, 1) := by decide +kernel
theorem dX5_alike_4 : decode cX5_alike 4 = .ok (.iload_n 3, 1) := by decide +kernel
theorem dX5_alike_5 : decode cX5_alike 5 = .ok (.bipush 12, 2) := by decide +kernel
theorem dX5_alike_7 : decode cX5_alike 7 = .ok (.if_icmp .ge 51, 3) := by decide +kernel
theorem dX5_alike_10 : decode cX5_alike 10 = .ok (.iload_n 3, 1) := by decide +kernel
theorem dX5_alike_11 : decode cX5_alike 11 = .ok (.iconst 1, 1) := by decide +kernel
theorem dX5_alike_12 : decode cX5_alike 12 = .ok (.iadd, 1) := by decide +kernel
theorem dX5_alike_13 : decode cX5_alike 13 = .ok (.istore 4, 2) := by decide +kernel
theorem dX5_alike_15 : decode cX5_alike 15 = .ok (.iload 4, 2) := by decide +kernel
theorem dX5_alike_17 : decode cX5_alike 17 = .ok (.bipush 12, 2) := by decide +kernel
theorem dX5_alike_19 : decode cX5_alike 19 = .ok (.if_icmp .ge 33, 3) := by decide +kernel
theorem dX5_alike_22 : decode cX5_alike 22 = .ok (.iload_n 2, 1) := by decide +kernel
theorem dX5_alike_23 : decode cX5_alike 23 = .ok (.aload_n 0, 1) := by decide +kernel
theorem dX5_alike_24 : decode cX5_alike 24 = .ok (.iload_n 1, 1) := by decide +kernel
theorem dX5_alike_25 : decode cX5_alike 25 = .ok (.iload_n 3, 1) := by decide +kernel
theorem dX5_alike_26 : decode cX5_alike 26 = .ok (.invokevirtual 77, 3) := by decide +kernel
theorem dX5_alike_29 : decode cX5_alike 29 = .ok (.aload_n 0, 1) := by decide +kernel
theorem dX5_alike_30 : decode cX5_alike 30 = .ok (.iload_n 1, 1) := by decide +kernel
theorem dX5_alike_31 : decode cX5_alike 31 = .ok (.iload 4, 2) := by decide +kernel
theorem dX5_alike_33 : decode cX5_alike 33 = .ok (.invokevirtual 77, 3) := by decide +kernel
theorem dX5_alike_36 : decode cX5_alike 36 = .ok (.if_icmp .ne 7, 3) := by decide +kernel
theorem dX5_alike_39 : decode cX5_alike 39 = .ok (.iconst 1, 1) := by decide +kernel
theorem dX5_alike_40 : decode cX5_alike 40 = .ok (.goto 4, 3) := by decide +kernel
theorem dX5_alike_43 : decode cX5_alike 43 = .ok (.iconst 0, 1) := by decide +kernel
theorem dX5_alike_44 : decode cX5_alike 44 = .ok (.iadd, 1) := by decide +kernel
theorem dX5_alike_45 : decode cX5_alike 45 = .ok (.istore_n 2, 1) := by decide +kernel
theorem dX5_alike_46 : decode cX5_alike 46 = .ok (.iinc 4 1, 3) := by decide +kernel
theorem dX5_alike_49 : decode cX5_alike 49 = .ok (.goto (-34), 3) := by decide +kernel
theorem dX5_alike_52 : decode cX5_alike 52 = .ok (.iinc 3 1, 3) := by decide +kernel
theorem dX5_alike_55 : decode cX5_alike 55 = .ok (.goto (-51), 3) := by decide +kernel
theorem dX5_alike_58 : decode cX5_alike 58 = .ok (.iload_n 2, 1) := by decide +kernel
theorem dX5_alike_59 : decode cX5_alike 59 = .ok (.ireturn, 1) := by decide +kernel
set_option maxRecDepth 20000 in
theorem ggX5_alikeSigns_X5_isDigit : GoodIn wsX5_alikeSigns wsX5_isDigit := goodIn_r _ [5, 6, 7, 4, 8] (by decide +kernel) (by decide +kernel)
set_option maxRecDepth 20000 in
theorem gX5_alikeSigns_X5_isDigit : GoodIn wsX5_alikeSigns (va_wsS RX5 87 yX5_isDigit wsX5_isDigit) := goodIn_app (goodIn_of _ (by decide +kernel)) ggX5_alikeSigns_X5_isDigit
set_option maxRecDepth 20000 in
theorem ggX5_alikeSigns_X5_alike : GoodIn wsX5_alikeSigns wsX5_alike := goodIn_r _ [12, 13, 14, 15, 4, 16, 17, 18, 23, 24, 25, 26, 27, 28, 29, 30, 31, 32, 33, 34, 35, 36, 37, 38] (by decide +kernel) (by decide +kernel)
set_option maxRecDepth 20000 in
theorem gX5_alikeSigns_X5_alike : GoodIn wsX5_alikeSigns (wsV RX5 185 RX5 yX5_alike wsX5_alike) := goodIn_app (goodIn_of _ (by decide +kernel)) ggX5_alikeSigns_X5_alike
set_option maxRecDepth 20000 in
theorem ggX5_alikeSigns_X5_fails : GoodIn wsX5_alikeSigns wsX5_fails := goodIn_r _ [22, 1, 23, 24, 25, 26, 27, 28, 29, 30, 31, 32, 33, 34, 35, 36, 37, 38] (by decide +kernel) (by decide +kernel)
set_option maxRecDepth 20000 in
theorem gX5_alikeSigns_X5_fails : GoodIn wsX5_alikeSigns (wsV RX5 48 RX5 yX5_fails wsX5_fails) := goodIn_app (goodIn_of _ (by decide +kernel)) ggX5_alikeSigns_X5_fails
theorem dX5_alikeSigns_0 : decode cX5_alikeSigns 0 = .ok (.aload_n 0, 1) := by decide +kernel
theorem dX5_alikeSigns_1 : decode cX5_alikeSigns 1 = .ok (.iconst 0, 1) := by decide +kernel
theorem dX5_alikeSigns_2 : decode cX5_alikeSigns 2 = .ok (.putfield 37, 3) := by decide +kernel
theorem dX5_alikeSigns_5 : decode cX5_alikeSigns 5 = .ok (.iload_n 1, 1) := by decide +kernel
theorem dX5_alikeSigns_6 : decode cX5_alikeSigns 6 = .ok (.invokestatic 87, 3) := by decide +kernel
theorem dX5_alikeSigns_9 : decode cX5_alikeSigns 9 = .ok (.ifCond .eq 11, 3) := by decide +kernel
theorem dX5_alikeSigns_12 : decode cX5_alikeSigns 12 = .ok (.aload_n 0, 1) := by decide +kernel
theorem dX5_alikeSigns_13 : decode cX5_alikeSigns 13 = .ok (.iload_n 1, 1) := by decide +kernel
theorem dX5_alikeSigns_14 : decode cX5_alikeSigns 14 = .ok (.invokevirtual 185, 3) := by decide +kernel
theorem dX5_alikeSigns_17 : decode cX5_alikeSigns 17 = .ok (.goto 8, 3) := by decide +kernel
theorem dX5_alikeSigns_20 : decode cX5_alikeSigns 20 = .ok (.aload_n 0, 1) := by decide +kernel
theorem dX5_alikeSigns_21 : decode cX5_alikeSigns 21 = .ok (.iconst 1, 1) := by decide +kernel
theorem dX5_alikeSigns_22 : decode cX5_alikeSigns 22 = .ok (.invokevirtual 48, 3) := by decide +kernel
theorem dX5_alikeSigns_25 : decode cX5_alikeSigns 25 = .ok (.ireturn, 1) := by decide +kernel
set_option maxRecDepth 20000 in
theorem ggX5_shownNumber_X5_frames : GoodIn wsX5_shownNumber wsX5_frames := goodIn_r _ [6, 7, 8, 9, 10, 11, 12, 5, 13, 14, 15, 16, 17, 18, 19, 49, 50, 51, 52, 53, 54, 55, 56, 57, 58, 59, 60, 61, 62, 63, 64] (by decide +kernel) (by decide +kernel)
set_option maxRecDepth 20000 in
theorem gX5_shownNumber_X5_frames : GoodIn wsX5_shownNumber (wsV RX5 147 RX5 yX5_frames wsX5_frames) := goodIn_app (goodIn_of _ (by decide +kernel)) ggX5_shownNumber_X5_frames
set_option maxRecDepth 20000 in
theorem ggX5_shownNumber_X5_isClear : GoodIn wsX5_shownNumber wsX5_isClear := goodIn_r _ [23, 1, 24, 25, 26, 5, 27, 28, 29, 30, 31, 32, 33, 34, 35, 36, 37, 38, 39, 40, 7, 10, 41, 42, 43, 44, 45, 46, 47, 48, 49, 50, 51, 52, 53, 54, 55, 56, 57, 58, 59, 60, 61, 62, 63, 64] (by decide +kernel) (by decide +kernel)
set_option maxRecDepth 20000 in
theorem gX5_shownNumber_X5_isClear : GoodIn wsX5_shownNumber (wsV RX5 151 RX5 yX5_isClear wsX5_isClear) := goodIn_app (goodIn_of _ (by decide +kernel)) ggX5_shownNumber_X5_isClear
theorem dX5_shownNumber_0 : decode cX5_shownNumber 0 = .ok (.aload_n 0, 1) := by decide +kernel
theorem dX5_shownNumber_1 : decode cX5_shownNumber 1 = .ok (.aload_n 0, 1) := by decide +kernel
theorem dX5_shownNumber_2 : decode cX5_shownNumber 2 = .ok (.getfield 13, 3) := by decide +kernel
theorem dX5_shownNumber_5 : decode cX5_shownNumber 5 = .ok (.invokevirtual 147, 3) := by decide +kernel
theorem dX5_shownNumber_8 : decode cX5_shownNumber 8 = .ok (.iconst 0, 1) := by decide +kernel
theorem dX5_shownNumber_9 : decode cX5_shownNumber 9 = .ok (.istore_n 1, 1) := by decide +kernel
theorem dX5_shownNumber_10 : decode cX5_shownNumber 10 = .ok (.iload_n 1, 1) := by decide +kernel
theorem dX5_shownNumber_11 : decode cX5_shownNumber 11 = .ok (.bipush 6, 2) := by decide +kernel
theorem dX5_shownNumber_13 : decode cX5_shownNumber 13 = .ok (.if_icmp .ge 23, 3) := by decide +kernel
theorem dX5_shownNumber_16 : decode cX5_shownNumber 16 = .ok (.aload_n 0, 1) := by decide +kernel
theorem dX5_shownNumber_17 : decode cX5_shownNumber 17 = .ok (.getfield 13, 3) := by decide +kernel
theorem dX5_shownNumber_20 : decode cX5_shownNumber 20 = .ok (.bipush 8, 2) := by decide +kernel
theorem dX5_shownNumber_22 : decode cX5_shownNumber 22 = .ok (.iload_n 1, 1) := by decide +kernel
theorem dX5_shownNumber_23 : decode cX5_shownNumber 23 = .ok (.iadd, 1) := by decide +kernel
theorem dX5_shownNumber_24 : decode cX5_shownNumber 24 = .ok (.iaload, 1) := by decide +kernel
theorem dX5_shownNumber_25 : decode cX5_shownNumber 25 = .ok (.bipush 11, 2) := by decide +kernel
theorem dX5_shownNumber_27 : decode cX5_shownNumber 27 = .ok (.if_icmp .ne 9, 3) := by decide +kernel
theorem dX5_shownNumber_30 : decode cX5_shownNumber 30 = .ok (.iinc 1 1, 3) := by decide +kernel
theorem dX5_shownNumber_33 : decode cX5_shownNumber 33 = .ok (.goto (-23), 3) := by decide +kernel
theorem dX5_shownNumber_36 : decode cX5_shownNumber 36 = .ok (.iload_n 1, 1) := by decide +kernel
theorem dX5_shownNumber_37 : decode cX5_shownNumber 37 = .ok (.bipush 6, 2) := by decide +kernel
theorem dX5_shownNumber_39 : decode cX5_shownNumber 39 = .ok (.if_icmp .ge 21, 3) := by decide +kernel
theorem dX5_shownNumber_42 : decode cX5_shownNumber 42 = .ok (.aload_n 0, 1) := by decide +kernel
theorem dX5_shownNumber_43 : decode cX5_shownNumber 43 = .ok (.getfield 13, 3) := by decide +kernel
theorem dX5_shownNumber_46 : decode cX5_shownNumber 46 = .ok (.bipush 8, 2) := by decide +kernel
theorem dX5_shownNumber_48 : decode cX5_shownNumber 48 = .ok (.iload_n 1, 1) := by decide +kernel
theorem dX5_shownNumber_49 : decode cX5_shownNumber 49 = .ok (.iadd, 1) := by decide +kernel
theorem dX5_shownNumber_50 : decode cX5_shownNumber 50 = .ok (.iaload, 1) := by decide +kernel
theorem dX5_shownNumber_51 : decode cX5_shownNumber 51 = .ok (.bipush 10, 2) := by decide +kernel
theorem dX5_shownNumber_53 : decode cX5_shownNumber 53 = .ok (.if_icmp .ne 7, 3) := by decide +kernel
theorem dX5_shownNumber_56 : decode cX5_shownNumber 56 = .ok (.iconst 1, 1) := by decide +kernel
theorem dX5_shownNumber_57 : decode cX5_shownNumber 57 = .ok (.goto 4, 3) := by decide +kernel
theorem dX5_shownNumber_60 : decode cX5_shownNumber 60 = .ok (.iconst 0, 1) := by decide +kernel
theorem dX5_shownNumber_61 : decode cX5_shownNumber 61 = .ok (.istore_n 2, 1) := by decide +kernel
theorem dX5_shownNumber_62 : decode cX5_shownNumber 62 = .ok (.iload_n 2, 1) := by decide +kernel
theorem dX5_shownNumber_63 : decode cX5_shownNumber 63 = .ok (.ifCond .eq 11, 3) := by decide +kernel
theorem dX5_shownNumber_66 : decode cX5_shownNumber 66 = .ok (.aload_n 0, 1) := by decide +kernel
theorem dX5_shownNumber_67 : decode cX5_shownNumber 67 = .ok (.iload_n 1, 1) := by decide +kernel
theorem dX5_shownNumber_68 : decode cX5_shownNumber 68 = .ok (.invokevirtual 151, 3) := by decide +kernel
theorem dX5_shownNumber_71 : decode cX5_shownNumber 71 = .ok (.ifCond .eq 7, 3) := by decide +kernel
theorem dX5_shownNumber_74 : decode cX5_shownNumber 74 = .ok (.iconst 1, 1) := by decide +kernel
theorem dX5_shownNumber_75 : decode cX5_shownNumber 75 = .ok (.goto 4, 3) := by decide +kernel
theorem dX5_shownNumber_78 : decode cX5_shownNumber 78 = .ok (.iconst 0, 1) := by decide +kernel
theorem dX5_shownNumber_79 : decode cX5_shownNumber 79 = .ok (.istore_n 3, 1) := by decide +kernel
theorem dX5_shownNumber_80 : decode cX5_shownNumber 80 = .ok (.iload_n 1, 1) := by decide +kernel
theorem dX5_shownNumber_81 : decode cX5_shownNumber 81 = .ok (.iload_n 2, 1) := by decide +kernel
theorem dX5_shownNumber_82 : decode cX5_shownNumber 82 = .ok (.ifCond .eq 7, 3) := by decide +kernel
theorem dX5_shownNumber_85 : decode cX5_shownNumber 85 = .ok (.iconst 1, 1) := by decide +kernel
theorem dX5_shownNumber_86 : decode cX5_shownNumber 86 = .ok (.goto 4, 3) := by decide +kernel
theorem dX5_shownNumber_89 : decode cX5_shownNumber 89 = .ok (.iconst 0, 1) := by decide +kernel
theorem dX5_shownNumber_90 : decode cX5_shownNumber 90 = .ok (.iadd, 1) := by decide +kernel
theorem dX5_shownNumber_91 : decode cX5_shownNumber 91 = .ok (.istore_n 1, 1) := by decide +kernel
theorem dX5_shownNumber_92 : decode cX5_shownNumber 92 = .ok (.iload_n 3, 1) := by decide +kernel
theorem dX5_shownNumber_93 : decode cX5_shownNumber 93 = .ok (.ifCond .eq 13, 3) := by decide +kernel
theorem dX5_shownNumber_96 : decode cX5_shownNumber 96 = .ok (.iload_n 1, 1) := by decide +kernel
theorem dX5_shownNumber_97 : decode cX5_shownNumber 97 = .ok (.bipush 6, 2) := by decide +kernel
theorem dX5_shownNumber_99 : decode cX5_shownNumber 99 = .ok (.if_icmp .ge 7, 3) := by decide +kernel
theorem dX5_shownNumber_102 : decode cX5_shownNumber 102 = .ok (.iconst 1, 1) := by decide +kernel
theorem dX5_shownNumber_103 : decode cX5_shownNumber 103 = .ok (.goto 4, 3) := by decide +kernel
theorem dX5_shownNumber_106 : decode cX5_shownNumber 106 = .ok (.iconst 0, 1) := by decide +kernel
theorem dX5_shownNumber_107 : decode cX5_shownNumber 107 = .ok (.istore_n 3, 1) := by decide +kernel
theorem dX5_shownNumber_108 : decode cX5_shownNumber 108 = .ok (.iconst 0, 1) := by decide +kernel
theorem dX5_shownNumber_109 : decode cX5_shownNumber 109 = .ok (.istore 4, 2) := by decide +kernel
theorem dX5_shownNumber_111 : decode cX5_shownNumber 111 = .ok (.iload_n 1, 1) := by decide +kernel
theorem dX5_shownNumber_112 : decode cX5_shownNumber 112 = .ok (.bipush 6, 2) := by decide +kernel
theorem dX5_shownNumber_114 : decode cX5_shownNumber 114 = .ok (.if_icmp .ge 58, 3) := by decide +kernel
theorem dX5_shownNumber_117 : decode cX5_shownNumber 117 = .ok (.iload_n 3, 1) := by decide +kernel
theorem dX5_shownNumber_118 : decode cX5_shownNumber 118 = .ok (.ifCond .eq 29, 3) := by decide +kernel
theorem dX5_shownNumber_121 : decode cX5_shownNumber 121 = .ok (.aload_n 0, 1) := by decide +kernel
theorem dX5_shownNumber_122 : decode cX5_shownNumber 122 = .ok (.getfield 13, 3) := by decide +kernel
theorem dX5_shownNumber_125 : decode cX5_shownNumber 125 = .ok (.bipush 8, 2) := by decide +kernel
theorem dX5_shownNumber_127 : decode cX5_shownNumber 127 = .ok (.iload_n 1, 1) := by decide +kernel
theorem dX5_shownNumber_128 : decode cX5_shownNumber 128 = .ok (.iadd, 1) := by decide +kernel
theorem dX5_shownNumber_129 : decode cX5_shownNumber 129 = .ok (.iaload, 1) := by decide +kernel
theorem dX5_shownNumber_130 : decode cX5_shownNumber 130 = .ok (.bipush 10, 2) := by decide +kernel
theorem dX5_shownNumber_132 : decode cX5_shownNumber 132 = .ok (.if_icmp .ge 15, 3) := by decide +kernel
theorem dX5_shownNumber_135 : decode cX5_shownNumber 135 = .ok (.aload_n 0, 1) := by decide +kernel
theorem dX5_shownNumber_136 : decode cX5_shownNumber 136 = .ok (.iload_n 1, 1) := by decide +kernel
theorem dX5_shownNumber_137 : decode cX5_shownNumber 137 = .ok (.invokevirtual 151, 3) := by decide +kernel
theorem dX5_shownNumber_140 : decode cX5_shownNumber 140 = .ok (.ifCond .eq 7, 3) := by decide +kernel
theorem dX5_shownNumber_143 : decode cX5_shownNumber 143 = .ok (.iconst 1, 1) := by decide +kernel
theorem dX5_shownNumber_144 : decode cX5_shownNumber 144 = .ok (.goto 4, 3) := by decide +kernel
theorem dX5_shownNumber_147 : decode cX5_shownNumber 147 = .ok (.iconst 0, 1) := by decide +kernel
theorem dX5_shownNumber_148 : decode cX5_shownNumber 148 = .ok (.istore_n 3, 1) := by decide +kernel
theorem dX5_shownNumber_149 : decode cX5_shownNumber 149 = .ok (.bipush 10, 2) := by decide +kernel
theorem dX5_shownNumber_151 : decode cX5_shownNumber 151 = .ok (.iload 4, 2) := by decide +kernel
theorem dX5_shownNumber_153 : decode cX5_shownNumber 153 = .ok (.imul, 1) := by decide +kernel
theorem dX5_shownNumber_154 : decode cX5_shownNumber 154 = .ok (.aload_n 0, 1) := by decide +kernel
theorem dX5_shownNumber_155 : decode cX5_shownNumber 155 = .ok (.getfield 13, 3) := by decide +kernel
theorem dX5_shownNumber_158 : decode cX5_shownNumber 158 = .ok (.bipush 8, 2) := by decide +kernel
theorem dX5_shownNumber_160 : decode cX5_shownNumber 160 = .ok (.iload_n 1, 1) := by decide +kernel
theorem dX5_shownNumber_161 : decode cX5_shownNumber 161 = .ok (.iadd, 1) := by decide +kernel
theorem dX5_shownNumber_162 : decode cX5_shownNumber 162 = .ok (.iaload, 1) := by decide +kernel
theorem dX5_shownNumber_163 : decode cX5_shownNumber 163 = .ok (.iadd, 1) := by decide +kernel
theorem dX5_shownNumber_164 : decode cX5_shownNumber 164 = .ok (.istore 4, 2) := by decide +kernel
theorem dX5_shownNumber_166 : decode cX5_shownNumber 166 = .ok (.iinc 1 1, 3) := by decide +kernel
theorem dX5_shownNumber_169 : decode cX5_shownNumber 169 = .ok (.goto (-58), 3) := by decide +kernel
theorem dX5_shownNumber_172 : decode cX5_shownNumber 172 = .ok (.iload_n 3, 1) := by decide +kernel
theorem dX5_shownNumber_173 : decode cX5_shownNumber 173 = .ok (.ifCond .eq 18, 3) := by decide +kernel
theorem dX5_shownNumber_176 : decode cX5_shownNumber 176 = .ok (.iload_n 2, 1) := by decide +kernel
theorem dX5_shownNumber_177 : decode cX5_shownNumber 177 = .ok (.ifCond .eq 9, 3) := by decide +kernel
theorem dX5_shownNumber_180 : decode cX5_shownNumber 180 = .ok (.iload 4, 2) := by decide +kernel
theorem dX5_shownNumber_182 : decode cX5_shownNumber 182 = .ok (.ineg, 1) := by decide +kernel
theorem dX5_shownNumber_183 : decode cX5_shownNumber 183 = .ok (.goto 9, 3) := by decide +kernel
theorem dX5_shownNumber_186 : decode cX5_shownNumber 186 = .ok (.iload 4, 2) := by decide +kernel
theorem dX5_shownNumber_188 : decode cX5_shownNumber 188 = .ok (.goto 4, 3) := by decide +kernel
theorem dX5_shownNumber_191 : decode cX5_shownNumber 191 = .ok (.iconst (-1), 1) := by decide +kernel
theorem dX5_shownNumber_192 : decode cX5_shownNumber 192 = .ok (.ireturn, 1) := by decide +kernel
set_option maxRecDepth 20000 in
theorem ggX5_numberShown_X5_shownNumber : GoodIn wsX5_numberShown wsX5_shownNumber := goodIn_r _ [6, 7, 8, 9, 10, 5, 11, 12, 13, 14, 15, 16, 17, 18, 19, 20, 21, 22, 23, 24, 25, 26, 27, 28, 29, 30, 31, 32, 33, 34, 35, 36, 37, 38, 39, 40, 41, 42, 43, 44, 45, 46, 47, 48, 49, 50, 51, 52, 53, 54, 55, 56, 57, 58, 59, 60, 61, 62, 63, 64, 65, 66, 67, 68, 69] (by decide +kernel) (by decide +kernel)
set_option maxRecDepth 20000 in
theorem gX5_numberShown_X5_shownNumber : GoodIn wsX5_numberShown (wsV RX5 188 RX5 yX5_shownNumber wsX5_shownNumber) := goodIn_app (goodIn_of _ (by decide +kernel)) ggX5_numberShown_X5_shownNumber
theorem dX5_numberShown_0 : decode cX5_numberShown 0 = .ok (.aload_n 0, 1) := by decide +kernel
theorem dX5_numberShown_1 : decode cX5_numberShown 1 = .ok (.iconst 0, 1) := by decide +kernel
theorem dX5_numberShown_2 : decode cX5_numberShown 2 = .ok (.putfield 37, 3) := by decide +kernel
theorem dX5_numberShown_5 : decode cX5_numberShown 5 = .ok (.aload_n 0, 1) := by decide +kernel
theorem dX5_numberShown_6 : decode cX5_numberShown 6 = .ok (.invokevirtual 188, 3) := by decide +kernel
theorem dX5_numberShown_9 : decode cX5_numberShown 9 = .ok (.ireturn, 1) := by decide +kernel
set_option maxRecDepth 20000 in
theorem ggX5_even_X5_frames : GoodIn wsX5_even wsX5_frames := goodIn_r _ [6, 7, 8, 9, 10, 11, 12, 5, 13, 14, 15, 16, 17, 18, 19, 24, 25, 26, 27, 28, 29, 30, 31, 32, 33, 34, 35, 36, 37, 38, 39] (by decide +kernel) (by decide +kernel)
set_option maxRecDepth 20000 in
theorem gX5_even_X5_frames : GoodIn wsX5_even (wsV RX5 147 RX5 yX5_frames wsX5_frames) := goodIn_app (goodIn_of _ (by decide +kernel)) ggX5_even_X5_frames
set_option maxRecDepth 20000 in
theorem ggX5_even_X5_light : GoodIn wsX5_even wsX5_light := goodIn_r _ [23, 7, 10, 24, 25, 26, 27, 28, 29, 30, 31, 32, 33, 34, 35, 36, 37, 38, 39] (by decide +kernel) (by decide +kernel)
set_option maxRecDepth 20000 in
theorem gX5_even_X5_light : GoodIn wsX5_even (wsV RX5 70 RX5 yX5_light wsX5_light) := goodIn_app (goodIn_of _ (by decide +kernel)) ggX5_even_X5_light
theorem dX5_even_0 : decode cX5_even 0 = .ok (.aload_n 0, 1) := by decide +kernel
theorem dX5_even_1 : decode cX5_even 1 = .ok (.aload_n 0, 1) := by decide +kernel
theorem dX5_even_2 : decode cX5_even 2 = .ok (.getfield 13, 3) := by decide +kernel
theorem dX5_even_5 : decode cX5_even 5 = .ok (.invokevirtual 147, 3) := by decide +kernel
theorem dX5_even_8 : decode cX5_even 8 = .ok (.iconst (-1), 1) := by decide +kernel
theorem dX5_even_9 : decode cX5_even 9 = .ok (.istore_n 1, 1) := by decide +kernel
theorem dX5_even_10 : decode cX5_even 10 = .ok (.iconst 0, 1) := by decide +kernel
theorem dX5_even_11 : decode cX5_even 11 = .ok (.istore_n 2, 1) := by decide +kernel
theorem dX5_even_12 : decode cX5_even 12 = .ok (.iconst 0, 1) := by decide +kernel
theorem dX5_even_13 : decode cX5_even 13 = .ok (.istore_n 3, 1) := by decide +kernel
theorem dX5_even_14 : decode cX5_even 14 = .ok (.iload_n 3, 1) := by decide +kernel
theorem dX5_even_15 : decode cX5_even 15 = .ok (.bipush 6, 2) := by decide +kernel
theorem dX5_even_17 : decode cX5_even 17 = .ok (.if_icmp .ge 59, 3) := by decide +kernel
theorem dX5_even_20 : decode cX5_even 20 = .ok (.aload_n 0, 1) := by decide +kernel
theorem dX5_even_21 : decode cX5_even 21 = .ok (.getfield 13, 3) := by decide +kernel
theorem dX5_even_24 : decode cX5_even 24 = .ok (.bipush 14, 2) := by decide +kernel
theorem dX5_even_26 : decode cX5_even 26 = .ok (.iload_n 3, 1) := by decide +kernel
theorem dX5_even_27 : decode cX5_even 27 = .ok (.iadd, 1) := by decide +kernel
theorem dX5_even_28 : decode cX5_even 28 = .ok (.iaload, 1) := by decide +kernel
theorem dX5_even_29 : decode cX5_even 29 = .ok (.ifCond .le 41, 3) := by decide +kernel
theorem dX5_even_32 : decode cX5_even 32 = .ok (.aload_n 0, 1) := by decide +kernel
theorem dX5_even_33 : decode cX5_even 33 = .ok (.iload_n 3, 1) := by decide +kernel
theorem dX5_even_34 : decode cX5_even 34 = .ok (.invokevirtual 70, 3) := by decide +kernel
theorem dX5_even_37 : decode cX5_even 37 = .ok (.istore 4, 2) := by decide +kernel
theorem dX5_even_39 : decode cX5_even 39 = .ok (.iload_n 1, 1) := by decide +kernel
theorem dX5_even_40 : decode cX5_even 40 = .ok (.iconst (-1), 1) := by decide +kernel
theorem dX5_even_41 : decode cX5_even 41 = .ok (.if_icmp .eq 9, 3) := by decide +kernel
theorem dX5_even_44 : decode cX5_even 44 = .ok (.iload 4, 2) := by decide +kernel
theorem dX5_even_46 : decode cX5_even 46 = .ok (.iload_n 1, 1) := by decide +kernel
theorem dX5_even_47 : decode cX5_even 47 = .ok (.if_icmp .ge 8, 3) := by decide +kernel
theorem dX5_even_50 : decode cX5_even 50 = .ok (.iload 4, 2) := by decide +kernel
theorem dX5_even_52 : decode cX5_even 52 = .ok (.goto 4, 3) := by decide +kernel
theorem dX5_even_55 : decode cX5_even 55 = .ok (.iload_n 1, 1) := by decide +kernel
theorem dX5_even_56 : decode cX5_even 56 = .ok (.istore_n 1, 1) := by decide +kernel
theorem dX5_even_57 : decode cX5_even 57 = .ok (.iload 4, 2) := by decide +kernel
theorem dX5_even_59 : decode cX5_even 59 = .ok (.iload_n 2, 1) := by decide +kernel
theorem dX5_even_60 : decode cX5_even 60 = .ok (.if_icmp .le 8, 3) := by decide +kernel
theorem dX5_even_63 : decode cX5_even 63 = .ok (.iload 4, 2) := by decide +kernel
theorem dX5_even_65 : decode cX5_even 65 = .ok (.goto 4, 3) := by decide +kernel
theorem dX5_even_68 : decode cX5_even 68 = .ok (.iload_n 2, 1) := by decide +kernel
theorem dX5_even_69 : decode cX5_even 69 = .ok (.istore_n 2, 1) := by decide +kernel
theorem dX5_even_70 : decode cX5_even 70 = .ok (.iinc 3 1, 3) := by decide +kernel
theorem dX5_even_73 : decode cX5_even 73 = .ok (.goto (-59), 3) := by decide +kernel
theorem dX5_even_76 : decode cX5_even 76 = .ok (.iload_n 2, 1) := by decide +kernel
theorem dX5_even_77 : decode cX5_even 77 = .ok (.ifCond .ne 7, 3) := by decide +kernel
theorem dX5_even_80 : decode cX5_even 80 = .ok (.dconst 1, 1) := by decide +kernel
theorem dX5_even_81 : decode cX5_even 81 = .ok (.goto 8, 3) := by decide +kernel
theorem dX5_even_84 : decode cX5_even 84 = .ok (.iload_n 1, 1) := by decide +kernel
theorem dX5_even_85 : decode cX5_even 85 = .ok (.i2d, 1) := by decide +kernel
theorem dX5_even_86 : decode cX5_even 86 = .ok (.iload_n 2, 1) := by decide +kernel
theorem dX5_even_87 : decode cX5_even 87 = .ok (.i2d, 1) := by decide +kernel
theorem dX5_even_88 : decode cX5_even 88 = .ok (.ddiv, 1) := by decide +kernel
theorem dX5_even_89 : decode cX5_even 89 = .ok (.dreturn, 1) := by decide +kernel
set_option maxRecDepth 20000 in
theorem ggX5_evenness_X5_even : GoodIn wsX5_evenness wsX5_even := goodIn_r _ [6, 7, 8, 9, 10, 5, 11, 12, 13, 14, 15, 16, 17, 18, 19, 20, 21, 22, 23, 24, 25, 26, 27, 28, 29, 30, 31, 32, 33, 34, 35, 36, 37, 38, 39, 40, 41, 42, 43, 44] (by decide +kernel) (by decide +kernel)
set_option maxRecDepth 20000 in
theorem gX5_evenness_X5_even : GoodIn wsX5_evenness (wsV RX5 191 RX5 yX5_even wsX5_even) := goodIn_app (goodIn_of _ (by decide +kernel)) ggX5_evenness_X5_even
theorem dX5_evenness_0 : decode cX5_evenness 0 = .ok (.aload_n 0, 1) := by decide +kernel
theorem dX5_evenness_1 : decode cX5_evenness 1 = .ok (.iconst 0, 1) := by decide +kernel
theorem dX5_evenness_2 : decode cX5_evenness 2 = .ok (.putfield 37, 3) := by decide +kernel
theorem dX5_evenness_5 : decode cX5_evenness 5 = .ok (.aload_n 0, 1) := by decide +kernel
theorem dX5_evenness_6 : decode cX5_evenness 6 = .ok (.invokevirtual 191, 3) := by decide +kernel
theorem dX5_evenness_9 : decode cX5_evenness 9 = .ok (.dreturn, 1) := by decide +kernel
set_option maxRecDepth 20000 in
theorem ggX5_digest_X5_counted : GoodIn wsX5_digest wsX5_counted := goodIn_r _ [13, 4, 14, 15, 16, 17, 12, 18, 19, 20, 6, 5, 21, 22, 23, 24, 25, 26, 27, 28, 29, 30, 31, 32, 33, 34, 35, 36, 37, 38, 39, 40, 41, 42, 43, 44, 45, 46, 47, 48, 49, 50, 51, 52, 53, 54, 55, 56, 57, 58, 59, 60, 61, 62, 63, 64, 65, 66, 67, 68, 69, 70, 71, 72, 73, 115, 116, 117, 118, 119, 120, 121, 122, 123, 124, 125, 126, 127, 128, 129, 130] (by decide +kernel) (by decide +kernel)
set_option maxRecDepth 20000 in
theorem gX5_digest_X5_counted : GoodIn wsX5_digest (wsV RX5 171 RX5 yX5_counted wsX5_counted) := goodIn_app (goodIn_of _ (by decide +kernel)) ggX5_digest_X5_counted
set_option maxRecDepth 20000 in
theorem ggX5_digest_X5_ofDigit : GoodIn wsX5_digest wsX5_ofDigit := goodIn_r _ [77, 4, 62, 63, 64, 12, 65, 66, 58, 59, 60, 61, 15, 16, 17, 18, 19, 20, 6, 5, 21, 22, 23, 24, 25, 26, 27, 28, 29, 50, 51, 52, 53, 42, 43, 44, 45, 38, 39, 40, 41, 46, 47, 48, 49, 54, 55, 56, 57, 115, 116, 117, 118, 119, 120, 121, 122, 123, 124, 125, 126, 127, 128, 129, 130] (by decide +kernel) (by decide +kernel)
set_option maxRecDepth 20000 in
theorem gX5_digest_X5_ofDigit : GoodIn wsX5_digest (wsV RX5 154 RX5 yX5_ofDigit wsX5_ofDigit) := goodIn_app (goodIn_of _ (by decide +kernel)) ggX5_digest_X5_ofDigit
set_option maxRecDepth 20000 in
theorem ggX5_digest_X5_byLevel : GoodIn wsX5_digest wsX5_byLevel := goodIn_r _ [81, 82, 83, 84, 85, 12, 86, 4, 15, 16, 17, 18, 19, 20, 6, 5, 21, 22, 23, 24, 25, 26, 27, 28, 29, 50, 51, 52, 53, 34, 35, 36, 37, 38, 39, 40, 41, 42, 43, 44, 45, 46, 47, 48, 49, 54, 55, 56, 57, 58, 59, 60, 61, 62, 63, 64, 65, 66, 115, 116, 117, 118, 119, 120, 121, 122, 123, 124, 125, 126, 127, 128, 129, 130] (by decide +kernel) (by decide +kernel)
set_option maxRecDepth 20000 in
theorem gX5_digest_X5_byLevel : GoodIn wsX5_digest (wsV RX5 178 RX5 yX5_byLevel wsX5_byLevel) := goodIn_app (goodIn_of _ (by decide +kernel)) ggX5_digest_X5_byLevel
set_option maxRecDepth 20000 in
theorem ggX5_digest_X5_least : GoodIn wsX5_digest wsX5_least := goodIn_r _ [90, 82, 83, 84, 85, 12, 86, 4, 15, 16, 17, 18, 19, 20, 6, 5, 21, 22, 23, 24, 25, 26, 27, 28, 29, 46, 47, 48, 49, 50, 51, 52, 53, 38, 39, 40, 41, 42, 43, 44, 45, 115, 116, 117, 118, 119, 120, 121, 122, 123, 124, 125, 126, 127, 128, 129, 130] (by decide +kernel) (by decide +kernel)
set_option maxRecDepth 20000 in
theorem gX5_digest_X5_least : GoodIn wsX5_digest (wsV RX5 182 RX5 yX5_least wsX5_least) := goodIn_app (goodIn_of _ (by decide +kernel)) ggX5_digest_X5_least
set_option maxRecDepth 20000 in
theorem ggX5_digest_X5_alike : GoodIn wsX5_digest wsX5_alike := goodIn_r _ [94, 62, 63, 64, 12, 65, 66, 4, 115, 116, 117, 118, 119, 120, 121, 122, 123, 124, 125, 126, 127, 128, 129, 130] (by decide +kernel) (by decide +kernel)
set_option maxRecDepth 20000 in
theorem gX5_digest_X5_alike : GoodIn wsX5_digest (wsV RX5 185 RX5 yX5_alike wsX5_alike) := goodIn_app (goodIn_of _ (by decide +kernel)) ggX5_digest_X5_alike
set_option maxRecDepth 20000 in
theorem ggX5_digest_X5_frames : GoodIn wsX5_digest wsX5_frames := goodIn_r _ [18, 19, 20, 6, 5, 21, 22, 12, 23, 24, 25, 26, 27, 28, 29, 115, 116, 117, 118, 119, 120, 121, 122, 123, 124, 125, 126, 127, 128, 129, 130] (by decide +kernel) (by decide +kernel)
set_option maxRecDepth 20000 in
theorem gX5_digest_X5_frames : GoodIn wsX5_digest (wsV RX5 147 RX5 yX5_frames wsX5_frames) := goodIn_app (goodIn_of _ (by decide +kernel)) ggX5_digest_X5_frames
set_option maxRecDepth 20000 in
theorem ggX5_digest_X5_shownNumber : GoodIn wsX5_digest wsX5_shownNumber := goodIn_r _ [98, 4, 15, 16, 17, 12, 18, 19, 20, 6, 5, 21, 22, 23, 24, 25, 26, 27, 28, 29, 54, 55, 56, 57, 58, 59, 60, 61, 62, 63, 64, 65, 66, 46, 47, 48, 49, 50, 51, 52, 53, 38, 39, 40, 41, 42, 43, 44, 45, 115, 116, 117, 118, 119, 120, 121, 122, 123, 124, 125, 126, 127, 128, 129, 130] (by decide +kernel) (by decide +kernel)
set_option maxRecDepth 20000 in
theorem gX5_digest_X5_shownNumber : GoodIn wsX5_digest (wsV RX5 188 RX5 yX5_shownNumber wsX5_shownNumber) := goodIn_app (goodIn_of _ (by decide +kernel)) ggX5_digest_X5_shownNumber
set_option maxRecDepth 20000 in
theorem ggX5_digest_X5_even : GoodIn wsX5_digest wsX5_even := goodIn_r _ [102, 4, 15, 16, 17, 12, 18, 19, 20, 6, 5, 21, 22, 23, 24, 25, 26, 27, 28, 29, 50, 51, 52, 53, 115, 116, 117, 118, 119, 120, 121, 122, 123, 124, 125, 126, 127, 128, 129, 130] (by decide +kernel) (by decide +kernel)
set_option maxRecDepth 20000 in
theorem gX5_digest_X5_even : GoodIn wsX5_digest (wsV RX5 191 RX5 yX5_even wsX5_even) := goodIn_app (goodIn_of _ (by decide +kernel)) ggX5_digest_X5_even
set_option maxRecDepth 20000 in
theorem ggX5_digest_Jxe99ae_doubleToLongBits_ccdee : GoodIn wsX5_digest wsJxe99ae_doubleToLongBits_ccdee := goodIn_r _ [106, 107, 108, 109, 110, 111, 112, 113, 105, 114] (by decide +kernel) (by decide +kernel)
set_option maxRecDepth 20000 in
theorem gX5_digest_Jxe99ae_doubleToLongBits_ccdee : GoodIn wsX5_digest (va_wsS RX5 199 yJxe99ae_doubleToLongBits_ccdee wsJxe99ae_doubleToLongBits_ccdee) := goodIn_app (goodIn_of _ (by decide +kernel)) ggX5_digest_Jxe99ae_doubleToLongBits_ccdee
theorem dX5_digest_0 : decode cX5_digest 0 = .ok (.aload_n 0, 1) := by decide +kernel
theorem dX5_digest_1 : decode cX5_digest 1 = .ok (.iconst 0, 1) := by decide +kernel
theorem dX5_digest_2 : decode cX5_digest 2 = .ok (.putfield 37, 3) := by decide +kernel
theorem dX5_digest_5 : decode cX5_digest 5 = .ok (.ldc2_w 195, 3) := by decide +kernel
theorem dX5_digest_8 : decode cX5_digest 8 = .ok (.lstore_n 1, 1) := by decide +kernel
theorem dX5_digest_9 : decode cX5_digest 9 = .ok (.iconst 0, 1) := by decide +kernel
theorem dX5_digest_10 : decode cX5_digest 10 = .ok (.istore_n 3, 1) := by decide +kernel
theorem dX5_digest_11 : decode cX5_digest 11 = .ok (.iload_n 3, 1) := by decide +kernel
theorem dX5_digest_12 : decode cX5_digest 12 = .ok (.bipush 11, 2) := by decide +kernel
theorem dX5_digest_14 : decode cX5_digest 14 = .ok (.if_icmp .ge 22, 3) := by decide +kernel
theorem dX5_digest_17 : decode cX5_digest 17 = .ok (.ldc2_w 197, 3) := by decide +kernel
theorem dX5_digest_20 : decode cX5_digest 20 = .ok (.lload_n 1, 1) := by decide +kernel
theorem dX5_digest_21 : decode cX5_digest 21 = .ok (.lmul, 1) := by decide +kernel
theorem dX5_digest_22 : decode cX5_digest 22 = .ok (.aload_n 0, 1) := by decide +kernel
theorem dX5_digest_23 : decode cX5_digest 23 = .ok (.iload_n 3, 1) := by decide +kernel
theorem dX5_digest_24 : decode cX5_digest 24 = .ok (.invokevirtual 171, 3) := by decide +kernel
theorem dX5_digest_27 : decode cX5_digest 27 = .ok (.i2l, 1) := by decide +kernel
theorem dX5_digest_28 : decode cX5_digest 28 = .ok (.ladd, 1) := by decide +kernel
theorem dX5_digest_29 : decode cX5_digest 29 = .ok (.lstore_n 1, 1) := by decide +kernel
theorem dX5_digest_30 : decode cX5_digest 30 = .ok (.iinc 3 1, 3) := by decide +kernel
theorem dX5_digest_33 : decode cX5_digest 33 = .ok (.goto (-22), 3) := by decide +kernel
theorem dX5_digest_36 : decode cX5_digest 36 = .ok (.iconst 0, 1) := by decide +kernel
theorem dX5_digest_37 : decode cX5_digest 37 = .ok (.istore_n 3, 1) := by decide +kernel
theorem dX5_digest_38 : decode cX5_digest 38 = .ok (.iload_n 3, 1) := by decide +kernel
theorem dX5_digest_39 : decode cX5_digest 39 = .ok (.iconst 5, 1) := by decide +kernel
theorem dX5_digest_40 : decode cX5_digest 40 = .ok (.if_icmp .ge 25, 3) := by decide +kernel
theorem dX5_digest_43 : decode cX5_digest 43 = .ok (.ldc2_w 197, 3) := by decide +kernel
theorem dX5_digest_46 : decode cX5_digest 46 = .ok (.lload_n 1, 1) := by decide +kernel
theorem dX5_digest_47 : decode cX5_digest 47 = .ok (.lmul, 1) := by decide +kernel
theorem dX5_digest_48 : decode cX5_digest 48 = .ok (.aload_n 0, 1) := by decide +kernel
theorem dX5_digest_49 : decode cX5_digest 49 = .ok (.getfield 13, 3) := by decide +kernel
theorem dX5_digest_52 : decode cX5_digest 52 = .ok (.iconst 2, 1) := by decide +kernel
theorem dX5_digest_53 : decode cX5_digest 53 = .ok (.iload_n 3, 1) := by decide +kernel
theorem dX5_digest_54 : decode cX5_digest 54 = .ok (.iadd, 1) := by decide +kernel
theorem dX5_digest_55 : decode cX5_digest 55 = .ok (.iaload, 1) := by decide +kernel
theorem dX5_digest_56 : decode cX5_digest 56 = .ok (.i2l, 1) := by decide +kernel
theorem dX5_digest_57 : decode cX5_digest 57 = .ok (.ladd, 1) := by decide +kernel
theorem dX5_digest_58 : decode cX5_digest 58 = .ok (.lstore_n 1, 1) := by decide +kernel
theorem dX5_digest_59 : decode cX5_digest 59 = .ok (.iinc 3 1, 3) := by decide +kernel
theorem dX5_digest_62 : decode cX5_digest 62 = .ok (.goto (-24), 3) := by decide +kernel
theorem dX5_digest_65 : decode cX5_digest 65 = .ok (.iconst 0, 1) := by decide +kernel
theorem dX5_digest_66 : decode cX5_digest 66 = .ok (.istore_n 3, 1) := by decide +kernel
theorem dX5_digest_67 : decode cX5_digest 67 = .ok (.iload_n 3, 1) := by decide +kernel
theorem dX5_digest_68 : decode cX5_digest 68 = .ok (.bipush 6, 2) := by decide +kernel
theorem dX5_digest_70 : decode cX5_digest 70 = .ok (.if_icmp .ge 135, 3) := by decide +kernel
theorem dX5_digest_73 : decode cX5_digest 73 = .ok (.iconst 0, 1) := by decide +kernel
theorem dX5_digest_74 : decode cX5_digest 74 = .ok (.istore 4, 2) := by decide +kernel
theorem dX5_digest_76 : decode cX5_digest 76 = .ok (.iload 4, 2) := by decide +kernel
theorem dX5_digest_78 : decode cX5_digest 78 = .ok (.bipush 12, 2) := by decide +kernel
theorem dX5_digest_80 : decode cX5_digest 80 = .ok (.if_icmp .ge 24, 3) := by decide +kernel
theorem dX5_digest_83 : decode cX5_digest 83 = .ok (.ldc2_w 197, 3) := by decide +kernel
theorem dX5_digest_86 : decode cX5_digest 86 = .ok (.lload_n 1, 1) := by decide +kernel
theorem dX5_digest_87 : decode cX5_digest 87 = .ok (.lmul, 1) := by decide +kernel
theorem dX5_digest_88 : decode cX5_digest 88 = .ok (.aload_n 0, 1) := by decide +kernel
theorem dX5_digest_89 : decode cX5_digest 89 = .ok (.iload_n 3, 1) := by decide +kernel
theorem dX5_digest_90 : decode cX5_digest 90 = .ok (.iload 4, 2) := by decide +kernel
theorem dX5_digest_92 : decode cX5_digest 92 = .ok (.invokevirtual 154, 3) := by decide +kernel
theorem dX5_digest_95 : decode cX5_digest 95 = .ok (.i2l, 1) := by decide +kernel
theorem dX5_digest_96 : decode cX5_digest 96 = .ok (.ladd, 1) := by decide +kernel
theorem dX5_digest_97 : decode cX5_digest 97 = .ok (.lstore_n 1, 1) := by decide +kernel
theorem dX5_digest_98 : decode cX5_digest 98 = .ok (.iinc 4 1, 3) := by decide +kernel
theorem dX5_digest_101 : decode cX5_digest 101 = .ok (.goto (-25), 3) := by decide +kernel
theorem dX5_digest_104 : decode cX5_digest 104 = .ok (.iconst 0, 1) := by decide +kernel
theorem dX5_digest_105 : decode cX5_digest 105 = .ok (.istore 4, 2) := by decide +kernel
theorem dX5_digest_107 : decode cX5_digest 107 = .ok (.iload 4, 2) := by decide +kernel
theorem dX5_digest_109 : decode cX5_digest 109 = .ok (.bipush 7, 2) := by decide +kernel
theorem dX5_digest_111 : decode cX5_digest 111 = .ok (.if_icmp .ge 32, 3) := by decide +kernel
theorem dX5_digest_114 : decode cX5_digest 114 = .ok (.ldc2_w 197, 3) := by decide +kernel
theorem dX5_digest_117 : decode cX5_digest 117 = .ok (.lload_n 1, 1) := by decide +kernel
theorem dX5_digest_118 : decode cX5_digest 118 = .ok (.lmul, 1) := by decide +kernel
theorem dX5_digest_119 : decode cX5_digest 119 = .ok (.aload_n 0, 1) := by decide +kernel
theorem dX5_digest_120 : decode cX5_digest 120 = .ok (.getfield 13, 3) := by decide +kernel
theorem dX5_digest_123 : decode cX5_digest 123 = .ok (.bipush 38, 2) := by decide +kernel
theorem dX5_digest_125 : decode cX5_digest 125 = .ok (.bipush 7, 2) := by decide +kernel
theorem dX5_digest_127 : decode cX5_digest 127 = .ok (.iload_n 3, 1) := by decide +kernel
theorem dX5_digest_128 : decode cX5_digest 128 = .ok (.imul, 1) := by decide +kernel
theorem dX5_digest_129 : decode cX5_digest 129 = .ok (.iadd, 1) := by decide +kernel
theorem dX5_digest_130 : decode cX5_digest 130 = .ok (.iload 4, 2) := by decide +kernel
theorem dX5_digest_132 : decode cX5_digest 132 = .ok (.iadd, 1) := by decide +kernel
theorem dX5_digest_133 : decode cX5_digest 133 = .ok (.iaload, 1) := by decide +kernel
theorem dX5_digest_134 : decode cX5_digest 134 = .ok (.i2l, 1) := by decide +kernel
theorem dX5_digest_135 : decode cX5_digest 135 = .ok (.ladd, 1) := by decide +kernel
theorem dX5_digest_136 : decode cX5_digest 136 = .ok (.lstore_n 1, 1) := by decide +kernel
theorem dX5_digest_137 : decode cX5_digest 137 = .ok (.iinc 4 1, 3) := by decide +kernel
theorem dX5_digest_140 : decode cX5_digest 140 = .ok (.goto (-33), 3) := by decide +kernel
theorem dX5_digest_143 : decode cX5_digest 143 = .ok (.iconst 0, 1) := by decide +kernel
theorem dX5_digest_144 : decode cX5_digest 144 = .ok (.istore 4, 2) := by decide +kernel
theorem dX5_digest_146 : decode cX5_digest 146 = .ok (.iload 4, 2) := by decide +kernel
theorem dX5_digest_148 : decode cX5_digest 148 = .ok (.iconst 3, 1) := by decide +kernel
theorem dX5_digest_149 : decode cX5_digest 149 = .ok (.if_icmp .ge 26, 3) := by decide +kernel
theorem dX5_digest_152 : decode cX5_digest 152 = .ok (.ldc2_w 197, 3) := by decide +kernel
theorem dX5_digest_155 : decode cX5_digest 155 = .ok (.lload_n 1, 1) := by decide +kernel
theorem dX5_digest_156 : decode cX5_digest 156 = .ok (.lmul, 1) := by decide +kernel
theorem dX5_digest_157 : decode cX5_digest 157 = .ok (.aload_n 0, 1) := by decide +kernel
theorem dX5_digest_158 : decode cX5_digest 158 = .ok (.iload_n 3, 1) := by decide +kernel
theorem dX5_digest_159 : decode cX5_digest 159 = .ok (.bipush 9, 2) := by decide +kernel
theorem dX5_digest_161 : decode cX5_digest 161 = .ok (.iload 4, 2) := by decide +kernel
theorem dX5_digest_163 : decode cX5_digest 163 = .ok (.invokevirtual 178, 3) := by decide +kernel
theorem dX5_digest_166 : decode cX5_digest 166 = .ok (.i2l, 1) := by decide +kernel
theorem dX5_digest_167 : decode cX5_digest 167 = .ok (.ladd, 1) := by decide +kernel
theorem dX5_digest_168 : decode cX5_digest 168 = .ok (.lstore_n 1, 1) := by decide +kernel
theorem dX5_digest_169 : decode cX5_digest 169 = .ok (.iinc 4 1, 3) := by decide +kernel
theorem dX5_digest_172 : decode cX5_digest 172 = .ok (.goto (-26), 3) := by decide +kernel
theorem dX5_digest_175 : decode cX5_digest 175 = .ok (.ldc2_w 197, 3) := by decide +kernel
theorem dX5_digest_178 : decode cX5_digest 178 = .ok (.ldc2_w 197, 3) := by decide +kernel
theorem dX5_digest_181 : decode cX5_digest 181 = .ok (.lload_n 1, 1) := by decide +kernel
theorem dX5_digest_182 : decode cX5_digest 182 = .ok (.lmul, 1) := by decide +kernel
theorem dX5_digest_183 : decode cX5_digest 183 = .ok (.aload_n 0, 1) := by decide +kernel
theorem dX5_digest_184 : decode cX5_digest 184 = .ok (.iload_n 3, 1) := by decide +kernel
theorem dX5_digest_185 : decode cX5_digest 185 = .ok (.invokevirtual 182, 3) := by decide +kernel
theorem dX5_digest_188 : decode cX5_digest 188 = .ok (.i2l, 1) := by decide +kernel
theorem dX5_digest_189 : decode cX5_digest 189 = .ok (.ladd, 1) := by decide +kernel
theorem dX5_digest_190 : decode cX5_digest 190 = .ok (.lmul, 1) := by decide +kernel
theorem dX5_digest_191 : decode cX5_digest 191 = .ok (.aload_n 0, 1) := by decide +kernel
theorem dX5_digest_192 : decode cX5_digest 192 = .ok (.iload_n 3, 1) := by decide +kernel
theorem dX5_digest_193 : decode cX5_digest 193 = .ok (.invokevirtual 185, 3) := by decide +kernel
theorem dX5_digest_196 : decode cX5_digest 196 = .ok (.i2l, 1) := by decide +kernel
theorem dX5_digest_197 : decode cX5_digest 197 = .ok (.ladd, 1) := by decide +kernel
theorem dX5_digest_198 : decode cX5_digest 198 = .ok (.lstore_n 1, 1) := by decide +kernel
theorem dX5_digest_199 : decode cX5_digest 199 = .ok (.iinc 3 1, 3) := by decide +kernel
theorem dX5_digest_202 : decode cX5_digest 202 = .ok (.goto (-135), 3) := by decide +kernel
theorem dX5_digest_205 : decode cX5_digest 205 = .ok (.aload_n 0, 1) := by decide +kernel
theorem dX5_digest_206 : decode cX5_digest 206 = .ok (.aload_n 0, 1) := by decide +kernel
theorem dX5_digest_207 : decode cX5_digest 207 = .ok (.getfield 13, 3) := by decide +kernel
theorem dX5_digest_210 : decode cX5_digest 210 = .ok (.invokevirtual 147, 3) := by decide +kernel
theorem dX5_digest_213 : decode cX5_digest 213 = .ok (.iconst 0, 1) := by decide +kernel
theorem dX5_digest_214 : decode cX5_digest 214 = .ok (.istore_n 3, 1) := by decide +kernel
theorem dX5_digest_215 : decode cX5_digest 215 = .ok (.iload_n 3, 1) := by decide +kernel
theorem dX5_digest_216 : decode cX5_digest 216 = .ok (.bipush 6, 2) := by decide +kernel
theorem dX5_digest_218 : decode cX5_digest 218 = .ok (.if_icmp .ge 35, 3) := by decide +kernel
theorem dX5_digest_221 : decode cX5_digest 221 = .ok (.ldc2_w 197, 3) := by decide +kernel
theorem dX5_digest_224 : decode cX5_digest 224 = .ok (.ldc2_w 197, 3) := by decide +kernel
theorem dX5_digest_227 : decode cX5_digest 227 = .ok (.lload_n 1, 1) := by decide +kernel
theorem dX5_digest_228 : decode cX5_digest 228 = .ok (.lmul, 1) := by decide +kernel
theorem dX5_digest_229 : decode cX5_digest 229 = .ok (.aload_n 0, 1) := by decide +kernel
theorem dX5_digest_230 : decode cX5_digest 230 = .ok (.getfield 31, 3) := by decide +kernel
theorem dX5_digest_233 : decode cX5_digest 233 = .ok (.iload_n 3, 1) := by decide +kernel
theorem dX5_digest_234 : decode cX5_digest 234 = .ok (.iaload, 1) := by decide +kernel
theorem dX5_digest_235 : decode cX5_digest 235 = .ok (.i2l, 1) := by decide +kernel
theorem dX5_digest_236 : decode cX5_digest 236 = .ok (.ladd, 1) := by decide +kernel
theorem dX5_digest_237 : decode cX5_digest 237 = .ok (.lmul, 1) := by decide +kernel
theorem dX5_digest_238 : decode cX5_digest 238 = .ok (.aload_n 0, 1) := by decide +kernel
theorem dX5_digest_239 : decode cX5_digest 239 = .ok (.getfield 28, 3) := by decide +kernel
theorem dX5_digest_242 : decode cX5_digest 242 = .ok (.iload_n 3, 1) := by decide +kernel
theorem dX5_digest_243 : decode cX5_digest 243 = .ok (.iaload, 1) := by decide +kernel
theorem dX5_digest_244 : decode cX5_digest 244 = .ok (.i2l, 1) := by decide +kernel
theorem dX5_digest_245 : decode cX5_digest 245 = .ok (.ladd, 1) := by decide +kernel
theorem dX5_digest_246 : decode cX5_digest 246 = .ok (.lstore_n 1, 1) := by decide +kernel
theorem dX5_digest_247 : decode cX5_digest 247 = .ok (.iinc 3 1, 3) := by decide +kernel
theorem dX5_digest_250 : decode cX5_digest 250 = .ok (.goto (-35), 3) := by decide +kernel
theorem dX5_digest_253 : decode cX5_digest 253 = .ok (.ldc2_w 197, 3) := by decide +kernel
theorem dX5_digest_256 : decode cX5_digest 256 = .ok (.lload_n 1, 1) := by decide +kernel
theorem dX5_digest_257 : decode cX5_digest 257 = .ok (.lmul, 1) := by decide +kernel
theorem dX5_digest_258 : decode cX5_digest 258 = .ok (.aload_n 0, 1) := by decide +kernel
theorem dX5_digest_259 : decode cX5_digest 259 = .ok (.invokevirtual 188, 3) := by decide +kernel
theorem dX5_digest_262 : decode cX5_digest 262 = .ok (.i2l, 1) := by decide +kernel
theorem dX5_digest_263 : decode cX5_digest 263 = .ok (.ladd, 1) := by decide +kernel
theorem dX5_digest_264 : decode cX5_digest 264 = .ok (.lstore_n 1, 1) := by decide +kernel
theorem dX5_digest_265 : decode cX5_digest 265 = .ok (.ldc2_w 197, 3) := by decide +kernel
theorem dX5_digest_268 : decode cX5_digest 268 = .ok (.ldc2_w 197, 3) := by decide +kernel
theorem dX5_digest_271 : decode cX5_digest 271 = .ok (.lload_n 1, 1) := by decide +kernel
theorem dX5_digest_272 : decode cX5_digest 272 = .ok (.lmul, 1) := by decide +kernel
theorem dX5_digest_273 : decode cX5_digest 273 = .ok (.aload_n 0, 1) := by decide +kernel
theorem dX5_digest_274 : decode cX5_digest 274 = .ok (.invokevirtual 191, 3) := by decide +kernel
theorem dX5_digest_277 : decode cX5_digest 277 = .ok (.invokestatic 199, 3) := by decide +kernel
theorem dX5_digest_280 : decode cX5_digest 280 = .ok (.ladd, 1) := by decide +kernel
theorem dX5_digest_281 : decode cX5_digest 281 = .ok (.lmul, 1) := by decide +kernel
theorem dX5_digest_282 : decode cX5_digest 282 = .ok (.aload_n 0, 1) := by decide +kernel
theorem dX5_digest_283 : decode cX5_digest 283 = .ok (.getfield 121, 3) := by decide +kernel
theorem dX5_digest_286 : decode cX5_digest 286 = .ok (.i2l, 1) := by decide +kernel
theorem dX5_digest_287 : decode cX5_digest 287 = .ok (.ladd, 1) := by decide +kernel
theorem dX5_digest_288 : decode cX5_digest 288 = .ok (.lstore_n 1, 1) := by decide +kernel
theorem dX5_digest_289 : decode cX5_digest 289 = .ok (.iconst 0, 1) := by decide +kernel
theorem dX5_digest_290 : decode cX5_digest 290 = .ok (.istore_n 3, 1) := by decide +kernel
theorem dX5_digest_291 : decode cX5_digest 291 = .ok (.iload_n 3, 1) := by decide +kernel
theorem dX5_digest_292 : decode cX5_digest 292 = .ok (.aload_n 0, 1) := by decide +kernel
theorem dX5_digest_293 : decode cX5_digest 293 = .ok (.getfield 121, 3) := by decide +kernel
theorem dX5_digest_296 : decode cX5_digest 296 = .ok (.if_icmp .ge 23, 3) := by decide +kernel
theorem dX5_digest_299 : decode cX5_digest 299 = .ok (.ldc2_w 197, 3) := by decide +kernel
theorem dX5_digest_302 : decode cX5_digest 302 = .ok (.lload_n 1, 1) := by decide +kernel
theorem dX5_digest_303 : decode cX5_digest 303 = .ok (.lmul, 1) := by decide +kernel
theorem dX5_digest_304 : decode cX5_digest 304 = .ok (.aload_n 0, 1) := by decide +kernel
theorem dX5_digest_305 : decode cX5_digest 305 = .ok (.getfield 22, 3) := by decide +kernel
theorem dX5_digest_308 : decode cX5_digest 308 = .ok (.iload_n 3, 1) := by decide +kernel
theorem dX5_digest_309 : decode cX5_digest 309 = .ok (.iaload, 1) := by decide +kernel
theorem dX5_digest_310 : decode cX5_digest 310 = .ok (.i2l, 1) := by decide +kernel
theorem dX5_digest_311 : decode cX5_digest 311 = .ok (.ladd, 1) := by decide +kernel
theorem dX5_digest_312 : decode cX5_digest 312 = .ok (.lstore_n 1, 1) := by decide +kernel
theorem dX5_digest_313 : decode cX5_digest 313 = .ok (.iinc 3 1, 3) := by decide +kernel
theorem dX5_digest_316 : decode cX5_digest 316 = .ok (.goto (-25), 3) := by decide +kernel
theorem dX5_digest_319 : decode cX5_digest 319 = .ok (.lload_n 1, 1) := by decide +kernel
theorem dX5_digest_320 : decode cX5_digest 320 = .ok (.lreturn, 1) := by decide +kernel
theorem dJxe99ae_isNaN_b9ae7_0 : decode cJxe99ae_isNaN_b9ae7 0 = .ok (.dload_n 0, 1) := by decide +kernel
theorem dJxe99ae_isNaN_b9ae7_1 : decode cJxe99ae_isNaN_b9ae7 1 = .ok (.dload_n 0, 1) := by decide +kernel
theorem dJxe99ae_isNaN_b9ae7_2 : decode cJxe99ae_isNaN_b9ae7 2 = .ok (.dcmp .l, 1) := by decide +kernel
theorem dJxe99ae_isNaN_b9ae7_3 : decode cJxe99ae_isNaN_b9ae7 3 = .ok (.ifCond .eq 7, 3) := by decide +kernel
theorem dJxe99ae_isNaN_b9ae7_6 : decode cJxe99ae_isNaN_b9ae7 6 = .ok (.iconst 1, 1) := by decide +kernel
theorem dJxe99ae_isNaN_b9ae7_7 : decode cJxe99ae_isNaN_b9ae7 7 = .ok (.goto 4, 3) := by decide +kernel
theorem dJxe99ae_isNaN_b9ae7_10 : decode cJxe99ae_isNaN_b9ae7 10 = .ok (.iconst 0, 1) := by decide +kernel
theorem dJxe99ae_isNaN_b9ae7_11 : decode cJxe99ae_isNaN_b9ae7 11 = .ok (.ireturn, 1) := by decide +kernel
set_option maxRecDepth 20000 in
theorem ggJxe99ae_doubleToLongBits_ccdee_Jxe99ae_isNaN_b9ae7 : GoodIn wsJxe99ae_doubleToLongBits_ccdee wsJxe99ae_isNaN_b9ae7 := goodIn_r _ [9] (by decide +kernel) (by decide +kernel)
set_option maxRecDepth 20000 in
theorem gJxe99ae_doubleToLongBits_ccdee_Jxe99ae_isNaN_b9ae7 : GoodIn wsJxe99ae_doubleToLongBits_ccdee (va_wsS RJxe99ae 122 yJxe99ae_isNaN_b9ae7 wsJxe99ae_isNaN_b9ae7) := goodIn_app (goodIn_of _ (by decide +kernel)) ggJxe99ae_doubleToLongBits_ccdee_Jxe99ae_isNaN_b9ae7
theorem dJxe99ae_doubleToLongBits_ccdee_0 : decode cJxe99ae_doubleToLongBits_ccdee 0 = .ok (.dload_n 0, 1) := by decide +kernel
theorem dJxe99ae_doubleToLongBits_ccdee_1 : decode cJxe99ae_doubleToLongBits_ccdee 1 = .ok (.invokestatic 122, 3) := by decide +kernel
theorem dJxe99ae_doubleToLongBits_ccdee_4 : decode cJxe99ae_doubleToLongBits_ccdee 4 = .ok (.ifCond .ne 8, 3) := by decide +kernel
theorem dJxe99ae_doubleToLongBits_ccdee_7 : decode cJxe99ae_doubleToLongBits_ccdee 7 = .ok (.dload_n 0, 1) := by decide +kernel
theorem dJxe99ae_doubleToLongBits_ccdee_8 : decode cJxe99ae_doubleToLongBits_ccdee 8 = .ok (.invokestatic 134, 3) := by decide +kernel
theorem dJxe99ae_doubleToLongBits_ccdee_11 : decode cJxe99ae_doubleToLongBits_ccdee 11 = .ok (.lreturn, 1) := by decide +kernel
theorem dJxe99ae_doubleToLongBits_ccdee_12 : decode cJxe99ae_doubleToLongBits_ccdee 12 = .ok (.ldc2_w 137, 3) := by decide +kernel
theorem dJxe99ae_doubleToLongBits_ccdee_15 : decode cJxe99ae_doubleToLongBits_ccdee 15 = .ok (.lreturn, 1) := by decide +kernel
theorem dJ6_bitCount_0f7a4_0 : decode cJ6_bitCount_0f7a4 0 = .ok (.iload_n 0, 1) := by decide +kernel
theorem dJ6_bitCount_0f7a4_1 : decode cJ6_bitCount_0f7a4 1 = .ok (.iload_n 0, 1) := by decide +kernel
theorem dJ6_bitCount_0f7a4_2 : decode cJ6_bitCount_0f7a4 2 = .ok (.iconst 1, 1) := by decide +kernel
theorem dJ6_bitCount_0f7a4_3 : decode cJ6_bitCount_0f7a4 3 = .ok (.iushr, 1) := by decide +kernel
theorem dJ6_bitCount_0f7a4_4 : decode cJ6_bitCount_0f7a4 4 = .ok (.ldc_w 265, 3) := by decide +kernel
theorem dJ6_bitCount_0f7a4_7 : decode cJ6_bitCount_0f7a4 7 = .ok (.iand, 1) := by decide +kernel
theorem dJ6_bitCount_0f7a4_8 : decode cJ6_bitCount_0f7a4 8 = .ok (.isub, 1) := by decide +kernel
theorem dJ6_bitCount_0f7a4_9 : decode cJ6_bitCount_0f7a4 9 = .ok (.istore_n 0, 1) := by decide +kernel
theorem dJ6_bitCount_0f7a4_10 : decode cJ6_bitCount_0f7a4 10 = .ok (.iload_n 0, 1) := by decide +kernel
theorem dJ6_bitCount_0f7a4_11 : decode cJ6_bitCount_0f7a4 11 = .ok (.ldc_w 266, 3) := by decide +kernel
theorem dJ6_bitCount_0f7a4_14 : decode cJ6_bitCount_0f7a4 14 = .ok (.iand, 1) := by decide +kernel
theorem dJ6_bitCount_0f7a4_15 : decode cJ6_bitCount_0f7a4 15 = .ok (.iload_n 0, 1) := by decide +kernel
theorem dJ6_bitCount_0f7a4_16 : decode cJ6_bitCount_0f7a4 16 = .ok (.iconst 2, 1) := by decide +kernel
theorem dJ6_bitCount_0f7a4_17 : decode cJ6_bitCount_0f7a4 17 = .ok (.iushr, 1) := by decide +kernel
theorem dJ6_bitCount_0f7a4_18 : decode cJ6_bitCount_0f7a4 18 = .ok (.ldc_w 266, 3) := by decide +kernel
theorem dJ6_bitCount_0f7a4_21 : decode cJ6_bitCount_0f7a4 21 = .ok (.iand, 1) := by decide +kernel
theorem dJ6_bitCount_0f7a4_22 : decode cJ6_bitCount_0f7a4 22 = .ok (.iadd, 1) := by decide +kernel
theorem dJ6_bitCount_0f7a4_23 : decode cJ6_bitCount_0f7a4 23 = .ok (.istore_n 0, 1) := by decide +kernel
theorem dJ6_bitCount_0f7a4_24 : decode cJ6_bitCount_0f7a4 24 = .ok (.iload_n 0, 1) := by decide +kernel
theorem dJ6_bitCount_0f7a4_25 : decode cJ6_bitCount_0f7a4 25 = .ok (.iload_n 0, 1) := by decide +kernel
theorem dJ6_bitCount_0f7a4_26 : decode cJ6_bitCount_0f7a4 26 = .ok (.iconst 4, 1) := by decide +kernel
theorem dJ6_bitCount_0f7a4_27 : decode cJ6_bitCount_0f7a4 27 = .ok (.iushr, 1) := by decide +kernel
theorem dJ6_bitCount_0f7a4_28 : decode cJ6_bitCount_0f7a4 28 = .ok (.iadd, 1) := by decide +kernel
theorem dJ6_bitCount_0f7a4_29 : decode cJ6_bitCount_0f7a4 29 = .ok (.ldc_w 267, 3) := by decide +kernel
theorem dJ6_bitCount_0f7a4_32 : decode cJ6_bitCount_0f7a4 32 = .ok (.iand, 1) := by decide +kernel
theorem dJ6_bitCount_0f7a4_33 : decode cJ6_bitCount_0f7a4 33 = .ok (.istore_n 0, 1) := by decide +kernel
theorem dJ6_bitCount_0f7a4_34 : decode cJ6_bitCount_0f7a4 34 = .ok (.iload_n 0, 1) := by decide +kernel
theorem dJ6_bitCount_0f7a4_35 : decode cJ6_bitCount_0f7a4 35 = .ok (.iload_n 0, 1) := by decide +kernel
theorem dJ6_bitCount_0f7a4_36 : decode cJ6_bitCount_0f7a4 36 = .ok (.bipush 8, 2) := by decide +kernel
theorem dJ6_bitCount_0f7a4_38 : decode cJ6_bitCount_0f7a4 38 = .ok (.iushr, 1) := by decide +kernel
theorem dJ6_bitCount_0f7a4_39 : decode cJ6_bitCount_0f7a4 39 = .ok (.iadd, 1) := by decide +kernel
theorem dJ6_bitCount_0f7a4_40 : decode cJ6_bitCount_0f7a4 40 = .ok (.istore_n 0, 1) := by decide +kernel
theorem dJ6_bitCount_0f7a4_41 : decode cJ6_bitCount_0f7a4 41 = .ok (.iload_n 0, 1) := by decide +kernel
theorem dJ6_bitCount_0f7a4_42 : decode cJ6_bitCount_0f7a4 42 = .ok (.iload_n 0, 1) := by decide +kernel
theorem dJ6_bitCount_0f7a4_43 : decode cJ6_bitCount_0f7a4 43 = .ok (.bipush 16, 2) := by decide +kernel
theorem dJ6_bitCount_0f7a4_45 : decode cJ6_bitCount_0f7a4 45 = .ok (.iushr, 1) := by decide +kernel
theorem dJ6_bitCount_0f7a4_46 : decode cJ6_bitCount_0f7a4 46 = .ok (.iadd, 1) := by decide +kernel
theorem dJ6_bitCount_0f7a4_47 : decode cJ6_bitCount_0f7a4 47 = .ok (.istore_n 0, 1) := by decide +kernel
theorem dJ6_bitCount_0f7a4_48 : decode cJ6_bitCount_0f7a4 48 = .ok (.iload_n 0, 1) := by decide +kernel
theorem dJ6_bitCount_0f7a4_49 : decode cJ6_bitCount_0f7a4 49 = .ok (.bipush 63, 2) := by decide +kernel
theorem dJ6_bitCount_0f7a4_51 : decode cJ6_bitCount_0f7a4 51 = .ok (.iand, 1) := by decide +kernel
theorem dJ6_bitCount_0f7a4_52 : decode cJ6_bitCount_0f7a4 52 = .ok (.ireturn, 1) := by decide +kernel
theorem dJ9_max_7cf53_0 : decode cJ9_max_7cf53 0 = .ok (.iload_n 0, 1) := by decide +kernel
theorem dJ9_max_7cf53_1 : decode cJ9_max_7cf53 1 = .ok (.iload_n 1, 1) := by decide +kernel
theorem dJ9_max_7cf53_2 : decode cJ9_max_7cf53 2 = .ok (.if_icmp .lt 7, 3) := by decide +kernel
theorem dJ9_max_7cf53_5 : decode cJ9_max_7cf53 5 = .ok (.iload_n 0, 1) := by decide +kernel
theorem dJ9_max_7cf53_6 : decode cJ9_max_7cf53 6 = .ok (.goto 4, 3) := by decide +kernel
theorem dJ9_max_7cf53_9 : decode cJ9_max_7cf53 9 = .ok (.iload_n 1, 1) := by decide +kernel
theorem dJ9_max_7cf53_10 : decode cJ9_max_7cf53 10 = .ok (.ireturn, 1) := by decide +kernel
theorem dJ9_min_7cf53_0 : decode cJ9_min_7cf53 0 = .ok (.iload_n 0, 1) := by decide +kernel
theorem dJ9_min_7cf53_1 : decode cJ9_min_7cf53 1 = .ok (.iload_n 1, 1) := by decide +kernel
theorem dJ9_min_7cf53_2 : decode cJ9_min_7cf53 2 = .ok (.if_icmp .gt 7, 3) := by decide +kernel
theorem dJ9_min_7cf53_5 : decode cJ9_min_7cf53 5 = .ok (.iload_n 0, 1) := by decide +kernel
theorem dJ9_min_7cf53_6 : decode cJ9_min_7cf53 6 = .ok (.goto 4, 3) := by decide +kernel
theorem dJ9_min_7cf53_9 : decode cJ9_min_7cf53 9 = .ok (.iload_n 1, 1) := by decide +kernel
theorem dJ9_min_7cf53_10 : decode cJ9_min_7cf53 10 = .ok (.ireturn, 1) := by decide +kernel
theorem dJ7_fill_53178_0 : decode cJ7_fill_53178 0 = .ok (.iconst 0, 1) := by decide +kernel
theorem dJ7_fill_53178_1 : decode cJ7_fill_53178 1 = .ok (.istore_n 2, 1) := by decide +kernel
theorem dJ7_fill_53178_2 : decode cJ7_fill_53178 2 = .ok (.aload_n 0, 1) := by decide +kernel
theorem dJ7_fill_53178_3 : decode cJ7_fill_53178 3 = .ok (.arraylength, 1) := by decide +kernel
theorem dJ7_fill_53178_4 : decode cJ7_fill_53178 4 = .ok (.istore_n 3, 1) := by decide +kernel
theorem dJ7_fill_53178_5 : decode cJ7_fill_53178 5 = .ok (.iload_n 2, 1) := by decide +kernel
theorem dJ7_fill_53178_6 : decode cJ7_fill_53178 6 = .ok (.iload_n 3, 1) := by decide +kernel
theorem dJ7_fill_53178_7 : decode cJ7_fill_53178 7 = .ok (.if_icmp .ge 13, 3) := by decide +kernel
theorem dJ7_fill_53178_10 : decode cJ7_fill_53178 10 = .ok (.aload_n 0, 1) := by decide +kernel
theorem dJ7_fill_53178_11 : decode cJ7_fill_53178 11 = .ok (.iload_n 2, 1) := by decide +kernel
theorem dJ7_fill_53178_12 : decode cJ7_fill_53178 12 = .ok (.iload_n 1, 1) := by decide +kernel
theorem dJ7_fill_53178_13 : decode cJ7_fill_53178 13 = .ok (.iastore, 1) := by decide +kernel
theorem dJ7_fill_53178_14 : decode cJ7_fill_53178 14 = .ok (.iinc 2 1, 3) := by decide +kernel
theorem dJ7_fill_53178_17 : decode cJ7_fill_53178 17 = .ok (.goto (-12), 3) := by decide +kernel
theorem dJ7_fill_53178_20 : decode cJ7_fill_53178 20 = .ok (.return_, 1) := by decide +kernel
set_option maxRecDepth 20000 in
theorem ggL_show_X4_show : GoodIn wsL_show wsX4_show := goodIn_ca (goodIn_ca (goodIn_r _ [7, 8, 9, 10, 11, 12, 6, 13, 14, 15, 16, 17, 18, 19, 20, 21, 22, 23, 24, 25, 26, 27, 28, 29, 30, 31, 32, 33, 34, 35, 36, 37, 38, 39, 40, 41, 42, 43, 44, 45, 46, 47, 48, 49, 50, 51, 52, 53, 54, 55, 56, 57, 58, 59, 60, 61, 62, 63, 64, 65] (by decide +kernel) (by decide +kernel)) (goodIn_sub (fun _ h => List.mem_cons_of_mem _ (List.mem_append_left _ (List.mem_append_right _ h))) (by decide +kernel))) (goodIn_sub (fun _ h => List.mem_cons_of_mem _ (List.mem_append_right _ h)) (by decide +kernel))
set_option maxRecDepth 20000 in
theorem gL_show_X4_show : GoodIn wsL_show (wsV RL 7 RX4 yX4_show wsX4_show) := goodIn_app (goodIn_of _ (by decide +kernel)) ggL_show_X4_show
theorem dL_show_0 : decode cL_show 0 = .ok (.aload_n 3, 1) := by decide +kernel
theorem dL_show_1 : decode cL_show 1 = .ok (.iconst 0, 1) := by decide +kernel
theorem dL_show_2 : decode cL_show 2 = .ok (.aload_n 0, 1) := by decide +kernel
theorem dL_show_3 : decode cL_show 3 = .ok (.iload_n 1, 1) := by decide +kernel
theorem dL_show_4 : decode cL_show 4 = .ok (.iload_n 2, 1) := by decide +kernel
theorem dL_show_5 : decode cL_show 5 = .ok (.invokevirtual 7, 3) := by decide +kernel
theorem dL_show_8 : decode cL_show 8 = .ok (.i2l, 1) := by decide +kernel
theorem dL_show_9 : decode cL_show 9 = .ok (.lastore, 1) := by decide +kernel
theorem dL_show_10 : decode cL_show 10 = .ok (.goto 11, 3) := by decide +kernel
theorem dL_show_13 : decode cL_show 13 = .ok (.astore 4, 2) := by decide +kernel
theorem dL_show_15 : decode cL_show 15 = .ok (.iconst 1, 1) := by decide +kernel
theorem dL_show_16 : decode cL_show 16 = .ok (.ireturn, 1) := by decide +kernel
theorem dL_show_17 : decode cL_show 17 = .ok (.astore 4, 2) := by decide +kernel
theorem dL_show_19 : decode cL_show 19 = .ok (.iconst 2, 1) := by decide +kernel
theorem dL_show_20 : decode cL_show 20 = .ok (.ireturn, 1) := by decide +kernel
theorem dL_show_21 : decode cL_show 21 = .ok (.iconst 0, 1) := by decide +kernel
theorem dL_show_22 : decode cL_show 22 = .ok (.ireturn, 1) := by decide +kernel
set_option maxRecDepth 20000 in
theorem ggL_level_X4_level : GoodIn wsL_level wsX4_level := goodIn_ca (goodIn_ca (goodIn_r _ [7, 8, 9, 10, 11, 12, 6, 13, 14, 15, 16, 17, 18, 19, 20, 21, 22, 23, 24, 25, 26, 27, 28, 29, 30, 31, 32, 33, 34, 35, 36, 37, 38, 39, 40, 41, 42, 43, 44, 45, 46, 47, 48, 49, 50, 51, 52, 53, 54, 55, 56, 57, 58, 59, 60, 61, 62, 63, 64, 65, 66, 67, 68, 69, 70, 71, 72, 73] (by decide +kernel) (by decide +kernel)) (goodIn_sub (fun _ h => List.mem_cons_of_mem _ (List.mem_append_left _ (List.mem_append_right _ h))) (by decide +kernel))) (goodIn_sub (fun _ h => List.mem_cons_of_mem _ (List.mem_append_right _ h)) (by decide +kernel))
set_option maxRecDepth 20000 in
theorem gL_level_X4_level : GoodIn wsL_level (wsV RL 17 RX4 yX4_level wsX4_level) := goodIn_app (goodIn_of _ (by decide +kernel)) ggL_level_X4_level
theorem dL_level_0 : decode cL_level 0 = .ok (.aload_n 3, 1) := by decide +kernel
theorem dL_level_1 : decode cL_level 1 = .ok (.iconst 0, 1) := by decide +kernel
theorem dL_level_2 : decode cL_level 2 = .ok (.aload_n 0, 1) := by decide +kernel
theorem dL_level_3 : decode cL_level 3 = .ok (.iload_n 1, 1) := by decide +kernel
theorem dL_level_4 : decode cL_level 4 = .ok (.iload_n 2, 1) := by decide +kernel
theorem dL_level_5 : decode cL_level 5 = .ok (.invokevirtual 17, 3) := by decide +kernel
theorem dL_level_8 : decode cL_level 8 = .ok (.i2l, 1) := by decide +kernel
theorem dL_level_9 : decode cL_level 9 = .ok (.lastore, 1) := by decide +kernel
theorem dL_level_10 : decode cL_level 10 = .ok (.goto 11, 3) := by decide +kernel
theorem dL_level_13 : decode cL_level 13 = .ok (.astore 4, 2) := by decide +kernel
theorem dL_level_15 : decode cL_level 15 = .ok (.iconst 1, 1) := by decide +kernel
theorem dL_level_16 : decode cL_level 16 = .ok (.ireturn, 1) := by decide +kernel
theorem dL_level_17 : decode cL_level 17 = .ok (.astore 4, 2) := by decide +kernel
theorem dL_level_19 : decode cL_level 19 = .ok (.iconst 2, 1) := by decide +kernel
theorem dL_level_20 : decode cL_level 20 = .ok (.ireturn, 1) := by decide +kernel
theorem dL_level_21 : decode cL_level 21 = .ok (.iconst 0, 1) := by decide +kernel
theorem dL_level_22 : decode cL_level 22 = .ok (.ireturn, 1) := by decide +kernel
set_option maxRecDepth 20000 in
theorem ggL_burn_X4_burn : GoodIn wsL_burn wsX4_burn := goodIn_ca (goodIn_r _ [6, 7, 8, 9, 10, 11, 12, 5, 13, 14, 15, 16, 17, 18, 19, 20, 21, 22, 23, 24, 25, 26, 27, 28, 29, 30, 31, 32, 33, 34, 35, 36, 37, 38, 39, 40, 41, 42, 43, 44, 45, 46, 47, 48, 49, 50, 51, 52, 53, 54, 55, 56, 57, 58, 59, 60, 61, 62, 63, 64, 65, 66] (by decide +kernel) (by decide +kernel)) (goodIn_sub (fun _ h => List.mem_cons_of_mem _ (List.mem_append_right _ h)) (by decide +kernel))
set_option maxRecDepth 20000 in
theorem gL_burn_X4_burn : GoodIn wsL_burn (wsV RL 20 RX4 yX4_burn wsX4_burn) := goodIn_app (goodIn_of _ (by decide +kernel)) ggL_burn_X4_burn
theorem dL_burn_0 : decode cL_burn 0 = .ok (.aload 4, 2) := by decide +kernel
theorem dL_burn_2 : decode cL_burn 2 = .ok (.iconst 0, 1) := by decide +kernel
theorem dL_burn_3 : decode cL_burn 3 = .ok (.aload_n 0, 1) := by decide +kernel
theorem dL_burn_4 : decode cL_burn 4 = .ok (.iload_n 1, 1) := by decide +kernel
theorem dL_burn_5 : decode cL_burn 5 = .ok (.iload_n 2, 1) := by decide +kernel
theorem dL_burn_6 : decode cL_burn 6 = .ok (.iload_n 3, 1) := by decide +kernel
theorem dL_burn_7 : decode cL_burn 7 = .ok (.invokevirtual 20, 3) := by decide +kernel
theorem dL_burn_10 : decode cL_burn 10 = .ok (.i2l, 1) := by decide +kernel
theorem dL_burn_11 : decode cL_burn 11 = .ok (.lastore, 1) := by decide +kernel
theorem dL_burn_12 : decode cL_burn 12 = .ok (.goto 7, 3) := by decide +kernel
theorem dL_burn_15 : decode cL_burn 15 = .ok (.astore 5, 2) := by decide +kernel
theorem dL_burn_17 : decode cL_burn 17 = .ok (.iconst 1, 1) := by decide +kernel
theorem dL_burn_18 : decode cL_burn 18 = .ok (.ireturn, 1) := by decide +kernel
theorem dL_burn_19 : decode cL_burn 19 = .ok (.iconst 0, 1) := by decide +kernel
theorem dL_burn_20 : decode cL_burn 20 = .ok (.ireturn, 1) := by decide +kernel
set_option maxRecDepth 20000 in
theorem ggL_ambient_X4_ambient : GoodIn wsL_ambient wsX4_ambient := goodIn_ca (goodIn_r _ [6, 7, 8, 9, 10, 11, 5, 12, 13, 14, 15, 16, 17, 18, 19, 20, 21, 22, 23, 24, 25, 26, 27, 28, 29, 30, 31, 32, 33, 34, 35, 36, 37, 38, 39, 40, 41, 42, 43, 44, 45, 46, 47, 48, 49, 50, 51, 52, 53, 54, 55, 56, 57, 58, 59] (by decide +kernel) (by decide +kernel)) (goodIn_sub (fun _ h => List.mem_cons_of_mem _ (List.mem_append_right _ h)) (by decide +kernel))
set_option maxRecDepth 20000 in
theorem gL_ambient_X4_ambient : GoodIn wsL_ambient (wsV RL 24 RX4 yX4_ambient wsX4_ambient) := goodIn_app (goodIn_of _ (by decide +kernel)) ggL_ambient_X4_ambient
theorem dL_ambient_0 : decode cL_ambient 0 = .ok (.aload_n 2, 1) := by decide +kernel
theorem dL_ambient_1 : decode cL_ambient 1 = .ok (.iconst 0, 1) := by decide +kernel
theorem dL_ambient_2 : decode cL_ambient 2 = .ok (.aload_n 0, 1) := by decide +kernel
theorem dL_ambient_3 : decode cL_ambient 3 = .ok (.iload_n 1, 1) := by decide +kernel
theorem dL_ambient_4 : decode cL_ambient 4 = .ok (.invokevirtual 24, 3) := by decide +kernel
theorem dL_ambient_7 : decode cL_ambient 7 = .ok (.i2l, 1) := by decide +kernel
theorem dL_ambient_8 : decode cL_ambient 8 = .ok (.lastore, 1) := by decide +kernel
theorem dL_ambient_9 : decode cL_ambient 9 = .ok (.goto 6, 3) := by decide +kernel
theorem dL_ambient_12 : decode cL_ambient 12 = .ok (.astore_n 3, 1) := by decide +kernel
theorem dL_ambient_13 : decode cL_ambient 13 = .ok (.iconst 1, 1) := by decide +kernel
theorem dL_ambient_14 : decode cL_ambient 14 = .ok (.ireturn, 1) := by decide +kernel
theorem dL_ambient_15 : decode cL_ambient 15 = .ok (.iconst 0, 1) := by decide +kernel
theorem dL_ambient_16 : decode cL_ambient 16 = .ok (.ireturn, 1) := by decide +kernel
set_option maxRecDepth 20000 in
theorem ggL_set_X4_set : GoodIn wsL_set wsX4_set := goodIn_ca (goodIn_ca (goodIn_r _ [7, 8, 9, 10, 11, 12, 13, 14, 6, 15, 16, 17, 18, 19, 20, 21, 22, 23, 24, 25, 26, 27, 28, 29, 30, 31, 32, 33, 34, 35, 36, 37, 38, 39, 40, 41, 42, 43, 44, 45, 46, 47, 48, 49, 50, 51, 52, 53, 54, 55, 56, 57, 58, 59, 60, 61, 62, 63, 64, 65, 66, 67] (by decide +kernel) (by decide +kernel)) (goodIn_sub (fun _ h => List.mem_cons_of_mem _ (List.mem_append_left _ (List.mem_append_right _ h))) (by decide +kernel))) (goodIn_sub (fun _ h => List.mem_cons_of_mem _ (List.mem_append_right _ h)) (by decide +kernel))
set_option maxRecDepth 20000 in
theorem gL_set_X4_set : GoodIn wsL_set (wsV RL 28 RX4 yX4_set wsX4_set) := goodIn_app (goodIn_of _ (by decide +kernel)) ggL_set_X4_set
theorem dL_set_0 : decode cL_set 0 = .ok (.aload_n 3, 1) := by decide +kernel
theorem dL_set_1 : decode cL_set 1 = .ok (.iconst 0, 1) := by decide +kernel
theorem dL_set_2 : decode cL_set 2 = .ok (.aload_n 0, 1) := by decide +kernel
theorem dL_set_3 : decode cL_set 3 = .ok (.iload_n 1, 1) := by decide +kernel
theorem dL_set_4 : decode cL_set 4 = .ok (.iload_n 2, 1) := by decide +kernel
theorem dL_set_5 : decode cL_set 5 = .ok (.invokevirtual 28, 3) := by decide +kernel
theorem dL_set_8 : decode cL_set 8 = .ok (.i2l, 1) := by decide +kernel
theorem dL_set_9 : decode cL_set 9 = .ok (.lastore, 1) := by decide +kernel
theorem dL_set_10 : decode cL_set 10 = .ok (.goto 11, 3) := by decide +kernel
theorem dL_set_13 : decode cL_set 13 = .ok (.astore 4, 2) := by decide +kernel
theorem dL_set_15 : decode cL_set 15 = .ok (.iconst 1, 1) := by decide +kernel
theorem dL_set_16 : decode cL_set 16 = .ok (.ireturn, 1) := by decide +kernel
theorem dL_set_17 : decode cL_set 17 = .ok (.astore 4, 2) := by decide +kernel
theorem dL_set_19 : decode cL_set 19 = .ok (.iconst 2, 1) := by decide +kernel
theorem dL_set_20 : decode cL_set 20 = .ok (.ireturn, 1) := by decide +kernel
theorem dL_set_21 : decode cL_set 21 = .ok (.iconst 0, 1) := by decide +kernel
theorem dL_set_22 : decode cL_set 22 = .ok (.ireturn, 1) := by decide +kernel
set_option maxRecDepth 20000 in
theorem ggL_number_X4_number : GoodIn wsL_number wsX4_number := goodIn_ca (goodIn_ca (goodIn_r _ [7, 8, 9, 10, 11, 6, 12, 13, 14, 15, 16, 17, 18, 19, 20, 21, 22, 23, 24, 25, 26, 27, 28, 29, 30, 31, 32, 33, 34, 35, 36, 37, 38, 39, 40, 41, 42, 43, 44, 45, 46, 47, 48, 49, 50, 51, 52, 53, 54, 55, 56, 57, 58, 59, 60, 61, 62, 63, 64, 65, 66, 67, 68, 69, 70, 71, 72, 73, 74, 75, 76] (by decide +kernel) (by decide +kernel)) (goodIn_sub (fun _ h => List.mem_cons_of_mem _ (List.mem_append_left _ (List.mem_append_right _ h))) (by decide +kernel))) (goodIn_sub (fun _ h => List.mem_cons_of_mem _ (List.mem_append_right _ h)) (by decide +kernel))
set_option maxRecDepth 20000 in
theorem gL_number_X4_number : GoodIn wsL_number (wsV RL 31 RX4 yX4_number wsX4_number) := goodIn_app (goodIn_of _ (by decide +kernel)) ggL_number_X4_number
theorem dL_number_0 : decode cL_number 0 = .ok (.aload 4, 2) := by decide +kernel
theorem dL_number_2 : decode cL_number 2 = .ok (.iconst 0, 1) := by decide +kernel
theorem dL_number_3 : decode cL_number 3 = .ok (.aload_n 0, 1) := by decide +kernel
theorem dL_number_4 : decode cL_number 4 = .ok (.iload_n 1, 1) := by decide +kernel
theorem dL_number_5 : decode cL_number 5 = .ok (.iload_n 2, 1) := by decide +kernel
theorem dL_number_6 : decode cL_number 6 = .ok (.iload_n 3, 1) := by decide +kernel
theorem dL_number_7 : decode cL_number 7 = .ok (.invokevirtual 31, 3) := by decide +kernel
theorem dL_number_10 : decode cL_number 10 = .ok (.i2l, 1) := by decide +kernel
theorem dL_number_11 : decode cL_number 11 = .ok (.lastore, 1) := by decide +kernel
theorem dL_number_12 : decode cL_number 12 = .ok (.goto 11, 3) := by decide +kernel
theorem dL_number_15 : decode cL_number 15 = .ok (.astore 5, 2) := by decide +kernel
theorem dL_number_17 : decode cL_number 17 = .ok (.iconst 1, 1) := by decide +kernel
theorem dL_number_18 : decode cL_number 18 = .ok (.ireturn, 1) := by decide +kernel
theorem dL_number_19 : decode cL_number 19 = .ok (.astore 5, 2) := by decide +kernel
theorem dL_number_21 : decode cL_number 21 = .ok (.iconst 2, 1) := by decide +kernel
theorem dL_number_22 : decode cL_number 22 = .ok (.ireturn, 1) := by decide +kernel
theorem dL_number_23 : decode cL_number 23 = .ok (.iconst 0, 1) := by decide +kernel
theorem dL_number_24 : decode cL_number 24 = .ok (.ireturn, 1) := by decide +kernel
set_option maxRecDepth 20000 in
theorem ggL_run_X4_run : GoodIn wsL_run wsX4_run := goodIn_ca (goodIn_ca (goodIn_r _ [7, 8, 9, 10, 11, 12, 13, 14, 15, 6, 16, 17, 18, 19, 20, 21, 22, 23, 24, 25, 26, 27, 28, 29, 30, 31, 32, 33, 34, 35, 36, 37, 38, 39, 40, 41, 42, 43, 44, 45, 46, 47, 48, 49, 50, 51, 52, 53, 54, 55, 56, 57, 58, 59, 60, 61, 62, 63, 64, 65, 66, 67, 68, 69, 70, 71, 72, 73, 74, 75, 76, 77, 78, 79, 80, 81] (by decide +kernel) (by decide +kernel)) (goodIn_sub (fun _ h => List.mem_cons_of_mem _ (List.mem_append_left _ (List.mem_append_right _ h))) (by decide +kernel))) (goodIn_sub (fun _ h => List.mem_cons_of_mem _ (List.mem_append_right _ h)) (by decide +kernel))
set_option maxRecDepth 20000 in
theorem gL_run_X4_run : GoodIn wsL_run (wsV RL 35 RX4 yX4_run wsX4_run) := goodIn_app (goodIn_of _ (by decide +kernel)) ggL_run_X4_run
theorem dL_run_0 : decode cL_run 0 = .ok (.aload_n 2, 1) := by decide +kernel
theorem dL_run_1 : decode cL_run 1 = .ok (.iconst 0, 1) := by decide +kernel
theorem dL_run_2 : decode cL_run 2 = .ok (.aload_n 0, 1) := by decide +kernel
theorem dL_run_3 : decode cL_run 3 = .ok (.iload_n 1, 1) := by decide +kernel
theorem dL_run_4 : decode cL_run 4 = .ok (.invokevirtual 35, 3) := by decide +kernel
theorem dL_run_7 : decode cL_run 7 = .ok (.i2l, 1) := by decide +kernel
theorem dL_run_8 : decode cL_run 8 = .ok (.lastore, 1) := by decide +kernel
theorem dL_run_9 : decode cL_run 9 = .ok (.goto 9, 3) := by decide +kernel
theorem dL_run_12 : decode cL_run 12 = .ok (.astore_n 3, 1) := by decide +kernel
theorem dL_run_13 : decode cL_run 13 = .ok (.iconst 1, 1) := by decide +kernel
theorem dL_run_14 : decode cL_run 14 = .ok (.ireturn, 1) := by decide +kernel
theorem dL_run_15 : decode cL_run 15 = .ok (.astore_n 3, 1) := by decide +kernel
theorem dL_run_16 : decode cL_run 16 = .ok (.iconst 2, 1) := by decide +kernel
theorem dL_run_17 : decode cL_run 17 = .ok (.ireturn, 1) := by decide +kernel
theorem dL_run_18 : decode cL_run 18 = .ok (.iconst 0, 1) := by decide +kernel
theorem dL_run_19 : decode cL_run 19 = .ok (.ireturn, 1) := by decide +kernel
set_option maxRecDepth 20000 in
theorem ggL_append_X4_append : GoodIn wsL_append wsX4_append := goodIn_ca (goodIn_ca (goodIn_r _ [7, 8, 9, 10, 11, 12, 13, 6, 14, 15, 16, 17, 18, 19, 20, 21, 22, 23, 24, 25, 26, 27, 28, 29, 30, 31, 32, 33, 34] (by decide +kernel) (by decide +kernel)) (goodIn_sub (fun _ h => List.mem_cons_of_mem _ (List.mem_append_left _ (List.mem_append_right _ h))) (by decide +kernel))) (goodIn_sub (fun _ h => List.mem_cons_of_mem _ (List.mem_append_right _ h)) (by decide +kernel))
set_option maxRecDepth 20000 in
theorem gL_append_X4_append : GoodIn wsL_append (wsV RL 40 RX4 yX4_append wsX4_append) := goodIn_app (goodIn_of _ (by decide +kernel)) ggL_append_X4_append
theorem dL_append_0 : decode cL_append 0 = .ok (.aload_n 2, 1) := by decide +kernel
theorem dL_append_1 : decode cL_append 1 = .ok (.iconst 0, 1) := by decide +kernel
theorem dL_append_2 : decode cL_append 2 = .ok (.aload_n 0, 1) := by decide +kernel
theorem dL_append_3 : decode cL_append 3 = .ok (.iload_n 1, 1) := by decide +kernel
theorem dL_append_4 : decode cL_append 4 = .ok (.invokevirtual 40, 3) := by decide +kernel
theorem dL_append_7 : decode cL_append 7 = .ok (.i2l, 1) := by decide +kernel
theorem dL_append_8 : decode cL_append 8 = .ok (.lastore, 1) := by decide +kernel
theorem dL_append_9 : decode cL_append 9 = .ok (.goto 9, 3) := by decide +kernel
theorem dL_append_12 : decode cL_append 12 = .ok (.astore_n 3, 1) := by decide +kernel
theorem dL_append_13 : decode cL_append 13 = .ok (.iconst 1, 1) := by decide +kernel
theorem dL_append_14 : decode cL_append 14 = .ok (.ireturn, 1) := by decide +kernel
theorem dL_append_15 : decode cL_append 15 = .ok (.astore_n 3, 1) := by decide +kernel
theorem dL_append_16 : decode cL_append 16 = .ok (.iconst 2, 1) := by decide +kernel
theorem dL_append_17 : decode cL_append 17 = .ok (.ireturn, 1) := by decide +kernel
theorem dL_append_18 : decode cL_append 18 = .ok (.iconst 0, 1) := by decide +kernel
theorem dL_append_19 : decode cL_append 19 = .ok (.ireturn, 1) := by decide +kernel
set_option maxRecDepth 20000 in
theorem ggL_read_X4_read : GoodIn wsL_read wsX4_read := goodIn_ca (goodIn_r _ [6, 7, 8, 9, 10, 11, 12, 13, 14, 15, 16, 17, 18, 19, 20, 21, 22, 23, 24, 25, 26, 27, 28, 29, 30, 31, 32, 33, 34, 35, 36, 37, 38, 39, 40, 41, 42, 43, 44, 45, 46, 47, 48, 49, 50, 51, 52, 53, 54, 55, 56, 57, 58, 59, 60, 61, 62, 63, 64, 65, 66, 67, 68, 69, 70, 71, 72, 73, 74, 75, 76, 77, 78, 79, 80, 81, 82, 83, 84, 85, 86, 87, 88, 89, 90, 91, 92, 93, 94, 95, 96, 97, 98, 99, 100, 101, 102, 103, 104, 105, 106, 107, 108, 109, 110] (by decide +kernel) (by decide +kernel)) (goodIn_sub (fun _ h => List.mem_cons_of_mem _ (List.mem_append_right _ h)) (by decide +kernel))
set_option maxRecDepth 20000 in
theorem gL_read_X4_read : GoodIn wsL_read (wsV RL 43 RX4 yX4_read wsX4_read) := goodIn_app (goodIn_of _ (by decide +kernel)) ggL_read_X4_read
theorem dL_read_0 : decode cL_read 0 = .ok (.aload_n 1, 1) := by decide +kernel
theorem dL_read_1 : decode cL_read 1 = .ok (.iconst 0, 1) := by decide +kernel
theorem dL_read_2 : decode cL_read 2 = .ok (.aload_n 0, 1) := by decide +kernel
theorem dL_read_3 : decode cL_read 3 = .ok (.invokevirtual 43, 3) := by decide +kernel
theorem dL_read_6 : decode cL_read 6 = .ok (.i2l, 1) := by decide +kernel
theorem dL_read_7 : decode cL_read 7 = .ok (.lastore, 1) := by decide +kernel
theorem dL_read_8 : decode cL_read 8 = .ok (.goto 6, 3) := by decide +kernel
theorem dL_read_11 : decode cL_read 11 = .ok (.astore_n 2, 1) := by decide +kernel
theorem dL_read_12 : decode cL_read 12 = .ok (.iconst 1, 1) := by decide +kernel
theorem dL_read_13 : decode cL_read 13 = .ok (.ireturn, 1) := by decide +kernel
theorem dL_read_14 : decode cL_read 14 = .ok (.iconst 0, 1) := by decide +kernel
theorem dL_read_15 : decode cL_read 15 = .ok (.ireturn, 1) := by decide +kernel
set_option maxRecDepth 20000 in
theorem ggL_undo_X4_undo : GoodIn wsL_undo wsX4_undo := goodIn_ca (goodIn_r _ [6, 7, 8, 9, 10, 11, 12, 13, 14, 15, 16, 17, 18, 19, 20, 21, 22, 23, 24, 25, 26, 27, 28, 29, 30, 31, 32, 33, 34, 35, 36, 37, 38, 39, 40, 41, 42, 43, 44, 45, 46, 47, 48, 49, 50, 51, 52, 53, 54, 55, 56] (by decide +kernel) (by decide +kernel)) (goodIn_sub (fun _ h => List.mem_cons_of_mem _ (List.mem_append_right _ h)) (by decide +kernel))
set_option maxRecDepth 20000 in
theorem gL_undo_X4_undo : GoodIn wsL_undo (wsV RL 47 RX4 yX4_undo wsX4_undo) := goodIn_app (goodIn_of _ (by decide +kernel)) ggL_undo_X4_undo
theorem dL_undo_0 : decode cL_undo 0 = .ok (.aload_n 1, 1) := by decide +kernel
theorem dL_undo_1 : decode cL_undo 1 = .ok (.iconst 0, 1) := by decide +kernel
theorem dL_undo_2 : decode cL_undo 2 = .ok (.aload_n 0, 1) := by decide +kernel
theorem dL_undo_3 : decode cL_undo 3 = .ok (.invokevirtual 47, 3) := by decide +kernel
theorem dL_undo_6 : decode cL_undo 6 = .ok (.i2l, 1) := by decide +kernel
theorem dL_undo_7 : decode cL_undo 7 = .ok (.lastore, 1) := by decide +kernel
theorem dL_undo_8 : decode cL_undo 8 = .ok (.goto 6, 3) := by decide +kernel
theorem dL_undo_11 : decode cL_undo 11 = .ok (.astore_n 2, 1) := by decide +kernel
theorem dL_undo_12 : decode cL_undo 12 = .ok (.iconst 1, 1) := by decide +kernel
theorem dL_undo_13 : decode cL_undo 13 = .ok (.ireturn, 1) := by decide +kernel
theorem dL_undo_14 : decode cL_undo 14 = .ok (.iconst 0, 1) := by decide +kernel
theorem dL_undo_15 : decode cL_undo 15 = .ok (.ireturn, 1) := by decide +kernel
set_option maxRecDepth 20000 in
theorem ggL_digit_X4_digit : GoodIn wsL_digit wsX4_digit := goodIn_ca (goodIn_ca (goodIn_r _ [7, 8, 9, 10, 11, 6, 12, 13, 14, 15, 16, 17, 18, 19, 20, 21, 22, 23, 24, 25, 26, 27, 28, 29, 30, 31, 32, 33, 34, 35, 36, 37, 38, 39, 40, 41, 42, 43, 44, 45, 46, 47, 48, 49, 50, 51, 52, 53, 54, 55, 56, 57, 58, 59, 60, 61, 62, 63, 64, 65, 66, 67, 68, 69, 70, 71, 72, 73, 74, 75, 76, 77, 78, 79, 80, 81, 82, 83, 84, 85, 86, 87, 88, 89, 90, 91, 92, 93, 94, 95, 96, 97, 98, 99, 100, 101, 102, 103, 104, 105, 106, 107, 108, 109, 110, 111, 112, 113, 114, 115, 116, 117, 118, 119, 120, 121, 122, 123, 124, 125, 126, 127, 128, 129, 130, 131, 132, 133, 134, 135] (by decide +kernel) (by decide +kernel)) (goodIn_sub (fun _ h => List.mem_cons_of_mem _ (List.mem_append_left _ (List.mem_append_right _ h))) (by decide +kernel))) (goodIn_sub (fun _ h => List.mem_cons_of_mem _ (List.mem_append_right _ h)) (by decide +kernel))
set_option maxRecDepth 20000 in
theorem gL_digit_X4_digit : GoodIn wsL_digit (wsV RL 50 RX4 yX4_digit wsX4_digit) := goodIn_app (goodIn_of _ (by decide +kernel)) ggL_digit_X4_digit
theorem dL_digit_0 : decode cL_digit 0 = .ok (.aload_n 3, 1) := by decide +kernel
theorem dL_digit_1 : decode cL_digit 1 = .ok (.iconst 0, 1) := by decide +kernel
theorem dL_digit_2 : decode cL_digit 2 = .ok (.aload_n 0, 1) := by decide +kernel
theorem dL_digit_3 : decode cL_digit 3 = .ok (.iload_n 1, 1) := by decide +kernel
theorem dL_digit_4 : decode cL_digit 4 = .ok (.iload_n 2, 1) := by decide +kernel
theorem dL_digit_5 : decode cL_digit 5 = .ok (.invokevirtual 50, 3) := by decide +kernel
theorem dL_digit_8 : decode cL_digit 8 = .ok (.i2l, 1) := by decide +kernel
theorem dL_digit_9 : decode cL_digit 9 = .ok (.lastore, 1) := by decide +kernel
theorem dL_digit_10 : decode cL_digit 10 = .ok (.goto 11, 3) := by decide +kernel
theorem dL_digit_13 : decode cL_digit 13 = .ok (.astore 4, 2) := by decide +kernel
theorem dL_digit_15 : decode cL_digit 15 = .ok (.iconst 1, 1) := by decide +kernel
theorem dL_digit_16 : decode cL_digit 16 = .ok (.ireturn, 1) := by decide +kernel
theorem dL_digit_17 : decode cL_digit 17 = .ok (.astore 4, 2) := by decide +kernel
theorem dL_digit_19 : decode cL_digit 19 = .ok (.iconst 2, 1) := by decide +kernel
theorem dL_digit_20 : decode cL_digit 20 = .ok (.ireturn, 1) := by decide +kernel
theorem dL_digit_21 : decode cL_digit 21 = .ok (.iconst 0, 1) := by decide +kernel
theorem dL_digit_22 : decode cL_digit 22 = .ok (.ireturn, 1) := by decide +kernel
set_option maxRecDepth 20000 in
theorem ggL_wear_X4_wear : GoodIn wsL_wear wsX4_wear := goodIn_ca (goodIn_r _ [6, 7, 8, 9, 10, 5, 11, 12, 13, 14, 15, 16, 17, 18, 19, 20, 21, 22, 23, 24, 25, 26, 27, 28, 29, 30, 31, 32, 33, 34] (by decide +kernel) (by decide +kernel)) (goodIn_sub (fun _ h => List.mem_cons_of_mem _ (List.mem_append_right _ h)) (by decide +kernel))
set_option maxRecDepth 20000 in
theorem gL_wear_X4_wear : GoodIn wsL_wear (wsV RL 53 RX4 yX4_wear wsX4_wear) := goodIn_app (goodIn_of _ (by decide +kernel)) ggL_wear_X4_wear
theorem dL_wear_0 : decode cL_wear 0 = .ok (.aload_n 3, 1) := by decide +kernel
theorem dL_wear_1 : decode cL_wear 1 = .ok (.iconst 0, 1) := by decide +kernel
theorem dL_wear_2 : decode cL_wear 2 = .ok (.aload_n 0, 1) := by decide +kernel
theorem dL_wear_3 : decode cL_wear 3 = .ok (.iload_n 1, 1) := by decide +kernel
theorem dL_wear_4 : decode cL_wear 4 = .ok (.iload_n 2, 1) := by decide +kernel
theorem dL_wear_5 : decode cL_wear 5 = .ok (.invokevirtual 53, 3) := by decide +kernel
theorem dL_wear_8 : decode cL_wear 8 = .ok (.i2l, 1) := by decide +kernel
theorem dL_wear_9 : decode cL_wear 9 = .ok (.lastore, 1) := by decide +kernel
theorem dL_wear_10 : decode cL_wear 10 = .ok (.goto 7, 3) := by decide +kernel
theorem dL_wear_13 : decode cL_wear 13 = .ok (.astore 4, 2) := by decide +kernel
theorem dL_wear_15 : decode cL_wear 15 = .ok (.iconst 1, 1) := by decide +kernel
theorem dL_wear_16 : decode cL_wear 16 = .ok (.ireturn, 1) := by decide +kernel
theorem dL_wear_17 : decode cL_wear 17 = .ok (.iconst 0, 1) := by decide +kernel
theorem dL_wear_18 : decode cL_wear 18 = .ok (.ireturn, 1) := by decide +kernel
set_option maxRecDepth 20000 in
theorem ggL_slot_X4_slot : GoodIn wsL_slot wsX4_slot := goodIn_ca (goodIn_r _ [6, 7, 8, 9, 10, 11, 12, 13, 5, 14, 15, 16, 17, 18, 19, 20, 21, 22, 23, 24, 25, 26, 27, 28, 29, 30, 31, 32, 33, 34, 35, 36, 37, 38, 39, 40, 41, 42, 43, 44, 45, 46, 47, 48, 49, 50, 51, 52, 53, 54, 55, 56, 57, 58, 59, 60, 61, 62, 63, 64, 65, 66, 67, 68, 69, 70, 71, 72, 73, 74, 75, 76, 77, 78, 79, 80, 81, 82, 83, 84, 85] (by decide +kernel) (by decide +kernel)) (goodIn_sub (fun _ h => List.mem_cons_of_mem _ (List.mem_append_right _ h)) (by decide +kernel))
set_option maxRecDepth 20000 in
theorem gL_slot_X4_slot : GoodIn wsL_slot (wsV RL 56 RX4 yX4_slot wsX4_slot) := goodIn_app (goodIn_of _ (by decide +kernel)) ggL_slot_X4_slot
theorem dL_slot_0 : decode cL_slot 0 = .ok (.aload_n 3, 1) := by decide +kernel
theorem dL_slot_1 : decode cL_slot 1 = .ok (.iconst 0, 1) := by decide +kernel
theorem dL_slot_2 : decode cL_slot 2 = .ok (.aload_n 0, 1) := by decide +kernel
theorem dL_slot_3 : decode cL_slot 3 = .ok (.iload_n 1, 1) := by decide +kernel
theorem dL_slot_4 : decode cL_slot 4 = .ok (.iload_n 2, 1) := by decide +kernel
theorem dL_slot_5 : decode cL_slot 5 = .ok (.invokevirtual 56, 3) := by decide +kernel
theorem dL_slot_8 : decode cL_slot 8 = .ok (.i2l, 1) := by decide +kernel
theorem dL_slot_9 : decode cL_slot 9 = .ok (.lastore, 1) := by decide +kernel
theorem dL_slot_10 : decode cL_slot 10 = .ok (.goto 7, 3) := by decide +kernel
theorem dL_slot_13 : decode cL_slot 13 = .ok (.astore 4, 2) := by decide +kernel
theorem dL_slot_15 : decode cL_slot 15 = .ok (.iconst 1, 1) := by decide +kernel
theorem dL_slot_16 : decode cL_slot 16 = .ok (.ireturn, 1) := by decide +kernel
theorem dL_slot_17 : decode cL_slot 17 = .ok (.iconst 0, 1) := by decide +kernel
theorem dL_slot_18 : decode cL_slot 18 = .ok (.ireturn, 1) := by decide +kernel
set_option maxRecDepth 20000 in
theorem ggL_count_X4_count : GoodIn wsL_count wsX4_count := goodIn_ca (goodIn_r _ [6, 7, 8, 9, 10, 5, 11, 12, 13, 14, 15, 16, 17, 18, 19, 20, 21, 22, 23, 24, 25, 26, 27, 28, 29, 30, 31, 32, 33, 34, 35, 36, 37, 38, 39, 40, 41, 42, 43, 44, 45, 46, 47, 48, 49, 50, 51, 52, 53, 54, 55, 56, 57, 58, 59, 60, 61, 62, 63, 64, 65, 66, 67, 68, 69, 70, 71, 72, 73, 74, 75, 76, 77, 78, 79, 80, 81, 82, 83, 84, 85, 86, 87, 88, 89, 90, 91, 92, 93, 94, 95, 96, 97, 98, 99, 100, 101, 102, 103, 104, 105, 106, 107, 108, 109, 110, 111, 112, 113, 114, 115, 116, 117, 118, 119, 120, 121, 122, 123, 124, 125, 126, 127, 128, 129, 130, 131, 132, 133, 134, 135, 136, 137, 138, 139, 140, 141, 142, 143, 144, 145, 146, 147, 148, 149, 150, 151, 152, 153, 154, 155, 156, 157, 158, 159] (by decide +kernel) (by decide +kernel)) (goodIn_sub (fun _ h => List.mem_cons_of_mem _ (List.mem_append_right _ h)) (by decide +kernel))
set_option maxRecDepth 20000 in
theorem gL_count_X4_count : GoodIn wsL_count (wsV RL 60 RX4 yX4_count wsX4_count) := goodIn_app (goodIn_of _ (by decide +kernel)) ggL_count_X4_count
theorem dL_count_0 : decode cL_count 0 = .ok (.aload_n 2, 1) := by decide +kernel
theorem dL_count_1 : decode cL_count 1 = .ok (.iconst 0, 1) := by decide +kernel
theorem dL_count_2 : decode cL_count 2 = .ok (.aload_n 0, 1) := by decide +kernel
theorem dL_count_3 : decode cL_count 3 = .ok (.iload_n 1, 1) := by decide +kernel
theorem dL_count_4 : decode cL_count 4 = .ok (.invokevirtual 60, 3) := by decide +kernel
theorem dL_count_7 : decode cL_count 7 = .ok (.i2l, 1) := by decide +kernel
theorem dL_count_8 : decode cL_count 8 = .ok (.lastore, 1) := by decide +kernel
theorem dL_count_9 : decode cL_count 9 = .ok (.goto 6, 3) := by decide +kernel
theorem dL_count_12 : decode cL_count 12 = .ok (.astore_n 3, 1) := by decide +kernel
theorem dL_count_13 : decode cL_count 13 = .ok (.iconst 1, 1) := by decide +kernel
theorem dL_count_14 : decode cL_count 14 = .ok (.ireturn, 1) := by decide +kernel
theorem dL_count_15 : decode cL_count 15 = .ok (.iconst 0, 1) := by decide +kernel
theorem dL_count_16 : decode cL_count 16 = .ok (.ireturn, 1) := by decide +kernel
set_option maxRecDepth 20000 in
theorem ggL_setting_X4_setting : GoodIn wsL_setting wsX4_setting := goodIn_ca (goodIn_r _ [6, 7, 8, 9, 10, 5, 11, 12, 13, 14, 15, 16, 17, 18, 19, 20, 21, 22, 23, 24, 25, 26, 27, 28] (by decide +kernel) (by decide +kernel)) (goodIn_sub (fun _ h => List.mem_cons_of_mem _ (List.mem_append_right _ h)) (by decide +kernel))
set_option maxRecDepth 20000 in
theorem gL_setting_X4_setting : GoodIn wsL_setting (wsV RL 63 RX4 yX4_setting wsX4_setting) := goodIn_app (goodIn_of _ (by decide +kernel)) ggL_setting_X4_setting
theorem dL_setting_0 : decode cL_setting 0 = .ok (.aload_n 2, 1) := by decide +kernel
theorem dL_setting_1 : decode cL_setting 1 = .ok (.iconst 0, 1) := by decide +kernel
theorem dL_setting_2 : decode cL_setting 2 = .ok (.aload_n 0, 1) := by decide +kernel
theorem dL_setting_3 : decode cL_setting 3 = .ok (.iload_n 1, 1) := by decide +kernel
theorem dL_setting_4 : decode cL_setting 4 = .ok (.invokevirtual 63, 3) := by decide +kernel
theorem dL_setting_7 : decode cL_setting 7 = .ok (.i2l, 1) := by decide +kernel
theorem dL_setting_8 : decode cL_setting 8 = .ok (.lastore, 1) := by decide +kernel
theorem dL_setting_9 : decode cL_setting 9 = .ok (.goto 6, 3) := by decide +kernel
theorem dL_setting_12 : decode cL_setting 12 = .ok (.astore_n 3, 1) := by decide +kernel
theorem dL_setting_13 : decode cL_setting 13 = .ok (.iconst 1, 1) := by decide +kernel
theorem dL_setting_14 : decode cL_setting 14 = .ok (.ireturn, 1) := by decide +kernel
theorem dL_setting_15 : decode cL_setting 15 = .ok (.iconst 0, 1) := by decide +kernel
theorem dL_setting_16 : decode cL_setting 16 = .ok (.ireturn, 1) := by decide +kernel
set_option maxRecDepth 20000 in
theorem ggL_ifLevel_X4_ifLevel : GoodIn wsL_ifLevel wsX4_ifLevel := goodIn_ca (goodIn_ca (goodIn_r _ [7, 8, 9, 10, 11, 6, 12, 13, 14, 15, 16, 17, 18, 19, 20, 21, 22, 23, 24, 25, 26, 27, 28, 29, 30, 31, 32, 33, 34, 35, 36, 37, 38, 39, 40, 41, 42, 43, 44, 45, 46, 47, 48, 49, 50, 51, 52, 53, 54, 55, 56, 57, 58, 59, 60, 61, 62, 63, 64, 65, 66, 67, 68, 69, 70, 71, 72, 73, 74, 75, 76, 77, 78, 79, 80, 81, 82, 83, 84, 85, 86, 87, 88, 89, 90, 91, 92, 93, 94, 95, 96, 97, 98, 99, 100, 101, 102, 103, 104, 105, 106, 107, 108, 109, 110, 111, 112] (by decide +kernel) (by decide +kernel)) (goodIn_sub (fun _ h => List.mem_cons_of_mem _ (List.mem_append_left _ (List.mem_append_right _ h))) (by decide +kernel))) (goodIn_sub (fun _ h => List.mem_cons_of_mem _ (List.mem_append_right _ h)) (by decide +kernel))
set_option maxRecDepth 20000 in
theorem gL_ifLevel_X4_ifLevel : GoodIn wsL_ifLevel (wsV RL 66 RX4 yX4_ifLevel wsX4_ifLevel) := goodIn_app (goodIn_of _ (by decide +kernel)) ggL_ifLevel_X4_ifLevel
theorem dL_ifLevel_0 : decode cL_ifLevel 0 = .ok (.aload 4, 2) := by decide +kernel
theorem dL_ifLevel_2 : decode cL_ifLevel 2 = .ok (.iconst 0, 1) := by decide +kernel
theorem dL_ifLevel_3 : decode cL_ifLevel 3 = .ok (.aload_n 0, 1) := by decide +kernel
theorem dL_ifLevel_4 : decode cL_ifLevel 4 = .ok (.iload_n 1, 1) := by decide +kernel
theorem dL_ifLevel_5 : decode cL_ifLevel 5 = .ok (.iload_n 2, 1) := by decide +kernel
theorem dL_ifLevel_6 : decode cL_ifLevel 6 = .ok (.iload_n 3, 1) := by decide +kernel
theorem dL_ifLevel_7 : decode cL_ifLevel 7 = .ok (.invokevirtual 66, 3) := by decide +kernel
theorem dL_ifLevel_10 : decode cL_ifLevel 10 = .ok (.i2l, 1) := by decide +kernel
theorem dL_ifLevel_11 : decode cL_ifLevel 11 = .ok (.lastore, 1) := by decide +kernel
theorem dL_ifLevel_12 : decode cL_ifLevel 12 = .ok (.goto 11, 3) := by decide +kernel
theorem dL_ifLevel_15 : decode cL_ifLevel 15 = .ok (.astore 5, 2) := by decide +kernel
theorem dL_ifLevel_17 : decode cL_ifLevel 17 = .ok (.iconst 1, 1) := by decide +kernel
theorem dL_ifLevel_18 : decode cL_ifLevel 18 = .ok (.ireturn, 1) := by decide +kernel
theorem dL_ifLevel_19 : decode cL_ifLevel 19 = .ok (.astore 5, 2) := by decide +kernel
theorem dL_ifLevel_21 : decode cL_ifLevel 21 = .ok (.iconst 2, 1) := by decide +kernel
theorem dL_ifLevel_22 : decode cL_ifLevel 22 = .ok (.ireturn, 1) := by decide +kernel
theorem dL_ifLevel_23 : decode cL_ifLevel 23 = .ok (.iconst 0, 1) := by decide +kernel
theorem dL_ifLevel_24 : decode cL_ifLevel 24 = .ok (.ireturn, 1) := by decide +kernel
set_option maxRecDepth 20000 in
theorem ggL_leastLevel_X4_leastLevel : GoodIn wsL_leastLevel wsX4_leastLevel := goodIn_ca (goodIn_r _ [6, 7, 8, 5, 9, 10, 11, 12, 13, 14, 15, 16, 17, 18, 19, 20, 21, 22, 23, 24, 25, 26, 27, 28, 29, 30, 31, 32, 33, 34, 35, 36, 37, 38, 39, 40, 41, 42, 43, 44, 45, 46, 47, 48, 49, 50, 51, 52, 53, 54, 55, 56, 57, 58, 59, 60, 61, 62, 63, 64, 65, 66, 67, 68, 69, 70, 71, 72, 73, 74, 75, 76, 77, 78, 79, 80, 81, 82, 83, 84, 85, 86, 87, 88, 89, 90, 91, 92, 93, 94, 95, 96, 97] (by decide +kernel) (by decide +kernel)) (goodIn_sub (fun _ h => List.mem_cons_of_mem _ (List.mem_append_right _ h)) (by decide +kernel))
set_option maxRecDepth 20000 in
theorem gL_leastLevel_X4_leastLevel : GoodIn wsL_leastLevel (wsV RL 69 RX4 yX4_leastLevel wsX4_leastLevel) := goodIn_app (goodIn_of _ (by decide +kernel)) ggL_leastLevel_X4_leastLevel
theorem dL_leastLevel_0 : decode cL_leastLevel 0 = .ok (.aload_n 2, 1) := by decide +kernel
theorem dL_leastLevel_1 : decode cL_leastLevel 1 = .ok (.iconst 0, 1) := by decide +kernel
theorem dL_leastLevel_2 : decode cL_leastLevel 2 = .ok (.aload_n 0, 1) := by decide +kernel
theorem dL_leastLevel_3 : decode cL_leastLevel 3 = .ok (.iload_n 1, 1) := by decide +kernel
theorem dL_leastLevel_4 : decode cL_leastLevel 4 = .ok (.invokevirtual 69, 3) := by decide +kernel
theorem dL_leastLevel_7 : decode cL_leastLevel 7 = .ok (.i2l, 1) := by decide +kernel
theorem dL_leastLevel_8 : decode cL_leastLevel 8 = .ok (.lastore, 1) := by decide +kernel
theorem dL_leastLevel_9 : decode cL_leastLevel 9 = .ok (.goto 6, 3) := by decide +kernel
theorem dL_leastLevel_12 : decode cL_leastLevel 12 = .ok (.astore_n 3, 1) := by decide +kernel
theorem dL_leastLevel_13 : decode cL_leastLevel 13 = .ok (.iconst 1, 1) := by decide +kernel
theorem dL_leastLevel_14 : decode cL_leastLevel 14 = .ok (.ireturn, 1) := by decide +kernel
theorem dL_leastLevel_15 : decode cL_leastLevel 15 = .ok (.iconst 0, 1) := by decide +kernel
theorem dL_leastLevel_16 : decode cL_leastLevel 16 = .ok (.ireturn, 1) := by decide +kernel
set_option maxRecDepth 20000 in
theorem ggL_alikeSigns_X4_alikeSigns : GoodIn wsL_alikeSigns wsX4_alikeSigns := goodIn_ca (goodIn_r _ [6, 7, 8, 5, 9, 10, 11, 12, 13, 14, 15, 16, 17, 18, 19, 20, 21, 22, 23, 24, 25, 26, 27, 28, 29, 30, 31, 32, 33] (by decide +kernel) (by decide +kernel)) (goodIn_sub (fun _ h => List.mem_cons_of_mem _ (List.mem_append_right _ h)) (by decide +kernel))
set_option maxRecDepth 20000 in
theorem gL_alikeSigns_X4_alikeSigns : GoodIn wsL_alikeSigns (wsV RL 72 RX4 yX4_alikeSigns wsX4_alikeSigns) := goodIn_app (goodIn_of _ (by decide +kernel)) ggL_alikeSigns_X4_alikeSigns
theorem dL_alikeSigns_0 : decode cL_alikeSigns 0 = .ok (.aload_n 2, 1) := by decide +kernel
theorem dL_alikeSigns_1 : decode cL_alikeSigns 1 = .ok (.iconst 0, 1) := by decide +kernel
theorem dL_alikeSigns_2 : decode cL_alikeSigns 2 = .ok (.aload_n 0, 1) := by decide +kernel
theorem dL_alikeSigns_3 : decode cL_alikeSigns 3 = .ok (.iload_n 1, 1) := by decide +kernel
theorem dL_alikeSigns_4 : decode cL_alikeSigns 4 = .ok (.invokevirtual 72, 3) := by decide +kernel
theorem dL_alikeSigns_7 : decode cL_alikeSigns 7 = .ok (.i2l, 1) := by decide +kernel
theorem dL_alikeSigns_8 : decode cL_alikeSigns 8 = .ok (.lastore, 1) := by decide +kernel
theorem dL_alikeSigns_9 : decode cL_alikeSigns 9 = .ok (.goto 6, 3) := by decide +kernel
theorem dL_alikeSigns_12 : decode cL_alikeSigns 12 = .ok (.astore_n 3, 1) := by decide +kernel
theorem dL_alikeSigns_13 : decode cL_alikeSigns 13 = .ok (.iconst 1, 1) := by decide +kernel
theorem dL_alikeSigns_14 : decode cL_alikeSigns 14 = .ok (.ireturn, 1) := by decide +kernel
theorem dL_alikeSigns_15 : decode cL_alikeSigns 15 = .ok (.iconst 0, 1) := by decide +kernel
theorem dL_alikeSigns_16 : decode cL_alikeSigns 16 = .ok (.ireturn, 1) := by decide +kernel
set_option maxRecDepth 20000 in
theorem ggL_law_X4_init : GoodIn wsL_law wsX4_init := goodIn_r _ [9, 10, 11, 12, 13, 14, 15, 16, 17, 18, 19, 20, 21, 22, 23, 24, 25, 26, 27, 28, 29, 30, 31, 32, 33, 34, 35, 36, 37, 38, 39, 40, 41, 42, 43, 44, 45, 46, 47, 48, 49, 50, 51, 52, 53, 54, 55, 56, 57, 58, 59, 60, 61, 62, 63, 64, 65, 66, 67, 68, 69, 70, 71, 72, 73, 74, 75, 76, 77, 78, 79, 80, 81, 82, 83, 84, 785, 786, 787, 788, 789, 790, 791, 792, 793, 794, 764, 765, 766, 767, 768, 795, 796, 797, 798, 799, 800, 801, 802, 803, 804, 805, 806, 807, 808, 809, 810, 811, 812, 813] (by decide +kernel) (by decide +kernel)
set_option maxRecDepth 20000 in
theorem gL_law_X4_init : GoodIn wsL_law (wsX4_init) := ggL_law_X4_init
set_option maxRecDepth 20000 in
theorem ggL_law_X5_init : GoodIn wsL_law wsX5_init := goodIn_r _ [87, 88, 11, 12, 34, 89, 90, 91, 92, 93, 94, 95, 96, 97, 769, 770, 771, 772, 773, 774, 775, 776, 777, 778, 779, 780, 781, 782, 783, 784] (by decide +kernel) (by decide +kernel)
set_option maxRecDepth 20000 in
theorem gL_law_X5_init : GoodIn wsL_law (wsX5_init) := ggL_law_X5_init
set_option maxRecDepth 20000 in
theorem ggL_law_L_show : GoodIn wsL_law wsL_show := goodIn_ca (goodIn_ca (goodIn_r _ [101, 102, 103, 104, 105, 106, 2, 107, 20, 16, 108, 109, 110, 111, 112, 113, 114, 115, 116, 117, 118, 119, 120, 121, 19, 122, 60, 59, 58, 123, 124, 125, 15, 126, 35, 45, 46, 47, 48, 36, 37, 38, 39, 40, 41, 42, 43, 44, 764, 765, 766, 767, 768, 785, 786, 787, 788, 789, 790, 791, 792, 793, 794, 795, 796, 797] (by decide +kernel) (by decide +kernel)) (goodIn_sub (fun _ h => List.mem_append_left _ (List.mem_append_left _ (List.mem_append_right _ h))) (by decide +kernel))) (goodIn_sub (fun _ h => List.mem_append_left _ (List.mem_append_right _ h)) (by decide +kernel))
set_option maxRecDepth 20000 in
theorem gL_law_L_show : GoodIn wsL_law (va_wsS RL 79 yL_show wsL_show) := goodIn_app (goodIn_of _ (by decide +kernel)) ggL_law_L_show
set_option maxRecDepth 20000 in
theorem ggL_law_X5_show : GoodIn wsL_law wsX5_show := goodIn_r _ [130, 131, 132, 133, 5, 134, 135, 136, 137, 138, 139, 140, 141, 142, 143, 144, 145, 146, 147, 148, 149, 92, 90, 150, 151, 152, 153, 769, 770, 771, 772, 773, 774, 775, 776, 777, 778, 779, 780, 781, 782, 783, 784] (by decide +kernel) (by decide +kernel)
set_option maxRecDepth 20000 in
theorem gL_law_X5_show : GoodIn wsL_law (wsV RL 84 RX5 yX5_show wsX5_show) := goodIn_app (goodIn_of _ (by decide +kernel)) ggL_law_X5_show
set_option maxRecDepth 20000 in
theorem ggL_law_X5_thrown : GoodIn wsL_law wsX5_thrown := goodIn_r _ [157, 131, 769, 770, 771, 772, 773, 774, 775, 776, 777, 778, 779, 780, 781, 782, 783, 784] (by decide +kernel) (by decide +kernel)
set_option maxRecDepth 20000 in
theorem gL_law_X5_thrown : GoodIn wsL_law (wsV RL 85 RX5 yX5_thrown wsX5_thrown) := goodIn_app (goodIn_of _ (by decide +kernel)) ggL_law_X5_thrown
set_option maxRecDepth 20000 in
theorem ggL_law_L_level : GoodIn wsL_law wsL_level := goodIn_ca (goodIn_ca (goodIn_r _ [160, 102, 103, 161, 162, 163, 2, 164, 20, 16, 165, 109, 110, 111, 112, 113, 114, 115, 116, 117, 118, 119, 120, 121, 19, 122, 60, 59, 58, 123, 124, 125, 15, 126, 35, 45, 46, 47, 48, 36, 37, 38, 39, 40, 41, 42, 43, 44, 166, 167, 168, 169, 49, 50, 51, 52, 764, 765, 766, 767, 768, 785, 786, 787, 788, 789, 790, 791, 792, 793, 794, 795, 796, 797] (by decide +kernel) (by decide +kernel)) (goodIn_sub (fun _ h => List.mem_append_left _ (List.mem_append_left _ (List.mem_append_right _ h))) (by decide +kernel))) (goodIn_sub (fun _ h => List.mem_append_left _ (List.mem_append_right _ h)) (by decide +kernel))
set_option maxRecDepth 20000 in
theorem gL_law_L_level : GoodIn wsL_law (va_wsS RL 88 yL_level wsL_level) := goodIn_app (goodIn_of _ (by decide +kernel)) ggL_law_L_level
set_option maxRecDepth 20000 in
theorem ggL_law_X5_level : GoodIn wsL_law wsX5_level := goodIn_r _ [173, 131, 132, 133, 5, 134, 135, 136, 137, 138, 139, 140, 141, 174, 175, 176, 145, 146, 147, 148, 149, 92, 90, 177, 178, 179, 180, 150, 151, 152, 153, 769, 770, 771, 772, 773, 774, 775, 776, 777, 778, 779, 780, 781, 782, 783, 784] (by decide +kernel) (by decide +kernel)
set_option maxRecDepth 20000 in
theorem gL_law_X5_level : GoodIn wsL_law (wsV RL 90 RX5 yX5_level wsX5_level) := goodIn_app (goodIn_of _ (by decide +kernel)) ggL_law_X5_level
set_option maxRecDepth 20000 in
theorem ggL_law_L_burn : GoodIn wsL_law wsL_burn := goodIn_ca (goodIn_r _ [183, 102, 184, 185, 186, 2, 187, 20, 16, 188, 189, 109, 110, 111, 112, 113, 190, 191, 192, 119, 120, 121, 19, 122, 60, 59, 58, 123, 124, 125, 15, 126, 35, 45, 46, 47, 48, 36, 37, 38, 39, 40, 41, 42, 43, 44, 193, 194, 195, 764, 765, 766, 767, 768, 785, 786, 787, 788, 789, 790, 791, 792, 793, 794, 795, 796, 797] (by decide +kernel) (by decide +kernel)) (goodIn_sub (fun _ h => List.mem_append_left _ (List.mem_append_left _ (List.mem_append_right _ h))) (by decide +kernel))
set_option maxRecDepth 20000 in
theorem gL_law_L_burn : GoodIn wsL_law (va_wsS RL 91 yL_burn wsL_burn) := goodIn_app (goodIn_of _ (by decide +kernel)) ggL_law_L_burn
set_option maxRecDepth 20000 in
theorem ggL_law_X5_burn : GoodIn wsL_law wsX5_burn := goodIn_r _ [199, 131, 90, 132, 133, 5, 134, 135, 136, 137, 200, 201, 202, 138, 139, 140, 141, 145, 146, 147, 148, 149, 92, 769, 770, 771, 772, 773, 774, 775, 776, 777, 778, 779, 780, 781, 782, 783, 784] (by decide +kernel) (by decide +kernel)
set_option maxRecDepth 20000 in
theorem gL_law_X5_burn : GoodIn wsL_law (wsV RL 94 RX5 yX5_burn wsX5_burn) := goodIn_app (goodIn_of _ (by decide +kernel)) ggL_law_X5_burn
set_option maxRecDepth 20000 in
theorem ggL_law_L_ambient : GoodIn wsL_law wsL_ambient := goodIn_ca (goodIn_r _ [205, 103, 206, 207, 208, 2, 209, 20, 16, 210, 114, 115, 116, 117, 118, 119, 120, 121, 19, 122, 60, 59, 58, 123, 124, 125, 15, 126, 35, 45, 46, 47, 48, 36, 37, 38, 39, 40, 41, 42, 43, 44, 764, 765, 766, 767, 768, 785, 786, 787, 788, 789, 790, 791, 792, 793, 794, 795, 796, 797] (by decide +kernel) (by decide +kernel)) (goodIn_sub (fun _ h => List.mem_append_left _ (List.mem_append_right _ h)) (by decide +kernel))
set_option maxRecDepth 20000 in
theorem gL_law_L_ambient : GoodIn wsL_law (va_wsS RL 95 yL_ambient wsL_ambient) := goodIn_app (goodIn_of _ (by decide +kernel)) ggL_law_L_ambient
set_option maxRecDepth 20000 in
theorem ggL_law_X5_ambient : GoodIn wsL_law wsX5_ambient := goodIn_r _ [214, 131, 135, 136, 5, 137, 138, 139, 140, 141, 145, 146, 147, 148, 149, 92, 90, 150, 151, 152, 153, 769, 770, 771, 772, 773, 774, 775, 776, 777, 778, 779, 780, 781, 782, 783, 784] (by decide +kernel) (by decide +kernel)
set_option maxRecDepth 20000 in
theorem gL_law_X5_ambient : GoodIn wsL_law (wsV RL 98 RX5 yX5_ambient wsX5_ambient) := goodIn_app (goodIn_of _ (by decide +kernel)) ggL_law_X5_ambient
set_option maxRecDepth 20000 in
theorem ggL_law_L_set : GoodIn wsL_law wsL_set := goodIn_ca (goodIn_ca (goodIn_r _ [217, 102, 103, 218, 219, 220, 2, 221, 222, 223, 20, 16, 224, 225, 226, 227, 112, 113, 114, 115, 116, 117, 118, 119, 120, 121, 19, 122, 60, 59, 58, 123, 124, 125, 15, 126, 35, 45, 46, 47, 48, 36, 37, 38, 39, 40, 41, 42, 43, 44, 764, 765, 766, 767, 768, 785, 786, 787, 788, 789, 790, 791, 792, 793, 794, 795, 796, 797] (by decide +kernel) (by decide +kernel)) (goodIn_sub (fun _ h => List.mem_append_left _ (List.mem_append_left _ (List.mem_append_right _ h))) (by decide +kernel))) (goodIn_sub (fun _ h => List.mem_append_left _ (List.mem_append_right _ h)) (by decide +kernel))
set_option maxRecDepth 20000 in
theorem gL_law_L_set : GoodIn wsL_law (va_wsS RL 99 yL_set wsL_set) := goodIn_app (goodIn_of _ (by decide +kernel)) ggL_law_L_set
set_option maxRecDepth 20000 in
theorem ggL_law_X5_set : GoodIn wsL_law wsX5_set := goodIn_r _ [231, 131, 135, 136, 5, 137, 138, 139, 140, 141, 232, 233, 234, 145, 146, 147, 148, 149, 92, 90, 150, 151, 152, 153, 769, 770, 771, 772, 773, 774, 775, 776, 777, 778, 779, 780, 781, 782, 783, 784] (by decide +kernel) (by decide +kernel)
set_option maxRecDepth 20000 in
theorem gL_law_X5_set : GoodIn wsL_law (wsV RL 101 RX5 yX5_set wsX5_set) := goodIn_app (goodIn_of _ (by decide +kernel)) ggL_law_X5_set
set_option maxRecDepth 20000 in
theorem ggL_law_L_number : GoodIn wsL_law wsL_number := goodIn_ca (goodIn_ca (goodIn_r _ [237, 102, 103, 238, 239, 240, 2, 241, 20, 16, 109, 110, 111, 112, 113, 242, 243, 244, 245, 246, 247, 248, 114, 115, 116, 117, 118, 119, 120, 121, 19, 122, 60, 59, 58, 123, 124, 125, 15, 126, 35, 45, 46, 47, 48, 36, 37, 38, 39, 40, 41, 42, 43, 44, 249, 250, 251, 252, 253, 764, 765, 766, 767, 768, 795, 796, 797, 785, 786, 787, 788, 789, 790, 791, 792, 793, 794] (by decide +kernel) (by decide +kernel)) (goodIn_sub (fun _ h => List.mem_append_left _ (List.mem_append_left _ (List.mem_append_right _ h))) (by decide +kernel))) (goodIn_sub (fun _ h => List.mem_append_left _ (List.mem_append_right _ h)) (by decide +kernel))
set_option maxRecDepth 20000 in
theorem gL_law_L_number : GoodIn wsL_law (va_wsS RL 102 yL_number wsL_number) := goodIn_app (goodIn_of _ (by decide +kernel)) ggL_law_L_number
set_option maxRecDepth 20000 in
theorem ggL_law_X5_number : GoodIn wsL_law wsX5_number := goodIn_r _ [257, 131, 90, 132, 133, 5, 134, 135, 136, 137, 138, 139, 140, 141, 258, 259, 260, 145, 146, 147, 148, 149, 92, 769, 770, 771, 772, 773, 774, 775, 776, 777, 778, 779, 780, 781, 782, 783, 784] (by decide +kernel) (by decide +kernel)
set_option maxRecDepth 20000 in
theorem gL_law_X5_number : GoodIn wsL_law (wsV RL 105 RX5 yX5_number wsX5_number) := goodIn_app (goodIn_of _ (by decide +kernel)) ggL_law_X5_number
set_option maxRecDepth 20000 in
theorem ggL_law_L_run : GoodIn wsL_law wsL_run := goodIn_ca (goodIn_ca (goodIn_r _ [263, 103, 264, 265, 266, 267, 2, 268, 269, 270, 16, 271, 272, 20, 114, 115, 116, 117, 118, 119, 120, 121, 19, 122, 60, 59, 58, 123, 124, 125, 15, 126, 35, 45, 46, 47, 48, 36, 37, 38, 39, 40, 41, 42, 43, 44, 273, 274, 275, 276, 277, 278, 279, 280, 281, 282, 283, 284, 285, 286, 287, 288, 194, 195, 764, 765, 766, 767, 768, 785, 786, 787, 788, 789, 790, 791, 792, 793, 794, 795, 796, 797] (by decide +kernel) (by decide +kernel)) (goodIn_sub (fun _ h => List.mem_append_right _ h) (by decide +kernel))) (goodIn_sub (fun _ h => List.mem_append_left _ (List.mem_append_right _ h)) (by decide +kernel))
set_option maxRecDepth 20000 in
theorem gL_law_L_run : GoodIn wsL_law (va_wsS RL 106 yL_run wsL_run) := goodIn_app (goodIn_of _ (by decide +kernel)) ggL_law_L_run
set_option maxRecDepth 20000 in
theorem ggL_law_X5_run : GoodIn wsL_law wsX5_run := goodIn_r _ [292, 131, 90, 293, 135, 136, 5, 137, 138, 139, 140, 141, 145, 146, 147, 148, 149, 92, 294, 295, 296, 297, 298, 299, 300, 301, 302, 303, 304, 305, 306, 307, 308, 309, 310, 89, 769, 770, 771, 772, 773, 774, 775, 776, 777, 778, 779, 780, 781, 782, 783, 784] (by decide +kernel) (by decide +kernel)
set_option maxRecDepth 20000 in
theorem gL_law_X5_run : GoodIn wsL_law (wsV RL 108 RX5 yX5_run wsX5_run) := goodIn_app (goodIn_of _ (by decide +kernel)) ggL_law_X5_run
set_option maxRecDepth 20000 in
theorem ggL_law_L_append : GoodIn wsL_law wsL_append := goodIn_ca (goodIn_ca (goodIn_r _ [313, 103, 264, 314, 315, 316, 2, 317, 269, 270, 24, 318, 114, 115, 116, 117, 118, 319, 320, 321, 23, 322, 67, 66, 764, 765, 766, 767, 768, 798, 799, 800, 801, 802, 803] (by decide +kernel) (by decide +kernel)) (goodIn_sub (fun _ h => List.mem_append_right _ h) (by decide +kernel))) (goodIn_sub (fun _ h => List.mem_append_left _ (List.mem_append_right _ h)) (by decide +kernel))
set_option maxRecDepth 20000 in
theorem gL_law_L_append : GoodIn wsL_law (va_wsS RL 109 yL_append wsL_append) := goodIn_app (goodIn_of _ (by decide +kernel)) ggL_law_L_append
set_option maxRecDepth 20000 in
theorem ggL_law_X5_append : GoodIn wsL_law wsX5_append := goodIn_r _ [326, 131, 327, 93, 135, 136, 5, 137, 138, 139, 140, 141, 769, 770, 771, 772, 773, 774, 775, 776, 777, 778, 779, 780, 781, 782, 783, 784] (by decide +kernel) (by decide +kernel)
set_option maxRecDepth 20000 in
theorem gL_law_X5_append : GoodIn wsL_law (wsV RL 111 RX5 yX5_append wsX5_append) := goodIn_app (goodIn_of _ (by decide +kernel)) ggL_law_X5_append
set_option maxRecDepth 20000 in
theorem ggL_law_X4_clearBuffer : GoodIn wsL_law wsX4_clearBuffer := goodIn_r _ [331, 24, 318, 764, 765, 766, 767, 768, 798, 799, 800, 801, 802, 803] (by decide +kernel) (by decide +kernel)
set_option maxRecDepth 20000 in
theorem gL_law_X4_clearBuffer : GoodIn wsL_law (wsV RL 112 RX4 yX4_clearBuffer wsX4_clearBuffer) := goodIn_app (goodIn_of _ (by decide +kernel)) ggL_law_X4_clearBuffer
set_option maxRecDepth 20000 in
theorem ggL_law_X5_clearBuffer : GoodIn wsL_law wsX5_clearBuffer := goodIn_r _ [335, 131, 327, 769, 770, 771, 772, 773, 774, 775, 776, 777, 778, 779, 780, 781, 782, 783, 784] (by decide +kernel) (by decide +kernel)
set_option maxRecDepth 20000 in
theorem gL_law_X5_clearBuffer : GoodIn wsL_law (wsV RL 115 RX5 yX5_clearBuffer wsX5_clearBuffer) := goodIn_app (goodIn_of _ (by decide +kernel)) ggL_law_X5_clearBuffer
set_option maxRecDepth 20000 in
theorem ggL_law_X4_firstError : GoodIn wsL_law wsX4_firstError := goodIn_r _ [339, 24, 340, 341, 342, 23, 343, 70, 71, 67, 66, 344, 345, 346, 347, 348, 349, 350, 351, 352, 353, 354, 355, 69, 356, 357, 358, 359, 68, 360, 361, 362, 764, 765, 766, 767, 768, 798, 799, 800, 801, 802, 803] (by decide +kernel) (by decide +kernel)
set_option maxRecDepth 20000 in
theorem gL_law_X4_firstError : GoodIn wsL_law (wsV RL 116 RX4 yX4_firstError wsX4_firstError) := goodIn_app (goodIn_of _ (by decide +kernel)) ggL_law_X4_firstError
set_option maxRecDepth 20000 in
theorem ggL_law_X5_firstError : GoodIn wsL_law wsX5_firstError := goodIn_r _ [366, 131, 367, 368, 327, 369, 370, 371, 5, 372, 373, 374, 375, 376, 377, 94, 93, 378, 379, 380, 381, 135, 136, 137, 382, 383, 384, 385, 769, 770, 771, 772, 773, 774, 775, 776, 777, 778, 779, 780, 781, 782, 783, 784] (by decide +kernel) (by decide +kernel)
set_option maxRecDepth 20000 in
theorem gL_law_X5_firstError : GoodIn wsL_law (wsV RL 119 RX5 yX5_firstError wsX5_firstError) := goodIn_app (goodIn_of _ (by decide +kernel)) ggL_law_X5_firstError
set_option maxRecDepth 20000 in
theorem ggL_law_L_read : GoodIn wsL_law wsL_read := goodIn_ca (goodIn_r _ [388, 103, 389, 390, 391, 2, 392, 117, 118, 24, 318, 20, 16, 393, 108, 394, 395, 165, 340, 341, 342, 23, 343, 70, 71, 67, 66, 344, 345, 346, 347, 348, 349, 350, 351, 352, 353, 354, 355, 69, 356, 357, 358, 359, 68, 360, 361, 362, 396, 397, 398, 399, 119, 120, 121, 19, 122, 60, 59, 58, 123, 124, 125, 15, 126, 35, 45, 46, 47, 48, 36, 37, 38, 39, 40, 41, 42, 43, 44, 166, 167, 168, 169, 49, 50, 51, 52, 764, 765, 766, 767, 768, 798, 799, 800, 801, 802, 803, 785, 786, 787, 788, 789, 790, 791, 792, 793, 794, 795, 796, 797] (by decide +kernel) (by decide +kernel)) (goodIn_sub (fun _ h => List.mem_append_left _ (List.mem_append_right _ h)) (by decide +kernel))
set_option maxRecDepth 20000 in
theorem gL_law_L_read : GoodIn wsL_law (va_wsS RL 120 yL_read wsL_read) := goodIn_app (goodIn_of _ (by decide +kernel)) ggL_law_L_read
set_option maxRecDepth 20000 in
theorem ggL_law_X5_read : GoodIn wsL_law wsX5_read := goodIn_r _ [403, 131, 327, 373, 90, 94, 369, 370, 371, 5, 372, 368, 367, 374, 375, 376, 377, 93, 378, 379, 380, 381, 135, 136, 137, 382, 383, 384, 385, 138, 139, 140, 141, 145, 146, 147, 148, 149, 92, 177, 178, 179, 180, 769, 770, 771, 772, 773, 774, 775, 776, 777, 778, 779, 780, 781, 782, 783, 784] (by decide +kernel) (by decide +kernel)
set_option maxRecDepth 20000 in
theorem gL_law_X5_read : GoodIn wsL_law (wsV RL 123 RX5 yX5_read wsX5_read) := goodIn_app (goodIn_of _ (by decide +kernel)) ggL_law_X5_read
set_option maxRecDepth 20000 in
theorem ggL_law_L_undo : GoodIn wsL_law wsL_undo := goodIn_ca (goodIn_r _ [406, 264, 407, 408, 409, 2, 410, 269, 270, 20, 411, 16, 412, 413, 414, 19, 415, 60, 58, 59, 123, 124, 125, 15, 126, 35, 45, 46, 47, 48, 36, 37, 38, 39, 40, 41, 42, 43, 44, 764, 765, 766, 767, 768, 795, 796, 797, 785, 786, 787, 788, 789, 790, 791, 792, 793, 794] (by decide +kernel) (by decide +kernel)) (goodIn_sub (fun _ h => List.mem_append_right _ h) (by decide +kernel))
set_option maxRecDepth 20000 in
theorem gL_law_L_undo : GoodIn wsL_law (va_wsS RL 124 yL_undo wsL_undo) := goodIn_app (goodIn_of _ (by decide +kernel)) ggL_law_L_undo
set_option maxRecDepth 20000 in
theorem ggL_law_X5_undo : GoodIn wsL_law wsX5_undo := goodIn_r _ [419, 131, 149, 90, 92, 138, 139, 140, 5, 141, 769, 770, 771, 772, 773, 774, 775, 776, 777, 778, 779, 780, 781, 782, 783, 784] (by decide +kernel) (by decide +kernel)
set_option maxRecDepth 20000 in
theorem gL_law_X5_undo : GoodIn wsL_law (wsV RL 126 RX5 yX5_undo wsX5_undo) := goodIn_app (goodIn_of _ (by decide +kernel)) ggL_law_X5_undo
set_option maxRecDepth 20000 in
theorem ggL_law_L_digit : GoodIn wsL_law wsL_digit := goodIn_ca (goodIn_ca (goodIn_r _ [422, 102, 103, 423, 424, 425, 2, 426, 28, 16, 109, 110, 111, 112, 113, 114, 115, 116, 117, 118, 427, 428, 429, 27, 430, 431, 79, 432, 46, 47, 48, 433, 80, 434, 435, 436, 437, 438, 82, 83, 439, 84, 77, 78, 81, 440, 75, 76, 441, 50, 51, 52, 277, 278, 279, 280, 442, 443, 444, 445, 446, 447, 448, 449, 450, 451, 452, 453, 108, 165, 188, 454, 455, 456, 457, 286, 287, 15, 288, 35, 37, 458, 459, 460, 461, 462, 463, 464, 465, 466, 467, 468, 469, 470, 471, 472, 473, 474, 475, 476, 477, 478, 479, 285, 480, 481, 482, 483, 484, 485, 486, 764, 765, 766, 767, 768, 785, 786, 787, 788, 789, 790, 791, 792, 793, 794, 804, 805, 806, 807, 808, 809, 810, 811, 812, 813] (by decide +kernel) (by decide +kernel)) (goodIn_sub (fun _ h => List.mem_append_left _ (List.mem_append_left _ (List.mem_append_right _ h))) (by decide +kernel))) (goodIn_sub (fun _ h => List.mem_append_left _ (List.mem_append_right _ h)) (by decide +kernel))
set_option maxRecDepth 20000 in
theorem gL_law_L_digit : GoodIn wsL_law (va_wsS RL 127 yL_digit wsL_digit) := goodIn_app (goodIn_of _ (by decide +kernel)) ggL_law_L_digit
set_option maxRecDepth 20000 in
theorem ggL_law_X5_digit : GoodIn wsL_law wsX5_digit := goodIn_r _ [490, 131, 132, 133, 5, 134, 135, 136, 137, 138, 139, 140, 141, 491, 492, 493, 494, 90, 307, 308, 309, 310, 89, 495, 496, 497, 498, 499, 500, 501, 502, 503, 97, 95, 96, 298, 299, 300, 301, 302, 303, 304, 305, 306, 504, 505, 506, 507, 508, 509, 510, 511, 512, 513, 514, 515, 516, 517, 518, 519, 520, 521, 522, 523, 769, 770, 771, 772, 773, 774, 775, 776, 777, 778, 779, 780, 781, 782, 783, 784] (by decide +kernel) (by decide +kernel)
set_option maxRecDepth 20000 in
theorem gL_law_X5_digit : GoodIn wsL_law (wsV RL 129 RX5 yX5_digit wsX5_digit) := goodIn_app (goodIn_of _ (by decide +kernel)) ggL_law_X5_digit
set_option maxRecDepth 20000 in
theorem ggL_law_L_wear : GoodIn wsL_law wsL_wear := goodIn_ca (goodIn_r _ [526, 102, 527, 528, 529, 2, 530, 16, 189, 109, 110, 111, 112, 113, 190, 191, 192, 193, 194, 195, 764, 765, 766, 767, 768, 785, 786, 787, 788, 789, 790, 791, 792, 793, 794] (by decide +kernel) (by decide +kernel)) (goodIn_sub (fun _ h => List.mem_append_left _ (List.mem_append_left _ (List.mem_append_right _ h))) (by decide +kernel))
set_option maxRecDepth 20000 in
theorem gL_law_L_wear : GoodIn wsL_law (va_wsS RL 130 yL_wear wsL_wear) := goodIn_app (goodIn_of _ (by decide +kernel)) ggL_law_L_wear
set_option maxRecDepth 20000 in
theorem ggL_law_X5_wear : GoodIn wsL_law wsX5_wear := goodIn_r _ [534, 131, 90, 132, 133, 5, 134, 135, 136, 137, 200, 201, 202, 138, 139, 140, 141, 769, 770, 771, 772, 773, 774, 775, 776, 777, 778, 779, 780, 781, 782, 783, 784] (by decide +kernel) (by decide +kernel)
set_option maxRecDepth 20000 in
theorem gL_law_X5_wear : GoodIn wsL_law (wsV RL 132 RX5 yX5_wear wsX5_wear) := goodIn_app (goodIn_of _ (by decide +kernel)) ggL_law_X5_wear
set_option maxRecDepth 20000 in
theorem ggL_law_L_slot : GoodIn wsL_law wsL_slot := goodIn_ca (goodIn_r _ [537, 103, 538, 539, 540, 2, 541, 16, 224, 28, 542, 543, 114, 115, 116, 117, 118, 427, 428, 429, 27, 430, 431, 79, 432, 46, 47, 48, 433, 80, 434, 435, 436, 437, 438, 82, 83, 439, 84, 77, 78, 81, 440, 75, 76, 441, 50, 51, 52, 277, 278, 279, 280, 442, 443, 444, 445, 446, 447, 448, 449, 764, 765, 766, 767, 768, 785, 786, 787, 788, 789, 790, 791, 792, 793, 794, 804, 805, 806, 807, 808, 809, 810, 811, 812, 813] (by decide +kernel) (by decide +kernel)) (goodIn_sub (fun _ h => List.mem_append_left _ (List.mem_append_right _ h)) (by decide +kernel))
set_option maxRecDepth 20000 in
theorem gL_law_L_slot : GoodIn wsL_law (va_wsS RL 133 yL_slot wsL_slot) := goodIn_app (goodIn_of _ (by decide +kernel)) ggL_law_L_slot
set_option maxRecDepth 20000 in
theorem ggL_law_X5_slot : GoodIn wsL_law wsX5_slot := goodIn_r _ [547, 131, 90, 96, 95, 135, 136, 5, 137, 138, 139, 140, 141, 499, 500, 501, 502, 503, 97, 298, 299, 300, 301, 302, 303, 304, 305, 306, 769, 770, 771, 772, 773, 774, 775, 776, 777, 778, 779, 780, 781, 782, 783, 784] (by decide +kernel) (by decide +kernel)
set_option maxRecDepth 20000 in
theorem gL_law_X5_slot : GoodIn wsL_law (wsV RL 136 RX5 yX5_slot wsX5_slot) := goodIn_app (goodIn_of _ (by decide +kernel)) ggL_law_X5_slot
set_option maxRecDepth 20000 in
theorem ggL_law_L_count : GoodIn wsL_law wsL_count := goodIn_ca (goodIn_r _ [550, 103, 551, 552, 553, 2, 554, 28, 16, 114, 115, 116, 117, 118, 427, 428, 429, 27, 430, 431, 79, 432, 46, 47, 48, 433, 80, 434, 435, 436, 437, 438, 82, 83, 439, 84, 77, 78, 81, 440, 75, 76, 441, 50, 51, 52, 277, 278, 279, 280, 442, 443, 444, 445, 446, 447, 448, 449, 555, 556, 557, 558, 271, 210, 559, 20, 411, 560, 561, 562, 15, 563, 36, 564, 565, 566, 567, 568, 569, 570, 571, 572, 573, 574, 575, 471, 463, 464, 465, 576, 577, 578, 579, 580, 467, 468, 469, 470, 459, 460, 461, 581, 582, 583, 584, 472, 473, 474, 475, 466, 476, 477, 478, 479, 37, 285, 286, 287, 288, 35, 480, 481, 482, 483, 484, 485, 486, 585, 586, 587, 588, 589, 764, 765, 766, 767, 768, 785, 786, 787, 788, 789, 790, 791, 792, 793, 794, 804, 805, 806, 807, 808, 809, 810, 811, 812, 813, 795, 796, 797] (by decide +kernel) (by decide +kernel)) (goodIn_sub (fun _ h => List.mem_append_left _ (List.mem_append_right _ h)) (by decide +kernel))
set_option maxRecDepth 20000 in
theorem gL_law_L_count : GoodIn wsL_law (va_wsS RL 137 yL_count wsL_count) := goodIn_app (goodIn_of _ (by decide +kernel)) ggL_law_L_count
set_option maxRecDepth 20000 in
theorem ggL_law_X5_count : GoodIn wsL_law wsX5_count := goodIn_r _ [593, 131, 135, 136, 5, 137, 594, 595, 596, 597, 90, 149, 499, 500, 501, 502, 503, 97, 95, 96, 298, 299, 300, 301, 302, 303, 304, 305, 306, 598, 599, 600, 601, 602, 603, 604, 605, 512, 513, 514, 515, 508, 509, 510, 511, 516, 517, 518, 519, 504, 505, 506, 507, 520, 521, 522, 523, 495, 496, 497, 498, 307, 308, 309, 310, 89, 606, 607, 608, 609, 610, 611, 612, 138, 139, 140, 141, 769, 770, 771, 772, 773, 774, 775, 776, 777, 778, 779, 780, 781, 782, 783, 784] (by decide +kernel) (by decide +kernel)
set_option maxRecDepth 20000 in
theorem gL_law_X5_count : GoodIn wsL_law (wsV RL 139 RX5 yX5_count wsX5_count) := goodIn_app (goodIn_of _ (by decide +kernel)) ggL_law_X5_count
set_option maxRecDepth 20000 in
theorem ggL_law_L_setting : GoodIn wsL_law wsL_setting := goodIn_ca (goodIn_r _ [615, 102, 616, 617, 618, 2, 619, 16, 224, 225, 226, 227, 112, 113, 764, 765, 766, 767, 768, 785, 786, 787, 788, 789, 790, 791, 792, 793, 794] (by decide +kernel) (by decide +kernel)) (goodIn_sub (fun _ h => List.mem_append_left _ (List.mem_append_left _ (List.mem_append_right _ h))) (by decide +kernel))
set_option maxRecDepth 20000 in
theorem gL_law_L_setting : GoodIn wsL_law (va_wsS RL 140 yL_setting wsL_setting) := goodIn_app (goodIn_of _ (by decide +kernel)) ggL_law_L_setting
set_option maxRecDepth 20000 in
theorem ggL_law_X5_setting : GoodIn wsL_law wsX5_setting := goodIn_r _ [623, 131, 90, 135, 136, 5, 137, 138, 139, 140, 141, 769, 770, 771, 772, 773, 774, 775, 776, 777, 778, 779, 780, 781, 782, 783, 784] (by decide +kernel) (by decide +kernel)
set_option maxRecDepth 20000 in
theorem gL_law_X5_setting : GoodIn wsL_law (wsV RL 142 RX5 yX5_setting wsX5_setting) := goodIn_app (goodIn_of _ (by decide +kernel)) ggL_law_X5_setting
set_option maxRecDepth 20000 in
theorem ggL_law_L_ifLevel : GoodIn wsL_law wsL_ifLevel := goodIn_ca (goodIn_ca (goodIn_r _ [626, 102, 103, 627, 628, 629, 2, 630, 29, 16, 109, 110, 111, 112, 113, 114, 115, 116, 117, 118, 631, 632, 633, 27, 634, 431, 79, 432, 46, 47, 48, 80, 441, 50, 51, 52, 434, 435, 436, 437, 438, 82, 83, 439, 84, 77, 78, 81, 440, 75, 76, 277, 278, 279, 280, 442, 443, 444, 445, 446, 447, 448, 449, 635, 636, 637, 638, 458, 459, 460, 461, 576, 577, 578, 579, 580, 467, 468, 469, 470, 471, 463, 464, 465, 572, 573, 574, 575, 764, 765, 766, 767, 768, 785, 786, 787, 788, 789, 790, 791, 792, 793, 794, 804, 805, 806, 807, 808, 809, 810, 811, 812, 813] (by decide +kernel) (by decide +kernel)) (goodIn_sub (fun _ h => List.mem_append_left _ (List.mem_append_left _ (List.mem_append_right _ h))) (by decide +kernel))) (goodIn_sub (fun _ h => List.mem_append_left _ (List.mem_append_right _ h)) (by decide +kernel))
set_option maxRecDepth 20000 in
theorem gL_law_L_ifLevel : GoodIn wsL_law (va_wsS RL 143 yL_ifLevel wsL_ifLevel) := goodIn_app (goodIn_of _ (by decide +kernel)) ggL_law_L_ifLevel
set_option maxRecDepth 20000 in
theorem ggL_law_X5_ifLevel : GoodIn wsL_law wsX5_ifLevel := goodIn_r _ [642, 131, 132, 133, 5, 134, 135, 136, 137, 138, 139, 140, 141, 174, 175, 176, 643, 644, 645, 646, 91, 647, 648, 649, 650, 90, 499, 500, 501, 502, 503, 97, 95, 96, 298, 299, 300, 301, 302, 303, 304, 305, 306, 504, 505, 506, 507, 602, 603, 604, 605, 512, 513, 514, 515, 508, 509, 510, 511, 516, 517, 518, 519, 520, 521, 522, 523, 495, 496, 497, 498, 307, 308, 309, 310, 89, 769, 770, 771, 772, 773, 774, 775, 776, 777, 778, 779, 780, 781, 782, 783, 784] (by decide +kernel) (by decide +kernel)
set_option maxRecDepth 20000 in
theorem gL_law_X5_ifLevel : GoodIn wsL_law (wsV RL 145 RX5 yX5_ifLevel wsX5_ifLevel) := goodIn_app (goodIn_of _ (by decide +kernel)) ggL_law_X5_ifLevel
set_option maxRecDepth 20000 in
theorem ggL_law_L_leastLevel : GoodIn wsL_law wsL_leastLevel := goodIn_ca (goodIn_r _ [653, 102, 654, 655, 656, 2, 657, 109, 110, 111, 112, 113, 658, 659, 660, 661, 29, 16, 631, 632, 633, 27, 634, 431, 79, 432, 46, 47, 48, 80, 441, 50, 51, 52, 434, 435, 436, 437, 438, 82, 83, 439, 84, 77, 78, 81, 440, 75, 76, 277, 278, 279, 280, 442, 443, 444, 445, 446, 447, 448, 449, 466, 467, 468, 469, 470, 459, 460, 461, 471, 463, 464, 465, 764, 765, 766, 767, 768, 785, 786, 787, 788, 789, 790, 791, 792, 793, 794, 804, 805, 806, 807, 808, 809, 810, 811, 812, 813] (by decide +kernel) (by decide +kernel)) (goodIn_sub (fun _ h => List.mem_append_left _ (List.mem_append_left _ (List.mem_append_right _ h))) (by decide +kernel))
set_option maxRecDepth 20000 in
theorem gL_law_L_leastLevel : GoodIn wsL_law (va_wsS RL 146 yL_leastLevel wsL_leastLevel) := goodIn_app (goodIn_of _ (by decide +kernel)) ggL_law_L_leastLevel
set_option maxRecDepth 20000 in
theorem ggL_law_X5_leastLevel : GoodIn wsL_law wsX5_leastLevel := goodIn_r _ [665, 131, 132, 133, 5, 134, 135, 136, 137, 666, 667, 668, 669, 91, 647, 648, 649, 650, 90, 499, 500, 501, 502, 503, 97, 95, 96, 298, 299, 300, 301, 302, 303, 304, 305, 306, 516, 517, 518, 519, 504, 505, 506, 507, 512, 513, 514, 515, 508, 509, 510, 511, 138, 139, 140, 141, 769, 770, 771, 772, 773, 774, 775, 776, 777, 778, 779, 780, 781, 782, 783, 784] (by decide +kernel) (by decide +kernel)
set_option maxRecDepth 20000 in
theorem gL_law_X5_leastLevel : GoodIn wsL_law (wsV RL 148 RX5 yX5_leastLevel wsX5_leastLevel) := goodIn_app (goodIn_of _ (by decide +kernel)) ggL_law_X5_leastLevel
set_option maxRecDepth 20000 in
theorem ggL_law_L_alikeSigns : GoodIn wsL_law wsL_alikeSigns := goodIn_ca (goodIn_r _ [672, 102, 673, 674, 675, 2, 676, 109, 110, 111, 112, 113, 677, 678, 679, 680, 16, 188, 681, 764, 765, 766, 767, 768, 785, 786, 787, 788, 789, 790, 791, 792, 793, 794] (by decide +kernel) (by decide +kernel)) (goodIn_sub (fun _ h => List.mem_append_left _ (List.mem_append_left _ (List.mem_append_right _ h))) (by decide +kernel))
set_option maxRecDepth 20000 in
theorem gL_law_L_alikeSigns : GoodIn wsL_law (va_wsS RL 149 yL_alikeSigns wsL_alikeSigns) := goodIn_app (goodIn_of _ (by decide +kernel)) ggL_law_L_alikeSigns
set_option maxRecDepth 20000 in
theorem ggL_law_X5_alikeSigns : GoodIn wsL_law wsX5_alikeSigns := goodIn_r _ [685, 131, 132, 133, 5, 134, 135, 136, 137, 686, 687, 688, 689, 307, 308, 309, 310, 89, 90, 138, 139, 140, 141, 769, 770, 771, 772, 773, 774, 775, 776, 777, 778, 779, 780, 781, 782, 783, 784] (by decide +kernel) (by decide +kernel)
set_option maxRecDepth 20000 in
theorem gL_law_X5_alikeSigns : GoodIn wsL_law (wsV RL 151 RX5 yX5_alikeSigns wsX5_alikeSigns) := goodIn_app (goodIn_of _ (by decide +kernel)) ggL_law_X5_alikeSigns
set_option maxRecDepth 20000 in
theorem ggL_law_X4_numberShown : GoodIn wsL_law wsX4_numberShown := goodIn_r _ [693, 28, 16, 427, 428, 429, 27, 430, 431, 79, 432, 46, 47, 48, 433, 80, 434, 435, 436, 437, 438, 82, 83, 439, 84, 77, 78, 81, 440, 75, 76, 441, 50, 51, 52, 277, 2, 278, 279, 280, 442, 443, 444, 445, 446, 447, 448, 449, 694, 695, 696, 697, 108, 472, 473, 474, 475, 466, 467, 468, 469, 470, 459, 460, 461, 471, 463, 464, 465, 476, 477, 478, 15, 479, 37, 285, 286, 287, 288, 35, 480, 481, 482, 483, 484, 485, 486, 764, 765, 766, 767, 768, 785, 786, 787, 788, 789, 790, 791, 792, 793, 794, 804, 805, 806, 807, 808, 809, 810, 811, 812, 813] (by decide +kernel) (by decide +kernel)
set_option maxRecDepth 20000 in
theorem gL_law_X4_numberShown : GoodIn wsL_law (wsV RL 152 RX4 yX4_numberShown wsX4_numberShown) := goodIn_app (goodIn_of _ (by decide +kernel)) ggL_law_X4_numberShown
set_option maxRecDepth 20000 in
theorem ggL_law_X5_numberShown : GoodIn wsL_law wsX5_numberShown := goodIn_r _ [701, 131, 702, 703, 704, 5, 705, 90, 499, 500, 501, 502, 503, 97, 95, 96, 298, 299, 300, 301, 302, 303, 304, 305, 306, 520, 521, 522, 523, 495, 496, 497, 498, 307, 308, 309, 310, 89, 516, 517, 518, 519, 504, 505, 506, 507, 512, 513, 514, 515, 508, 509, 510, 511, 769, 770, 771, 772, 773, 774, 775, 776, 777, 778, 779, 780, 781, 782, 783, 784] (by decide +kernel) (by decide +kernel)
set_option maxRecDepth 20000 in
theorem gL_law_X5_numberShown : GoodIn wsL_law (wsV RL 155 RX5 yX5_numberShown wsX5_numberShown) := goodIn_app (goodIn_of _ (by decide +kernel)) ggL_law_X5_numberShown
set_option maxRecDepth 20000 in
theorem ggL_law_X4_evenness : GoodIn wsL_law wsX4_evenness := goodIn_r _ [709, 28, 16, 427, 428, 429, 27, 430, 431, 79, 432, 46, 47, 48, 433, 80, 434, 435, 436, 437, 438, 82, 83, 439, 84, 77, 78, 81, 440, 75, 76, 441, 50, 51, 52, 277, 2, 278, 279, 280, 442, 443, 444, 445, 446, 447, 448, 449, 710, 711, 712, 713, 165, 714, 715, 716, 717, 458, 459, 460, 461, 764, 765, 766, 767, 768, 785, 786, 787, 788, 789, 790, 791, 792, 793, 794, 804, 805, 806, 807, 808, 809, 810, 811, 812, 813] (by decide +kernel) (by decide +kernel)
set_option maxRecDepth 20000 in
theorem gL_law_X4_evenness : GoodIn wsL_law (wsV RL 156 RX4 yX4_evenness wsX4_evenness) := goodIn_app (goodIn_of _ (by decide +kernel)) ggL_law_X4_evenness
set_option maxRecDepth 20000 in
theorem ggL_law_X5_evenness : GoodIn wsL_law wsX5_evenness := goodIn_r _ [721, 131, 722, 723, 724, 5, 725, 90, 499, 500, 501, 502, 503, 97, 95, 96, 298, 299, 300, 301, 302, 303, 304, 305, 306, 504, 505, 506, 507, 769, 770, 771, 772, 773, 774, 775, 776, 777, 778, 779, 780, 781, 782, 783, 784] (by decide +kernel) (by decide +kernel)
set_option maxRecDepth 20000 in
theorem gL_law_X5_evenness : GoodIn wsL_law (wsV RL 160 RX5 yX5_evenness wsX5_evenness) := goodIn_app (goodIn_of _ (by decide +kernel)) ggL_law_X5_evenness
set_option maxRecDepth 20000 in
theorem ggL_law_X4_digest : GoodIn wsL_law wsX4_digest := goodIn_r _ [729, 28, 16, 730, 224, 542, 543, 24, 318, 731, 427, 428, 429, 27, 430, 431, 79, 432, 46, 47, 48, 433, 80, 434, 435, 436, 437, 438, 82, 83, 439, 84, 77, 78, 81, 440, 75, 76, 441, 50, 51, 52, 277, 2, 278, 279, 280, 442, 443, 444, 445, 446, 447, 448, 449, 555, 556, 557, 558, 271, 210, 559, 20, 411, 560, 561, 562, 15, 563, 36, 564, 565, 566, 567, 568, 569, 570, 571, 572, 573, 574, 575, 471, 463, 464, 465, 576, 577, 578, 579, 580, 467, 468, 469, 470, 459, 460, 461, 581, 582, 583, 584, 472, 473, 474, 475, 466, 476, 477, 478, 479, 37, 285, 286, 287, 288, 35, 480, 481, 482, 483, 484, 485, 486, 585, 586, 587, 588, 589, 732, 733, 734, 735, 736, 737, 738, 739, 189, 29, 450, 451, 452, 453, 108, 165, 188, 454, 455, 456, 457, 458, 462, 193, 194, 195, 631, 632, 633, 634, 635, 636, 637, 638, 658, 659, 660, 661, 677, 678, 679, 680, 681, 694, 695, 696, 697, 710, 711, 712, 713, 714, 715, 716, 717, 740, 741, 742, 743, 744, 745, 764, 765, 766, 767, 768, 785, 786, 787, 788, 789, 790, 791, 792, 793, 794, 804, 805, 806, 807, 808, 809, 810, 811, 812, 813, 798, 799, 800, 801, 802, 803, 795, 796, 797] (by decide +kernel) (by decide +kernel)
set_option maxRecDepth 20000 in
theorem gL_law_X4_digest : GoodIn wsL_law (wsV RL 161 RX4 yX4_digest wsX4_digest) := goodIn_app (goodIn_of _ (by decide +kernel)) ggL_law_X4_digest
set_option maxRecDepth 20000 in
theorem ggL_law_X5_digest : GoodIn wsL_law wsX5_digest := goodIn_r _ [749, 131, 750, 751, 90, 96, 95, 327, 93, 594, 595, 596, 5, 597, 149, 499, 500, 501, 502, 503, 97, 298, 299, 300, 301, 302, 303, 304, 305, 306, 598, 599, 600, 601, 602, 603, 604, 605, 512, 513, 514, 515, 508, 509, 510, 511, 516, 517, 518, 519, 504, 505, 506, 507, 520, 521, 522, 523, 495, 496, 497, 498, 307, 308, 309, 310, 89, 606, 607, 608, 609, 610, 611, 612, 491, 492, 493, 494, 643, 644, 645, 646, 91, 647, 648, 649, 650, 666, 667, 668, 669, 686, 687, 688, 689, 702, 703, 704, 705, 722, 723, 724, 725, 752, 753, 754, 755, 756, 757, 758, 759, 760, 761, 762, 763, 769, 770, 771, 772, 773, 774, 775, 776, 777, 778, 779, 780, 781, 782, 783, 784] (by decide +kernel) (by decide +kernel)
set_option maxRecDepth 20000 in
theorem gL_law_X5_digest : GoodIn wsL_law (wsV RL 165 RX5 yX5_digest wsX5_digest) := goodIn_app (goodIn_of _ (by decide +kernel)) ggL_law_X5_digest
theorem dL_law_0 : decode cL_law 0 = .ok (.new 8, 3) := by decide +kernel
theorem dL_law_3 : decode cL_law 3 = .ok (.dup, 1) := by decide +kernel
theorem dL_law_4 : decode cL_law 4 = .ok (.invokespecial 75, 3) := by decide +kernel
theorem dL_law_7 : decode cL_law 7 = .ok (.astore_n 1, 1) := by decide +kernel
theorem dL_law_8 : decode cL_law 8 = .ok (.new 76, 3) := by decide +kernel
theorem dL_law_11 : decode cL_law 11 = .ok (.dup, 1) := by decide +kernel
theorem dL_law_12 : decode cL_law 12 = .ok (.invokespecial 78, 3) := by decide +kernel
theorem dL_law_15 : decode cL_law 15 = .ok (.astore_n 2, 1) := by decide +kernel
theorem dL_law_16 : decode cL_law 16 = .ok (.iconst 1, 1) := by decide +kernel
theorem dL_law_17 : decode cL_law 17 = .ok (.newarray .long, 2) := by decide +kernel
theorem dL_law_19 : decode cL_law 19 = .ok (.astore_n 3, 1) := by decide +kernel
theorem dL_law_20 : decode cL_law 20 = .ok (.iconst 0, 1) := by decide +kernel
theorem dL_law_21 : decode cL_law 21 = .ok (.istore 4, 2) := by decide +kernel
theorem dL_law_23 : decode cL_law 23 = .ok (.iload 4, 2) := by decide +kernel
theorem dL_law_25 : decode cL_law 25 = .ok (.aload_n 0, 1) := by decide +kernel
theorem dL_law_26 : decode cL_law 26 = .ok (.arraylength, 1) := by decide +kernel
theorem dL_law_27 : decode cL_law 27 = .ok (.iconst 4, 1) := by decide +kernel
theorem dL_law_28 : decode cL_law 28 = .ok (.isub, 1) := by decide +kernel
theorem dL_law_29 : decode cL_law 29 = .ok (.if_icmp .gt 1375, 3) := by decide +kernel
theorem dL_law_32 : decode cL_law 32 = .ok (.aload_n 0, 1) := by decide +kernel
theorem dL_law_33 : decode cL_law 33 = .ok (.iload 4, 2) := by decide +kernel
theorem dL_law_35 : decode cL_law 35 = .ok (.iaload, 1) := by decide +kernel
theorem dL_law_36 : decode cL_law 36 = .ok (.bipush 31, 2) := by decide +kernel
theorem dL_law_38 : decode cL_law 38 = .ok (.iand, 1) := by decide +kernel
theorem dL_law_39 : decode cL_law 39 = .ok (.tableswitch 1359 0 22 #[105, 173, 241, 337, 393, 461, 541, 597, 653, 666, 679, 723, 767, 835, 903, 987, 1043, 1099, 1179, 1235, 1291, 1304, 1345], 105) := by decide +kernel
theorem dL_law_144 : decode cL_law 144 = .ok (.aload_n 1, 1) := by decide +kernel
theorem dL_law_145 : decode cL_law 145 = .ok (.aload_n 0, 1) := by decide +kernel
theorem dL_law_146 : decode cL_law 146 = .ok (.iload 4, 2) := by decide +kernel
theorem dL_law_148 : decode cL_law 148 = .ok (.iconst 1, 1) := by decide +kernel
theorem dL_law_149 : decode cL_law 149 = .ok (.iadd, 1) := by decide +kernel
theorem dL_law_150 : decode cL_law 150 = .ok (.iaload, 1) := by decide +kernel
theorem dL_law_151 : decode cL_law 151 = .ok (.aload_n 0, 1) := by decide +kernel
theorem dL_law_152 : decode cL_law 152 = .ok (.iload 4, 2) := by decide +kernel
theorem dL_law_154 : decode cL_law 154 = .ok (.iconst 2, 1) := by decide +kernel
theorem dL_law_155 : decode cL_law 155 = .ok (.iadd, 1) := by decide +kernel
theorem dL_law_156 : decode cL_law 156 = .ok (.iaload, 1) := by decide +kernel
theorem dL_law_157 : decode cL_law 157 = .ok (.aload_n 3, 1) := by decide +kernel
theorem dL_law_158 : decode cL_law 158 = .ok (.invokestatic 79, 3) := by decide +kernel
theorem dL_law_161 : decode cL_law 161 = .ok (.istore 5, 2) := by decide +kernel
theorem dL_law_163 : decode cL_law 163 = .ok (.aload_n 2, 1) := by decide +kernel
theorem dL_law_164 : decode cL_law 164 = .ok (.aload_n 0, 1) := by decide +kernel
theorem dL_law_165 : decode cL_law 165 = .ok (.iload 4, 2) := by decide +kernel
theorem dL_law_167 : decode cL_law 167 = .ok (.iconst 1, 1) := by decide +kernel
theorem dL_law_168 : decode cL_law 168 = .ok (.iadd, 1) := by decide +kernel
theorem dL_law_169 : decode cL_law 169 = .ok (.iaload, 1) := by decide +kernel
theorem dL_law_170 : decode cL_law 170 = .ok (.aload_n 0, 1) := by decide +kernel
theorem dL_law_171 : decode cL_law 171 = .ok (.iload 4, 2) := by decide +kernel
theorem dL_law_173 : decode cL_law 173 = .ok (.iconst 2, 1) := by decide +kernel
theorem dL_law_174 : decode cL_law 174 = .ok (.iadd, 1) := by decide +kernel
theorem dL_law_175 : decode cL_law 175 = .ok (.iaload, 1) := by decide +kernel
theorem dL_law_176 : decode cL_law 176 = .ok (.invokevirtual 84, 3) := by decide +kernel
theorem dL_law_179 : decode cL_law 179 = .ok (.istore 6, 2) := by decide +kernel
theorem dL_law_181 : decode cL_law 181 = .ok (.aload_n 2, 1) := by decide +kernel
theorem dL_law_182 : decode cL_law 182 = .ok (.invokevirtual 85, 3) := by decide +kernel
theorem dL_law_185 : decode cL_law 185 = .ok (.iload 5, 2) := by decide +kernel
theorem dL_law_187 : decode cL_law 187 = .ok (.if_icmp .eq 5, 3) := by decide +kernel
theorem dL_law_190 : decode cL_law 190 = .ok (.iconst 0, 1) := by decide +kernel
theorem dL_law_191 : decode cL_law 191 = .ok (.ireturn, 1) := by decide +kernel
theorem dL_law_192 : decode cL_law 192 = .ok (.iload 5, 2) := by decide +kernel
theorem dL_law_194 : decode cL_law 194 = .ok (.ifCond .ne 15, 3) := by decide +kernel
theorem dL_law_197 : decode cL_law 197 = .ok (.aload_n 3, 1) := by decide +kernel
theorem dL_law_198 : decode cL_law 198 = .ok (.iconst 0, 1) := by decide +kernel
theorem dL_law_199 : decode cL_law 199 = .ok (.laload, 1) := by decide +kernel
theorem dL_law_200 : decode cL_law 200 = .ok (.iload 6, 2) := by decide +kernel
theorem dL_law_202 : decode cL_law 202 = .ok (.i2l, 1) := by decide +kernel
theorem dL_law_203 : decode cL_law 203 = .ok (.lcmp, 1) := by decide +kernel
theorem dL_law_204 : decode cL_law 204 = .ok (.ifCond .eq 5, 3) := by decide +kernel
theorem dL_law_207 : decode cL_law 207 = .ok (.iconst 0, 1) := by decide +kernel
theorem dL_law_208 : decode cL_law 208 = .ok (.ireturn, 1) := by decide +kernel
theorem dL_law_209 : decode cL_law 209 = .ok (.goto 1189, 3) := by decide +kernel
theorem dL_law_212 : decode cL_law 212 = .ok (.aload_n 1, 1) := by decide +kernel
theorem dL_law_213 : decode cL_law 213 = .ok (.aload_n 0, 1) := by decide +kernel
theorem dL_law_214 : decode cL_law 214 = .ok (.iload 4, 2) := by decide +kernel
theorem dL_law_216 : decode cL_law 216 = .ok (.iconst 1, 1) := by decide +kernel
theorem dL_law_217 : decode cL_law 217 = .ok (.iadd, 1) := by decide +kernel
theorem dL_law_218 : decode cL_law 218 = .ok (.iaload, 1) := by decide +kernel
theorem dL_law_219 : decode cL_law 219 = .ok (.aload_n 0, 1) := by decide +kernel
theorem dL_law_220 : decode cL_law 220 = .ok (.iload 4, 2) := by decide +kernel
theorem dL_law_222 : decode cL_law 222 = .ok (.iconst 2, 1) := by decide +kernel
theorem dL_law_223 : decode cL_law 223 = .ok (.iadd, 1) := by decide +kernel
theorem dL_law_224 : decode cL_law 224 = .ok (.iaload, 1) := by decide +kernel
theorem dL_law_225 : decode cL_law 225 = .ok (.aload_n 3, 1) := by decide +kernel
theorem dL_law_226 : decode cL_law 226 = .ok (.invokestatic 88, 3) := by decide +kernel
theorem dL_law_229 : decode cL_law 229 = .ok (.istore 5, 2) := by decide +kernel
theorem dL_law_231 : decode cL_law 231 = .ok (.aload_n 2, 1) := by decide +kernel
theorem dL_law_232 : decode cL_law 232 = .ok (.aload_n 0, 1) := by decide +kernel
theorem dL_law_233 : decode cL_law 233 = .ok (.iload 4, 2) := by decide +kernel
theorem dL_law_235 : decode cL_law 235 = .ok (.iconst 1, 1) := by decide +kernel
theorem dL_law_236 : decode cL_law 236 = .ok (.iadd, 1) := by decide +kernel
theorem dL_law_237 : decode cL_law 237 = .ok (.iaload, 1) := by decide +kernel
theorem dL_law_238 : decode cL_law 238 = .ok (.aload_n 0, 1) := by decide +kernel
theorem dL_law_239 : decode cL_law 239 = .ok (.iload 4, 2) := by decide +kernel
theorem dL_law_241 : decode cL_law 241 = .ok (.iconst 2, 1) := by decide +kernel
theorem dL_law_242 : decode cL_law 242 = .ok (.iadd, 1) := by decide +kernel
theorem dL_law_243 : decode cL_law 243 = .ok (.iaload, 1) := by decide +kernel
theorem dL_law_244 : decode cL_law 244 = .ok (.invokevirtual 90, 3) := by decide +kernel
theorem dL_law_247 : decode cL_law 247 = .ok (.istore 6, 2) := by decide +kernel
theorem dL_law_249 : decode cL_law 249 = .ok (.aload_n 2, 1) := by decide +kernel
theorem dL_law_250 : decode cL_law 250 = .ok (.invokevirtual 85, 3) := by decide +kernel
theorem dL_law_253 : decode cL_law 253 = .ok (.iload 5, 2) := by decide +kernel
theorem dL_law_255 : decode cL_law 255 = .ok (.if_icmp .eq 5, 3) := by decide +kernel
theorem dL_law_258 : decode cL_law 258 = .ok (.iconst 0, 1) := by decide +kernel
theorem dL_law_259 : decode cL_law 259 = .ok (.ireturn, 1) := by decide +kernel
theorem dL_law_260 : decode cL_law 260 = .ok (.iload 5, 2) := by decide +kernel
theorem dL_law_262 : decode cL_law 262 = .ok (.ifCond .ne 15, 3) := by decide +kernel
theorem dL_law_265 : decode cL_law 265 = .ok (.aload_n 3, 1) := by decide +kernel
theorem dL_law_266 : decode cL_law 266 = .ok (.iconst 0, 1) := by decide +kernel
theorem dL_law_267 : decode cL_law 267 = .ok (.laload, 1) := by decide +kernel
theorem dL_law_268 : decode cL_law 268 = .ok (.iload 6, 2) := by decide +kernel
theorem dL_law_270 : decode cL_law 270 = .ok (.i2l, 1) := by decide +kernel
theorem dL_law_271 : decode cL_law 271 = .ok (.lcmp, 1) := by decide +kernel
theorem dL_law_272 : decode cL_law 272 = .ok (.ifCond .eq 5, 3) := by decide +kernel
theorem dL_law_275 : decode cL_law 275 = .ok (.iconst 0, 1) := by decide +kernel
theorem dL_law_276 : decode cL_law 276 = .ok (.ireturn, 1) := by decide +kernel
theorem dL_law_277 : decode cL_law 277 = .ok (.goto 1121, 3) := by decide +kernel
theorem dL_law_280 : decode cL_law 280 = .ok (.aload_n 1, 1) := by decide +kernel
theorem dL_law_281 : decode cL_law 281 = .ok (.aload_n 0, 1) := by decide +kernel
theorem dL_law_282 : decode cL_law 282 = .ok (.iload 4, 2) := by decide +kernel
theorem dL_law_284 : decode cL_law 284 = .ok (.iconst 1, 1) := by decide +kernel
theorem dL_law_285 : decode cL_law 285 = .ok (.iadd, 1) := by decide +kernel
theorem dL_law_286 : decode cL_law 286 = .ok (.iaload, 1) := by decide +kernel
theorem dL_law_287 : decode cL_law 287 = .ok (.aload_n 0, 1) := by decide +kernel
theorem dL_law_288 : decode cL_law 288 = .ok (.iload 4, 2) := by decide +kernel
theorem dL_law_290 : decode cL_law 290 = .ok (.iconst 2, 1) := by decide +kernel
theorem dL_law_291 : decode cL_law 291 = .ok (.iadd, 1) := by decide +kernel
theorem dL_law_292 : decode cL_law 292 = .ok (.iaload, 1) := by decide +kernel
theorem dL_law_293 : decode cL_law 293 = .ok (.aload_n 0, 1) := by decide +kernel
theorem dL_law_294 : decode cL_law 294 = .ok (.iload 4, 2) := by decide +kernel
theorem dL_law_296 : decode cL_law 296 = .ok (.iconst 3, 1) := by decide +kernel
theorem dL_law_297 : decode cL_law 297 = .ok (.iadd, 1) := by decide +kernel
theorem dL_law_298 : decode cL_law 298 = .ok (.iaload, 1) := by decide +kernel
theorem dL_law_299 : decode cL_law 299 = .ok (.ifCond .eq 7, 3) := by decide +kernel
theorem dL_law_302 : decode cL_law 302 = .ok (.iconst 1, 1) := by decide +kernel
theorem dL_law_303 : decode cL_law 303 = .ok (.goto 4, 3) := by decide +kernel
theorem dL_law_306 : decode cL_law 306 = .ok (.iconst 0, 1) := by decide +kernel
theorem dL_law_307 : decode cL_law 307 = .ok (.aload_n 3, 1) := by decide +kernel
theorem dL_law_308 : decode cL_law 308 = .ok (.invokestatic 91, 3) := by decide +kernel
theorem dL_law_311 : decode cL_law 311 = .ok (.istore 5, 2) := by decide +kernel
theorem dL_law_313 : decode cL_law 313 = .ok (.aload_n 2, 1) := by decide +kernel
theorem dL_law_314 : decode cL_law 314 = .ok (.aload_n 0, 1) := by decide +kernel
theorem dL_law_315 : decode cL_law 315 = .ok (.iload 4, 2) := by decide +kernel
theorem dL_law_317 : decode cL_law 317 = .ok (.iconst 1, 1) := by decide +kernel
theorem dL_law_318 : decode cL_law 318 = .ok (.iadd, 1) := by decide +kernel
theorem dL_law_319 : decode cL_law 319 = .ok (.iaload, 1) := by decide +kernel
theorem dL_law_320 : decode cL_law 320 = .ok (.aload_n 0, 1) := by decide +kernel
theorem dL_law_321 : decode cL_law 321 = .ok (.iload 4, 2) := by decide +kernel
theorem dL_law_323 : decode cL_law 323 = .ok (.iconst 2, 1) := by decide +kernel
theorem dL_law_324 : decode cL_law 324 = .ok (.iadd, 1) := by decide +kernel
theorem dL_law_325 : decode cL_law 325 = .ok (.iaload, 1) := by decide +kernel
theorem dL_law_326 : decode cL_law 326 = .ok (.aload_n 0, 1) := by decide +kernel
theorem dL_law_327 : decode cL_law 327 = .ok (.iload 4, 2) := by decide +kernel
theorem dL_law_329 : decode cL_law 329 = .ok (.iconst 3, 1) := by decide +kernel
theorem dL_law_330 : decode cL_law 330 = .ok (.iadd, 1) := by decide +kernel
theorem dL_law_331 : decode cL_law 331 = .ok (.iaload, 1) := by decide +kernel
theorem dL_law_332 : decode cL_law 332 = .ok (.ifCond .eq 7, 3) := by decide +kernel
theorem dL_law_335 : decode cL_law 335 = .ok (.iconst 1, 1) := by decide +kernel
theorem dL_law_336 : decode cL_law 336 = .ok (.goto 4, 3) := by decide +kernel
theorem dL_law_339 : decode cL_law 339 = .ok (.iconst 0, 1) := by decide +kernel
theorem dL_law_340 : decode cL_law 340 = .ok (.invokevirtual 94, 3) := by decide +kernel
theorem dL_law_343 : decode cL_law 343 = .ok (.istore 6, 2) := by decide +kernel
theorem dL_law_345 : decode cL_law 345 = .ok (.aload_n 2, 1) := by decide +kernel
theorem dL_law_346 : decode cL_law 346 = .ok (.invokevirtual 85, 3) := by decide +kernel
theorem dL_law_349 : decode cL_law 349 = .ok (.iload 5, 2) := by decide +kernel
theorem dL_law_351 : decode cL_law 351 = .ok (.if_icmp .eq 5, 3) := by decide +kernel
theorem dL_law_354 : decode cL_law 354 = .ok (.iconst 0, 1) := by decide +kernel
theorem dL_law_355 : decode cL_law 355 = .ok (.ireturn, 1) := by decide +kernel
theorem dL_law_356 : decode cL_law 356 = .ok (.iload 5, 2) := by decide +kernel
theorem dL_law_358 : decode cL_law 358 = .ok (.ifCond .ne 15, 3) := by decide +kernel
theorem dL_law_361 : decode cL_law 361 = .ok (.aload_n 3, 1) := by decide +kernel
theorem dL_law_362 : decode cL_law 362 = .ok (.iconst 0, 1) := by decide +kernel
theorem dL_law_363 : decode cL_law 363 = .ok (.laload, 1) := by decide +kernel
theorem dL_law_364 : decode cL_law 364 = .ok (.iload 6, 2) := by decide +kernel
theorem dL_law_366 : decode cL_law 366 = .ok (.i2l, 1) := by decide +kernel
theorem dL_law_367 : decode cL_law 367 = .ok (.lcmp, 1) := by decide +kernel
theorem dL_law_368 : decode cL_law 368 = .ok (.ifCond .eq 5, 3) := by decide +kernel
theorem dL_law_371 : decode cL_law 371 = .ok (.iconst 0, 1) := by decide +kernel
theorem dL_law_372 : decode cL_law 372 = .ok (.ireturn, 1) := by decide +kernel
theorem dL_law_373 : decode cL_law 373 = .ok (.goto 1025, 3) := by decide +kernel
theorem dL_law_376 : decode cL_law 376 = .ok (.aload_n 1, 1) := by decide +kernel
theorem dL_law_377 : decode cL_law 377 = .ok (.aload_n 0, 1) := by decide +kernel
theorem dL_law_378 : decode cL_law 378 = .ok (.iload 4, 2) := by decide +kernel
theorem dL_law_380 : decode cL_law 380 = .ok (.iconst 1, 1) := by decide +kernel
theorem dL_law_381 : decode cL_law 381 = .ok (.iadd, 1) := by decide +kernel
theorem dL_law_382 : decode cL_law 382 = .ok (.iaload, 1) := by decide +kernel
theorem dL_law_383 : decode cL_law 383 = .ok (.aload_n 3, 1) := by decide +kernel
theorem dL_law_384 : decode cL_law 384 = .ok (.invokestatic 95, 3) := by decide +kernel
theorem dL_law_387 : decode cL_law 387 = .ok (.istore 5, 2) := by decide +kernel
theorem dL_law_389 : decode cL_law 389 = .ok (.aload_n 2, 1) := by decide +kernel
theorem dL_law_390 : decode cL_law 390 = .ok (.aload_n 0, 1) := by decide +kernel
theorem dL_law_391 : decode cL_law 391 = .ok (.iload 4, 2) := by decide +kernel
theorem dL_law_393 : decode cL_law 393 = .ok (.iconst 1, 1) := by decide +kernel
theorem dL_law_394 : decode cL_law 394 = .ok (.iadd, 1) := by decide +kernel
theorem dL_law_395 : decode cL_law 395 = .ok (.iaload, 1) := by decide +kernel
theorem dL_law_396 : decode cL_law 396 = .ok (.invokevirtual 98, 3) := by decide +kernel
theorem dL_law_399 : decode cL_law 399 = .ok (.istore 6, 2) := by decide +kernel
theorem dL_law_401 : decode cL_law 401 = .ok (.aload_n 2, 1) := by decide +kernel
theorem dL_law_402 : decode cL_law 402 = .ok (.invokevirtual 85, 3) := by decide +kernel
theorem dL_law_405 : decode cL_law 405 = .ok (.iload 5, 2) := by decide +kernel
theorem dL_law_407 : decode cL_law 407 = .ok (.if_icmp .eq 5, 3) := by decide +kernel
theorem dL_law_410 : decode cL_law 410 = .ok (.iconst 0, 1) := by decide +kernel
theorem dL_law_411 : decode cL_law 411 = .ok (.ireturn, 1) := by decide +kernel
theorem dL_law_412 : decode cL_law 412 = .ok (.iload 5, 2) := by decide +kernel
theorem dL_law_414 : decode cL_law 414 = .ok (.ifCond .ne 15, 3) := by decide +kernel
theorem dL_law_417 : decode cL_law 417 = .ok (.aload_n 3, 1) := by decide +kernel
theorem dL_law_418 : decode cL_law 418 = .ok (.iconst 0, 1) := by decide +kernel
theorem dL_law_419 : decode cL_law 419 = .ok (.laload, 1) := by decide +kernel
theorem dL_law_420 : decode cL_law 420 = .ok (.iload 6, 2) := by decide +kernel
theorem dL_law_422 : decode cL_law 422 = .ok (.i2l, 1) := by decide +kernel
theorem dL_law_423 : decode cL_law 423 = .ok (.lcmp, 1) := by decide +kernel
theorem dL_law_424 : decode cL_law 424 = .ok (.ifCond .eq 5, 3) := by decide +kernel
theorem dL_law_427 : decode cL_law 427 = .ok (.iconst 0, 1) := by decide +kernel
theorem dL_law_428 : decode cL_law 428 = .ok (.ireturn, 1) := by decide +kernel
theorem dL_law_429 : decode cL_law 429 = .ok (.goto 969, 3) := by decide +kernel
theorem dL_law_432 : decode cL_law 432 = .ok (.aload_n 1, 1) := by decide +kernel
theorem dL_law_433 : decode cL_law 433 = .ok (.aload_n 0, 1) := by decide +kernel
theorem dL_law_434 : decode cL_law 434 = .ok (.iload 4, 2) := by decide +kernel
theorem dL_law_436 : decode cL_law 436 = .ok (.iconst 1, 1) := by decide +kernel
theorem dL_law_437 : decode cL_law 437 = .ok (.iadd, 1) := by decide +kernel
theorem dL_law_438 : decode cL_law 438 = .ok (.iaload, 1) := by decide +kernel
theorem dL_law_439 : decode cL_law 439 = .ok (.aload_n 0, 1) := by decide +kernel
theorem dL_law_440 : decode cL_law 440 = .ok (.iload 4, 2) := by decide +kernel
theorem dL_law_442 : decode cL_law 442 = .ok (.iconst 2, 1) := by decide +kernel
theorem dL_law_443 : decode cL_law 443 = .ok (.iadd, 1) := by decide +kernel
theorem dL_law_444 : decode cL_law 444 = .ok (.iaload, 1) := by decide +kernel
theorem dL_law_445 : decode cL_law 445 = .ok (.aload_n 3, 1) := by decide +kernel
theorem dL_law_446 : decode cL_law 446 = .ok (.invokestatic 99, 3) := by decide +kernel
theorem dL_law_449 : decode cL_law 449 = .ok (.istore 5, 2) := by decide +kernel
theorem dL_law_451 : decode cL_law 451 = .ok (.aload_n 2, 1) := by decide +kernel
theorem dL_law_452 : decode cL_law 452 = .ok (.aload_n 0, 1) := by decide +kernel
theorem dL_law_453 : decode cL_law 453 = .ok (.iload 4, 2) := by decide +kernel
theorem dL_law_455 : decode cL_law 455 = .ok (.iconst 1, 1) := by decide +kernel
theorem dL_law_456 : decode cL_law 456 = .ok (.iadd, 1) := by decide +kernel
theorem dL_law_457 : decode cL_law 457 = .ok (.iaload, 1) := by decide +kernel
theorem dL_law_458 : decode cL_law 458 = .ok (.aload_n 0, 1) := by decide +kernel
theorem dL_law_459 : decode cL_law 459 = .ok (.iload 4, 2) := by decide +kernel
theorem dL_law_461 : decode cL_law 461 = .ok (.iconst 2, 1) := by decide +kernel
theorem dL_law_462 : decode cL_law 462 = .ok (.iadd, 1) := by decide +kernel
theorem dL_law_463 : decode cL_law 463 = .ok (.iaload, 1) := by decide +kernel
theorem dL_law_464 : decode cL_law 464 = .ok (.invokevirtual 101, 3) := by decide +kernel
theorem dL_law_467 : decode cL_law 467 = .ok (.istore 6, 2) := by decide +kernel
theorem dL_law_469 : decode cL_law 469 = .ok (.aload_n 2, 1) := by decide +kernel
theorem dL_law_470 : decode cL_law 470 = .ok (.invokevirtual 85, 3) := by decide +kernel
theorem dL_law_473 : decode cL_law 473 = .ok (.iload 5, 2) := by decide +kernel
theorem dL_law_475 : decode cL_law 475 = .ok (.if_icmp .eq 5, 3) := by decide +kernel
theorem dL_law_478 : decode cL_law 478 = .ok (.iconst 0, 1) := by decide +kernel
theorem dL_law_479 : decode cL_law 479 = .ok (.ireturn, 1) := by decide +kernel
theorem dL_law_480 : decode cL_law 480 = .ok (.iload 5, 2) := by decide +kernel
theorem dL_law_482 : decode cL_law 482 = .ok (.ifCond .ne 15, 3) := by decide +kernel
theorem dL_law_485 : decode cL_law 485 = .ok (.aload_n 3, 1) := by decide +kernel
theorem dL_law_486 : decode cL_law 486 = .ok (.iconst 0, 1) := by decide +kernel
theorem dL_law_487 : decode cL_law 487 = .ok (.laload, 1) := by decide +kernel
theorem dL_law_488 : decode cL_law 488 = .ok (.iload 6, 2) := by decide +kernel
theorem dL_law_490 : decode cL_law 490 = .ok (.i2l, 1) := by decide +kernel
theorem dL_law_491 : decode cL_law 491 = .ok (.lcmp, 1) := by decide +kernel
theorem dL_law_492 : decode cL_law 492 = .ok (.ifCond .eq 5, 3) := by decide +kernel
theorem dL_law_495 : decode cL_law 495 = .ok (.iconst 0, 1) := by decide +kernel
theorem dL_law_496 : decode cL_law 496 = .ok (.ireturn, 1) := by decide +kernel
theorem dL_law_497 : decode cL_law 497 = .ok (.goto 901, 3) := by decide +kernel
theorem dL_law_500 : decode cL_law 500 = .ok (.aload_n 1, 1) := by decide +kernel
theorem dL_law_501 : decode cL_law 501 = .ok (.aload_n 0, 1) := by decide +kernel
theorem dL_law_502 : decode cL_law 502 = .ok (.iload 4, 2) := by decide +kernel
theorem dL_law_504 : decode cL_law 504 = .ok (.iconst 1, 1) := by decide +kernel
theorem dL_law_505 : decode cL_law 505 = .ok (.iadd, 1) := by decide +kernel
theorem dL_law_506 : decode cL_law 506 = .ok (.iaload, 1) := by decide +kernel
theorem dL_law_507 : decode cL_law 507 = .ok (.aload_n 0, 1) := by decide +kernel
theorem dL_law_508 : decode cL_law 508 = .ok (.iload 4, 2) := by decide +kernel
theorem dL_law_510 : decode cL_law 510 = .ok (.iconst 2, 1) := by decide +kernel
theorem dL_law_511 : decode cL_law 511 = .ok (.iadd, 1) := by decide +kernel
theorem dL_law_512 : decode cL_law 512 = .ok (.iaload, 1) := by decide +kernel
theorem dL_law_513 : decode cL_law 513 = .ok (.aload_n 0, 1) := by decide +kernel
theorem dL_law_514 : decode cL_law 514 = .ok (.iload 4, 2) := by decide +kernel
theorem dL_law_516 : decode cL_law 516 = .ok (.iconst 3, 1) := by decide +kernel
theorem dL_law_517 : decode cL_law 517 = .ok (.iadd, 1) := by decide +kernel
theorem dL_law_518 : decode cL_law 518 = .ok (.iaload, 1) := by decide +kernel
theorem dL_law_519 : decode cL_law 519 = .ok (.aload_n 3, 1) := by decide +kernel
theorem dL_law_520 : decode cL_law 520 = .ok (.invokestatic 102, 3) := by decide +kernel
theorem dL_law_523 : decode cL_law 523 = .ok (.istore 5, 2) := by decide +kernel
theorem dL_law_525 : decode cL_law 525 = .ok (.aload_n 2, 1) := by decide +kernel
theorem dL_law_526 : decode cL_law 526 = .ok (.aload_n 0, 1) := by decide +kernel
theorem dL_law_527 : decode cL_law 527 = .ok (.iload 4, 2) := by decide +kernel
theorem dL_law_529 : decode cL_law 529 = .ok (.iconst 1, 1) := by decide +kernel
theorem dL_law_530 : decode cL_law 530 = .ok (.iadd, 1) := by decide +kernel
theorem dL_law_531 : decode cL_law 531 = .ok (.iaload, 1) := by decide +kernel
theorem dL_law_532 : decode cL_law 532 = .ok (.aload_n 0, 1) := by decide +kernel
theorem dL_law_533 : decode cL_law 533 = .ok (.iload 4, 2) := by decide +kernel
theorem dL_law_535 : decode cL_law 535 = .ok (.iconst 2, 1) := by decide +kernel
theorem dL_law_536 : decode cL_law 536 = .ok (.iadd, 1) := by decide +kernel
theorem dL_law_537 : decode cL_law 537 = .ok (.iaload, 1) := by decide +kernel
theorem dL_law_538 : decode cL_law 538 = .ok (.aload_n 0, 1) := by decide +kernel
theorem dL_law_539 : decode cL_law 539 = .ok (.iload 4, 2) := by decide +kernel
theorem dL_law_541 : decode cL_law 541 = .ok (.iconst 3, 1) := by decide +kernel
theorem dL_law_542 : decode cL_law 542 = .ok (.iadd, 1) := by decide +kernel
theorem dL_law_543 : decode cL_law 543 = .ok (.iaload, 1) := by decide +kernel
theorem dL_law_544 : decode cL_law 544 = .ok (.invokevirtual 105, 3) := by decide +kernel
theorem dL_law_547 : decode cL_law 547 = .ok (.istore 6, 2) := by decide +kernel
theorem dL_law_549 : decode cL_law 549 = .ok (.aload_n 2, 1) := by decide +kernel
theorem dL_law_550 : decode cL_law 550 = .ok (.invokevirtual 85, 3) := by decide +kernel
theorem dL_law_553 : decode cL_law 553 = .ok (.iload 5, 2) := by decide +kernel
theorem dL_law_555 : decode cL_law 555 = .ok (.if_icmp .eq 5, 3) := by decide +kernel
theorem dL_law_558 : decode cL_law 558 = .ok (.iconst 0, 1) := by decide +kernel
theorem dL_law_559 : decode cL_law 559 = .ok (.ireturn, 1) := by decide +kernel
theorem dL_law_560 : decode cL_law 560 = .ok (.iload 5, 2) := by decide +kernel
theorem dL_law_562 : decode cL_law 562 = .ok (.ifCond .ne 15, 3) := by decide +kernel
theorem dL_law_565 : decode cL_law 565 = .ok (.aload_n 3, 1) := by decide +kernel
theorem dL_law_566 : decode cL_law 566 = .ok (.iconst 0, 1) := by decide +kernel
theorem dL_law_567 : decode cL_law 567 = .ok (.laload, 1) := by decide +kernel
theorem dL_law_568 : decode cL_law 568 = .ok (.iload 6, 2) := by decide +kernel
theorem dL_law_570 : decode cL_law 570 = .ok (.i2l, 1) := by decide +kernel
theorem dL_law_571 : decode cL_law 571 = .ok (.lcmp, 1) := by decide +kernel
theorem dL_law_572 : decode cL_law 572 = .ok (.ifCond .eq 5, 3) := by decide +kernel
theorem dL_law_575 : decode cL_law 575 = .ok (.iconst 0, 1) := by decide +kernel
theorem dL_law_576 : decode cL_law 576 = .ok (.ireturn, 1) := by decide +kernel
theorem dL_law_577 : decode cL_law 577 = .ok (.goto 821, 3) := by decide +kernel
theorem dL_law_580 : decode cL_law 580 = .ok (.aload_n 1, 1) := by decide +kernel
theorem dL_law_581 : decode cL_law 581 = .ok (.aload_n 0, 1) := by decide +kernel
theorem dL_law_582 : decode cL_law 582 = .ok (.iload 4, 2) := by decide +kernel
theorem dL_law_584 : decode cL_law 584 = .ok (.iconst 1, 1) := by decide +kernel
theorem dL_law_585 : decode cL_law 585 = .ok (.iadd, 1) := by decide +kernel
theorem dL_law_586 : decode cL_law 586 = .ok (.iaload, 1) := by decide +kernel
theorem dL_law_587 : decode cL_law 587 = .ok (.aload_n 3, 1) := by decide +kernel
theorem dL_law_588 : decode cL_law 588 = .ok (.invokestatic 106, 3) := by decide +kernel
theorem dL_law_591 : decode cL_law 591 = .ok (.istore 5, 2) := by decide +kernel
theorem dL_law_593 : decode cL_law 593 = .ok (.aload_n 2, 1) := by decide +kernel
theorem dL_law_594 : decode cL_law 594 = .ok (.aload_n 0, 1) := by decide +kernel
theorem dL_law_595 : decode cL_law 595 = .ok (.iload 4, 2) := by decide +kernel
theorem dL_law_597 : decode cL_law 597 = .ok (.iconst 1, 1) := by decide +kernel
theorem dL_law_598 : decode cL_law 598 = .ok (.iadd, 1) := by decide +kernel
theorem dL_law_599 : decode cL_law 599 = .ok (.iaload, 1) := by decide +kernel
theorem dL_law_600 : decode cL_law 600 = .ok (.invokevirtual 108, 3) := by decide +kernel
theorem dL_law_603 : decode cL_law 603 = .ok (.istore 6, 2) := by decide +kernel
theorem dL_law_605 : decode cL_law 605 = .ok (.aload_n 2, 1) := by decide +kernel
theorem dL_law_606 : decode cL_law 606 = .ok (.invokevirtual 85, 3) := by decide +kernel
theorem dL_law_609 : decode cL_law 609 = .ok (.iload 5, 2) := by decide +kernel
theorem dL_law_611 : decode cL_law 611 = .ok (.if_icmp .eq 5, 3) := by decide +kernel
theorem dL_law_614 : decode cL_law 614 = .ok (.iconst 0, 1) := by decide +kernel
theorem dL_law_615 : decode cL_law 615 = .ok (.ireturn, 1) := by decide +kernel
theorem dL_law_616 : decode cL_law 616 = .ok (.iload 5, 2) := by decide +kernel
theorem dL_law_618 : decode cL_law 618 = .ok (.ifCond .ne 15, 3) := by decide +kernel
theorem dL_law_621 : decode cL_law 621 = .ok (.aload_n 3, 1) := by decide +kernel
theorem dL_law_622 : decode cL_law 622 = .ok (.iconst 0, 1) := by decide +kernel
theorem dL_law_623 : decode cL_law 623 = .ok (.laload, 1) := by decide +kernel
theorem dL_law_624 : decode cL_law 624 = .ok (.iload 6, 2) := by decide +kernel
theorem dL_law_626 : decode cL_law 626 = .ok (.i2l, 1) := by decide +kernel
theorem dL_law_627 : decode cL_law 627 = .ok (.lcmp, 1) := by decide +kernel
theorem dL_law_628 : decode cL_law 628 = .ok (.ifCond .eq 5, 3) := by decide +kernel
theorem dL_law_631 : decode cL_law 631 = .ok (.iconst 0, 1) := by decide +kernel
theorem dL_law_632 : decode cL_law 632 = .ok (.ireturn, 1) := by decide +kernel
theorem dL_law_633 : decode cL_law 633 = .ok (.goto 765, 3) := by decide +kernel
theorem dL_law_636 : decode cL_law 636 = .ok (.aload_n 1, 1) := by decide +kernel
theorem dL_law_637 : decode cL_law 637 = .ok (.aload_n 0, 1) := by decide +kernel
theorem dL_law_638 : decode cL_law 638 = .ok (.iload 4, 2) := by decide +kernel
theorem dL_law_640 : decode cL_law 640 = .ok (.iconst 1, 1) := by decide +kernel
theorem dL_law_641 : decode cL_law 641 = .ok (.iadd, 1) := by decide +kernel
theorem dL_law_642 : decode cL_law 642 = .ok (.iaload, 1) := by decide +kernel
theorem dL_law_643 : decode cL_law 643 = .ok (.aload_n 3, 1) := by decide +kernel
theorem dL_law_644 : decode cL_law 644 = .ok (.invokestatic 109, 3) := by decide +kernel
theorem dL_law_647 : decode cL_law 647 = .ok (.istore 5, 2) := by decide +kernel
theorem dL_law_649 : decode cL_law 649 = .ok (.aload_n 2, 1) := by decide +kernel
theorem dL_law_650 : decode cL_law 650 = .ok (.aload_n 0, 1) := by decide +kernel
theorem dL_law_651 : decode cL_law 651 = .ok (.iload 4, 2) := by decide +kernel
theorem dL_law_653 : decode cL_law 653 = .ok (.iconst 1, 1) := by decide +kernel
theorem dL_law_654 : decode cL_law 654 = .ok (.iadd, 1) := by decide +kernel
theorem dL_law_655 : decode cL_law 655 = .ok (.iaload, 1) := by decide +kernel
theorem dL_law_656 : decode cL_law 656 = .ok (.invokevirtual 111, 3) := by decide +kernel
theorem dL_law_659 : decode cL_law 659 = .ok (.istore 6, 2) := by decide +kernel
theorem dL_law_661 : decode cL_law 661 = .ok (.aload_n 2, 1) := by decide +kernel
theorem dL_law_662 : decode cL_law 662 = .ok (.invokevirtual 85, 3) := by decide +kernel
theorem dL_law_665 : decode cL_law 665 = .ok (.iload 5, 2) := by decide +kernel
theorem dL_law_667 : decode cL_law 667 = .ok (.if_icmp .eq 5, 3) := by decide +kernel
theorem dL_law_670 : decode cL_law 670 = .ok (.iconst 0, 1) := by decide +kernel
theorem dL_law_671 : decode cL_law 671 = .ok (.ireturn, 1) := by decide +kernel
theorem dL_law_672 : decode cL_law 672 = .ok (.iload 5, 2) := by decide +kernel
theorem dL_law_674 : decode cL_law 674 = .ok (.ifCond .ne 15, 3) := by decide +kernel
theorem dL_law_677 : decode cL_law 677 = .ok (.aload_n 3, 1) := by decide +kernel
theorem dL_law_678 : decode cL_law 678 = .ok (.iconst 0, 1) := by decide +kernel
theorem dL_law_679 : decode cL_law 679 = .ok (.laload, 1) := by decide +kernel
theorem dL_law_680 : decode cL_law 680 = .ok (.iload 6, 2) := by decide +kernel
theorem dL_law_682 : decode cL_law 682 = .ok (.i2l, 1) := by decide +kernel
theorem dL_law_683 : decode cL_law 683 = .ok (.lcmp, 1) := by decide +kernel
theorem dL_law_684 : decode cL_law 684 = .ok (.ifCond .eq 5, 3) := by decide +kernel
theorem dL_law_687 : decode cL_law 687 = .ok (.iconst 0, 1) := by decide +kernel
theorem dL_law_688 : decode cL_law 688 = .ok (.ireturn, 1) := by decide +kernel
theorem dL_law_689 : decode cL_law 689 = .ok (.goto 709, 3) := by decide +kernel
theorem dL_law_692 : decode cL_law 692 = .ok (.aload_n 1, 1) := by decide +kernel
theorem dL_law_693 : decode cL_law 693 = .ok (.invokevirtual 112, 3) := by decide +kernel
theorem dL_law_696 : decode cL_law 696 = .ok (.aload_n 2, 1) := by decide +kernel
theorem dL_law_697 : decode cL_law 697 = .ok (.invokevirtual 115, 3) := by decide +kernel
theorem dL_law_700 : decode cL_law 700 = .ok (.if_icmp .eq 698, 3) := by decide +kernel
theorem dL_law_703 : decode cL_law 703 = .ok (.iconst 0, 1) := by decide +kernel
theorem dL_law_704 : decode cL_law 704 = .ok (.ireturn, 1) := by decide +kernel
theorem dL_law_705 : decode cL_law 705 = .ok (.aload_n 1, 1) := by decide +kernel
theorem dL_law_706 : decode cL_law 706 = .ok (.invokevirtual 116, 3) := by decide +kernel
theorem dL_law_709 : decode cL_law 709 = .ok (.aload_n 2, 1) := by decide +kernel
theorem dL_law_710 : decode cL_law 710 = .ok (.invokevirtual 119, 3) := by decide +kernel
theorem dL_law_713 : decode cL_law 713 = .ok (.if_icmp .eq 685, 3) := by decide +kernel
theorem dL_law_716 : decode cL_law 716 = .ok (.iconst 0, 1) := by decide +kernel
theorem dL_law_717 : decode cL_law 717 = .ok (.ireturn, 1) := by decide +kernel
theorem dL_law_718 : decode cL_law 718 = .ok (.aload_n 1, 1) := by decide +kernel
theorem dL_law_719 : decode cL_law 719 = .ok (.aload_n 3, 1) := by decide +kernel
theorem dL_law_720 : decode cL_law 720 = .ok (.invokestatic 120, 3) := by decide +kernel
theorem dL_law_723 : decode cL_law 723 = .ok (.istore 5, 2) := by decide +kernel
theorem dL_law_725 : decode cL_law 725 = .ok (.aload_n 2, 1) := by decide +kernel
theorem dL_law_726 : decode cL_law 726 = .ok (.invokevirtual 123, 3) := by decide +kernel
theorem dL_law_729 : decode cL_law 729 = .ok (.istore 6, 2) := by decide +kernel
theorem dL_law_731 : decode cL_law 731 = .ok (.aload_n 2, 1) := by decide +kernel
theorem dL_law_732 : decode cL_law 732 = .ok (.invokevirtual 85, 3) := by decide +kernel
theorem dL_law_735 : decode cL_law 735 = .ok (.iload 5, 2) := by decide +kernel
theorem dL_law_737 : decode cL_law 737 = .ok (.if_icmp .eq 5, 3) := by decide +kernel
theorem dL_law_740 : decode cL_law 740 = .ok (.iconst 0, 1) := by decide +kernel
theorem dL_law_741 : decode cL_law 741 = .ok (.ireturn, 1) := by decide +kernel
theorem dL_law_742 : decode cL_law 742 = .ok (.iload 5, 2) := by decide +kernel
theorem dL_law_744 : decode cL_law 744 = .ok (.ifCond .ne 15, 3) := by decide +kernel
theorem dL_law_747 : decode cL_law 747 = .ok (.aload_n 3, 1) := by decide +kernel
theorem dL_law_748 : decode cL_law 748 = .ok (.iconst 0, 1) := by decide +kernel
theorem dL_law_749 : decode cL_law 749 = .ok (.laload, 1) := by decide +kernel
theorem dL_law_750 : decode cL_law 750 = .ok (.iload 6, 2) := by decide +kernel
theorem dL_law_752 : decode cL_law 752 = .ok (.i2l, 1) := by decide +kernel
theorem dL_law_753 : decode cL_law 753 = .ok (.lcmp, 1) := by decide +kernel
theorem dL_law_754 : decode cL_law 754 = .ok (.ifCond .eq 5, 3) := by decide +kernel
theorem dL_law_757 : decode cL_law 757 = .ok (.iconst 0, 1) := by decide +kernel
theorem dL_law_758 : decode cL_law 758 = .ok (.ireturn, 1) := by decide +kernel
theorem dL_law_759 : decode cL_law 759 = .ok (.goto 639, 3) := by decide +kernel
theorem dL_law_762 : decode cL_law 762 = .ok (.aload_n 1, 1) := by decide +kernel
theorem dL_law_763 : decode cL_law 763 = .ok (.aload_n 3, 1) := by decide +kernel
theorem dL_law_764 : decode cL_law 764 = .ok (.invokestatic 124, 3) := by decide +kernel
theorem dL_law_767 : decode cL_law 767 = .ok (.istore 5, 2) := by decide +kernel
theorem dL_law_769 : decode cL_law 769 = .ok (.aload_n 2, 1) := by decide +kernel
theorem dL_law_770 : decode cL_law 770 = .ok (.invokevirtual 126, 3) := by decide +kernel
theorem dL_law_773 : decode cL_law 773 = .ok (.istore 6, 2) := by decide +kernel
theorem dL_law_775 : decode cL_law 775 = .ok (.aload_n 2, 1) := by decide +kernel
theorem dL_law_776 : decode cL_law 776 = .ok (.invokevirtual 85, 3) := by decide +kernel
theorem dL_law_779 : decode cL_law 779 = .ok (.iload 5, 2) := by decide +kernel
theorem dL_law_781 : decode cL_law 781 = .ok (.if_icmp .eq 5, 3) := by decide +kernel
theorem dL_law_784 : decode cL_law 784 = .ok (.iconst 0, 1) := by decide +kernel
theorem dL_law_785 : decode cL_law 785 = .ok (.ireturn, 1) := by decide +kernel
theorem dL_law_786 : decode cL_law 786 = .ok (.iload 5, 2) := by decide +kernel
theorem dL_law_788 : decode cL_law 788 = .ok (.ifCond .ne 15, 3) := by decide +kernel
theorem dL_law_791 : decode cL_law 791 = .ok (.aload_n 3, 1) := by decide +kernel
theorem dL_law_792 : decode cL_law 792 = .ok (.iconst 0, 1) := by decide +kernel
theorem dL_law_793 : decode cL_law 793 = .ok (.laload, 1) := by decide +kernel
theorem dL_law_794 : decode cL_law 794 = .ok (.iload 6, 2) := by decide +kernel
theorem dL_law_796 : decode cL_law 796 = .ok (.i2l, 1) := by decide +kernel
theorem dL_law_797 : decode cL_law 797 = .ok (.lcmp, 1) := by decide +kernel
theorem dL_law_798 : decode cL_law 798 = .ok (.ifCond .eq 5, 3) := by decide +kernel
theorem dL_law_801 : decode cL_law 801 = .ok (.iconst 0, 1) := by decide +kernel
theorem dL_law_802 : decode cL_law 802 = .ok (.ireturn, 1) := by decide +kernel
theorem dL_law_803 : decode cL_law 803 = .ok (.goto 595, 3) := by decide +kernel
theorem dL_law_806 : decode cL_law 806 = .ok (.aload_n 1, 1) := by decide +kernel
theorem dL_law_807 : decode cL_law 807 = .ok (.aload_n 0, 1) := by decide +kernel
theorem dL_law_808 : decode cL_law 808 = .ok (.iload 4, 2) := by decide +kernel
theorem dL_law_810 : decode cL_law 810 = .ok (.iconst 1, 1) := by decide +kernel
theorem dL_law_811 : decode cL_law 811 = .ok (.iadd, 1) := by decide +kernel
theorem dL_law_812 : decode cL_law 812 = .ok (.iaload, 1) := by decide +kernel
theorem dL_law_813 : decode cL_law 813 = .ok (.aload_n 0, 1) := by decide +kernel
theorem dL_law_814 : decode cL_law 814 = .ok (.iload 4, 2) := by decide +kernel
theorem dL_law_816 : decode cL_law 816 = .ok (.iconst 2, 1) := by decide +kernel
theorem dL_law_817 : decode cL_law 817 = .ok (.iadd, 1) := by decide +kernel
theorem dL_law_818 : decode cL_law 818 = .ok (.iaload, 1) := by decide +kernel
theorem dL_law_819 : decode cL_law 819 = .ok (.aload_n 3, 1) := by decide +kernel
theorem dL_law_820 : decode cL_law 820 = .ok (.invokestatic 127, 3) := by decide +kernel
theorem dL_law_823 : decode cL_law 823 = .ok (.istore 5, 2) := by decide +kernel
theorem dL_law_825 : decode cL_law 825 = .ok (.aload_n 2, 1) := by decide +kernel
theorem dL_law_826 : decode cL_law 826 = .ok (.aload_n 0, 1) := by decide +kernel
theorem dL_law_827 : decode cL_law 827 = .ok (.iload 4, 2) := by decide +kernel
theorem dL_law_829 : decode cL_law 829 = .ok (.iconst 1, 1) := by decide +kernel
theorem dL_law_830 : decode cL_law 830 = .ok (.iadd, 1) := by decide +kernel
theorem dL_law_831 : decode cL_law 831 = .ok (.iaload, 1) := by decide +kernel
theorem dL_law_832 : decode cL_law 832 = .ok (.aload_n 0, 1) := by decide +kernel
theorem dL_law_833 : decode cL_law 833 = .ok (.iload 4, 2) := by decide +kernel
theorem dL_law_835 : decode cL_law 835 = .ok (.iconst 2, 1) := by decide +kernel
theorem dL_law_836 : decode cL_law 836 = .ok (.iadd, 1) := by decide +kernel
theorem dL_law_837 : decode cL_law 837 = .ok (.iaload, 1) := by decide +kernel
theorem dL_law_838 : decode cL_law 838 = .ok (.invokevirtual 129, 3) := by decide +kernel
theorem dL_law_841 : decode cL_law 841 = .ok (.istore 6, 2) := by decide +kernel
theorem dL_law_843 : decode cL_law 843 = .ok (.aload_n 2, 1) := by decide +kernel
theorem dL_law_844 : decode cL_law 844 = .ok (.invokevirtual 85, 3) := by decide +kernel
theorem dL_law_847 : decode cL_law 847 = .ok (.iload 5, 2) := by decide +kernel
theorem dL_law_849 : decode cL_law 849 = .ok (.if_icmp .eq 5, 3) := by decide +kernel
theorem dL_law_852 : decode cL_law 852 = .ok (.iconst 0, 1) := by decide +kernel
theorem dL_law_853 : decode cL_law 853 = .ok (.ireturn, 1) := by decide +kernel
theorem dL_law_854 : decode cL_law 854 = .ok (.iload 5, 2) := by decide +kernel
theorem dL_law_856 : decode cL_law 856 = .ok (.ifCond .ne 15, 3) := by decide +kernel
theorem dL_law_859 : decode cL_law 859 = .ok (.aload_n 3, 1) := by decide +kernel
theorem dL_law_860 : decode cL_law 860 = .ok (.iconst 0, 1) := by decide +kernel
theorem dL_law_861 : decode cL_law 861 = .ok (.laload, 1) := by decide +kernel
theorem dL_law_862 : decode cL_law 862 = .ok (.iload 6, 2) := by decide +kernel
theorem dL_law_864 : decode cL_law 864 = .ok (.i2l, 1) := by decide +kernel
theorem dL_law_865 : decode cL_law 865 = .ok (.lcmp, 1) := by decide +kernel
theorem dL_law_866 : decode cL_law 866 = .ok (.ifCond .eq 5, 3) := by decide +kernel
theorem dL_law_869 : decode cL_law 869 = .ok (.iconst 0, 1) := by decide +kernel
theorem dL_law_870 : decode cL_law 870 = .ok (.ireturn, 1) := by decide +kernel
theorem dL_law_871 : decode cL_law 871 = .ok (.goto 527, 3) := by decide +kernel
theorem dL_law_874 : decode cL_law 874 = .ok (.aload_n 1, 1) := by decide +kernel
theorem dL_law_875 : decode cL_law 875 = .ok (.aload_n 0, 1) := by decide +kernel
theorem dL_law_876 : decode cL_law 876 = .ok (.iload 4, 2) := by decide +kernel
theorem dL_law_878 : decode cL_law 878 = .ok (.iconst 1, 1) := by decide +kernel
theorem dL_law_879 : decode cL_law 879 = .ok (.iadd, 1) := by decide +kernel
theorem dL_law_880 : decode cL_law 880 = .ok (.iaload, 1) := by decide +kernel
theorem dL_law_881 : decode cL_law 881 = .ok (.aload_n 0, 1) := by decide +kernel
theorem dL_law_882 : decode cL_law 882 = .ok (.iload 4, 2) := by decide +kernel
theorem dL_law_884 : decode cL_law 884 = .ok (.iconst 2, 1) := by decide +kernel
theorem dL_law_885 : decode cL_law 885 = .ok (.iadd, 1) := by decide +kernel
theorem dL_law_886 : decode cL_law 886 = .ok (.iaload, 1) := by decide +kernel
theorem dL_law_887 : decode cL_law 887 = .ok (.aload_n 3, 1) := by decide +kernel
theorem dL_law_888 : decode cL_law 888 = .ok (.invokestatic 130, 3) := by decide +kernel
theorem dL_law_891 : decode cL_law 891 = .ok (.istore 5, 2) := by decide +kernel
theorem dL_law_893 : decode cL_law 893 = .ok (.aload_n 2, 1) := by decide +kernel
theorem dL_law_894 : decode cL_law 894 = .ok (.aload_n 0, 1) := by decide +kernel
theorem dL_law_895 : decode cL_law 895 = .ok (.iload 4, 2) := by decide +kernel
theorem dL_law_897 : decode cL_law 897 = .ok (.iconst 1, 1) := by decide +kernel
theorem dL_law_898 : decode cL_law 898 = .ok (.iadd, 1) := by decide +kernel
theorem dL_law_899 : decode cL_law 899 = .ok (.iaload, 1) := by decide +kernel
theorem dL_law_900 : decode cL_law 900 = .ok (.aload_n 0, 1) := by decide +kernel
theorem dL_law_901 : decode cL_law 901 = .ok (.iload 4, 2) := by decide +kernel
theorem dL_law_903 : decode cL_law 903 = .ok (.iconst 2, 1) := by decide +kernel
theorem dL_law_904 : decode cL_law 904 = .ok (.iadd, 1) := by decide +kernel
theorem dL_law_905 : decode cL_law 905 = .ok (.iaload, 1) := by decide +kernel
theorem dL_law_906 : decode cL_law 906 = .ok (.invokevirtual 132, 3) := by decide +kernel
theorem dL_law_909 : decode cL_law 909 = .ok (.istore 6, 2) := by decide +kernel
theorem dL_law_911 : decode cL_law 911 = .ok (.aload_n 2, 1) := by decide +kernel
theorem dL_law_912 : decode cL_law 912 = .ok (.invokevirtual 85, 3) := by decide +kernel
theorem dL_law_915 : decode cL_law 915 = .ok (.iload 5, 2) := by decide +kernel
theorem dL_law_917 : decode cL_law 917 = .ok (.if_icmp .eq 5, 3) := by decide +kernel
theorem dL_law_920 : decode cL_law 920 = .ok (.iconst 0, 1) := by decide +kernel
theorem dL_law_921 : decode cL_law 921 = .ok (.ireturn, 1) := by decide +kernel
theorem dL_law_922 : decode cL_law 922 = .ok (.iload 5, 2) := by decide +kernel
theorem dL_law_924 : decode cL_law 924 = .ok (.ifCond .ne 15, 3) := by decide +kernel
theorem dL_law_927 : decode cL_law 927 = .ok (.aload_n 3, 1) := by decide +kernel
theorem dL_law_928 : decode cL_law 928 = .ok (.iconst 0, 1) := by decide +kernel
theorem dL_law_929 : decode cL_law 929 = .ok (.laload, 1) := by decide +kernel
theorem dL_law_930 : decode cL_law 930 = .ok (.iload 6, 2) := by decide +kernel
theorem dL_law_932 : decode cL_law 932 = .ok (.i2l, 1) := by decide +kernel
theorem dL_law_933 : decode cL_law 933 = .ok (.lcmp, 1) := by decide +kernel
theorem dL_law_934 : decode cL_law 934 = .ok (.ifCond .eq 5, 3) := by decide +kernel
theorem dL_law_937 : decode cL_law 937 = .ok (.iconst 0, 1) := by decide +kernel
theorem dL_law_938 : decode cL_law 938 = .ok (.ireturn, 1) := by decide +kernel
theorem dL_law_939 : decode cL_law 939 = .ok (.goto 459, 3) := by decide +kernel
theorem dL_law_942 : decode cL_law 942 = .ok (.aload_n 1, 1) := by decide +kernel
theorem dL_law_943 : decode cL_law 943 = .ok (.aload_n 0, 1) := by decide +kernel
theorem dL_law_944 : decode cL_law 944 = .ok (.iload 4, 2) := by decide +kernel
theorem dL_law_946 : decode cL_law 946 = .ok (.iconst 1, 1) := by decide +kernel
theorem dL_law_947 : decode cL_law 947 = .ok (.iadd, 1) := by decide +kernel
theorem dL_law_948 : decode cL_law 948 = .ok (.iaload, 1) := by decide +kernel
theorem dL_law_949 : decode cL_law 949 = .ok (.aload_n 0, 1) := by decide +kernel
theorem dL_law_950 : decode cL_law 950 = .ok (.iload 4, 2) := by decide +kernel
theorem dL_law_952 : decode cL_law 952 = .ok (.iconst 2, 1) := by decide +kernel
theorem dL_law_953 : decode cL_law 953 = .ok (.iadd, 1) := by decide +kernel
theorem dL_law_954 : decode cL_law 954 = .ok (.iaload, 1) := by decide +kernel
theorem dL_law_955 : decode cL_law 955 = .ok (.ifCond .eq 7, 3) := by decide +kernel
theorem dL_law_958 : decode cL_law 958 = .ok (.iconst 1, 1) := by decide +kernel
theorem dL_law_959 : decode cL_law 959 = .ok (.goto 4, 3) := by decide +kernel
theorem dL_law_962 : decode cL_law 962 = .ok (.iconst 0, 1) := by decide +kernel
theorem dL_law_963 : decode cL_law 963 = .ok (.aload_n 3, 1) := by decide +kernel
theorem dL_law_964 : decode cL_law 964 = .ok (.invokestatic 133, 3) := by decide +kernel
theorem dL_law_967 : decode cL_law 967 = .ok (.istore 5, 2) := by decide +kernel
theorem dL_law_969 : decode cL_law 969 = .ok (.aload_n 2, 1) := by decide +kernel
theorem dL_law_970 : decode cL_law 970 = .ok (.aload_n 0, 1) := by decide +kernel
theorem dL_law_971 : decode cL_law 971 = .ok (.iload 4, 2) := by decide +kernel
theorem dL_law_973 : decode cL_law 973 = .ok (.iconst 1, 1) := by decide +kernel
theorem dL_law_974 : decode cL_law 974 = .ok (.iadd, 1) := by decide +kernel
theorem dL_law_975 : decode cL_law 975 = .ok (.iaload, 1) := by decide +kernel
theorem dL_law_976 : decode cL_law 976 = .ok (.aload_n 0, 1) := by decide +kernel
theorem dL_law_977 : decode cL_law 977 = .ok (.iload 4, 2) := by decide +kernel
theorem dL_law_979 : decode cL_law 979 = .ok (.iconst 2, 1) := by decide +kernel
theorem dL_law_980 : decode cL_law 980 = .ok (.iadd, 1) := by decide +kernel
theorem dL_law_981 : decode cL_law 981 = .ok (.iaload, 1) := by decide +kernel
theorem dL_law_982 : decode cL_law 982 = .ok (.ifCond .eq 7, 3) := by decide +kernel
theorem dL_law_985 : decode cL_law 985 = .ok (.iconst 1, 1) := by decide +kernel
theorem dL_law_986 : decode cL_law 986 = .ok (.goto 4, 3) := by decide +kernel
theorem dL_law_989 : decode cL_law 989 = .ok (.iconst 0, 1) := by decide +kernel
theorem dL_law_990 : decode cL_law 990 = .ok (.invokevirtual 136, 3) := by decide +kernel
theorem dL_law_993 : decode cL_law 993 = .ok (.istore 6, 2) := by decide +kernel
theorem dL_law_995 : decode cL_law 995 = .ok (.aload_n 2, 1) := by decide +kernel
theorem dL_law_996 : decode cL_law 996 = .ok (.invokevirtual 85, 3) := by decide +kernel
theorem dL_law_999 : decode cL_law 999 = .ok (.iload 5, 2) := by decide +kernel
theorem dL_law_1001 : decode cL_law 1001 = .ok (.if_icmp .eq 5, 3) := by decide +kernel
theorem dL_law_1004 : decode cL_law 1004 = .ok (.iconst 0, 1) := by decide +kernel
theorem dL_law_1005 : decode cL_law 1005 = .ok (.ireturn, 1) := by decide +kernel
theorem dL_law_1006 : decode cL_law 1006 = .ok (.iload 5, 2) := by decide +kernel
theorem dL_law_1008 : decode cL_law 1008 = .ok (.ifCond .ne 15, 3) := by decide +kernel
theorem dL_law_1011 : decode cL_law 1011 = .ok (.aload_n 3, 1) := by decide +kernel
theorem dL_law_1012 : decode cL_law 1012 = .ok (.iconst 0, 1) := by decide +kernel
theorem dL_law_1013 : decode cL_law 1013 = .ok (.laload, 1) := by decide +kernel
theorem dL_law_1014 : decode cL_law 1014 = .ok (.iload 6, 2) := by decide +kernel
theorem dL_law_1016 : decode cL_law 1016 = .ok (.i2l, 1) := by decide +kernel
theorem dL_law_1017 : decode cL_law 1017 = .ok (.lcmp, 1) := by decide +kernel
theorem dL_law_1018 : decode cL_law 1018 = .ok (.ifCond .eq 5, 3) := by decide +kernel
theorem dL_law_1021 : decode cL_law 1021 = .ok (.iconst 0, 1) := by decide +kernel
theorem dL_law_1022 : decode cL_law 1022 = .ok (.ireturn, 1) := by decide +kernel
theorem dL_law_1023 : decode cL_law 1023 = .ok (.goto 375, 3) := by decide +kernel
theorem dL_law_1026 : decode cL_law 1026 = .ok (.aload_n 1, 1) := by decide +kernel
theorem dL_law_1027 : decode cL_law 1027 = .ok (.aload_n 0, 1) := by decide +kernel
theorem dL_law_1028 : decode cL_law 1028 = .ok (.iload 4, 2) := by decide +kernel
theorem dL_law_1030 : decode cL_law 1030 = .ok (.iconst 1, 1) := by decide +kernel
theorem dL_law_1031 : decode cL_law 1031 = .ok (.iadd, 1) := by decide +kernel
theorem dL_law_1032 : decode cL_law 1032 = .ok (.iaload, 1) := by decide +kernel
theorem dL_law_1033 : decode cL_law 1033 = .ok (.aload_n 3, 1) := by decide +kernel
theorem dL_law_1034 : decode cL_law 1034 = .ok (.invokestatic 137, 3) := by decide +kernel
theorem dL_law_1037 : decode cL_law 1037 = .ok (.istore 5, 2) := by decide +kernel
theorem dL_law_1039 : decode cL_law 1039 = .ok (.aload_n 2, 1) := by decide +kernel
theorem dL_law_1040 : decode cL_law 1040 = .ok (.aload_n 0, 1) := by decide +kernel
theorem dL_law_1041 : decode cL_law 1041 = .ok (.iload 4, 2) := by decide +kernel
theorem dL_law_1043 : decode cL_law 1043 = .ok (.iconst 1, 1) := by decide +kernel
theorem dL_law_1044 : decode cL_law 1044 = .ok (.iadd, 1) := by decide +kernel
theorem dL_law_1045 : decode cL_law 1045 = .ok (.iaload, 1) := by decide +kernel
theorem dL_law_1046 : decode cL_law 1046 = .ok (.invokevirtual 139, 3) := by decide +kernel
theorem dL_law_1049 : decode cL_law 1049 = .ok (.istore 6, 2) := by decide +kernel
theorem dL_law_1051 : decode cL_law 1051 = .ok (.aload_n 2, 1) := by decide +kernel
theorem dL_law_1052 : decode cL_law 1052 = .ok (.invokevirtual 85, 3) := by decide +kernel
theorem dL_law_1055 : decode cL_law 1055 = .ok (.iload 5, 2) := by decide +kernel
theorem dL_law_1057 : decode cL_law 1057 = .ok (.if_icmp .eq 5, 3) := by decide +kernel
theorem dL_law_1060 : decode cL_law 1060 = .ok (.iconst 0, 1) := by decide +kernel
theorem dL_law_1061 : decode cL_law 1061 = .ok (.ireturn, 1) := by decide +kernel
theorem dL_law_1062 : decode cL_law 1062 = .ok (.iload 5, 2) := by decide +kernel
theorem dL_law_1064 : decode cL_law 1064 = .ok (.ifCond .ne 15, 3) := by decide +kernel
theorem dL_law_1067 : decode cL_law 1067 = .ok (.aload_n 3, 1) := by decide +kernel
theorem dL_law_1068 : decode cL_law 1068 = .ok (.iconst 0, 1) := by decide +kernel
theorem dL_law_1069 : decode cL_law 1069 = .ok (.laload, 1) := by decide +kernel
theorem dL_law_1070 : decode cL_law 1070 = .ok (.iload 6, 2) := by decide +kernel
theorem dL_law_1072 : decode cL_law 1072 = .ok (.i2l, 1) := by decide +kernel
theorem dL_law_1073 : decode cL_law 1073 = .ok (.lcmp, 1) := by decide +kernel
theorem dL_law_1074 : decode cL_law 1074 = .ok (.ifCond .eq 5, 3) := by decide +kernel
theorem dL_law_1077 : decode cL_law 1077 = .ok (.iconst 0, 1) := by decide +kernel
theorem dL_law_1078 : decode cL_law 1078 = .ok (.ireturn, 1) := by decide +kernel
theorem dL_law_1079 : decode cL_law 1079 = .ok (.goto 319, 3) := by decide +kernel
theorem dL_law_1082 : decode cL_law 1082 = .ok (.aload_n 1, 1) := by decide +kernel
theorem dL_law_1083 : decode cL_law 1083 = .ok (.aload_n 0, 1) := by decide +kernel
theorem dL_law_1084 : decode cL_law 1084 = .ok (.iload 4, 2) := by decide +kernel
theorem dL_law_1086 : decode cL_law 1086 = .ok (.iconst 1, 1) := by decide +kernel
theorem dL_law_1087 : decode cL_law 1087 = .ok (.iadd, 1) := by decide +kernel
theorem dL_law_1088 : decode cL_law 1088 = .ok (.iaload, 1) := by decide +kernel
theorem dL_law_1089 : decode cL_law 1089 = .ok (.aload_n 3, 1) := by decide +kernel
theorem dL_law_1090 : decode cL_law 1090 = .ok (.invokestatic 140, 3) := by decide +kernel
theorem dL_law_1093 : decode cL_law 1093 = .ok (.istore 5, 2) := by decide +kernel
theorem dL_law_1095 : decode cL_law 1095 = .ok (.aload_n 2, 1) := by decide +kernel
theorem dL_law_1096 : decode cL_law 1096 = .ok (.aload_n 0, 1) := by decide +kernel
theorem dL_law_1097 : decode cL_law 1097 = .ok (.iload 4, 2) := by decide +kernel
theorem dL_law_1099 : decode cL_law 1099 = .ok (.iconst 1, 1) := by decide +kernel
theorem dL_law_1100 : decode cL_law 1100 = .ok (.iadd, 1) := by decide +kernel
theorem dL_law_1101 : decode cL_law 1101 = .ok (.iaload, 1) := by decide +kernel
theorem dL_law_1102 : decode cL_law 1102 = .ok (.invokevirtual 142, 3) := by decide +kernel
theorem dL_law_1105 : decode cL_law 1105 = .ok (.istore 6, 2) := by decide +kernel
theorem dL_law_1107 : decode cL_law 1107 = .ok (.aload_n 2, 1) := by decide +kernel
theorem dL_law_1108 : decode cL_law 1108 = .ok (.invokevirtual 85, 3) := by decide +kernel
theorem dL_law_1111 : decode cL_law 1111 = .ok (.iload 5, 2) := by decide +kernel
theorem dL_law_1113 : decode cL_law 1113 = .ok (.if_icmp .eq 5, 3) := by decide +kernel
theorem dL_law_1116 : decode cL_law 1116 = .ok (.iconst 0, 1) := by decide +kernel
theorem dL_law_1117 : decode cL_law 1117 = .ok (.ireturn, 1) := by decide +kernel
theorem dL_law_1118 : decode cL_law 1118 = .ok (.iload 5, 2) := by decide +kernel
theorem dL_law_1120 : decode cL_law 1120 = .ok (.ifCond .ne 15, 3) := by decide +kernel
theorem dL_law_1123 : decode cL_law 1123 = .ok (.aload_n 3, 1) := by decide +kernel
theorem dL_law_1124 : decode cL_law 1124 = .ok (.iconst 0, 1) := by decide +kernel
theorem dL_law_1125 : decode cL_law 1125 = .ok (.laload, 1) := by decide +kernel
theorem dL_law_1126 : decode cL_law 1126 = .ok (.iload 6, 2) := by decide +kernel
theorem dL_law_1128 : decode cL_law 1128 = .ok (.i2l, 1) := by decide +kernel
theorem dL_law_1129 : decode cL_law 1129 = .ok (.lcmp, 1) := by decide +kernel
theorem dL_law_1130 : decode cL_law 1130 = .ok (.ifCond .eq 5, 3) := by decide +kernel
theorem dL_law_1133 : decode cL_law 1133 = .ok (.iconst 0, 1) := by decide +kernel
theorem dL_law_1134 : decode cL_law 1134 = .ok (.ireturn, 1) := by decide +kernel
theorem dL_law_1135 : decode cL_law 1135 = .ok (.goto 263, 3) := by decide +kernel
theorem dL_law_1138 : decode cL_law 1138 = .ok (.aload_n 1, 1) := by decide +kernel
theorem dL_law_1139 : decode cL_law 1139 = .ok (.aload_n 0, 1) := by decide +kernel
theorem dL_law_1140 : decode cL_law 1140 = .ok (.iload 4, 2) := by decide +kernel
theorem dL_law_1142 : decode cL_law 1142 = .ok (.iconst 1, 1) := by decide +kernel
theorem dL_law_1143 : decode cL_law 1143 = .ok (.iadd, 1) := by decide +kernel
theorem dL_law_1144 : decode cL_law 1144 = .ok (.iaload, 1) := by decide +kernel
theorem dL_law_1145 : decode cL_law 1145 = .ok (.aload_n 0, 1) := by decide +kernel
theorem dL_law_1146 : decode cL_law 1146 = .ok (.iload 4, 2) := by decide +kernel
theorem dL_law_1148 : decode cL_law 1148 = .ok (.iconst 2, 1) := by decide +kernel
theorem dL_law_1149 : decode cL_law 1149 = .ok (.iadd, 1) := by decide +kernel
theorem dL_law_1150 : decode cL_law 1150 = .ok (.iaload, 1) := by decide +kernel
theorem dL_law_1151 : decode cL_law 1151 = .ok (.aload_n 0, 1) := by decide +kernel
theorem dL_law_1152 : decode cL_law 1152 = .ok (.iload 4, 2) := by decide +kernel
theorem dL_law_1154 : decode cL_law 1154 = .ok (.iconst 3, 1) := by decide +kernel
theorem dL_law_1155 : decode cL_law 1155 = .ok (.iadd, 1) := by decide +kernel
theorem dL_law_1156 : decode cL_law 1156 = .ok (.iaload, 1) := by decide +kernel
theorem dL_law_1157 : decode cL_law 1157 = .ok (.aload_n 3, 1) := by decide +kernel
theorem dL_law_1158 : decode cL_law 1158 = .ok (.invokestatic 143, 3) := by decide +kernel
theorem dL_law_1161 : decode cL_law 1161 = .ok (.istore 5, 2) := by decide +kernel
theorem dL_law_1163 : decode cL_law 1163 = .ok (.aload_n 2, 1) := by decide +kernel
theorem dL_law_1164 : decode cL_law 1164 = .ok (.aload_n 0, 1) := by decide +kernel
theorem dL_law_1165 : decode cL_law 1165 = .ok (.iload 4, 2) := by decide +kernel
theorem dL_law_1167 : decode cL_law 1167 = .ok (.iconst 1, 1) := by decide +kernel
theorem dL_law_1168 : decode cL_law 1168 = .ok (.iadd, 1) := by decide +kernel
theorem dL_law_1169 : decode cL_law 1169 = .ok (.iaload, 1) := by decide +kernel
theorem dL_law_1170 : decode cL_law 1170 = .ok (.aload_n 0, 1) := by decide +kernel
theorem dL_law_1171 : decode cL_law 1171 = .ok (.iload 4, 2) := by decide +kernel
theorem dL_law_1173 : decode cL_law 1173 = .ok (.iconst 2, 1) := by decide +kernel
theorem dL_law_1174 : decode cL_law 1174 = .ok (.iadd, 1) := by decide +kernel
theorem dL_law_1175 : decode cL_law 1175 = .ok (.iaload, 1) := by decide +kernel
theorem dL_law_1176 : decode cL_law 1176 = .ok (.aload_n 0, 1) := by decide +kernel
theorem dL_law_1177 : decode cL_law 1177 = .ok (.iload 4, 2) := by decide +kernel
theorem dL_law_1179 : decode cL_law 1179 = .ok (.iconst 3, 1) := by decide +kernel
theorem dL_law_1180 : decode cL_law 1180 = .ok (.iadd, 1) := by decide +kernel
theorem dL_law_1181 : decode cL_law 1181 = .ok (.iaload, 1) := by decide +kernel
theorem dL_law_1182 : decode cL_law 1182 = .ok (.invokevirtual 145, 3) := by decide +kernel
theorem dL_law_1185 : decode cL_law 1185 = .ok (.istore 6, 2) := by decide +kernel
theorem dL_law_1187 : decode cL_law 1187 = .ok (.aload_n 2, 1) := by decide +kernel
theorem dL_law_1188 : decode cL_law 1188 = .ok (.invokevirtual 85, 3) := by decide +kernel
theorem dL_law_1191 : decode cL_law 1191 = .ok (.iload 5, 2) := by decide +kernel
theorem dL_law_1193 : decode cL_law 1193 = .ok (.if_icmp .eq 5, 3) := by decide +kernel
theorem dL_law_1196 : decode cL_law 1196 = .ok (.iconst 0, 1) := by decide +kernel
theorem dL_law_1197 : decode cL_law 1197 = .ok (.ireturn, 1) := by decide +kernel
theorem dL_law_1198 : decode cL_law 1198 = .ok (.iload 5, 2) := by decide +kernel
theorem dL_law_1200 : decode cL_law 1200 = .ok (.ifCond .ne 15, 3) := by decide +kernel
theorem dL_law_1203 : decode cL_law 1203 = .ok (.aload_n 3, 1) := by decide +kernel
theorem dL_law_1204 : decode cL_law 1204 = .ok (.iconst 0, 1) := by decide +kernel
theorem dL_law_1205 : decode cL_law 1205 = .ok (.laload, 1) := by decide +kernel
theorem dL_law_1206 : decode cL_law 1206 = .ok (.iload 6, 2) := by decide +kernel
theorem dL_law_1208 : decode cL_law 1208 = .ok (.i2l, 1) := by decide +kernel
theorem dL_law_1209 : decode cL_law 1209 = .ok (.lcmp, 1) := by decide +kernel
theorem dL_law_1210 : decode cL_law 1210 = .ok (.ifCond .eq 5, 3) := by decide +kernel
theorem dL_law_1213 : decode cL_law 1213 = .ok (.iconst 0, 1) := by decide +kernel
theorem dL_law_1214 : decode cL_law 1214 = .ok (.ireturn, 1) := by decide +kernel
theorem dL_law_1215 : decode cL_law 1215 = .ok (.goto 183, 3) := by decide +kernel
theorem dL_law_1218 : decode cL_law 1218 = .ok (.aload_n 1, 1) := by decide +kernel
theorem dL_law_1219 : decode cL_law 1219 = .ok (.aload_n 0, 1) := by decide +kernel
theorem dL_law_1220 : decode cL_law 1220 = .ok (.iload 4, 2) := by decide +kernel
theorem dL_law_1222 : decode cL_law 1222 = .ok (.iconst 1, 1) := by decide +kernel
theorem dL_law_1223 : decode cL_law 1223 = .ok (.iadd, 1) := by decide +kernel
theorem dL_law_1224 : decode cL_law 1224 = .ok (.iaload, 1) := by decide +kernel
theorem dL_law_1225 : decode cL_law 1225 = .ok (.aload_n 3, 1) := by decide +kernel
theorem dL_law_1226 : decode cL_law 1226 = .ok (.invokestatic 146, 3) := by decide +kernel
theorem dL_law_1229 : decode cL_law 1229 = .ok (.istore 5, 2) := by decide +kernel
theorem dL_law_1231 : decode cL_law 1231 = .ok (.aload_n 2, 1) := by decide +kernel
theorem dL_law_1232 : decode cL_law 1232 = .ok (.aload_n 0, 1) := by decide +kernel
theorem dL_law_1233 : decode cL_law 1233 = .ok (.iload 4, 2) := by decide +kernel
theorem dL_law_1235 : decode cL_law 1235 = .ok (.iconst 1, 1) := by decide +kernel
theorem dL_law_1236 : decode cL_law 1236 = .ok (.iadd, 1) := by decide +kernel
theorem dL_law_1237 : decode cL_law 1237 = .ok (.iaload, 1) := by decide +kernel
theorem dL_law_1238 : decode cL_law 1238 = .ok (.invokevirtual 148, 3) := by decide +kernel
theorem dL_law_1241 : decode cL_law 1241 = .ok (.istore 6, 2) := by decide +kernel
theorem dL_law_1243 : decode cL_law 1243 = .ok (.aload_n 2, 1) := by decide +kernel
theorem dL_law_1244 : decode cL_law 1244 = .ok (.invokevirtual 85, 3) := by decide +kernel
theorem dL_law_1247 : decode cL_law 1247 = .ok (.iload 5, 2) := by decide +kernel
theorem dL_law_1249 : decode cL_law 1249 = .ok (.if_icmp .eq 5, 3) := by decide +kernel
theorem dL_law_1252 : decode cL_law 1252 = .ok (.iconst 0, 1) := by decide +kernel
theorem dL_law_1253 : decode cL_law 1253 = .ok (.ireturn, 1) := by decide +kernel
theorem dL_law_1254 : decode cL_law 1254 = .ok (.iload 5, 2) := by decide +kernel
theorem dL_law_1256 : decode cL_law 1256 = .ok (.ifCond .ne 15, 3) := by decide +kernel
theorem dL_law_1259 : decode cL_law 1259 = .ok (.aload_n 3, 1) := by decide +kernel
theorem dL_law_1260 : decode cL_law 1260 = .ok (.iconst 0, 1) := by decide +kernel
theorem dL_law_1261 : decode cL_law 1261 = .ok (.laload, 1) := by decide +kernel
theorem dL_law_1262 : decode cL_law 1262 = .ok (.iload 6, 2) := by decide +kernel
theorem dL_law_1264 : decode cL_law 1264 = .ok (.i2l, 1) := by decide +kernel
theorem dL_law_1265 : decode cL_law 1265 = .ok (.lcmp, 1) := by decide +kernel
theorem dL_law_1266 : decode cL_law 1266 = .ok (.ifCond .eq 5, 3) := by decide +kernel
theorem dL_law_1269 : decode cL_law 1269 = .ok (.iconst 0, 1) := by decide +kernel
theorem dL_law_1270 : decode cL_law 1270 = .ok (.ireturn, 1) := by decide +kernel
theorem dL_law_1271 : decode cL_law 1271 = .ok (.goto 127, 3) := by decide +kernel
theorem dL_law_1274 : decode cL_law 1274 = .ok (.aload_n 1, 1) := by decide +kernel
theorem dL_law_1275 : decode cL_law 1275 = .ok (.aload_n 0, 1) := by decide +kernel
theorem dL_law_1276 : decode cL_law 1276 = .ok (.iload 4, 2) := by decide +kernel
theorem dL_law_1278 : decode cL_law 1278 = .ok (.iconst 1, 1) := by decide +kernel
theorem dL_law_1279 : decode cL_law 1279 = .ok (.iadd, 1) := by decide +kernel
theorem dL_law_1280 : decode cL_law 1280 = .ok (.iaload, 1) := by decide +kernel
theorem dL_law_1281 : decode cL_law 1281 = .ok (.aload_n 3, 1) := by decide +kernel
theorem dL_law_1282 : decode cL_law 1282 = .ok (.invokestatic 149, 3) := by decide +kernel
theorem dL_law_1285 : decode cL_law 1285 = .ok (.istore 5, 2) := by decide +kernel
theorem dL_law_1287 : decode cL_law 1287 = .ok (.aload_n 2, 1) := by decide +kernel
theorem dL_law_1288 : decode cL_law 1288 = .ok (.aload_n 0, 1) := by decide +kernel
theorem dL_law_1289 : decode cL_law 1289 = .ok (.iload 4, 2) := by decide +kernel
theorem dL_law_1291 : decode cL_law 1291 = .ok (.iconst 1, 1) := by decide +kernel
theorem dL_law_1292 : decode cL_law 1292 = .ok (.iadd, 1) := by decide +kernel
theorem dL_law_1293 : decode cL_law 1293 = .ok (.iaload, 1) := by decide +kernel
theorem dL_law_1294 : decode cL_law 1294 = .ok (.invokevirtual 151, 3) := by decide +kernel
theorem dL_law_1297 : decode cL_law 1297 = .ok (.istore 6, 2) := by decide +kernel
theorem dL_law_1299 : decode cL_law 1299 = .ok (.aload_n 2, 1) := by decide +kernel
theorem dL_law_1300 : decode cL_law 1300 = .ok (.invokevirtual 85, 3) := by decide +kernel
theorem dL_law_1303 : decode cL_law 1303 = .ok (.iload 5, 2) := by decide +kernel
theorem dL_law_1305 : decode cL_law 1305 = .ok (.if_icmp .eq 5, 3) := by decide +kernel
theorem dL_law_1308 : decode cL_law 1308 = .ok (.iconst 0, 1) := by decide +kernel
theorem dL_law_1309 : decode cL_law 1309 = .ok (.ireturn, 1) := by decide +kernel
theorem dL_law_1310 : decode cL_law 1310 = .ok (.iload 5, 2) := by decide +kernel
theorem dL_law_1312 : decode cL_law 1312 = .ok (.ifCond .ne 15, 3) := by decide +kernel
theorem dL_law_1315 : decode cL_law 1315 = .ok (.aload_n 3, 1) := by decide +kernel
theorem dL_law_1316 : decode cL_law 1316 = .ok (.iconst 0, 1) := by decide +kernel
theorem dL_law_1317 : decode cL_law 1317 = .ok (.laload, 1) := by decide +kernel
theorem dL_law_1318 : decode cL_law 1318 = .ok (.iload 6, 2) := by decide +kernel
theorem dL_law_1320 : decode cL_law 1320 = .ok (.i2l, 1) := by decide +kernel
theorem dL_law_1321 : decode cL_law 1321 = .ok (.lcmp, 1) := by decide +kernel
theorem dL_law_1322 : decode cL_law 1322 = .ok (.ifCond .eq 5, 3) := by decide +kernel
theorem dL_law_1325 : decode cL_law 1325 = .ok (.iconst 0, 1) := by decide +kernel
theorem dL_law_1326 : decode cL_law 1326 = .ok (.ireturn, 1) := by decide +kernel
theorem dL_law_1327 : decode cL_law 1327 = .ok (.goto 71, 3) := by decide +kernel
theorem dL_law_1330 : decode cL_law 1330 = .ok (.aload_n 1, 1) := by decide +kernel
theorem dL_law_1331 : decode cL_law 1331 = .ok (.invokevirtual 152, 3) := by decide +kernel
theorem dL_law_1334 : decode cL_law 1334 = .ok (.aload_n 2, 1) := by decide +kernel
theorem dL_law_1335 : decode cL_law 1335 = .ok (.invokevirtual 155, 3) := by decide +kernel
theorem dL_law_1338 : decode cL_law 1338 = .ok (.if_icmp .eq 60, 3) := by decide +kernel
theorem dL_law_1341 : decode cL_law 1341 = .ok (.iconst 0, 1) := by decide +kernel
theorem dL_law_1342 : decode cL_law 1342 = .ok (.ireturn, 1) := by decide +kernel
theorem dL_law_1343 : decode cL_law 1343 = .ok (.aload_n 1, 1) := by decide +kernel
theorem dL_law_1344 : decode cL_law 1344 = .ok (.invokevirtual 156, 3) := by decide +kernel
theorem dL_law_1347 : decode cL_law 1347 = .ok (.dstore 5, 2) := by decide +kernel
theorem dL_law_1349 : decode cL_law 1349 = .ok (.aload_n 2, 1) := by decide +kernel
theorem dL_law_1350 : decode cL_law 1350 = .ok (.invokevirtual 160, 3) := by decide +kernel
theorem dL_law_1353 : decode cL_law 1353 = .ok (.dstore 7, 2) := by decide +kernel
theorem dL_law_1355 : decode cL_law 1355 = .ok (.dload 5, 2) := by decide +kernel
theorem dL_law_1357 : decode cL_law 1357 = .ok (.dload 7, 2) := by decide +kernel
theorem dL_law_1359 : decode cL_law 1359 = .ok (.dcmp .l, 1) := by decide +kernel
theorem dL_law_1360 : decode cL_law 1360 = .ok (.ifCond .eq 21, 3) := by decide +kernel
theorem dL_law_1363 : decode cL_law 1363 = .ok (.dload 5, 2) := by decide +kernel
theorem dL_law_1365 : decode cL_law 1365 = .ok (.dload 5, 2) := by decide +kernel
theorem dL_law_1367 : decode cL_law 1367 = .ok (.dcmp .l, 1) := by decide +kernel
theorem dL_law_1368 : decode cL_law 1368 = .ok (.ifCond .eq 11, 3) := by decide +kernel
theorem dL_law_1371 : decode cL_law 1371 = .ok (.dload 7, 2) := by decide +kernel
theorem dL_law_1373 : decode cL_law 1373 = .ok (.dload 7, 2) := by decide +kernel
theorem dL_law_1375 : decode cL_law 1375 = .ok (.dcmp .l, 1) := by decide +kernel
theorem dL_law_1376 : decode cL_law 1376 = .ok (.ifCond .ne 5, 3) := by decide +kernel
theorem dL_law_1379 : decode cL_law 1379 = .ok (.iconst 0, 1) := by decide +kernel
theorem dL_law_1380 : decode cL_law 1380 = .ok (.ireturn, 1) := by decide +kernel
theorem dL_law_1381 : decode cL_law 1381 = .ok (.goto 17, 3) := by decide +kernel
theorem dL_law_1384 : decode cL_law 1384 = .ok (.aload_n 1, 1) := by decide +kernel
theorem dL_law_1385 : decode cL_law 1385 = .ok (.invokevirtual 161, 3) := by decide +kernel
theorem dL_law_1388 : decode cL_law 1388 = .ok (.aload_n 2, 1) := by decide +kernel
theorem dL_law_1389 : decode cL_law 1389 = .ok (.invokevirtual 165, 3) := by decide +kernel
theorem dL_law_1392 : decode cL_law 1392 = .ok (.lcmp, 1) := by decide +kernel
theorem dL_law_1393 : decode cL_law 1393 = .ok (.ifCond .eq 5, 3) := by decide +kernel
theorem dL_law_1396 : decode cL_law 1396 = .ok (.iconst 0, 1) := by decide +kernel
theorem dL_law_1397 : decode cL_law 1397 = .ok (.ireturn, 1) := by decide +kernel
theorem dL_law_1398 : decode cL_law 1398 = .ok (.iinc 4 4, 3) := by decide +kernel
theorem dL_law_1401 : decode cL_law 1401 = .ok (.goto (-1378), 3) := by decide +kernel
theorem dL_law_1404 : decode cL_law 1404 = .ok (.iconst 1, 1) := by decide +kernel
theorem dL_law_1405 : decode cL_law 1405 = .ok (.ireturn, 1) := by decide +kernel
abbrev vwCl : List vw_C := [(RX0, TX0, 10), (RX1, TX1, 3), (RX2, TX2, 10), (RX3, TX3, 6), (RX4, TX4, 5), (RX5, TX5, 16)]
