def RX0 : String := "AsLastTime$Reader"
def TX0 : u_T := fun k => match k with
  | 0 => ("AsLastTime$Reader", "tape", "[I", true)
  | 1 => ("AsLastTime$Reader", "size", "I", false)
  | 2 => ("AsLastTime$Reader", "at", "I", false)
  | 3 => ("AsLastTime$Reader", "start", "I", false)
  | 4 => ("AsLastTime$Reader", "token", "I", false)
  | 5 => ("AsLastTime$Reader", "fault", "I", false)
  | _ => ("AsLastTime$Reader", "out", "LAsLastTime$Text;", false)
def tyX0 : Nat → FieldType := fun k => match k with
  | 0 => .array .int
  | 1 => .int
  | 2 => .int
  | 3 => .int
  | 4 => .int
  | 5 => .int
  | _ => .object "AsLastTime$Text"
abbrev wsX00 : List Cond := u_ws RX0 TX0 7
theorem nmX0 : ∀ a, a < 7 → ∀ b, b < 7 → a ≠ b → (TX0 a).2.1 ≠ (TX0 b).2.1 := by decide +kernel
theorem tyX0_ok : ∀ k, k < 7 → parseFieldDescriptor (TX0 k).2.2.1 = some (tyX0 k) := by decide +kernel
abbrev cX0_init : ByteArray := prog_2_method_1_code
def yX0_init : MethodName := ⟨RX0, "<init>", "()V"⟩
abbrev cX0_append : ByteArray := prog_2_method_2_code
def yX0_append : MethodName := ⟨RX0, "append", "(I)Z"⟩
abbrev cX0_empty : ByteArray := prog_2_method_3_code
def yX0_empty : MethodName := ⟨RX0, "empty", "()V"⟩
abbrev cX0_read : ByteArray := prog_2_method_4_code
def yX0_read : MethodName := ⟨RX0, "read", "(LAsLastTime$Text;)I"⟩
abbrev cX0_refuse : ByteArray := prog_2_method_5_code
def yX0_refuse : MethodName := ⟨RX0, "refuse", "()V"⟩
abbrev cX0_demand : ByteArray := prog_2_method_6_code
def yX0_demand : MethodName := ⟨RX0, "demand", "(I)V"⟩
abbrev cX0_readOr : ByteArray := prog_2_method_7_code
def yX0_readOr : MethodName := ⟨RX0, "readOr", "(I)V"⟩
abbrev cX0_readAnd : ByteArray := prog_2_method_8_code
def yX0_readAnd : MethodName := ⟨RX0, "readAnd", "(I)V"⟩
abbrev cX0_readNot : ByteArray := prog_2_method_9_code
def yX0_readNot : MethodName := ⟨RX0, "readNot", "(I)V"⟩
abbrev cX0_readSum : ByteArray := prog_2_method_10_code
def yX0_readSum : MethodName := ⟨RX0, "readSum", "(I)V"⟩
abbrev cX0_readTerm : ByteArray := prog_2_method_11_code
def yX0_readTerm : MethodName := ⟨RX0, "readTerm", "(I)V"⟩
abbrev cX0_readOne : ByteArray := prog_2_method_12_code
def yX0_readOne : MethodName := ⟨RX0, "readOne", "(I)V"⟩
abbrev cX0_advance : ByteArray := prog_2_method_13_code
def yX0_advance : MethodName := ⟨RX0, "advance", "()V"⟩
abbrev cX0_nextWord : ByteArray := prog_2_method_14_code
def yX0_nextWord : MethodName := ⟨RX0, "nextWord", "()I"⟩
abbrev cX0_stands : ByteArray := prog_2_method_15_code
def yX0_stands : MethodName := ⟨RX0, "stands", "(Ljava/lang/String;)Z"⟩
abbrev cX0_nextNumber : ByteArray := prog_2_method_16_code
def yX0_nextNumber : MethodName := ⟨RX0, "nextNumber", "()I"⟩
abbrev cX0_isLetter : ByteArray := prog_2_method_17_code
def yX0_isLetter : MethodName := ⟨RX0, "isLetter", "(I)Z"⟩
abbrev cX0_isDigit : ByteArray := prog_2_method_18_code
def yX0_isDigit : MethodName := ⟨RX0, "isDigit", "(I)Z"⟩
abbrev cX0_signOf : ByteArray := prog_2_method_19_code
def yX0_signOf : MethodName := ⟨RX0, "signOf", "(I)I"⟩
abbrev cX0_spelling : ByteArray := prog_2_method_20_code
def yX0_spelling : MethodName := ⟨RX0, "spelling", "(I)Ljava/lang/String;"⟩
def RX1 : String := "AsLastTime$Salon"
def TX1 : u_T := fun k => match k with
  | 0 => ("AsLastTime$Salon", "texts", "[LAsLastTime$Text;", true)
  | 1 => ("AsLastTime$Salon", "row", "[[I", true)
  | 2 => ("AsLastTime$Salon", "hands", "I", false)
  | 3 => ("AsLastTime$Salon", "visits", "I", false)
  | _ => ("AsLastTime$Salon", "rule", "I", false)
def tyX1 : Nat → FieldType := fun k => match k with
  | 0 => .array (.object "AsLastTime$Text")
  | 1 => .array (.array .int)
  | 2 => .int
  | 3 => .int
  | _ => .int
abbrev wsX10 : List Cond := u_ws RX1 TX1 5
theorem nmX1 : ∀ a, a < 5 → ∀ b, b < 5 → a ≠ b → (TX1 a).2.1 ≠ (TX1 b).2.1 := by decide +kernel
theorem tyX1_ok : ∀ k, k < 5 → parseFieldDescriptor (TX1 k).2.2.1 = some (tyX1 k) := by decide +kernel
abbrev cX1_init : ByteArray := prog_3_method_1_code
def yX1_init : MethodName := ⟨RX1, "<init>", "([LAsLastTime$Text;)V"⟩
abbrev cX1_become : ByteArray := prog_3_method_2_code
def yX1_become : MethodName := ⟨RX1, "become", "(LAsLastTime$Salon;)V"⟩
abbrev cX1_howMany : ByteArray := prog_3_method_3_code
def yX1_howMany : MethodName := ⟨RX1, "howMany", "(I)I"⟩
abbrev cX1_names : ByteArray := prog_3_method_4_code
def yX1_names : MethodName := ⟨RX1, "names", "(II)Z"⟩
abbrev cX1_most : ByteArray := prog_3_method_5_code
def yX1_most : MethodName := ⟨RX1, "most", "(I)I"⟩
abbrev cX1_fits : ByteArray := prog_3_method_6_code
def yX1_fits : MethodName := ⟨RX1, "fits", "(II)Z"⟩
abbrev cX1_read : ByteArray := prog_3_method_7_code
def yX1_read : MethodName := ⟨RX1, "read", "(II)I"⟩
abbrev cX1_write : ByteArray := prog_3_method_8_code
def yX1_write : MethodName := ⟨RX1, "write", "(III)V"⟩
abbrev cX1_undergo : ByteArray := prog_3_method_10_code
def yX1_undergo : MethodName := ⟨RX1, "undergo", "(I)I"⟩
abbrev cX1_left : ByteArray := prog_3_method_11_code
def yX1_left : MethodName := ⟨RX1, "left", "(III)I"⟩
abbrev cX1_means : ByteArray := prog_3_method_12_code
def yX1_means : MethodName := ⟨RX1, "means", "(III)I"⟩
abbrev cX1_leaves : ByteArray := prog_3_method_13_code
def yX1_leaves : MethodName := ⟨RX1, "leaves", "(III)I"⟩
abbrev cX1_even : ByteArray := prog_3_method_14_code
def yX1_even : MethodName := ⟨RX1, "even", "(II)I"⟩
abbrev cX1_off : ByteArray := prog_3_method_15_code
def yX1_off : MethodName := ⟨RX1, "off", "()I"⟩
def RX2 : String := "AsLastTime$Sheet"
def TX2 : u_T := fun k => match k with
  | 0 => ("AsLastTime$Sheet", "row", "[I", true)
  | 1 => ("AsLastTime$Sheet", "sort", "I", false)
  | _ => ("AsLastTime$Sheet", "size", "I", false)
def tyX2 : Nat → FieldType := fun k => match k with
  | 0 => .array .int
  | 1 => .int
  | _ => .int
abbrev wsX20 : List Cond := u_ws RX2 TX2 3
theorem nmX2 : ∀ a, a < 3 → ∀ b, b < 3 → a ≠ b → (TX2 a).2.1 ≠ (TX2 b).2.1 := by decide +kernel
theorem tyX2_ok : ∀ k, k < 3 → parseFieldDescriptor (TX2 k).2.2.1 = some (tyX2 k) := by decide +kernel
abbrev cX2_init : ByteArray := prog_4_method_1_code
def yX2_init : MethodName := ⟨RX2, "<init>", "()V"⟩
abbrev cX2_renew : ByteArray := prog_4_method_2_code
def yX2_renew : MethodName := ⟨RX2, "renew", "(II)V"⟩
abbrev cX2_put : ByteArray := prog_4_method_3_code
def yX2_put : MethodName := ⟨RX2, "put", "(II)Z"⟩
def RX3 : String := "AsLastTime$Text"
def TX3 : u_T := fun k => match k with
  | 0 => ("AsLastTime$Text", "code", "[I", true)
  | 1 => ("AsLastTime$Text", "end", "[I", true)
  | 2 => ("AsLastTime$Text", "stack", "[I", true)
  | _ => ("AsLastTime$Text", "size", "I", false)
def tyX3 : Nat → FieldType := fun k => match k with
  | 0 => .array .int
  | 1 => .array .int
  | 2 => .array .int
  | _ => .int
abbrev wsX30 : List Cond := u_ws RX3 TX3 4
theorem nmX3 : ∀ a, a < 4 → ∀ b, b < 4 → a ≠ b → (TX3 a).2.1 ≠ (TX3 b).2.1 := by decide +kernel
theorem tyX3_ok : ∀ k, k < 4 → parseFieldDescriptor (TX3 k).2.2.1 = some (tyX3 k) := by decide +kernel
abbrev cX3_init : ByteArray := prog_5_method_1_code
def yX3_init : MethodName := ⟨RX3, "<init>", "()V"⟩
abbrev cX3_add : ByteArray := prog_5_method_2_code
def yX3_add : MethodName := ⟨RX3, "add", "(I)V"⟩
abbrev cX3_tell : ByteArray := prog_5_method_3_code
def yX3_tell : MethodName := ⟨RX3, "tell", "(IILAsLastTime$Salon;I)I"⟩
abbrev cX3_named : ByteArray := prog_5_method_4_code
def yX3_named : MethodName := ⟨RX3, "named", "(IILAsLastTime$Salon;I)I"⟩
abbrev cX3_joined : ByteArray := prog_5_method_5_code
def yX3_joined : MethodName := ⟨RX3, "joined", "(III)I"⟩
def RX4 : String := "AsLastTime$Thought"
def TX4 : u_T := fun k => match k with
  | 0 => ("AsLastTime$Thought", "now", "LAsLastTime$Salon;", true)
  | 1 => ("AsLastTime$Thought", "salon", "LAsLastTime$Salon;", true)
  | 2 => ("AsLastTime$Thought", "behind", "[[I", true)
  | 3 => ("AsLastTime$Thought", "off", "[I", true)
  | _ => ("AsLastTime$Thought", "cuts", "[I", true)
def tyX4 : Nat → FieldType := fun k => match k with
  | 0 => .object "AsLastTime$Salon"
  | 1 => .object "AsLastTime$Salon"
  | 2 => .array (.array .int)
  | 3 => .array .int
  | _ => .array .int
abbrev wsX40 : List Cond := u_ws RX4 TX4 5
theorem nmX4 : ∀ a, a < 5 → ∀ b, b < 5 → a ≠ b → (TX4 a).2.1 ≠ (TX4 b).2.1 := by decide +kernel
theorem tyX4_ok : ∀ k, k < 5 → parseFieldDescriptor (TX4 k).2.2.1 = some (tyX4 k) := by decide +kernel
abbrev cX4_init : ByteArray := prog_6_method_1_code
def yX4_init : MethodName := ⟨RX4, "<init>", "(LAsLastTime$Salon;LAsLastTime$Salon;)V"⟩
abbrev cX4_begin : ByteArray := prog_6_method_2_code
def yX4_begin : MethodName := ⟨RX4, "begin", "()V"⟩
abbrev cX4_walkAsNow : ByteArray := prog_6_method_3_code
def yX4_walkAsNow : MethodName := ⟨RX4, "walkAsNow", "()V"⟩
abbrev cX4_walk : ByteArray := prog_6_method_4_code
def yX4_walk : MethodName := ⟨RX4, "walk", "(I)V"⟩
abbrev cX4_badness : ByteArray := prog_6_method_5_code
def yX4_badness : MethodName := ⟨RX4, "badness", "()I"⟩
abbrev cX4_allCuts : ByteArray := prog_6_method_6_code
def yX4_allCuts : MethodName := ⟨RX4, "allCuts", "()I"⟩
abbrev cX4_worst : ByteArray := prog_6_method_7_code
def yX4_worst : MethodName := ⟨RX4, "worst", "()I"⟩
abbrev cX4_isNear : ByteArray := prog_6_method_8_code
def yX4_isNear : MethodName := ⟨RX4, "isNear", "(II)Z"⟩
abbrev cX4_firstOtherwise : ByteArray := prog_6_method_11_code
def yX4_firstOtherwise : MethodName := ⟨RX4, "firstOtherwise", "(LAsLastTime$Sheet;I)I"⟩
def RX5 : String := "AsLastTime"
def TX5 : u_T := fun k => match k with
  | 0 => ("AsLastTime", "texts", "[LAsLastTime$Text;", true)
  | 1 => ("AsLastTime", "textCount", "I", false)
  | 2 => ("AsLastTime", "reader", "LAsLastTime$Reader;", true)
  | 3 => ("AsLastTime", "now", "LAsLastTime$Salon;", true)
  | 4 => ("AsLastTime", "kept", "LAsLastTime$Salon;", true)
  | 5 => ("AsLastTime", "imageKept", "Z", false)
  | 6 => ("AsLastTime", "thought", "LAsLastTime$Thought;", true)
  | _ => ("AsLastTime", "sheets", "[LAsLastTime$Sheet;", true)
def tyX5 : Nat → FieldType := fun k => match k with
  | 0 => .array (.object "AsLastTime$Text")
  | 1 => .int
  | 2 => .object "AsLastTime$Reader"
  | 3 => .object "AsLastTime$Salon"
  | 4 => .object "AsLastTime$Salon"
  | 5 => .boolean
  | 6 => .object "AsLastTime$Thought"
  | _ => .array (.object "AsLastTime$Sheet")
abbrev wsX50 : List Cond := u_ws RX5 TX5 8
theorem nmX5 : ∀ a, a < 8 → ∀ b, b < 8 → a ≠ b → (TX5 a).2.1 ≠ (TX5 b).2.1 := by decide +kernel
theorem tyX5_ok : ∀ k, k < 8 → parseFieldDescriptor (TX5 k).2.2.1 = some (tyX5 k) := by decide +kernel
abbrev cX5_init : ByteArray := prog_1_method_1_code
def yX5_init : MethodName := ⟨RX5, "<init>", "()V"⟩
abbrev cX5_set : ByteArray := prog_1_method_2_code
def yX5_set : MethodName := ⟨RX5, "set", "(III)I"⟩
abbrev cX5_hand : ByteArray := prog_1_method_3_code
def yX5_hand : MethodName := ⟨RX5, "hand", "(III)I"⟩
abbrev cX5_visit : ByteArray := prog_1_method_4_code
def yX5_visit : MethodName := ⟨RX5, "visit", "(II)I"⟩
abbrev cX5_once : ByteArray := prog_1_method_9_code
def yX5_once : MethodName := ⟨RX5, "once", "(II)I"⟩
abbrev cX5_course : ByteArray := prog_1_method_11_code
def yX5_course : MethodName := ⟨RX5, "course", "(II)I"⟩
abbrev cX5_bad : ByteArray := prog_1_method_12_code
def yX5_bad : MethodName := ⟨RX5, "bad", "(I)I"⟩
abbrev cX5_drift : ByteArray := prog_1_method_13_code
def yX5_drift : MethodName := ⟨RX5, "drift", "(I)I"⟩
abbrev cX5_whom : ByteArray := prog_1_method_15_code
def yX5_whom : MethodName := ⟨RX5, "whom", "(I)I"⟩
abbrev cX5_marked : ByteArray := prog_1_method_17_code
def yX5_marked : MethodName := ⟨RX5, "marked", "()I"⟩
abbrev cX5_again : ByteArray := prog_1_method_18_code
def yX5_again : MethodName := ⟨RX5, "again", "(I)I"⟩
abbrev cX5_pictures : ByteArray := prog_1_method_19_code
def yX5_pictures : MethodName := ⟨RX5, "pictures", "(II)I"⟩
abbrev cX5_seen : ByteArray := prog_1_method_20_code
def yX5_seen : MethodName := ⟨RX5, "seen", "(IIII)I"⟩
abbrev cX5_film : ByteArray := prog_1_method_21_code
def yX5_film : MethodName := ⟨RX5, "film", "(III)I"⟩
abbrev cX5_isVisit : ByteArray := prog_1_method_32_code
def yX5_isVisit : MethodName := ⟨RX5, "isVisit", "(I)Z"⟩
abbrev cX5_isPlace : ByteArray := prog_1_method_33_code
def yX5_isPlace : MethodName := ⟨RX5, "isPlace", "(I)Z"⟩
abbrev cX5_isSheet : ByteArray := prog_1_method_34_code
def yX5_isSheet : MethodName := ⟨RX5, "isSheet", "(I)Z"⟩
abbrev cX5_isFirstOrSecond : ByteArray := prog_1_method_35_code
def yX5_isFirstOrSecond : MethodName := ⟨RX5, "isFirstOrSecond", "(I)Z"⟩
abbrev cX5_newVisit : ByteArray := prog_1_method_37_code
def yX5_newVisit : MethodName := ⟨RX5, "newVisit", "(II)I"⟩
abbrev cX5_badnessNow : ByteArray := prog_1_method_38_code
def yX5_badnessNow : MethodName := ⟨RX5, "badnessNow", "()I"⟩
abbrev cX5_pictureRefusal : ByteArray := prog_1_method_41_code
def yX5_pictureRefusal : MethodName := ⟨RX5, "pictureRefusal", "(LAsLastTime$Sheet;)I"⟩
abbrev cX5_rowSeen : ByteArray := prog_1_method_42_code
def yX5_rowSeen : MethodName := ⟨RX5, "rowSeen", "(I)I"⟩
abbrev cX5_valuesSeen : ByteArray := prog_1_method_43_code
def yX5_valuesSeen : MethodName := ⟨RX5, "valuesSeen", "(LAsLastTime$Sheet;III)I"⟩
abbrev cX5_textsSeen : ByteArray := prog_1_method_44_code
def yX5_textsSeen : MethodName := ⟨RX5, "textsSeen", "(LAsLastTime$Sheet;I)I"⟩
def RX6 : String := "AsLastTimeModel"
def TX6 : u_T := fun k => match k with
  | _ => ("", "", "", false)
def tyX6 : Nat → FieldType := fun k => match k with
  | _ => .int
abbrev wsX60 : List Cond := u_ws RX6 TX6 0
theorem nmX6 : ∀ a, a < 0 → ∀ b, b < 0 → a ≠ b → (TX6 a).2.1 ≠ (TX6 b).2.1 := by decide +kernel
theorem tyX6_ok : ∀ k, k < 0 → parseFieldDescriptor (TX6 k).2.2.1 = some (tyX6 k) := by decide +kernel
def RJ9 : String := "java/lang/Math"
def TJ9 : u_T := fun k => match k with
  | _ => ("", "", "", false)
def tyJ9 : Nat → FieldType := fun k => match k with
  | _ => .int
abbrev wsJ90 : List Cond := u_ws RJ9 TJ9 0
theorem nmJ9 : ∀ a, a < 0 → ∀ b, b < 0 → a ≠ b → (TJ9 a).2.1 ≠ (TJ9 b).2.1 := by decide +kernel
theorem tyJ9_ok : ∀ k, k < 0 → parseFieldDescriptor (TJ9 k).2.2.1 = some (tyJ9 k) := by decide +kernel
abbrev cJ9_abs_0f7a4 : ByteArray := prog_9_method_59_code
def yJ9_abs_0f7a4 : MethodName := ⟨RJ9, "abs", "(I)I"⟩
abbrev cJ9_max_7cf53 : ByteArray := prog_9_method_65_code
def yJ9_max_7cf53 : MethodName := ⟨RJ9, "max", "(II)I"⟩
abbrev cJ9_min_7cf53 : ByteArray := prog_9_method_69_code
def yJ9_min_7cf53 : MethodName := ⟨RJ9, "min", "(II)I"⟩
def RJ0 : String := "java/lang/String"
def TJ0 : u_T := fun k => match k with
  | _ => ("", "", "", false)
def tyJ0 : Nat → FieldType := fun k => match k with
  | _ => .int
abbrev wsJ00 : List Cond := u_ws RJ0 TJ0 0
theorem nmJ0 : ∀ a, a < 0 → ∀ b, b < 0 → a ≠ b → (TJ0 a).2.1 ≠ (TJ0 b).2.1 := by decide +kernel
theorem tyJ0_ok : ∀ k, k < 0 → parseFieldDescriptor (TJ0 k).2.2.1 = some (tyJ0 k) := by decide +kernel
abbrev cJ0_length_8abf5 : ByteArray := prog_10_method_54_code
def yJ0_length_8abf5 : MethodName := ⟨RJ0, "length", "()I"⟩
abbrev cJ0_charAt_5068e : ByteArray := prog_10_method_56_code
def yJ0_charAt_5068e : MethodName := ⟨RJ0, "charAt", "(I)C"⟩
abbrev cJ0_coder_7d493 : ByteArray := prog_10_method_152_code
def yJ0_coder_7d493 : MethodName := ⟨RJ0, "coder", "()B"⟩
abbrev cJ0_isLatin1_aae02 : ByteArray := prog_10_method_154_code
def yJ0_isLatin1_aae02 : MethodName := ⟨RJ0, "isLatin1", "()Z"⟩
abbrev cJ0_checkIndex_df160 : ByteArray := prog_10_method_155_code
def yJ0_checkIndex_df160 : MethodName := ⟨RJ0, "checkIndex", "(II)V"⟩
def RJ1 : String := "java/lang/StringLatin1"
def TJ1 : u_T := fun k => match k with
  | _ => ("", "", "", false)
def tyJ1 : Nat → FieldType := fun k => match k with
  | _ => .int
abbrev wsJ10 : List Cond := u_ws RJ1 TJ1 0
theorem nmJ1 : ∀ a, a < 0 → ∀ b, b < 0 → a ≠ b → (TJ1 a).2.1 ≠ (TJ1 b).2.1 := by decide +kernel
theorem tyJ1_ok : ∀ k, k < 0 → parseFieldDescriptor (TJ1 k).2.2.1 = some (tyJ1 k) := by decide +kernel
abbrev cJ1_charAt_3b067 : ByteArray := prog_11_method_2_code
def yJ1_charAt_3b067 : MethodName := ⟨RJ1, "charAt", "([BI)C"⟩
def RJ2 : String := "java/lang/StringUTF16"
def TJ2 : u_T := fun k => match k with
  | _ => ("", "", "", false)
def tyJ2 : Nat → FieldType := fun k => match k with
  | _ => .int
abbrev wsJ20 : List Cond := u_ws RJ2 TJ2 0
theorem nmJ2 : ∀ a, a < 0 → ∀ b, b < 0 → a ≠ b → (TJ2 a).2.1 ≠ (TJ2 b).2.1 := by decide +kernel
theorem tyJ2_ok : ∀ k, k < 0 → parseFieldDescriptor (TJ2 k).2.2.1 = some (tyJ2 k) := by decide +kernel
abbrev cJ2_getChar_3b067 : ByteArray := prog_12_method_5_code
def yJ2_getChar_3b067 : MethodName := ⟨RJ2, "getChar", "([BI)C"⟩
abbrev cJ2_length_9d52b : ByteArray := prog_12_method_6_code
def yJ2_length_9d52b : MethodName := ⟨RJ2, "length", "([B)I"⟩
abbrev cJ2_charAt_3b067 : ByteArray := prog_12_method_83_code
def yJ2_charAt_3b067 : MethodName := ⟨RJ2, "charAt", "([BI)C"⟩
abbrev cJ2_checkIndex_2214a : ByteArray := prog_12_method_91_code
def yJ2_checkIndex_2214a : MethodName := ⟨RJ2, "checkIndex", "(I[B)V"⟩
def RJ10 : String := "java/lang/System"
def TJ10 : u_T := fun k => match k with
  | _ => ("", "", "", false)
def tyJ10 : Nat → FieldType := fun k => match k with
  | _ => .int
abbrev wsJ100 : List Cond := u_ws RJ10 TJ10 0
theorem nmJ10 : ∀ a, a < 0 → ∀ b, b < 0 → a ≠ b → (TJ10 a).2.1 ≠ (TJ10 b).2.1 := by decide +kernel
theorem tyJ10_ok : ∀ k, k < 0 → parseFieldDescriptor (TJ10 k).2.2.1 = some (tyJ10 k) := by decide +kernel
def RJ3 : String := "jdk/internal/util/Preconditions"
def TJ3 : u_T := fun k => match k with
  | _ => ("", "", "", false)
def tyJ3 : Nat → FieldType := fun k => match k with
  | _ => .int
abbrev wsJ30 : List Cond := u_ws RJ3 TJ3 0
theorem nmJ3 : ∀ a, a < 0 → ∀ b, b < 0 → a ≠ b → (TJ3 a).2.1 ≠ (TJ3 b).2.1 := by decide +kernel
theorem tyJ3_ok : ∀ k, k < 0 → parseFieldDescriptor (TJ3 k).2.2.1 = some (tyJ3 k) := by decide +kernel
abbrev cJ3_checkIndex_8e157 : ByteArray := prog_14_method_11_code
def yJ3_checkIndex_8e157 : MethodName := ⟨RJ3, "checkIndex", "(IILjava/util/function/BiFunction;)I"⟩
def RL : String := "AsLastTimeLaw"
abbrev cL_cell : ByteArray := method_2_code
def yL_cell : MethodName := ⟨RL, "cell", "([II)I"⟩
abbrev cL_some : ByteArray := method_3_code
def yL_some : MethodName := ⟨RL, "some", "([III)I"⟩
abbrev cL_law : ByteArray := code
def yL_law : MethodName := ⟨RL, "law", "([I)Z"⟩
