/-! ===== BEGIN printed: names, fields, word lists, decode rows ===== -/
def RX0 : String := "Pocketgloss$Cards"
def TX0 : u_T := fun k => match k with
  | 0 => ("Pocketgloss$Cards", "intervals", "[[I", true)
  | _ => ("Pocketgloss$Cards", "days", "[[I", true)
def tyX0 : Nat → FieldType := fun k => match k with
  | 0 => .array (.array .int)
  | _ => .array (.array .int)
abbrev wsX00 : List Cond := u_ws RX0 TX0 2
theorem nmX0 : ∀ a, a < 2 → ∀ b, b < 2 → a ≠ b → (TX0 a).2.1 ≠ (TX0 b).2.1 := by decide +kernel
theorem tyX0_ok : ∀ k, k < 2 → parseFieldDescriptor (TX0 k).2.2.1 = some (tyX0 k) := by decide +kernel
abbrev cX0_init : ByteArray := prog_2_method_1_code
def yX0_init : MethodName := ⟨RX0, "<init>", "()V"⟩
abbrev cX0_hasRoom : ByteArray := prog_2_method_2_code
def yX0_hasRoom : MethodName := ⟨RX0, "hasRoom", "(II)Z"⟩
abbrev cX0_intervalOf : ByteArray := prog_2_method_3_code
def yX0_intervalOf : MethodName := ⟨RX0, "intervalOf", "(II)I"⟩
abbrev cX0_has : ByteArray := prog_2_method_4_code
def yX0_has : MethodName := ⟨RX0, "has", "(II)Z"⟩
abbrev cX0_isDue : ByteArray := prog_2_method_5_code
def yX0_isDue : MethodName := ⟨RX0, "isDue", "(III)Z"⟩
abbrev cX0_put : ByteArray := prog_2_method_6_code
def yX0_put : MethodName := ⟨RX0, "put", "(IIII)V"⟩
abbrev cX0_drop : ByteArray := prog_2_method_7_code
def yX0_drop : MethodName := ⟨RX0, "drop", "(II)V"⟩
abbrev cX0_countOf : ByteArray := prog_2_method_8_code
def yX0_countOf : MethodName := ⟨RX0, "countOf", "(I)I"⟩
abbrev cX0_firstOf : ByteArray := prog_2_method_9_code
def yX0_firstOf : MethodName := ⟨RX0, "firstOf", "(I)I"⟩
def RX1 : String := "Pocketgloss$Covers"
def TX1 : u_T := fun k => match k with
  | 0 => ("Pocketgloss$Covers", "least", "[[I", true)
  | _ => ("Pocketgloss$Covers", "picks", "[I", true)
def tyX1 : Nat → FieldType := fun k => match k with
  | 0 => .array (.array .int)
  | _ => .array .int
abbrev wsX10 : List Cond := u_ws RX1 TX1 2
theorem nmX1 : ∀ a, a < 2 → ∀ b, b < 2 → a ≠ b → (TX1 a).2.1 ≠ (TX1 b).2.1 := by decide +kernel
theorem tyX1_ok : ∀ k, k < 2 → parseFieldDescriptor (TX1 k).2.2.1 = some (tyX1 k) := by decide +kernel
abbrev cX1_init : ByteArray := prog_3_method_1_code
def yX1_init : MethodName := ⟨RX1, "<init>", "()V"⟩
abbrev cX1_weigh : ByteArray := prog_3_method_2_code
def yX1_weigh : MethodName := ⟨RX1, "weigh", "(LPocketgloss$Standings;II)V"⟩
abbrev cX1_leastFrom : ByteArray := prog_3_method_3_code
def yX1_leastFrom : MethodName := ⟨RX1, "leastFrom", "(IILPocketgloss$Standings;I)I"⟩
abbrev cX1_costWith : ByteArray := prog_3_method_4_code
def yX1_costWith : MethodName := ⟨RX1, "costWith", "(IIILPocketgloss$Standings;)I"⟩
abbrev cX1_leastCost : ByteArray := prog_3_method_5_code
def yX1_leastCost : MethodName := ⟨RX1, "leastCost", "()I"⟩
abbrev cX1_choose : ByteArray := prog_3_method_6_code
def yX1_choose : MethodName := ⟨RX1, "choose", "(LPocketgloss$Standings;)V"⟩
abbrev cX1_bestFrom : ByteArray := prog_3_method_7_code
def yX1_bestFrom : MethodName := ⟨RX1, "bestFrom", "(IILPocketgloss$Standings;)I"⟩
abbrev cX1_mark : ByteArray := prog_3_method_8_code
def yX1_mark : MethodName := ⟨RX1, "mark", "(II)V"⟩
abbrev cX1_pickAt : ByteArray := prog_3_method_9_code
def yX1_pickAt : MethodName := ⟨RX1, "pickAt", "(I)I"⟩
def RX2 : String := "Pocketgloss$Entry"
def TX2 : u_T := fun k => match k with
  | _ => ("", "", "", false)
def tyX2 : Nat → FieldType := fun k => match k with
  | _ => .int
abbrev wsX20 : List Cond := u_ws RX2 TX2 0
theorem nmX2 : ∀ a, a < 0 → ∀ b, b < 0 → a ≠ b → (TX2 a).2.1 ≠ (TX2 b).2.1 := by decide +kernel
theorem tyX2_ok : ∀ k, k < 0 → parseFieldDescriptor (TX2 k).2.2.1 = some (tyX2 k) := by decide +kernel
abbrev cX2_init : ByteArray := prog_4_method_1_code
def yX2_init : MethodName := ⟨RX2, "<init>", "(I)V"⟩
def RX3 : String := "Pocketgloss$Phrase"
def TX3 : u_T := fun k => match k with
  | 0 => ("Pocketgloss$Entry", "price", "I", true)
  | _ => ("Pocketgloss$Phrase", "parts", "[I", true)
def tyX3 : Nat → FieldType := fun k => match k with
  | 0 => .int
  | _ => .array .int
abbrev wsX30 : List Cond := u_ws RX3 TX3 2
theorem nmX3 : ∀ a, a < 2 → ∀ b, b < 2 → a ≠ b → (TX3 a).2.1 ≠ (TX3 b).2.1 := by decide +kernel
theorem tyX3_ok : ∀ k, k < 2 → parseFieldDescriptor (TX3 k).2.2.1 = some (tyX3 k) := by decide +kernel
abbrev cX3_init : ByteArray := prog_5_method_1_code
def yX3_init : MethodName := ⟨RX3, "<init>", "(I[I)V"⟩
abbrev cX3_find : ByteArray := prog_5_method_2_code
def yX3_find : MethodName := ⟨RX3, "find", "(ILPocketgloss$Rules;LPocketgloss$Sentence;LPocketgloss$Standings;)V"⟩
abbrev cX3_placesFrom : ByteArray := prog_5_method_3_code
def yX3_placesFrom : MethodName := ⟨RX3, "placesFrom", "(ILPocketgloss$Rules;LPocketgloss$Sentence;)I"⟩
def RX4 : String := "Pocketgloss$Rules"
def TX4 : u_T := fun k => match k with
  | 0 => ("Pocketgloss$Rules", "kinds", "[I", true)
  | 1 => ("Pocketgloss$Rules", "steps", "[I", true)
  | _ => ("Pocketgloss$Rules", "count", "I", false)
def tyX4 : Nat → FieldType := fun k => match k with
  | 0 => .array .int
  | 1 => .array .int
  | _ => .int
abbrev wsX40 : List Cond := u_ws RX4 TX4 3
theorem nmX4 : ∀ a, a < 3 → ∀ b, b < 3 → a ≠ b → (TX4 a).2.1 ≠ (TX4 b).2.1 := by decide +kernel
theorem tyX4_ok : ∀ k, k < 3 → parseFieldDescriptor (TX4 k).2.2.1 = some (tyX4 k) := by decide +kernel
abbrev cX4_init : ByteArray := prog_6_method_1_code
def yX4_init : MethodName := ⟨RX4, "<init>", "()V"⟩
abbrev cX4_isFull : ByteArray := prog_6_method_2_code
def yX4_isFull : MethodName := ⟨RX4, "isFull", "()Z"⟩
abbrev cX4_put : ByteArray := prog_6_method_3_code
def yX4_put : MethodName := ⟨RX4, "put", "(II)I"⟩
abbrev cX4_leadBack : ByteArray := prog_6_method_4_code
def yX4_leadBack : MethodName := ⟨RX4, "leadBack", "(II)Z"⟩
def RX5 : String := "Pocketgloss$Sentence"
def TX5 : u_T := fun k => match k with
  | 0 => ("Pocketgloss$Sentence", "words", "[I", true)
  | _ => ("Pocketgloss$Sentence", "size", "I", false)
def tyX5 : Nat → FieldType := fun k => match k with
  | 0 => .array .int
  | _ => .int
abbrev wsX50 : List Cond := u_ws RX5 TX5 2
theorem nmX5 : ∀ a, a < 2 → ∀ b, b < 2 → a ≠ b → (TX5 a).2.1 ≠ (TX5 b).2.1 := by decide +kernel
theorem tyX5_ok : ∀ k, k < 2 → parseFieldDescriptor (TX5 k).2.2.1 = some (tyX5 k) := by decide +kernel
abbrev cX5_init : ByteArray := prog_7_method_1_code
def yX5_init : MethodName := ⟨RX5, "<init>", "()V"⟩
abbrev cX5_isFull : ByteArray := prog_7_method_2_code
def yX5_isFull : MethodName := ⟨RX5, "isFull", "()Z"⟩
abbrev cX5_hasPlace : ByteArray := prog_7_method_3_code
def yX5_hasPlace : MethodName := ⟨RX5, "hasPlace", "(I)Z"⟩
abbrev cX5_put : ByteArray := prog_7_method_4_code
def yX5_put : MethodName := ⟨RX5, "put", "(I)I"⟩
abbrev cX5_empty : ByteArray := prog_7_method_5_code
def yX5_empty : MethodName := ⟨RX5, "empty", "()I"⟩
abbrev cX5_hasFormAt : ByteArray := prog_7_method_6_code
def yX5_hasFormAt : MethodName := ⟨RX5, "hasFormAt", "(IILPocketgloss$Rules;)Z"⟩
def RX6 : String := "Pocketgloss$Split"
def TX6 : u_T := fun k => match k with
  | 0 => ("Pocketgloss$Entry", "price", "I", true)
  | 1 => ("Pocketgloss$Split", "first", "I", true)
  | 2 => ("Pocketgloss$Split", "second", "I", true)
  | _ => ("Pocketgloss$Split", "reach", "I", true)
def tyX6 : Nat → FieldType := fun k => match k with
  | 0 => .int
  | 1 => .int
  | 2 => .int
  | _ => .int
abbrev wsX60 : List Cond := u_ws RX6 TX6 4
theorem nmX6 : ∀ a, a < 4 → ∀ b, b < 4 → a ≠ b → (TX6 a).2.1 ≠ (TX6 b).2.1 := by decide +kernel
theorem tyX6_ok : ∀ k, k < 4 → parseFieldDescriptor (TX6 k).2.2.1 = some (tyX6 k) := by decide +kernel
abbrev cX6_init : ByteArray := prog_8_method_1_code
def yX6_init : MethodName := ⟨RX6, "<init>", "(IIII)V"⟩
abbrev cX6_find : ByteArray := prog_8_method_2_code
def yX6_find : MethodName := ⟨RX6, "find", "(ILPocketgloss$Rules;LPocketgloss$Sentence;LPocketgloss$Standings;)V"⟩
abbrev cX6_findFrom : ByteArray := prog_8_method_3_code
def yX6_findFrom : MethodName := ⟨RX6, "findFrom", "(IILPocketgloss$Rules;LPocketgloss$Sentence;LPocketgloss$Standings;)V"⟩
def RX7 : String := "Pocketgloss$Standings"
def TX7 : u_T := fun k => match k with
  | 0 => ("Pocketgloss$Standings", "numbers", "[I", true)
  | 1 => ("Pocketgloss$Standings", "places", "[I", true)
  | 2 => ("Pocketgloss$Standings", "prices", "[I", true)
  | _ => ("Pocketgloss$Standings", "count", "I", false)
def tyX7 : Nat → FieldType := fun k => match k with
  | 0 => .array .int
  | 1 => .array .int
  | 2 => .array .int
  | _ => .int
abbrev wsX70 : List Cond := u_ws RX7 TX7 4
theorem nmX7 : ∀ a, a < 4 → ∀ b, b < 4 → a ≠ b → (TX7 a).2.1 ≠ (TX7 b).2.1 := by decide +kernel
theorem tyX7_ok : ∀ k, k < 4 → parseFieldDescriptor (TX7 k).2.2.1 = some (tyX7 k) := by decide +kernel
abbrev cX7_init : ByteArray := prog_9_method_1_code
def yX7_init : MethodName := ⟨RX7, "<init>", "()V"⟩
abbrev cX7_empty : ByteArray := prog_9_method_2_code
def yX7_empty : MethodName := ⟨RX7, "empty", "()V"⟩
abbrev cX7_put : ByteArray := prog_9_method_3_code
def yX7_put : MethodName := ⟨RX7, "put", "(III)V"⟩
abbrev cX7_has : ByteArray := prog_9_method_4_code
def yX7_has : MethodName := ⟨RX7, "has", "(I)Z"⟩
abbrev cX7_entryOf : ByteArray := prog_9_method_5_code
def yX7_entryOf : MethodName := ⟨RX7, "entryOf", "(I)I"⟩
abbrev cX7_placesOf : ByteArray := prog_9_method_6_code
def yX7_placesOf : MethodName := ⟨RX7, "placesOf", "(I)I"⟩
abbrev cX7_priceOf : ByteArray := prog_9_method_7_code
def yX7_priceOf : MethodName := ⟨RX7, "priceOf", "(I)I"⟩
abbrev cX7_fitsFrom : ByteArray := prog_9_method_8_code
def yX7_fitsFrom : MethodName := ⟨RX7, "fitsFrom", "(III)Z"⟩
abbrev cX7_leastOfAll : ByteArray := prog_9_method_9_code
def yX7_leastOfAll : MethodName := ⟨RX7, "leastOfAll", "(LPocketgloss$Standings;IIIII)I"⟩
def RX8 : String := "Pocketgloss"
def TX8 : u_T := fun k => match k with
  | 0 => ("Pocketgloss", "rules", "LPocketgloss$Rules;", true)
  | 1 => ("Pocketgloss", "sentence", "LPocketgloss$Sentence;", true)
  | 2 => ("Pocketgloss", "found", "LPocketgloss$Standings;", true)
  | 3 => ("Pocketgloss", "covers", "LPocketgloss$Covers;", true)
  | 4 => ("Pocketgloss", "cards", "LPocketgloss$Cards;", true)
  | 5 => ("Pocketgloss", "made", "[LPocketgloss$Entry;", true)
  | 6 => ("Pocketgloss", "draft", "[I", true)
  | 7 => ("Pocketgloss", "madeCount", "I", false)
  | 8 => ("Pocketgloss", "draftSize", "I", false)
  | 9 => ("Pocketgloss", "bare", "I", false)
  | _ => ("Pocketgloss", "day", "I", false)
def tyX8 : Nat → FieldType := fun k => match k with
  | 0 => .object "Pocketgloss$Rules"
  | 1 => .object "Pocketgloss$Sentence"
  | 2 => .object "Pocketgloss$Standings"
  | 3 => .object "Pocketgloss$Covers"
  | 4 => .object "Pocketgloss$Cards"
  | 5 => .array (.object "Pocketgloss$Entry")
  | 6 => .array .int
  | 7 => .int
  | 8 => .int
  | 9 => .int
  | _ => .int
abbrev wsX80 : List Cond := u_ws RX8 TX8 11
theorem nmX8 : ∀ a, a < 11 → ∀ b, b < 11 → a ≠ b → (TX8 a).2.1 ≠ (TX8 b).2.1 := by decide +kernel
theorem tyX8_ok : ∀ k, k < 11 → parseFieldDescriptor (TX8 k).2.2.1 = some (tyX8 k) := by decide +kernel
abbrev cX8_init : ByteArray := prog_1_method_1_code
def yX8_init : MethodName := ⟨RX8, "<init>", "()V"⟩
abbrev cX8_addRule : ByteArray := prog_1_method_2_code
def yX8_addRule : MethodName := ⟨RX8, "addRule", "(II)I"⟩
abbrev cX8_part : ByteArray := prog_1_method_5_code
def yX8_part : MethodName := ⟨RX8, "part", "(I)I"⟩
abbrev cX8_addPhrase : ByteArray := prog_1_method_6_code
def yX8_addPhrase : MethodName := ⟨RX8, "addPhrase", "(I)I"⟩
abbrev cX8_addSplit : ByteArray := prog_1_method_7_code
def yX8_addSplit : MethodName := ⟨RX8, "addSplit", "(IIII)I"⟩
abbrev cX8_takeOut : ByteArray := prog_1_method_8_code
def yX8_takeOut : MethodName := ⟨RX8, "takeOut", "(I)I"⟩
abbrev cX8_say : ByteArray := prog_1_method_10_code
def yX8_say : MethodName := ⟨RX8, "say", "(I)I"⟩
abbrev cX8_clear : ByteArray := prog_1_method_11_code
def yX8_clear : MethodName := ⟨RX8, "clear", "()I"⟩
abbrev cX8_setBare : ByteArray := prog_1_method_12_code
def yX8_setBare : MethodName := ⟨RX8, "setBare", "(I)I"⟩
abbrev cX8_cost : ByteArray := prog_1_method_14_code
def yX8_cost : MethodName := ⟨RX8, "cost", "()I"⟩
abbrev cX8_costByAll : ByteArray := prog_1_method_15_code
def yX8_costByAll : MethodName := ⟨RX8, "costByAll", "()I"⟩
abbrev cX8_glossAt : ByteArray := prog_1_method_16_code
def yX8_glossAt : MethodName := ⟨RX8, "glossAt", "(I)I"⟩
abbrev cX8_placesAt : ByteArray := prog_1_method_17_code
def yX8_placesAt : MethodName := ⟨RX8, "placesAt", "(I)I"⟩
abbrev cX8_learn : ByteArray := prog_1_method_19_code
def yX8_learn : MethodName := ⟨RX8, "learn", "(II)I"⟩
abbrev cX8_review : ByteArray := prog_1_method_20_code
def yX8_review : MethodName := ⟨RX8, "review", "(IIZ)I"⟩
abbrev cX8_knows : ByteArray := prog_1_method_21_code
def yX8_knows : MethodName := ⟨RX8, "knows", "(II)Z"⟩
abbrev cX8_due : ByteArray := prog_1_method_22_code
def yX8_due : MethodName := ⟨RX8, "due", "(I)I"⟩
abbrev cX8_nextDue : ByteArray := prog_1_method_23_code
def yX8_nextDue : MethodName := ⟨RX8, "nextDue", "(I)I"⟩
abbrev cX8_pass : ByteArray := prog_1_method_24_code
def yX8_pass : MethodName := ⟨RX8, "pass", "(I)I"⟩
abbrev cX8_needWord : ByteArray := prog_1_method_25_code
def yX8_needWord : MethodName := ⟨RX8, "needWord", "(I)V"⟩
abbrev cX8_needCost : ByteArray := prog_1_method_26_code
def yX8_needCost : MethodName := ⟨RX8, "needCost", "(I)V"⟩
abbrev cX8_needReader : ByteArray := prog_1_method_27_code
def yX8_needReader : MethodName := ⟨RX8, "needReader", "(I)V"⟩
abbrev cX8_needEntry : ByteArray := prog_1_method_28_code
def yX8_needEntry : MethodName := ⟨RX8, "needEntry", "(I)V"⟩
abbrev cX8_needRoomForEntry : ByteArray := prog_1_method_29_code
def yX8_needRoomForEntry : MethodName := ⟨RX8, "needRoomForEntry", "()V"⟩
abbrev cX8_needPlace : ByteArray := prog_1_method_30_code
def yX8_needPlace : MethodName := ⟨RX8, "needPlace", "(I)V"⟩
abbrev cX8_keep : ByteArray := prog_1_method_31_code
def yX8_keep : MethodName := ⟨RX8, "keep", "(LPocketgloss$Entry;)I"⟩
abbrev cX8_findStandings : ByteArray := prog_1_method_32_code
def yX8_findStandings : MethodName := ⟨RX8, "findStandings", "()V"⟩
abbrev cX8_chooseCover : ByteArray := prog_1_method_33_code
def yX8_chooseCover : MethodName := ⟨RX8, "chooseCover", "()V"⟩
def RX9 : String := "PocketglossModel"
def TX9 : u_T := fun k => match k with
  | _ => ("", "", "", false)
def tyX9 : Nat → FieldType := fun k => match k with
  | _ => .int
abbrev wsX90 : List Cond := u_ws RX9 TX9 0
theorem nmX9 : ∀ a, a < 0 → ∀ b, b < 0 → a ≠ b → (TX9 a).2.1 ≠ (TX9 b).2.1 := by decide +kernel
theorem tyX9_ok : ∀ k, k < 0 → parseFieldDescriptor (TX9 k).2.2.1 = some (tyX9 k) := by decide +kernel
def RJx145de : String := "java/io/Serializable"
def TJx145de : u_T := fun k => match k with
  | _ => ("", "", "", false)
def tyJx145de : Nat → FieldType := fun k => match k with
  | _ => .int
abbrev wsJx145de0 : List Cond := u_ws RJx145de TJx145de 0
theorem nmJx145de : ∀ a, a < 0 → ∀ b, b < 0 → a ≠ b → (TJx145de a).2.1 ≠ (TJx145de b).2.1 := by decide +kernel
theorem tyJx145de_ok : ∀ k, k < 0 → parseFieldDescriptor (TJx145de k).2.2.1 = some (tyJx145de k) := by decide +kernel
def RJx8e188 : String := "java/lang/Cloneable"
def TJx8e188 : u_T := fun k => match k with
  | _ => ("", "", "", false)
def tyJx8e188 : Nat → FieldType := fun k => match k with
  | _ => .int
abbrev wsJx8e1880 : List Cond := u_ws RJx8e188 TJx8e188 0
theorem nmJx8e188 : ∀ a, a < 0 → ∀ b, b < 0 → a ≠ b → (TJx8e188 a).2.1 ≠ (TJx8e188 b).2.1 := by decide +kernel
theorem tyJx8e188_ok : ∀ k, k < 0 → parseFieldDescriptor (TJx8e188 k).2.2.1 = some (tyJx8e188 k) := by decide +kernel
def RJ6 : String := "java/lang/Integer"
def TJ6 : u_T := fun k => match k with
  | _ => ("", "", "", false)
def tyJ6 : Nat → FieldType := fun k => match k with
  | _ => .int
abbrev wsJ60 : List Cond := u_ws RJ6 TJ6 0
theorem nmJ6 : ∀ a, a < 0 → ∀ b, b < 0 → a ≠ b → (TJ6 a).2.1 ≠ (TJ6 b).2.1 := by decide +kernel
theorem tyJ6_ok : ∀ k, k < 0 → parseFieldDescriptor (TJ6 k).2.2.1 = some (tyJ6 k) := by decide +kernel
abbrev cJ6_numberOfTrailingZeros_0f7a4 : ByteArray := prog_18_method_48_code
def yJ6_numberOfTrailingZeros_0f7a4 : MethodName := ⟨RJ6, "numberOfTrailingZeros", "(I)I"⟩
abbrev cJ6_bitCount_0f7a4 : ByteArray := prog_18_method_49_code
def yJ6_bitCount_0f7a4 : MethodName := ⟨RJ6, "bitCount", "(I)I"⟩
def RJ9 : String := "java/lang/Math"
def TJ9 : u_T := fun k => match k with
  | _ => ("", "", "", false)
def tyJ9 : Nat → FieldType := fun k => match k with
  | _ => .int
abbrev wsJ90 : List Cond := u_ws RJ9 TJ9 0
theorem nmJ9 : ∀ a, a < 0 → ∀ b, b < 0 → a ≠ b → (TJ9 a).2.1 ≠ (TJ9 b).2.1 := by decide +kernel
theorem tyJ9_ok : ∀ k, k < 0 → parseFieldDescriptor (TJ9 k).2.2.1 = some (tyJ9 k) := by decide +kernel
abbrev cJ9_min_7cf53 : ByteArray := prog_19_method_69_code
def yJ9_min_7cf53 : MethodName := ⟨RJ9, "min", "(II)I"⟩
def RJ0 : String := "java/lang/String"
def TJ0 : u_T := fun k => match k with
  | _ => ("", "", "", false)
def tyJ0 : Nat → FieldType := fun k => match k with
  | _ => .int
abbrev wsJ00 : List Cond := u_ws RJ0 TJ0 0
theorem nmJ0 : ∀ a, a < 0 → ∀ b, b < 0 → a ≠ b → (TJ0 a).2.1 ≠ (TJ0 b).2.1 := by decide +kernel
theorem tyJ0_ok : ∀ k, k < 0 → parseFieldDescriptor (TJ0 k).2.2.1 = some (tyJ0 k) := by decide +kernel
def RJ10 : String := "java/lang/System"
def TJ10 : u_T := fun k => match k with
  | _ => ("", "", "", false)
def tyJ10 : Nat → FieldType := fun k => match k with
  | _ => .int
abbrev wsJ100 : List Cond := u_ws RJ10 TJ10 0
theorem nmJ10 : ∀ a, a < 0 → ∀ b, b < 0 → a ≠ b → (TJ10 a).2.1 ≠ (TJ10 b).2.1 := by decide +kernel
theorem tyJ10_ok : ∀ k, k < 0 → parseFieldDescriptor (TJ10 k).2.2.1 = some (tyJ10 k) := by decide +kernel
def RJ7 : String := "java/util/Arrays"
def TJ7 : u_T := fun k => match k with
  | _ => ("", "", "", false)
def tyJ7 : Nat → FieldType := fun k => match k with
  | _ => .int
abbrev wsJ70 : List Cond := u_ws RJ7 TJ7 0
theorem nmJ7 : ∀ a, a < 0 → ∀ b, b < 0 → a ≠ b → (TJ7 a).2.1 ≠ (TJ7 b).2.1 := by decide +kernel
theorem tyJ7_ok : ∀ k, k < 0 → parseFieldDescriptor (TJ7 k).2.2.1 = some (tyJ7 k) := by decide +kernel
abbrev cJ7_fill_53178 : ByteArray := prog_24_method_103_code
def yJ7_fill_53178 : MethodName := ⟨RJ7, "fill", "([II)V"⟩
abbrev cJ7_copyOf_59c91 : ByteArray := prog_24_method_123_code
def yJ7_copyOf_59c91 : MethodName := ⟨RJ7, "copyOf", "([II)[I"⟩
def RL : String := "PocketglossLaw"
abbrev cL_cell : ByteArray := method_2_code
def yL_cell : MethodName := ⟨RL, "cell", "([II)I"⟩
abbrev cL_low : ByteArray := method_3_code
def yL_low : MethodName := ⟨RL, "low", "(II)I"⟩
abbrev cL_isCover : ByteArray := method_4_code
def yL_isCover : MethodName := ⟨RL, "isCover", "(LPocketgloss;[I[IIII)Z"⟩
abbrev cL_law : ByteArray := code
def yL_law : MethodName := ⟨RL, "law", "([I)Z"⟩
abbrev vwCl : List vw_C := [(RX0, TX0, 2), (RX1, TX1, 2), (RX3, TX3, 2), (RX4, TX4, 3), (RX5, TX5, 2), (RX6, TX6, 4), (RX7, TX7, 4), (RX8, TX8, 11)]
