abbrev k_M : Type := MethodName × ByteArray × Nat × Option FieldType
def RX0 : String := "FitOnDay$Acts"
def TX0 : u_T := fun k => match k with
  | 0 => ("FitOnDay$Acts", "kinds", "[I", true)
  | 1 => ("FitOnDay$Acts", "known", "I", false)
  | 2 => ("FitOnDay$Acts", "traced", "[I", true)
  | 3 => ("FitOnDay$Acts", "ran", "I", false)
  | 4 => ("FitOnDay$Acts", "number", "I", false)
  | _ => ("FitOnDay$Acts", "ownKind", "I", false)
def tyX0 : Nat → FieldType := fun k => match k with
  | 0 => .array .int
  | 1 => .int
  | 2 => .array .int
  | 3 => .int
  | 4 => .int
  | _ => .int
theorem nmX0 : ∀ a, a < 6 → ∀ b, b < 6 → a ≠ b → (TX0 a).2.1 ≠ (TX0 b).2.1 := by decide +kernel
theorem tyX0_ok : ∀ k, k < 6 → parseFieldDescriptor (TX0 k).2.2.1 = some (tyX0 k) := by decide +kernel
abbrev cX0_init : ByteArray := prog_2_method_1_code
def yX0_init : MethodName := ⟨RX0, "<init>", "()V"⟩
def RX1 : String := "FitOnDay$Changes"
def TX1 : u_T := fun k => match k with
  | 0 => ("FitOnDay$Changes", "works", "LFitOnDay$Works;", true)
  | 1 => ("FitOnDay$Changes", "diary", "LFitOnDay$Diary;", true)
  | 2 => ("FitOnDay$Changes", "sorts", "[I", true)
  | 3 => ("FitOnDay$Changes", "places", "[I", true)
  | 4 => ("FitOnDay$Changes", "before", "[I", true)
  | 5 => ("FitOnDay$Changes", "after", "[I", true)
  | 6 => ("FitOnDay$Changes", "done", "I", false)
  | _ => ("FitOnDay$Changes", "undone", "I", false)
def tyX1 : Nat → FieldType := fun k => match k with
  | 0 => .object "FitOnDay$Works"
  | 1 => .object "FitOnDay$Diary"
  | 2 => .array .int
  | 3 => .array .int
  | 4 => .array .int
  | 5 => .array .int
  | 6 => .int
  | _ => .int
theorem nmX1 : ∀ a, a < 8 → ∀ b, b < 8 → a ≠ b → (TX1 a).2.1 ≠ (TX1 b).2.1 := by decide +kernel
theorem tyX1_ok : ∀ k, k < 8 → parseFieldDescriptor (TX1 k).2.2.1 = some (tyX1 k) := by decide +kernel
abbrev cX1_init : ByteArray := prog_3_method_1_code
def yX1_init : MethodName := ⟨RX1, "<init>", "(LFitOnDay$Works;LFitOnDay$Diary;)V"⟩
abbrev cX1_tell : ByteArray := prog_3_method_3_code
def yX1_tell : MethodName := ⟨RX1, "tell", "(III)I"⟩
abbrev cX1_stepBack : ByteArray := prog_3_method_4_code
def yX1_stepBack : MethodName := ⟨RX1, "stepBack", "()I"⟩
abbrev cX1_stepAhead : ByteArray := prog_3_method_5_code
def yX1_stepAhead : MethodName := ⟨RX1, "stepAhead", "()I"⟩
abbrev cX1_now : ByteArray := prog_3_method_6_code
def yX1_now : MethodName := ⟨RX1, "now", "(II)I"⟩
abbrev cX1_become : ByteArray := prog_3_method_7_code
def yX1_become : MethodName := ⟨RX1, "become", "(III)V"⟩
abbrev cX1_dropOldest : ByteArray := prog_3_method_8_code
def yX1_dropOldest : MethodName := ⟨RX1, "dropOldest", "()V"⟩
def RX2 : String := "FitOnDay$Diary"
def TX2 : u_T := fun k => match k with
  | _ => ("FitOnDay$Diary", "workOf", "[I", true)
def tyX2 : Nat → FieldType := fun k => match k with
  | _ => .array .int
theorem nmX2 : ∀ a, a < 1 → ∀ b, b < 1 → a ≠ b → (TX2 a).2.1 ≠ (TX2 b).2.1 := by decide +kernel
theorem tyX2_ok : ∀ k, k < 1 → parseFieldDescriptor (TX2 k).2.2.1 = some (tyX2 k) := by decide +kernel
abbrev cX2_init : ByteArray := prog_4_method_1_code
def yX2_init : MethodName := ⟨RX2, "<init>", "()V"⟩
abbrev cX2_at : ByteArray := prog_4_method_2_code
def yX2_at : MethodName := ⟨RX2, "at", "(I)I"⟩
abbrev cX2_set : ByteArray := prog_4_method_3_code
def yX2_set : MethodName := ⟨RX2, "set", "(II)V"⟩
abbrev cX2_working : ByteArray := prog_4_method_5_code
def yX2_working : MethodName := ⟨RX2, "working", "(II)I"⟩
def RX3 : String := "FitOnDay$Fitness"
def TX3 : u_T := fun k => match k with
  | 0 => ("FitOnDay$Fitness", "works", "LFitOnDay$Works;", true)
  | 1 => ("FitOnDay$Fitness", "team", "LFitOnDay$Team;", true)
  | 2 => ("FitOnDay$Fitness", "diary", "LFitOnDay$Diary;", true)
  | 3 => ("FitOnDay$Fitness", "races", "LFitOnDay$Races;", true)
  | 4 => ("FitOnDay$Fitness", "bestWorks", "[I", true)
  | 5 => ("FitOnDay$Fitness", "bestWorths", "[I", true)
  | _ => ("FitOnDay$Fitness", "chosen", "[I", true)
def tyX3 : Nat → FieldType := fun k => match k with
  | 0 => .object "FitOnDay$Works"
  | 1 => .object "FitOnDay$Team"
  | 2 => .object "FitOnDay$Diary"
  | 3 => .object "FitOnDay$Races"
  | 4 => .array .int
  | 5 => .array .int
  | _ => .array .int
theorem nmX3 : ∀ a, a < 7 → ∀ b, b < 7 → a ≠ b → (TX3 a).2.1 ≠ (TX3 b).2.1 := by decide +kernel
theorem tyX3_ok : ∀ k, k < 7 → parseFieldDescriptor (TX3 k).2.2.1 = some (tyX3 k) := by decide +kernel
abbrev cX3_init : ByteArray := prog_5_method_1_code
def yX3_init : MethodName := ⟨RX3, "<init>", "(LFitOnDay$Works;LFitOnDay$Team;LFitOnDay$Diary;LFitOnDay$Races;)V"⟩
abbrev cX3_brought : ByteArray := prog_5_method_2_code
def yX3_brought : MethodName := ⟨RX3, "brought", "(III)I"⟩
abbrev cX3_strengthOf : ByteArray := prog_5_method_3_code
def yX3_strengthOf : MethodName := ⟨RX3, "strengthOf", "(III)I"⟩
abbrev cX3_tirednessOf : ByteArray := prog_5_method_4_code
def yX3_tirednessOf : MethodName := ⟨RX3, "tirednessOf", "(III)I"⟩
abbrev cX3_strongBy : ByteArray := prog_5_method_5_code
def yX3_strongBy : MethodName := ⟨RX3, "strongBy", "(III)I"⟩
abbrev cX3_tiredBy : ByteArray := prog_5_method_6_code
def yX3_tiredBy : MethodName := ⟨RX3, "tiredBy", "(III)I"⟩
abbrev cX3_fitOn : ByteArray := prog_5_method_7_code
def yX3_fitOn : MethodName := ⟨RX3, "fitOn", "(II)I"⟩
abbrev cX3_leadingDay : ByteArray := prog_5_method_14_code
def yX3_leadingDay : MethodName := ⟨RX3, "leadingDay", "(II)I"⟩
def RX4 : String := "FitOnDay$Hurt"
def TX4 : u_T := fun k => match k with
  | 0 => ("FitOnDay$Hurt", "fitness", "LFitOnDay$Fitness;", true)
  | 1 => ("FitOnDay$Hurt", "works", "LFitOnDay$Works;", true)
  | 2 => ("FitOnDay$Hurt", "diary", "LFitOnDay$Diary;", true)
  | 3 => ("FitOnDay$Hurt", "races", "LFitOnDay$Races;", true)
  | 4 => ("FitOnDay$Hurt", "law", "LFitOnDay$Text;", true)
  | 5 => ("FitOnDay$Hurt", "book", "LFitOnDay$Text;", true)
  | 6 => ("FitOnDay$Hurt", "byFeel", "LFitOnDay$Text;", true)
  | 7 => ("FitOnDay$Hurt", "lostDays", "I", false)
  | 8 => ("FitOnDay$Hurt", "names", "[I", true)
  | 9 => ("FitOnDay$Hurt", "risks", "[I", true)
  | 10 => ("FitOnDay$Hurt", "wholes", "[I", true)
  | _ => ("FitOnDay$Hurt", "brings", "[I", true)
def tyX4 : Nat → FieldType := fun k => match k with
  | 0 => .object "FitOnDay$Fitness"
  | 1 => .object "FitOnDay$Works"
  | 2 => .object "FitOnDay$Diary"
  | 3 => .object "FitOnDay$Races"
  | 4 => .object "FitOnDay$Text"
  | 5 => .object "FitOnDay$Text"
  | 6 => .object "FitOnDay$Text"
  | 7 => .int
  | 8 => .array .int
  | 9 => .array .int
  | 10 => .array .int
  | _ => .array .int
theorem nmX4 : ∀ a, a < 12 → ∀ b, b < 12 → a ≠ b → (TX4 a).2.1 ≠ (TX4 b).2.1 := by decide +kernel
theorem tyX4_ok : ∀ k, k < 12 → parseFieldDescriptor (TX4 k).2.2.1 = some (tyX4 k) := by decide +kernel
abbrev cX4_init : ByteArray := prog_6_method_1_code
def yX4_init : MethodName := ⟨RX4, "<init>", "(LFitOnDay$Fitness;LFitOnDay$Works;LFitOnDay$Diary;LFitOnDay$Races;)V"⟩
def RX5 : String := "FitOnDay$Races"
def TX5 : u_T := fun k => match k with
  | 0 => ("FitOnDay$Races", "days", "[I", true)
  | 1 => ("FitOnDay$Races", "weights", "[I", true)
  | _ => ("FitOnDay$Races", "known", "I", false)
def tyX5 : Nat → FieldType := fun k => match k with
  | 0 => .array .int
  | 1 => .array .int
  | _ => .int
theorem nmX5 : ∀ a, a < 3 → ∀ b, b < 3 → a ≠ b → (TX5 a).2.1 ≠ (TX5 b).2.1 := by decide +kernel
theorem tyX5_ok : ∀ k, k < 3 → parseFieldDescriptor (TX5 k).2.2.1 = some (tyX5 k) := by decide +kernel
abbrev cX5_init : ByteArray := prog_7_method_1_code
def yX5_init : MethodName := ⟨RX5, "<init>", "()V"⟩
abbrev cX5_add : ByteArray := prog_7_method_2_code
def yX5_add : MethodName := ⟨RX5, "add", "(II)I"⟩
abbrev cX5_isTold : ByteArray := prog_7_method_4_code
def yX5_isTold : MethodName := ⟨RX5, "isTold", "(I)Z"⟩
abbrev cX5_dayOf : ByteArray := prog_7_method_5_code
def yX5_dayOf : MethodName := ⟨RX5, "dayOf", "(I)I"⟩
def RX6 : String := "FitOnDay$Reader"
def TX6 : u_T := fun k => match k with
  | 0 => ("FitOnDay$Reader", "code", "[I", true)
  | 1 => ("FitOnDay$Reader", "coded", "I", false)
  | 2 => ("FitOnDay$Reader", "waiting", "[I", true)
  | 3 => ("FitOnDay$Reader", "waits", "I", false)
  | 4 => ("FitOnDay$Reader", "open", "I", false)
  | 5 => ("FitOnDay$Reader", "digits", "I", false)
  | 6 => ("FitOnDay$Reader", "wantsPart", "Z", false)
  | _ => ("FitOnDay$Reader", "asked", "Z", false)
def tyX6 : Nat → FieldType := fun k => match k with
  | 0 => .array .int
  | 1 => .int
  | 2 => .array .int
  | 3 => .int
  | 4 => .int
  | 5 => .int
  | 6 => .boolean
  | _ => .boolean
theorem nmX6 : ∀ a, a < 8 → ∀ b, b < 8 → a ≠ b → (TX6 a).2.1 ≠ (TX6 b).2.1 := by decide +kernel
theorem tyX6_ok : ∀ k, k < 8 → parseFieldDescriptor (TX6 k).2.2.1 = some (tyX6 k) := by decide +kernel
abbrev cX6_init : ByteArray := prog_8_method_1_code
def yX6_init : MethodName := ⟨RX6, "<init>", "()V"⟩
abbrev cX6_faultOf : ByteArray := prog_8_method_2_code
def yX6_faultOf : MethodName := ⟨RX6, "faultOf", "([II)I"⟩
abbrev cX6_beginsPart : ByteArray := prog_8_method_3_code
def yX6_beginsPart : MethodName := ⟨RX6, "beginsPart", "(I)Z"⟩
abbrev cX6_goesOnBehindPart : ByteArray := prog_8_method_4_code
def yX6_goesOnBehindPart : MethodName := ⟨RX6, "goesOnBehindPart", "(I)Z"⟩
abbrev cX6_goesOnNumber : ByteArray := prog_8_method_5_code
def yX6_goesOnNumber : MethodName := ⟨RX6, "goesOnNumber", "(I)Z"⟩
abbrev cX6_closes : ByteArray := prog_8_method_6_code
def yX6_closes : MethodName := ⟨RX6, "closes", "()Z"⟩
abbrev cX6_asks : ByteArray := prog_8_method_7_code
def yX6_asks : MethodName := ⟨RX6, "asks", "()Z"⟩
abbrev cX6_endsLine : ByteArray := prog_8_method_8_code
def yX6_endsLine : MethodName := ⟨RX6, "endsLine", "()Z"⟩
abbrev cX6_emit : ByteArray := prog_8_method_9_code
def yX6_emit : MethodName := ⟨RX6, "emit", "(I)V"⟩
abbrev cX6_await : ByteArray := prog_8_method_10_code
def yX6_await : MethodName := ⟨RX6, "await", "(I)V"⟩
abbrev cX6_latestWaiting : ByteArray := prog_8_method_11_code
def yX6_latestWaiting : MethodName := ⟨RX6, "latestWaiting", "()I"⟩
abbrev cX6_emitWaiting : ByteArray := prog_8_method_12_code
def yX6_emitWaiting : MethodName := ⟨RX6, "emitWaiting", "(I)V"⟩
abbrev cX6_isDigit : ByteArray := prog_8_method_13_code
def yX6_isDigit : MethodName := ⟨RX6, "isDigit", "(I)Z"⟩
abbrev cX6_levelOf : ByteArray := prog_8_method_14_code
def yX6_levelOf : MethodName := ⟨RX6, "levelOf", "(I)I"⟩
def RX7 : String := "FitOnDay$Shelves"
def TX7 : u_T := fun k => match k with
  | 0 => ("FitOnDay$Shelves", "holds", "[I", true)
  | 1 => ("FitOnDay$Shelves", "tells", "[I", true)
  | 2 => ("FitOnDay$Shelves", "elements", "[J", true)
  | _ => ("FitOnDay$Shelves", "moved", "[J", true)
def tyX7 : Nat → FieldType := fun k => match k with
  | 0 => .array .int
  | 1 => .array .int
  | 2 => .array .long
  | _ => .array .long
theorem nmX7 : ∀ a, a < 4 → ∀ b, b < 4 → a ≠ b → (TX7 a).2.1 ≠ (TX7 b).2.1 := by decide +kernel
theorem tyX7_ok : ∀ k, k < 4 → parseFieldDescriptor (TX7 k).2.2.1 = some (tyX7 k) := by decide +kernel
abbrev cX7_init : ByteArray := prog_9_method_1_code
def yX7_init : MethodName := ⟨RX7, "<init>", "()V"⟩
def RX8 : String := "FitOnDay$Team"
def TX8 : u_T := fun k => match k with
  | 0 => ("FitOnDay$Team", "gifts", "[I", true)
  | 1 => ("FitOnDay$Team", "tiredLeft", "[I", true)
  | 2 => ("FitOnDay$Team", "strengthLeft", "[I", true)
  | _ => ("FitOnDay$Team", "known", "I", false)
def tyX8 : Nat → FieldType := fun k => match k with
  | 0 => .array .int
  | 1 => .array .int
  | 2 => .array .int
  | _ => .int
theorem nmX8 : ∀ a, a < 4 → ∀ b, b < 4 → a ≠ b → (TX8 a).2.1 ≠ (TX8 b).2.1 := by decide +kernel
theorem tyX8_ok : ∀ k, k < 4 → parseFieldDescriptor (TX8 k).2.2.1 = some (tyX8 k) := by decide +kernel
abbrev cX8_init : ByteArray := prog_10_method_1_code
def yX8_init : MethodName := ⟨RX8, "<init>", "()V"⟩
abbrev cX8_add : ByteArray := prog_10_method_2_code
def yX8_add : MethodName := ⟨RX8, "add", "(III)I"⟩
abbrev cX8_fillLeft : ByteArray := prog_10_method_3_code
def yX8_fillLeft : MethodName := ⟨RX8, "fillLeft", "([II)V"⟩
abbrev cX8_has : ByteArray := prog_10_method_4_code
def yX8_has : MethodName := ⟨RX8, "has", "(I)Z"⟩
def RX9 : String := "FitOnDay$Text"
def TX9 : u_T := fun k => match k with
  | 0 => ("FitOnDay$Text", "code", "[I", true)
  | 1 => ("FitOnDay$Text", "coded", "I", false)
  | 2 => ("FitOnDay$Text", "stack", "[I", true)
  | _ => ("FitOnDay$Text", "high", "I", false)
def tyX9 : Nat → FieldType := fun k => match k with
  | 0 => .array .int
  | 1 => .int
  | 2 => .array .int
  | _ => .int
theorem nmX9 : ∀ a, a < 4 → ∀ b, b < 4 → a ≠ b → (TX9 a).2.1 ≠ (TX9 b).2.1 := by decide +kernel
theorem tyX9_ok : ∀ k, k < 4 → parseFieldDescriptor (TX9 k).2.2.1 = some (tyX9 k) := by decide +kernel
abbrev cX9_init : ByteArray := prog_11_method_1_code
def yX9_init : MethodName := ⟨RX9, "<init>", "()V"⟩
abbrev cX9_become : ByteArray := prog_11_method_2_code
def yX9_become : MethodName := ⟨RX9, "become", "(LFitOnDay$Reader;)V"⟩
abbrev cX9_nameOf : ByteArray := prog_11_method_3_code
def yX9_nameOf : MethodName := ⟨RX9, "nameOf", "(I)I"⟩
def RX10 : String := "FitOnDay$Works"
def TX10 : u_T := fun k => match k with
  | 0 => ("FitOnDay$Works", "tires", "[I", true)
  | 1 => ("FitOnDay$Works", "strengthens", "[I", true)
  | 2 => ("FitOnDay$Works", "hours", "[I", true)
  | _ => ("FitOnDay$Works", "known", "I", false)
def tyX10 : Nat → FieldType := fun k => match k with
  | 0 => .array .int
  | 1 => .array .int
  | 2 => .array .int
  | _ => .int
theorem nmX10 : ∀ a, a < 4 → ∀ b, b < 4 → a ≠ b → (TX10 a).2.1 ≠ (TX10 b).2.1 := by decide +kernel
theorem tyX10_ok : ∀ k, k < 4 → parseFieldDescriptor (TX10 k).2.2.1 = some (tyX10 k) := by decide +kernel
abbrev cX10_init : ByteArray := prog_12_method_1_code
def yX10_init : MethodName := ⟨RX10, "<init>", "()V"⟩
abbrev cX10_add : ByteArray := prog_12_method_2_code
def yX10_add : MethodName := ⟨RX10, "add", "(III)I"⟩
abbrev cX10_has : ByteArray := prog_12_method_3_code
def yX10_has : MethodName := ⟨RX10, "has", "(I)Z"⟩
def RX11 : String := "FitOnDay"
def TX11 : u_T := fun k => match k with
  | 0 => ("FitOnDay", "works", "LFitOnDay$Works;", true)
  | 1 => ("FitOnDay", "team", "LFitOnDay$Team;", true)
  | 2 => ("FitOnDay", "diary", "LFitOnDay$Diary;", true)
  | 3 => ("FitOnDay", "races", "LFitOnDay$Races;", true)
  | 4 => ("FitOnDay", "changes", "LFitOnDay$Changes;", true)
  | 5 => ("FitOnDay", "fitness", "LFitOnDay$Fitness;", true)
  | 6 => ("FitOnDay", "hurt", "LFitOnDay$Hurt;", true)
  | 7 => ("FitOnDay", "reader", "LFitOnDay$Reader;", true)
  | 8 => ("FitOnDay", "acts", "LFitOnDay$Acts;", true)
  | 9 => ("FitOnDay", "shelves", "LFitOnDay$Shelves;", true)
  | 10 => ("FitOnDay", "tape", "[I", true)
  | 11 => ("FitOnDay", "taped", "I", false)
  | 12 => ("FitOnDay", "testDays", "[I", true)
  | 13 => ("FitOnDay", "testFound", "[I", true)
  | 14 => ("FitOnDay", "tests", "I", false)
  | _ => ("FitOnDay", "gainedElse", "[I", true)
def tyX11 : Nat → FieldType := fun k => match k with
  | 0 => .object "FitOnDay$Works"
  | 1 => .object "FitOnDay$Team"
  | 2 => .object "FitOnDay$Diary"
  | 3 => .object "FitOnDay$Races"
  | 4 => .object "FitOnDay$Changes"
  | 5 => .object "FitOnDay$Fitness"
  | 6 => .object "FitOnDay$Hurt"
  | 7 => .object "FitOnDay$Reader"
  | 8 => .object "FitOnDay$Acts"
  | 9 => .object "FitOnDay$Shelves"
  | 10 => .array .int
  | 11 => .int
  | 12 => .array .int
  | 13 => .array .int
  | 14 => .int
  | _ => .array .int
theorem nmX11 : ∀ a, a < 16 → ∀ b, b < 16 → a ≠ b → (TX11 a).2.1 ≠ (TX11 b).2.1 := by decide +kernel
theorem tyX11_ok : ∀ k, k < 16 → parseFieldDescriptor (TX11 k).2.2.1 = some (tyX11 k) := by decide +kernel
abbrev cX11_init : ByteArray := prog_1_method_1_code
def yX11_init : MethodName := ⟨RX11, "<init>", "()V"⟩
abbrev cX11_work : ByteArray := prog_1_method_2_code
def yX11_work : MethodName := ⟨RX11, "work", "(I)I"⟩
abbrev cX11_mend : ByteArray := prog_1_method_3_code
def yX11_mend : MethodName := ⟨RX11, "mend", "(III)I"⟩
abbrev cX11_runner : ByteArray := prog_1_method_4_code
def yX11_runner : MethodName := ⟨RX11, "runner", "(II)I"⟩
abbrev cX11_plan : ByteArray := prog_1_method_5_code
def yX11_plan : MethodName := ⟨RX11, "plan", "(II)I"⟩
abbrev cX11_of : ByteArray := prog_1_method_8_code
def yX11_of : MethodName := ⟨RX11, "of", "(I)I"⟩
abbrev cX11_fit : ByteArray := prog_1_method_9_code
def yX11_fit : MethodName := ⟨RX11, "fit", "(II)I"⟩
abbrev cX11_points : ByteArray := prog_1_method_10_code
def yX11_points : MethodName := ⟨RX11, "points", "(III)I"⟩
abbrev cX11_counts : ByteArray := prog_1_method_11_code
def yX11_counts : MethodName := ⟨RX11, "counts", "(II)I"⟩
abbrev cX11_led : ByteArray := prog_1_method_17_code
def yX11_led : MethodName := ⟨RX11, "led", "(I)I"⟩
abbrev cX11_feed : ByteArray := prog_1_method_19_code
def yX11_feed : MethodName := ⟨RX11, "feed", "(II)I"⟩
abbrev cX11_text : ByteArray := prog_1_method_20_code
def yX11_text : MethodName := ⟨RX11, "text", "(I)I"⟩
abbrev cX11_lost : ByteArray := prog_1_method_22_code
def yX11_lost : MethodName := ⟨RX11, "lost", "(I)I"⟩
abbrev cX11_alike : ByteArray := prog_1_method_29_code
def yX11_alike : MethodName := ⟨RX11, "alike", "(I)I"⟩
abbrev cX11_undo : ByteArray := prog_1_method_33_code
def yX11_undo : MethodName := ⟨RX11, "undo", "()I"⟩
abbrev cX11_redo : ByteArray := prog_1_method_34_code
def yX11_redo : MethodName := ⟨RX11, "redo", "()I"⟩
abbrev cX11_count : ByteArray := prog_1_method_44_code
def yX11_count : MethodName := ⟨RX11, "count", "(I)I"⟩
abbrev cX11_within : ByteArray := prog_1_method_45_code
def yX11_within : MethodName := ⟨RX11, "within", "(III)Z"⟩
abbrev cX11_isDay : ByteArray := prog_1_method_46_code
def yX11_isDay : MethodName := ⟨RX11, "isDay", "(I)Z"⟩
abbrev cX11_read : ByteArray := prog_1_method_48_code
def yX11_read : MethodName := ⟨RX11, "read", "([II)I"⟩
abbrev cX11_write : ByteArray := prog_1_method_49_code
def yX11_write : MethodName := ⟨RX11, "write", "([III)V"⟩
abbrev cX11_isRunnersDay : ByteArray := prog_1_method_50_code
def yX11_isRunnersDay : MethodName := ⟨RX11, "isRunnersDay", "(I)Z"⟩
def RX12 : String := "FitOnDayModel"
def TX12 : u_T := fun k => match k with
  | _ => ("", "", "", false)
def tyX12 : Nat → FieldType := fun k => match k with
  | _ => .int
theorem nmX12 : ∀ a, a < 0 → ∀ b, b < 0 → a ≠ b → (TX12 a).2.1 ≠ (TX12 b).2.1 := by decide +kernel
theorem tyX12_ok : ∀ k, k < 0 → parseFieldDescriptor (TX12 k).2.2.1 = some (tyX12 k) := by decide +kernel
def RJ5 : String := "java/lang/AbstractStringBuilder"
def TJ5 : u_T := fun k => match k with
  | _ => ("", "", "", false)
def tyJ5 : Nat → FieldType := fun k => match k with
  | _ => .int
theorem nmJ5 : ∀ a, a < 0 → ∀ b, b < 0 → a ≠ b → (TJ5 a).2.1 ≠ (TJ5 b).2.1 := by decide +kernel
theorem tyJ5_ok : ∀ k, k < 0 → parseFieldDescriptor (TJ5 k).2.2.1 = some (tyJ5 k) := by decide +kernel
abbrev cJ5_init_d00df : ByteArray := prog_15_method_2_code
def yJ5_init_d00df : MethodName := ⟨RJ5, "<init>", "(I)V"⟩
abbrev cJ5_length_8abf5 : ByteArray := prog_15_method_6_code
def yJ5_length_8abf5 : MethodName := ⟨RJ5, "length", "()I"⟩
abbrev cJ5_ensureCapacityInternal_d00df : ByteArray := prog_15_method_9_code
def yJ5_ensureCapacityInternal_d00df : MethodName := ⟨RJ5, "ensureCapacityInternal", "(I)V"⟩
abbrev cJ5_newCapacity_0f7a4 : ByteArray := prog_15_method_10_code
def yJ5_newCapacity_0f7a4 : MethodName := ⟨RJ5, "newCapacity", "(I)I"⟩
abbrev cJ5_inflate_da8c8 : ByteArray := prog_15_method_11_code
def yJ5_inflate_da8c8 : MethodName := ⟨RJ5, "inflate", "()V"⟩
abbrev cJ5_append_cf1ce : ByteArray := prog_15_method_22_code
def yJ5_append_cf1ce : MethodName := ⟨RJ5, "append", "(Ljava/lang/String;)Ljava/lang/AbstractStringBuilder;"⟩
abbrev cJ5_appendNull_278bc : ByteArray := prog_15_method_26_code
def yJ5_appendNull_278bc : MethodName := ⟨RJ5, "appendNull", "()Ljava/lang/AbstractStringBuilder;"⟩
abbrev cJ5_append_c97b9 : ByteArray := prog_15_method_32_code
def yJ5_append_c97b9 : MethodName := ⟨RJ5, "append", "(I)Ljava/lang/AbstractStringBuilder;"⟩
abbrev cJ5_getValue_6d5f1 : ByteArray := prog_15_method_64_code
def yJ5_getValue_6d5f1 : MethodName := ⟨RJ5, "getValue", "()[B"⟩
abbrev cJ5_isLatin1_aae02 : ByteArray := prog_15_method_68_code
def yJ5_isLatin1_aae02 : MethodName := ⟨RJ5, "isLatin1", "()Z"⟩
abbrev cJ5_inflateIfNeededFor_a7421 : ByteArray := prog_15_method_71_code
def yJ5_inflateIfNeededFor_a7421 : MethodName := ⟨RJ5, "inflateIfNeededFor", "(Ljava/lang/String;)V"⟩
abbrev cJ5_putStringAt_47b60 : ByteArray := prog_15_method_73_code
def yJ5_putStringAt_47b60 : MethodName := ⟨RJ5, "putStringAt", "(ILjava/lang/String;)V"⟩
def RJx8e188 : String := "java/lang/Cloneable"
def TJx8e188 : u_T := fun k => match k with
  | _ => ("", "", "", false)
def tyJx8e188 : Nat → FieldType := fun k => match k with
  | _ => .int
theorem nmJx8e188 : ∀ a, a < 0 → ∀ b, b < 0 → a ≠ b → (TJx8e188 a).2.1 ≠ (TJx8e188 b).2.1 := by decide +kernel
theorem tyJx8e188_ok : ∀ k, k < 0 → parseFieldDescriptor (TJx8e188 k).2.2.1 = some (tyJx8e188 k) := by decide +kernel
def RJ6 : String := "java/lang/Integer"
def TJ6 : u_T := fun k => match k with
  | _ => ("", "", "", false)
def tyJ6 : Nat → FieldType := fun k => match k with
  | _ => .int
theorem nmJ6 : ∀ a, a < 0 → ∀ b, b < 0 → a ≠ b → (TJ6 a).2.1 ≠ (TJ6 b).2.1 := by decide +kernel
theorem tyJ6_ok : ∀ k, k < 0 → parseFieldDescriptor (TJ6 k).2.2.1 = some (tyJ6 k) := by decide +kernel
abbrev cJ6_getChars_ba4f3 : ByteArray := prog_17_method_12_code
def yJ6_getChars_ba4f3 : MethodName := ⟨RJ6, "getChars", "(II[B)I"⟩
abbrev cJ6_stringSize_0f7a4 : ByteArray := prog_17_method_13_code
def yJ6_stringSize_0f7a4 : MethodName := ⟨RJ6, "stringSize", "(I)I"⟩
def RJ9 : String := "java/lang/Math"
def TJ9 : u_T := fun k => match k with
  | _ => ("", "", "", false)
def tyJ9 : Nat → FieldType := fun k => match k with
  | _ => .int
theorem nmJ9 : ∀ a, a < 0 → ∀ b, b < 0 → a ≠ b → (TJ9 a).2.1 ≠ (TJ9 b).2.1 := by decide +kernel
theorem tyJ9_ok : ∀ k, k < 0 → parseFieldDescriptor (TJ9 k).2.2.1 = some (tyJ9 k) := by decide +kernel
abbrev cJ9_max_7cf53 : ByteArray := prog_18_method_65_code
def yJ9_max_7cf53 : MethodName := ⟨RJ9, "max", "(II)I"⟩
abbrev cJ9_min_7cf53 : ByteArray := prog_18_method_69_code
def yJ9_min_7cf53 : MethodName := ⟨RJ9, "min", "(II)I"⟩
def RJ0 : String := "java/lang/String"
def TJ0 : u_T := fun k => match k with
  | 0 => ("java/lang/String", "value", "[B", true)
  | 1 => ("java/lang/String", "coder", "B", true)
  | 2 => ("java/lang/String", "hash", "I", false)
  | _ => ("java/lang/String", "hashIsZero", "Z", false)
def tyJ0 : Nat → FieldType := fun k => match k with
  | 0 => .array .byte
  | 1 => .byte
  | 2 => .int
  | _ => .boolean
theorem nmJ0 : ∀ a, a < 4 → ∀ b, b < 4 → a ≠ b → (TJ0 a).2.1 ≠ (TJ0 b).2.1 := by decide +kernel
theorem tyJ0_ok : ∀ k, k < 4 → parseFieldDescriptor (TJ0 k).2.2.1 = some (tyJ0 k) := by decide +kernel
abbrev cJ0_init_81219 : ByteArray := prog_19_method_53_code
def yJ0_init_81219 : MethodName := ⟨RJ0, "<init>", "(Ljava/lang/StringBuilder;)V"⟩
abbrev cJ0_length_8abf5 : ByteArray := prog_19_method_54_code
def yJ0_length_8abf5 : MethodName := ⟨RJ0, "length", "()I"⟩
abbrev cJ0_charAt_5068e : ByteArray := prog_19_method_56_code
def yJ0_charAt_5068e : MethodName := ⟨RJ0, "charAt", "(I)C"⟩
abbrev cJ0_getBytes_840e7 : ByteArray := prog_19_method_147_code
def yJ0_getBytes_840e7 : MethodName := ⟨RJ0, "getBytes", "([BIB)V"⟩
abbrev cJ0_init_db425 : ByteArray := prog_19_method_150_code
def yJ0_init_db425 : MethodName := ⟨RJ0, "<init>", "(Ljava/lang/AbstractStringBuilder;Ljava/lang/Void;)V"⟩
abbrev cJ0_coder_7d493 : ByteArray := prog_19_method_152_code
def yJ0_coder_7d493 : MethodName := ⟨RJ0, "coder", "()B"⟩
abbrev cJ0_isLatin1_aae02 : ByteArray := prog_19_method_154_code
def yJ0_isLatin1_aae02 : MethodName := ⟨RJ0, "isLatin1", "()Z"⟩
abbrev cJ0_checkIndex_df160 : ByteArray := prog_19_method_155_code
def yJ0_checkIndex_df160 : MethodName := ⟨RJ0, "checkIndex", "(II)V"⟩
abbrev cJ0_checkBoundsOffCount_cabcc : ByteArray := prog_19_method_157_code
def yJ0_checkBoundsOffCount_cabcc : MethodName := ⟨RJ0, "checkBoundsOffCount", "(III)I"⟩
abbrev cJ0_checkBoundsBeginEnd_23922 : ByteArray := prog_19_method_158_code
def yJ0_checkBoundsBeginEnd_23922 : MethodName := ⟨RJ0, "checkBoundsBeginEnd", "(III)V"⟩
def RJ4 : String := "java/lang/StringBuilder"
def TJ4 : u_T := fun k => match k with
  | 0 => ("java/lang/AbstractStringBuilder", "value", "[B", false)
  | 1 => ("java/lang/AbstractStringBuilder", "coder", "B", false)
  | 2 => ("java/lang/AbstractStringBuilder", "maybeLatin1", "Z", false)
  | _ => ("java/lang/AbstractStringBuilder", "count", "I", false)
def tyJ4 : Nat → FieldType := fun k => match k with
  | 0 => .array .byte
  | 1 => .byte
  | 2 => .boolean
  | _ => .int
theorem nmJ4 : ∀ a, a < 4 → ∀ b, b < 4 → a ≠ b → (TJ4 a).2.1 ≠ (TJ4 b).2.1 := by decide +kernel
theorem tyJ4_ok : ∀ k, k < 4 → parseFieldDescriptor (TJ4 k).2.2.1 = some (tyJ4 k) := by decide +kernel
abbrev cJ4_init_da8c8 : ByteArray := prog_20_method_1_code
def yJ4_init_da8c8 : MethodName := ⟨RJ4, "<init>", "()V"⟩
abbrev cJ4_append_15ec4 : ByteArray := prog_20_method_7_code
def yJ4_append_15ec4 : MethodName := ⟨RJ4, "append", "(Ljava/lang/String;)Ljava/lang/StringBuilder;"⟩
abbrev cJ4_append_bf812 : ByteArray := prog_20_method_15_code
def yJ4_append_bf812 : MethodName := ⟨RJ4, "append", "(I)Ljava/lang/StringBuilder;"⟩
abbrev cJ4_toString_0e30d : ByteArray := prog_20_method_42_code
def yJ4_toString_0e30d : MethodName := ⟨RJ4, "toString", "()Ljava/lang/String;"⟩
abbrev cJ4_length_8abf5 : ByteArray := prog_20_method_93_code
def yJ4_length_8abf5 : MethodName := ⟨RJ4, "length", "()I"⟩
def RJ1 : String := "java/lang/StringLatin1"
def TJ1 : u_T := fun k => match k with
  | _ => ("", "", "", false)
def tyJ1 : Nat → FieldType := fun k => match k with
  | _ => .int
theorem nmJ1 : ∀ a, a < 0 → ∀ b, b < 0 → a ≠ b → (TJ1 a).2.1 ≠ (TJ1 b).2.1 := by decide +kernel
theorem tyJ1_ok : ∀ k, k < 0 → parseFieldDescriptor (TJ1 k).2.2.1 = some (tyJ1 k) := by decide +kernel
abbrev cJ1_charAt_3b067 : ByteArray := prog_21_method_2_code
def yJ1_charAt_3b067 : MethodName := ⟨RJ1, "charAt", "([BI)C"⟩
abbrev cJ1_inflate_0e8fd : ByteArray := prog_21_method_50_code
def yJ1_inflate_0e8fd : MethodName := ⟨RJ1, "inflate", "([BI[BII)V"⟩
def RJ2 : String := "java/lang/StringUTF16"
def TJ2 : u_T := fun k => match k with
  | _ => ("", "", "", false)
def tyJ2 : Nat → FieldType := fun k => match k with
  | _ => .int
theorem nmJ2 : ∀ a, a < 0 → ∀ b, b < 0 → a ≠ b → (TJ2 a).2.1 ≠ (TJ2 b).2.1 := by decide +kernel
theorem tyJ2_ok : ∀ k, k < 0 → parseFieldDescriptor (TJ2 k).2.2.1 = some (tyJ2 k) := by decide +kernel
abbrev cJ2_newBytesFor_77867 : ByteArray := prog_22_method_2_code
def yJ2_newBytesFor_77867 : MethodName := ⟨RJ2, "newBytesFor", "(I)[B"⟩
abbrev cJ2_newBytesLength_0f7a4 : ByteArray := prog_22_method_3_code
def yJ2_newBytesLength_0f7a4 : MethodName := ⟨RJ2, "newBytesLength", "(I)I"⟩
abbrev cJ2_putChar_b72d1 : ByteArray := prog_22_method_4_code
def yJ2_putChar_b72d1 : MethodName := ⟨RJ2, "putChar", "([BII)V"⟩
abbrev cJ2_getChar_3b067 : ByteArray := prog_22_method_5_code
def yJ2_getChar_3b067 : MethodName := ⟨RJ2, "getChar", "([BI)C"⟩
abbrev cJ2_length_9d52b : ByteArray := prog_22_method_6_code
def yJ2_length_9d52b : MethodName := ⟨RJ2, "length", "([B)I"⟩
abbrev cJ2_coderFromArrayLen_85cad : ByteArray := prog_22_method_15_code
def yJ2_coderFromArrayLen_85cad : MethodName := ⟨RJ2, "coderFromArrayLen", "([BI)B"⟩
abbrev cJ2_compress_39247 : ByteArray := prog_22_method_17_code
def yJ2_compress_39247 : MethodName := ⟨RJ2, "compress", "([BII)[B"⟩
abbrev cJ2_compress_5af95 : ByteArray := prog_22_method_22_code
def yJ2_compress_5af95 : MethodName := ⟨RJ2, "compress", "([BI[BII)I"⟩
abbrev cJ2_getChars_46870 : ByteArray := prog_22_method_77_code
def yJ2_getChars_46870 : MethodName := ⟨RJ2, "getChars", "(III[B)I"⟩
abbrev cJ2_putCharsAt_cd4e5 : ByteArray := prog_22_method_81_code
def yJ2_putCharsAt_cd4e5 : MethodName := ⟨RJ2, "putCharsAt", "([BICCCC)I"⟩
abbrev cJ2_charAt_3b067 : ByteArray := prog_22_method_83_code
def yJ2_charAt_3b067 : MethodName := ⟨RJ2, "charAt", "([BI)C"⟩
abbrev cJ2_inflate_0e8fd : ByteArray := prog_22_method_86_code
def yJ2_inflate_0e8fd : MethodName := ⟨RJ2, "inflate", "([BI[BII)V"⟩
abbrev cJ2_getChars_ba4f3 : ByteArray := prog_22_method_89_code
def yJ2_getChars_ba4f3 : MethodName := ⟨RJ2, "getChars", "(II[B)I"⟩
abbrev cJ2_checkIndex_2214a : ByteArray := prog_22_method_91_code
def yJ2_checkIndex_2214a : MethodName := ⟨RJ2, "checkIndex", "(I[B)V"⟩
abbrev cJ2_checkBoundsBeginEnd_d044e : ByteArray := prog_22_method_93_code
def yJ2_checkBoundsBeginEnd_d044e : MethodName := ⟨RJ2, "checkBoundsBeginEnd", "(II[B)V"⟩
abbrev cJ2_checkBoundsOffCount_d044e : ByteArray := prog_22_method_94_code
def yJ2_checkBoundsOffCount_d044e : MethodName := ⟨RJ2, "checkBoundsOffCount", "(II[B)V"⟩
def RJ10 : String := "java/lang/System"
def TJ10 : u_T := fun k => match k with
  | _ => ("", "", "", false)
def tyJ10 : Nat → FieldType := fun k => match k with
  | _ => .int
theorem nmJ10 : ∀ a, a < 0 → ∀ b, b < 0 → a ≠ b → (TJ10 a).2.1 ≠ (TJ10 b).2.1 := by decide +kernel
theorem tyJ10_ok : ∀ k, k < 0 → parseFieldDescriptor (TJ10 k).2.2.1 = some (tyJ10 k) := by decide +kernel
def RJ7 : String := "java/util/Arrays"
def TJ7 : u_T := fun k => match k with
  | _ => ("", "", "", false)
def tyJ7 : Nat → FieldType := fun k => match k with
  | _ => .int
theorem nmJ7 : ∀ a, a < 0 → ∀ b, b < 0 → a ≠ b → (TJ7 a).2.1 ≠ (TJ7 b).2.1 := by decide +kernel
theorem tyJ7_ok : ∀ k, k < 0 → parseFieldDescriptor (TJ7 k).2.2.1 = some (tyJ7 k) := by decide +kernel
abbrev cJ7_copyOf_9075b : ByteArray := prog_24_method_121_code
def yJ7_copyOf_9075b : MethodName := ⟨RJ7, "copyOf", "([BI)[B"⟩
abbrev cJ7_checkLength_df160 : ByteArray := prog_24_method_131_code
def yJ7_checkLength_df160 : MethodName := ⟨RJ7, "checkLength", "(II)V"⟩
abbrev cJ7_copyOfRange_39247 : ByteArray := prog_24_method_132_code
def yJ7_copyOfRange_39247 : MethodName := ⟨RJ7, "copyOfRange", "([BII)[B"⟩
abbrev cJ7_copyOfRangeByte_39247 : ByteArray := prog_24_method_133_code
def yJ7_copyOfRangeByte_39247 : MethodName := ⟨RJ7, "copyOfRangeByte", "([BII)[B"⟩
def RJ8 : String := "jdk/internal/util/ArraysSupport"
def TJ8 : u_T := fun k => match k with
  | _ => ("", "", "", false)
def tyJ8 : Nat → FieldType := fun k => match k with
  | _ => .int
theorem nmJ8 : ∀ a, a < 0 → ∀ b, b < 0 → a ≠ b → (TJ8 a).2.1 ≠ (TJ8 b).2.1 := by decide +kernel
theorem tyJ8_ok : ∀ k, k < 0 → parseFieldDescriptor (TJ8 k).2.2.1 = some (tyJ8 k) := by decide +kernel
abbrev cJ8_newLength_cabcc : ByteArray := prog_25_method_27_code
def yJ8_newLength_cabcc : MethodName := ⟨RJ8, "newLength", "(III)I"⟩
abbrev cJ8_hugeLength_7cf53 : ByteArray := prog_25_method_28_code
def yJ8_hugeLength_7cf53 : MethodName := ⟨RJ8, "hugeLength", "(II)I"⟩
def RJ3 : String := "jdk/internal/util/Preconditions"
def TJ3 : u_T := fun k => match k with
  | _ => ("", "", "", false)
def tyJ3 : Nat → FieldType := fun k => match k with
  | _ => .int
theorem nmJ3 : ∀ a, a < 0 → ∀ b, b < 0 → a ≠ b → (TJ3 a).2.1 ≠ (TJ3 b).2.1 := by decide +kernel
theorem tyJ3_ok : ∀ k, k < 0 → parseFieldDescriptor (TJ3 k).2.2.1 = some (tyJ3 k) := by decide +kernel
abbrev cJ3_checkIndex_8e157 : ByteArray := prog_26_method_11_code
def yJ3_checkIndex_8e157 : MethodName := ⟨RJ3, "checkIndex", "(IILjava/util/function/BiFunction;)I"⟩
abbrev cJ3_checkFromToIndex_8c36e : ByteArray := prog_26_method_12_code
def yJ3_checkFromToIndex_8c36e : MethodName := ⟨RJ3, "checkFromToIndex", "(IIILjava/util/function/BiFunction;)I"⟩
abbrev cJ3_checkFromIndexSize_8c36e : ByteArray := prog_26_method_13_code
def yJ3_checkFromIndexSize_8c36e : MethodName := ⟨RJ3, "checkFromIndexSize", "(IIILjava/util/function/BiFunction;)I"⟩
def RL : String := "FitOnDayLaw"
abbrev cL_at : ByteArray := method_2_code
def yL_at : MethodName := ⟨RL, "at", "([II)I"⟩
abbrev cL_text : ByteArray := method_3_code
def yL_text : MethodName := ⟨RL, "text", "(LFitOnDay;Ljava/lang/String;)V"⟩
abbrev cL_build : ByteArray := method_4_code
def yL_build : MethodName := ⟨RL, "build", "([I)LFitOnDay;"⟩
abbrev cL_tires : ByteArray := method_5_code
def yL_tires : MethodName := ⟨RL, "tires", "([II)I"⟩
abbrev cL_strong : ByteArray := method_6_code
def yL_strong : MethodName := ⟨RL, "strong", "([II)I"⟩
abbrev cL_hours : ByteArray := method_7_code
def yL_hours : MethodName := ⟨RL, "hours", "([II)I"⟩
abbrev cL_fast : ByteArray := method_8_code
def yL_fast : MethodName := ⟨RL, "fast", "([II)I"⟩
abbrev cL_slow : ByteArray := method_9_code
def yL_slow : MethodName := ⟨RL, "slow", "([II)I"⟩
abbrev cL_gift : ByteArray := method_10_code
def yL_gift : MethodName := ⟨RL, "gift", "([II)I"⟩
abbrev cL_plan : ByteArray := method_11_code
def yL_plan : MethodName := ⟨RL, "plan", "([II)I"⟩
abbrev cL_counting : ByteArray := method_12_code
def yL_counting : MethodName := ⟨RL, "counting", "([I)I"⟩
abbrev cL_day : ByteArray := method_13_code
def yL_day : MethodName := ⟨RL, "day", "([II)I"⟩
abbrev cL_weight : ByteArray := method_14_code
def yL_weight : MethodName := ⟨RL, "weight", "([II)I"⟩
abbrev cL_lost : ByteArray := method_15_code
def yL_lost : MethodName := ⟨RL, "lost", "([I)I"⟩
abbrev cL_left : ByteArray := method_16_code
def yL_left : MethodName := ⟨RL, "left", "(II)I"⟩
abbrev cL_points : ByteArray := method_17_code
def yL_points : MethodName := ⟨RL, "points", "([IIII)I"⟩
abbrev cL_law : ByteArray := code
def yL_law : MethodName := ⟨RL, "law", "([I)Z"⟩
abbrev vwCl : List vw_C := [(RJ0, TJ0, 4), (RJ4, TJ4, 4), (RX0, TX0, 6), (RX1, TX1, 8), (RX2, TX2, 1), (RX3, TX3, 7), (RX4, TX4, 12), (RX5, TX5, 3), (RX6, TX6, 8), (RX7, TX7, 4), (RX8, TX8, 4), (RX9, TX9, 4), (RX10, TX10, 4), (RX11, TX11, 16)]
abbrev MX0_init : k_M := (yX0_init, cX0_init, 1, none)
abbrev MX1_init : k_M := (yX1_init, cX1_init, 3, none)
abbrev MX1_tell : k_M := (yX1_tell, cX1_tell, 5, (some FieldType.int))
abbrev MX1_stepBack : k_M := (yX1_stepBack, cX1_stepBack, 1, (some FieldType.int))
abbrev MX1_stepAhead : k_M := (yX1_stepAhead, cX1_stepAhead, 1, (some FieldType.int))
abbrev MX1_now : k_M := (yX1_now, cX1_now, 3, (some FieldType.int))
abbrev MX1_become : k_M := (yX1_become, cX1_become, 4, none)
abbrev MX1_dropOldest : k_M := (yX1_dropOldest, cX1_dropOldest, 2, none)
abbrev MX2_init : k_M := (yX2_init, cX2_init, 1, none)
abbrev MX2_at : k_M := (yX2_at, cX2_at, 2, (some FieldType.int))
abbrev MX2_set : k_M := (yX2_set, cX2_set, 3, none)
abbrev MX2_working : k_M := (yX2_working, cX2_working, 5, (some FieldType.int))
abbrev MX3_init : k_M := (yX3_init, cX3_init, 5, none)
abbrev MX3_brought : k_M := (yX3_brought, cX3_brought, 4, (some FieldType.int))
abbrev MX3_strengthOf : k_M := (yX3_strengthOf, cX3_strengthOf, 5, (some FieldType.int))
abbrev MX3_tirednessOf : k_M := (yX3_tirednessOf, cX3_tirednessOf, 4, (some FieldType.int))
abbrev MX3_strongBy : k_M := (yX3_strongBy, cX3_strongBy, 7, (some FieldType.int))
abbrev MX3_tiredBy : k_M := (yX3_tiredBy, cX3_tiredBy, 7, (some FieldType.int))
abbrev MX3_fitOn : k_M := (yX3_fitOn, cX3_fitOn, 3, (some FieldType.int))
abbrev MX3_leadingDay : k_M := (yX3_leadingDay, cX3_leadingDay, 7, (some FieldType.int))
abbrev MX4_init : k_M := (yX4_init, cX4_init, 5, none)
abbrev MX5_init : k_M := (yX5_init, cX5_init, 1, none)
abbrev MX5_add : k_M := (yX5_add, cX5_add, 3, (some FieldType.int))
abbrev MX5_isTold : k_M := (yX5_isTold, cX5_isTold, 3, (some FieldType.boolean))
abbrev MX5_dayOf : k_M := (yX5_dayOf, cX5_dayOf, 2, (some FieldType.int))
abbrev MX6_init : k_M := (yX6_init, cX6_init, 1, none)
abbrev MX6_faultOf : k_M := (yX6_faultOf, cX6_faultOf, 5, (some FieldType.int))
abbrev MX6_beginsPart : k_M := (yX6_beginsPart, cX6_beginsPart, 2, (some FieldType.boolean))
abbrev MX6_goesOnBehindPart : k_M := (yX6_goesOnBehindPart, cX6_goesOnBehindPart, 3, (some FieldType.boolean))
abbrev MX6_goesOnNumber : k_M := (yX6_goesOnNumber, cX6_goesOnNumber, 2, (some FieldType.boolean))
abbrev MX6_closes : k_M := (yX6_closes, cX6_closes, 1, (some FieldType.boolean))
abbrev MX6_asks : k_M := (yX6_asks, cX6_asks, 1, (some FieldType.boolean))
abbrev MX6_endsLine : k_M := (yX6_endsLine, cX6_endsLine, 1, (some FieldType.boolean))
abbrev MX6_emit : k_M := (yX6_emit, cX6_emit, 2, none)
abbrev MX6_await : k_M := (yX6_await, cX6_await, 2, none)
abbrev MX6_latestWaiting : k_M := (yX6_latestWaiting, cX6_latestWaiting, 1, (some FieldType.int))
abbrev MX6_emitWaiting : k_M := (yX6_emitWaiting, cX6_emitWaiting, 2, none)
abbrev MX6_isDigit : k_M := (yX6_isDigit, cX6_isDigit, 1, (some FieldType.boolean))
abbrev MX6_levelOf : k_M := (yX6_levelOf, cX6_levelOf, 1, (some FieldType.int))
abbrev MX7_init : k_M := (yX7_init, cX7_init, 2, none)
abbrev MX8_init : k_M := (yX8_init, cX8_init, 1, none)
abbrev MX8_add : k_M := (yX8_add, cX8_add, 4, (some FieldType.int))
abbrev MX8_fillLeft : k_M := (yX8_fillLeft, cX8_fillLeft, 5, none)
abbrev MX8_has : k_M := (yX8_has, cX8_has, 2, (some FieldType.boolean))
abbrev MX9_init : k_M := (yX9_init, cX9_init, 1, none)
abbrev MX9_become : k_M := (yX9_become, cX9_become, 3, none)
abbrev MX9_nameOf : k_M := (yX9_nameOf, cX9_nameOf, 1, (some FieldType.int))
abbrev MX10_init : k_M := (yX10_init, cX10_init, 1, none)
abbrev MX10_add : k_M := (yX10_add, cX10_add, 4, (some FieldType.int))
abbrev MX10_has : k_M := (yX10_has, cX10_has, 2, (some FieldType.boolean))
abbrev MX11_init : k_M := (yX11_init, cX11_init, 6, none)
abbrev MX11_work : k_M := (yX11_work, cX11_work, 2, (some FieldType.int))
abbrev MX11_mend : k_M := (yX11_mend, cX11_mend, 4, (some FieldType.int))
abbrev MX11_runner : k_M := (yX11_runner, cX11_runner, 3, (some FieldType.int))
abbrev MX11_plan : k_M := (yX11_plan, cX11_plan, 3, (some FieldType.int))
abbrev MX11_of : k_M := (yX11_of, cX11_of, 2, (some FieldType.int))
abbrev MX11_fit : k_M := (yX11_fit, cX11_fit, 5, (some FieldType.int))
abbrev MX11_points : k_M := (yX11_points, cX11_points, 4, (some FieldType.int))
abbrev MX11_counts : k_M := (yX11_counts, cX11_counts, 3, (some FieldType.int))
abbrev MX11_led : k_M := (yX11_led, cX11_led, 2, (some FieldType.int))
abbrev MX11_feed : k_M := (yX11_feed, cX11_feed, 4, (some FieldType.int))
abbrev MX11_text : k_M := (yX11_text, cX11_text, 3, (some FieldType.int))
abbrev MX11_lost : k_M := (yX11_lost, cX11_lost, 3, (some FieldType.int))
abbrev MX11_alike : k_M := (yX11_alike, cX11_alike, 4, (some FieldType.int))
abbrev MX11_undo : k_M := (yX11_undo, cX11_undo, 1, (some FieldType.int))
abbrev MX11_redo : k_M := (yX11_redo, cX11_redo, 1, (some FieldType.int))
abbrev MX11_count : k_M := (yX11_count, cX11_count, 2, (some FieldType.int))
abbrev MX11_within : k_M := (yX11_within, cX11_within, 3, (some FieldType.boolean))
abbrev MX11_isDay : k_M := (yX11_isDay, cX11_isDay, 1, (some FieldType.boolean))
abbrev MX11_read : k_M := (yX11_read, cX11_read, 2, (some FieldType.int))
abbrev MX11_write : k_M := (yX11_write, cX11_write, 3, none)
abbrev MX11_isRunnersDay : k_M := (yX11_isRunnersDay, cX11_isRunnersDay, 2, (some FieldType.boolean))
abbrev MJ5_init_d00df : k_M := (yJ5_init_d00df, cJ5_init_d00df, 2, none)
abbrev MJ5_length_8abf5 : k_M := (yJ5_length_8abf5, cJ5_length_8abf5, 1, (some FieldType.int))
abbrev MJ5_ensureCapacityInternal_d00df : k_M := (yJ5_ensureCapacityInternal_d00df, cJ5_ensureCapacityInternal_d00df, 3, none)
abbrev MJ5_newCapacity_0f7a4 : k_M := (yJ5_newCapacity_0f7a4, cJ5_newCapacity_0f7a4, 6, (some FieldType.int))
abbrev MJ5_inflate_da8c8 : k_M := (yJ5_inflate_da8c8, cJ5_inflate_da8c8, 2, none)
abbrev MJ5_append_cf1ce : k_M := (yJ5_append_cf1ce, cJ5_append_cf1ce, 3, (some (FieldType.object "java/lang/AbstractStringBuilder")))
abbrev MJ5_appendNull_278bc : k_M := (yJ5_appendNull_278bc, cJ5_appendNull_278bc, 3, (some (FieldType.object "java/lang/AbstractStringBuilder")))
abbrev MJ5_append_c97b9 : k_M := (yJ5_append_c97b9, cJ5_append_c97b9, 4, (some (FieldType.object "java/lang/AbstractStringBuilder")))
abbrev MJ5_getValue_6d5f1 : k_M := (yJ5_getValue_6d5f1, cJ5_getValue_6d5f1, 1, (some (FieldType.array FieldType.byte)))
abbrev MJ5_isLatin1_aae02 : k_M := (yJ5_isLatin1_aae02, cJ5_isLatin1_aae02, 1, (some FieldType.boolean))
abbrev MJ5_inflateIfNeededFor_a7421 : k_M := (yJ5_inflateIfNeededFor_a7421, cJ5_inflateIfNeededFor_a7421, 2, none)
abbrev MJ5_putStringAt_47b60 : k_M := (yJ5_putStringAt_47b60, cJ5_putStringAt_47b60, 3, none)
abbrev MJ6_getChars_ba4f3 : k_M := (yJ6_getChars_ba4f3, cJ6_getChars_ba4f3, 7, (some FieldType.int))
abbrev MJ6_stringSize_0f7a4 : k_M := (yJ6_stringSize_0f7a4, cJ6_stringSize_0f7a4, 4, (some FieldType.int))
abbrev MJ9_max_7cf53 : k_M := (yJ9_max_7cf53, cJ9_max_7cf53, 2, (some FieldType.int))
abbrev MJ9_min_7cf53 : k_M := (yJ9_min_7cf53, cJ9_min_7cf53, 2, (some FieldType.int))
abbrev MJ0_init_81219 : k_M := (yJ0_init_81219, cJ0_init_81219, 2, none)
abbrev MJ0_length_8abf5 : k_M := (yJ0_length_8abf5, cJ0_length_8abf5, 1, (some FieldType.int))
abbrev MJ0_charAt_5068e : k_M := (yJ0_charAt_5068e, cJ0_charAt_5068e, 2, (some FieldType.char))
abbrev MJ0_getBytes_840e7 : k_M := (yJ0_getBytes_840e7, cJ0_getBytes_840e7, 4, none)
abbrev MJ0_init_db425 : k_M := (yJ0_init_db425, cJ0_init_db425, 5, none)
abbrev MJ0_coder_7d493 : k_M := (yJ0_coder_7d493, cJ0_coder_7d493, 1, (some FieldType.byte))
abbrev MJ0_isLatin1_aae02 : k_M := (yJ0_isLatin1_aae02, cJ0_isLatin1_aae02, 1, (some FieldType.boolean))
abbrev MJ0_checkIndex_df160 : k_M := (yJ0_checkIndex_df160, cJ0_checkIndex_df160, 2, none)
abbrev MJ0_checkBoundsOffCount_cabcc : k_M := (yJ0_checkBoundsOffCount_cabcc, cJ0_checkBoundsOffCount_cabcc, 3, (some FieldType.int))
abbrev MJ0_checkBoundsBeginEnd_23922 : k_M := (yJ0_checkBoundsBeginEnd_23922, cJ0_checkBoundsBeginEnd_23922, 3, none)
abbrev MJ4_init_da8c8 : k_M := (yJ4_init_da8c8, cJ4_init_da8c8, 1, none)
abbrev MJ4_append_15ec4 : k_M := (yJ4_append_15ec4, cJ4_append_15ec4, 2, (some (FieldType.object "java/lang/StringBuilder")))
abbrev MJ4_append_bf812 : k_M := (yJ4_append_bf812, cJ4_append_bf812, 2, (some (FieldType.object "java/lang/StringBuilder")))
abbrev MJ4_toString_0e30d : k_M := (yJ4_toString_0e30d, cJ4_toString_0e30d, 1, (some (FieldType.object "java/lang/String")))
abbrev MJ4_length_8abf5 : k_M := (yJ4_length_8abf5, cJ4_length_8abf5, 1, (some FieldType.int))
abbrev MJ1_charAt_3b067 : k_M := (yJ1_charAt_3b067, cJ1_charAt_3b067, 2, (some FieldType.char))
abbrev MJ1_inflate_0e8fd : k_M := (yJ1_inflate_0e8fd, cJ1_inflate_0e8fd, 5, none)
abbrev MJ2_newBytesFor_77867 : k_M := (yJ2_newBytesFor_77867, cJ2_newBytesFor_77867, 1, (some (FieldType.array FieldType.byte)))
abbrev MJ2_newBytesLength_0f7a4 : k_M := (yJ2_newBytesLength_0f7a4, cJ2_newBytesLength_0f7a4, 1, (some FieldType.int))
abbrev MJ2_putChar_b72d1 : k_M := (yJ2_putChar_b72d1, cJ2_putChar_b72d1, 3, none)
abbrev MJ2_getChar_3b067 : k_M := (yJ2_getChar_3b067, cJ2_getChar_3b067, 2, (some FieldType.char))
abbrev MJ2_length_9d52b : k_M := (yJ2_length_9d52b, cJ2_length_9d52b, 1, (some FieldType.int))
abbrev MJ2_coderFromArrayLen_85cad : k_M := (yJ2_coderFromArrayLen_85cad, cJ2_coderFromArrayLen_85cad, 2, (some FieldType.byte))
abbrev MJ2_compress_39247 : k_M := (yJ2_compress_39247, cJ2_compress_39247, 6, (some (FieldType.array FieldType.byte)))
abbrev MJ2_compress_5af95 : k_M := (yJ2_compress_5af95, cJ2_compress_5af95, 7, (some FieldType.int))
abbrev MJ2_getChars_46870 : k_M := (yJ2_getChars_46870, cJ2_getChars_46870, 5, (some FieldType.int))
abbrev MJ2_putCharsAt_cd4e5 : k_M := (yJ2_putCharsAt_cd4e5, cJ2_putCharsAt_cd4e5, 7, (some FieldType.int))
abbrev MJ2_charAt_3b067 : k_M := (yJ2_charAt_3b067, cJ2_charAt_3b067, 2, (some FieldType.char))
abbrev MJ2_inflate_0e8fd : k_M := (yJ2_inflate_0e8fd, cJ2_inflate_0e8fd, 6, none)
abbrev MJ2_getChars_ba4f3 : k_M := (yJ2_getChars_ba4f3, cJ2_getChars_ba4f3, 7, (some FieldType.int))
abbrev MJ2_checkIndex_2214a : k_M := (yJ2_checkIndex_2214a, cJ2_checkIndex_2214a, 2, none)
abbrev MJ2_checkBoundsBeginEnd_d044e : k_M := (yJ2_checkBoundsBeginEnd_d044e, cJ2_checkBoundsBeginEnd_d044e, 3, none)
abbrev MJ2_checkBoundsOffCount_d044e : k_M := (yJ2_checkBoundsOffCount_d044e, cJ2_checkBoundsOffCount_d044e, 3, none)
abbrev MJ7_copyOf_9075b : k_M := (yJ7_copyOf_9075b, cJ7_copyOf_9075b, 3, (some (FieldType.array FieldType.byte)))
abbrev MJ7_checkLength_df160 : k_M := (yJ7_checkLength_df160, cJ7_checkLength_df160, 2, none)
abbrev MJ7_copyOfRange_39247 : k_M := (yJ7_copyOfRange_39247, cJ7_copyOfRange_39247, 3, (some (FieldType.array FieldType.byte)))
abbrev MJ7_copyOfRangeByte_39247 : k_M := (yJ7_copyOfRangeByte_39247, cJ7_copyOfRangeByte_39247, 5, (some (FieldType.array FieldType.byte)))
abbrev MJ8_newLength_cabcc : k_M := (yJ8_newLength_cabcc, cJ8_newLength_cabcc, 4, (some FieldType.int))
abbrev MJ8_hugeLength_7cf53 : k_M := (yJ8_hugeLength_7cf53, cJ8_hugeLength_7cf53, 3, (some FieldType.int))
abbrev MJ3_checkIndex_8e157 : k_M := (yJ3_checkIndex_8e157, cJ3_checkIndex_8e157, 3, (some FieldType.int))
abbrev MJ3_checkFromToIndex_8c36e : k_M := (yJ3_checkFromToIndex_8c36e, cJ3_checkFromToIndex_8c36e, 4, (some FieldType.int))
abbrev MJ3_checkFromIndexSize_8c36e : k_M := (yJ3_checkFromIndexSize_8c36e, cJ3_checkFromIndexSize_8c36e, 4, (some FieldType.int))
abbrev ML_at : k_M := (yL_at, cL_at, 2, (some FieldType.int))
abbrev ML_text : k_M := (yL_text, cL_text, 3, none)
abbrev ML_build : k_M := (yL_build, cL_build, 3, (some (FieldType.object "FitOnDay")))
abbrev ML_tires : k_M := (yL_tires, cL_tires, 2, (some FieldType.int))
abbrev ML_strong : k_M := (yL_strong, cL_strong, 2, (some FieldType.int))
abbrev ML_hours : k_M := (yL_hours, cL_hours, 2, (some FieldType.int))
abbrev ML_fast : k_M := (yL_fast, cL_fast, 2, (some FieldType.int))
abbrev ML_slow : k_M := (yL_slow, cL_slow, 2, (some FieldType.int))
abbrev ML_gift : k_M := (yL_gift, cL_gift, 2, (some FieldType.int))
abbrev ML_plan : k_M := (yL_plan, cL_plan, 2, (some FieldType.int))
abbrev ML_counting : k_M := (yL_counting, cL_counting, 1, (some FieldType.int))
abbrev ML_day : k_M := (yL_day, cL_day, 2, (some FieldType.int))
abbrev ML_weight : k_M := (yL_weight, cL_weight, 2, (some FieldType.int))
abbrev ML_lost : k_M := (yL_lost, cL_lost, 1, (some FieldType.int))
abbrev ML_left : k_M := (yL_left, cL_left, 4, (some FieldType.int))
abbrev ML_points : k_M := (yL_points, cL_points, 4, (some FieldType.int))
abbrev Mlaw : k_M := (x, code, 10, ret)
def k_tN : List Cond := [Jvm.Cond.methodLinkNest "FitOnDay$Works" (25 : Nat) ({ cls := "FitOnDay", name := "write", desc := "([III)V" } : Jvm.MethodName) "FitOnDay", Jvm.Cond.methodLinkNest "FitOnDay$Diary" (15 : Nat) ({ cls := "FitOnDay", name := "read", desc := "([II)I" } : Jvm.MethodName) "FitOnDay", Jvm.Cond.methodLinkNest "FitOnDay$Changes" (54 : Nat) ({ cls := "FitOnDay", name := "read", desc := "([II)I" } : Jvm.MethodName) "FitOnDay", Jvm.Cond.methodLinkNest "FitOnDay$Changes" (46 : Nat) ({ cls := "FitOnDay", name := "write", desc := "([III)V" } : Jvm.MethodName) "FitOnDay", Jvm.Cond.methodLinkNest "FitOnDay$Diary" (19 : Nat) ({ cls := "FitOnDay", name := "write", desc := "([III)V" } : Jvm.MethodName) "FitOnDay", Jvm.Cond.methodLinkNest "FitOnDay$Team" (25 : Nat) ({ cls := "FitOnDay", name := "write", desc := "([III)V" } : Jvm.MethodName) "FitOnDay", Jvm.Cond.methodLinkNest "FitOnDay$Fitness" (49 : Nat) ({ cls := "FitOnDay", name := "read", desc := "([II)I" } : Jvm.MethodName) "FitOnDay", Jvm.Cond.methodLinkNest "FitOnDay" (9 : Nat) ({ cls := "FitOnDay$Reader", name := "<init>", desc := "()V" } : Jvm.MethodName) "FitOnDay", Jvm.Cond.fieldLinkNest "FitOnDay$Text" (25 : Nat) "FitOnDay$Reader" "code" "[I" "FitOnDay", Jvm.Cond.fieldLinkNest "FitOnDay$Text" (22 : Nat) "FitOnDay$Reader" "coded" "I" "FitOnDay", Jvm.Cond.methodLinkNest "FitOnDay" (18 : Nat) ({ cls := "FitOnDay$Acts", name := "<init>", desc := "()V" } : Jvm.MethodName) "FitOnDay", Jvm.Cond.methodLinkNest "FitOnDay" (52 : Nat) ({ cls := "FitOnDay$Works", name := "<init>", desc := "()V" } : Jvm.MethodName) "FitOnDay", Jvm.Cond.methodLinkNest "FitOnDay" (55 : Nat) ({ cls := "FitOnDay$Team", name := "<init>", desc := "()V" } : Jvm.MethodName) "FitOnDay", Jvm.Cond.methodLinkNest "FitOnDay" (58 : Nat) ({ cls := "FitOnDay$Diary", name := "<init>", desc := "()V" } : Jvm.MethodName) "FitOnDay", Jvm.Cond.methodLinkNest "FitOnDay" (61 : Nat) ({ cls := "FitOnDay$Races", name := "<init>", desc := "()V" } : Jvm.MethodName) "FitOnDay", Jvm.Cond.methodLinkNest "FitOnDay$Hurt" (11 : Nat) ({ cls := "FitOnDay$Text", name := "<init>", desc := "()V" } : Jvm.MethodName) "FitOnDay", Jvm.Cond.methodLinkNest "FitOnDay$Races" (30 : Nat) ({ cls := "FitOnDay", name := "read", desc := "([II)I" } : Jvm.MethodName) "FitOnDay", Jvm.Cond.methodLinkNest "FitOnDay$Races" (22 : Nat) ({ cls := "FitOnDay", name := "write", desc := "([III)V" } : Jvm.MethodName) "FitOnDay", Jvm.Cond.methodLinkNest "FitOnDay$Reader" (38 : Nat) ({ cls := "FitOnDay", name := "read", desc := "([II)I" } : Jvm.MethodName) "FitOnDay", Jvm.Cond.methodLinkNest "FitOnDay$Reader" (88 : Nat) ({ cls := "FitOnDay", name := "write", desc := "([III)V" } : Jvm.MethodName) "FitOnDay", Jvm.Cond.methodLinkNest "FitOnDay$Text" (26 : Nat) ({ cls := "FitOnDay", name := "read", desc := "([II)I" } : Jvm.MethodName) "FitOnDay", Jvm.Cond.methodLinkNest "FitOnDay$Text" (30 : Nat) ({ cls := "FitOnDay", name := "write", desc := "([III)V" } : Jvm.MethodName) "FitOnDay"]
def lw_selJ : List Cond := [.selects RJ4 yJ5_ensureCapacityInternal_d00df yJ5_ensureCapacityInternal_d00df, .selects RJ4 yJ5_newCapacity_0f7a4 yJ5_newCapacity_0f7a4, .selects RJ4 yJ5_inflate_da8c8 yJ5_inflate_da8c8, .selects RJ4 yJ5_appendNull_278bc yJ5_appendNull_278bc, .selects RJ4 yJ5_inflateIfNeededFor_a7421 yJ5_inflateIfNeededFor_a7421, .selects RJ4 yJ5_putStringAt_47b60 yJ5_putStringAt_47b60]
