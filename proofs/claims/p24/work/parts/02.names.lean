def RX0 : String := "FoldWalks$Corrector"
def TX0 : u_T := fun k => match k with
  | 0 => ("FoldWalks$Corrector", "spot", "LFoldWalks$Spot;", true)
  | 1 => ("FoldWalks$Corrector", "x", "I", false)
  | 2 => ("FoldWalks$Corrector", "y", "I", false)
  | _ => ("FoldWalks$Corrector", "rounds", "I", false)
def tyX0 : Nat → FieldType := fun k => match k with
  | 0 => .object "FoldWalks$Spot"
  | 1 => .int
  | 2 => .int
  | _ => .int
abbrev wsX00 : List Cond := u_ws RX0 TX0 4
theorem nmX0 : ∀ a, a < 4 → ∀ b, b < 4 → a ≠ b → (TX0 a).2.1 ≠ (TX0 b).2.1 := by decide +kernel
theorem tyX0_ok : ∀ k, k < 4 → parseFieldDescriptor (TX0 k).2.2.1 = some (tyX0 k) := by decide +kernel
abbrev cX0_init : ByteArray := prog_2_method_1_code
def yX0_init : MethodName := ⟨RX0, "<init>", "()V"⟩
abbrev cX0_correct : ByteArray := prog_2_method_2_code
def yX0_correct : MethodName := ⟨RX0, "correct", "(LFoldWalks$State;JJ)Z"⟩
def RX1 : String := "FoldWalks$History"
def TX1 : u_T := fun k => match k with
  | 0 => ("FoldWalks$History", "states", "[LFoldWalks$State;", true)
  | 1 => ("FoldWalks$History", "oldest", "I", false)
  | _ => ("FoldWalks$History", "size", "I", false)
def tyX1 : Nat → FieldType := fun k => match k with
  | 0 => .array (.object "FoldWalks$State")
  | 1 => .int
  | _ => .int
abbrev wsX10 : List Cond := u_ws RX1 TX1 3
theorem nmX1 : ∀ a, a < 3 → ∀ b, b < 3 → a ≠ b → (TX1 a).2.1 ≠ (TX1 b).2.1 := by decide +kernel
theorem tyX1_ok : ∀ k, k < 3 → parseFieldDescriptor (TX1 k).2.2.1 = some (tyX1 k) := by decide +kernel
abbrev cX1_init : ByteArray := prog_3_method_1_code
def yX1_init : MethodName := ⟨RX1, "<init>", "()V"⟩
abbrev cX1_keep : ByteArray := prog_3_method_2_code
def yX1_keep : MethodName := ⟨RX1, "keep", "(LFoldWalks$State;)V"⟩
abbrev cX1_restore : ByteArray := prog_3_method_3_code
def yX1_restore : MethodName := ⟨RX1, "restore", "(LFoldWalks$State;)V"⟩
abbrev cX1_latest : ByteArray := prog_3_method_4_code
def yX1_latest : MethodName := ⟨RX1, "latest", "()I"⟩
def RX2 : String := "FoldWalks$Mover"
def TX2 : u_T := fun k => match k with
  | 0 => ("FoldWalks$Mover", "corrector", "LFoldWalks$Corrector;", true)
  | _ => ("FoldWalks$Mover", "from", "LFoldWalks$Spot;", true)
def tyX2 : Nat → FieldType := fun k => match k with
  | 0 => .object "FoldWalks$Corrector"
  | _ => .object "FoldWalks$Spot"
abbrev wsX20 : List Cond := u_ws RX2 TX2 2
theorem nmX2 : ∀ a, a < 2 → ∀ b, b < 2 → a ≠ b → (TX2 a).2.1 ≠ (TX2 b).2.1 := by decide +kernel
theorem tyX2_ok : ∀ k, k < 2 → parseFieldDescriptor (TX2 k).2.2.1 = some (tyX2 k) := by decide +kernel
abbrev cX2_init : ByteArray := prog_4_method_1_code
def yX2_init : MethodName := ⟨RX2, "<init>", "()V"⟩
abbrev cX2_advance : ByteArray := prog_4_method_2_code
def yX2_advance : MethodName := ⟨RX2, "advance", "(LFoldWalks$State;LFoldWalks$Walk;)Z"⟩
abbrev cX2_arrives : ByteArray := prog_4_method_3_code
def yX2_arrives : MethodName := ⟨RX2, "arrives", "(LFoldWalks$State;LFoldWalks$Walk;J)Z"⟩
abbrev cX2_land : ByteArray := prog_4_method_4_code
def yX2_land : MethodName := ⟨RX2, "land", "(LFoldWalks$Walk;I)V"⟩
abbrev cX2_leavesCrossing : ByteArray := prog_4_method_5_code
def yX2_leavesCrossing : MethodName := ⟨RX2, "leavesCrossing", "(LFoldWalks$State;LFoldWalks$Walk;II)Z"⟩
abbrev cX2_signBeside : ByteArray := prog_4_method_6_code
def yX2_signBeside : MethodName := ⟨RX2, "signBeside", "(LFoldWalks$Walk;II)I"⟩
def RX3 : String := "FoldWalks$Reader"
def TX3 : u_T := fun k => match k with
  | 0 => ("FoldWalks$Reader", "terms", "LFoldWalks$Terms;", true)
  | 1 => ("FoldWalks$Reader", "place", "I", false)
  | 2 => ("FoldWalks$Reader", "reason", "I", false)
  | 3 => ("FoldWalks$Reader", "phase", "I", false)
  | 4 => ("FoldWalks$Reader", "sign", "I", false)
  | 5 => ("FoldWalks$Reader", "digit", "I", false)
  | 6 => ("FoldWalks$Reader", "xLetters", "I", false)
  | _ => ("FoldWalks$Reader", "yLetters", "I", false)
def tyX3 : Nat → FieldType := fun k => match k with
  | 0 => .object "FoldWalks$Terms"
  | 1 => .int
  | 2 => .int
  | 3 => .int
  | 4 => .int
  | 5 => .int
  | 6 => .int
  | _ => .int
abbrev wsX30 : List Cond := u_ws RX3 TX3 8
theorem nmX3 : ∀ a, a < 8 → ∀ b, b < 8 → a ≠ b → (TX3 a).2.1 ≠ (TX3 b).2.1 := by decide +kernel
theorem tyX3_ok : ∀ k, k < 8 → parseFieldDescriptor (TX3 k).2.2.1 = some (tyX3 k) := by decide +kernel
abbrev cX3_init : ByteArray := prog_5_method_1_code
def yX3_init : MethodName := ⟨RX3, "<init>", "()V"⟩
abbrev cX3_scan : ByteArray := prog_5_method_2_code
def yX3_scan : MethodName := ⟨RX3, "scan", "(LFoldWalks$Text;)V"⟩
abbrev cX3_take : ByteArray := prog_5_method_3_code
def yX3_take : MethodName := ⟨RX3, "take", "(I)I"⟩
abbrev cX3_takeSign : ByteArray := prog_5_method_4_code
def yX3_takeSign : MethodName := ⟨RX3, "takeSign", "(I)I"⟩
abbrev cX3_takeDigit : ByteArray := prog_5_method_5_code
def yX3_takeDigit : MethodName := ⟨RX3, "takeDigit", "(I)I"⟩
abbrev cX3_takeLetter : ByteArray := prog_5_method_6_code
def yX3_takeLetter : MethodName := ⟨RX3, "takeLetter", "(Z)I"⟩
abbrev cX3_openTerm : ByteArray := prog_5_method_7_code
def yX3_openTerm : MethodName := ⟨RX3, "openTerm", "(I)V"⟩
abbrev cX3_closeTerm : ByteArray := prog_5_method_8_code
def yX3_closeTerm : MethodName := ⟨RX3, "closeTerm", "()V"⟩
def RX4 : String := "FoldWalks$Settings"
def TX4 : u_T := fun k => match k with
  | _ => ("FoldWalks$Settings", "values", "[I", true)
def tyX4 : Nat → FieldType := fun k => match k with
  | _ => .array .int
abbrev wsX40 : List Cond := u_ws RX4 TX4 1
theorem nmX4 : ∀ a, a < 1 → ∀ b, b < 1 → a ≠ b → (TX4 a).2.1 ≠ (TX4 b).2.1 := by decide +kernel
theorem tyX4_ok : ∀ k, k < 1 → parseFieldDescriptor (TX4 k).2.2.1 = some (tyX4 k) := by decide +kernel
abbrev cX4_init : ByteArray := prog_6_method_1_code
def yX4_init : MethodName := ⟨RX4, "<init>", "()V"⟩
abbrev cX4_allows : ByteArray := prog_6_method_2_code
def yX4_allows : MethodName := ⟨RX4, "allows", "(II)Z"⟩
abbrev cX4_at : ByteArray := prog_6_method_3_code
def yX4_at : MethodName := ⟨RX4, "at", "(I)I"⟩
abbrev cX4_replace : ByteArray := prog_6_method_4_code
def yX4_replace : MethodName := ⟨RX4, "replace", "(II)I"⟩
abbrev cX4_copyFrom : ByteArray := prog_6_method_5_code
def yX4_copyFrom : MethodName := ⟨RX4, "copyFrom", "(LFoldWalks$Settings;)V"⟩
def RX5 : String := "FoldWalks$Spot"
def TX5 : u_T := fun k => match k with
  | 0 => ("FoldWalks$Spot", "f", "J", false)
  | 1 => ("FoldWalks$Spot", "gx", "J", false)
  | _ => ("FoldWalks$Spot", "gy", "J", false)
def tyX5 : Nat → FieldType := fun k => match k with
  | 0 => .long
  | 1 => .long
  | _ => .long
abbrev wsX50 : List Cond := u_ws RX5 TX5 3
theorem nmX5 : ∀ a, a < 3 → ∀ b, b < 3 → a ≠ b → (TX5 a).2.1 ≠ (TX5 b).2.1 := by decide +kernel
theorem tyX5_ok : ∀ k, k < 3 → parseFieldDescriptor (TX5 k).2.2.1 = some (tyX5 k) := by decide +kernel
abbrev cX5_init : ByteArray := prog_7_method_1_code
def yX5_init : MethodName := ⟨RX5, "<init>", "()V"⟩
abbrev cX5_look : ByteArray := prog_7_method_2_code
def yX5_look : MethodName := ⟨RX5, "look", "(LFoldWalks$Terms;JJ)V"⟩
abbrev cX5_steepness : ByteArray := prog_7_method_3_code
def yX5_steepness : MethodName := ⟨RX5, "steepness", "()J"⟩
def RX6 : String := "FoldWalks$State"
def TX6 : u_T := fun k => match k with
  | 0 => ("FoldWalks$State", "terms", "LFoldWalks$Terms;", true)
  | 1 => ("FoldWalks$State", "walks", "LFoldWalks$Walks;", true)
  | _ => ("FoldWalks$State", "settings", "LFoldWalks$Settings;", true)
def tyX6 : Nat → FieldType := fun k => match k with
  | 0 => .object "FoldWalks$Terms"
  | 1 => .object "FoldWalks$Walks"
  | _ => .object "FoldWalks$Settings"
abbrev wsX60 : List Cond := u_ws RX6 TX6 3
theorem nmX6 : ∀ a, a < 3 → ∀ b, b < 3 → a ≠ b → (TX6 a).2.1 ≠ (TX6 b).2.1 := by decide +kernel
theorem tyX6_ok : ∀ k, k < 3 → parseFieldDescriptor (TX6 k).2.2.1 = some (tyX6 k) := by decide +kernel
abbrev cX6_init : ByteArray := prog_8_method_1_code
def yX6_init : MethodName := ⟨RX6, "<init>", "()V"⟩
abbrev cX6_copyFrom : ByteArray := prog_8_method_2_code
def yX6_copyFrom : MethodName := ⟨RX6, "copyFrom", "(LFoldWalks$State;)V"⟩
def RX7 : String := "FoldWalks$Terms"
def TX7 : u_T := fun k => match k with
  | 0 => ("FoldWalks$Terms", "factors", "[I", true)
  | 1 => ("FoldWalks$Terms", "xPowers", "[I", true)
  | 2 => ("FoldWalks$Terms", "yPowers", "[I", true)
  | _ => ("FoldWalks$Terms", "size", "I", false)
def tyX7 : Nat → FieldType := fun k => match k with
  | 0 => .array .int
  | 1 => .array .int
  | 2 => .array .int
  | _ => .int
abbrev wsX70 : List Cond := u_ws RX7 TX7 4
theorem nmX7 : ∀ a, a < 4 → ∀ b, b < 4 → a ≠ b → (TX7 a).2.1 ≠ (TX7 b).2.1 := by decide +kernel
theorem tyX7_ok : ∀ k, k < 4 → parseFieldDescriptor (TX7 k).2.2.1 = some (tyX7 k) := by decide +kernel
abbrev cX7_init : ByteArray := prog_9_method_1_code
def yX7_init : MethodName := ⟨RX7, "<init>", "()V"⟩
abbrev cX7_has : ByteArray := prog_9_method_2_code
def yX7_has : MethodName := ⟨RX7, "has", "(I)Z"⟩
abbrev cX7_isFull : ByteArray := prog_9_method_3_code
def yX7_isFull : MethodName := ⟨RX7, "isFull", "()Z"⟩
abbrev cX7_add : ByteArray := prog_9_method_4_code
def yX7_add : MethodName := ⟨RX7, "add", "(III)V"⟩
abbrev cX7_remove : ByteArray := prog_9_method_5_code
def yX7_remove : MethodName := ⟨RX7, "remove", "(I)I"⟩
abbrev cX7_clear : ByteArray := prog_9_method_6_code
def yX7_clear : MethodName := ⟨RX7, "clear", "()V"⟩
abbrev cX7_scale : ByteArray := prog_9_method_8_code
def yX7_scale : MethodName := ⟨RX7, "scale", "(I)J"⟩
abbrev cX7_copyFrom : ByteArray := prog_9_method_9_code
def yX7_copyFrom : MethodName := ⟨RX7, "copyFrom", "(LFoldWalks$Terms;)V"⟩
def RX8 : String := "FoldWalks$Text"
def TX8 : u_T := fun k => match k with
  | 0 => ("FoldWalks$Text", "characters", "[I", true)
  | _ => ("FoldWalks$Text", "length", "I", false)
def tyX8 : Nat → FieldType := fun k => match k with
  | 0 => .array .int
  | _ => .int
abbrev wsX80 : List Cond := u_ws RX8 TX8 2
theorem nmX8 : ∀ a, a < 2 → ∀ b, b < 2 → a ≠ b → (TX8 a).2.1 ≠ (TX8 b).2.1 := by decide +kernel
theorem tyX8_ok : ∀ k, k < 2 → parseFieldDescriptor (TX8 k).2.2.1 = some (tyX8 k) := by decide +kernel
abbrev cX8_init : ByteArray := prog_10_method_1_code
def yX8_init : MethodName := ⟨RX8, "<init>", "()V"⟩
abbrev cX8_isFull : ByteArray := prog_10_method_2_code
def yX8_isFull : MethodName := ⟨RX8, "isFull", "()Z"⟩
abbrev cX8_append : ByteArray := prog_10_method_3_code
def yX8_append : MethodName := ⟨RX8, "append", "(I)V"⟩
def RX9 : String := "FoldWalks$Walk"
def TX9 : u_T := fun k => match k with
  | 0 => ("FoldWalks$Walk", "xs", "[I", true)
  | 1 => ("FoldWalks$Walk", "ys", "[I", true)
  | 2 => ("FoldWalks$Walk", "rounds", "[I", true)
  | 3 => ("FoldWalks$Walk", "kinds", "[I", true)
  | 4 => ("FoldWalks$Walk", "size", "I", false)
  | 5 => ("FoldWalks$Walk", "sign", "I", false)
  | 6 => ("FoldWalks$Walk", "pace", "I", false)
  | 7 => ("FoldWalks$Walk", "stuck", "Z", false)
  | 8 => ("FoldWalks$Walk", "parent", "I", false)
  | _ => ("FoldWalks$Walk", "parentPlace", "I", false)
def tyX9 : Nat → FieldType := fun k => match k with
  | 0 => .array .int
  | 1 => .array .int
  | 2 => .array .int
  | 3 => .array .int
  | 4 => .int
  | 5 => .int
  | 6 => .int
  | 7 => .boolean
  | 8 => .int
  | _ => .int
abbrev wsX90 : List Cond := u_ws RX9 TX9 10
theorem nmX9 : ∀ a, a < 10 → ∀ b, b < 10 → a ≠ b → (TX9 a).2.1 ≠ (TX9 b).2.1 := by decide +kernel
theorem tyX9_ok : ∀ k, k < 10 → parseFieldDescriptor (TX9 k).2.2.1 = some (tyX9 k) := by decide +kernel
abbrev cX9_init : ByteArray := prog_11_method_1_code
def yX9_init : MethodName := ⟨RX9, "<init>", "()V"⟩
abbrev cX9_start : ByteArray := prog_11_method_2_code
def yX9_start : MethodName := ⟨RX9, "start", "(IIII)V"⟩
abbrev cX9_addPlace : ByteArray := prog_11_method_3_code
def yX9_addPlace : MethodName := ⟨RX9, "addPlace", "(LFoldWalks$Corrector;I)V"⟩
abbrev cX9_has : ByteArray := prog_11_method_4_code
def yX9_has : MethodName := ⟨RX9, "has", "(I)Z"⟩
abbrev cX9_condition : ByteArray := prog_11_method_5_code
def yX9_condition : MethodName := ⟨RX9, "condition", "()I"⟩
abbrev cX9_lastX : ByteArray := prog_11_method_6_code
def yX9_lastX : MethodName := ⟨RX9, "lastX", "()I"⟩
abbrev cX9_lastY : ByteArray := prog_11_method_7_code
def yX9_lastY : MethodName := ⟨RX9, "lastY", "()I"⟩
abbrev cX9_changeOfX : ByteArray := prog_11_method_8_code
def yX9_changeOfX : MethodName := ⟨RX9, "changeOfX", "(I)I"⟩
abbrev cX9_changeOfY : ByteArray := prog_11_method_9_code
def yX9_changeOfY : MethodName := ⟨RX9, "changeOfY", "(I)I"⟩
abbrev cX9_placesOfKind : ByteArray := prog_11_method_10_code
def yX9_placesOfKind : MethodName := ⟨RX9, "placesOfKind", "(I)I"⟩
abbrev cX9_nearestTo : ByteArray := prog_11_method_12_code
def yX9_nearestTo : MethodName := ⟨RX9, "nearestTo", "(JJ)I"⟩
abbrev cX9_squaresTo : ByteArray := prog_11_method_13_code
def yX9_squaresTo : MethodName := ⟨RX9, "squaresTo", "(IJJ)J"⟩
abbrev cX9_copyFrom : ByteArray := prog_11_method_14_code
def yX9_copyFrom : MethodName := ⟨RX9, "copyFrom", "(LFoldWalks$Walk;)V"⟩
def RX10 : String := "FoldWalks$Walks"
def TX10 : u_T := fun k => match k with
  | 0 => ("FoldWalks$Walks", "walks", "[LFoldWalks$Walk;", true)
  | 1 => ("FoldWalks$Walks", "marked", "[Z", true)
  | 2 => ("FoldWalks$Walks", "newNumbers", "[I", true)
  | _ => ("FoldWalks$Walks", "size", "I", false)
def tyX10 : Nat → FieldType := fun k => match k with
  | 0 => .array (.object "FoldWalks$Walk")
  | 1 => .array .boolean
  | 2 => .array .int
  | _ => .int
abbrev wsX100 : List Cond := u_ws RX10 TX10 4
theorem nmX10 : ∀ a, a < 4 → ∀ b, b < 4 → a ≠ b → (TX10 a).2.1 ≠ (TX10 b).2.1 := by decide +kernel
theorem tyX10_ok : ∀ k, k < 4 → parseFieldDescriptor (TX10 k).2.2.1 = some (tyX10 k) := by decide +kernel
abbrev cX10_init : ByteArray := prog_12_method_1_code
def yX10_init : MethodName := ⟨RX10, "<init>", "()V"⟩
abbrev cX10_at : ByteArray := prog_12_method_2_code
def yX10_at : MethodName := ⟨RX10, "at", "(I)LFoldWalks$Walk;"⟩
abbrev cX10_isFull : ByteArray := prog_12_method_3_code
def yX10_isFull : MethodName := ⟨RX10, "isFull", "()Z"⟩
abbrev cX10_addOne : ByteArray := prog_12_method_4_code
def yX10_addOne : MethodName := ⟨RX10, "addOne", "()LFoldWalks$Walk;"⟩
abbrev cX10_clear : ByteArray := prog_12_method_5_code
def yX10_clear : MethodName := ⟨RX10, "clear", "()V"⟩
abbrev cX10_markFamily : ByteArray := prog_12_method_6_code
def yX10_markFamily : MethodName := ⟨RX10, "markFamily", "(I)I"⟩
abbrev cX10_removeFamily : ByteArray := prog_12_method_7_code
def yX10_removeFamily : MethodName := ⟨RX10, "removeFamily", "(I)V"⟩
abbrev cX10_places : ByteArray := prog_12_method_8_code
def yX10_places : MethodName := ⟨RX10, "places", "()I"⟩
abbrev cX10_placesOfKind : ByteArray := prog_12_method_9_code
def yX10_placesOfKind : MethodName := ⟨RX10, "placesOfKind", "(I)I"⟩
abbrev cX10_copyFrom : ByteArray := prog_12_method_10_code
def yX10_copyFrom : MethodName := ⟨RX10, "copyFrom", "(LFoldWalks$Walks;)V"⟩
def RX11 : String := "FoldWalks"
def TX11 : u_T := fun k => match k with
  | 0 => ("FoldWalks", "now", "LFoldWalks$State;", true)
  | 1 => ("FoldWalks", "history", "LFoldWalks$History;", true)
  | 2 => ("FoldWalks", "mover", "LFoldWalks$Mover;", true)
  | 3 => ("FoldWalks", "text", "LFoldWalks$Text;", true)
  | _ => ("FoldWalks", "reader", "LFoldWalks$Reader;", true)
def tyX11 : Nat → FieldType := fun k => match k with
  | 0 => .object "FoldWalks$State"
  | 1 => .object "FoldWalks$History"
  | 2 => .object "FoldWalks$Mover"
  | 3 => .object "FoldWalks$Text"
  | _ => .object "FoldWalks$Reader"
abbrev wsX110 : List Cond := u_ws RX11 TX11 5
theorem nmX11 : ∀ a, a < 5 → ∀ b, b < 5 → a ≠ b → (TX11 a).2.1 ≠ (TX11 b).2.1 := by decide +kernel
theorem tyX11_ok : ∀ k, k < 5 → parseFieldDescriptor (TX11 k).2.2.1 = some (tyX11 k) := by decide +kernel
abbrev cX11_init : ByteArray := prog_1_method_1_code
def yX11_init : MethodName := ⟨RX11, "<init>", "()V"⟩
abbrev cX11_term : ByteArray := prog_1_method_2_code
def yX11_term : MethodName := ⟨RX11, "term", "(III)I"⟩
abbrev cX11_dropTerm : ByteArray := prog_1_method_3_code
def yX11_dropTerm : MethodName := ⟨RX11, "dropTerm", "(I)I"⟩
abbrev cX11_termOf : ByteArray := prog_1_method_4_code
def yX11_termOf : MethodName := ⟨RX11, "termOf", "(II)I"⟩
abbrev cX11_corrected : ByteArray := prog_1_method_6_code
def yX11_corrected : MethodName := ⟨RX11, "corrected", "(III)I"⟩
abbrev cX11_begin : ByteArray := prog_1_method_7_code
def yX11_begin : MethodName := ⟨RX11, "begin", "(III)I"⟩
abbrev cX11_branch : ByteArray := prog_1_method_8_code
def yX11_branch : MethodName := ⟨RX11, "branch", "(III)I"⟩
abbrev cX11_startWalk : ByteArray := prog_1_method_9_code
def yX11_startWalk : MethodName := ⟨RX11, "startWalk", "(III)I"⟩
abbrev cX11_step : ByteArray := prog_1_method_10_code
def yX11_step : MethodName := ⟨RX11, "step", "(II)I"⟩
abbrev cX11_drop : ByteArray := prog_1_method_11_code
def yX11_drop : MethodName := ⟨RX11, "drop", "(I)I"⟩
abbrev cX11_set : ByteArray := prog_1_method_12_code
def yX11_set : MethodName := ⟨RX11, "set", "(II)I"⟩
abbrev cX11_walkOf : ByteArray := prog_1_method_13_code
def yX11_walkOf : MethodName := ⟨RX11, "walkOf", "(II)I"⟩
abbrev cX11_placeOf : ByteArray := prog_1_method_14_code
def yX11_placeOf : MethodName := ⟨RX11, "placeOf", "(III)I"⟩
abbrev cX11_count : ByteArray := prog_1_method_15_code
def yX11_count : MethodName := ⟨RX11, "count", "(I)I"⟩
abbrev cX11_nearest : ByteArray := prog_1_method_18_code
def yX11_nearest : MethodName := ⟨RX11, "nearest", "(III)I"⟩
abbrev cX11_undo : ByteArray := prog_1_method_19_code
def yX11_undo : MethodName := ⟨RX11, "undo", "()I"⟩
abbrev cX11_type : ByteArray := prog_1_method_20_code
def yX11_type : MethodName := ⟨RX11, "type", "(I)I"⟩
abbrev cX11_clearText : ByteArray := prog_1_method_21_code
def yX11_clearText : MethodName := ⟨RX11, "clearText", "()I"⟩
abbrev cX11_fault : ByteArray := prog_1_method_22_code
def yX11_fault : MethodName := ⟨RX11, "fault", "(I)I"⟩
abbrev cX11_read : ByteArray := prog_1_method_23_code
def yX11_read : MethodName := ⟨RX11, "read", "()I"⟩
abbrev cX11_isWithin : ByteArray := prog_1_method_24_code
def yX11_isWithin : MethodName := ⟨RX11, "isWithin", "(JJJ)Z"⟩
abbrev cX11_isPlace : ByteArray := prog_1_method_25_code
def yX11_isPlace : MethodName := ⟨RX11, "isPlace", "(JJ)Z"⟩
abbrev cX11_isSign : ByteArray := prog_1_method_26_code
def yX11_isSign : MethodName := ⟨RX11, "isSign", "(I)Z"⟩
abbrev cX11_power : ByteArray := prog_1_method_27_code
def yX11_power : MethodName := ⟨RX11, "power", "(JI)J"⟩
abbrev cX11_rootOf : ByteArray := prog_1_method_28_code
def yX11_rootOf : MethodName := ⟨RX11, "rootOf", "(J)J"⟩
def RX12 : String := "FoldWalksModel"
def TX12 : u_T := fun k => match k with
  | _ => ("", "", "", false)
def tyX12 : Nat → FieldType := fun k => match k with
  | _ => .int
abbrev wsX120 : List Cond := u_ws RX12 TX12 0
theorem nmX12 : ∀ a, a < 0 → ∀ b, b < 0 → a ≠ b → (TX12 a).2.1 ≠ (TX12 b).2.1 := by decide +kernel
theorem tyX12_ok : ∀ k, k < 0 → parseFieldDescriptor (TX12 k).2.2.1 = some (tyX12 k) := by decide +kernel
def RJ9 : String := "java/lang/Math"
def TJ9 : u_T := fun k => match k with
  | _ => ("", "", "", false)
def tyJ9 : Nat → FieldType := fun k => match k with
  | _ => .int
abbrev wsJ90 : List Cond := u_ws RJ9 TJ9 0
abbrev cJ9_max_7cf53 : ByteArray := prog_15_method_65_code
def yJ9_max_7cf53 : MethodName := ⟨RJ9, "max", "(II)I"⟩
abbrev cJ9_min_7cf53 : ByteArray := prog_15_method_69_code
def yJ9_min_7cf53 : MethodName := ⟨RJ9, "min", "(II)I"⟩
def RL : String := "FoldWalksLaw"
abbrev cL_lot : ByteArray := method_2_code
def yL_lot : MethodName := ⟨RL, "lot", "([II)I"⟩
abbrev cL_low : ByteArray := method_3_code
def yL_low : MethodName := ⟨RL, "low", "(II)I"⟩
abbrev cL_digest : ByteArray := method_4_code
def yL_digest : MethodName := ⟨RL, "digest", "(LFoldWalks;)J"⟩
abbrev cL_holds : ByteArray := method_5_code
def yL_holds : MethodName := ⟨RL, "holds", "(LFoldWalks;I)Z"⟩
abbrev cL_types : ByteArray := method_6_code
def yL_types : MethodName := ⟨RL, "types", "(LFoldWalks;I)Z"⟩
abbrev cL_reads : ByteArray := method_7_code
def yL_reads : MethodName := ⟨RL, "reads", "(LFoldWalks;)Z"⟩
abbrev cL_acts : ByteArray := method_8_code
def yL_acts : MethodName := ⟨RL, "acts", "(LFoldWalks;II)Z"⟩
abbrev cL_law : ByteArray := code
def yL_law : MethodName := ⟨RL, "law", "([I)Z"⟩
abbrev vwCl : List vw_C := [(RX0, TX0, 4), (RX1, TX1, 3), (RX2, TX2, 2), (RX3, TX3, 8), (RX4, TX4, 1), (RX5, TX5, 3), (RX6, TX6, 3), (RX7, TX7, 4), (RX8, TX8, 2), (RX9, TX9, 10), (RX10, TX10, 4), (RX11, TX11, 5)]
