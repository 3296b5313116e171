/-! ===== BEGIN printed: names, fields, word lists, decode rows ===== -/
def RX0 : String := "FieldFilter$Column"
def TX0 : u_T := fun k => match k with
  | 0 => ("FieldFilter$Column", "upper", "I", false)
  | _ => ("FieldFilter$Column", "lower", "I", false)
def tyX0 : Nat → FieldType := fun k => match k with
  | 0 => .int
  | _ => .int
abbrev wsX00 : List Cond := u_ws RX0 TX0 2
theorem nmX0 : ∀ a, a < 2 → ∀ b, b < 2 → a ≠ b → (TX0 a).2.1 ≠ (TX0 b).2.1 := by decide +kernel
theorem tyX0_ok : ∀ k, k < 2 → parseFieldDescriptor (TX0 k).2.2.1 = some (tyX0 k) := by decide +kernel
abbrev cX0_init : ByteArray := prog_2_method_1_code
def yX0_init : MethodName := ⟨RX0, "<init>", "()V"⟩
abbrev cX0_set : ByteArray := prog_2_method_2_code
def yX0_set : MethodName := ⟨RX0, "set", "(II)V"⟩
abbrev cX0_copy : ByteArray := prog_2_method_3_code
def yX0_copy : MethodName := ⟨RX0, "copy", "(LFieldFilter$Column;)V"⟩
abbrev cX0_number : ByteArray := prog_2_method_4_code
def yX0_number : MethodName := ⟨RX0, "number", "(I)I"⟩
abbrev cX0_add : ByteArray := prog_2_method_5_code
def yX0_add : MethodName := ⟨RX0, "add", "(LFieldFilter$Column;)V"⟩
abbrev cX0_subtract : ByteArray := prog_2_method_6_code
def yX0_subtract : MethodName := ⟨RX0, "subtract", "(LFieldFilter$Column;)V"⟩
def RX1 : String := "FieldFilter$Estimator"
def TX1 : u_T := fun k => match k with
  | 0 => ("FieldFilter$Estimator", "motion", "LFieldFilter$Motion;", true)
  | 1 => ("FieldFilter$Estimator", "told", "[LFieldFilter$Measurement;", true)
  | 2 => ("FieldFilter$Estimator", "toldCount", "I", false)
  | 3 => ("FieldFilter$Estimator", "time", "I", false)
  | 4 => ("FieldFilter$Estimator", "threshold", "I", false)
  | 5 => ("FieldFilter$Estimator", "predicted", "[LFieldFilter$State;", true)
  | _ => ("FieldFilter$Estimator", "behind", "[LFieldFilter$State;", true)
def tyX1 : Nat → FieldType := fun k => match k with
  | 0 => .object "FieldFilter$Motion"
  | 1 => .array (.object "FieldFilter$Measurement")
  | 2 => .int
  | 3 => .int
  | 4 => .int
  | 5 => .array (.object "FieldFilter$State")
  | _ => .array (.object "FieldFilter$State")
abbrev wsX10 : List Cond := u_ws RX1 TX1 7
theorem nmX1 : ∀ a, a < 7 → ∀ b, b < 7 → a ≠ b → (TX1 a).2.1 ≠ (TX1 b).2.1 := by decide +kernel
theorem tyX1_ok : ∀ k, k < 7 → parseFieldDescriptor (TX1 k).2.2.1 = some (tyX1 k) := by decide +kernel
abbrev cX1_init : ByteArray := prog_3_method_1_code
def yX1_init : MethodName := ⟨RX1, "<init>", "([I)V"⟩
abbrev cX1_startFrom : ByteArray := prog_3_method_2_code
def yX1_startFrom : MethodName := ⟨RX1, "startFrom", "(IIIII)V"⟩
abbrev cX1_current : ByteArray := prog_3_method_3_code
def yX1_current : MethodName := ⟨RX1, "current", "()LFieldFilter$State;"⟩
abbrev cX1_countGated : ByteArray := prog_3_method_4_code
def yX1_countGated : MethodName := ⟨RX1, "countGated", "()I"⟩
abbrev cX1_settle : ByteArray := prog_3_method_5_code
def yX1_settle : MethodName := ⟨RX1, "settle", "()Z"⟩
abbrev cX1_findSecondWay : ByteArray := prog_3_method_6_code
def yX1_findSecondWay : MethodName := ⟨RX1, "findSecondWay", "(LFieldFilter$State;)Z"⟩
abbrev cX1_predictSecondWay : ByteArray := prog_3_method_7_code
def yX1_predictSecondWay : MethodName := ⟨RX1, "predictSecondWay", "(LFieldFilter$State;LFieldFilter$State;)Z"⟩
abbrev cX1_informAll : ByteArray := prog_3_method_8_code
def yX1_informAll : MethodName := ⟨RX1, "informAll", "(ILFieldFilter$State;)Z"⟩
abbrev cX1_smoothBack : ByteArray := prog_3_method_9_code
def yX1_smoothBack : MethodName := ⟨RX1, "smoothBack", "(ILFieldFilter$Column;)Z"⟩
def RX2 : String := "FieldFilter$Measurement"
def TX2 : u_T := fun k => match k with
  | 0 => ("FieldFilter$Measurement", "h", "LFieldFilter$Column;", true)
  | 1 => ("FieldFilter$Measurement", "z", "I", false)
  | 2 => ("FieldFilter$Measurement", "r", "I", false)
  | 3 => ("FieldFilter$Measurement", "time", "I", false)
  | 4 => ("FieldFilter$Measurement", "threshold", "I", false)
  | 5 => ("FieldFilter$Measurement", "dropped", "Z", false)
  | 6 => ("FieldFilter$Measurement", "ph", "LFieldFilter$Column;", true)
  | 7 => ("FieldFilter$Measurement", "y", "I", false)
  | 8 => ("FieldFilter$Measurement", "s", "I", false)
  | 9 => ("FieldFilter$Measurement", "g", "I", false)
  | _ => ("FieldFilter$Measurement", "gated", "Z", false)
def tyX2 : Nat → FieldType := fun k => match k with
  | 0 => .object "FieldFilter$Column"
  | 1 => .int
  | 2 => .int
  | 3 => .int
  | 4 => .int
  | 5 => .boolean
  | 6 => .object "FieldFilter$Column"
  | 7 => .int
  | 8 => .int
  | 9 => .int
  | _ => .boolean
abbrev wsX20 : List Cond := u_ws RX2 TX2 11
theorem nmX2 : ∀ a, a < 11 → ∀ b, b < 11 → a ≠ b → (TX2 a).2.1 ≠ (TX2 b).2.1 := by decide +kernel
theorem tyX2_ok : ∀ k, k < 11 → parseFieldDescriptor (TX2 k).2.2.1 = some (tyX2 k) := by decide +kernel
abbrev cX2_init : ByteArray := prog_4_method_1_code
def yX2_init : MethodName := ⟨RX2, "<init>", "()V"⟩
abbrev cX2_look : ByteArray := prog_4_method_2_code
def yX2_look : MethodName := ⟨RX2, "look", "(IIII)V"⟩
abbrev cX2_place : ByteArray := prog_4_method_3_code
def yX2_place : MethodName := ⟨RX2, "place", "(II)V"⟩
abbrev cX2_countsAt : ByteArray := prog_4_method_4_code
def yX2_countsAt : MethodName := ⟨RX2, "countsAt", "(I)Z"⟩
abbrev cX2_weigh : ByteArray := prog_4_method_5_code
def yX2_weigh : MethodName := ⟨RX2, "weigh", "(LFieldFilter$Symmetric;)V"⟩
abbrev cX2_take : ByteArray := prog_4_method_6_code
def yX2_take : MethodName := ⟨RX2, "take", "(LFieldFilter$State;)Z"⟩
abbrev cX2_correct : ByteArray := prog_4_method_7_code
def yX2_correct : MethodName := ⟨RX2, "correct", "(LFieldFilter$State;)V"⟩
abbrev cX2_inform : ByteArray := prog_4_method_8_code
def yX2_inform : MethodName := ⟨RX2, "inform", "(LFieldFilter$State;)Z"⟩
def RX3 : String := "FieldFilter$Motion"
def TX3 : u_T := fun k => match k with
  | 0 => ("FieldFilter$Motion", "f00", "I", false)
  | 1 => ("FieldFilter$Motion", "f01", "I", false)
  | 2 => ("FieldFilter$Motion", "f10", "I", false)
  | 3 => ("FieldFilter$Motion", "f11", "I", false)
  | _ => ("FieldFilter$Motion", "q", "LFieldFilter$Symmetric;", true)
def tyX3 : Nat → FieldType := fun k => match k with
  | 0 => .int
  | 1 => .int
  | 2 => .int
  | 3 => .int
  | _ => .object "FieldFilter$Symmetric"
abbrev wsX30 : List Cond := u_ws RX3 TX3 5
theorem nmX3 : ∀ a, a < 5 → ∀ b, b < 5 → a ≠ b → (TX3 a).2.1 ≠ (TX3 b).2.1 := by decide +kernel
theorem tyX3_ok : ∀ k, k < 5 → parseFieldDescriptor (TX3 k).2.2.1 = some (tyX3 k) := by decide +kernel
abbrev cX3_init : ByteArray := prog_5_method_1_code
def yX3_init : MethodName := ⟨RX3, "<init>", "()V"⟩
abbrev cX3_read : ByteArray := prog_5_method_2_code
def yX3_read : MethodName := ⟨RX3, "read", "([I)V"⟩
abbrev cX3_setF : ByteArray := prog_5_method_3_code
def yX3_setF : MethodName := ⟨RX3, "setF", "(IIII)V"⟩
abbrev cX3_copy : ByteArray := prog_5_method_4_code
def yX3_copy : MethodName := ⟨RX3, "copy", "(LFieldFilter$Motion;)V"⟩
abbrev cX3_move : ByteArray := prog_5_method_5_code
def yX3_move : MethodName := ⟨RX3, "move", "(LFieldFilter$State;)V"⟩
abbrev cX3_spread : ByteArray := prog_5_method_6_code
def yX3_spread : MethodName := ⟨RX3, "spread", "(LFieldFilter$Symmetric;)V"⟩
abbrev cX3_turnBack : ByteArray := prog_5_method_7_code
def yX3_turnBack : MethodName := ⟨RX3, "turnBack", "(LFieldFilter$Column;)V"⟩
abbrev cX3_twice : ByteArray := prog_5_method_8_code
def yX3_twice : MethodName := ⟨RX3, "twice", "()V"⟩
def RX4 : String := "FieldFilter$State"
def TX4 : u_T := fun k => match k with
  | 0 => ("FieldFilter$State", "x", "LFieldFilter$Column;", true)
  | _ => ("FieldFilter$State", "p", "LFieldFilter$Symmetric;", true)
def tyX4 : Nat → FieldType := fun k => match k with
  | 0 => .object "FieldFilter$Column"
  | _ => .object "FieldFilter$Symmetric"
abbrev wsX40 : List Cond := u_ws RX4 TX4 2
theorem nmX4 : ∀ a, a < 2 → ∀ b, b < 2 → a ≠ b → (TX4 a).2.1 ≠ (TX4 b).2.1 := by decide +kernel
theorem tyX4_ok : ∀ k, k < 2 → parseFieldDescriptor (TX4 k).2.2.1 = some (tyX4 k) := by decide +kernel
abbrev cX4_init : ByteArray := prog_6_method_1_code
def yX4_init : MethodName := ⟨RX4, "<init>", "()V"⟩
abbrev cX4_copy : ByteArray := prog_6_method_2_code
def yX4_copy : MethodName := ⟨RX4, "copy", "(LFieldFilter$State;)V"⟩
abbrev cX4_number : ByteArray := prog_6_method_3_code
def yX4_number : MethodName := ⟨RX4, "number", "(I)I"⟩
abbrev cX4_invert : ByteArray := prog_6_method_4_code
def yX4_invert : MethodName := ⟨RX4, "invert", "(LFieldFilter$State;)Z"⟩
def RX5 : String := "FieldFilter$Symmetric"
def TX5 : u_T := fun k => match k with
  | 0 => ("FieldFilter$Symmetric", "a00", "I", false)
  | 1 => ("FieldFilter$Symmetric", "a01", "I", false)
  | _ => ("FieldFilter$Symmetric", "a11", "I", false)
def tyX5 : Nat → FieldType := fun k => match k with
  | 0 => .int
  | 1 => .int
  | _ => .int
abbrev wsX50 : List Cond := u_ws RX5 TX5 3
theorem nmX5 : ∀ a, a < 3 → ∀ b, b < 3 → a ≠ b → (TX5 a).2.1 ≠ (TX5 b).2.1 := by decide +kernel
theorem tyX5_ok : ∀ k, k < 3 → parseFieldDescriptor (TX5 k).2.2.1 = some (tyX5 k) := by decide +kernel
abbrev cX5_init : ByteArray := prog_7_method_1_code
def yX5_init : MethodName := ⟨RX5, "<init>", "()V"⟩
abbrev cX5_set : ByteArray := prog_7_method_2_code
def yX5_set : MethodName := ⟨RX5, "set", "(III)V"⟩
abbrev cX5_copy : ByteArray := prog_7_method_3_code
def yX5_copy : MethodName := ⟨RX5, "copy", "(LFieldFilter$Symmetric;)V"⟩
abbrev cX5_determinant : ByteArray := prog_7_method_4_code
def yX5_determinant : MethodName := ⟨RX5, "determinant", "()I"⟩
abbrev cX5_invert : ByteArray := prog_7_method_5_code
def yX5_invert : MethodName := ⟨RX5, "invert", "(LFieldFilter$Symmetric;)Z"⟩
abbrev cX5_multiply : ByteArray := prog_7_method_6_code
def yX5_multiply : MethodName := ⟨RX5, "multiply", "(LFieldFilter$Column;)V"⟩
abbrev cX5_addSquare : ByteArray := prog_7_method_7_code
def yX5_addSquare : MethodName := ⟨RX5, "addSquare", "(LFieldFilter$Column;I)V"⟩
def RX6 : String := "FieldFilter"
def TX6 : u_T := fun k => match k with
  | 0 => ("FieldFilter", "models", "[[I", true)
  | 1 => ("FieldFilter", "modelCount", "I", false)
  | 2 => ("FieldFilter", "estimators", "[LFieldFilter$Estimator;", true)
  | _ => ("FieldFilter", "estimatorCount", "I", false)
def tyX6 : Nat → FieldType := fun k => match k with
  | 0 => .array (.array .int)
  | 1 => .int
  | 2 => .array (.object "FieldFilter$Estimator")
  | _ => .int
abbrev wsX60 : List Cond := u_ws RX6 TX6 4
theorem nmX6 : ∀ a, a < 4 → ∀ b, b < 4 → a ≠ b → (TX6 a).2.1 ≠ (TX6 b).2.1 := by decide +kernel
theorem tyX6_ok : ∀ k, k < 4 → parseFieldDescriptor (TX6 k).2.2.1 = some (tyX6 k) := by decide +kernel
abbrev cX6_init : ByteArray := prog_1_method_1_code
def yX6_init : MethodName := ⟨RX6, "<init>", "()V"⟩
abbrev cX6_model : ByteArray := prog_1_method_2_code
def yX6_model : MethodName := ⟨RX6, "model", "()I"⟩
abbrev cX6_entry : ByteArray := prog_1_method_3_code
def yX6_entry : MethodName := ⟨RX6, "entry", "(III)I"⟩
abbrev cX6_begin : ByteArray := prog_1_method_4_code
def yX6_begin : MethodName := ⟨RX6, "begin", "(IIIIII)I"⟩
abbrev cX6_gate : ByteArray := prog_1_method_5_code
def yX6_gate : MethodName := ⟨RX6, "gate", "(II)I"⟩
abbrev cX6_predict : ByteArray := prog_1_method_6_code
def yX6_predict : MethodName := ⟨RX6, "predict", "(I)I"⟩
abbrev cX6_measure : ByteArray := prog_1_method_7_code
def yX6_measure : MethodName := ⟨RX6, "measure", "(IIIII)I"⟩
abbrev cX6_late : ByteArray := prog_1_method_8_code
def yX6_late : MethodName := ⟨RX6, "late", "(IIIIII)I"⟩
abbrev cX6_drop : ByteArray := prog_1_method_9_code
def yX6_drop : MethodName := ⟨RX6, "drop", "(II)V"⟩
abbrev cX6_of : ByteArray := prog_1_method_10_code
def yX6_of : MethodName := ⟨RX6, "of", "(II)I"⟩
abbrev cX6_ofMeasurement : ByteArray := prog_1_method_11_code
def yX6_ofMeasurement : MethodName := ⟨RX6, "ofMeasurement", "(III)I"⟩
abbrev cX6_gain : ByteArray := prog_1_method_12_code
def yX6_gain : MethodName := ⟨RX6, "gain", "(IIIII)I"⟩
abbrev cX6_information : ByteArray := prog_1_method_13_code
def yX6_information : MethodName := ⟨RX6, "information", "(II)I"⟩
abbrev cX6_anew : ByteArray := prog_1_method_14_code
def yX6_anew : MethodName := ⟨RX6, "anew", "(II)I"⟩
abbrev cX6_smoothed : ByteArray := prog_1_method_15_code
def yX6_smoothed : MethodName := ⟨RX6, "smoothed", "(III)I"⟩
abbrev cX6_ahead : ByteArray := prog_1_method_16_code
def yX6_ahead : MethodName := ⟨RX6, "ahead", "(III)I"⟩
abbrev cX6_aheadAnew : ByteArray := prog_1_method_17_code
def yX6_aheadAnew : MethodName := ⟨RX6, "aheadAnew", "(III)I"⟩
abbrev cX6_modelNumbered : ByteArray := prog_1_method_18_code
def yX6_modelNumbered : MethodName := ⟨RX6, "modelNumbered", "(I)[I"⟩
abbrev cX6_estimatorNumbered : ByteArray := prog_1_method_19_code
def yX6_estimatorNumbered : MethodName := ⟨RX6, "estimatorNumbered", "(I)LFieldFilter$Estimator;"⟩
abbrev cX6_measurementNumbered : ByteArray := prog_1_method_20_code
def yX6_measurementNumbered : MethodName := ⟨RX6, "measurementNumbered", "(LFieldFilter$Estimator;I)LFieldFilter$Measurement;"⟩
abbrev cX6_checkRange : ByteArray := prog_1_method_21_code
def yX6_checkRange : MethodName := ⟨RX6, "checkRange", "(II)V"⟩
abbrev cX6_checkField : ByteArray := prog_1_method_22_code
def yX6_checkField : MethodName := ⟨RX6, "checkField", "(I)V"⟩
abbrev cX6_tell : ByteArray := prog_1_method_23_code
def yX6_tell : MethodName := ⟨RX6, "tell", "(LFieldFilter$Estimator;IIIII)I"⟩
abbrev cX6_less : ByteArray := prog_1_method_24_code
def yX6_less : MethodName := ⟨RX6, "less", "(II)I"⟩
abbrev cX6_inverse : ByteArray := prog_1_method_25_code
def yX6_inverse : MethodName := ⟨RX6, "inverse", "(I)I"⟩
abbrev cX6_divide : ByteArray := prog_1_method_26_code
def yX6_divide : MethodName := ⟨RX6, "divide", "(II)I"⟩
def RJ9 : String := "java/lang/Math"
def TJ9 : u_T := fun k => match k with
  | _ => ("", "", "", false)
def tyJ9 : Nat → FieldType := fun k => match k with
  | _ => .int
abbrev wsJ90 : List Cond := u_ws RJ9 TJ9 0
theorem nmJ9 : ∀ a, a < 0 → ∀ b, b < 0 → a ≠ b → (TJ9 a).2.1 ≠ (TJ9 b).2.1 := by decide +kernel
theorem tyJ9_ok : ∀ k, k < 0 → parseFieldDescriptor (TJ9 k).2.2.1 = some (tyJ9 k) := by decide +kernel
abbrev cJ9_floorMod_7cf53 : ByteArray := prog_14_method_50_code
def yJ9_floorMod_7cf53 : MethodName := ⟨RJ9, "floorMod", "(II)I"⟩
def RJ0 : String := "java/lang/String"
def TJ0 : u_T := fun k => match k with
  | _ => ("", "", "", false)
def tyJ0 : Nat → FieldType := fun k => match k with
  | _ => .int
abbrev wsJ00 : List Cond := u_ws RJ0 TJ0 0
theorem nmJ0 : ∀ a, a < 0 → ∀ b, b < 0 → a ≠ b → (TJ0 a).2.1 ≠ (TJ0 b).2.1 := by decide +kernel
theorem tyJ0_ok : ∀ k, k < 0 → parseFieldDescriptor (TJ0 k).2.2.1 = some (tyJ0 k) := by decide +kernel
def RL : String := "FieldFilterLaw"
def wsX0_init : List Cond := .code yX0_init cX0_init 1 none :: ([.methodLink RX0 3 objectInit, .instanceMethod objectInit, .code objectInit ⟨#[0xb1]⟩ 1 none])
def wsX0_set : List Cond := .code yX0_set cX0_set 3 none :: ([.fieldLink RX0 9 "FieldFilter$Column" "upper" "I", .fieldLink RX0 15 "FieldFilter$Column" "lower" "I"] ++ wsX00)
def wsX0_copy : List Cond := .code yX0_copy cX0_copy 2 none :: ([.fieldLink RX0 9 "FieldFilter$Column" "upper" "I", .fieldLink RX0 15 "FieldFilter$Column" "lower" "I", .methodLink RX0 18 yX0_set, .instanceMethod yX0_set, .selects RX0 yX0_set yX0_set, .initialized RX0, .code yX0_set cX0_set 3 none] ++ wsX00)
def wsX0_number : List Cond := .code yX0_number cX0_number 2 (some .int) :: ([.fieldLink RX0 9 "FieldFilter$Column" "upper" "I", .fieldLink RX0 15 "FieldFilter$Column" "lower" "I"] ++ wsX00)
def wsX0_add : List Cond := .code yX0_add cX0_add 2 none :: ([.fieldLink RX0 9 "FieldFilter$Column" "upper" "I", .fieldLink RX0 15 "FieldFilter$Column" "lower" "I", .methodLink RX0 18 yX0_set, .instanceMethod yX0_set, .selects RX0 yX0_set yX0_set, .initialized RX0, .code yX0_set cX0_set 3 none] ++ wsX00)
def wsJ9_floorMod_7cf53 : List Cond := .code yJ9_floorMod_7cf53 cJ9_floorMod_7cf53 3 (some .int) :: ([])
def wsX6_less : List Cond := .code yX6_less cX6_less 2 (some .int) :: ([.methodLink RX6 213 yJ9_floorMod_7cf53, .static yJ9_floorMod_7cf53, .initialized RJ9, .code yJ9_floorMod_7cf53 cJ9_floorMod_7cf53 3 (some .int)])
def wsX0_subtract : List Cond := .code yX0_subtract cX0_subtract 2 none :: ([.fieldLink RX0 9 "FieldFilter$Column" "upper" "I", .fieldLink RX0 15 "FieldFilter$Column" "lower" "I", .static yX6_less, .initialized RX6, .code yX6_less cX6_less 2 (some .int), .methodLink RX6 213 yJ9_floorMod_7cf53, .static yJ9_floorMod_7cf53, .initialized RJ9, .code yJ9_floorMod_7cf53 cJ9_floorMod_7cf53 3 (some .int), .methodLink RX0 18 yX0_set, .instanceMethod yX0_set, .selects RX0 yX0_set yX0_set, .initialized RX0, .code yX0_set cX0_set 3 none] ++ wsX00)
def wsX5_init : List Cond := .code yX5_init cX5_init 1 none :: ([.methodLink RX5 3 objectInit, .instanceMethod objectInit, .code objectInit ⟨#[0xb1]⟩ 1 none])
def wsX3_init : List Cond := .code yX3_init cX3_init 1 none :: ([.methodLink RX3 3 objectInit, .instanceMethod objectInit, .code objectInit ⟨#[0xb1]⟩ 1 none, .classLink RX3 9 RX5, .instantiable RX5 3, .initialized RX5, .fieldLink RX3 12 "FieldFilter$Motion" "q" "LFieldFilter$Symmetric;", .instanceMethod yX5_init, .code yX5_init cX5_init 1 none, .methodLink RX5 3 objectInit] ++ wsX50 ++ wsX30)
def wsX3_setF : List Cond := .code yX3_setF cX3_setF 5 none :: ([.fieldLink RX3 26 "FieldFilter$Motion" "f00" "I", .fieldLink RX3 30 "FieldFilter$Motion" "f01" "I", .fieldLink RX3 33 "FieldFilter$Motion" "f10" "I", .fieldLink RX3 36 "FieldFilter$Motion" "f11" "I"] ++ wsX30)
def wsX5_set : List Cond := .code yX5_set cX5_set 4 none :: ([.fieldLink RX5 9 "FieldFilter$Symmetric" "a00" "I", .fieldLink RX5 15 "FieldFilter$Symmetric" "a01" "I", .fieldLink RX5 18 "FieldFilter$Symmetric" "a11" "I"] ++ wsX50)
def wsX3_read : List Cond := .code yX3_read cX3_read 2 none :: ([.fieldLink RX3 12 "FieldFilter$Motion" "q" "LFieldFilter$Symmetric;", .methodLink RX3 18 yX3_setF, .instanceMethod yX3_setF, .selects RX3 yX3_setF yX3_setF, .initialized RX3, .code yX3_setF cX3_setF 5 none, .fieldLink RX3 26 "FieldFilter$Motion" "f00" "I", .fieldLink RX3 30 "FieldFilter$Motion" "f01" "I", .fieldLink RX3 33 "FieldFilter$Motion" "f10" "I", .fieldLink RX3 36 "FieldFilter$Motion" "f11" "I", .methodLink RX3 22 yX5_set, .instanceMethod yX5_set, .selects RX5 yX5_set yX5_set, .initialized RX5, .code yX5_set cX5_set 4 none, .fieldLink RX5 9 "FieldFilter$Symmetric" "a00" "I", .fieldLink RX5 15 "FieldFilter$Symmetric" "a01" "I", .fieldLink RX5 18 "FieldFilter$Symmetric" "a11" "I"] ++ wsX30 ++ wsX50)
def wsX2_init : List Cond := .code yX2_init cX2_init 1 none :: ([.methodLink RX2 3 objectInit, .instanceMethod objectInit, .code objectInit ⟨#[0xb1]⟩ 1 none, .classLink RX2 9 RX0, .instantiable RX0 2, .initialized RX0, .fieldLink RX2 12 "FieldFilter$Measurement" "h" "LFieldFilter$Column;", .fieldLink RX2 18 "FieldFilter$Measurement" "ph" "LFieldFilter$Column;", .instanceMethod yX0_init, .code yX0_init cX0_init 1 none, .methodLink RX0 3 objectInit] ++ wsX00 ++ wsX20)
def wsX4_init : List Cond := .code yX4_init cX4_init 1 none :: ([.methodLink RX4 1 objectInit, .instanceMethod objectInit, .code objectInit ⟨#[0xb1]⟩ 1 none, .classLink RX4 7 RX0, .instantiable RX0 2, .initialized RX0, .fieldLink RX4 10 "FieldFilter$State" "x" "LFieldFilter$Column;", .classLink RX4 16 RX5, .instantiable RX5 3, .initialized RX5, .fieldLink RX4 19 "FieldFilter$State" "p" "LFieldFilter$Symmetric;", .instanceMethod yX0_init, .code yX0_init cX0_init 1 none, .methodLink RX0 3 objectInit, .instanceMethod yX5_init, .code yX5_init cX5_init 1 none, .methodLink RX5 3 objectInit] ++ wsX00 ++ wsX40 ++ wsX50)
def wsX1_init_r1 : List Cond := [Cond.methodLink RX1 3 objectInit, Cond.instanceMethod objectInit, Cond.code objectInit ⟨#[0xb1]⟩ 1 none, Cond.classLink RX1 9 RX3, Cond.instantiable RX3 5, Cond.initialized RX3, Cond.fieldLink RX1 12 "FieldFilter$Estimator" "motion" "LFieldFilter$Motion;", Cond.classLink RX1 18 RX2, Cond.fieldLink RX1 20 "FieldFilter$Estimator" "told" "[LFieldFilter$Measurement;", Cond.fieldLink RX1 24 "FieldFilter$Estimator" "threshold" "I", Cond.classLink RX1 28 RX4, Cond.fieldLink RX1 30 "FieldFilter$Estimator" "predicted" "[LFieldFilter$State;", Cond.fieldLink RX1 34 "FieldFilter$Estimator" "behind" "[LFieldFilter$State;", Cond.instantiable RX2 11, Cond.initialized RX2, Cond.instantiable RX4 2, Cond.initialized RX4, Cond.instanceMethod yX3_init, Cond.code yX3_init cX3_init 1 none, Cond.methodLink RX3 3 objectInit, Cond.classLink RX3 9 RX5, Cond.instantiable RX5 3, Cond.initialized RX5, Cond.fieldLink RX3 12 "FieldFilter$Motion" "q" "LFieldFilter$Symmetric;"]
def wsX1_init_r2 : List Cond := [Cond.instanceMethod yX5_init, Cond.code yX5_init cX5_init 1 none, Cond.methodLink RX5 3 objectInit, Cond.methodLink RX1 37 yX3_read, Cond.instanceMethod yX3_read, Cond.selects RX3 yX3_read yX3_read, Cond.code yX3_read cX3_read 2 none, Cond.methodLink RX3 18 yX3_setF, Cond.instanceMethod yX3_setF, Cond.selects RX3 yX3_setF yX3_setF, Cond.code yX3_setF cX3_setF 5 none, Cond.fieldLink RX3 26 "FieldFilter$Motion" "f00" "I", Cond.fieldLink RX3 30 "FieldFilter$Motion" "f01" "I", Cond.fieldLink RX3 33 "FieldFilter$Motion" "f10" "I", Cond.fieldLink RX3 36 "FieldFilter$Motion" "f11" "I", Cond.methodLink RX3 22 yX5_set, Cond.instanceMethod yX5_set, Cond.selects RX5 yX5_set yX5_set, Cond.code yX5_set cX5_set 4 none, Cond.fieldLink RX5 9 "FieldFilter$Symmetric" "a00" "I", Cond.fieldLink RX5 15 "FieldFilter$Symmetric" "a01" "I", Cond.fieldLink RX5 18 "FieldFilter$Symmetric" "a11" "I", Cond.instanceMethod yX2_init, Cond.code yX2_init cX2_init 1 none]
def wsX1_init_r3 : List Cond := [Cond.methodLink RX2 3 objectInit, Cond.classLink RX2 9 RX0, Cond.instantiable RX0 2, Cond.initialized RX0, Cond.fieldLink RX2 12 "FieldFilter$Measurement" "h" "LFieldFilter$Column;", Cond.fieldLink RX2 18 "FieldFilter$Measurement" "ph" "LFieldFilter$Column;", Cond.instanceMethod yX0_init, Cond.code yX0_init cX0_init 1 none, Cond.methodLink RX0 3 objectInit, Cond.instanceMethod yX4_init, Cond.code yX4_init cX4_init 1 none, Cond.methodLink RX4 1 objectInit, Cond.classLink RX4 7 RX0, Cond.fieldLink RX4 10 "FieldFilter$State" "x" "LFieldFilter$Column;", Cond.classLink RX4 16 RX5, Cond.fieldLink RX4 19 "FieldFilter$State" "p" "LFieldFilter$Symmetric;"]
def wsX1_init : List Cond := .code yX1_init cX1_init 3 none :: ((wsX1_init_r1 ++ (wsX1_init_r2 ++ wsX1_init_r3)) ++ wsX30 ++ wsX10 ++ wsX20 ++ wsX40 ++ wsX50 ++ wsX00)
def wsX5_copy : List Cond := .code yX5_copy cX5_copy 2 none :: ([.fieldLink RX5 9 "FieldFilter$Symmetric" "a00" "I", .fieldLink RX5 15 "FieldFilter$Symmetric" "a01" "I", .fieldLink RX5 18 "FieldFilter$Symmetric" "a11" "I", .methodLink RX5 21 yX5_set, .instanceMethod yX5_set, .selects RX5 yX5_set yX5_set, .initialized RX5, .code yX5_set cX5_set 4 none] ++ wsX50)
def wsX4_copy_r1 : List Cond := [Cond.fieldLink RX4 10 "FieldFilter$State" "x" "LFieldFilter$Column;", Cond.fieldLink RX4 19 "FieldFilter$State" "p" "LFieldFilter$Symmetric;", Cond.methodLink RX4 23 yX0_copy, Cond.instanceMethod yX0_copy, Cond.selects RX0 yX0_copy yX0_copy, Cond.initialized RX0, Cond.code yX0_copy cX0_copy 2 none, Cond.fieldLink RX0 9 "FieldFilter$Column" "upper" "I", Cond.fieldLink RX0 15 "FieldFilter$Column" "lower" "I", Cond.methodLink RX0 18 yX0_set, Cond.instanceMethod yX0_set, Cond.selects RX0 yX0_set yX0_set, Cond.code yX0_set cX0_set 3 none, Cond.methodLink RX4 27 yX5_copy, Cond.instanceMethod yX5_copy, Cond.selects RX5 yX5_copy yX5_copy, Cond.initialized RX5, Cond.code yX5_copy cX5_copy 2 none, Cond.fieldLink RX5 9 "FieldFilter$Symmetric" "a00" "I", Cond.fieldLink RX5 15 "FieldFilter$Symmetric" "a01" "I", Cond.fieldLink RX5 18 "FieldFilter$Symmetric" "a11" "I", Cond.methodLink RX5 21 yX5_set, Cond.instanceMethod yX5_set, Cond.selects RX5 yX5_set yX5_set]
def wsX4_copy_r2 : List Cond := [Cond.code yX5_set cX5_set 4 none]
def wsX4_copy : List Cond := .code yX4_copy cX4_copy 2 none :: ((wsX4_copy_r1 ++ wsX4_copy_r2) ++ wsX40 ++ wsX00 ++ wsX50)
def wsX3_spread : List Cond := .code yX3_spread cX3_spread 6 none :: ([.fieldLink RX3 26 "FieldFilter$Motion" "f00" "I", .fieldLink RX3 66 "FieldFilter$Symmetric" "a00" "I", .fieldLink RX3 30 "FieldFilter$Motion" "f01" "I", .fieldLink RX3 69 "FieldFilter$Symmetric" "a01" "I", .fieldLink RX3 72 "FieldFilter$Symmetric" "a11" "I", .fieldLink RX3 33 "FieldFilter$Motion" "f10" "I", .fieldLink RX3 36 "FieldFilter$Motion" "f11" "I", .fieldLink RX3 12 "FieldFilter$Motion" "q" "LFieldFilter$Symmetric;", .methodLink RX3 22 yX5_set, .instanceMethod yX5_set, .selects RX5 yX5_set yX5_set, .initialized RX5, .code yX5_set cX5_set 4 none, .fieldLink RX5 9 "FieldFilter$Symmetric" "a00" "I", .fieldLink RX5 15 "FieldFilter$Symmetric" "a01" "I", .fieldLink RX5 18 "FieldFilter$Symmetric" "a11" "I"] ++ wsX30 ++ wsX50)
def wsX3_move_r1 : List Cond := [Cond.fieldLink RX3 43 "FieldFilter$State" "x" "LFieldFilter$Column;", Cond.fieldLink RX3 26 "FieldFilter$Motion" "f00" "I", Cond.fieldLink RX3 49 "FieldFilter$Column" "upper" "I", Cond.fieldLink RX3 30 "FieldFilter$Motion" "f01" "I", Cond.fieldLink RX3 54 "FieldFilter$Column" "lower" "I", Cond.fieldLink RX3 33 "FieldFilter$Motion" "f10" "I", Cond.fieldLink RX3 36 "FieldFilter$Motion" "f11" "I", Cond.fieldLink RX3 60 "FieldFilter$State" "p" "LFieldFilter$Symmetric;", Cond.methodLink RX3 57 yX0_set, Cond.instanceMethod yX0_set, Cond.selects RX0 yX0_set yX0_set, Cond.initialized RX0, Cond.code yX0_set cX0_set 3 none, Cond.fieldLink RX0 9 "FieldFilter$Column" "upper" "I", Cond.fieldLink RX0 15 "FieldFilter$Column" "lower" "I", Cond.methodLink RX3 63 yX3_spread, Cond.instanceMethod yX3_spread, Cond.selects RX3 yX3_spread yX3_spread, Cond.initialized RX3, Cond.code yX3_spread cX3_spread 6 none, Cond.fieldLink RX3 66 "FieldFilter$Symmetric" "a00" "I", Cond.fieldLink RX3 69 "FieldFilter$Symmetric" "a01" "I", Cond.fieldLink RX3 72 "FieldFilter$Symmetric" "a11" "I", Cond.fieldLink RX3 12 "FieldFilter$Motion" "q" "LFieldFilter$Symmetric;"]
def wsX3_move_r2 : List Cond := [Cond.methodLink RX3 22 yX5_set, Cond.instanceMethod yX5_set, Cond.selects RX5 yX5_set yX5_set, Cond.initialized RX5, Cond.code yX5_set cX5_set 4 none, Cond.fieldLink RX5 9 "FieldFilter$Symmetric" "a00" "I", Cond.fieldLink RX5 15 "FieldFilter$Symmetric" "a01" "I", Cond.fieldLink RX5 18 "FieldFilter$Symmetric" "a11" "I"]
def wsX3_move : List Cond := .code yX3_move cX3_move 3 none :: ((wsX3_move_r1 ++ wsX3_move_r2) ++ wsX40 ++ wsX30 ++ wsX00 ++ wsX50)
def wsX2_countsAt : List Cond := .code yX2_countsAt cX2_countsAt 2 (some .boolean) :: ([.fieldLink RX2 32 "FieldFilter$Measurement" "time" "I", .fieldLink RX2 38 "FieldFilter$Measurement" "dropped" "Z"] ++ wsX20)
def wsX5_multiply : List Cond := .code yX5_multiply cX5_multiply 2 none :: ([.fieldLink RX5 9 "FieldFilter$Symmetric" "a00" "I", .fieldLink RX5 37 "FieldFilter$Column" "upper" "I", .fieldLink RX5 15 "FieldFilter$Symmetric" "a01" "I", .fieldLink RX5 42 "FieldFilter$Column" "lower" "I", .fieldLink RX5 18 "FieldFilter$Symmetric" "a11" "I", .methodLink RX5 45 yX0_set, .instanceMethod yX0_set, .selects RX0 yX0_set yX0_set, .initialized RX0, .code yX0_set cX0_set 3 none, .fieldLink RX0 9 "FieldFilter$Column" "upper" "I", .fieldLink RX0 15 "FieldFilter$Column" "lower" "I"] ++ wsX50 ++ wsX00)
def wsX2_weigh_r1 : List Cond := [Cond.fieldLink RX2 18 "FieldFilter$Measurement" "ph" "LFieldFilter$Column;", Cond.fieldLink RX2 12 "FieldFilter$Measurement" "h" "LFieldFilter$Column;", Cond.fieldLink RX2 51 "FieldFilter$Column" "upper" "I", Cond.fieldLink RX2 54 "FieldFilter$Column" "lower" "I", Cond.fieldLink RX2 29 "FieldFilter$Measurement" "r" "I", Cond.fieldLink RX2 57 "FieldFilter$Measurement" "s" "I", Cond.methodLink RX2 42 yX0_copy, Cond.instanceMethod yX0_copy, Cond.selects RX0 yX0_copy yX0_copy, Cond.initialized RX0, Cond.code yX0_copy cX0_copy 2 none, Cond.fieldLink RX0 9 "FieldFilter$Column" "upper" "I", Cond.fieldLink RX0 15 "FieldFilter$Column" "lower" "I", Cond.methodLink RX0 18 yX0_set, Cond.instanceMethod yX0_set, Cond.selects RX0 yX0_set yX0_set, Cond.code yX0_set cX0_set 3 none, Cond.methodLink RX2 46 yX5_multiply, Cond.instanceMethod yX5_multiply, Cond.selects RX5 yX5_multiply yX5_multiply, Cond.initialized RX5, Cond.code yX5_multiply cX5_multiply 2 none, Cond.fieldLink RX5 9 "FieldFilter$Symmetric" "a00" "I", Cond.fieldLink RX5 37 "FieldFilter$Column" "upper" "I"]
def wsX2_weigh_r2 : List Cond := [Cond.fieldLink RX5 15 "FieldFilter$Symmetric" "a01" "I", Cond.fieldLink RX5 42 "FieldFilter$Column" "lower" "I", Cond.fieldLink RX5 18 "FieldFilter$Symmetric" "a11" "I", Cond.methodLink RX5 45 yX0_set]
def wsX2_weigh : List Cond := .code yX2_weigh cX2_weigh 2 none :: ((wsX2_weigh_r1 ++ wsX2_weigh_r2) ++ wsX20 ++ wsX00 ++ wsX50)
def wsX6_inverse : List Cond := .code yX6_inverse cX6_inverse 4 (some .int) :: ([])
def wsX6_divide : List Cond := .code yX6_divide cX6_divide 2 (some .int) :: ([.methodLink RX6 218 yX6_inverse, .static yX6_inverse, .initialized RX6, .code yX6_inverse cX6_inverse 4 (some .int)])
def wsX5_addSquare : List Cond := .code yX5_addSquare cX5_addSquare 5 none :: ([.fieldLink RX5 37 "FieldFilter$Column" "upper" "I", .fieldLink RX5 42 "FieldFilter$Column" "lower" "I", .fieldLink RX5 9 "FieldFilter$Symmetric" "a00" "I", .fieldLink RX5 15 "FieldFilter$Symmetric" "a01" "I", .fieldLink RX5 18 "FieldFilter$Symmetric" "a11" "I", .methodLink RX5 21 yX5_set, .instanceMethod yX5_set, .selects RX5 yX5_set yX5_set, .initialized RX5, .code yX5_set cX5_set 4 none] ++ wsX00 ++ wsX50)
def wsX2_correct_r1 : List Cond := [Cond.fieldLink RX2 57 "FieldFilter$Measurement" "s" "I", Cond.fieldLink RX2 77 "FieldFilter$Measurement" "y" "I", Cond.fieldLink RX2 70 "FieldFilter$State" "x" "LFieldFilter$Column;", Cond.fieldLink RX2 51 "FieldFilter$Column" "upper" "I", Cond.fieldLink RX2 18 "FieldFilter$Measurement" "ph" "LFieldFilter$Column;", Cond.fieldLink RX2 54 "FieldFilter$Column" "lower" "I", Cond.fieldLink RX2 60 "FieldFilter$State" "p" "LFieldFilter$Symmetric;", Cond.static yX6_inverse, Cond.initialized RX6, Cond.code yX6_inverse cX6_inverse 4 (some .int), Cond.methodLink RX2 21 yX0_set, Cond.instanceMethod yX0_set, Cond.selects RX0 yX0_set yX0_set, Cond.initialized RX0, Cond.code yX0_set cX0_set 3 none, Cond.fieldLink RX0 9 "FieldFilter$Column" "upper" "I", Cond.fieldLink RX0 15 "FieldFilter$Column" "lower" "I", Cond.static yX6_less, Cond.code yX6_less cX6_less 2 (some .int), Cond.methodLink RX6 213 yJ9_floorMod_7cf53, Cond.static yJ9_floorMod_7cf53, Cond.initialized RJ9, Cond.code yJ9_floorMod_7cf53 cJ9_floorMod_7cf53 3 (some .int), Cond.methodLink RX2 97 yX5_addSquare]
def wsX2_correct_r2 : List Cond := [Cond.instanceMethod yX5_addSquare, Cond.selects RX5 yX5_addSquare yX5_addSquare, Cond.initialized RX5, Cond.code yX5_addSquare cX5_addSquare 5 none, Cond.fieldLink RX5 37 "FieldFilter$Column" "upper" "I", Cond.fieldLink RX5 42 "FieldFilter$Column" "lower" "I", Cond.fieldLink RX5 9 "FieldFilter$Symmetric" "a00" "I", Cond.fieldLink RX5 15 "FieldFilter$Symmetric" "a01" "I", Cond.fieldLink RX5 18 "FieldFilter$Symmetric" "a11" "I", Cond.methodLink RX5 21 yX5_set, Cond.instanceMethod yX5_set, Cond.selects RX5 yX5_set yX5_set, Cond.code yX5_set cX5_set 4 none]
def wsX2_correct : List Cond := .code yX2_correct cX2_correct 5 none :: ((wsX2_correct_r1 ++ wsX2_correct_r2) ++ wsX20 ++ wsX40 ++ wsX00 ++ wsX50)
def wsX2_take_r1 : List Cond := [Cond.fieldLink RX2 60 "FieldFilter$State" "p" "LFieldFilter$Symmetric;", Cond.fieldLink RX2 57 "FieldFilter$Measurement" "s" "I", Cond.fieldLink RX2 25 "FieldFilter$Measurement" "z" "I", Cond.fieldLink RX2 12 "FieldFilter$Measurement" "h" "LFieldFilter$Column;", Cond.fieldLink RX2 51 "FieldFilter$Column" "upper" "I", Cond.fieldLink RX2 70 "FieldFilter$State" "x" "LFieldFilter$Column;", Cond.fieldLink RX2 54 "FieldFilter$Column" "lower" "I", Cond.fieldLink RX2 77 "FieldFilter$Measurement" "y" "I", Cond.fieldLink RX2 83 "FieldFilter$Measurement" "g" "I", Cond.fieldLink RX2 35 "FieldFilter$Measurement" "threshold" "I", Cond.fieldLink RX2 86 "FieldFilter$Measurement" "gated" "Z", Cond.methodLink RX2 66 yX2_weigh, Cond.instanceMethod yX2_weigh, Cond.selects RX2 yX2_weigh yX2_weigh, Cond.initialized RX2, Cond.code yX2_weigh cX2_weigh 2 none, Cond.fieldLink RX2 18 "FieldFilter$Measurement" "ph" "LFieldFilter$Column;", Cond.fieldLink RX2 29 "FieldFilter$Measurement" "r" "I", Cond.methodLink RX2 42 yX0_copy, Cond.instanceMethod yX0_copy, Cond.selects RX0 yX0_copy yX0_copy, Cond.initialized RX0, Cond.code yX0_copy cX0_copy 2 none, Cond.fieldLink RX0 9 "FieldFilter$Column" "upper" "I"]
def wsX2_take_r2 : List Cond := [Cond.fieldLink RX0 15 "FieldFilter$Column" "lower" "I", Cond.methodLink RX0 18 yX0_set, Cond.instanceMethod yX0_set, Cond.selects RX0 yX0_set yX0_set, Cond.code yX0_set cX0_set 3 none, Cond.methodLink RX2 46 yX5_multiply, Cond.instanceMethod yX5_multiply, Cond.selects RX5 yX5_multiply yX5_multiply, Cond.initialized RX5, Cond.code yX5_multiply cX5_multiply 2 none, Cond.fieldLink RX5 9 "FieldFilter$Symmetric" "a00" "I", Cond.fieldLink RX5 37 "FieldFilter$Column" "upper" "I", Cond.fieldLink RX5 15 "FieldFilter$Symmetric" "a01" "I", Cond.fieldLink RX5 42 "FieldFilter$Column" "lower" "I", Cond.fieldLink RX5 18 "FieldFilter$Symmetric" "a11" "I", Cond.methodLink RX5 45 yX0_set, Cond.static yX6_less, Cond.initialized RX6, Cond.code yX6_less cX6_less 2 (some .int), Cond.methodLink RX6 213 yJ9_floorMod_7cf53, Cond.static yJ9_floorMod_7cf53, Cond.initialized RJ9, Cond.code yJ9_floorMod_7cf53 cJ9_floorMod_7cf53 3 (some .int), Cond.static yX6_divide]
def wsX2_take_r3 : List Cond := [Cond.code yX6_divide cX6_divide 2 (some .int), Cond.methodLink RX6 218 yX6_inverse, Cond.static yX6_inverse, Cond.code yX6_inverse cX6_inverse 4 (some .int), Cond.methodLink RX2 89 yX2_correct, Cond.instanceMethod yX2_correct, Cond.selects RX2 yX2_correct yX2_correct, Cond.code yX2_correct cX2_correct 5 none, Cond.methodLink RX2 21 yX0_set, Cond.methodLink RX2 97 yX5_addSquare, Cond.instanceMethod yX5_addSquare, Cond.selects RX5 yX5_addSquare yX5_addSquare, Cond.code yX5_addSquare cX5_addSquare 5 none, Cond.methodLink RX5 21 yX5_set, Cond.instanceMethod yX5_set, Cond.selects RX5 yX5_set yX5_set, Cond.code yX5_set cX5_set 4 none]
def wsX2_take : List Cond := .code yX2_take cX2_take 2 (some .boolean) :: ((wsX2_take_r1 ++ (wsX2_take_r2 ++ wsX2_take_r3)) ++ wsX40 ++ wsX20 ++ wsX00 ++ wsX50)
def wsX1_settle_r1 : List Cond := [Cond.fieldLink RX1 66 "FieldFilter$Estimator" "time" "I", Cond.fieldLink RX1 30 "FieldFilter$Estimator" "predicted" "[LFieldFilter$State;", Cond.fieldLink RX1 34 "FieldFilter$Estimator" "behind" "[LFieldFilter$State;", Cond.fieldLink RX1 12 "FieldFilter$Estimator" "motion" "LFieldFilter$Motion;", Cond.fieldLink RX1 69 "FieldFilter$Estimator" "toldCount" "I", Cond.fieldLink RX1 20 "FieldFilter$Estimator" "told" "[LFieldFilter$Measurement;", Cond.methodLink RX1 79 yX4_copy, Cond.instanceMethod yX4_copy, Cond.selects RX4 yX4_copy yX4_copy, Cond.initialized RX4, Cond.code yX4_copy cX4_copy 2 none, Cond.fieldLink RX4 10 "FieldFilter$State" "x" "LFieldFilter$Column;", Cond.fieldLink RX4 19 "FieldFilter$State" "p" "LFieldFilter$Symmetric;", Cond.methodLink RX4 23 yX0_copy, Cond.instanceMethod yX0_copy, Cond.selects RX0 yX0_copy yX0_copy, Cond.initialized RX0, Cond.code yX0_copy cX0_copy 2 none, Cond.fieldLink RX0 9 "FieldFilter$Column" "upper" "I", Cond.fieldLink RX0 15 "FieldFilter$Column" "lower" "I", Cond.methodLink RX0 18 yX0_set, Cond.instanceMethod yX0_set, Cond.selects RX0 yX0_set yX0_set, Cond.code yX0_set cX0_set 3 none]
def wsX1_settle_r2 : List Cond := [Cond.methodLink RX4 27 yX5_copy, Cond.instanceMethod yX5_copy, Cond.selects RX5 yX5_copy yX5_copy, Cond.initialized RX5, Cond.code yX5_copy cX5_copy 2 none, Cond.fieldLink RX5 9 "FieldFilter$Symmetric" "a00" "I", Cond.fieldLink RX5 15 "FieldFilter$Symmetric" "a01" "I", Cond.fieldLink RX5 18 "FieldFilter$Symmetric" "a11" "I", Cond.methodLink RX5 21 yX5_set, Cond.instanceMethod yX5_set, Cond.selects RX5 yX5_set yX5_set, Cond.code yX5_set cX5_set 4 none, Cond.methodLink RX1 83 yX3_move, Cond.instanceMethod yX3_move, Cond.selects RX3 yX3_move yX3_move, Cond.initialized RX3, Cond.code yX3_move cX3_move 3 none, Cond.fieldLink RX3 43 "FieldFilter$State" "x" "LFieldFilter$Column;", Cond.fieldLink RX3 26 "FieldFilter$Motion" "f00" "I", Cond.fieldLink RX3 49 "FieldFilter$Column" "upper" "I", Cond.fieldLink RX3 30 "FieldFilter$Motion" "f01" "I", Cond.fieldLink RX3 54 "FieldFilter$Column" "lower" "I", Cond.fieldLink RX3 33 "FieldFilter$Motion" "f10" "I", Cond.fieldLink RX3 36 "FieldFilter$Motion" "f11" "I"]
def wsX1_settle_r3 : List Cond := [Cond.fieldLink RX3 60 "FieldFilter$State" "p" "LFieldFilter$Symmetric;", Cond.methodLink RX3 57 yX0_set, Cond.methodLink RX3 63 yX3_spread, Cond.instanceMethod yX3_spread, Cond.selects RX3 yX3_spread yX3_spread, Cond.code yX3_spread cX3_spread 6 none, Cond.fieldLink RX3 66 "FieldFilter$Symmetric" "a00" "I", Cond.fieldLink RX3 69 "FieldFilter$Symmetric" "a01" "I", Cond.fieldLink RX3 72 "FieldFilter$Symmetric" "a11" "I", Cond.fieldLink RX3 12 "FieldFilter$Motion" "q" "LFieldFilter$Symmetric;", Cond.methodLink RX3 22 yX5_set, Cond.methodLink RX1 86 yX2_countsAt, Cond.instanceMethod yX2_countsAt, Cond.selects RX2 yX2_countsAt yX2_countsAt, Cond.initialized RX2, Cond.code yX2_countsAt cX2_countsAt 2 (some .boolean), Cond.fieldLink RX2 32 "FieldFilter$Measurement" "time" "I", Cond.fieldLink RX2 38 "FieldFilter$Measurement" "dropped" "Z", Cond.methodLink RX1 90 yX2_take, Cond.instanceMethod yX2_take, Cond.selects RX2 yX2_take yX2_take, Cond.code yX2_take cX2_take 2 (some .boolean), Cond.fieldLink RX2 60 "FieldFilter$State" "p" "LFieldFilter$Symmetric;", Cond.fieldLink RX2 57 "FieldFilter$Measurement" "s" "I"]
def wsX1_settle_r4 : List Cond := [Cond.fieldLink RX2 25 "FieldFilter$Measurement" "z" "I", Cond.fieldLink RX2 12 "FieldFilter$Measurement" "h" "LFieldFilter$Column;", Cond.fieldLink RX2 51 "FieldFilter$Column" "upper" "I", Cond.fieldLink RX2 70 "FieldFilter$State" "x" "LFieldFilter$Column;", Cond.fieldLink RX2 54 "FieldFilter$Column" "lower" "I", Cond.fieldLink RX2 77 "FieldFilter$Measurement" "y" "I", Cond.fieldLink RX2 83 "FieldFilter$Measurement" "g" "I", Cond.fieldLink RX2 35 "FieldFilter$Measurement" "threshold" "I", Cond.fieldLink RX2 86 "FieldFilter$Measurement" "gated" "Z", Cond.methodLink RX2 66 yX2_weigh, Cond.instanceMethod yX2_weigh, Cond.selects RX2 yX2_weigh yX2_weigh, Cond.code yX2_weigh cX2_weigh 2 none, Cond.fieldLink RX2 18 "FieldFilter$Measurement" "ph" "LFieldFilter$Column;", Cond.fieldLink RX2 29 "FieldFilter$Measurement" "r" "I", Cond.methodLink RX2 42 yX0_copy, Cond.methodLink RX2 46 yX5_multiply, Cond.instanceMethod yX5_multiply, Cond.selects RX5 yX5_multiply yX5_multiply, Cond.code yX5_multiply cX5_multiply 2 none, Cond.fieldLink RX5 37 "FieldFilter$Column" "upper" "I", Cond.fieldLink RX5 42 "FieldFilter$Column" "lower" "I", Cond.methodLink RX5 45 yX0_set, Cond.static yX6_less]
def wsX1_settle_r5 : List Cond := [Cond.initialized RX6, Cond.code yX6_less cX6_less 2 (some .int), Cond.methodLink RX6 213 yJ9_floorMod_7cf53, Cond.static yJ9_floorMod_7cf53, Cond.initialized RJ9, Cond.code yJ9_floorMod_7cf53 cJ9_floorMod_7cf53 3 (some .int), Cond.static yX6_divide, Cond.code yX6_divide cX6_divide 2 (some .int), Cond.methodLink RX6 218 yX6_inverse, Cond.static yX6_inverse, Cond.code yX6_inverse cX6_inverse 4 (some .int), Cond.methodLink RX2 89 yX2_correct, Cond.instanceMethod yX2_correct, Cond.selects RX2 yX2_correct yX2_correct, Cond.code yX2_correct cX2_correct 5 none, Cond.methodLink RX2 21 yX0_set, Cond.methodLink RX2 97 yX5_addSquare, Cond.instanceMethod yX5_addSquare, Cond.selects RX5 yX5_addSquare yX5_addSquare, Cond.code yX5_addSquare cX5_addSquare 5 none]
def wsX1_settle : List Cond := .code yX1_settle cX1_settle 3 (some .boolean) :: ((wsX1_settle_r1 ++ (wsX1_settle_r2 ++ (wsX1_settle_r3 ++ (wsX1_settle_r4 ++ wsX1_settle_r5)))) ++ wsX10 ++ wsX40 ++ wsX00 ++ wsX50 ++ wsX30 ++ wsX20)
def wsX1_startFrom_r1 : List Cond := [Cond.fieldLink RX1 30 "FieldFilter$Estimator" "predicted" "[LFieldFilter$State;", Cond.fieldLink RX1 43 "FieldFilter$State" "x" "LFieldFilter$Column;", Cond.fieldLink RX1 53 "FieldFilter$State" "p" "LFieldFilter$Symmetric;", Cond.methodLink RX1 47 yX0_set, Cond.instanceMethod yX0_set, Cond.selects RX0 yX0_set yX0_set, Cond.initialized RX0, Cond.code yX0_set cX0_set 3 none, Cond.fieldLink RX0 9 "FieldFilter$Column" "upper" "I", Cond.fieldLink RX0 15 "FieldFilter$Column" "lower" "I", Cond.methodLink RX1 57 yX5_set, Cond.instanceMethod yX5_set, Cond.selects RX5 yX5_set yX5_set, Cond.initialized RX5, Cond.code yX5_set cX5_set 4 none, Cond.fieldLink RX5 9 "FieldFilter$Symmetric" "a00" "I", Cond.fieldLink RX5 15 "FieldFilter$Symmetric" "a01" "I", Cond.fieldLink RX5 18 "FieldFilter$Symmetric" "a11" "I", Cond.methodLink RX1 62 yX1_settle, Cond.instanceMethod yX1_settle, Cond.selects RX1 yX1_settle yX1_settle, Cond.initialized RX1, Cond.code yX1_settle cX1_settle 3 (some .boolean), Cond.fieldLink RX1 66 "FieldFilter$Estimator" "time" "I"]
def wsX1_startFrom_r2 : List Cond := [Cond.fieldLink RX1 34 "FieldFilter$Estimator" "behind" "[LFieldFilter$State;", Cond.fieldLink RX1 12 "FieldFilter$Estimator" "motion" "LFieldFilter$Motion;", Cond.fieldLink RX1 69 "FieldFilter$Estimator" "toldCount" "I", Cond.fieldLink RX1 20 "FieldFilter$Estimator" "told" "[LFieldFilter$Measurement;", Cond.methodLink RX1 79 yX4_copy, Cond.instanceMethod yX4_copy, Cond.selects RX4 yX4_copy yX4_copy, Cond.initialized RX4, Cond.code yX4_copy cX4_copy 2 none, Cond.fieldLink RX4 10 "FieldFilter$State" "x" "LFieldFilter$Column;", Cond.fieldLink RX4 19 "FieldFilter$State" "p" "LFieldFilter$Symmetric;", Cond.methodLink RX4 23 yX0_copy, Cond.instanceMethod yX0_copy, Cond.selects RX0 yX0_copy yX0_copy, Cond.code yX0_copy cX0_copy 2 none, Cond.methodLink RX0 18 yX0_set, Cond.methodLink RX4 27 yX5_copy, Cond.instanceMethod yX5_copy, Cond.selects RX5 yX5_copy yX5_copy, Cond.code yX5_copy cX5_copy 2 none, Cond.methodLink RX5 21 yX5_set, Cond.methodLink RX1 83 yX3_move, Cond.instanceMethod yX3_move, Cond.selects RX3 yX3_move yX3_move]
def wsX1_startFrom_r3 : List Cond := [Cond.initialized RX3, Cond.code yX3_move cX3_move 3 none, Cond.fieldLink RX3 43 "FieldFilter$State" "x" "LFieldFilter$Column;", Cond.fieldLink RX3 26 "FieldFilter$Motion" "f00" "I", Cond.fieldLink RX3 49 "FieldFilter$Column" "upper" "I", Cond.fieldLink RX3 30 "FieldFilter$Motion" "f01" "I", Cond.fieldLink RX3 54 "FieldFilter$Column" "lower" "I", Cond.fieldLink RX3 33 "FieldFilter$Motion" "f10" "I", Cond.fieldLink RX3 36 "FieldFilter$Motion" "f11" "I", Cond.fieldLink RX3 60 "FieldFilter$State" "p" "LFieldFilter$Symmetric;", Cond.methodLink RX3 57 yX0_set, Cond.methodLink RX3 63 yX3_spread, Cond.instanceMethod yX3_spread, Cond.selects RX3 yX3_spread yX3_spread, Cond.code yX3_spread cX3_spread 6 none, Cond.fieldLink RX3 66 "FieldFilter$Symmetric" "a00" "I", Cond.fieldLink RX3 69 "FieldFilter$Symmetric" "a01" "I", Cond.fieldLink RX3 72 "FieldFilter$Symmetric" "a11" "I", Cond.fieldLink RX3 12 "FieldFilter$Motion" "q" "LFieldFilter$Symmetric;", Cond.methodLink RX3 22 yX5_set, Cond.methodLink RX1 86 yX2_countsAt, Cond.instanceMethod yX2_countsAt, Cond.selects RX2 yX2_countsAt yX2_countsAt, Cond.initialized RX2]
def wsX1_startFrom_r4 : List Cond := [Cond.code yX2_countsAt cX2_countsAt 2 (some .boolean), Cond.fieldLink RX2 32 "FieldFilter$Measurement" "time" "I", Cond.fieldLink RX2 38 "FieldFilter$Measurement" "dropped" "Z", Cond.methodLink RX1 90 yX2_take, Cond.instanceMethod yX2_take, Cond.selects RX2 yX2_take yX2_take, Cond.code yX2_take cX2_take 2 (some .boolean), Cond.fieldLink RX2 60 "FieldFilter$State" "p" "LFieldFilter$Symmetric;", Cond.fieldLink RX2 57 "FieldFilter$Measurement" "s" "I", Cond.fieldLink RX2 25 "FieldFilter$Measurement" "z" "I", Cond.fieldLink RX2 12 "FieldFilter$Measurement" "h" "LFieldFilter$Column;", Cond.fieldLink RX2 51 "FieldFilter$Column" "upper" "I", Cond.fieldLink RX2 70 "FieldFilter$State" "x" "LFieldFilter$Column;", Cond.fieldLink RX2 54 "FieldFilter$Column" "lower" "I", Cond.fieldLink RX2 77 "FieldFilter$Measurement" "y" "I", Cond.fieldLink RX2 83 "FieldFilter$Measurement" "g" "I", Cond.fieldLink RX2 35 "FieldFilter$Measurement" "threshold" "I", Cond.fieldLink RX2 86 "FieldFilter$Measurement" "gated" "Z", Cond.methodLink RX2 66 yX2_weigh, Cond.instanceMethod yX2_weigh, Cond.selects RX2 yX2_weigh yX2_weigh, Cond.code yX2_weigh cX2_weigh 2 none, Cond.fieldLink RX2 18 "FieldFilter$Measurement" "ph" "LFieldFilter$Column;", Cond.fieldLink RX2 29 "FieldFilter$Measurement" "r" "I"]
def wsX1_startFrom_r5 : List Cond := [Cond.methodLink RX2 42 yX0_copy, Cond.methodLink RX2 46 yX5_multiply, Cond.instanceMethod yX5_multiply, Cond.selects RX5 yX5_multiply yX5_multiply, Cond.code yX5_multiply cX5_multiply 2 none, Cond.fieldLink RX5 37 "FieldFilter$Column" "upper" "I", Cond.fieldLink RX5 42 "FieldFilter$Column" "lower" "I", Cond.methodLink RX5 45 yX0_set, Cond.static yX6_less, Cond.initialized RX6, Cond.code yX6_less cX6_less 2 (some .int), Cond.methodLink RX6 213 yJ9_floorMod_7cf53, Cond.static yJ9_floorMod_7cf53, Cond.initialized RJ9, Cond.code yJ9_floorMod_7cf53 cJ9_floorMod_7cf53 3 (some .int), Cond.static yX6_divide, Cond.code yX6_divide cX6_divide 2 (some .int), Cond.methodLink RX6 218 yX6_inverse, Cond.static yX6_inverse, Cond.code yX6_inverse cX6_inverse 4 (some .int), Cond.methodLink RX2 89 yX2_correct, Cond.instanceMethod yX2_correct, Cond.selects RX2 yX2_correct yX2_correct, Cond.code yX2_correct cX2_correct 5 none]
def wsX1_startFrom_r6 : List Cond := [Cond.methodLink RX2 21 yX0_set, Cond.methodLink RX2 97 yX5_addSquare, Cond.instanceMethod yX5_addSquare, Cond.selects RX5 yX5_addSquare yX5_addSquare, Cond.code yX5_addSquare cX5_addSquare 5 none]
def wsX1_startFrom : List Cond := .code yX1_startFrom cX1_startFrom 6 none :: ((wsX1_startFrom_r1 ++ (wsX1_startFrom_r2 ++ (wsX1_startFrom_r3 ++ (wsX1_startFrom_r4 ++ (wsX1_startFrom_r5 ++ wsX1_startFrom_r6))))) ++ wsX10 ++ wsX40 ++ wsX00 ++ wsX50 ++ wsX30 ++ wsX20)
def wsX1_current : List Cond := .code yX1_current cX1_current 1 (some (.object "FieldFilter$State")) :: ([.fieldLink RX1 34 "FieldFilter$Estimator" "behind" "[LFieldFilter$State;", .fieldLink RX1 66 "FieldFilter$Estimator" "time" "I"] ++ wsX10)
def wsX1_countGated : List Cond := .code yX1_countGated cX1_countGated 3 (some .int) :: ([.fieldLink RX1 69 "FieldFilter$Estimator" "toldCount" "I", .fieldLink RX1 20 "FieldFilter$Estimator" "told" "[LFieldFilter$Measurement;", .fieldLink RX1 72 "FieldFilter$Measurement" "gated" "Z", .fieldLink RX1 76 "FieldFilter$Measurement" "dropped" "Z"] ++ wsX10 ++ wsX20)
def wsX5_determinant : List Cond := .code yX5_determinant cX5_determinant 1 (some .int) :: ([.fieldLink RX5 9 "FieldFilter$Symmetric" "a00" "I", .fieldLink RX5 18 "FieldFilter$Symmetric" "a11" "I", .fieldLink RX5 15 "FieldFilter$Symmetric" "a01" "I", .static yX6_less, .initialized RX6, .code yX6_less cX6_less 2 (some .int), .methodLink RX6 213 yJ9_floorMod_7cf53, .static yJ9_floorMod_7cf53, .initialized RJ9, .code yJ9_floorMod_7cf53 cJ9_floorMod_7cf53 3 (some .int)] ++ wsX50)
def wsX5_invert : List Cond := .code yX5_invert cX5_invert 4 (some .boolean) :: ([.fieldLink RX5 18 "FieldFilter$Symmetric" "a11" "I", .fieldLink RX5 15 "FieldFilter$Symmetric" "a01" "I", .fieldLink RX5 9 "FieldFilter$Symmetric" "a00" "I", .methodLink RX5 29 yX5_determinant, .instanceMethod yX5_determinant, .selects RX5 yX5_determinant yX5_determinant, .initialized RX5, .code yX5_determinant cX5_determinant 1 (some .int), .static yX6_less, .initialized RX6, .code yX6_less cX6_less 2 (some .int), .methodLink RX6 213 yJ9_floorMod_7cf53, .static yJ9_floorMod_7cf53, .initialized RJ9, .code yJ9_floorMod_7cf53 cJ9_floorMod_7cf53 3 (some .int), .static yX6_inverse, .code yX6_inverse cX6_inverse 4 (some .int), .methodLink RX5 21 yX5_set, .instanceMethod yX5_set, .selects RX5 yX5_set yX5_set, .code yX5_set cX5_set 4 none] ++ wsX50)
def wsX4_invert_r1 : List Cond := [Cond.fieldLink RX4 19 "FieldFilter$State" "p" "LFieldFilter$Symmetric;", Cond.fieldLink RX4 10 "FieldFilter$State" "x" "LFieldFilter$Column;", Cond.methodLink RX4 46 yX5_invert, Cond.instanceMethod yX5_invert, Cond.selects RX5 yX5_invert yX5_invert, Cond.initialized RX5, Cond.code yX5_invert cX5_invert 4 (some .boolean), Cond.fieldLink RX5 18 "FieldFilter$Symmetric" "a11" "I", Cond.fieldLink RX5 15 "FieldFilter$Symmetric" "a01" "I", Cond.fieldLink RX5 9 "FieldFilter$Symmetric" "a00" "I", Cond.methodLink RX5 29 yX5_determinant, Cond.instanceMethod yX5_determinant, Cond.selects RX5 yX5_determinant yX5_determinant, Cond.code yX5_determinant cX5_determinant 1 (some .int), Cond.static yX6_less, Cond.initialized RX6, Cond.code yX6_less cX6_less 2 (some .int), Cond.methodLink RX6 213 yJ9_floorMod_7cf53, Cond.static yJ9_floorMod_7cf53, Cond.initialized RJ9, Cond.code yJ9_floorMod_7cf53 cJ9_floorMod_7cf53 3 (some .int), Cond.static yX6_inverse, Cond.code yX6_inverse cX6_inverse 4 (some .int), Cond.methodLink RX5 21 yX5_set]
def wsX4_invert_r2 : List Cond := [Cond.instanceMethod yX5_set, Cond.selects RX5 yX5_set yX5_set, Cond.code yX5_set cX5_set 4 none, Cond.methodLink RX4 23 yX0_copy, Cond.instanceMethod yX0_copy, Cond.selects RX0 yX0_copy yX0_copy, Cond.initialized RX0, Cond.code yX0_copy cX0_copy 2 none, Cond.fieldLink RX0 9 "FieldFilter$Column" "upper" "I", Cond.fieldLink RX0 15 "FieldFilter$Column" "lower" "I", Cond.methodLink RX0 18 yX0_set, Cond.instanceMethod yX0_set, Cond.selects RX0 yX0_set yX0_set, Cond.code yX0_set cX0_set 3 none, Cond.methodLink RX4 50 yX5_multiply, Cond.instanceMethod yX5_multiply, Cond.selects RX5 yX5_multiply yX5_multiply, Cond.code yX5_multiply cX5_multiply 2 none, Cond.fieldLink RX5 37 "FieldFilter$Column" "upper" "I", Cond.fieldLink RX5 42 "FieldFilter$Column" "lower" "I", Cond.methodLink RX5 45 yX0_set]
def wsX4_invert : List Cond := .code yX4_invert cX4_invert 2 (some .boolean) :: ((wsX4_invert_r1 ++ wsX4_invert_r2) ++ wsX40 ++ wsX50 ++ wsX00)
def wsX1_predictSecondWay_r1 : List Cond := [Cond.fieldLink RX1 12 "FieldFilter$Estimator" "motion" "LFieldFilter$Motion;", Cond.methodLink RX1 94 yX4_invert, Cond.instanceMethod yX4_invert, Cond.selects RX4 yX4_invert yX4_invert, Cond.initialized RX4, Cond.code yX4_invert cX4_invert 2 (some .boolean), Cond.fieldLink RX4 19 "FieldFilter$State" "p" "LFieldFilter$Symmetric;", Cond.fieldLink RX4 10 "FieldFilter$State" "x" "LFieldFilter$Column;", Cond.methodLink RX4 46 yX5_invert, Cond.instanceMethod yX5_invert, Cond.selects RX5 yX5_invert yX5_invert, Cond.initialized RX5, Cond.code yX5_invert cX5_invert 4 (some .boolean), Cond.fieldLink RX5 18 "FieldFilter$Symmetric" "a11" "I", Cond.fieldLink RX5 15 "FieldFilter$Symmetric" "a01" "I", Cond.fieldLink RX5 9 "FieldFilter$Symmetric" "a00" "I", Cond.methodLink RX5 29 yX5_determinant, Cond.instanceMethod yX5_determinant, Cond.selects RX5 yX5_determinant yX5_determinant, Cond.code yX5_determinant cX5_determinant 1 (some .int), Cond.static yX6_less, Cond.initialized RX6, Cond.code yX6_less cX6_less 2 (some .int), Cond.methodLink RX6 213 yJ9_floorMod_7cf53]
def wsX1_predictSecondWay_r2 : List Cond := [Cond.static yJ9_floorMod_7cf53, Cond.initialized RJ9, Cond.code yJ9_floorMod_7cf53 cJ9_floorMod_7cf53 3 (some .int), Cond.static yX6_inverse, Cond.code yX6_inverse cX6_inverse 4 (some .int), Cond.methodLink RX5 21 yX5_set, Cond.instanceMethod yX5_set, Cond.selects RX5 yX5_set yX5_set, Cond.code yX5_set cX5_set 4 none, Cond.methodLink RX4 23 yX0_copy, Cond.instanceMethod yX0_copy, Cond.selects RX0 yX0_copy yX0_copy, Cond.initialized RX0, Cond.code yX0_copy cX0_copy 2 none, Cond.fieldLink RX0 9 "FieldFilter$Column" "upper" "I", Cond.fieldLink RX0 15 "FieldFilter$Column" "lower" "I", Cond.methodLink RX0 18 yX0_set, Cond.instanceMethod yX0_set, Cond.selects RX0 yX0_set yX0_set, Cond.code yX0_set cX0_set 3 none, Cond.methodLink RX4 50 yX5_multiply, Cond.instanceMethod yX5_multiply, Cond.selects RX5 yX5_multiply yX5_multiply, Cond.code yX5_multiply cX5_multiply 2 none]
def wsX1_predictSecondWay_r3 : List Cond := [Cond.fieldLink RX5 37 "FieldFilter$Column" "upper" "I", Cond.fieldLink RX5 42 "FieldFilter$Column" "lower" "I", Cond.methodLink RX5 45 yX0_set, Cond.methodLink RX1 83 yX3_move, Cond.instanceMethod yX3_move, Cond.selects RX3 yX3_move yX3_move, Cond.initialized RX3, Cond.code yX3_move cX3_move 3 none, Cond.fieldLink RX3 43 "FieldFilter$State" "x" "LFieldFilter$Column;", Cond.fieldLink RX3 26 "FieldFilter$Motion" "f00" "I", Cond.fieldLink RX3 49 "FieldFilter$Column" "upper" "I", Cond.fieldLink RX3 30 "FieldFilter$Motion" "f01" "I", Cond.fieldLink RX3 54 "FieldFilter$Column" "lower" "I", Cond.fieldLink RX3 33 "FieldFilter$Motion" "f10" "I", Cond.fieldLink RX3 36 "FieldFilter$Motion" "f11" "I", Cond.fieldLink RX3 60 "FieldFilter$State" "p" "LFieldFilter$Symmetric;", Cond.methodLink RX3 57 yX0_set, Cond.methodLink RX3 63 yX3_spread, Cond.instanceMethod yX3_spread, Cond.selects RX3 yX3_spread yX3_spread, Cond.code yX3_spread cX3_spread 6 none, Cond.fieldLink RX3 66 "FieldFilter$Symmetric" "a00" "I", Cond.fieldLink RX3 69 "FieldFilter$Symmetric" "a01" "I", Cond.fieldLink RX3 72 "FieldFilter$Symmetric" "a11" "I"]
def wsX1_predictSecondWay_r4 : List Cond := [Cond.fieldLink RX3 12 "FieldFilter$Motion" "q" "LFieldFilter$Symmetric;", Cond.methodLink RX3 22 yX5_set]
def wsX1_predictSecondWay : List Cond := .code yX1_predictSecondWay cX1_predictSecondWay 3 (some .boolean) :: ((wsX1_predictSecondWay_r1 ++ (wsX1_predictSecondWay_r2 ++ (wsX1_predictSecondWay_r3 ++ wsX1_predictSecondWay_r4))) ++ wsX10 ++ wsX40 ++ wsX50 ++ wsX00 ++ wsX30)
def wsX2_inform_r1 : List Cond := [Cond.fieldLink RX2 29 "FieldFilter$Measurement" "r" "I", Cond.fieldLink RX2 25 "FieldFilter$Measurement" "z" "I", Cond.fieldLink RX2 70 "FieldFilter$State" "x" "LFieldFilter$Column;", Cond.fieldLink RX2 60 "FieldFilter$State" "p" "LFieldFilter$Symmetric;", Cond.fieldLink RX2 12 "FieldFilter$Measurement" "h" "LFieldFilter$Column;", Cond.fieldLink RX2 51 "FieldFilter$Column" "upper" "I", Cond.fieldLink RX2 54 "FieldFilter$Column" "lower" "I", Cond.static yX6_inverse, Cond.initialized RX6, Cond.code yX6_inverse cX6_inverse 4 (some .int), Cond.methodLink RX2 97 yX5_addSquare, Cond.instanceMethod yX5_addSquare, Cond.selects RX5 yX5_addSquare yX5_addSquare, Cond.initialized RX5, Cond.code yX5_addSquare cX5_addSquare 5 none, Cond.fieldLink RX5 37 "FieldFilter$Column" "upper" "I", Cond.fieldLink RX5 42 "FieldFilter$Column" "lower" "I", Cond.fieldLink RX5 9 "FieldFilter$Symmetric" "a00" "I", Cond.fieldLink RX5 15 "FieldFilter$Symmetric" "a01" "I", Cond.fieldLink RX5 18 "FieldFilter$Symmetric" "a11" "I", Cond.methodLink RX5 21 yX5_set, Cond.instanceMethod yX5_set, Cond.selects RX5 yX5_set yX5_set, Cond.code yX5_set cX5_set 4 none]
def wsX2_inform_r2 : List Cond := [Cond.methodLink RX2 21 yX0_set, Cond.instanceMethod yX0_set, Cond.selects RX0 yX0_set yX0_set, Cond.initialized RX0, Cond.code yX0_set cX0_set 3 none, Cond.fieldLink RX0 9 "FieldFilter$Column" "upper" "I", Cond.fieldLink RX0 15 "FieldFilter$Column" "lower" "I"]
def wsX2_inform : List Cond := .code yX2_inform cX2_inform 5 (some .boolean) :: ((wsX2_inform_r1 ++ wsX2_inform_r2) ++ wsX20 ++ wsX40 ++ wsX00 ++ wsX50)
def wsX1_informAll_r1 : List Cond := [Cond.fieldLink RX1 69 "FieldFilter$Estimator" "toldCount" "I", Cond.fieldLink RX1 20 "FieldFilter$Estimator" "told" "[LFieldFilter$Measurement;", Cond.fieldLink RX1 72 "FieldFilter$Measurement" "gated" "Z", Cond.methodLink RX1 86 yX2_countsAt, Cond.instanceMethod yX2_countsAt, Cond.selects RX2 yX2_countsAt yX2_countsAt, Cond.initialized RX2, Cond.code yX2_countsAt cX2_countsAt 2 (some .boolean), Cond.fieldLink RX2 32 "FieldFilter$Measurement" "time" "I", Cond.fieldLink RX2 38 "FieldFilter$Measurement" "dropped" "Z", Cond.methodLink RX1 105 yX2_inform, Cond.instanceMethod yX2_inform, Cond.selects RX2 yX2_inform yX2_inform, Cond.code yX2_inform cX2_inform 5 (some .boolean), Cond.fieldLink RX2 29 "FieldFilter$Measurement" "r" "I", Cond.fieldLink RX2 25 "FieldFilter$Measurement" "z" "I", Cond.fieldLink RX2 70 "FieldFilter$State" "x" "LFieldFilter$Column;", Cond.fieldLink RX2 60 "FieldFilter$State" "p" "LFieldFilter$Symmetric;", Cond.fieldLink RX2 12 "FieldFilter$Measurement" "h" "LFieldFilter$Column;", Cond.fieldLink RX2 51 "FieldFilter$Column" "upper" "I", Cond.fieldLink RX2 54 "FieldFilter$Column" "lower" "I", Cond.static yX6_inverse, Cond.initialized RX6, Cond.code yX6_inverse cX6_inverse 4 (some .int)]
def wsX1_informAll_r2 : List Cond := [Cond.methodLink RX2 97 yX5_addSquare, Cond.instanceMethod yX5_addSquare, Cond.selects RX5 yX5_addSquare yX5_addSquare, Cond.initialized RX5, Cond.code yX5_addSquare cX5_addSquare 5 none, Cond.fieldLink RX5 37 "FieldFilter$Column" "upper" "I", Cond.fieldLink RX5 42 "FieldFilter$Column" "lower" "I", Cond.fieldLink RX5 9 "FieldFilter$Symmetric" "a00" "I", Cond.fieldLink RX5 15 "FieldFilter$Symmetric" "a01" "I", Cond.fieldLink RX5 18 "FieldFilter$Symmetric" "a11" "I", Cond.methodLink RX5 21 yX5_set, Cond.instanceMethod yX5_set, Cond.selects RX5 yX5_set yX5_set, Cond.code yX5_set cX5_set 4 none, Cond.methodLink RX2 21 yX0_set, Cond.instanceMethod yX0_set, Cond.selects RX0 yX0_set yX0_set, Cond.initialized RX0, Cond.code yX0_set cX0_set 3 none, Cond.fieldLink RX0 9 "FieldFilter$Column" "upper" "I", Cond.fieldLink RX0 15 "FieldFilter$Column" "lower" "I"]
def wsX1_informAll : List Cond := .code yX1_informAll cX1_informAll 4 (some .boolean) :: ((wsX1_informAll_r1 ++ wsX1_informAll_r2) ++ wsX10 ++ wsX20 ++ wsX40 ++ wsX00 ++ wsX50)
def wsX1_findSecondWay_r1 : List Cond := [Cond.classLink RX1 28 RX4, Cond.instantiable RX4 2, Cond.initialized RX4, Cond.fieldLink RX1 30 "FieldFilter$Estimator" "predicted" "[LFieldFilter$State;", Cond.fieldLink RX1 66 "FieldFilter$Estimator" "time" "I", Cond.instanceMethod yX4_init, Cond.code yX4_init cX4_init 1 none, Cond.methodLink RX4 1 objectInit, Cond.instanceMethod objectInit, Cond.code objectInit ⟨#[0xb1]⟩ 1 none, Cond.classLink RX4 7 RX0, Cond.instantiable RX0 2, Cond.initialized RX0, Cond.fieldLink RX4 10 "FieldFilter$State" "x" "LFieldFilter$Column;", Cond.classLink RX4 16 RX5, Cond.instantiable RX5 3, Cond.initialized RX5, Cond.fieldLink RX4 19 "FieldFilter$State" "p" "LFieldFilter$Symmetric;", Cond.instanceMethod yX0_init, Cond.code yX0_init cX0_init 1 none, Cond.methodLink RX0 3 objectInit, Cond.instanceMethod yX5_init, Cond.code yX5_init cX5_init 1 none, Cond.methodLink RX5 3 objectInit]
def wsX1_findSecondWay_r2 : List Cond := [Cond.methodLink RX1 94 yX4_invert, Cond.instanceMethod yX4_invert, Cond.selects RX4 yX4_invert yX4_invert, Cond.code yX4_invert cX4_invert 2 (some .boolean), Cond.methodLink RX4 46 yX5_invert, Cond.instanceMethod yX5_invert, Cond.selects RX5 yX5_invert yX5_invert, Cond.code yX5_invert cX5_invert 4 (some .boolean), Cond.fieldLink RX5 18 "FieldFilter$Symmetric" "a11" "I", Cond.fieldLink RX5 15 "FieldFilter$Symmetric" "a01" "I", Cond.fieldLink RX5 9 "FieldFilter$Symmetric" "a00" "I", Cond.methodLink RX5 29 yX5_determinant, Cond.instanceMethod yX5_determinant, Cond.selects RX5 yX5_determinant yX5_determinant, Cond.code yX5_determinant cX5_determinant 1 (some .int), Cond.static yX6_less, Cond.initialized RX6, Cond.code yX6_less cX6_less 2 (some .int), Cond.methodLink RX6 213 yJ9_floorMod_7cf53, Cond.static yJ9_floorMod_7cf53, Cond.initialized RJ9, Cond.code yJ9_floorMod_7cf53 cJ9_floorMod_7cf53 3 (some .int), Cond.static yX6_inverse, Cond.code yX6_inverse cX6_inverse 4 (some .int)]
def wsX1_findSecondWay_r3 : List Cond := [Cond.methodLink RX5 21 yX5_set, Cond.instanceMethod yX5_set, Cond.selects RX5 yX5_set yX5_set, Cond.code yX5_set cX5_set 4 none, Cond.methodLink RX4 23 yX0_copy, Cond.instanceMethod yX0_copy, Cond.selects RX0 yX0_copy yX0_copy, Cond.code yX0_copy cX0_copy 2 none, Cond.fieldLink RX0 9 "FieldFilter$Column" "upper" "I", Cond.fieldLink RX0 15 "FieldFilter$Column" "lower" "I", Cond.methodLink RX0 18 yX0_set, Cond.instanceMethod yX0_set, Cond.selects RX0 yX0_set yX0_set, Cond.code yX0_set cX0_set 3 none, Cond.methodLink RX4 50 yX5_multiply, Cond.instanceMethod yX5_multiply, Cond.selects RX5 yX5_multiply yX5_multiply, Cond.code yX5_multiply cX5_multiply 2 none, Cond.fieldLink RX5 37 "FieldFilter$Column" "upper" "I", Cond.fieldLink RX5 42 "FieldFilter$Column" "lower" "I", Cond.methodLink RX5 45 yX0_set, Cond.methodLink RX1 97 yX1_predictSecondWay, Cond.instanceMethod yX1_predictSecondWay, Cond.selects RX1 yX1_predictSecondWay yX1_predictSecondWay]
def wsX1_findSecondWay_r4 : List Cond := [Cond.initialized RX1, Cond.code yX1_predictSecondWay cX1_predictSecondWay 3 (some .boolean), Cond.fieldLink RX1 12 "FieldFilter$Estimator" "motion" "LFieldFilter$Motion;", Cond.methodLink RX1 83 yX3_move, Cond.instanceMethod yX3_move, Cond.selects RX3 yX3_move yX3_move, Cond.initialized RX3, Cond.code yX3_move cX3_move 3 none, Cond.fieldLink RX3 43 "FieldFilter$State" "x" "LFieldFilter$Column;", Cond.fieldLink RX3 26 "FieldFilter$Motion" "f00" "I", Cond.fieldLink RX3 49 "FieldFilter$Column" "upper" "I", Cond.fieldLink RX3 30 "FieldFilter$Motion" "f01" "I", Cond.fieldLink RX3 54 "FieldFilter$Column" "lower" "I", Cond.fieldLink RX3 33 "FieldFilter$Motion" "f10" "I", Cond.fieldLink RX3 36 "FieldFilter$Motion" "f11" "I", Cond.fieldLink RX3 60 "FieldFilter$State" "p" "LFieldFilter$Symmetric;", Cond.methodLink RX3 57 yX0_set, Cond.methodLink RX3 63 yX3_spread, Cond.instanceMethod yX3_spread, Cond.selects RX3 yX3_spread yX3_spread, Cond.code yX3_spread cX3_spread 6 none, Cond.fieldLink RX3 66 "FieldFilter$Symmetric" "a00" "I", Cond.fieldLink RX3 69 "FieldFilter$Symmetric" "a01" "I", Cond.fieldLink RX3 72 "FieldFilter$Symmetric" "a11" "I"]
def wsX1_findSecondWay_r5 : List Cond := [Cond.fieldLink RX3 12 "FieldFilter$Motion" "q" "LFieldFilter$Symmetric;", Cond.methodLink RX3 22 yX5_set, Cond.methodLink RX1 101 yX1_informAll, Cond.instanceMethod yX1_informAll, Cond.selects RX1 yX1_informAll yX1_informAll, Cond.code yX1_informAll cX1_informAll 4 (some .boolean), Cond.fieldLink RX1 69 "FieldFilter$Estimator" "toldCount" "I", Cond.fieldLink RX1 20 "FieldFilter$Estimator" "told" "[LFieldFilter$Measurement;", Cond.fieldLink RX1 72 "FieldFilter$Measurement" "gated" "Z", Cond.methodLink RX1 86 yX2_countsAt, Cond.instanceMethod yX2_countsAt, Cond.selects RX2 yX2_countsAt yX2_countsAt, Cond.initialized RX2, Cond.code yX2_countsAt cX2_countsAt 2 (some .boolean), Cond.fieldLink RX2 32 "FieldFilter$Measurement" "time" "I", Cond.fieldLink RX2 38 "FieldFilter$Measurement" "dropped" "Z", Cond.methodLink RX1 105 yX2_inform, Cond.instanceMethod yX2_inform, Cond.selects RX2 yX2_inform yX2_inform, Cond.code yX2_inform cX2_inform 5 (some .boolean), Cond.fieldLink RX2 29 "FieldFilter$Measurement" "r" "I", Cond.fieldLink RX2 25 "FieldFilter$Measurement" "z" "I", Cond.fieldLink RX2 70 "FieldFilter$State" "x" "LFieldFilter$Column;", Cond.fieldLink RX2 60 "FieldFilter$State" "p" "LFieldFilter$Symmetric;"]
def wsX1_findSecondWay_r6 : List Cond := [Cond.fieldLink RX2 12 "FieldFilter$Measurement" "h" "LFieldFilter$Column;", Cond.fieldLink RX2 51 "FieldFilter$Column" "upper" "I", Cond.fieldLink RX2 54 "FieldFilter$Column" "lower" "I", Cond.methodLink RX2 97 yX5_addSquare, Cond.instanceMethod yX5_addSquare, Cond.selects RX5 yX5_addSquare yX5_addSquare, Cond.code yX5_addSquare cX5_addSquare 5 none, Cond.methodLink RX2 21 yX0_set]
def wsX1_findSecondWay : List Cond := .code yX1_findSecondWay cX1_findSecondWay 4 (some .boolean) :: ((wsX1_findSecondWay_r1 ++ (wsX1_findSecondWay_r2 ++ (wsX1_findSecondWay_r3 ++ (wsX1_findSecondWay_r4 ++ (wsX1_findSecondWay_r5 ++ wsX1_findSecondWay_r6))))) ++ wsX40 ++ wsX10 ++ wsX00 ++ wsX50 ++ wsX30 ++ wsX20)
def wsX3_turnBack : List Cond := .code yX3_turnBack cX3_turnBack 2 none :: ([.fieldLink RX3 26 "FieldFilter$Motion" "f00" "I", .fieldLink RX3 49 "FieldFilter$Column" "upper" "I", .fieldLink RX3 33 "FieldFilter$Motion" "f10" "I", .fieldLink RX3 54 "FieldFilter$Column" "lower" "I", .fieldLink RX3 30 "FieldFilter$Motion" "f01" "I", .fieldLink RX3 36 "FieldFilter$Motion" "f11" "I", .methodLink RX3 57 yX0_set, .instanceMethod yX0_set, .selects RX0 yX0_set yX0_set, .initialized RX0, .code yX0_set cX0_set 3 none, .fieldLink RX0 9 "FieldFilter$Column" "upper" "I", .fieldLink RX0 15 "FieldFilter$Column" "lower" "I"] ++ wsX30 ++ wsX00)
def wsX1_smoothBack_r1 : List Cond := [Cond.classLink RX1 58 RX5, Cond.instantiable RX5 3, Cond.initialized RX5, Cond.fieldLink RX1 43 "FieldFilter$State" "x" "LFieldFilter$Column;", Cond.fieldLink RX1 66 "FieldFilter$Estimator" "time" "I", Cond.fieldLink RX1 30 "FieldFilter$Estimator" "predicted" "[LFieldFilter$State;", Cond.fieldLink RX1 53 "FieldFilter$State" "p" "LFieldFilter$Symmetric;", Cond.fieldLink RX1 12 "FieldFilter$Estimator" "motion" "LFieldFilter$Motion;", Cond.fieldLink RX1 34 "FieldFilter$Estimator" "behind" "[LFieldFilter$State;", Cond.instanceMethod yX5_init, Cond.code yX5_init cX5_init 1 none, Cond.methodLink RX5 3 objectInit, Cond.instanceMethod objectInit, Cond.code objectInit ⟨#[0xb1]⟩ 1 none, Cond.methodLink RX1 109 yX1_current, Cond.instanceMethod yX1_current, Cond.selects RX1 yX1_current yX1_current, Cond.initialized RX1, Cond.code yX1_current cX1_current 1 (some (.object "FieldFilter$State")), Cond.methodLink RX1 113 yX0_copy, Cond.instanceMethod yX0_copy, Cond.selects RX0 yX0_copy yX0_copy, Cond.initialized RX0, Cond.code yX0_copy cX0_copy 2 none]
def wsX1_smoothBack_r2 : List Cond := [Cond.fieldLink RX0 9 "FieldFilter$Column" "upper" "I", Cond.fieldLink RX0 15 "FieldFilter$Column" "lower" "I", Cond.methodLink RX0 18 yX0_set, Cond.instanceMethod yX0_set, Cond.selects RX0 yX0_set yX0_set, Cond.code yX0_set cX0_set 3 none, Cond.methodLink RX1 116 yX5_invert, Cond.instanceMethod yX5_invert, Cond.selects RX5 yX5_invert yX5_invert, Cond.code yX5_invert cX5_invert 4 (some .boolean), Cond.fieldLink RX5 18 "FieldFilter$Symmetric" "a11" "I", Cond.fieldLink RX5 15 "FieldFilter$Symmetric" "a01" "I", Cond.fieldLink RX5 9 "FieldFilter$Symmetric" "a00" "I", Cond.methodLink RX5 29 yX5_determinant, Cond.instanceMethod yX5_determinant, Cond.selects RX5 yX5_determinant yX5_determinant, Cond.code yX5_determinant cX5_determinant 1 (some .int), Cond.static yX6_less, Cond.initialized RX6, Cond.code yX6_less cX6_less 2 (some .int), Cond.methodLink RX6 213 yJ9_floorMod_7cf53, Cond.static yJ9_floorMod_7cf53, Cond.initialized RJ9, Cond.code yJ9_floorMod_7cf53 cJ9_floorMod_7cf53 3 (some .int)]
def wsX1_smoothBack_r3 : List Cond := [Cond.static yX6_inverse, Cond.code yX6_inverse cX6_inverse 4 (some .int), Cond.methodLink RX5 21 yX5_set, Cond.instanceMethod yX5_set, Cond.selects RX5 yX5_set yX5_set, Cond.code yX5_set cX5_set 4 none, Cond.methodLink RX1 119 yX0_subtract, Cond.instanceMethod yX0_subtract, Cond.selects RX0 yX0_subtract yX0_subtract, Cond.code yX0_subtract cX0_subtract 2 none, Cond.methodLink RX1 122 yX5_multiply, Cond.instanceMethod yX5_multiply, Cond.selects RX5 yX5_multiply yX5_multiply, Cond.code yX5_multiply cX5_multiply 2 none, Cond.fieldLink RX5 37 "FieldFilter$Column" "upper" "I", Cond.fieldLink RX5 42 "FieldFilter$Column" "lower" "I", Cond.methodLink RX5 45 yX0_set, Cond.methodLink RX1 125 yX3_turnBack, Cond.instanceMethod yX3_turnBack, Cond.selects RX3 yX3_turnBack yX3_turnBack, Cond.initialized RX3, Cond.code yX3_turnBack cX3_turnBack 2 none, Cond.fieldLink RX3 26 "FieldFilter$Motion" "f00" "I", Cond.fieldLink RX3 49 "FieldFilter$Column" "upper" "I"]
def wsX1_smoothBack_r4 : List Cond := [Cond.fieldLink RX3 33 "FieldFilter$Motion" "f10" "I", Cond.fieldLink RX3 54 "FieldFilter$Column" "lower" "I", Cond.fieldLink RX3 30 "FieldFilter$Motion" "f01" "I", Cond.fieldLink RX3 36 "FieldFilter$Motion" "f11" "I", Cond.methodLink RX3 57 yX0_set, Cond.methodLink RX1 128 yX0_add, Cond.instanceMethod yX0_add, Cond.selects RX0 yX0_add yX0_add, Cond.code yX0_add cX0_add 2 none]
def wsX1_smoothBack : List Cond := .code yX1_smoothBack cX1_smoothBack 5 (some .boolean) :: ((wsX1_smoothBack_r1 ++ (wsX1_smoothBack_r2 ++ (wsX1_smoothBack_r3 ++ wsX1_smoothBack_r4))) ++ wsX50 ++ wsX40 ++ wsX10 ++ wsX00 ++ wsX30)
def wsX2_look : List Cond := .code yX2_look cX2_look 5 none :: ([.fieldLink RX2 12 "FieldFilter$Measurement" "h" "LFieldFilter$Column;", .fieldLink RX2 25 "FieldFilter$Measurement" "z" "I", .fieldLink RX2 29 "FieldFilter$Measurement" "r" "I", .methodLink RX2 21 yX0_set, .instanceMethod yX0_set, .selects RX0 yX0_set yX0_set, .initialized RX0, .code yX0_set cX0_set 3 none, .fieldLink RX0 9 "FieldFilter$Column" "upper" "I", .fieldLink RX0 15 "FieldFilter$Column" "lower" "I"] ++ wsX20 ++ wsX00)
def wsX2_place : List Cond := .code yX2_place cX2_place 3 none :: ([.fieldLink RX2 32 "FieldFilter$Measurement" "time" "I", .fieldLink RX2 35 "FieldFilter$Measurement" "threshold" "I"] ++ wsX20)
def wsX3_copy : List Cond := .code yX3_copy cX3_copy 2 none :: ([.fieldLink RX3 26 "FieldFilter$Motion" "f00" "I", .fieldLink RX3 30 "FieldFilter$Motion" "f01" "I", .fieldLink RX3 33 "FieldFilter$Motion" "f10" "I", .fieldLink RX3 36 "FieldFilter$Motion" "f11" "I", .fieldLink RX3 12 "FieldFilter$Motion" "q" "LFieldFilter$Symmetric;", .methodLink RX3 18 yX3_setF, .instanceMethod yX3_setF, .selects RX3 yX3_setF yX3_setF, .initialized RX3, .code yX3_setF cX3_setF 5 none, .methodLink RX3 39 yX5_copy, .instanceMethod yX5_copy, .selects RX5 yX5_copy yX5_copy, .initialized RX5, .code yX5_copy cX5_copy 2 none, .fieldLink RX5 9 "FieldFilter$Symmetric" "a00" "I", .fieldLink RX5 15 "FieldFilter$Symmetric" "a01" "I", .fieldLink RX5 18 "FieldFilter$Symmetric" "a11" "I", .methodLink RX5 21 yX5_set, .instanceMethod yX5_set, .selects RX5 yX5_set yX5_set, .code yX5_set cX5_set 4 none] ++ wsX30 ++ wsX50)
def wsX3_twice_r1 : List Cond := [Cond.fieldLink RX3 12 "FieldFilter$Motion" "q" "LFieldFilter$Symmetric;", Cond.fieldLink RX3 30 "FieldFilter$Motion" "f01" "I", Cond.fieldLink RX3 33 "FieldFilter$Motion" "f10" "I", Cond.fieldLink RX3 26 "FieldFilter$Motion" "f00" "I", Cond.fieldLink RX3 36 "FieldFilter$Motion" "f11" "I", Cond.methodLink RX3 63 yX3_spread, Cond.instanceMethod yX3_spread, Cond.selects RX3 yX3_spread yX3_spread, Cond.initialized RX3, Cond.code yX3_spread cX3_spread 6 none, Cond.fieldLink RX3 66 "FieldFilter$Symmetric" "a00" "I", Cond.fieldLink RX3 69 "FieldFilter$Symmetric" "a01" "I", Cond.fieldLink RX3 72 "FieldFilter$Symmetric" "a11" "I", Cond.methodLink RX3 22 yX5_set, Cond.instanceMethod yX5_set, Cond.selects RX5 yX5_set yX5_set, Cond.initialized RX5, Cond.code yX5_set cX5_set 4 none, Cond.fieldLink RX5 9 "FieldFilter$Symmetric" "a00" "I", Cond.fieldLink RX5 15 "FieldFilter$Symmetric" "a01" "I", Cond.fieldLink RX5 18 "FieldFilter$Symmetric" "a11" "I", Cond.methodLink RX3 18 yX3_setF, Cond.instanceMethod yX3_setF, Cond.selects RX3 yX3_setF yX3_setF]
def wsX3_twice_r2 : List Cond := [Cond.code yX3_setF cX3_setF 5 none]
def wsX3_twice : List Cond := .code yX3_twice cX3_twice 3 none :: ((wsX3_twice_r1 ++ wsX3_twice_r2) ++ wsX30 ++ wsX50)
def wsX4_number : List Cond := .code yX4_number cX4_number 2 (some .int) :: ([.fieldLink RX4 10 "FieldFilter$State" "x" "LFieldFilter$Column;", .fieldLink RX4 30 "FieldFilter$Column" "upper" "I", .fieldLink RX4 34 "FieldFilter$Column" "lower" "I", .fieldLink RX4 19 "FieldFilter$State" "p" "LFieldFilter$Symmetric;", .fieldLink RX4 37 "FieldFilter$Symmetric" "a00" "I", .fieldLink RX4 40 "FieldFilter$Symmetric" "a01" "I", .fieldLink RX4 43 "FieldFilter$Symmetric" "a11" "I"] ++ wsX40 ++ wsX00 ++ wsX50)
def wsX6_init : List Cond := .code yX6_init cX6_init 1 none :: ([.methodLink RX6 3 objectInit, .instanceMethod objectInit, .code objectInit ⟨#[0xb1]⟩ 1 none, .classLink RX6 9 "[[I", .arrayClass .int, .fieldLink RX6 11 "FieldFilter" "models" "[[I", .classLink RX6 14 RX1, .fieldLink RX6 16 "FieldFilter" "estimators" "[LFieldFilter$Estimator;"] ++ wsX60)
def wsX6_model : List Cond := .code yX6_model cX6_model 1 (some .int) :: ([.classLink RX6 24 "java/lang/IllegalStateException", .initialized "java/lang/IllegalStateException", .fieldLink RX6 20 "FieldFilter" "modelCount" "I", .fieldLink RX6 11 "FieldFilter" "models" "[[I"] ++ wsX60 ++ (vx_atS RX6 28 "java/lang/IllegalStateException" ["java/lang/RuntimeException", "java/lang/Exception"]).filter goodWord)
def wsX6_modelNumbered : List Cond := .code yX6_modelNumbered cX6_modelNumbered 2 (some (.array .int)) :: ([.classLink RX6 190 "java/lang/IndexOutOfBoundsException", .initialized "java/lang/IndexOutOfBoundsException", .fieldLink RX6 20 "FieldFilter" "modelCount" "I", .fieldLink RX6 11 "FieldFilter" "models" "[[I"] ++ wsX60 ++ (vx_atS RX6 194 "java/lang/IndexOutOfBoundsException" ["java/lang/RuntimeException", "java/lang/Exception"]).filter goodWord)
def wsX6_checkRange : List Cond := .code yX6_checkRange cX6_checkRange 2 none :: ([.classLink RX6 203 "java/lang/IllegalArgumentException", .initialized "java/lang/IllegalArgumentException"] ++ (vx_atS RX6 207 "java/lang/IllegalArgumentException" ["java/lang/RuntimeException", "java/lang/Exception"]).filter goodWord)
def wsX6_checkField : List Cond := .code yX6_checkField cX6_checkField 1 none :: ([.methodLink RX6 35 yX6_checkRange, .static yX6_checkRange, .initialized RX6, .code yX6_checkRange cX6_checkRange 2 none, .classLink RX6 203 "java/lang/IllegalArgumentException", .initialized "java/lang/IllegalArgumentException"] ++ (vx_atS RX6 207 "java/lang/IllegalArgumentException" ["java/lang/RuntimeException", "java/lang/Exception"]).filter goodWord)
def wsX6_entry : List Cond := .code yX6_entry cX6_entry 6 (some .int) :: ([.methodLink RX6 31 yX6_modelNumbered, .instanceMethod yX6_modelNumbered, .selects RX6 yX6_modelNumbered yX6_modelNumbered, .initialized RX6, .code yX6_modelNumbered cX6_modelNumbered 2 (some (.array .int)), .classLink RX6 190 "java/lang/IndexOutOfBoundsException", .initialized "java/lang/IndexOutOfBoundsException", .fieldLink RX6 20 "FieldFilter" "modelCount" "I", .fieldLink RX6 11 "FieldFilter" "models" "[[I", .methodLink RX6 35 yX6_checkRange, .static yX6_checkRange, .code yX6_checkRange cX6_checkRange 2 none, .classLink RX6 203 "java/lang/IllegalArgumentException", .initialized "java/lang/IllegalArgumentException", .methodLink RX6 39 yX6_checkField, .static yX6_checkField, .code yX6_checkField cX6_checkField 1 none] ++ wsX60 ++ (vx_atS RX6 194 "java/lang/IndexOutOfBoundsException" ["java/lang/RuntimeException", "java/lang/Exception"]).filter goodWord ++ (vx_atS RX6 207 "java/lang/IllegalArgumentException" ["java/lang/RuntimeException", "java/lang/Exception"]).filter goodWord)
def wsX6_begin_r1 : List Cond := [Cond.classLink RX6 24 "java/lang/IllegalStateException", Cond.initialized "java/lang/IllegalStateException", Cond.fieldLink RX6 43 "FieldFilter" "estimatorCount" "I", Cond.classLink RX6 14 RX1, Cond.instantiable RX1 7, Cond.initialized RX1, Cond.fieldLink RX6 16 "FieldFilter" "estimators" "[LFieldFilter$Estimator;", Cond.methodLink RX6 31 yX6_modelNumbered, Cond.instanceMethod yX6_modelNumbered, Cond.selects RX6 yX6_modelNumbered yX6_modelNumbered, Cond.initialized RX6, Cond.code yX6_modelNumbered cX6_modelNumbered 2 (some (.array .int)), Cond.classLink RX6 190 "java/lang/IndexOutOfBoundsException", Cond.initialized "java/lang/IndexOutOfBoundsException", Cond.fieldLink RX6 20 "FieldFilter" "modelCount" "I", Cond.fieldLink RX6 11 "FieldFilter" "models" "[[I", Cond.methodLink RX6 39 yX6_checkField, Cond.static yX6_checkField, Cond.code yX6_checkField cX6_checkField 1 none, Cond.methodLink RX6 35 yX6_checkRange, Cond.static yX6_checkRange, Cond.code yX6_checkRange cX6_checkRange 2 none, Cond.classLink RX6 203 "java/lang/IllegalArgumentException", Cond.initialized "java/lang/IllegalArgumentException"]
def wsX6_begin_r2 : List Cond := [Cond.methodLink RX6 48 yX1_init, Cond.instanceMethod yX1_init, Cond.code yX1_init cX1_init 3 none, Cond.methodLink RX1 3 objectInit, Cond.instanceMethod objectInit, Cond.code objectInit ⟨#[0xb1]⟩ 1 none, Cond.classLink RX1 9 RX3, Cond.instantiable RX3 5, Cond.initialized RX3, Cond.fieldLink RX1 12 "FieldFilter$Estimator" "motion" "LFieldFilter$Motion;", Cond.classLink RX1 18 RX2, Cond.fieldLink RX1 20 "FieldFilter$Estimator" "told" "[LFieldFilter$Measurement;", Cond.fieldLink RX1 24 "FieldFilter$Estimator" "threshold" "I", Cond.classLink RX1 28 RX4, Cond.fieldLink RX1 30 "FieldFilter$Estimator" "predicted" "[LFieldFilter$State;", Cond.fieldLink RX1 34 "FieldFilter$Estimator" "behind" "[LFieldFilter$State;", Cond.instantiable RX2 11, Cond.initialized RX2, Cond.instantiable RX4 2, Cond.initialized RX4, Cond.instanceMethod yX3_init, Cond.code yX3_init cX3_init 1 none, Cond.methodLink RX3 3 objectInit, Cond.classLink RX3 9 RX5]
def wsX6_begin_r3 : List Cond := [Cond.instantiable RX5 3, Cond.initialized RX5, Cond.fieldLink RX3 12 "FieldFilter$Motion" "q" "LFieldFilter$Symmetric;", Cond.instanceMethod yX5_init, Cond.code yX5_init cX5_init 1 none, Cond.methodLink RX5 3 objectInit, Cond.methodLink RX1 37 yX3_read, Cond.instanceMethod yX3_read, Cond.selects RX3 yX3_read yX3_read, Cond.code yX3_read cX3_read 2 none, Cond.methodLink RX3 18 yX3_setF, Cond.instanceMethod yX3_setF, Cond.selects RX3 yX3_setF yX3_setF, Cond.code yX3_setF cX3_setF 5 none, Cond.fieldLink RX3 26 "FieldFilter$Motion" "f00" "I", Cond.fieldLink RX3 30 "FieldFilter$Motion" "f01" "I", Cond.fieldLink RX3 33 "FieldFilter$Motion" "f10" "I", Cond.fieldLink RX3 36 "FieldFilter$Motion" "f11" "I", Cond.methodLink RX3 22 yX5_set, Cond.instanceMethod yX5_set, Cond.selects RX5 yX5_set yX5_set, Cond.code yX5_set cX5_set 4 none, Cond.fieldLink RX5 9 "FieldFilter$Symmetric" "a00" "I", Cond.fieldLink RX5 15 "FieldFilter$Symmetric" "a01" "I"]
def wsX6_begin_r4 : List Cond := [Cond.fieldLink RX5 18 "FieldFilter$Symmetric" "a11" "I", Cond.instanceMethod yX2_init, Cond.code yX2_init cX2_init 1 none, Cond.methodLink RX2 3 objectInit, Cond.classLink RX2 9 RX0, Cond.instantiable RX0 2, Cond.initialized RX0, Cond.fieldLink RX2 12 "FieldFilter$Measurement" "h" "LFieldFilter$Column;", Cond.fieldLink RX2 18 "FieldFilter$Measurement" "ph" "LFieldFilter$Column;", Cond.instanceMethod yX0_init, Cond.code yX0_init cX0_init 1 none, Cond.methodLink RX0 3 objectInit, Cond.instanceMethod yX4_init, Cond.code yX4_init cX4_init 1 none, Cond.methodLink RX4 1 objectInit, Cond.classLink RX4 7 RX0, Cond.fieldLink RX4 10 "FieldFilter$State" "x" "LFieldFilter$Column;", Cond.classLink RX4 16 RX5, Cond.fieldLink RX4 19 "FieldFilter$State" "p" "LFieldFilter$Symmetric;", Cond.methodLink RX6 51 yX1_startFrom, Cond.instanceMethod yX1_startFrom, Cond.selects RX1 yX1_startFrom yX1_startFrom, Cond.code yX1_startFrom cX1_startFrom 6 none, Cond.fieldLink RX1 43 "FieldFilter$State" "x" "LFieldFilter$Column;"]
def wsX6_begin_r5 : List Cond := [Cond.fieldLink RX1 53 "FieldFilter$State" "p" "LFieldFilter$Symmetric;", Cond.methodLink RX1 47 yX0_set, Cond.instanceMethod yX0_set, Cond.selects RX0 yX0_set yX0_set, Cond.code yX0_set cX0_set 3 none, Cond.fieldLink RX0 9 "FieldFilter$Column" "upper" "I", Cond.fieldLink RX0 15 "FieldFilter$Column" "lower" "I", Cond.methodLink RX1 57 yX5_set, Cond.methodLink RX1 62 yX1_settle, Cond.instanceMethod yX1_settle, Cond.selects RX1 yX1_settle yX1_settle, Cond.code yX1_settle cX1_settle 3 (some .boolean), Cond.fieldLink RX1 66 "FieldFilter$Estimator" "time" "I", Cond.fieldLink RX1 69 "FieldFilter$Estimator" "toldCount" "I", Cond.methodLink RX1 79 yX4_copy, Cond.instanceMethod yX4_copy, Cond.selects RX4 yX4_copy yX4_copy, Cond.code yX4_copy cX4_copy 2 none, Cond.methodLink RX4 23 yX0_copy, Cond.instanceMethod yX0_copy, Cond.selects RX0 yX0_copy yX0_copy, Cond.code yX0_copy cX0_copy 2 none, Cond.methodLink RX0 18 yX0_set, Cond.methodLink RX4 27 yX5_copy]
def wsX6_begin_r6 : List Cond := [Cond.instanceMethod yX5_copy, Cond.selects RX5 yX5_copy yX5_copy, Cond.code yX5_copy cX5_copy 2 none, Cond.methodLink RX5 21 yX5_set, Cond.methodLink RX1 83 yX3_move, Cond.instanceMethod yX3_move, Cond.selects RX3 yX3_move yX3_move, Cond.code yX3_move cX3_move 3 none, Cond.fieldLink RX3 43 "FieldFilter$State" "x" "LFieldFilter$Column;", Cond.fieldLink RX3 49 "FieldFilter$Column" "upper" "I", Cond.fieldLink RX3 54 "FieldFilter$Column" "lower" "I", Cond.fieldLink RX3 60 "FieldFilter$State" "p" "LFieldFilter$Symmetric;", Cond.methodLink RX3 57 yX0_set, Cond.methodLink RX3 63 yX3_spread, Cond.instanceMethod yX3_spread, Cond.selects RX3 yX3_spread yX3_spread, Cond.code yX3_spread cX3_spread 6 none, Cond.fieldLink RX3 66 "FieldFilter$Symmetric" "a00" "I", Cond.fieldLink RX3 69 "FieldFilter$Symmetric" "a01" "I", Cond.fieldLink RX3 72 "FieldFilter$Symmetric" "a11" "I", Cond.methodLink RX1 86 yX2_countsAt, Cond.instanceMethod yX2_countsAt, Cond.selects RX2 yX2_countsAt yX2_countsAt, Cond.code yX2_countsAt cX2_countsAt 2 (some .boolean)]
def wsX6_begin_r7 : List Cond := [Cond.fieldLink RX2 32 "FieldFilter$Measurement" "time" "I", Cond.fieldLink RX2 38 "FieldFilter$Measurement" "dropped" "Z", Cond.methodLink RX1 90 yX2_take, Cond.instanceMethod yX2_take, Cond.selects RX2 yX2_take yX2_take, Cond.code yX2_take cX2_take 2 (some .boolean), Cond.fieldLink RX2 60 "FieldFilter$State" "p" "LFieldFilter$Symmetric;", Cond.fieldLink RX2 57 "FieldFilter$Measurement" "s" "I", Cond.fieldLink RX2 25 "FieldFilter$Measurement" "z" "I", Cond.fieldLink RX2 51 "FieldFilter$Column" "upper" "I", Cond.fieldLink RX2 70 "FieldFilter$State" "x" "LFieldFilter$Column;", Cond.fieldLink RX2 54 "FieldFilter$Column" "lower" "I", Cond.fieldLink RX2 77 "FieldFilter$Measurement" "y" "I", Cond.fieldLink RX2 83 "FieldFilter$Measurement" "g" "I", Cond.fieldLink RX2 35 "FieldFilter$Measurement" "threshold" "I", Cond.fieldLink RX2 86 "FieldFilter$Measurement" "gated" "Z", Cond.methodLink RX2 66 yX2_weigh, Cond.instanceMethod yX2_weigh, Cond.selects RX2 yX2_weigh yX2_weigh, Cond.code yX2_weigh cX2_weigh 2 none, Cond.fieldLink RX2 29 "FieldFilter$Measurement" "r" "I", Cond.methodLink RX2 42 yX0_copy, Cond.methodLink RX2 46 yX5_multiply, Cond.instanceMethod yX5_multiply]
def wsX6_begin_r8 : List Cond := [Cond.selects RX5 yX5_multiply yX5_multiply, Cond.code yX5_multiply cX5_multiply 2 none, Cond.fieldLink RX5 37 "FieldFilter$Column" "upper" "I", Cond.fieldLink RX5 42 "FieldFilter$Column" "lower" "I", Cond.methodLink RX5 45 yX0_set, Cond.static yX6_less, Cond.code yX6_less cX6_less 2 (some .int), Cond.methodLink RX6 213 yJ9_floorMod_7cf53, Cond.static yJ9_floorMod_7cf53, Cond.initialized RJ9, Cond.code yJ9_floorMod_7cf53 cJ9_floorMod_7cf53 3 (some .int), Cond.static yX6_divide, Cond.code yX6_divide cX6_divide 2 (some .int), Cond.methodLink RX6 218 yX6_inverse, Cond.static yX6_inverse, Cond.code yX6_inverse cX6_inverse 4 (some .int), Cond.methodLink RX2 89 yX2_correct, Cond.instanceMethod yX2_correct, Cond.selects RX2 yX2_correct yX2_correct, Cond.code yX2_correct cX2_correct 5 none, Cond.methodLink RX2 21 yX0_set, Cond.methodLink RX2 97 yX5_addSquare, Cond.instanceMethod yX5_addSquare, Cond.selects RX5 yX5_addSquare yX5_addSquare]
def wsX6_begin_r9 : List Cond := [Cond.code yX5_addSquare cX5_addSquare 5 none]
def wsX6_begin : List Cond := .code yX6_begin cX6_begin 9 (some .int) :: ((wsX6_begin_r1 ++ (wsX6_begin_r2 ++ (wsX6_begin_r3 ++ (wsX6_begin_r4 ++ (wsX6_begin_r5 ++ (wsX6_begin_r6 ++ (wsX6_begin_r7 ++ (wsX6_begin_r8 ++ wsX6_begin_r9)))))))) ++ wsX60 ++ wsX10 ++ wsX30 ++ wsX20 ++ wsX40 ++ wsX50 ++ wsX00 ++ (vx_atS RX6 28 "java/lang/IllegalStateException" ["java/lang/RuntimeException", "java/lang/Exception"]).filter goodWord ++ (vx_atS RX6 194 "java/lang/IndexOutOfBoundsException" ["java/lang/RuntimeException", "java/lang/Exception"]).filter goodWord ++ (vx_atS RX6 207 "java/lang/IllegalArgumentException" ["java/lang/RuntimeException", "java/lang/Exception"]).filter goodWord)
def wsX6_estimatorNumbered : List Cond := .code yX6_estimatorNumbered cX6_estimatorNumbered 2 (some (.object "FieldFilter$Estimator")) :: ([.classLink RX6 190 "java/lang/IndexOutOfBoundsException", .initialized "java/lang/IndexOutOfBoundsException", .fieldLink RX6 43 "FieldFilter" "estimatorCount" "I", .fieldLink RX6 16 "FieldFilter" "estimators" "[LFieldFilter$Estimator;"] ++ wsX60 ++ (vx_atS RX6 194 "java/lang/IndexOutOfBoundsException" ["java/lang/RuntimeException", "java/lang/Exception"]).filter goodWord)
def wsX6_gate : List Cond := .code yX6_gate cX6_gate 5 (some .int) :: ([.fieldLink RX6 59 "FieldFilter$Estimator" "threshold" "I", .methodLink RX6 55 yX6_estimatorNumbered, .instanceMethod yX6_estimatorNumbered, .selects RX6 yX6_estimatorNumbered yX6_estimatorNumbered, .initialized RX6, .code yX6_estimatorNumbered cX6_estimatorNumbered 2 (some (.object "FieldFilter$Estimator")), .classLink RX6 190 "java/lang/IndexOutOfBoundsException", .initialized "java/lang/IndexOutOfBoundsException", .fieldLink RX6 43 "FieldFilter" "estimatorCount" "I", .fieldLink RX6 16 "FieldFilter" "estimators" "[LFieldFilter$Estimator;", .methodLink RX6 39 yX6_checkField, .static yX6_checkField, .code yX6_checkField cX6_checkField 1 none, .methodLink RX6 35 yX6_checkRange, .static yX6_checkRange, .code yX6_checkRange cX6_checkRange 2 none, .classLink RX6 203 "java/lang/IllegalArgumentException", .initialized "java/lang/IllegalArgumentException"] ++ wsX10 ++ wsX60 ++ (vx_atS RX6 194 "java/lang/IndexOutOfBoundsException" ["java/lang/RuntimeException", "java/lang/Exception"]).filter goodWord ++ (vx_atS RX6 207 "java/lang/IllegalArgumentException" ["java/lang/RuntimeException", "java/lang/Exception"]).filter goodWord)
def wsX6_predict_r1 : List Cond := [Cond.classLink RX6 24 "java/lang/IllegalStateException", Cond.initialized "java/lang/IllegalStateException", Cond.fieldLink RX6 62 "FieldFilter$Estimator" "time" "I", Cond.methodLink RX6 55 yX6_estimatorNumbered, Cond.instanceMethod yX6_estimatorNumbered, Cond.selects RX6 yX6_estimatorNumbered yX6_estimatorNumbered, Cond.initialized RX6, Cond.code yX6_estimatorNumbered cX6_estimatorNumbered 2 (some (.object "FieldFilter$Estimator")), Cond.classLink RX6 190 "java/lang/IndexOutOfBoundsException", Cond.initialized "java/lang/IndexOutOfBoundsException", Cond.fieldLink RX6 43 "FieldFilter" "estimatorCount" "I", Cond.fieldLink RX6 16 "FieldFilter" "estimators" "[LFieldFilter$Estimator;", Cond.methodLink RX6 67 yX1_settle, Cond.instanceMethod yX1_settle, Cond.selects RX1 yX1_settle yX1_settle, Cond.initialized RX1, Cond.code yX1_settle cX1_settle 3 (some .boolean), Cond.fieldLink RX1 66 "FieldFilter$Estimator" "time" "I", Cond.fieldLink RX1 30 "FieldFilter$Estimator" "predicted" "[LFieldFilter$State;", Cond.fieldLink RX1 34 "FieldFilter$Estimator" "behind" "[LFieldFilter$State;", Cond.fieldLink RX1 12 "FieldFilter$Estimator" "motion" "LFieldFilter$Motion;", Cond.fieldLink RX1 69 "FieldFilter$Estimator" "toldCount" "I", Cond.fieldLink RX1 20 "FieldFilter$Estimator" "told" "[LFieldFilter$Measurement;", Cond.methodLink RX1 79 yX4_copy]
def wsX6_predict_r2 : List Cond := [Cond.instanceMethod yX4_copy, Cond.selects RX4 yX4_copy yX4_copy, Cond.initialized RX4, Cond.code yX4_copy cX4_copy 2 none, Cond.fieldLink RX4 10 "FieldFilter$State" "x" "LFieldFilter$Column;", Cond.fieldLink RX4 19 "FieldFilter$State" "p" "LFieldFilter$Symmetric;", Cond.methodLink RX4 23 yX0_copy, Cond.instanceMethod yX0_copy, Cond.selects RX0 yX0_copy yX0_copy, Cond.initialized RX0, Cond.code yX0_copy cX0_copy 2 none, Cond.fieldLink RX0 9 "FieldFilter$Column" "upper" "I", Cond.fieldLink RX0 15 "FieldFilter$Column" "lower" "I", Cond.methodLink RX0 18 yX0_set, Cond.instanceMethod yX0_set, Cond.selects RX0 yX0_set yX0_set, Cond.code yX0_set cX0_set 3 none, Cond.methodLink RX4 27 yX5_copy, Cond.instanceMethod yX5_copy, Cond.selects RX5 yX5_copy yX5_copy, Cond.initialized RX5, Cond.code yX5_copy cX5_copy 2 none, Cond.fieldLink RX5 9 "FieldFilter$Symmetric" "a00" "I", Cond.fieldLink RX5 15 "FieldFilter$Symmetric" "a01" "I"]
def wsX6_predict_r3 : List Cond := [Cond.fieldLink RX5 18 "FieldFilter$Symmetric" "a11" "I", Cond.methodLink RX5 21 yX5_set, Cond.instanceMethod yX5_set, Cond.selects RX5 yX5_set yX5_set, Cond.code yX5_set cX5_set 4 none, Cond.methodLink RX1 83 yX3_move, Cond.instanceMethod yX3_move, Cond.selects RX3 yX3_move yX3_move, Cond.initialized RX3, Cond.code yX3_move cX3_move 3 none, Cond.fieldLink RX3 43 "FieldFilter$State" "x" "LFieldFilter$Column;", Cond.fieldLink RX3 26 "FieldFilter$Motion" "f00" "I", Cond.fieldLink RX3 49 "FieldFilter$Column" "upper" "I", Cond.fieldLink RX3 30 "FieldFilter$Motion" "f01" "I", Cond.fieldLink RX3 54 "FieldFilter$Column" "lower" "I", Cond.fieldLink RX3 33 "FieldFilter$Motion" "f10" "I", Cond.fieldLink RX3 36 "FieldFilter$Motion" "f11" "I", Cond.fieldLink RX3 60 "FieldFilter$State" "p" "LFieldFilter$Symmetric;", Cond.methodLink RX3 57 yX0_set, Cond.methodLink RX3 63 yX3_spread, Cond.instanceMethod yX3_spread, Cond.selects RX3 yX3_spread yX3_spread, Cond.code yX3_spread cX3_spread 6 none, Cond.fieldLink RX3 66 "FieldFilter$Symmetric" "a00" "I"]
def wsX6_predict_r4 : List Cond := [Cond.fieldLink RX3 69 "FieldFilter$Symmetric" "a01" "I", Cond.fieldLink RX3 72 "FieldFilter$Symmetric" "a11" "I", Cond.fieldLink RX3 12 "FieldFilter$Motion" "q" "LFieldFilter$Symmetric;", Cond.methodLink RX3 22 yX5_set, Cond.methodLink RX1 86 yX2_countsAt, Cond.instanceMethod yX2_countsAt, Cond.selects RX2 yX2_countsAt yX2_countsAt, Cond.initialized RX2, Cond.code yX2_countsAt cX2_countsAt 2 (some .boolean), Cond.fieldLink RX2 32 "FieldFilter$Measurement" "time" "I", Cond.fieldLink RX2 38 "FieldFilter$Measurement" "dropped" "Z", Cond.methodLink RX1 90 yX2_take, Cond.instanceMethod yX2_take, Cond.selects RX2 yX2_take yX2_take, Cond.code yX2_take cX2_take 2 (some .boolean), Cond.fieldLink RX2 60 "FieldFilter$State" "p" "LFieldFilter$Symmetric;", Cond.fieldLink RX2 57 "FieldFilter$Measurement" "s" "I", Cond.fieldLink RX2 25 "FieldFilter$Measurement" "z" "I", Cond.fieldLink RX2 12 "FieldFilter$Measurement" "h" "LFieldFilter$Column;", Cond.fieldLink RX2 51 "FieldFilter$Column" "upper" "I", Cond.fieldLink RX2 70 "FieldFilter$State" "x" "LFieldFilter$Column;", Cond.fieldLink RX2 54 "FieldFilter$Column" "lower" "I", Cond.fieldLink RX2 77 "FieldFilter$Measurement" "y" "I", Cond.fieldLink RX2 83 "FieldFilter$Measurement" "g" "I"]
def wsX6_predict_r5 : List Cond := [Cond.fieldLink RX2 35 "FieldFilter$Measurement" "threshold" "I", Cond.fieldLink RX2 86 "FieldFilter$Measurement" "gated" "Z", Cond.methodLink RX2 66 yX2_weigh, Cond.instanceMethod yX2_weigh, Cond.selects RX2 yX2_weigh yX2_weigh, Cond.code yX2_weigh cX2_weigh 2 none, Cond.fieldLink RX2 18 "FieldFilter$Measurement" "ph" "LFieldFilter$Column;", Cond.fieldLink RX2 29 "FieldFilter$Measurement" "r" "I", Cond.methodLink RX2 42 yX0_copy, Cond.methodLink RX2 46 yX5_multiply, Cond.instanceMethod yX5_multiply, Cond.selects RX5 yX5_multiply yX5_multiply, Cond.code yX5_multiply cX5_multiply 2 none, Cond.fieldLink RX5 37 "FieldFilter$Column" "upper" "I", Cond.fieldLink RX5 42 "FieldFilter$Column" "lower" "I", Cond.methodLink RX5 45 yX0_set, Cond.static yX6_less, Cond.code yX6_less cX6_less 2 (some .int), Cond.methodLink RX6 213 yJ9_floorMod_7cf53, Cond.static yJ9_floorMod_7cf53, Cond.initialized RJ9, Cond.code yJ9_floorMod_7cf53 cJ9_floorMod_7cf53 3 (some .int), Cond.static yX6_divide, Cond.code yX6_divide cX6_divide 2 (some .int)]
def wsX6_predict_r6 : List Cond := [Cond.methodLink RX6 218 yX6_inverse, Cond.static yX6_inverse, Cond.code yX6_inverse cX6_inverse 4 (some .int), Cond.methodLink RX2 89 yX2_correct, Cond.instanceMethod yX2_correct, Cond.selects RX2 yX2_correct yX2_correct, Cond.code yX2_correct cX2_correct 5 none, Cond.methodLink RX2 21 yX0_set, Cond.methodLink RX2 97 yX5_addSquare, Cond.instanceMethod yX5_addSquare, Cond.selects RX5 yX5_addSquare yX5_addSquare, Cond.code yX5_addSquare cX5_addSquare 5 none]
def wsX6_predict : List Cond := .code yX6_predict cX6_predict 3 (some .int) :: ((wsX6_predict_r1 ++ (wsX6_predict_r2 ++ (wsX6_predict_r3 ++ (wsX6_predict_r4 ++ (wsX6_predict_r5 ++ wsX6_predict_r6))))) ++ wsX10 ++ wsX60 ++ wsX40 ++ wsX00 ++ wsX50 ++ wsX30 ++ wsX20 ++ (vx_atS RX6 28 "java/lang/IllegalStateException" ["java/lang/RuntimeException", "java/lang/Exception"]).filter goodWord ++ (vx_atS RX6 194 "java/lang/IndexOutOfBoundsException" ["java/lang/RuntimeException", "java/lang/Exception"]).filter goodWord)
def wsX6_tell_r1 : List Cond := [Cond.classLink RX6 24 "java/lang/IllegalStateException", Cond.initialized "java/lang/IllegalStateException", Cond.fieldLink RX6 89 "FieldFilter$Estimator" "toldCount" "I", Cond.fieldLink RX6 199 "FieldFilter$Estimator" "told" "[LFieldFilter$Measurement;", Cond.fieldLink RX6 59 "FieldFilter$Estimator" "threshold" "I", Cond.methodLink RX6 39 yX6_checkField, Cond.static yX6_checkField, Cond.initialized RX6, Cond.code yX6_checkField cX6_checkField 1 none, Cond.methodLink RX6 35 yX6_checkRange, Cond.static yX6_checkRange, Cond.code yX6_checkRange cX6_checkRange 2 none, Cond.classLink RX6 203 "java/lang/IllegalArgumentException", Cond.initialized "java/lang/IllegalArgumentException", Cond.methodLink RX6 129 yX2_look, Cond.instanceMethod yX2_look, Cond.selects RX2 yX2_look yX2_look, Cond.initialized RX2, Cond.code yX2_look cX2_look 5 none, Cond.fieldLink RX2 12 "FieldFilter$Measurement" "h" "LFieldFilter$Column;", Cond.fieldLink RX2 25 "FieldFilter$Measurement" "z" "I", Cond.fieldLink RX2 29 "FieldFilter$Measurement" "r" "I", Cond.methodLink RX2 21 yX0_set, Cond.instanceMethod yX0_set]
def wsX6_tell_r2 : List Cond := [Cond.selects RX0 yX0_set yX0_set, Cond.initialized RX0, Cond.code yX0_set cX0_set 3 none, Cond.fieldLink RX0 9 "FieldFilter$Column" "upper" "I", Cond.fieldLink RX0 15 "FieldFilter$Column" "lower" "I", Cond.methodLink RX6 210 yX2_place, Cond.instanceMethod yX2_place, Cond.selects RX2 yX2_place yX2_place, Cond.code yX2_place cX2_place 3 none, Cond.fieldLink RX2 32 "FieldFilter$Measurement" "time" "I", Cond.fieldLink RX2 35 "FieldFilter$Measurement" "threshold" "I", Cond.methodLink RX6 67 yX1_settle, Cond.instanceMethod yX1_settle, Cond.selects RX1 yX1_settle yX1_settle, Cond.initialized RX1, Cond.code yX1_settle cX1_settle 3 (some .boolean), Cond.fieldLink RX1 66 "FieldFilter$Estimator" "time" "I", Cond.fieldLink RX1 30 "FieldFilter$Estimator" "predicted" "[LFieldFilter$State;", Cond.fieldLink RX1 34 "FieldFilter$Estimator" "behind" "[LFieldFilter$State;", Cond.fieldLink RX1 12 "FieldFilter$Estimator" "motion" "LFieldFilter$Motion;", Cond.fieldLink RX1 69 "FieldFilter$Estimator" "toldCount" "I", Cond.fieldLink RX1 20 "FieldFilter$Estimator" "told" "[LFieldFilter$Measurement;", Cond.methodLink RX1 79 yX4_copy, Cond.instanceMethod yX4_copy]
def wsX6_tell_r3 : List Cond := [Cond.selects RX4 yX4_copy yX4_copy, Cond.initialized RX4, Cond.code yX4_copy cX4_copy 2 none, Cond.fieldLink RX4 10 "FieldFilter$State" "x" "LFieldFilter$Column;", Cond.fieldLink RX4 19 "FieldFilter$State" "p" "LFieldFilter$Symmetric;", Cond.methodLink RX4 23 yX0_copy, Cond.instanceMethod yX0_copy, Cond.selects RX0 yX0_copy yX0_copy, Cond.code yX0_copy cX0_copy 2 none, Cond.methodLink RX0 18 yX0_set, Cond.methodLink RX4 27 yX5_copy, Cond.instanceMethod yX5_copy, Cond.selects RX5 yX5_copy yX5_copy, Cond.initialized RX5, Cond.code yX5_copy cX5_copy 2 none, Cond.fieldLink RX5 9 "FieldFilter$Symmetric" "a00" "I", Cond.fieldLink RX5 15 "FieldFilter$Symmetric" "a01" "I", Cond.fieldLink RX5 18 "FieldFilter$Symmetric" "a11" "I", Cond.methodLink RX5 21 yX5_set, Cond.instanceMethod yX5_set, Cond.selects RX5 yX5_set yX5_set, Cond.code yX5_set cX5_set 4 none, Cond.methodLink RX1 83 yX3_move, Cond.instanceMethod yX3_move]
def wsX6_tell_r4 : List Cond := [Cond.selects RX3 yX3_move yX3_move, Cond.initialized RX3, Cond.code yX3_move cX3_move 3 none, Cond.fieldLink RX3 43 "FieldFilter$State" "x" "LFieldFilter$Column;", Cond.fieldLink RX3 26 "FieldFilter$Motion" "f00" "I", Cond.fieldLink RX3 49 "FieldFilter$Column" "upper" "I", Cond.fieldLink RX3 30 "FieldFilter$Motion" "f01" "I", Cond.fieldLink RX3 54 "FieldFilter$Column" "lower" "I", Cond.fieldLink RX3 33 "FieldFilter$Motion" "f10" "I", Cond.fieldLink RX3 36 "FieldFilter$Motion" "f11" "I", Cond.fieldLink RX3 60 "FieldFilter$State" "p" "LFieldFilter$Symmetric;", Cond.methodLink RX3 57 yX0_set, Cond.methodLink RX3 63 yX3_spread, Cond.instanceMethod yX3_spread, Cond.selects RX3 yX3_spread yX3_spread, Cond.code yX3_spread cX3_spread 6 none, Cond.fieldLink RX3 66 "FieldFilter$Symmetric" "a00" "I", Cond.fieldLink RX3 69 "FieldFilter$Symmetric" "a01" "I", Cond.fieldLink RX3 72 "FieldFilter$Symmetric" "a11" "I", Cond.fieldLink RX3 12 "FieldFilter$Motion" "q" "LFieldFilter$Symmetric;", Cond.methodLink RX3 22 yX5_set, Cond.methodLink RX1 86 yX2_countsAt, Cond.instanceMethod yX2_countsAt, Cond.selects RX2 yX2_countsAt yX2_countsAt]
def wsX6_tell_r5 : List Cond := [Cond.code yX2_countsAt cX2_countsAt 2 (some .boolean), Cond.fieldLink RX2 38 "FieldFilter$Measurement" "dropped" "Z", Cond.methodLink RX1 90 yX2_take, Cond.instanceMethod yX2_take, Cond.selects RX2 yX2_take yX2_take, Cond.code yX2_take cX2_take 2 (some .boolean), Cond.fieldLink RX2 60 "FieldFilter$State" "p" "LFieldFilter$Symmetric;", Cond.fieldLink RX2 57 "FieldFilter$Measurement" "s" "I", Cond.fieldLink RX2 51 "FieldFilter$Column" "upper" "I", Cond.fieldLink RX2 70 "FieldFilter$State" "x" "LFieldFilter$Column;", Cond.fieldLink RX2 54 "FieldFilter$Column" "lower" "I", Cond.fieldLink RX2 77 "FieldFilter$Measurement" "y" "I", Cond.fieldLink RX2 83 "FieldFilter$Measurement" "g" "I", Cond.fieldLink RX2 86 "FieldFilter$Measurement" "gated" "Z", Cond.methodLink RX2 66 yX2_weigh, Cond.instanceMethod yX2_weigh, Cond.selects RX2 yX2_weigh yX2_weigh, Cond.code yX2_weigh cX2_weigh 2 none, Cond.fieldLink RX2 18 "FieldFilter$Measurement" "ph" "LFieldFilter$Column;", Cond.methodLink RX2 42 yX0_copy, Cond.methodLink RX2 46 yX5_multiply, Cond.instanceMethod yX5_multiply, Cond.selects RX5 yX5_multiply yX5_multiply, Cond.code yX5_multiply cX5_multiply 2 none]
def wsX6_tell_r6 : List Cond := [Cond.fieldLink RX5 37 "FieldFilter$Column" "upper" "I", Cond.fieldLink RX5 42 "FieldFilter$Column" "lower" "I", Cond.methodLink RX5 45 yX0_set, Cond.static yX6_less, Cond.code yX6_less cX6_less 2 (some .int), Cond.methodLink RX6 213 yJ9_floorMod_7cf53, Cond.static yJ9_floorMod_7cf53, Cond.initialized RJ9, Cond.code yJ9_floorMod_7cf53 cJ9_floorMod_7cf53 3 (some .int), Cond.static yX6_divide, Cond.code yX6_divide cX6_divide 2 (some .int), Cond.methodLink RX6 218 yX6_inverse, Cond.static yX6_inverse, Cond.code yX6_inverse cX6_inverse 4 (some .int), Cond.methodLink RX2 89 yX2_correct, Cond.instanceMethod yX2_correct, Cond.selects RX2 yX2_correct yX2_correct, Cond.code yX2_correct cX2_correct 5 none, Cond.methodLink RX2 97 yX5_addSquare, Cond.instanceMethod yX5_addSquare, Cond.selects RX5 yX5_addSquare yX5_addSquare, Cond.code yX5_addSquare cX5_addSquare 5 none]
def wsX6_tell : List Cond := .code yX6_tell cX6_tell 7 (some .int) :: ((wsX6_tell_r1 ++ (wsX6_tell_r2 ++ (wsX6_tell_r3 ++ (wsX6_tell_r4 ++ (wsX6_tell_r5 ++ wsX6_tell_r6))))) ++ wsX10 ++ wsX20 ++ wsX00 ++ wsX40 ++ wsX50 ++ wsX30 ++ (vx_atS RX6 28 "java/lang/IllegalStateException" ["java/lang/RuntimeException", "java/lang/Exception"]).filter goodWord ++ (vx_atS RX6 207 "java/lang/IllegalArgumentException" ["java/lang/RuntimeException", "java/lang/Exception"]).filter goodWord)
def wsX6_measure_r1 : List Cond := [Cond.fieldLink RX6 62 "FieldFilter$Estimator" "time" "I", Cond.methodLink RX6 55 yX6_estimatorNumbered, Cond.instanceMethod yX6_estimatorNumbered, Cond.selects RX6 yX6_estimatorNumbered yX6_estimatorNumbered, Cond.initialized RX6, Cond.code yX6_estimatorNumbered cX6_estimatorNumbered 2 (some (.object "FieldFilter$Estimator")), Cond.classLink RX6 190 "java/lang/IndexOutOfBoundsException", Cond.initialized "java/lang/IndexOutOfBoundsException", Cond.fieldLink RX6 43 "FieldFilter" "estimatorCount" "I", Cond.fieldLink RX6 16 "FieldFilter" "estimators" "[LFieldFilter$Estimator;", Cond.methodLink RX6 71 yX6_tell, Cond.static yX6_tell, Cond.code yX6_tell cX6_tell 7 (some .int), Cond.classLink RX6 24 "java/lang/IllegalStateException", Cond.initialized "java/lang/IllegalStateException", Cond.fieldLink RX6 89 "FieldFilter$Estimator" "toldCount" "I", Cond.fieldLink RX6 199 "FieldFilter$Estimator" "told" "[LFieldFilter$Measurement;", Cond.fieldLink RX6 59 "FieldFilter$Estimator" "threshold" "I", Cond.methodLink RX6 39 yX6_checkField, Cond.static yX6_checkField, Cond.code yX6_checkField cX6_checkField 1 none, Cond.methodLink RX6 35 yX6_checkRange, Cond.static yX6_checkRange, Cond.code yX6_checkRange cX6_checkRange 2 none]
def wsX6_measure_r2 : List Cond := [Cond.classLink RX6 203 "java/lang/IllegalArgumentException", Cond.initialized "java/lang/IllegalArgumentException", Cond.methodLink RX6 129 yX2_look, Cond.instanceMethod yX2_look, Cond.selects RX2 yX2_look yX2_look, Cond.initialized RX2, Cond.code yX2_look cX2_look 5 none, Cond.fieldLink RX2 12 "FieldFilter$Measurement" "h" "LFieldFilter$Column;", Cond.fieldLink RX2 25 "FieldFilter$Measurement" "z" "I", Cond.fieldLink RX2 29 "FieldFilter$Measurement" "r" "I", Cond.methodLink RX2 21 yX0_set, Cond.instanceMethod yX0_set, Cond.selects RX0 yX0_set yX0_set, Cond.initialized RX0, Cond.code yX0_set cX0_set 3 none, Cond.fieldLink RX0 9 "FieldFilter$Column" "upper" "I", Cond.fieldLink RX0 15 "FieldFilter$Column" "lower" "I", Cond.methodLink RX6 210 yX2_place, Cond.instanceMethod yX2_place, Cond.selects RX2 yX2_place yX2_place, Cond.code yX2_place cX2_place 3 none, Cond.fieldLink RX2 32 "FieldFilter$Measurement" "time" "I", Cond.fieldLink RX2 35 "FieldFilter$Measurement" "threshold" "I", Cond.methodLink RX6 67 yX1_settle]
def wsX6_measure_r3 : List Cond := [Cond.instanceMethod yX1_settle, Cond.selects RX1 yX1_settle yX1_settle, Cond.initialized RX1, Cond.code yX1_settle cX1_settle 3 (some .boolean), Cond.fieldLink RX1 66 "FieldFilter$Estimator" "time" "I", Cond.fieldLink RX1 30 "FieldFilter$Estimator" "predicted" "[LFieldFilter$State;", Cond.fieldLink RX1 34 "FieldFilter$Estimator" "behind" "[LFieldFilter$State;", Cond.fieldLink RX1 12 "FieldFilter$Estimator" "motion" "LFieldFilter$Motion;", Cond.fieldLink RX1 69 "FieldFilter$Estimator" "toldCount" "I", Cond.fieldLink RX1 20 "FieldFilter$Estimator" "told" "[LFieldFilter$Measurement;", Cond.methodLink RX1 79 yX4_copy, Cond.instanceMethod yX4_copy, Cond.selects RX4 yX4_copy yX4_copy, Cond.initialized RX4, Cond.code yX4_copy cX4_copy 2 none, Cond.fieldLink RX4 10 "FieldFilter$State" "x" "LFieldFilter$Column;", Cond.fieldLink RX4 19 "FieldFilter$State" "p" "LFieldFilter$Symmetric;", Cond.methodLink RX4 23 yX0_copy, Cond.instanceMethod yX0_copy, Cond.selects RX0 yX0_copy yX0_copy, Cond.code yX0_copy cX0_copy 2 none, Cond.methodLink RX0 18 yX0_set, Cond.methodLink RX4 27 yX5_copy, Cond.instanceMethod yX5_copy]
def wsX6_measure_r4 : List Cond := [Cond.selects RX5 yX5_copy yX5_copy, Cond.initialized RX5, Cond.code yX5_copy cX5_copy 2 none, Cond.fieldLink RX5 9 "FieldFilter$Symmetric" "a00" "I", Cond.fieldLink RX5 15 "FieldFilter$Symmetric" "a01" "I", Cond.fieldLink RX5 18 "FieldFilter$Symmetric" "a11" "I", Cond.methodLink RX5 21 yX5_set, Cond.instanceMethod yX5_set, Cond.selects RX5 yX5_set yX5_set, Cond.code yX5_set cX5_set 4 none, Cond.methodLink RX1 83 yX3_move, Cond.instanceMethod yX3_move, Cond.selects RX3 yX3_move yX3_move, Cond.initialized RX3, Cond.code yX3_move cX3_move 3 none, Cond.fieldLink RX3 43 "FieldFilter$State" "x" "LFieldFilter$Column;", Cond.fieldLink RX3 26 "FieldFilter$Motion" "f00" "I", Cond.fieldLink RX3 49 "FieldFilter$Column" "upper" "I", Cond.fieldLink RX3 30 "FieldFilter$Motion" "f01" "I", Cond.fieldLink RX3 54 "FieldFilter$Column" "lower" "I", Cond.fieldLink RX3 33 "FieldFilter$Motion" "f10" "I", Cond.fieldLink RX3 36 "FieldFilter$Motion" "f11" "I", Cond.fieldLink RX3 60 "FieldFilter$State" "p" "LFieldFilter$Symmetric;", Cond.methodLink RX3 57 yX0_set]
def wsX6_measure_r5 : List Cond := [Cond.methodLink RX3 63 yX3_spread, Cond.instanceMethod yX3_spread, Cond.selects RX3 yX3_spread yX3_spread, Cond.code yX3_spread cX3_spread 6 none, Cond.fieldLink RX3 66 "FieldFilter$Symmetric" "a00" "I", Cond.fieldLink RX3 69 "FieldFilter$Symmetric" "a01" "I", Cond.fieldLink RX3 72 "FieldFilter$Symmetric" "a11" "I", Cond.fieldLink RX3 12 "FieldFilter$Motion" "q" "LFieldFilter$Symmetric;", Cond.methodLink RX3 22 yX5_set, Cond.methodLink RX1 86 yX2_countsAt, Cond.instanceMethod yX2_countsAt, Cond.selects RX2 yX2_countsAt yX2_countsAt, Cond.code yX2_countsAt cX2_countsAt 2 (some .boolean), Cond.fieldLink RX2 38 "FieldFilter$Measurement" "dropped" "Z", Cond.methodLink RX1 90 yX2_take, Cond.instanceMethod yX2_take, Cond.selects RX2 yX2_take yX2_take, Cond.code yX2_take cX2_take 2 (some .boolean), Cond.fieldLink RX2 60 "FieldFilter$State" "p" "LFieldFilter$Symmetric;", Cond.fieldLink RX2 57 "FieldFilter$Measurement" "s" "I", Cond.fieldLink RX2 51 "FieldFilter$Column" "upper" "I", Cond.fieldLink RX2 70 "FieldFilter$State" "x" "LFieldFilter$Column;", Cond.fieldLink RX2 54 "FieldFilter$Column" "lower" "I", Cond.fieldLink RX2 77 "FieldFilter$Measurement" "y" "I"]
def wsX6_measure_r6 : List Cond := [Cond.fieldLink RX2 83 "FieldFilter$Measurement" "g" "I", Cond.fieldLink RX2 86 "FieldFilter$Measurement" "gated" "Z", Cond.methodLink RX2 66 yX2_weigh, Cond.instanceMethod yX2_weigh, Cond.selects RX2 yX2_weigh yX2_weigh, Cond.code yX2_weigh cX2_weigh 2 none, Cond.fieldLink RX2 18 "FieldFilter$Measurement" "ph" "LFieldFilter$Column;", Cond.methodLink RX2 42 yX0_copy, Cond.methodLink RX2 46 yX5_multiply, Cond.instanceMethod yX5_multiply, Cond.selects RX5 yX5_multiply yX5_multiply, Cond.code yX5_multiply cX5_multiply 2 none, Cond.fieldLink RX5 37 "FieldFilter$Column" "upper" "I", Cond.fieldLink RX5 42 "FieldFilter$Column" "lower" "I", Cond.methodLink RX5 45 yX0_set, Cond.static yX6_less, Cond.code yX6_less cX6_less 2 (some .int), Cond.methodLink RX6 213 yJ9_floorMod_7cf53, Cond.static yJ9_floorMod_7cf53, Cond.initialized RJ9, Cond.code yJ9_floorMod_7cf53 cJ9_floorMod_7cf53 3 (some .int), Cond.static yX6_divide, Cond.code yX6_divide cX6_divide 2 (some .int), Cond.methodLink RX6 218 yX6_inverse]
def wsX6_measure_r7 : List Cond := [Cond.static yX6_inverse, Cond.code yX6_inverse cX6_inverse 4 (some .int), Cond.methodLink RX2 89 yX2_correct, Cond.instanceMethod yX2_correct, Cond.selects RX2 yX2_correct yX2_correct, Cond.code yX2_correct cX2_correct 5 none, Cond.methodLink RX2 97 yX5_addSquare, Cond.instanceMethod yX5_addSquare, Cond.selects RX5 yX5_addSquare yX5_addSquare, Cond.code yX5_addSquare cX5_addSquare 5 none]
def wsX6_measure : List Cond := .code yX6_measure cX6_measure 7 (some .int) :: ((wsX6_measure_r1 ++ (wsX6_measure_r2 ++ (wsX6_measure_r3 ++ (wsX6_measure_r4 ++ (wsX6_measure_r5 ++ (wsX6_measure_r6 ++ wsX6_measure_r7)))))) ++ wsX10 ++ wsX60 ++ wsX20 ++ wsX00 ++ wsX40 ++ wsX50 ++ wsX30 ++ (vx_atS RX6 194 "java/lang/IndexOutOfBoundsException" ["java/lang/RuntimeException", "java/lang/Exception"]).filter goodWord ++ (vx_atS RX6 28 "java/lang/IllegalStateException" ["java/lang/RuntimeException", "java/lang/Exception"]).filter goodWord ++ (vx_atS RX6 207 "java/lang/IllegalArgumentException" ["java/lang/RuntimeException", "java/lang/Exception"]).filter goodWord)
def wsX6_late_r1 : List Cond := [Cond.fieldLink RX6 62 "FieldFilter$Estimator" "time" "I", Cond.methodLink RX6 55 yX6_estimatorNumbered, Cond.instanceMethod yX6_estimatorNumbered, Cond.selects RX6 yX6_estimatorNumbered yX6_estimatorNumbered, Cond.initialized RX6, Cond.code yX6_estimatorNumbered cX6_estimatorNumbered 2 (some (.object "FieldFilter$Estimator")), Cond.classLink RX6 190 "java/lang/IndexOutOfBoundsException", Cond.initialized "java/lang/IndexOutOfBoundsException", Cond.fieldLink RX6 43 "FieldFilter" "estimatorCount" "I", Cond.fieldLink RX6 16 "FieldFilter" "estimators" "[LFieldFilter$Estimator;", Cond.methodLink RX6 35 yX6_checkRange, Cond.static yX6_checkRange, Cond.code yX6_checkRange cX6_checkRange 2 none, Cond.classLink RX6 203 "java/lang/IllegalArgumentException", Cond.initialized "java/lang/IllegalArgumentException", Cond.methodLink RX6 71 yX6_tell, Cond.static yX6_tell, Cond.code yX6_tell cX6_tell 7 (some .int), Cond.classLink RX6 24 "java/lang/IllegalStateException", Cond.initialized "java/lang/IllegalStateException", Cond.fieldLink RX6 89 "FieldFilter$Estimator" "toldCount" "I", Cond.fieldLink RX6 199 "FieldFilter$Estimator" "told" "[LFieldFilter$Measurement;", Cond.fieldLink RX6 59 "FieldFilter$Estimator" "threshold" "I", Cond.methodLink RX6 39 yX6_checkField]
def wsX6_late_r2 : List Cond := [Cond.static yX6_checkField, Cond.code yX6_checkField cX6_checkField 1 none, Cond.methodLink RX6 129 yX2_look, Cond.instanceMethod yX2_look, Cond.selects RX2 yX2_look yX2_look, Cond.initialized RX2, Cond.code yX2_look cX2_look 5 none, Cond.fieldLink RX2 12 "FieldFilter$Measurement" "h" "LFieldFilter$Column;", Cond.fieldLink RX2 25 "FieldFilter$Measurement" "z" "I", Cond.fieldLink RX2 29 "FieldFilter$Measurement" "r" "I", Cond.methodLink RX2 21 yX0_set, Cond.instanceMethod yX0_set, Cond.selects RX0 yX0_set yX0_set, Cond.initialized RX0, Cond.code yX0_set cX0_set 3 none, Cond.fieldLink RX0 9 "FieldFilter$Column" "upper" "I", Cond.fieldLink RX0 15 "FieldFilter$Column" "lower" "I", Cond.methodLink RX6 210 yX2_place, Cond.instanceMethod yX2_place, Cond.selects RX2 yX2_place yX2_place, Cond.code yX2_place cX2_place 3 none, Cond.fieldLink RX2 32 "FieldFilter$Measurement" "time" "I", Cond.fieldLink RX2 35 "FieldFilter$Measurement" "threshold" "I", Cond.methodLink RX6 67 yX1_settle]
def wsX6_late_r3 : List Cond := [Cond.instanceMethod yX1_settle, Cond.selects RX1 yX1_settle yX1_settle, Cond.initialized RX1, Cond.code yX1_settle cX1_settle 3 (some .boolean), Cond.fieldLink RX1 66 "FieldFilter$Estimator" "time" "I", Cond.fieldLink RX1 30 "FieldFilter$Estimator" "predicted" "[LFieldFilter$State;", Cond.fieldLink RX1 34 "FieldFilter$Estimator" "behind" "[LFieldFilter$State;", Cond.fieldLink RX1 12 "FieldFilter$Estimator" "motion" "LFieldFilter$Motion;", Cond.fieldLink RX1 69 "FieldFilter$Estimator" "toldCount" "I", Cond.fieldLink RX1 20 "FieldFilter$Estimator" "told" "[LFieldFilter$Measurement;", Cond.methodLink RX1 79 yX4_copy, Cond.instanceMethod yX4_copy, Cond.selects RX4 yX4_copy yX4_copy, Cond.initialized RX4, Cond.code yX4_copy cX4_copy 2 none, Cond.fieldLink RX4 10 "FieldFilter$State" "x" "LFieldFilter$Column;", Cond.fieldLink RX4 19 "FieldFilter$State" "p" "LFieldFilter$Symmetric;", Cond.methodLink RX4 23 yX0_copy, Cond.instanceMethod yX0_copy, Cond.selects RX0 yX0_copy yX0_copy, Cond.code yX0_copy cX0_copy 2 none, Cond.methodLink RX0 18 yX0_set, Cond.methodLink RX4 27 yX5_copy, Cond.instanceMethod yX5_copy]
def wsX6_late_r4 : List Cond := [Cond.selects RX5 yX5_copy yX5_copy, Cond.initialized RX5, Cond.code yX5_copy cX5_copy 2 none, Cond.fieldLink RX5 9 "FieldFilter$Symmetric" "a00" "I", Cond.fieldLink RX5 15 "FieldFilter$Symmetric" "a01" "I", Cond.fieldLink RX5 18 "FieldFilter$Symmetric" "a11" "I", Cond.methodLink RX5 21 yX5_set, Cond.instanceMethod yX5_set, Cond.selects RX5 yX5_set yX5_set, Cond.code yX5_set cX5_set 4 none, Cond.methodLink RX1 83 yX3_move, Cond.instanceMethod yX3_move, Cond.selects RX3 yX3_move yX3_move, Cond.initialized RX3, Cond.code yX3_move cX3_move 3 none, Cond.fieldLink RX3 43 "FieldFilter$State" "x" "LFieldFilter$Column;", Cond.fieldLink RX3 26 "FieldFilter$Motion" "f00" "I", Cond.fieldLink RX3 49 "FieldFilter$Column" "upper" "I", Cond.fieldLink RX3 30 "FieldFilter$Motion" "f01" "I", Cond.fieldLink RX3 54 "FieldFilter$Column" "lower" "I", Cond.fieldLink RX3 33 "FieldFilter$Motion" "f10" "I", Cond.fieldLink RX3 36 "FieldFilter$Motion" "f11" "I", Cond.fieldLink RX3 60 "FieldFilter$State" "p" "LFieldFilter$Symmetric;", Cond.methodLink RX3 57 yX0_set]
def wsX6_late_r5 : List Cond := [Cond.methodLink RX3 63 yX3_spread, Cond.instanceMethod yX3_spread, Cond.selects RX3 yX3_spread yX3_spread, Cond.code yX3_spread cX3_spread 6 none, Cond.fieldLink RX3 66 "FieldFilter$Symmetric" "a00" "I", Cond.fieldLink RX3 69 "FieldFilter$Symmetric" "a01" "I", Cond.fieldLink RX3 72 "FieldFilter$Symmetric" "a11" "I", Cond.fieldLink RX3 12 "FieldFilter$Motion" "q" "LFieldFilter$Symmetric;", Cond.methodLink RX3 22 yX5_set, Cond.methodLink RX1 86 yX2_countsAt, Cond.instanceMethod yX2_countsAt, Cond.selects RX2 yX2_countsAt yX2_countsAt, Cond.code yX2_countsAt cX2_countsAt 2 (some .boolean), Cond.fieldLink RX2 38 "FieldFilter$Measurement" "dropped" "Z", Cond.methodLink RX1 90 yX2_take, Cond.instanceMethod yX2_take, Cond.selects RX2 yX2_take yX2_take, Cond.code yX2_take cX2_take 2 (some .boolean), Cond.fieldLink RX2 60 "FieldFilter$State" "p" "LFieldFilter$Symmetric;", Cond.fieldLink RX2 57 "FieldFilter$Measurement" "s" "I", Cond.fieldLink RX2 51 "FieldFilter$Column" "upper" "I", Cond.fieldLink RX2 70 "FieldFilter$State" "x" "LFieldFilter$Column;", Cond.fieldLink RX2 54 "FieldFilter$Column" "lower" "I", Cond.fieldLink RX2 77 "FieldFilter$Measurement" "y" "I"]
def wsX6_late_r6 : List Cond := [Cond.fieldLink RX2 83 "FieldFilter$Measurement" "g" "I", Cond.fieldLink RX2 86 "FieldFilter$Measurement" "gated" "Z", Cond.methodLink RX2 66 yX2_weigh, Cond.instanceMethod yX2_weigh, Cond.selects RX2 yX2_weigh yX2_weigh, Cond.code yX2_weigh cX2_weigh 2 none, Cond.fieldLink RX2 18 "FieldFilter$Measurement" "ph" "LFieldFilter$Column;", Cond.methodLink RX2 42 yX0_copy, Cond.methodLink RX2 46 yX5_multiply, Cond.instanceMethod yX5_multiply, Cond.selects RX5 yX5_multiply yX5_multiply, Cond.code yX5_multiply cX5_multiply 2 none, Cond.fieldLink RX5 37 "FieldFilter$Column" "upper" "I", Cond.fieldLink RX5 42 "FieldFilter$Column" "lower" "I", Cond.methodLink RX5 45 yX0_set, Cond.static yX6_less, Cond.code yX6_less cX6_less 2 (some .int), Cond.methodLink RX6 213 yJ9_floorMod_7cf53, Cond.static yJ9_floorMod_7cf53, Cond.initialized RJ9, Cond.code yJ9_floorMod_7cf53 cJ9_floorMod_7cf53 3 (some .int), Cond.static yX6_divide, Cond.code yX6_divide cX6_divide 2 (some .int), Cond.methodLink RX6 218 yX6_inverse]
def wsX6_late_r7 : List Cond := [Cond.static yX6_inverse, Cond.code yX6_inverse cX6_inverse 4 (some .int), Cond.methodLink RX2 89 yX2_correct, Cond.instanceMethod yX2_correct, Cond.selects RX2 yX2_correct yX2_correct, Cond.code yX2_correct cX2_correct 5 none, Cond.methodLink RX2 97 yX5_addSquare, Cond.instanceMethod yX5_addSquare, Cond.selects RX5 yX5_addSquare yX5_addSquare, Cond.code yX5_addSquare cX5_addSquare 5 none]
def wsX6_late : List Cond := .code yX6_late cX6_late 8 (some .int) :: ((wsX6_late_r1 ++ (wsX6_late_r2 ++ (wsX6_late_r3 ++ (wsX6_late_r4 ++ (wsX6_late_r5 ++ (wsX6_late_r6 ++ wsX6_late_r7)))))) ++ wsX10 ++ wsX60 ++ wsX20 ++ wsX00 ++ wsX40 ++ wsX50 ++ wsX30 ++ (vx_atS RX6 194 "java/lang/IndexOutOfBoundsException" ["java/lang/RuntimeException", "java/lang/Exception"]).filter goodWord ++ (vx_atS RX6 207 "java/lang/IllegalArgumentException" ["java/lang/RuntimeException", "java/lang/Exception"]).filter goodWord ++ (vx_atS RX6 28 "java/lang/IllegalStateException" ["java/lang/RuntimeException", "java/lang/Exception"]).filter goodWord)
def wsX6_measurementNumbered : List Cond := .code yX6_measurementNumbered cX6_measurementNumbered 2 (some (.object "FieldFilter$Measurement")) :: ([.classLink RX6 190 "java/lang/IndexOutOfBoundsException", .initialized "java/lang/IndexOutOfBoundsException", .fieldLink RX6 89 "FieldFilter$Estimator" "toldCount" "I", .fieldLink RX6 199 "FieldFilter$Estimator" "told" "[LFieldFilter$Measurement;"] ++ wsX10 ++ (vx_atS RX6 194 "java/lang/IndexOutOfBoundsException" ["java/lang/RuntimeException", "java/lang/Exception"]).filter goodWord)
def wsX6_drop_r1 : List Cond := [Cond.classLink RX6 24 "java/lang/IllegalStateException", Cond.initialized "java/lang/IllegalStateException", Cond.fieldLink RX6 79 "FieldFilter$Measurement" "dropped" "Z", Cond.methodLink RX6 55 yX6_estimatorNumbered, Cond.instanceMethod yX6_estimatorNumbered, Cond.selects RX6 yX6_estimatorNumbered yX6_estimatorNumbered, Cond.initialized RX6, Cond.code yX6_estimatorNumbered cX6_estimatorNumbered 2 (some (.object "FieldFilter$Estimator")), Cond.classLink RX6 190 "java/lang/IndexOutOfBoundsException", Cond.initialized "java/lang/IndexOutOfBoundsException", Cond.fieldLink RX6 43 "FieldFilter" "estimatorCount" "I", Cond.fieldLink RX6 16 "FieldFilter" "estimators" "[LFieldFilter$Estimator;", Cond.methodLink RX6 75 yX6_measurementNumbered, Cond.static yX6_measurementNumbered, Cond.code yX6_measurementNumbered cX6_measurementNumbered 2 (some (.object "FieldFilter$Measurement")), Cond.fieldLink RX6 89 "FieldFilter$Estimator" "toldCount" "I", Cond.fieldLink RX6 199 "FieldFilter$Estimator" "told" "[LFieldFilter$Measurement;", Cond.methodLink RX6 67 yX1_settle, Cond.instanceMethod yX1_settle, Cond.selects RX1 yX1_settle yX1_settle, Cond.initialized RX1, Cond.code yX1_settle cX1_settle 3 (some .boolean), Cond.fieldLink RX1 66 "FieldFilter$Estimator" "time" "I", Cond.fieldLink RX1 30 "FieldFilter$Estimator" "predicted" "[LFieldFilter$State;"]
def wsX6_drop_r2 : List Cond := [Cond.fieldLink RX1 34 "FieldFilter$Estimator" "behind" "[LFieldFilter$State;", Cond.fieldLink RX1 12 "FieldFilter$Estimator" "motion" "LFieldFilter$Motion;", Cond.fieldLink RX1 69 "FieldFilter$Estimator" "toldCount" "I", Cond.fieldLink RX1 20 "FieldFilter$Estimator" "told" "[LFieldFilter$Measurement;", Cond.methodLink RX1 79 yX4_copy, Cond.instanceMethod yX4_copy, Cond.selects RX4 yX4_copy yX4_copy, Cond.initialized RX4, Cond.code yX4_copy cX4_copy 2 none, Cond.fieldLink RX4 10 "FieldFilter$State" "x" "LFieldFilter$Column;", Cond.fieldLink RX4 19 "FieldFilter$State" "p" "LFieldFilter$Symmetric;", Cond.methodLink RX4 23 yX0_copy, Cond.instanceMethod yX0_copy, Cond.selects RX0 yX0_copy yX0_copy, Cond.initialized RX0, Cond.code yX0_copy cX0_copy 2 none, Cond.fieldLink RX0 9 "FieldFilter$Column" "upper" "I", Cond.fieldLink RX0 15 "FieldFilter$Column" "lower" "I", Cond.methodLink RX0 18 yX0_set, Cond.instanceMethod yX0_set, Cond.selects RX0 yX0_set yX0_set, Cond.code yX0_set cX0_set 3 none, Cond.methodLink RX4 27 yX5_copy, Cond.instanceMethod yX5_copy]
def wsX6_drop_r3 : List Cond := [Cond.selects RX5 yX5_copy yX5_copy, Cond.initialized RX5, Cond.code yX5_copy cX5_copy 2 none, Cond.fieldLink RX5 9 "FieldFilter$Symmetric" "a00" "I", Cond.fieldLink RX5 15 "FieldFilter$Symmetric" "a01" "I", Cond.fieldLink RX5 18 "FieldFilter$Symmetric" "a11" "I", Cond.methodLink RX5 21 yX5_set, Cond.instanceMethod yX5_set, Cond.selects RX5 yX5_set yX5_set, Cond.code yX5_set cX5_set 4 none, Cond.methodLink RX1 83 yX3_move, Cond.instanceMethod yX3_move, Cond.selects RX3 yX3_move yX3_move, Cond.initialized RX3, Cond.code yX3_move cX3_move 3 none, Cond.fieldLink RX3 43 "FieldFilter$State" "x" "LFieldFilter$Column;", Cond.fieldLink RX3 26 "FieldFilter$Motion" "f00" "I", Cond.fieldLink RX3 49 "FieldFilter$Column" "upper" "I", Cond.fieldLink RX3 30 "FieldFilter$Motion" "f01" "I", Cond.fieldLink RX3 54 "FieldFilter$Column" "lower" "I", Cond.fieldLink RX3 33 "FieldFilter$Motion" "f10" "I", Cond.fieldLink RX3 36 "FieldFilter$Motion" "f11" "I", Cond.fieldLink RX3 60 "FieldFilter$State" "p" "LFieldFilter$Symmetric;", Cond.methodLink RX3 57 yX0_set]
def wsX6_drop_r4 : List Cond := [Cond.methodLink RX3 63 yX3_spread, Cond.instanceMethod yX3_spread, Cond.selects RX3 yX3_spread yX3_spread, Cond.code yX3_spread cX3_spread 6 none, Cond.fieldLink RX3 66 "FieldFilter$Symmetric" "a00" "I", Cond.fieldLink RX3 69 "FieldFilter$Symmetric" "a01" "I", Cond.fieldLink RX3 72 "FieldFilter$Symmetric" "a11" "I", Cond.fieldLink RX3 12 "FieldFilter$Motion" "q" "LFieldFilter$Symmetric;", Cond.methodLink RX3 22 yX5_set, Cond.methodLink RX1 86 yX2_countsAt, Cond.instanceMethod yX2_countsAt, Cond.selects RX2 yX2_countsAt yX2_countsAt, Cond.initialized RX2, Cond.code yX2_countsAt cX2_countsAt 2 (some .boolean), Cond.fieldLink RX2 32 "FieldFilter$Measurement" "time" "I", Cond.fieldLink RX2 38 "FieldFilter$Measurement" "dropped" "Z", Cond.methodLink RX1 90 yX2_take, Cond.instanceMethod yX2_take, Cond.selects RX2 yX2_take yX2_take, Cond.code yX2_take cX2_take 2 (some .boolean), Cond.fieldLink RX2 60 "FieldFilter$State" "p" "LFieldFilter$Symmetric;", Cond.fieldLink RX2 57 "FieldFilter$Measurement" "s" "I", Cond.fieldLink RX2 25 "FieldFilter$Measurement" "z" "I", Cond.fieldLink RX2 12 "FieldFilter$Measurement" "h" "LFieldFilter$Column;"]
def wsX6_drop_r5 : List Cond := [Cond.fieldLink RX2 51 "FieldFilter$Column" "upper" "I", Cond.fieldLink RX2 70 "FieldFilter$State" "x" "LFieldFilter$Column;", Cond.fieldLink RX2 54 "FieldFilter$Column" "lower" "I", Cond.fieldLink RX2 77 "FieldFilter$Measurement" "y" "I", Cond.fieldLink RX2 83 "FieldFilter$Measurement" "g" "I", Cond.fieldLink RX2 35 "FieldFilter$Measurement" "threshold" "I", Cond.fieldLink RX2 86 "FieldFilter$Measurement" "gated" "Z", Cond.methodLink RX2 66 yX2_weigh, Cond.instanceMethod yX2_weigh, Cond.selects RX2 yX2_weigh yX2_weigh, Cond.code yX2_weigh cX2_weigh 2 none, Cond.fieldLink RX2 18 "FieldFilter$Measurement" "ph" "LFieldFilter$Column;", Cond.fieldLink RX2 29 "FieldFilter$Measurement" "r" "I", Cond.methodLink RX2 42 yX0_copy, Cond.methodLink RX2 46 yX5_multiply, Cond.instanceMethod yX5_multiply, Cond.selects RX5 yX5_multiply yX5_multiply, Cond.code yX5_multiply cX5_multiply 2 none, Cond.fieldLink RX5 37 "FieldFilter$Column" "upper" "I", Cond.fieldLink RX5 42 "FieldFilter$Column" "lower" "I", Cond.methodLink RX5 45 yX0_set, Cond.static yX6_less, Cond.code yX6_less cX6_less 2 (some .int), Cond.methodLink RX6 213 yJ9_floorMod_7cf53]
def wsX6_drop_r6 : List Cond := [Cond.static yJ9_floorMod_7cf53, Cond.initialized RJ9, Cond.code yJ9_floorMod_7cf53 cJ9_floorMod_7cf53 3 (some .int), Cond.static yX6_divide, Cond.code yX6_divide cX6_divide 2 (some .int), Cond.methodLink RX6 218 yX6_inverse, Cond.static yX6_inverse, Cond.code yX6_inverse cX6_inverse 4 (some .int), Cond.methodLink RX2 89 yX2_correct, Cond.instanceMethod yX2_correct, Cond.selects RX2 yX2_correct yX2_correct, Cond.code yX2_correct cX2_correct 5 none, Cond.methodLink RX2 21 yX0_set, Cond.methodLink RX2 97 yX5_addSquare, Cond.instanceMethod yX5_addSquare, Cond.selects RX5 yX5_addSquare yX5_addSquare, Cond.code yX5_addSquare cX5_addSquare 5 none]
def wsX6_drop : List Cond := .code yX6_drop cX6_drop 5 none :: ((wsX6_drop_r1 ++ (wsX6_drop_r2 ++ (wsX6_drop_r3 ++ (wsX6_drop_r4 ++ (wsX6_drop_r5 ++ wsX6_drop_r6))))) ++ wsX20 ++ wsX60 ++ wsX10 ++ wsX40 ++ wsX00 ++ wsX50 ++ wsX30 ++ (vx_atS RX6 28 "java/lang/IllegalStateException" ["java/lang/RuntimeException", "java/lang/Exception"]).filter goodWord ++ (vx_atS RX6 194 "java/lang/IndexOutOfBoundsException" ["java/lang/RuntimeException", "java/lang/Exception"]).filter goodWord)
def wsX6_of_r1 : List Cond := [Cond.fieldLink RX6 62 "FieldFilter$Estimator" "time" "I", Cond.fieldLink RX6 89 "FieldFilter$Estimator" "toldCount" "I", Cond.fieldLink RX6 100 "FieldFilter$State" "p" "LFieldFilter$Symmetric;", Cond.methodLink RX6 55 yX6_estimatorNumbered, Cond.instanceMethod yX6_estimatorNumbered, Cond.selects RX6 yX6_estimatorNumbered yX6_estimatorNumbered, Cond.initialized RX6, Cond.code yX6_estimatorNumbered cX6_estimatorNumbered 2 (some (.object "FieldFilter$Estimator")), Cond.classLink RX6 190 "java/lang/IndexOutOfBoundsException", Cond.initialized "java/lang/IndexOutOfBoundsException", Cond.fieldLink RX6 43 "FieldFilter" "estimatorCount" "I", Cond.fieldLink RX6 16 "FieldFilter" "estimators" "[LFieldFilter$Estimator;", Cond.methodLink RX6 35 yX6_checkRange, Cond.static yX6_checkRange, Cond.code yX6_checkRange cX6_checkRange 2 none, Cond.classLink RX6 203 "java/lang/IllegalArgumentException", Cond.initialized "java/lang/IllegalArgumentException", Cond.methodLink RX6 92 yX1_countGated, Cond.instanceMethod yX1_countGated, Cond.selects RX1 yX1_countGated yX1_countGated, Cond.initialized RX1, Cond.code yX1_countGated cX1_countGated 3 (some .int), Cond.fieldLink RX1 69 "FieldFilter$Estimator" "toldCount" "I", Cond.fieldLink RX1 20 "FieldFilter$Estimator" "told" "[LFieldFilter$Measurement;"]
def wsX6_of_r2 : List Cond := [Cond.fieldLink RX1 72 "FieldFilter$Measurement" "gated" "Z", Cond.fieldLink RX1 76 "FieldFilter$Measurement" "dropped" "Z", Cond.methodLink RX6 96 yX1_current, Cond.instanceMethod yX1_current, Cond.selects RX1 yX1_current yX1_current, Cond.code yX1_current cX1_current 1 (some (.object "FieldFilter$State")), Cond.fieldLink RX1 34 "FieldFilter$Estimator" "behind" "[LFieldFilter$State;", Cond.fieldLink RX1 66 "FieldFilter$Estimator" "time" "I", Cond.methodLink RX6 106 yX5_determinant, Cond.instanceMethod yX5_determinant, Cond.selects RX5 yX5_determinant yX5_determinant, Cond.initialized RX5, Cond.code yX5_determinant cX5_determinant 1 (some .int), Cond.fieldLink RX5 9 "FieldFilter$Symmetric" "a00" "I", Cond.fieldLink RX5 18 "FieldFilter$Symmetric" "a11" "I", Cond.fieldLink RX5 15 "FieldFilter$Symmetric" "a01" "I", Cond.static yX6_less, Cond.code yX6_less cX6_less 2 (some .int), Cond.methodLink RX6 213 yJ9_floorMod_7cf53, Cond.static yJ9_floorMod_7cf53, Cond.initialized RJ9, Cond.code yJ9_floorMod_7cf53 cJ9_floorMod_7cf53 3 (some .int), Cond.methodLink RX6 111 yX4_number, Cond.instanceMethod yX4_number]
def wsX6_of_r3 : List Cond := [Cond.selects RX4 yX4_number yX4_number, Cond.initialized RX4, Cond.code yX4_number cX4_number 2 (some .int), Cond.fieldLink RX4 10 "FieldFilter$State" "x" "LFieldFilter$Column;", Cond.fieldLink RX4 30 "FieldFilter$Column" "upper" "I", Cond.fieldLink RX4 34 "FieldFilter$Column" "lower" "I", Cond.fieldLink RX4 19 "FieldFilter$State" "p" "LFieldFilter$Symmetric;", Cond.fieldLink RX4 37 "FieldFilter$Symmetric" "a00" "I", Cond.fieldLink RX4 40 "FieldFilter$Symmetric" "a01" "I", Cond.fieldLink RX4 43 "FieldFilter$Symmetric" "a11" "I"]
def wsX6_of : List Cond := .code yX6_of cX6_of 4 (some .int) :: ((wsX6_of_r1 ++ (wsX6_of_r2 ++ wsX6_of_r3)) ++ wsX10 ++ wsX40 ++ wsX60 ++ wsX20 ++ wsX50 ++ wsX00 ++ (vx_atS RX6 194 "java/lang/IndexOutOfBoundsException" ["java/lang/RuntimeException", "java/lang/Exception"]).filter goodWord ++ (vx_atS RX6 207 "java/lang/IllegalArgumentException" ["java/lang/RuntimeException", "java/lang/Exception"]).filter goodWord)
def wsX6_ofMeasurement_r1 : List Cond := [Cond.fieldLink RX6 115 "FieldFilter$Measurement" "time" "I", Cond.fieldLink RX6 79 "FieldFilter$Measurement" "dropped" "Z", Cond.fieldLink RX6 116 "FieldFilter$Measurement" "y" "I", Cond.fieldLink RX6 119 "FieldFilter$Measurement" "s" "I", Cond.fieldLink RX6 122 "FieldFilter$Measurement" "g" "I", Cond.fieldLink RX6 125 "FieldFilter$Measurement" "gated" "Z", Cond.methodLink RX6 55 yX6_estimatorNumbered, Cond.instanceMethod yX6_estimatorNumbered, Cond.selects RX6 yX6_estimatorNumbered yX6_estimatorNumbered, Cond.initialized RX6, Cond.code yX6_estimatorNumbered cX6_estimatorNumbered 2 (some (.object "FieldFilter$Estimator")), Cond.classLink RX6 190 "java/lang/IndexOutOfBoundsException", Cond.initialized "java/lang/IndexOutOfBoundsException", Cond.fieldLink RX6 43 "FieldFilter" "estimatorCount" "I", Cond.fieldLink RX6 16 "FieldFilter" "estimators" "[LFieldFilter$Estimator;", Cond.methodLink RX6 75 yX6_measurementNumbered, Cond.static yX6_measurementNumbered, Cond.code yX6_measurementNumbered cX6_measurementNumbered 2 (some (.object "FieldFilter$Measurement")), Cond.fieldLink RX6 89 "FieldFilter$Estimator" "toldCount" "I", Cond.fieldLink RX6 199 "FieldFilter$Estimator" "told" "[LFieldFilter$Measurement;", Cond.methodLink RX6 35 yX6_checkRange, Cond.static yX6_checkRange, Cond.code yX6_checkRange cX6_checkRange 2 none, Cond.classLink RX6 203 "java/lang/IllegalArgumentException"]
def wsX6_ofMeasurement_r2 : List Cond := [Cond.initialized "java/lang/IllegalArgumentException"]
def wsX6_ofMeasurement : List Cond := .code yX6_ofMeasurement cX6_ofMeasurement 6 (some .int) :: ((wsX6_ofMeasurement_r1 ++ wsX6_ofMeasurement_r2) ++ wsX20 ++ wsX60 ++ wsX10 ++ (vx_atS RX6 194 "java/lang/IndexOutOfBoundsException" ["java/lang/RuntimeException", "java/lang/Exception"]).filter goodWord ++ (vx_atS RX6 207 "java/lang/IllegalArgumentException" ["java/lang/RuntimeException", "java/lang/Exception"]).filter goodWord)
def wsX6_gain_r1 : List Cond := [Cond.classLink RX6 24 "java/lang/IllegalStateException", Cond.initialized "java/lang/IllegalStateException", Cond.classLink RX6 80 RX2, Cond.instantiable RX2 11, Cond.initialized RX2, Cond.fieldLink RX6 100 "FieldFilter$State" "p" "LFieldFilter$Symmetric;", Cond.fieldLink RX6 119 "FieldFilter$Measurement" "s" "I", Cond.fieldLink RX6 139 "FieldFilter$Measurement" "ph" "LFieldFilter$Column;", Cond.methodLink RX6 55 yX6_estimatorNumbered, Cond.instanceMethod yX6_estimatorNumbered, Cond.selects RX6 yX6_estimatorNumbered yX6_estimatorNumbered, Cond.initialized RX6, Cond.code yX6_estimatorNumbered cX6_estimatorNumbered 2 (some (.object "FieldFilter$Estimator")), Cond.classLink RX6 190 "java/lang/IndexOutOfBoundsException", Cond.initialized "java/lang/IndexOutOfBoundsException", Cond.fieldLink RX6 43 "FieldFilter" "estimatorCount" "I", Cond.fieldLink RX6 16 "FieldFilter" "estimators" "[LFieldFilter$Estimator;", Cond.methodLink RX6 39 yX6_checkField, Cond.static yX6_checkField, Cond.code yX6_checkField cX6_checkField 1 none, Cond.methodLink RX6 35 yX6_checkRange, Cond.static yX6_checkRange, Cond.code yX6_checkRange cX6_checkRange 2 none, Cond.classLink RX6 203 "java/lang/IllegalArgumentException"]
def wsX6_gain_r2 : List Cond := [Cond.initialized "java/lang/IllegalArgumentException", Cond.instanceMethod yX2_init, Cond.code yX2_init cX2_init 1 none, Cond.methodLink RX2 3 objectInit, Cond.instanceMethod objectInit, Cond.code objectInit ⟨#[0xb1]⟩ 1 none, Cond.classLink RX2 9 RX0, Cond.instantiable RX0 2, Cond.initialized RX0, Cond.fieldLink RX2 12 "FieldFilter$Measurement" "h" "LFieldFilter$Column;", Cond.fieldLink RX2 18 "FieldFilter$Measurement" "ph" "LFieldFilter$Column;", Cond.instanceMethod yX0_init, Cond.code yX0_init cX0_init 1 none, Cond.methodLink RX0 3 objectInit, Cond.methodLink RX6 129 yX2_look, Cond.instanceMethod yX2_look, Cond.selects RX2 yX2_look yX2_look, Cond.code yX2_look cX2_look 5 none, Cond.fieldLink RX2 25 "FieldFilter$Measurement" "z" "I", Cond.fieldLink RX2 29 "FieldFilter$Measurement" "r" "I", Cond.methodLink RX2 21 yX0_set, Cond.instanceMethod yX0_set, Cond.selects RX0 yX0_set yX0_set, Cond.code yX0_set cX0_set 3 none]
def wsX6_gain_r3 : List Cond := [Cond.fieldLink RX0 9 "FieldFilter$Column" "upper" "I", Cond.fieldLink RX0 15 "FieldFilter$Column" "lower" "I", Cond.methodLink RX6 96 yX1_current, Cond.instanceMethod yX1_current, Cond.selects RX1 yX1_current yX1_current, Cond.initialized RX1, Cond.code yX1_current cX1_current 1 (some (.object "FieldFilter$State")), Cond.fieldLink RX1 34 "FieldFilter$Estimator" "behind" "[LFieldFilter$State;", Cond.fieldLink RX1 66 "FieldFilter$Estimator" "time" "I", Cond.methodLink RX6 133 yX2_weigh, Cond.instanceMethod yX2_weigh, Cond.selects RX2 yX2_weigh yX2_weigh, Cond.code yX2_weigh cX2_weigh 2 none, Cond.fieldLink RX2 51 "FieldFilter$Column" "upper" "I", Cond.fieldLink RX2 54 "FieldFilter$Column" "lower" "I", Cond.fieldLink RX2 57 "FieldFilter$Measurement" "s" "I", Cond.methodLink RX2 42 yX0_copy, Cond.instanceMethod yX0_copy, Cond.selects RX0 yX0_copy yX0_copy, Cond.code yX0_copy cX0_copy 2 none, Cond.methodLink RX0 18 yX0_set, Cond.methodLink RX2 46 yX5_multiply, Cond.instanceMethod yX5_multiply, Cond.selects RX5 yX5_multiply yX5_multiply]
def wsX6_gain_r4 : List Cond := [Cond.initialized RX5, Cond.code yX5_multiply cX5_multiply 2 none, Cond.fieldLink RX5 9 "FieldFilter$Symmetric" "a00" "I", Cond.fieldLink RX5 37 "FieldFilter$Column" "upper" "I", Cond.fieldLink RX5 15 "FieldFilter$Symmetric" "a01" "I", Cond.fieldLink RX5 42 "FieldFilter$Column" "lower" "I", Cond.fieldLink RX5 18 "FieldFilter$Symmetric" "a11" "I", Cond.methodLink RX5 45 yX0_set, Cond.methodLink RX6 143 yX0_number, Cond.instanceMethod yX0_number, Cond.selects RX0 yX0_number yX0_number, Cond.code yX0_number cX0_number 2 (some .int), Cond.methodLink RX6 146 yX6_divide, Cond.static yX6_divide, Cond.code yX6_divide cX6_divide 2 (some .int), Cond.methodLink RX6 218 yX6_inverse, Cond.static yX6_inverse, Cond.code yX6_inverse cX6_inverse 4 (some .int)]
def wsX6_gain : List Cond := .code yX6_gain cX6_gain 8 (some .int) :: ((wsX6_gain_r1 ++ (wsX6_gain_r2 ++ (wsX6_gain_r3 ++ wsX6_gain_r4))) ++ wsX20 ++ wsX40 ++ wsX60 ++ wsX00 ++ wsX10 ++ wsX50 ++ (vx_atS RX6 28 "java/lang/IllegalStateException" ["java/lang/RuntimeException", "java/lang/Exception"]).filter goodWord ++ (vx_atS RX6 194 "java/lang/IndexOutOfBoundsException" ["java/lang/RuntimeException", "java/lang/Exception"]).filter goodWord ++ (vx_atS RX6 207 "java/lang/IllegalArgumentException" ["java/lang/RuntimeException", "java/lang/Exception"]).filter goodWord)
def wsX6_information_r1 : List Cond := [Cond.classLink RX6 24 "java/lang/IllegalStateException", Cond.initialized "java/lang/IllegalStateException", Cond.classLink RX6 101 RX4, Cond.instantiable RX4 2, Cond.initialized RX4, Cond.methodLink RX6 55 yX6_estimatorNumbered, Cond.instanceMethod yX6_estimatorNumbered, Cond.selects RX6 yX6_estimatorNumbered yX6_estimatorNumbered, Cond.initialized RX6, Cond.code yX6_estimatorNumbered cX6_estimatorNumbered 2 (some (.object "FieldFilter$Estimator")), Cond.classLink RX6 190 "java/lang/IndexOutOfBoundsException", Cond.initialized "java/lang/IndexOutOfBoundsException", Cond.fieldLink RX6 43 "FieldFilter" "estimatorCount" "I", Cond.fieldLink RX6 16 "FieldFilter" "estimators" "[LFieldFilter$Estimator;", Cond.methodLink RX6 35 yX6_checkRange, Cond.static yX6_checkRange, Cond.code yX6_checkRange cX6_checkRange 2 none, Cond.classLink RX6 203 "java/lang/IllegalArgumentException", Cond.initialized "java/lang/IllegalArgumentException", Cond.instanceMethod yX4_init, Cond.code yX4_init cX4_init 1 none, Cond.methodLink RX4 1 objectInit, Cond.instanceMethod objectInit, Cond.code objectInit ⟨#[0xb1]⟩ 1 none]
def wsX6_information_r2 : List Cond := [Cond.classLink RX4 7 RX0, Cond.instantiable RX0 2, Cond.initialized RX0, Cond.fieldLink RX4 10 "FieldFilter$State" "x" "LFieldFilter$Column;", Cond.classLink RX4 16 RX5, Cond.instantiable RX5 3, Cond.initialized RX5, Cond.fieldLink RX4 19 "FieldFilter$State" "p" "LFieldFilter$Symmetric;", Cond.instanceMethod yX0_init, Cond.code yX0_init cX0_init 1 none, Cond.methodLink RX0 3 objectInit, Cond.instanceMethod yX5_init, Cond.code yX5_init cX5_init 1 none, Cond.methodLink RX5 3 objectInit, Cond.methodLink RX6 96 yX1_current, Cond.instanceMethod yX1_current, Cond.selects RX1 yX1_current yX1_current, Cond.initialized RX1, Cond.code yX1_current cX1_current 1 (some (.object "FieldFilter$State")), Cond.fieldLink RX1 34 "FieldFilter$Estimator" "behind" "[LFieldFilter$State;", Cond.fieldLink RX1 66 "FieldFilter$Estimator" "time" "I", Cond.methodLink RX6 151 yX4_invert, Cond.instanceMethod yX4_invert, Cond.selects RX4 yX4_invert yX4_invert]
def wsX6_information_r3 : List Cond := [Cond.code yX4_invert cX4_invert 2 (some .boolean), Cond.methodLink RX4 46 yX5_invert, Cond.instanceMethod yX5_invert, Cond.selects RX5 yX5_invert yX5_invert, Cond.code yX5_invert cX5_invert 4 (some .boolean), Cond.fieldLink RX5 18 "FieldFilter$Symmetric" "a11" "I", Cond.fieldLink RX5 15 "FieldFilter$Symmetric" "a01" "I", Cond.fieldLink RX5 9 "FieldFilter$Symmetric" "a00" "I", Cond.methodLink RX5 29 yX5_determinant, Cond.instanceMethod yX5_determinant, Cond.selects RX5 yX5_determinant yX5_determinant, Cond.code yX5_determinant cX5_determinant 1 (some .int), Cond.static yX6_less, Cond.code yX6_less cX6_less 2 (some .int), Cond.methodLink RX6 213 yJ9_floorMod_7cf53, Cond.static yJ9_floorMod_7cf53, Cond.initialized RJ9, Cond.code yJ9_floorMod_7cf53 cJ9_floorMod_7cf53 3 (some .int), Cond.static yX6_inverse, Cond.code yX6_inverse cX6_inverse 4 (some .int), Cond.methodLink RX5 21 yX5_set, Cond.instanceMethod yX5_set, Cond.selects RX5 yX5_set yX5_set, Cond.code yX5_set cX5_set 4 none]
def wsX6_information_r4 : List Cond := [Cond.methodLink RX4 23 yX0_copy, Cond.instanceMethod yX0_copy, Cond.selects RX0 yX0_copy yX0_copy, Cond.code yX0_copy cX0_copy 2 none, Cond.fieldLink RX0 9 "FieldFilter$Column" "upper" "I", Cond.fieldLink RX0 15 "FieldFilter$Column" "lower" "I", Cond.methodLink RX0 18 yX0_set, Cond.instanceMethod yX0_set, Cond.selects RX0 yX0_set yX0_set, Cond.code yX0_set cX0_set 3 none, Cond.methodLink RX4 50 yX5_multiply, Cond.instanceMethod yX5_multiply, Cond.selects RX5 yX5_multiply yX5_multiply, Cond.code yX5_multiply cX5_multiply 2 none, Cond.fieldLink RX5 37 "FieldFilter$Column" "upper" "I", Cond.fieldLink RX5 42 "FieldFilter$Column" "lower" "I", Cond.methodLink RX5 45 yX0_set, Cond.methodLink RX6 111 yX4_number, Cond.instanceMethod yX4_number, Cond.selects RX4 yX4_number yX4_number, Cond.code yX4_number cX4_number 2 (some .int), Cond.fieldLink RX4 30 "FieldFilter$Column" "upper" "I", Cond.fieldLink RX4 34 "FieldFilter$Column" "lower" "I", Cond.fieldLink RX4 37 "FieldFilter$Symmetric" "a00" "I"]
def wsX6_information_r5 : List Cond := [Cond.fieldLink RX4 40 "FieldFilter$Symmetric" "a01" "I", Cond.fieldLink RX4 43 "FieldFilter$Symmetric" "a11" "I"]
def wsX6_information : List Cond := .code yX6_information cX6_information 5 (some .int) :: ((wsX6_information_r1 ++ (wsX6_information_r2 ++ (wsX6_information_r3 ++ (wsX6_information_r4 ++ wsX6_information_r5)))) ++ wsX40 ++ wsX60 ++ wsX00 ++ wsX50 ++ wsX10 ++ (vx_atS RX6 28 "java/lang/IllegalStateException" ["java/lang/RuntimeException", "java/lang/Exception"]).filter goodWord ++ (vx_atS RX6 194 "java/lang/IndexOutOfBoundsException" ["java/lang/RuntimeException", "java/lang/Exception"]).filter goodWord ++ (vx_atS RX6 207 "java/lang/IllegalArgumentException" ["java/lang/RuntimeException", "java/lang/Exception"]).filter goodWord)
def wsX6_anew_r1 : List Cond := [Cond.classLink RX6 24 "java/lang/IllegalStateException", Cond.initialized "java/lang/IllegalStateException", Cond.classLink RX6 101 RX4, Cond.instantiable RX4 2, Cond.initialized RX4, Cond.methodLink RX6 55 yX6_estimatorNumbered, Cond.instanceMethod yX6_estimatorNumbered, Cond.selects RX6 yX6_estimatorNumbered yX6_estimatorNumbered, Cond.initialized RX6, Cond.code yX6_estimatorNumbered cX6_estimatorNumbered 2 (some (.object "FieldFilter$Estimator")), Cond.classLink RX6 190 "java/lang/IndexOutOfBoundsException", Cond.initialized "java/lang/IndexOutOfBoundsException", Cond.fieldLink RX6 43 "FieldFilter" "estimatorCount" "I", Cond.fieldLink RX6 16 "FieldFilter" "estimators" "[LFieldFilter$Estimator;", Cond.methodLink RX6 35 yX6_checkRange, Cond.static yX6_checkRange, Cond.code yX6_checkRange cX6_checkRange 2 none, Cond.classLink RX6 203 "java/lang/IllegalArgumentException", Cond.initialized "java/lang/IllegalArgumentException", Cond.instanceMethod yX4_init, Cond.code yX4_init cX4_init 1 none, Cond.methodLink RX4 1 objectInit, Cond.instanceMethod objectInit, Cond.code objectInit ⟨#[0xb1]⟩ 1 none]
def wsX6_anew_r2 : List Cond := [Cond.classLink RX4 7 RX0, Cond.instantiable RX0 2, Cond.initialized RX0, Cond.fieldLink RX4 10 "FieldFilter$State" "x" "LFieldFilter$Column;", Cond.classLink RX4 16 RX5, Cond.instantiable RX5 3, Cond.initialized RX5, Cond.fieldLink RX4 19 "FieldFilter$State" "p" "LFieldFilter$Symmetric;", Cond.instanceMethod yX0_init, Cond.code yX0_init cX0_init 1 none, Cond.methodLink RX0 3 objectInit, Cond.instanceMethod yX5_init, Cond.code yX5_init cX5_init 1 none, Cond.methodLink RX5 3 objectInit, Cond.methodLink RX6 157 yX1_findSecondWay, Cond.instanceMethod yX1_findSecondWay, Cond.selects RX1 yX1_findSecondWay yX1_findSecondWay, Cond.initialized RX1, Cond.code yX1_findSecondWay cX1_findSecondWay 4 (some .boolean), Cond.classLink RX1 28 RX4, Cond.fieldLink RX1 30 "FieldFilter$Estimator" "predicted" "[LFieldFilter$State;", Cond.fieldLink RX1 66 "FieldFilter$Estimator" "time" "I", Cond.methodLink RX1 94 yX4_invert, Cond.instanceMethod yX4_invert]
def wsX6_anew_r3 : List Cond := [Cond.selects RX4 yX4_invert yX4_invert, Cond.code yX4_invert cX4_invert 2 (some .boolean), Cond.methodLink RX4 46 yX5_invert, Cond.instanceMethod yX5_invert, Cond.selects RX5 yX5_invert yX5_invert, Cond.code yX5_invert cX5_invert 4 (some .boolean), Cond.fieldLink RX5 18 "FieldFilter$Symmetric" "a11" "I", Cond.fieldLink RX5 15 "FieldFilter$Symmetric" "a01" "I", Cond.fieldLink RX5 9 "FieldFilter$Symmetric" "a00" "I", Cond.methodLink RX5 29 yX5_determinant, Cond.instanceMethod yX5_determinant, Cond.selects RX5 yX5_determinant yX5_determinant, Cond.code yX5_determinant cX5_determinant 1 (some .int), Cond.static yX6_less, Cond.code yX6_less cX6_less 2 (some .int), Cond.methodLink RX6 213 yJ9_floorMod_7cf53, Cond.static yJ9_floorMod_7cf53, Cond.initialized RJ9, Cond.code yJ9_floorMod_7cf53 cJ9_floorMod_7cf53 3 (some .int), Cond.static yX6_inverse, Cond.code yX6_inverse cX6_inverse 4 (some .int), Cond.methodLink RX5 21 yX5_set, Cond.instanceMethod yX5_set, Cond.selects RX5 yX5_set yX5_set]
def wsX6_anew_r4 : List Cond := [Cond.code yX5_set cX5_set 4 none, Cond.methodLink RX4 23 yX0_copy, Cond.instanceMethod yX0_copy, Cond.selects RX0 yX0_copy yX0_copy, Cond.code yX0_copy cX0_copy 2 none, Cond.fieldLink RX0 9 "FieldFilter$Column" "upper" "I", Cond.fieldLink RX0 15 "FieldFilter$Column" "lower" "I", Cond.methodLink RX0 18 yX0_set, Cond.instanceMethod yX0_set, Cond.selects RX0 yX0_set yX0_set, Cond.code yX0_set cX0_set 3 none, Cond.methodLink RX4 50 yX5_multiply, Cond.instanceMethod yX5_multiply, Cond.selects RX5 yX5_multiply yX5_multiply, Cond.code yX5_multiply cX5_multiply 2 none, Cond.fieldLink RX5 37 "FieldFilter$Column" "upper" "I", Cond.fieldLink RX5 42 "FieldFilter$Column" "lower" "I", Cond.methodLink RX5 45 yX0_set, Cond.methodLink RX1 97 yX1_predictSecondWay, Cond.instanceMethod yX1_predictSecondWay, Cond.selects RX1 yX1_predictSecondWay yX1_predictSecondWay, Cond.code yX1_predictSecondWay cX1_predictSecondWay 3 (some .boolean), Cond.fieldLink RX1 12 "FieldFilter$Estimator" "motion" "LFieldFilter$Motion;", Cond.methodLink RX1 83 yX3_move]
def wsX6_anew_r5 : List Cond := [Cond.instanceMethod yX3_move, Cond.selects RX3 yX3_move yX3_move, Cond.initialized RX3, Cond.code yX3_move cX3_move 3 none, Cond.fieldLink RX3 43 "FieldFilter$State" "x" "LFieldFilter$Column;", Cond.fieldLink RX3 26 "FieldFilter$Motion" "f00" "I", Cond.fieldLink RX3 49 "FieldFilter$Column" "upper" "I", Cond.fieldLink RX3 30 "FieldFilter$Motion" "f01" "I", Cond.fieldLink RX3 54 "FieldFilter$Column" "lower" "I", Cond.fieldLink RX3 33 "FieldFilter$Motion" "f10" "I", Cond.fieldLink RX3 36 "FieldFilter$Motion" "f11" "I", Cond.fieldLink RX3 60 "FieldFilter$State" "p" "LFieldFilter$Symmetric;", Cond.methodLink RX3 57 yX0_set, Cond.methodLink RX3 63 yX3_spread, Cond.instanceMethod yX3_spread, Cond.selects RX3 yX3_spread yX3_spread, Cond.code yX3_spread cX3_spread 6 none, Cond.fieldLink RX3 66 "FieldFilter$Symmetric" "a00" "I", Cond.fieldLink RX3 69 "FieldFilter$Symmetric" "a01" "I", Cond.fieldLink RX3 72 "FieldFilter$Symmetric" "a11" "I", Cond.fieldLink RX3 12 "FieldFilter$Motion" "q" "LFieldFilter$Symmetric;", Cond.methodLink RX3 22 yX5_set, Cond.methodLink RX1 101 yX1_informAll, Cond.instanceMethod yX1_informAll]
def wsX6_anew_r6 : List Cond := [Cond.selects RX1 yX1_informAll yX1_informAll, Cond.code yX1_informAll cX1_informAll 4 (some .boolean), Cond.fieldLink RX1 69 "FieldFilter$Estimator" "toldCount" "I", Cond.fieldLink RX1 20 "FieldFilter$Estimator" "told" "[LFieldFilter$Measurement;", Cond.fieldLink RX1 72 "FieldFilter$Measurement" "gated" "Z", Cond.methodLink RX1 86 yX2_countsAt, Cond.instanceMethod yX2_countsAt, Cond.selects RX2 yX2_countsAt yX2_countsAt, Cond.initialized RX2, Cond.code yX2_countsAt cX2_countsAt 2 (some .boolean), Cond.fieldLink RX2 32 "FieldFilter$Measurement" "time" "I", Cond.fieldLink RX2 38 "FieldFilter$Measurement" "dropped" "Z", Cond.methodLink RX1 105 yX2_inform, Cond.instanceMethod yX2_inform, Cond.selects RX2 yX2_inform yX2_inform, Cond.code yX2_inform cX2_inform 5 (some .boolean), Cond.fieldLink RX2 29 "FieldFilter$Measurement" "r" "I", Cond.fieldLink RX2 25 "FieldFilter$Measurement" "z" "I", Cond.fieldLink RX2 70 "FieldFilter$State" "x" "LFieldFilter$Column;", Cond.fieldLink RX2 60 "FieldFilter$State" "p" "LFieldFilter$Symmetric;", Cond.fieldLink RX2 12 "FieldFilter$Measurement" "h" "LFieldFilter$Column;", Cond.fieldLink RX2 51 "FieldFilter$Column" "upper" "I", Cond.fieldLink RX2 54 "FieldFilter$Column" "lower" "I", Cond.methodLink RX2 97 yX5_addSquare]
def wsX6_anew_r7 : List Cond := [Cond.instanceMethod yX5_addSquare, Cond.selects RX5 yX5_addSquare yX5_addSquare, Cond.code yX5_addSquare cX5_addSquare 5 none, Cond.methodLink RX2 21 yX0_set, Cond.methodLink RX6 111 yX4_number, Cond.instanceMethod yX4_number, Cond.selects RX4 yX4_number yX4_number, Cond.code yX4_number cX4_number 2 (some .int), Cond.fieldLink RX4 30 "FieldFilter$Column" "upper" "I", Cond.fieldLink RX4 34 "FieldFilter$Column" "lower" "I", Cond.fieldLink RX4 37 "FieldFilter$Symmetric" "a00" "I", Cond.fieldLink RX4 40 "FieldFilter$Symmetric" "a01" "I", Cond.fieldLink RX4 43 "FieldFilter$Symmetric" "a11" "I"]
def wsX6_anew : List Cond := .code yX6_anew cX6_anew 5 (some .int) :: ((wsX6_anew_r1 ++ (wsX6_anew_r2 ++ (wsX6_anew_r3 ++ (wsX6_anew_r4 ++ (wsX6_anew_r5 ++ (wsX6_anew_r6 ++ wsX6_anew_r7)))))) ++ wsX40 ++ wsX60 ++ wsX00 ++ wsX50 ++ wsX10 ++ wsX30 ++ wsX20 ++ (vx_atS RX6 28 "java/lang/IllegalStateException" ["java/lang/RuntimeException", "java/lang/Exception"]).filter goodWord ++ (vx_atS RX6 194 "java/lang/IndexOutOfBoundsException" ["java/lang/RuntimeException", "java/lang/Exception"]).filter goodWord ++ (vx_atS RX6 207 "java/lang/IllegalArgumentException" ["java/lang/RuntimeException", "java/lang/Exception"]).filter goodWord)
def wsX6_smoothed_r1 : List Cond := [Cond.classLink RX6 24 "java/lang/IllegalStateException", Cond.initialized "java/lang/IllegalStateException", Cond.fieldLink RX6 62 "FieldFilter$Estimator" "time" "I", Cond.classLink RX6 144 RX0, Cond.instantiable RX0 2, Cond.initialized RX0, Cond.methodLink RX6 55 yX6_estimatorNumbered, Cond.instanceMethod yX6_estimatorNumbered, Cond.selects RX6 yX6_estimatorNumbered yX6_estimatorNumbered, Cond.initialized RX6, Cond.code yX6_estimatorNumbered cX6_estimatorNumbered 2 (some (.object "FieldFilter$Estimator")), Cond.classLink RX6 190 "java/lang/IndexOutOfBoundsException", Cond.initialized "java/lang/IndexOutOfBoundsException", Cond.fieldLink RX6 43 "FieldFilter" "estimatorCount" "I", Cond.fieldLink RX6 16 "FieldFilter" "estimators" "[LFieldFilter$Estimator;", Cond.methodLink RX6 35 yX6_checkRange, Cond.static yX6_checkRange, Cond.code yX6_checkRange cX6_checkRange 2 none, Cond.classLink RX6 203 "java/lang/IllegalArgumentException", Cond.initialized "java/lang/IllegalArgumentException", Cond.instanceMethod yX0_init, Cond.code yX0_init cX0_init 1 none, Cond.methodLink RX0 3 objectInit, Cond.instanceMethod objectInit]
def wsX6_smoothed_r2 : List Cond := [Cond.code objectInit ⟨#[0xb1]⟩ 1 none, Cond.methodLink RX6 163 yX1_smoothBack, Cond.instanceMethod yX1_smoothBack, Cond.selects RX1 yX1_smoothBack yX1_smoothBack, Cond.initialized RX1, Cond.code yX1_smoothBack cX1_smoothBack 5 (some .boolean), Cond.classLink RX1 58 RX5, Cond.instantiable RX5 3, Cond.initialized RX5, Cond.fieldLink RX1 43 "FieldFilter$State" "x" "LFieldFilter$Column;", Cond.fieldLink RX1 66 "FieldFilter$Estimator" "time" "I", Cond.fieldLink RX1 30 "FieldFilter$Estimator" "predicted" "[LFieldFilter$State;", Cond.fieldLink RX1 53 "FieldFilter$State" "p" "LFieldFilter$Symmetric;", Cond.fieldLink RX1 12 "FieldFilter$Estimator" "motion" "LFieldFilter$Motion;", Cond.fieldLink RX1 34 "FieldFilter$Estimator" "behind" "[LFieldFilter$State;", Cond.instanceMethod yX5_init, Cond.code yX5_init cX5_init 1 none, Cond.methodLink RX5 3 objectInit, Cond.methodLink RX1 109 yX1_current, Cond.instanceMethod yX1_current, Cond.selects RX1 yX1_current yX1_current, Cond.code yX1_current cX1_current 1 (some (.object "FieldFilter$State")), Cond.methodLink RX1 113 yX0_copy, Cond.instanceMethod yX0_copy]
def wsX6_smoothed_r3 : List Cond := [Cond.selects RX0 yX0_copy yX0_copy, Cond.code yX0_copy cX0_copy 2 none, Cond.fieldLink RX0 9 "FieldFilter$Column" "upper" "I", Cond.fieldLink RX0 15 "FieldFilter$Column" "lower" "I", Cond.methodLink RX0 18 yX0_set, Cond.instanceMethod yX0_set, Cond.selects RX0 yX0_set yX0_set, Cond.code yX0_set cX0_set 3 none, Cond.methodLink RX1 116 yX5_invert, Cond.instanceMethod yX5_invert, Cond.selects RX5 yX5_invert yX5_invert, Cond.code yX5_invert cX5_invert 4 (some .boolean), Cond.fieldLink RX5 18 "FieldFilter$Symmetric" "a11" "I", Cond.fieldLink RX5 15 "FieldFilter$Symmetric" "a01" "I", Cond.fieldLink RX5 9 "FieldFilter$Symmetric" "a00" "I", Cond.methodLink RX5 29 yX5_determinant, Cond.instanceMethod yX5_determinant, Cond.selects RX5 yX5_determinant yX5_determinant, Cond.code yX5_determinant cX5_determinant 1 (some .int), Cond.static yX6_less, Cond.code yX6_less cX6_less 2 (some .int), Cond.methodLink RX6 213 yJ9_floorMod_7cf53, Cond.static yJ9_floorMod_7cf53, Cond.initialized RJ9]
def wsX6_smoothed_r4 : List Cond := [Cond.code yJ9_floorMod_7cf53 cJ9_floorMod_7cf53 3 (some .int), Cond.static yX6_inverse, Cond.code yX6_inverse cX6_inverse 4 (some .int), Cond.methodLink RX5 21 yX5_set, Cond.instanceMethod yX5_set, Cond.selects RX5 yX5_set yX5_set, Cond.code yX5_set cX5_set 4 none, Cond.methodLink RX1 119 yX0_subtract, Cond.instanceMethod yX0_subtract, Cond.selects RX0 yX0_subtract yX0_subtract, Cond.code yX0_subtract cX0_subtract 2 none, Cond.methodLink RX1 122 yX5_multiply, Cond.instanceMethod yX5_multiply, Cond.selects RX5 yX5_multiply yX5_multiply, Cond.code yX5_multiply cX5_multiply 2 none, Cond.fieldLink RX5 37 "FieldFilter$Column" "upper" "I", Cond.fieldLink RX5 42 "FieldFilter$Column" "lower" "I", Cond.methodLink RX5 45 yX0_set, Cond.methodLink RX1 125 yX3_turnBack, Cond.instanceMethod yX3_turnBack, Cond.selects RX3 yX3_turnBack yX3_turnBack, Cond.initialized RX3, Cond.code yX3_turnBack cX3_turnBack 2 none, Cond.fieldLink RX3 26 "FieldFilter$Motion" "f00" "I"]
def wsX6_smoothed_r5 : List Cond := [Cond.fieldLink RX3 49 "FieldFilter$Column" "upper" "I", Cond.fieldLink RX3 33 "FieldFilter$Motion" "f10" "I", Cond.fieldLink RX3 54 "FieldFilter$Column" "lower" "I", Cond.fieldLink RX3 30 "FieldFilter$Motion" "f01" "I", Cond.fieldLink RX3 36 "FieldFilter$Motion" "f11" "I", Cond.methodLink RX3 57 yX0_set, Cond.methodLink RX1 128 yX0_add, Cond.instanceMethod yX0_add, Cond.selects RX0 yX0_add yX0_add, Cond.code yX0_add cX0_add 2 none, Cond.methodLink RX6 143 yX0_number, Cond.instanceMethod yX0_number, Cond.selects RX0 yX0_number yX0_number, Cond.code yX0_number cX0_number 2 (some .int)]
def wsX6_smoothed : List Cond := .code yX6_smoothed cX6_smoothed 6 (some .int) :: ((wsX6_smoothed_r1 ++ (wsX6_smoothed_r2 ++ (wsX6_smoothed_r3 ++ (wsX6_smoothed_r4 ++ wsX6_smoothed_r5)))) ++ wsX10 ++ wsX00 ++ wsX60 ++ wsX50 ++ wsX40 ++ wsX30 ++ (vx_atS RX6 28 "java/lang/IllegalStateException" ["java/lang/RuntimeException", "java/lang/Exception"]).filter goodWord ++ (vx_atS RX6 194 "java/lang/IndexOutOfBoundsException" ["java/lang/RuntimeException", "java/lang/Exception"]).filter goodWord ++ (vx_atS RX6 207 "java/lang/IllegalArgumentException" ["java/lang/RuntimeException", "java/lang/Exception"]).filter goodWord)
def wsX6_ahead_r1 : List Cond := [Cond.constant RX6 169 (1000000000), Cond.classLink RX6 101 RX4, Cond.instantiable RX4 2, Cond.initialized RX4, Cond.classLink RX6 174 RX3, Cond.instantiable RX3 5, Cond.initialized RX3, Cond.fieldLink RX6 177 "FieldFilter$Estimator" "motion" "LFieldFilter$Motion;", Cond.methodLink RX6 55 yX6_estimatorNumbered, Cond.instanceMethod yX6_estimatorNumbered, Cond.selects RX6 yX6_estimatorNumbered yX6_estimatorNumbered, Cond.initialized RX6, Cond.code yX6_estimatorNumbered cX6_estimatorNumbered 2 (some (.object "FieldFilter$Estimator")), Cond.classLink RX6 190 "java/lang/IndexOutOfBoundsException", Cond.initialized "java/lang/IndexOutOfBoundsException", Cond.fieldLink RX6 43 "FieldFilter" "estimatorCount" "I", Cond.fieldLink RX6 16 "FieldFilter" "estimators" "[LFieldFilter$Estimator;", Cond.methodLink RX6 35 yX6_checkRange, Cond.static yX6_checkRange, Cond.code yX6_checkRange cX6_checkRange 2 none, Cond.classLink RX6 203 "java/lang/IllegalArgumentException", Cond.initialized "java/lang/IllegalArgumentException", Cond.instanceMethod yX4_init, Cond.code yX4_init cX4_init 1 none]
def wsX6_ahead_r2 : List Cond := [Cond.methodLink RX4 1 objectInit, Cond.instanceMethod objectInit, Cond.code objectInit ⟨#[0xb1]⟩ 1 none, Cond.classLink RX4 7 RX0, Cond.instantiable RX0 2, Cond.initialized RX0, Cond.fieldLink RX4 10 "FieldFilter$State" "x" "LFieldFilter$Column;", Cond.classLink RX4 16 RX5, Cond.instantiable RX5 3, Cond.initialized RX5, Cond.fieldLink RX4 19 "FieldFilter$State" "p" "LFieldFilter$Symmetric;", Cond.instanceMethod yX0_init, Cond.code yX0_init cX0_init 1 none, Cond.methodLink RX0 3 objectInit, Cond.instanceMethod yX5_init, Cond.code yX5_init cX5_init 1 none, Cond.methodLink RX5 3 objectInit, Cond.methodLink RX6 96 yX1_current, Cond.instanceMethod yX1_current, Cond.selects RX1 yX1_current yX1_current, Cond.initialized RX1, Cond.code yX1_current cX1_current 1 (some (.object "FieldFilter$State")), Cond.fieldLink RX1 34 "FieldFilter$Estimator" "behind" "[LFieldFilter$State;", Cond.fieldLink RX1 66 "FieldFilter$Estimator" "time" "I"]
def wsX6_ahead_r3 : List Cond := [Cond.methodLink RX6 170 yX4_copy, Cond.instanceMethod yX4_copy, Cond.selects RX4 yX4_copy yX4_copy, Cond.code yX4_copy cX4_copy 2 none, Cond.methodLink RX4 23 yX0_copy, Cond.instanceMethod yX0_copy, Cond.selects RX0 yX0_copy yX0_copy, Cond.code yX0_copy cX0_copy 2 none, Cond.fieldLink RX0 9 "FieldFilter$Column" "upper" "I", Cond.fieldLink RX0 15 "FieldFilter$Column" "lower" "I", Cond.methodLink RX0 18 yX0_set, Cond.instanceMethod yX0_set, Cond.selects RX0 yX0_set yX0_set, Cond.code yX0_set cX0_set 3 none, Cond.methodLink RX4 27 yX5_copy, Cond.instanceMethod yX5_copy, Cond.selects RX5 yX5_copy yX5_copy, Cond.code yX5_copy cX5_copy 2 none, Cond.fieldLink RX5 9 "FieldFilter$Symmetric" "a00" "I", Cond.fieldLink RX5 15 "FieldFilter$Symmetric" "a01" "I", Cond.fieldLink RX5 18 "FieldFilter$Symmetric" "a11" "I", Cond.methodLink RX5 21 yX5_set, Cond.instanceMethod yX5_set, Cond.selects RX5 yX5_set yX5_set]
def wsX6_ahead_r4 : List Cond := [Cond.code yX5_set cX5_set 4 none, Cond.instanceMethod yX3_init, Cond.code yX3_init cX3_init 1 none, Cond.methodLink RX3 3 objectInit, Cond.classLink RX3 9 RX5, Cond.fieldLink RX3 12 "FieldFilter$Motion" "q" "LFieldFilter$Symmetric;", Cond.methodLink RX6 181 yX3_copy, Cond.instanceMethod yX3_copy, Cond.selects RX3 yX3_copy yX3_copy, Cond.code yX3_copy cX3_copy 2 none, Cond.fieldLink RX3 26 "FieldFilter$Motion" "f00" "I", Cond.fieldLink RX3 30 "FieldFilter$Motion" "f01" "I", Cond.fieldLink RX3 33 "FieldFilter$Motion" "f10" "I", Cond.fieldLink RX3 36 "FieldFilter$Motion" "f11" "I", Cond.methodLink RX3 18 yX3_setF, Cond.instanceMethod yX3_setF, Cond.selects RX3 yX3_setF yX3_setF, Cond.code yX3_setF cX3_setF 5 none, Cond.methodLink RX3 39 yX5_copy, Cond.methodLink RX6 184 yX3_move, Cond.instanceMethod yX3_move, Cond.selects RX3 yX3_move yX3_move, Cond.code yX3_move cX3_move 3 none, Cond.fieldLink RX3 43 "FieldFilter$State" "x" "LFieldFilter$Column;"]
def wsX6_ahead_r5 : List Cond := [Cond.fieldLink RX3 49 "FieldFilter$Column" "upper" "I", Cond.fieldLink RX3 54 "FieldFilter$Column" "lower" "I", Cond.fieldLink RX3 60 "FieldFilter$State" "p" "LFieldFilter$Symmetric;", Cond.methodLink RX3 57 yX0_set, Cond.methodLink RX3 63 yX3_spread, Cond.instanceMethod yX3_spread, Cond.selects RX3 yX3_spread yX3_spread, Cond.code yX3_spread cX3_spread 6 none, Cond.fieldLink RX3 66 "FieldFilter$Symmetric" "a00" "I", Cond.fieldLink RX3 69 "FieldFilter$Symmetric" "a01" "I", Cond.fieldLink RX3 72 "FieldFilter$Symmetric" "a11" "I", Cond.methodLink RX3 22 yX5_set, Cond.methodLink RX6 187 yX3_twice, Cond.instanceMethod yX3_twice, Cond.selects RX3 yX3_twice yX3_twice, Cond.code yX3_twice cX3_twice 3 none, Cond.methodLink RX6 111 yX4_number, Cond.instanceMethod yX4_number, Cond.selects RX4 yX4_number yX4_number, Cond.code yX4_number cX4_number 2 (some .int), Cond.fieldLink RX4 30 "FieldFilter$Column" "upper" "I", Cond.fieldLink RX4 34 "FieldFilter$Column" "lower" "I", Cond.fieldLink RX4 37 "FieldFilter$Symmetric" "a00" "I", Cond.fieldLink RX4 40 "FieldFilter$Symmetric" "a01" "I"]
def wsX6_ahead_r6 : List Cond := [Cond.fieldLink RX4 43 "FieldFilter$Symmetric" "a11" "I"]
def wsX6_ahead : List Cond := .code yX6_ahead cX6_ahead 8 (some .int) :: ((wsX6_ahead_r1 ++ (wsX6_ahead_r2 ++ (wsX6_ahead_r3 ++ (wsX6_ahead_r4 ++ (wsX6_ahead_r5 ++ wsX6_ahead_r6))))) ++ wsX40 ++ wsX30 ++ wsX10 ++ wsX60 ++ wsX00 ++ wsX50 ++ (vx_atS RX6 194 "java/lang/IndexOutOfBoundsException" ["java/lang/RuntimeException", "java/lang/Exception"]).filter goodWord ++ (vx_atS RX6 207 "java/lang/IllegalArgumentException" ["java/lang/RuntimeException", "java/lang/Exception"]).filter goodWord)
def wsX6_aheadAnew_r1 : List Cond := [Cond.classLink RX6 101 RX4, Cond.instantiable RX4 2, Cond.initialized RX4, Cond.fieldLink RX6 177 "FieldFilter$Estimator" "motion" "LFieldFilter$Motion;", Cond.methodLink RX6 55 yX6_estimatorNumbered, Cond.instanceMethod yX6_estimatorNumbered, Cond.selects RX6 yX6_estimatorNumbered yX6_estimatorNumbered, Cond.initialized RX6, Cond.code yX6_estimatorNumbered cX6_estimatorNumbered 2 (some (.object "FieldFilter$Estimator")), Cond.classLink RX6 190 "java/lang/IndexOutOfBoundsException", Cond.initialized "java/lang/IndexOutOfBoundsException", Cond.fieldLink RX6 43 "FieldFilter" "estimatorCount" "I", Cond.fieldLink RX6 16 "FieldFilter" "estimators" "[LFieldFilter$Estimator;", Cond.methodLink RX6 35 yX6_checkRange, Cond.static yX6_checkRange, Cond.code yX6_checkRange cX6_checkRange 2 none, Cond.classLink RX6 203 "java/lang/IllegalArgumentException", Cond.initialized "java/lang/IllegalArgumentException", Cond.instanceMethod yX4_init, Cond.code yX4_init cX4_init 1 none, Cond.methodLink RX4 1 objectInit, Cond.instanceMethod objectInit, Cond.code objectInit ⟨#[0xb1]⟩ 1 none, Cond.classLink RX4 7 RX0]
def wsX6_aheadAnew_r2 : List Cond := [Cond.instantiable RX0 2, Cond.initialized RX0, Cond.fieldLink RX4 10 "FieldFilter$State" "x" "LFieldFilter$Column;", Cond.classLink RX4 16 RX5, Cond.instantiable RX5 3, Cond.initialized RX5, Cond.fieldLink RX4 19 "FieldFilter$State" "p" "LFieldFilter$Symmetric;", Cond.instanceMethod yX0_init, Cond.code yX0_init cX0_init 1 none, Cond.methodLink RX0 3 objectInit, Cond.instanceMethod yX5_init, Cond.code yX5_init cX5_init 1 none, Cond.methodLink RX5 3 objectInit, Cond.methodLink RX6 96 yX1_current, Cond.instanceMethod yX1_current, Cond.selects RX1 yX1_current yX1_current, Cond.initialized RX1, Cond.code yX1_current cX1_current 1 (some (.object "FieldFilter$State")), Cond.fieldLink RX1 34 "FieldFilter$Estimator" "behind" "[LFieldFilter$State;", Cond.fieldLink RX1 66 "FieldFilter$Estimator" "time" "I", Cond.methodLink RX6 170 yX4_copy, Cond.instanceMethod yX4_copy, Cond.selects RX4 yX4_copy yX4_copy, Cond.code yX4_copy cX4_copy 2 none]
def wsX6_aheadAnew_r3 : List Cond := [Cond.methodLink RX4 23 yX0_copy, Cond.instanceMethod yX0_copy, Cond.selects RX0 yX0_copy yX0_copy, Cond.code yX0_copy cX0_copy 2 none, Cond.fieldLink RX0 9 "FieldFilter$Column" "upper" "I", Cond.fieldLink RX0 15 "FieldFilter$Column" "lower" "I", Cond.methodLink RX0 18 yX0_set, Cond.instanceMethod yX0_set, Cond.selects RX0 yX0_set yX0_set, Cond.code yX0_set cX0_set 3 none, Cond.methodLink RX4 27 yX5_copy, Cond.instanceMethod yX5_copy, Cond.selects RX5 yX5_copy yX5_copy, Cond.code yX5_copy cX5_copy 2 none, Cond.fieldLink RX5 9 "FieldFilter$Symmetric" "a00" "I", Cond.fieldLink RX5 15 "FieldFilter$Symmetric" "a01" "I", Cond.fieldLink RX5 18 "FieldFilter$Symmetric" "a11" "I", Cond.methodLink RX5 21 yX5_set, Cond.instanceMethod yX5_set, Cond.selects RX5 yX5_set yX5_set, Cond.code yX5_set cX5_set 4 none, Cond.methodLink RX6 184 yX3_move, Cond.instanceMethod yX3_move, Cond.selects RX3 yX3_move yX3_move]
def wsX6_aheadAnew_r4 : List Cond := [Cond.initialized RX3, Cond.code yX3_move cX3_move 3 none, Cond.fieldLink RX3 43 "FieldFilter$State" "x" "LFieldFilter$Column;", Cond.fieldLink RX3 26 "FieldFilter$Motion" "f00" "I", Cond.fieldLink RX3 49 "FieldFilter$Column" "upper" "I", Cond.fieldLink RX3 30 "FieldFilter$Motion" "f01" "I", Cond.fieldLink RX3 54 "FieldFilter$Column" "lower" "I", Cond.fieldLink RX3 33 "FieldFilter$Motion" "f10" "I", Cond.fieldLink RX3 36 "FieldFilter$Motion" "f11" "I", Cond.fieldLink RX3 60 "FieldFilter$State" "p" "LFieldFilter$Symmetric;", Cond.methodLink RX3 57 yX0_set, Cond.methodLink RX3 63 yX3_spread, Cond.instanceMethod yX3_spread, Cond.selects RX3 yX3_spread yX3_spread, Cond.code yX3_spread cX3_spread 6 none, Cond.fieldLink RX3 66 "FieldFilter$Symmetric" "a00" "I", Cond.fieldLink RX3 69 "FieldFilter$Symmetric" "a01" "I", Cond.fieldLink RX3 72 "FieldFilter$Symmetric" "a11" "I", Cond.fieldLink RX3 12 "FieldFilter$Motion" "q" "LFieldFilter$Symmetric;", Cond.methodLink RX3 22 yX5_set, Cond.methodLink RX6 111 yX4_number, Cond.instanceMethod yX4_number, Cond.selects RX4 yX4_number yX4_number, Cond.code yX4_number cX4_number 2 (some .int)]
def wsX6_aheadAnew_r5 : List Cond := [Cond.fieldLink RX4 30 "FieldFilter$Column" "upper" "I", Cond.fieldLink RX4 34 "FieldFilter$Column" "lower" "I", Cond.fieldLink RX4 37 "FieldFilter$Symmetric" "a00" "I", Cond.fieldLink RX4 40 "FieldFilter$Symmetric" "a01" "I", Cond.fieldLink RX4 43 "FieldFilter$Symmetric" "a11" "I"]
def wsX6_aheadAnew : List Cond := .code yX6_aheadAnew cX6_aheadAnew 7 (some .int) :: ((wsX6_aheadAnew_r1 ++ (wsX6_aheadAnew_r2 ++ (wsX6_aheadAnew_r3 ++ (wsX6_aheadAnew_r4 ++ wsX6_aheadAnew_r5)))) ++ wsX40 ++ wsX10 ++ wsX60 ++ wsX00 ++ wsX50 ++ wsX30 ++ (vx_atS RX6 194 "java/lang/IndexOutOfBoundsException" ["java/lang/RuntimeException", "java/lang/Exception"]).filter goodWord ++ (vx_atS RX6 207 "java/lang/IllegalArgumentException" ["java/lang/RuntimeException", "java/lang/Exception"]).filter goodWord)
theorem inJ9 : ∀ w ∈ wsJ90, w ∈ lw_tbl := by decide +kernel
theorem inJ0 : ∀ w ∈ wsJ00, w ∈ lw_tbl := by decide +kernel
theorem dX0_init_0 : decode cX0_init 0 = .ok (.aload_n 0, 1) := by decide +kernel
theorem dX0_init_1 : decode cX0_init 1 = .ok (.invokespecial 3, 3) := by decide +kernel
theorem dX0_init_4 : decode cX0_init 4 = .ok (.return_, 1) := by decide +kernel
theorem dX0_set_0 : decode cX0_set 0 = .ok (.aload_n 0, 1) := by decide +kernel
theorem dX0_set_1 : decode cX0_set 1 = .ok (.iload_n 1, 1) := by decide +kernel
theorem dX0_set_2 : decode cX0_set 2 = .ok (.putfield 9, 3) := by decide +kernel
theorem dX0_set_5 : decode cX0_set 5 = .ok (.aload_n 0, 1) := by decide +kernel
theorem dX0_set_6 : decode cX0_set 6 = .ok (.iload_n 2, 1) := by decide +kernel
theorem dX0_set_7 : decode cX0_set 7 = .ok (.putfield 15, 3) := by decide +kernel
theorem dX0_set_10 : decode cX0_set 10 = .ok (.return_, 1) := by decide +kernel
set_option maxRecDepth 20000 in
theorem ggX0_copy_X0_set : GoodIn wsX0_copy wsX0_set := goodIn_r _ [7, 1, 2, 8, 9] rfl (by decide +kernel)
set_option maxRecDepth 20000 in
theorem gX0_copy_X0_set : GoodIn wsX0_copy (wsV RX0 18 RX0 yX0_set wsX0_set) := goodIn_app (goodIn_of _ (by decide +kernel)) ggX0_copy_X0_set
theorem dX0_copy_0 : decode cX0_copy 0 = .ok (.aload_n 0, 1) := by decide +kernel
theorem dX0_copy_1 : decode cX0_copy 1 = .ok (.aload_n 1, 1) := by decide +kernel
theorem dX0_copy_2 : decode cX0_copy 2 = .ok (.getfield 9, 3) := by decide +kernel
theorem dX0_copy_5 : decode cX0_copy 5 = .ok (.aload_n 1, 1) := by decide +kernel
theorem dX0_copy_6 : decode cX0_copy 6 = .ok (.getfield 15, 3) := by decide +kernel
theorem dX0_copy_9 : decode cX0_copy 9 = .ok (.invokevirtual 18, 3) := by decide +kernel
theorem dX0_copy_12 : decode cX0_copy 12 = .ok (.return_, 1) := by decide +kernel
theorem dX0_number_0 : decode cX0_number 0 = .ok (.iload_n 1, 1) := by decide +kernel
theorem dX0_number_1 : decode cX0_number 1 = .ok (.ifCond .ne 10, 3) := by decide +kernel
theorem dX0_number_4 : decode cX0_number 4 = .ok (.aload_n 0, 1) := by decide +kernel
theorem dX0_number_5 : decode cX0_number 5 = .ok (.getfield 9, 3) := by decide +kernel
theorem dX0_number_8 : decode cX0_number 8 = .ok (.goto 7, 3) := by decide +kernel
theorem dX0_number_11 : decode cX0_number 11 = .ok (.aload_n 0, 1) := by decide +kernel
theorem dX0_number_12 : decode cX0_number 12 = .ok (.getfield 15, 3) := by decide +kernel
theorem dX0_number_15 : decode cX0_number 15 = .ok (.ireturn, 1) := by decide +kernel
set_option maxRecDepth 20000 in
theorem ggX0_add_X0_set : GoodIn wsX0_add wsX0_set := goodIn_r _ [7, 1, 2, 8, 9] rfl (by decide +kernel)
set_option maxRecDepth 20000 in
theorem gX0_add_X0_set : GoodIn wsX0_add (wsV RX0 18 RX0 yX0_set wsX0_set) := goodIn_app (goodIn_of _ (by decide +kernel)) ggX0_add_X0_set
theorem dX0_add_0 : decode cX0_add 0 = .ok (.aload_n 0, 1) := by decide +kernel
theorem dX0_add_1 : decode cX0_add 1 = .ok (.aload_n 0, 1) := by decide +kernel
theorem dX0_add_2 : decode cX0_add 2 = .ok (.getfield 9, 3) := by decide +kernel
theorem dX0_add_5 : decode cX0_add 5 = .ok (.aload_n 1, 1) := by decide +kernel
theorem dX0_add_6 : decode cX0_add 6 = .ok (.getfield 9, 3) := by decide +kernel
theorem dX0_add_9 : decode cX0_add 9 = .ok (.iadd, 1) := by decide +kernel
theorem dX0_add_10 : decode cX0_add 10 = .ok (.sipush 10007, 3) := by decide +kernel
theorem dX0_add_13 : decode cX0_add 13 = .ok (.irem, 1) := by decide +kernel
theorem dX0_add_14 : decode cX0_add 14 = .ok (.aload_n 0, 1) := by decide +kernel
theorem dX0_add_15 : decode cX0_add 15 = .ok (.getfield 15, 3) := by decide +kernel
theorem dX0_add_18 : decode cX0_add 18 = .ok (.aload_n 1, 1) := by decide +kernel
theorem dX0_add_19 : decode cX0_add 19 = .ok (.getfield 15, 3) := by decide +kernel
theorem dX0_add_22 : decode cX0_add 22 = .ok (.iadd, 1) := by decide +kernel
theorem dX0_add_23 : decode cX0_add 23 = .ok (.sipush 10007, 3) := by decide +kernel
theorem dX0_add_26 : decode cX0_add 26 = .ok (.irem, 1) := by decide +kernel
theorem dX0_add_27 : decode cX0_add 27 = .ok (.invokevirtual 18, 3) := by decide +kernel
theorem dX0_add_30 : decode cX0_add 30 = .ok (.return_, 1) := by decide +kernel
set_option maxRecDepth 20000 in
theorem ggX0_subtract_X6_less : GoodIn wsX0_subtract wsX6_less := goodIn_r _ [5, 6, 7, 8, 9] rfl (by decide +kernel)
set_option maxRecDepth 20000 in
theorem gX0_subtract_X6_less_n22 : GoodIn wsX0_subtract (wsX6_less) := ggX0_subtract_X6_less
set_option maxRecDepth 20000 in
theorem ggX0_subtract_X0_set : GoodIn wsX0_subtract wsX0_set := goodIn_r _ [14, 1, 2, 15, 16] rfl (by decide +kernel)
set_option maxRecDepth 20000 in
theorem gX0_subtract_X0_set : GoodIn wsX0_subtract (wsV RX0 18 RX0 yX0_set wsX0_set) := goodIn_app (goodIn_of _ (by decide +kernel)) ggX0_subtract_X0_set
theorem dX0_subtract_0 : decode cX0_subtract 0 = .ok (.aload_n 0, 1) := by decide +kernel
theorem dX0_subtract_1 : decode cX0_subtract 1 = .ok (.aload_n 0, 1) := by decide +kernel
theorem dX0_subtract_2 : decode cX0_subtract 2 = .ok (.getfield 9, 3) := by decide +kernel
theorem dX0_subtract_5 : decode cX0_subtract 5 = .ok (.aload_n 1, 1) := by decide +kernel
theorem dX0_subtract_6 : decode cX0_subtract 6 = .ok (.getfield 9, 3) := by decide +kernel
theorem dX0_subtract_9 : decode cX0_subtract 9 = .ok (.invokestatic 22, 3) := by decide +kernel
theorem dX0_subtract_12 : decode cX0_subtract 12 = .ok (.aload_n 0, 1) := by decide +kernel
theorem dX0_subtract_13 : decode cX0_subtract 13 = .ok (.getfield 15, 3) := by decide +kernel
theorem dX0_subtract_16 : decode cX0_subtract 16 = .ok (.aload_n 1, 1) := by decide +kernel
theorem dX0_subtract_17 : decode cX0_subtract 17 = .ok (.getfield 15, 3) := by decide +kernel
theorem dX0_subtract_20 : decode cX0_subtract 20 = .ok (.invokestatic 22, 3) := by decide +kernel
theorem dX0_subtract_23 : decode cX0_subtract 23 = .ok (.invokevirtual 18, 3) := by decide +kernel
theorem dX0_subtract_26 : decode cX0_subtract 26 = .ok (.return_, 1) := by decide +kernel
set_option maxRecDepth 20000 in
theorem ggX1_init_X3_init : GoodIn wsX1_init wsX3_init := goodIn_r _ [19, 20, 2, 3, 21, 22, 23, 24, 25, 26, 27, 90, 91, 92, 65, 66, 67, 68, 69] rfl (by decide +kernel)
set_option maxRecDepth 20000 in
theorem gX1_init_X3_init_n11 : GoodIn wsX1_init (wsX3_init) := ggX1_init_X3_init
set_option maxRecDepth 20000 in
theorem ggX1_init_X3_read : GoodIn wsX1_init wsX3_read := goodIn_r _ [31, 24, 32, 33, 34, 6, 35, 36, 37, 38, 39, 40, 41, 42, 23, 43, 44, 45, 46, 65, 66, 67, 68, 69, 90, 91, 92] rfl (by decide +kernel)
set_option maxRecDepth 20000 in
theorem gX1_init_X3_read : GoodIn wsX1_init (wsV RX1 37 RX3 yX3_read wsX3_read) := goodIn_app (goodIn_of _ (by decide +kernel)) ggX1_init_X3_read
set_option maxRecDepth 20000 in
theorem ggX1_init_X2_init : GoodIn wsX1_init wsX2_init := goodIn_r _ [48, 49, 2, 3, 50, 51, 52, 53, 54, 55, 56, 57, 93, 94, 77, 78, 79, 80, 81, 82, 83, 84, 85, 86, 87] rfl (by decide +kernel)
set_option maxRecDepth 20000 in
theorem gX1_init_X2_init_n41 : GoodIn wsX1_init (wsX2_init) := ggX1_init_X2_init
set_option maxRecDepth 20000 in
theorem ggX1_init_X4_init : GoodIn wsX1_init wsX4_init := goodIn_r _ [59, 60, 2, 3, 61, 51, 52, 62, 63, 22, 23, 64, 55, 56, 57, 25, 26, 27, 93, 94, 88, 89, 90, 91, 92] rfl (by decide +kernel)
set_option maxRecDepth 20000 in
theorem gX1_init_X4_init_n42 : GoodIn wsX1_init (wsX4_init) := ggX1_init_X4_init
theorem dX1_init_0 : decode cX1_init 0 = .ok (.aload_n 0, 1) := by decide +kernel
theorem dX1_init_1 : decode cX1_init 1 = .ok (.invokespecial 3, 3) := by decide +kernel
theorem dX1_init_4 : decode cX1_init 4 = .ok (.aload_n 0, 1) := by decide +kernel
theorem dX1_init_5 : decode cX1_init 5 = .ok (.new 9, 3) := by decide +kernel
theorem dX1_init_8 : decode cX1_init 8 = .ok (.dup, 1) := by decide +kernel
theorem dX1_init_9 : decode cX1_init 9 = .ok (.invokespecial 11, 3) := by decide +kernel
theorem dX1_init_12 : decode cX1_init 12 = .ok (.putfield 12, 3) := by decide +kernel
theorem dX1_init_15 : decode cX1_init 15 = .ok (.aload_n 0, 1) := by decide +kernel
theorem dX1_init_16 : decode cX1_init 16 = .ok (.bipush 30, 2) := by decide +kernel
theorem dX1_init_18 : decode cX1_init 18 = .ok (.anewarray 18, 3) := by decide +kernel
theorem dX1_init_21 : decode cX1_init 21 = .ok (.putfield 20, 3) := by decide +kernel
theorem dX1_init_24 : decode cX1_init 24 = .ok (.aload_n 0, 1) := by decide +kernel
theorem dX1_init_25 : decode cX1_init 25 = .ok (.sipush 10006, 3) := by decide +kernel
theorem dX1_init_28 : decode cX1_init 28 = .ok (.putfield 24, 3) := by decide +kernel
theorem dX1_init_31 : decode cX1_init 31 = .ok (.aload_n 0, 1) := by decide +kernel
theorem dX1_init_32 : decode cX1_init 32 = .ok (.bipush 21, 2) := by decide +kernel
theorem dX1_init_34 : decode cX1_init 34 = .ok (.anewarray 28, 3) := by decide +kernel
theorem dX1_init_37 : decode cX1_init 37 = .ok (.putfield 30, 3) := by decide +kernel
theorem dX1_init_40 : decode cX1_init 40 = .ok (.aload_n 0, 1) := by decide +kernel
theorem dX1_init_41 : decode cX1_init 41 = .ok (.bipush 21, 2) := by decide +kernel
theorem dX1_init_43 : decode cX1_init 43 = .ok (.anewarray 28, 3) := by decide +kernel
theorem dX1_init_46 : decode cX1_init 46 = .ok (.putfield 34, 3) := by decide +kernel
theorem dX1_init_49 : decode cX1_init 49 = .ok (.aload_n 0, 1) := by decide +kernel
theorem dX1_init_50 : decode cX1_init 50 = .ok (.getfield 12, 3) := by decide +kernel
theorem dX1_init_53 : decode cX1_init 53 = .ok (.aload_n 1, 1) := by decide +kernel
theorem dX1_init_54 : decode cX1_init 54 = .ok (.invokevirtual 37, 3) := by decide +kernel
theorem dX1_init_57 : decode cX1_init 57 = .ok (.iconst 0, 1) := by decide +kernel
theorem dX1_init_58 : decode cX1_init 58 = .ok (.istore_n 2, 1) := by decide +kernel
theorem dX1_init_59 : decode cX1_init 59 = .ok (.iload_n 2, 1) := by decide +kernel
theorem dX1_init_60 : decode cX1_init 60 = .ok (.bipush 30, 2) := by decide +kernel
theorem dX1_init_62 : decode cX1_init 62 = .ok (.if_icmp .ge 22, 3) := by decide +kernel
theorem dX1_init_65 : decode cX1_init 65 = .ok (.aload_n 0, 1) := by decide +kernel
theorem dX1_init_66 : decode cX1_init 66 = .ok (.getfield 20, 3) := by decide +kernel
theorem dX1_init_69 : decode cX1_init 69 = .ok (.iload_n 2, 1) := by decide +kernel
theorem dX1_init_70 : decode cX1_init 70 = .ok (.new 18, 3) := by decide +kernel
theorem dX1_init_73 : decode cX1_init 73 = .ok (.dup, 1) := by decide +kernel
theorem dX1_init_74 : decode cX1_init 74 = .ok (.invokespecial 41, 3) := by decide +kernel
theorem dX1_init_77 : decode cX1_init 77 = .ok (.aastore, 1) := by decide +kernel
theorem dX1_init_78 : decode cX1_init 78 = .ok (.iinc 2 1, 3) := by decide +kernel
theorem dX1_init_81 : decode cX1_init 81 = .ok (.goto (-22), 3) := by decide +kernel
theorem dX1_init_84 : decode cX1_init 84 = .ok (.iconst 0, 1) := by decide +kernel
theorem dX1_init_85 : decode cX1_init 85 = .ok (.istore_n 2, 1) := by decide +kernel
theorem dX1_init_86 : decode cX1_init 86 = .ok (.iload_n 2, 1) := by decide +kernel
theorem dX1_init_87 : decode cX1_init 87 = .ok (.bipush 20, 2) := by decide +kernel
theorem dX1_init_89 : decode cX1_init 89 = .ok (.if_icmp .gt 35, 3) := by decide +kernel
theorem dX1_init_92 : decode cX1_init 92 = .ok (.aload_n 0, 1) := by decide +kernel
theorem dX1_init_93 : decode cX1_init 93 = .ok (.getfield 30, 3) := by decide +kernel
theorem dX1_init_96 : decode cX1_init 96 = .ok (.iload_n 2, 1) := by decide +kernel
theorem dX1_init_97 : decode cX1_init 97 = .ok (.new 28, 3) := by decide +kernel
theorem dX1_init_100 : decode cX1_init 100 = .ok (.dup, 1) := by decide +kernel
theorem dX1_init_101 : decode cX1_init 101 = .ok (.invokespecial 42, 3) := by decide +kernel
theorem dX1_init_104 : decode cX1_init 104 = .ok (.aastore, 1) := by decide +kernel
theorem dX1_init_105 : decode cX1_init 105 = .ok (.aload_n 0, 1) := by decide +kernel
theorem dX1_init_106 : decode cX1_init 106 = .ok (.getfield 34, 3) := by decide +kernel
theorem dX1_init_109 : decode cX1_init 109 = .ok (.iload_n 2, 1) := by decide +kernel
theorem dX1_init_110 : decode cX1_init 110 = .ok (.new 28, 3) := by decide +kernel
theorem dX1_init_113 : decode cX1_init 113 = .ok (.dup, 1) := by decide +kernel
theorem dX1_init_114 : decode cX1_init 114 = .ok (.invokespecial 42, 3) := by decide +kernel
theorem dX1_init_117 : decode cX1_init 117 = .ok (.aastore, 1) := by decide +kernel
theorem dX1_init_118 : decode cX1_init 118 = .ok (.iinc 2 1, 3) := by decide +kernel
theorem dX1_init_121 : decode cX1_init 121 = .ok (.goto (-35), 3) := by decide +kernel
theorem dX1_init_124 : decode cX1_init 124 = .ok (.return_, 1) := by decide +kernel
set_option maxRecDepth 20000 in
theorem ggX1_startFrom_X0_set : GoodIn wsX1_startFrom wsX0_set := goodIn_r _ [8, 9, 10, 135, 136] rfl (by decide +kernel)
set_option maxRecDepth 20000 in
theorem gX1_startFrom_X0_set : GoodIn wsX1_startFrom (wsV RX1 47 RX0 yX0_set wsX0_set) := goodIn_app (goodIn_of _ (by decide +kernel)) ggX1_startFrom_X0_set
set_option maxRecDepth 20000 in
theorem ggX1_startFrom_X5_set : GoodIn wsX1_startFrom wsX5_set := goodIn_r _ [15, 16, 17, 18, 137, 138, 139] rfl (by decide +kernel)
set_option maxRecDepth 20000 in
theorem gX1_startFrom_X5_set : GoodIn wsX1_startFrom (wsV RX1 57 RX5 yX5_set wsX5_set) := goodIn_app (goodIn_of _ (by decide +kernel)) ggX1_startFrom_X5_set
set_option maxRecDepth 20000 in
theorem ggX1_startFrom_X1_settle : GoodIn wsX1_startFrom wsX1_settle := goodIn_r _ [23, 24, 1, 25, 26, 27, 28, 29, 30, 31, 32, 33, 34, 35, 36, 37, 38, 7, 39, 9, 10, 40, 5, 6, 8, 41, 42, 43, 14, 44, 16, 17, 18, 45, 12, 13, 15, 46, 47, 48, 49, 50, 51, 52, 53, 54, 55, 56, 57, 58, 59, 60, 61, 62, 63, 64, 65, 66, 67, 68, 69, 70, 71, 72, 73, 74, 75, 76, 77, 78, 79, 80, 81, 82, 83, 84, 85, 86, 87, 88, 89, 90, 91, 92, 93, 94, 95, 96, 97, 98, 99, 100, 101, 102, 103, 104, 105, 106, 107, 108, 109, 110, 111, 112, 113, 114, 115, 116, 117, 118, 119, 120, 121, 122, 123, 124, 125, 126, 127, 128, 129, 130, 131, 132, 133, 134, 135, 136, 137, 138, 139, 140, 141, 142, 143, 144, 145, 146, 147, 148, 149, 150, 151, 152, 153, 154, 155] rfl (by decide +kernel)
set_option maxRecDepth 20000 in
theorem gX1_startFrom_X1_settle : GoodIn wsX1_startFrom (wsV RX1 62 RX1 yX1_settle wsX1_settle) := goodIn_app (goodIn_of _ (by decide +kernel)) ggX1_startFrom_X1_settle
theorem dX1_startFrom_0 : decode cX1_startFrom 0 = .ok (.aload_n 0, 1) := by decide +kernel
theorem dX1_startFrom_1 : decode cX1_startFrom 1 = .ok (.getfield 30, 3) := by decide +kernel
theorem dX1_startFrom_4 : decode cX1_startFrom 4 = .ok (.iconst 0, 1) := by decide +kernel
theorem dX1_startFrom_5 : decode cX1_startFrom 5 = .ok (.aaload, 1) := by decide +kernel
theorem dX1_startFrom_6 : decode cX1_startFrom 6 = .ok (.getfield 43, 3) := by decide +kernel
theorem dX1_startFrom_9 : decode cX1_startFrom 9 = .ok (.iload_n 1, 1) := by decide +kernel
theorem dX1_startFrom_10 : decode cX1_startFrom 10 = .ok (.iload_n 2, 1) := by decide +kernel
theorem dX1_startFrom_11 : decode cX1_startFrom 11 = .ok (.invokevirtual 47, 3) := by decide +kernel
theorem dX1_startFrom_14 : decode cX1_startFrom 14 = .ok (.aload_n 0, 1) := by decide +kernel
theorem dX1_startFrom_15 : decode cX1_startFrom 15 = .ok (.getfield 30, 3) := by decide +kernel
theorem dX1_startFrom_18 : decode cX1_startFrom 18 = .ok (.iconst 0, 1) := by decide +kernel
theorem dX1_startFrom_19 : decode cX1_startFrom 19 = .ok (.aaload, 1) := by decide +kernel
theorem dX1_startFrom_20 : decode cX1_startFrom 20 = .ok (.getfield 53, 3) := by decide +kernel
theorem dX1_startFrom_23 : decode cX1_startFrom 23 = .ok (.iload_n 3, 1) := by decide +kernel
theorem dX1_startFrom_24 : decode cX1_startFrom 24 = .ok (.iload 4, 2) := by decide +kernel
theorem dX1_startFrom_26 : decode cX1_startFrom 26 = .ok (.iload 5, 2) := by decide +kernel
theorem dX1_startFrom_28 : decode cX1_startFrom 28 = .ok (.invokevirtual 57, 3) := by decide +kernel
theorem dX1_startFrom_31 : decode cX1_startFrom 31 = .ok (.aload_n 0, 1) := by decide +kernel
theorem dX1_startFrom_32 : decode cX1_startFrom 32 = .ok (.invokevirtual 62, 3) := by decide +kernel
theorem dX1_startFrom_35 : decode cX1_startFrom 35 = .ok (.pop, 1) := by decide +kernel
theorem dX1_startFrom_36 : decode cX1_startFrom 36 = .ok (.return_, 1) := by decide +kernel
theorem dX1_current_0 : decode cX1_current 0 = .ok (.aload_n 0, 1) := by decide +kernel
theorem dX1_current_1 : decode cX1_current 1 = .ok (.getfield 34, 3) := by decide +kernel
theorem dX1_current_4 : decode cX1_current 4 = .ok (.aload_n 0, 1) := by decide +kernel
theorem dX1_current_5 : decode cX1_current 5 = .ok (.getfield 66, 3) := by decide +kernel
theorem dX1_current_8 : decode cX1_current 8 = .ok (.aaload, 1) := by decide +kernel
theorem dX1_current_9 : decode cX1_current 9 = .ok (.areturn, 1) := by decide +kernel
theorem dX1_countGated_0 : decode cX1_countGated 0 = .ok (.iconst 0, 1) := by decide +kernel
theorem dX1_countGated_1 : decode cX1_countGated 1 = .ok (.istore_n 1, 1) := by decide +kernel
theorem dX1_countGated_2 : decode cX1_countGated 2 = .ok (.iconst 0, 1) := by decide +kernel
theorem dX1_countGated_3 : decode cX1_countGated 3 = .ok (.istore_n 2, 1) := by decide +kernel
theorem dX1_countGated_4 : decode cX1_countGated 4 = .ok (.iload_n 2, 1) := by decide +kernel
theorem dX1_countGated_5 : decode cX1_countGated 5 = .ok (.aload_n 0, 1) := by decide +kernel
theorem dX1_countGated_6 : decode cX1_countGated 6 = .ok (.getfield 69, 3) := by decide +kernel
theorem dX1_countGated_9 : decode cX1_countGated 9 = .ok (.if_icmp .ge 36, 3) := by decide +kernel
theorem dX1_countGated_12 : decode cX1_countGated 12 = .ok (.aload_n 0, 1) := by decide +kernel
theorem dX1_countGated_13 : decode cX1_countGated 13 = .ok (.getfield 20, 3) := by decide +kernel
theorem dX1_countGated_16 : decode cX1_countGated 16 = .ok (.iload_n 2, 1) := by decide +kernel
theorem dX1_countGated_17 : decode cX1_countGated 17 = .ok (.aaload, 1) := by decide +kernel
theorem dX1_countGated_18 : decode cX1_countGated 18 = .ok (.getfield 72, 3) := by decide +kernel
theorem dX1_countGated_21 : decode cX1_countGated 21 = .ok (.ifCond .eq 18, 3) := by decide +kernel
theorem dX1_countGated_24 : decode cX1_countGated 24 = .ok (.aload_n 0, 1) := by decide +kernel
theorem dX1_countGated_25 : decode cX1_countGated 25 = .ok (.getfield 20, 3) := by decide +kernel
theorem dX1_countGated_28 : decode cX1_countGated 28 = .ok (.iload_n 2, 1) := by decide +kernel
theorem dX1_countGated_29 : decode cX1_countGated 29 = .ok (.aaload, 1) := by decide +kernel
theorem dX1_countGated_30 : decode cX1_countGated 30 = .ok (.getfield 76, 3) := by decide +kernel
theorem dX1_countGated_33 : decode cX1_countGated 33 = .ok (.ifCond .ne 6, 3) := by decide +kernel
theorem dX1_countGated_36 : decode cX1_countGated 36 = .ok (.iinc 1 1, 3) := by decide +kernel
theorem dX1_countGated_39 : decode cX1_countGated 39 = .ok (.iinc 2 1, 3) := by decide +kernel
theorem dX1_countGated_42 : decode cX1_countGated 42 = .ok (.goto (-38), 3) := by decide +kernel
theorem dX1_countGated_45 : decode cX1_countGated 45 = .ok (.iload_n 1, 1) := by decide +kernel
theorem dX1_countGated_46 : decode cX1_countGated 46 = .ok (.ireturn, 1) := by decide +kernel
set_option maxRecDepth 20000 in
theorem ggX1_settle_X4_copy : GoodIn wsX1_settle wsX4_copy := goodIn_r _ [11, 12, 13, 14, 15, 16, 17, 18, 19, 20, 21, 22, 23, 24, 25, 26, 27, 28, 29, 30, 31, 32, 33, 34, 35, 36, 124, 125, 126, 127, 128, 129, 130] rfl (by decide +kernel)
set_option maxRecDepth 20000 in
theorem gX1_settle_X4_copy : GoodIn wsX1_settle (wsV RX1 79 RX4 yX4_copy wsX4_copy) := goodIn_app (goodIn_of _ (by decide +kernel)) ggX1_settle_X4_copy
set_option maxRecDepth 20000 in
theorem ggX1_settle_X3_move : GoodIn wsX1_settle wsX3_move := goodIn_r _ [41, 42, 43, 44, 45, 46, 47, 48, 49, 50, 22, 23, 17, 24, 19, 20, 51, 52, 53, 40, 54, 55, 56, 57, 58, 59, 34, 35, 28, 36, 30, 31, 32, 124, 125, 131, 132, 133, 134, 135, 126, 127, 128, 129, 130] rfl (by decide +kernel)
set_option maxRecDepth 20000 in
theorem gX1_settle_X3_move : GoodIn wsX1_settle (wsV RX1 83 RX3 yX3_move wsX3_move) := goodIn_app (goodIn_of _ (by decide +kernel)) ggX1_settle_X3_move
set_option maxRecDepth 20000 in
theorem ggX1_settle_X2_countsAt : GoodIn wsX1_settle wsX2_countsAt := goodIn_r _ [64, 65, 66, 136, 137, 138, 139, 140, 141, 142, 143, 144, 145, 146] rfl (by decide +kernel)
set_option maxRecDepth 20000 in
theorem gX1_settle_X2_countsAt : GoodIn wsX1_settle (wsV RX1 86 RX2 yX2_countsAt wsX2_countsAt) := goodIn_app (goodIn_of _ (by decide +kernel)) ggX1_settle_X2_countsAt
set_option maxRecDepth 20000 in
theorem ggX1_settle_X2_take : GoodIn wsX1_settle wsX2_take := goodIn_r _ [70, 71, 72, 73, 74, 75, 76, 77, 78, 79, 80, 81, 82, 83, 84, 63, 85, 86, 87, 88, 15, 16, 17, 18, 19, 20, 21, 22, 23, 24, 89, 90, 91, 28, 92, 30, 93, 31, 94, 32, 95, 96, 97, 98, 99, 100, 101, 102, 103, 104, 105, 106, 107, 108, 109, 110, 111, 112, 113, 114, 115, 116, 33, 34, 35, 36, 124, 125, 136, 137, 138, 139, 140, 141, 142, 143, 144, 145, 146, 126, 127, 128, 129, 130] rfl (by decide +kernel)
set_option maxRecDepth 20000 in
theorem gX1_settle_X2_take : GoodIn wsX1_settle (wsV RX1 90 RX2 yX2_take wsX2_take) := goodIn_app (goodIn_of _ (by decide +kernel)) ggX1_settle_X2_take
theorem dX1_settle_0 : decode cX1_settle 0 = .ok (.iconst 0, 1) := by decide +kernel
theorem dX1_settle_1 : decode cX1_settle 1 = .ok (.istore_n 1, 1) := by decide +kernel
theorem dX1_settle_2 : decode cX1_settle 2 = .ok (.iload_n 1, 1) := by decide +kernel
theorem dX1_settle_3 : decode cX1_settle 3 = .ok (.aload_n 0, 1) := by decide +kernel
theorem dX1_settle_4 : decode cX1_settle 4 = .ok (.getfield 66, 3) := by decide +kernel
theorem dX1_settle_7 : decode cX1_settle 7 = .ok (.if_icmp .gt 107, 3) := by decide +kernel
theorem dX1_settle_10 : decode cX1_settle 10 = .ok (.iload_n 1, 1) := by decide +kernel
theorem dX1_settle_11 : decode cX1_settle 11 = .ok (.ifCond .le 33, 3) := by decide +kernel
theorem dX1_settle_14 : decode cX1_settle 14 = .ok (.aload_n 0, 1) := by decide +kernel
theorem dX1_settle_15 : decode cX1_settle 15 = .ok (.getfield 30, 3) := by decide +kernel
theorem dX1_settle_18 : decode cX1_settle 18 = .ok (.iload_n 1, 1) := by decide +kernel
theorem dX1_settle_19 : decode cX1_settle 19 = .ok (.aaload, 1) := by decide +kernel
theorem dX1_settle_20 : decode cX1_settle 20 = .ok (.aload_n 0, 1) := by decide +kernel
theorem dX1_settle_21 : decode cX1_settle 21 = .ok (.getfield 34, 3) := by decide +kernel
theorem dX1_settle_24 : decode cX1_settle 24 = .ok (.iload_n 1, 1) := by decide +kernel
theorem dX1_settle_25 : decode cX1_settle 25 = .ok (.iconst 1, 1) := by decide +kernel
theorem dX1_settle_26 : decode cX1_settle 26 = .ok (.isub, 1) := by decide +kernel
theorem dX1_settle_27 : decode cX1_settle 27 = .ok (.aaload, 1) := by decide +kernel
theorem dX1_settle_28 : decode cX1_settle 28 = .ok (.invokevirtual 79, 3) := by decide +kernel
theorem dX1_settle_31 : decode cX1_settle 31 = .ok (.aload_n 0, 1) := by decide +kernel
theorem dX1_settle_32 : decode cX1_settle 32 = .ok (.getfield 12, 3) := by decide +kernel
theorem dX1_settle_35 : decode cX1_settle 35 = .ok (.aload_n 0, 1) := by decide +kernel
theorem dX1_settle_36 : decode cX1_settle 36 = .ok (.getfield 30, 3) := by decide +kernel
theorem dX1_settle_39 : decode cX1_settle 39 = .ok (.iload_n 1, 1) := by decide +kernel
theorem dX1_settle_40 : decode cX1_settle 40 = .ok (.aaload, 1) := by decide +kernel
theorem dX1_settle_41 : decode cX1_settle 41 = .ok (.invokevirtual 83, 3) := by decide +kernel
theorem dX1_settle_44 : decode cX1_settle 44 = .ok (.aload_n 0, 1) := by decide +kernel
theorem dX1_settle_45 : decode cX1_settle 45 = .ok (.getfield 34, 3) := by decide +kernel
theorem dX1_settle_48 : decode cX1_settle 48 = .ok (.iload_n 1, 1) := by decide +kernel
theorem dX1_settle_49 : decode cX1_settle 49 = .ok (.aaload, 1) := by decide +kernel
theorem dX1_settle_50 : decode cX1_settle 50 = .ok (.aload_n 0, 1) := by decide +kernel
theorem dX1_settle_51 : decode cX1_settle 51 = .ok (.getfield 30, 3) := by decide +kernel
theorem dX1_settle_54 : decode cX1_settle 54 = .ok (.iload_n 1, 1) := by decide +kernel
theorem dX1_settle_55 : decode cX1_settle 55 = .ok (.aaload, 1) := by decide +kernel
theorem dX1_settle_56 : decode cX1_settle 56 = .ok (.invokevirtual 79, 3) := by decide +kernel
theorem dX1_settle_59 : decode cX1_settle 59 = .ok (.iconst 0, 1) := by decide +kernel
theorem dX1_settle_60 : decode cX1_settle 60 = .ok (.istore_n 2, 1) := by decide +kernel
theorem dX1_settle_61 : decode cX1_settle 61 = .ok (.iload_n 2, 1) := by decide +kernel
theorem dX1_settle_62 : decode cX1_settle 62 = .ok (.aload_n 0, 1) := by decide +kernel
theorem dX1_settle_63 : decode cX1_settle 63 = .ok (.getfield 69, 3) := by decide +kernel
theorem dX1_settle_66 : decode cX1_settle 66 = .ok (.if_icmp .ge 42, 3) := by decide +kernel
theorem dX1_settle_69 : decode cX1_settle 69 = .ok (.aload_n 0, 1) := by decide +kernel
theorem dX1_settle_70 : decode cX1_settle 70 = .ok (.getfield 20, 3) := by decide +kernel
theorem dX1_settle_73 : decode cX1_settle 73 = .ok (.iload_n 2, 1) := by decide +kernel
theorem dX1_settle_74 : decode cX1_settle 74 = .ok (.aaload, 1) := by decide +kernel
theorem dX1_settle_75 : decode cX1_settle 75 = .ok (.iload_n 1, 1) := by decide +kernel
theorem dX1_settle_76 : decode cX1_settle 76 = .ok (.invokevirtual 86, 3) := by decide +kernel
theorem dX1_settle_79 : decode cX1_settle 79 = .ok (.ifCond .eq 23, 3) := by decide +kernel
theorem dX1_settle_82 : decode cX1_settle 82 = .ok (.aload_n 0, 1) := by decide +kernel
theorem dX1_settle_83 : decode cX1_settle 83 = .ok (.getfield 20, 3) := by decide +kernel
theorem dX1_settle_86 : decode cX1_settle 86 = .ok (.iload_n 2, 1) := by decide +kernel
theorem dX1_settle_87 : decode cX1_settle 87 = .ok (.aaload, 1) := by decide +kernel
theorem dX1_settle_88 : decode cX1_settle 88 = .ok (.aload_n 0, 1) := by decide +kernel
theorem dX1_settle_89 : decode cX1_settle 89 = .ok (.getfield 34, 3) := by decide +kernel
theorem dX1_settle_92 : decode cX1_settle 92 = .ok (.iload_n 1, 1) := by decide +kernel
theorem dX1_settle_93 : decode cX1_settle 93 = .ok (.aaload, 1) := by decide +kernel
theorem dX1_settle_94 : decode cX1_settle 94 = .ok (.invokevirtual 90, 3) := by decide +kernel
theorem dX1_settle_97 : decode cX1_settle 97 = .ok (.ifCond .ne 5, 3) := by decide +kernel
theorem dX1_settle_100 : decode cX1_settle 100 = .ok (.iconst 0, 1) := by decide +kernel
theorem dX1_settle_101 : decode cX1_settle 101 = .ok (.ireturn, 1) := by decide +kernel
theorem dX1_settle_102 : decode cX1_settle 102 = .ok (.iinc 2 1, 3) := by decide +kernel
theorem dX1_settle_105 : decode cX1_settle 105 = .ok (.goto (-44), 3) := by decide +kernel
theorem dX1_settle_108 : decode cX1_settle 108 = .ok (.iinc 1 1, 3) := by decide +kernel
theorem dX1_settle_111 : decode cX1_settle 111 = .ok (.goto (-109), 3) := by decide +kernel
theorem dX1_settle_114 : decode cX1_settle 114 = .ok (.iconst 1, 1) := by decide +kernel
theorem dX1_settle_115 : decode cX1_settle 115 = .ok (.ireturn, 1) := by decide +kernel
set_option maxRecDepth 20000 in
theorem ggX1_findSecondWay_X4_init : GoodIn wsX1_findSecondWay wsX4_init := goodIn_r _ [7, 8, 9, 10, 11, 12, 13, 14, 15, 16, 17, 18, 19, 20, 21, 22, 23, 24, 138, 139, 129, 130, 140, 141, 142] rfl (by decide +kernel)
set_option maxRecDepth 20000 in
theorem gX1_findSecondWay_X4_init_n42 : GoodIn wsX1_findSecondWay (wsX4_init) := ggX1_findSecondWay_X4_init
set_option maxRecDepth 20000 in
theorem ggX1_findSecondWay_X4_invert : GoodIn wsX1_findSecondWay wsX4_invert := goodIn_r _ [28, 18, 14, 29, 30, 31, 17, 32, 33, 34, 35, 36, 37, 38, 39, 40, 41, 42, 43, 44, 45, 46, 47, 48, 49, 50, 51, 52, 53, 54, 55, 13, 56, 57, 58, 59, 60, 61, 62, 63, 64, 65, 66, 67, 68, 69, 129, 130, 140, 141, 142, 138, 139] rfl (by decide +kernel)
set_option maxRecDepth 20000 in
theorem gX1_findSecondWay_X4_invert : GoodIn wsX1_findSecondWay (wsV RX1 94 RX4 yX4_invert wsX4_invert) := goodIn_app (goodIn_of _ (by decide +kernel)) ggX1_findSecondWay_X4_invert
set_option maxRecDepth 20000 in
theorem ggX1_findSecondWay_X1_predictSecondWay : GoodIn wsX1_findSecondWay wsX1_predictSecondWay := goodIn_r _ [74, 75, 25, 26, 27, 3, 28, 18, 14, 29, 30, 31, 17, 32, 33, 34, 35, 36, 37, 38, 39, 40, 41, 42, 43, 44, 45, 46, 47, 48, 49, 50, 51, 52, 53, 54, 55, 13, 56, 57, 58, 59, 60, 61, 62, 63, 64, 65, 66, 67, 68, 69, 76, 77, 78, 79, 80, 81, 82, 83, 84, 85, 86, 87, 88, 89, 90, 91, 92, 93, 94, 95, 96, 97, 98, 131, 132, 133, 134, 135, 136, 137, 129, 130, 140, 141, 142, 138, 139, 143, 144, 145, 146, 147] rfl (by decide +kernel)
set_option maxRecDepth 20000 in
theorem gX1_findSecondWay_X1_predictSecondWay : GoodIn wsX1_findSecondWay (wsV RX1 97 RX1 yX1_predictSecondWay wsX1_predictSecondWay) := goodIn_app (goodIn_of _ (by decide +kernel)) ggX1_findSecondWay_X1_predictSecondWay
set_option maxRecDepth 20000 in
theorem ggX1_findSecondWay_X1_informAll : GoodIn wsX1_findSecondWay wsX1_informAll := goodIn_r _ [102, 103, 104, 105, 106, 107, 108, 109, 110, 111, 112, 113, 114, 115, 116, 117, 118, 119, 120, 121, 122, 123, 47, 41, 48, 124, 125, 126, 17, 127, 67, 68, 35, 34, 33, 49, 50, 51, 52, 128, 60, 61, 13, 62, 57, 58, 131, 132, 133, 134, 135, 136, 137, 148, 149, 150, 151, 152, 153, 154, 155, 156, 157, 158, 129, 130, 138, 139, 140, 141, 142] rfl (by decide +kernel)
set_option maxRecDepth 20000 in
theorem gX1_findSecondWay_X1_informAll : GoodIn wsX1_findSecondWay (wsV RX1 101 RX1 yX1_informAll wsX1_informAll) := goodIn_app (goodIn_of _ (by decide +kernel)) ggX1_findSecondWay_X1_informAll
theorem dX1_findSecondWay_0 : decode cX1_findSecondWay 0 = .ok (.new 28, 3) := by decide +kernel
theorem dX1_findSecondWay_3 : decode cX1_findSecondWay 3 = .ok (.dup, 1) := by decide +kernel
theorem dX1_findSecondWay_4 : decode cX1_findSecondWay 4 = .ok (.invokespecial 42, 3) := by decide +kernel
theorem dX1_findSecondWay_7 : decode cX1_findSecondWay 7 = .ok (.astore_n 2, 1) := by decide +kernel
theorem dX1_findSecondWay_8 : decode cX1_findSecondWay 8 = .ok (.aload_n 2, 1) := by decide +kernel
theorem dX1_findSecondWay_9 : decode cX1_findSecondWay 9 = .ok (.aload_n 0, 1) := by decide +kernel
theorem dX1_findSecondWay_10 : decode cX1_findSecondWay 10 = .ok (.getfield 30, 3) := by decide +kernel
theorem dX1_findSecondWay_13 : decode cX1_findSecondWay 13 = .ok (.iconst 0, 1) := by decide +kernel
theorem dX1_findSecondWay_14 : decode cX1_findSecondWay 14 = .ok (.aaload, 1) := by decide +kernel
theorem dX1_findSecondWay_15 : decode cX1_findSecondWay 15 = .ok (.invokevirtual 94, 3) := by decide +kernel
theorem dX1_findSecondWay_18 : decode cX1_findSecondWay 18 = .ok (.ifCond .ne 5, 3) := by decide +kernel
theorem dX1_findSecondWay_21 : decode cX1_findSecondWay 21 = .ok (.iconst 0, 1) := by decide +kernel
theorem dX1_findSecondWay_22 : decode cX1_findSecondWay 22 = .ok (.ireturn, 1) := by decide +kernel
theorem dX1_findSecondWay_23 : decode cX1_findSecondWay 23 = .ok (.iconst 0, 1) := by decide +kernel
theorem dX1_findSecondWay_24 : decode cX1_findSecondWay 24 = .ok (.istore_n 3, 1) := by decide +kernel
theorem dX1_findSecondWay_25 : decode cX1_findSecondWay 25 = .ok (.iload_n 3, 1) := by decide +kernel
theorem dX1_findSecondWay_26 : decode cX1_findSecondWay 26 = .ok (.aload_n 0, 1) := by decide +kernel
theorem dX1_findSecondWay_27 : decode cX1_findSecondWay 27 = .ok (.getfield 66, 3) := by decide +kernel
theorem dX1_findSecondWay_30 : decode cX1_findSecondWay 30 = .ok (.if_icmp .gt 35, 3) := by decide +kernel
theorem dX1_findSecondWay_33 : decode cX1_findSecondWay 33 = .ok (.iload_n 3, 1) := by decide +kernel
theorem dX1_findSecondWay_34 : decode cX1_findSecondWay 34 = .ok (.ifCond .le 14, 3) := by decide +kernel
theorem dX1_findSecondWay_37 : decode cX1_findSecondWay 37 = .ok (.aload_n 0, 1) := by decide +kernel
theorem dX1_findSecondWay_38 : decode cX1_findSecondWay 38 = .ok (.aload_n 2, 1) := by decide +kernel
theorem dX1_findSecondWay_39 : decode cX1_findSecondWay 39 = .ok (.aload_n 1, 1) := by decide +kernel
theorem dX1_findSecondWay_40 : decode cX1_findSecondWay 40 = .ok (.invokevirtual 97, 3) := by decide +kernel
theorem dX1_findSecondWay_43 : decode cX1_findSecondWay 43 = .ok (.ifCond .ne 5, 3) := by decide +kernel
theorem dX1_findSecondWay_46 : decode cX1_findSecondWay 46 = .ok (.iconst 0, 1) := by decide +kernel
theorem dX1_findSecondWay_47 : decode cX1_findSecondWay 47 = .ok (.ireturn, 1) := by decide +kernel
theorem dX1_findSecondWay_48 : decode cX1_findSecondWay 48 = .ok (.aload_n 0, 1) := by decide +kernel
theorem dX1_findSecondWay_49 : decode cX1_findSecondWay 49 = .ok (.iload_n 3, 1) := by decide +kernel
theorem dX1_findSecondWay_50 : decode cX1_findSecondWay 50 = .ok (.aload_n 2, 1) := by decide +kernel
theorem dX1_findSecondWay_51 : decode cX1_findSecondWay 51 = .ok (.invokevirtual 101, 3) := by decide +kernel
theorem dX1_findSecondWay_54 : decode cX1_findSecondWay 54 = .ok (.ifCond .ne 5, 3) := by decide +kernel
theorem dX1_findSecondWay_57 : decode cX1_findSecondWay 57 = .ok (.iconst 0, 1) := by decide +kernel
theorem dX1_findSecondWay_58 : decode cX1_findSecondWay 58 = .ok (.ireturn, 1) := by decide +kernel
theorem dX1_findSecondWay_59 : decode cX1_findSecondWay 59 = .ok (.iinc 3 1, 3) := by decide +kernel
theorem dX1_findSecondWay_62 : decode cX1_findSecondWay 62 = .ok (.goto (-37), 3) := by decide +kernel
theorem dX1_findSecondWay_65 : decode cX1_findSecondWay 65 = .ok (.aload_n 1, 1) := by decide +kernel
theorem dX1_findSecondWay_66 : decode cX1_findSecondWay 66 = .ok (.aload_n 2, 1) := by decide +kernel
theorem dX1_findSecondWay_67 : decode cX1_findSecondWay 67 = .ok (.invokevirtual 94, 3) := by decide +kernel
theorem dX1_findSecondWay_70 : decode cX1_findSecondWay 70 = .ok (.ireturn, 1) := by decide +kernel
set_option maxRecDepth 20000 in
theorem ggX1_predictSecondWay_X4_invert : GoodIn wsX1_predictSecondWay wsX4_invert := goodIn_r _ [6, 7, 8, 9, 10, 11, 12, 13, 14, 15, 16, 17, 18, 19, 20, 21, 22, 23, 24, 25, 26, 27, 28, 29, 30, 31, 32, 33, 34, 35, 36, 37, 38, 39, 40, 41, 42, 43, 44, 45, 46, 47, 48, 49, 50, 51, 82, 83, 84, 85, 86, 87, 88] rfl (by decide +kernel)
set_option maxRecDepth 20000 in
theorem gX1_predictSecondWay_X4_invert : GoodIn wsX1_predictSecondWay (wsV RX1 94 RX4 yX4_invert wsX4_invert) := goodIn_app (goodIn_of _ (by decide +kernel)) ggX1_predictSecondWay_X4_invert
set_option maxRecDepth 20000 in
theorem ggX1_predictSecondWay_X3_move : GoodIn wsX1_predictSecondWay wsX3_move := goodIn_r _ [56, 57, 58, 59, 60, 61, 62, 63, 64, 65, 42, 43, 37, 44, 39, 40, 66, 67, 68, 55, 69, 70, 71, 72, 73, 74, 31, 32, 12, 33, 16, 15, 14, 82, 83, 89, 90, 91, 92, 93, 87, 88, 84, 85, 86] rfl (by decide +kernel)
set_option maxRecDepth 20000 in
theorem gX1_predictSecondWay_X3_move : GoodIn wsX1_predictSecondWay (wsV RX1 83 RX3 yX3_move wsX3_move) := goodIn_app (goodIn_of _ (by decide +kernel)) ggX1_predictSecondWay_X3_move
theorem dX1_predictSecondWay_0 : decode cX1_predictSecondWay 0 = .ok (.aload_n 2, 1) := by decide +kernel
theorem dX1_predictSecondWay_1 : decode cX1_predictSecondWay 1 = .ok (.aload_n 1, 1) := by decide +kernel
theorem dX1_predictSecondWay_2 : decode cX1_predictSecondWay 2 = .ok (.invokevirtual 94, 3) := by decide +kernel
theorem dX1_predictSecondWay_5 : decode cX1_predictSecondWay 5 = .ok (.ifCond .ne 5, 3) := by decide +kernel
theorem dX1_predictSecondWay_8 : decode cX1_predictSecondWay 8 = .ok (.iconst 0, 1) := by decide +kernel
theorem dX1_predictSecondWay_9 : decode cX1_predictSecondWay 9 = .ok (.ireturn, 1) := by decide +kernel
theorem dX1_predictSecondWay_10 : decode cX1_predictSecondWay 10 = .ok (.aload_n 0, 1) := by decide +kernel
theorem dX1_predictSecondWay_11 : decode cX1_predictSecondWay 11 = .ok (.getfield 12, 3) := by decide +kernel
theorem dX1_predictSecondWay_14 : decode cX1_predictSecondWay 14 = .ok (.aload_n 2, 1) := by decide +kernel
theorem dX1_predictSecondWay_15 : decode cX1_predictSecondWay 15 = .ok (.invokevirtual 83, 3) := by decide +kernel
theorem dX1_predictSecondWay_18 : decode cX1_predictSecondWay 18 = .ok (.aload_n 1, 1) := by decide +kernel
theorem dX1_predictSecondWay_19 : decode cX1_predictSecondWay 19 = .ok (.aload_n 2, 1) := by decide +kernel
theorem dX1_predictSecondWay_20 : decode cX1_predictSecondWay 20 = .ok (.invokevirtual 94, 3) := by decide +kernel
theorem dX1_predictSecondWay_23 : decode cX1_predictSecondWay 23 = .ok (.ireturn, 1) := by decide +kernel
set_option maxRecDepth 20000 in
theorem ggX1_informAll_X2_countsAt : GoodIn wsX1_informAll wsX2_countsAt := goodIn_r _ [8, 9, 10, 53, 54, 55, 56, 57, 58, 59, 60, 61, 62, 63] rfl (by decide +kernel)
set_option maxRecDepth 20000 in
theorem gX1_informAll_X2_countsAt : GoodIn wsX1_informAll (wsV RX1 86 RX2 yX2_countsAt wsX2_countsAt) := goodIn_app (goodIn_of _ (by decide +kernel)) ggX1_informAll_X2_countsAt
set_option maxRecDepth 20000 in
theorem ggX1_informAll_X2_inform : GoodIn wsX1_informAll wsX2_inform := goodIn_r _ [14, 15, 16, 17, 18, 19, 20, 21, 22, 23, 24, 25, 26, 27, 28, 29, 30, 31, 32, 33, 34, 35, 36, 37, 38, 39, 40, 41, 42, 43, 44, 45, 53, 54, 55, 56, 57, 58, 59, 60, 61, 62, 63, 64, 65, 66, 67, 68, 69, 70] rfl (by decide +kernel)
set_option maxRecDepth 20000 in
theorem gX1_informAll_X2_inform : GoodIn wsX1_informAll (wsV RX1 105 RX2 yX2_inform wsX2_inform) := goodIn_app (goodIn_of _ (by decide +kernel)) ggX1_informAll_X2_inform
theorem dX1_informAll_0 : decode cX1_informAll 0 = .ok (.iconst 0, 1) := by decide +kernel
theorem dX1_informAll_1 : decode cX1_informAll 1 = .ok (.istore_n 3, 1) := by decide +kernel
theorem dX1_informAll_2 : decode cX1_informAll 2 = .ok (.iload_n 3, 1) := by decide +kernel
theorem dX1_informAll_3 : decode cX1_informAll 3 = .ok (.aload_n 0, 1) := by decide +kernel
theorem dX1_informAll_4 : decode cX1_informAll 4 = .ok (.getfield 69, 3) := by decide +kernel
theorem dX1_informAll_7 : decode cX1_informAll 7 = .ok (.if_icmp .ge 49, 3) := by decide +kernel
theorem dX1_informAll_10 : decode cX1_informAll 10 = .ok (.aload_n 0, 1) := by decide +kernel
theorem dX1_informAll_11 : decode cX1_informAll 11 = .ok (.getfield 20, 3) := by decide +kernel
theorem dX1_informAll_14 : decode cX1_informAll 14 = .ok (.iload_n 3, 1) := by decide +kernel
theorem dX1_informAll_15 : decode cX1_informAll 15 = .ok (.aaload, 1) := by decide +kernel
theorem dX1_informAll_16 : decode cX1_informAll 16 = .ok (.iload_n 1, 1) := by decide +kernel
theorem dX1_informAll_17 : decode cX1_informAll 17 = .ok (.invokevirtual 86, 3) := by decide +kernel
theorem dX1_informAll_20 : decode cX1_informAll 20 = .ok (.ifCond .eq 30, 3) := by decide +kernel
theorem dX1_informAll_23 : decode cX1_informAll 23 = .ok (.aload_n 0, 1) := by decide +kernel
theorem dX1_informAll_24 : decode cX1_informAll 24 = .ok (.getfield 20, 3) := by decide +kernel
theorem dX1_informAll_27 : decode cX1_informAll 27 = .ok (.iload_n 3, 1) := by decide +kernel
theorem dX1_informAll_28 : decode cX1_informAll 28 = .ok (.aaload, 1) := by decide +kernel
theorem dX1_informAll_29 : decode cX1_informAll 29 = .ok (.getfield 72, 3) := by decide +kernel
theorem dX1_informAll_32 : decode cX1_informAll 32 = .ok (.ifCond .ne 18, 3) := by decide +kernel
theorem dX1_informAll_35 : decode cX1_informAll 35 = .ok (.aload_n 0, 1) := by decide +kernel
theorem dX1_informAll_36 : decode cX1_informAll 36 = .ok (.getfield 20, 3) := by decide +kernel
theorem dX1_informAll_39 : decode cX1_informAll 39 = .ok (.iload_n 3, 1) := by decide +kernel
theorem dX1_informAll_40 : decode cX1_informAll 40 = .ok (.aaload, 1) := by decide +kernel
theorem dX1_informAll_41 : decode cX1_informAll 41 = .ok (.aload_n 2, 1) := by decide +kernel
theorem dX1_informAll_42 : decode cX1_informAll 42 = .ok (.invokevirtual 105, 3) := by decide +kernel
theorem dX1_informAll_45 : decode cX1_informAll 45 = .ok (.ifCond .ne 5, 3) := by decide +kernel
theorem dX1_informAll_48 : decode cX1_informAll 48 = .ok (.iconst 0, 1) := by decide +kernel
theorem dX1_informAll_49 : decode cX1_informAll 49 = .ok (.ireturn, 1) := by decide +kernel
theorem dX1_informAll_50 : decode cX1_informAll 50 = .ok (.iinc 3 1, 3) := by decide +kernel
theorem dX1_informAll_53 : decode cX1_informAll 53 = .ok (.goto (-51), 3) := by decide +kernel
theorem dX1_informAll_56 : decode cX1_informAll 56 = .ok (.iconst 1, 1) := by decide +kernel
theorem dX1_informAll_57 : decode cX1_informAll 57 = .ok (.ireturn, 1) := by decide +kernel
set_option maxRecDepth 20000 in
theorem ggX1_smoothBack_X5_init : GoodIn wsX1_smoothBack wsX5_init := goodIn_r _ [11, 12, 13, 14] rfl (by decide +kernel)
set_option maxRecDepth 20000 in
theorem gX1_smoothBack_X5_init_n108 : GoodIn wsX1_smoothBack (wsX5_init) := ggX1_smoothBack_X5_init
set_option maxRecDepth 20000 in
theorem ggX1_smoothBack_X1_current : GoodIn wsX1_smoothBack wsX1_current := goodIn_r _ [19, 9, 5, 87, 88, 89, 90, 91, 92, 93] rfl (by decide +kernel)
set_option maxRecDepth 20000 in
theorem gX1_smoothBack_X1_current : GoodIn wsX1_smoothBack (wsV RX1 109 RX1 yX1_current wsX1_current) := goodIn_app (goodIn_of _ (by decide +kernel)) ggX1_smoothBack_X1_current
set_option maxRecDepth 20000 in
theorem ggX1_smoothBack_X0_copy : GoodIn wsX1_smoothBack wsX0_copy := goodIn_r _ [24, 25, 26, 27, 28, 29, 23, 30, 94, 95] rfl (by decide +kernel)
set_option maxRecDepth 20000 in
theorem gX1_smoothBack_X0_copy : GoodIn wsX1_smoothBack (wsV RX1 113 RX0 yX0_copy wsX0_copy) := goodIn_app (goodIn_of _ (by decide +kernel)) ggX1_smoothBack_X0_copy
set_option maxRecDepth 20000 in
theorem ggX1_smoothBack_X5_invert : GoodIn wsX1_smoothBack wsX5_invert := goodIn_r _ [34, 35, 36, 37, 38, 39, 40, 3, 41, 42, 43, 44, 45, 46, 47, 48, 49, 50, 51, 52, 53, 54, 82, 83, 84] rfl (by decide +kernel)
set_option maxRecDepth 20000 in
theorem gX1_smoothBack_X5_invert : GoodIn wsX1_smoothBack (wsV RX1 116 RX5 yX5_invert wsX5_invert) := goodIn_app (goodIn_of _ (by decide +kernel)) ggX1_smoothBack_X5_invert
set_option maxRecDepth 20000 in
theorem ggX1_smoothBack_X0_subtract : GoodIn wsX1_smoothBack wsX0_subtract := goodIn_r _ [58, 25, 26, 42, 43, 44, 45, 46, 47, 48, 27, 28, 29, 23, 30, 94, 95] rfl (by decide +kernel)
set_option maxRecDepth 20000 in
theorem gX1_smoothBack_X0_subtract : GoodIn wsX1_smoothBack (wsV RX1 119 RX0 yX0_subtract wsX0_subtract) := goodIn_app (goodIn_of _ (by decide +kernel)) ggX1_smoothBack_X0_subtract
set_option maxRecDepth 20000 in
theorem ggX1_smoothBack_X5_multiply : GoodIn wsX1_smoothBack wsX5_multiply := goodIn_r _ [62, 37, 63, 36, 64, 35, 65, 28, 29, 23, 30, 25, 26, 82, 83, 84, 94, 95] rfl (by decide +kernel)
set_option maxRecDepth 20000 in
theorem gX1_smoothBack_X5_multiply : GoodIn wsX1_smoothBack (wsV RX1 122 RX5 yX5_multiply wsX5_multiply) := goodIn_app (goodIn_of _ (by decide +kernel)) ggX1_smoothBack_X5_multiply
set_option maxRecDepth 20000 in
theorem ggX1_smoothBack_X3_turnBack : GoodIn wsX1_smoothBack wsX3_turnBack := goodIn_r _ [70, 71, 72, 73, 74, 75, 76, 77, 28, 29, 23, 30, 25, 26, 96, 97, 98, 99, 100, 94, 95] rfl (by decide +kernel)
set_option maxRecDepth 20000 in
theorem gX1_smoothBack_X3_turnBack : GoodIn wsX1_smoothBack (wsV RX1 125 RX3 yX3_turnBack wsX3_turnBack) := goodIn_app (goodIn_of _ (by decide +kernel)) ggX1_smoothBack_X3_turnBack
set_option maxRecDepth 20000 in
theorem ggX1_smoothBack_X0_add : GoodIn wsX1_smoothBack wsX0_add := goodIn_r _ [81, 25, 26, 27, 28, 29, 23, 30, 94, 95] rfl (by decide +kernel)
set_option maxRecDepth 20000 in
theorem gX1_smoothBack_X0_add : GoodIn wsX1_smoothBack (wsV RX1 128 RX0 yX0_add wsX0_add) := goodIn_app (goodIn_of _ (by decide +kernel)) ggX1_smoothBack_X0_add
theorem dX1_smoothBack_0 : decode cX1_smoothBack 0 = .ok (.new 58, 3) := by decide +kernel
theorem dX1_smoothBack_3 : decode cX1_smoothBack 3 = .ok (.dup, 1) := by decide +kernel
theorem dX1_smoothBack_4 : decode cX1_smoothBack 4 = .ok (.invokespecial 108, 3) := by decide +kernel
theorem dX1_smoothBack_7 : decode cX1_smoothBack 7 = .ok (.astore_n 3, 1) := by decide +kernel
theorem dX1_smoothBack_8 : decode cX1_smoothBack 8 = .ok (.aload_n 2, 1) := by decide +kernel
theorem dX1_smoothBack_9 : decode cX1_smoothBack 9 = .ok (.aload_n 0, 1) := by decide +kernel
theorem dX1_smoothBack_10 : decode cX1_smoothBack 10 = .ok (.invokevirtual 109, 3) := by decide +kernel
theorem dX1_smoothBack_13 : decode cX1_smoothBack 13 = .ok (.getfield 43, 3) := by decide +kernel
theorem dX1_smoothBack_16 : decode cX1_smoothBack 16 = .ok (.invokevirtual 113, 3) := by decide +kernel
theorem dX1_smoothBack_19 : decode cX1_smoothBack 19 = .ok (.aload_n 0, 1) := by decide +kernel
theorem dX1_smoothBack_20 : decode cX1_smoothBack 20 = .ok (.getfield 66, 3) := by decide +kernel
theorem dX1_smoothBack_23 : decode cX1_smoothBack 23 = .ok (.iconst 1, 1) := by decide +kernel
theorem dX1_smoothBack_24 : decode cX1_smoothBack 24 = .ok (.isub, 1) := by decide +kernel
theorem dX1_smoothBack_25 : decode cX1_smoothBack 25 = .ok (.istore 4, 2) := by decide +kernel
theorem dX1_smoothBack_27 : decode cX1_smoothBack 27 = .ok (.iload 4, 2) := by decide +kernel
theorem dX1_smoothBack_29 : decode cX1_smoothBack 29 = .ok (.iload_n 1, 1) := by decide +kernel
theorem dX1_smoothBack_30 : decode cX1_smoothBack 30 = .ok (.if_icmp .lt 87, 3) := by decide +kernel
theorem dX1_smoothBack_33 : decode cX1_smoothBack 33 = .ok (.aload_n 3, 1) := by decide +kernel
theorem dX1_smoothBack_34 : decode cX1_smoothBack 34 = .ok (.aload_n 0, 1) := by decide +kernel
theorem dX1_smoothBack_35 : decode cX1_smoothBack 35 = .ok (.getfield 30, 3) := by decide +kernel
theorem dX1_smoothBack_38 : decode cX1_smoothBack 38 = .ok (.iload 4, 2) := by decide +kernel
theorem dX1_smoothBack_40 : decode cX1_smoothBack 40 = .ok (.iconst 1, 1) := by decide +kernel
theorem dX1_smoothBack_41 : decode cX1_smoothBack 41 = .ok (.iadd, 1) := by decide +kernel
theorem dX1_smoothBack_42 : decode cX1_smoothBack 42 = .ok (.aaload, 1) := by decide +kernel
theorem dX1_smoothBack_43 : decode cX1_smoothBack 43 = .ok (.getfield 53, 3) := by decide +kernel
theorem dX1_smoothBack_46 : decode cX1_smoothBack 46 = .ok (.invokevirtual 116, 3) := by decide +kernel
theorem dX1_smoothBack_49 : decode cX1_smoothBack 49 = .ok (.ifCond .ne 5, 3) := by decide +kernel
theorem dX1_smoothBack_52 : decode cX1_smoothBack 52 = .ok (.iconst 0, 1) := by decide +kernel
theorem dX1_smoothBack_53 : decode cX1_smoothBack 53 = .ok (.ireturn, 1) := by decide +kernel
theorem dX1_smoothBack_54 : decode cX1_smoothBack 54 = .ok (.aload_n 2, 1) := by decide +kernel
theorem dX1_smoothBack_55 : decode cX1_smoothBack 55 = .ok (.aload_n 0, 1) := by decide +kernel
theorem dX1_smoothBack_56 : decode cX1_smoothBack 56 = .ok (.getfield 30, 3) := by decide +kernel
theorem dX1_smoothBack_59 : decode cX1_smoothBack 59 = .ok (.iload 4, 2) := by decide +kernel
theorem dX1_smoothBack_61 : decode cX1_smoothBack 61 = .ok (.iconst 1, 1) := by decide +kernel
theorem dX1_smoothBack_62 : decode cX1_smoothBack 62 = .ok (.iadd, 1) := by decide +kernel
theorem dX1_smoothBack_63 : decode cX1_smoothBack 63 = .ok (.aaload, 1) := by decide +kernel
theorem dX1_smoothBack_64 : decode cX1_smoothBack 64 = .ok (.getfield 43, 3) := by decide +kernel
theorem dX1_smoothBack_67 : decode cX1_smoothBack 67 = .ok (.invokevirtual 119, 3) := by decide +kernel
theorem dX1_smoothBack_70 : decode cX1_smoothBack 70 = .ok (.aload_n 3, 1) := by decide +kernel
theorem dX1_smoothBack_71 : decode cX1_smoothBack 71 = .ok (.aload_n 2, 1) := by decide +kernel
theorem dX1_smoothBack_72 : decode cX1_smoothBack 72 = .ok (.invokevirtual 122, 3) := by decide +kernel
theorem dX1_smoothBack_75 : decode cX1_smoothBack 75 = .ok (.aload_n 0, 1) := by decide +kernel
theorem dX1_smoothBack_76 : decode cX1_smoothBack 76 = .ok (.getfield 12, 3) := by decide +kernel
theorem dX1_smoothBack_79 : decode cX1_smoothBack 79 = .ok (.aload_n 2, 1) := by decide +kernel
theorem dX1_smoothBack_80 : decode cX1_smoothBack 80 = .ok (.invokevirtual 125, 3) := by decide +kernel
theorem dX1_smoothBack_83 : decode cX1_smoothBack 83 = .ok (.aload_n 0, 1) := by decide +kernel
theorem dX1_smoothBack_84 : decode cX1_smoothBack 84 = .ok (.getfield 34, 3) := by decide +kernel
theorem dX1_smoothBack_87 : decode cX1_smoothBack 87 = .ok (.iload 4, 2) := by decide +kernel
theorem dX1_smoothBack_89 : decode cX1_smoothBack 89 = .ok (.aaload, 1) := by decide +kernel
theorem dX1_smoothBack_90 : decode cX1_smoothBack 90 = .ok (.getfield 53, 3) := by decide +kernel
theorem dX1_smoothBack_93 : decode cX1_smoothBack 93 = .ok (.aload_n 2, 1) := by decide +kernel
theorem dX1_smoothBack_94 : decode cX1_smoothBack 94 = .ok (.invokevirtual 122, 3) := by decide +kernel
theorem dX1_smoothBack_97 : decode cX1_smoothBack 97 = .ok (.aload_n 2, 1) := by decide +kernel
theorem dX1_smoothBack_98 : decode cX1_smoothBack 98 = .ok (.aload_n 0, 1) := by decide +kernel
theorem dX1_smoothBack_99 : decode cX1_smoothBack 99 = .ok (.getfield 34, 3) := by decide +kernel
theorem dX1_smoothBack_102 : decode cX1_smoothBack 102 = .ok (.iload 4, 2) := by decide +kernel
theorem dX1_smoothBack_104 : decode cX1_smoothBack 104 = .ok (.aaload, 1) := by decide +kernel
theorem dX1_smoothBack_105 : decode cX1_smoothBack 105 = .ok (.getfield 43, 3) := by decide +kernel
theorem dX1_smoothBack_108 : decode cX1_smoothBack 108 = .ok (.invokevirtual 128, 3) := by decide +kernel
theorem dX1_smoothBack_111 : decode cX1_smoothBack 111 = .ok (.iinc 4 (-1), 3) := by decide +kernel
theorem dX1_smoothBack_114 : decode cX1_smoothBack 114 = .ok (.goto (-87), 3) := by decide +kernel
theorem dX1_smoothBack_117 : decode cX1_smoothBack 117 = .ok (.iconst 1, 1) := by decide +kernel
theorem dX1_smoothBack_118 : decode cX1_smoothBack 118 = .ok (.ireturn, 1) := by decide +kernel
set_option maxRecDepth 20000 in
theorem ggX2_init_X0_init : GoodIn wsX2_init wsX0_init := goodIn_r _ [10, 11, 2, 3] rfl (by decide +kernel)
set_option maxRecDepth 20000 in
theorem gX2_init_X0_init_n11 : GoodIn wsX2_init (wsX0_init) := ggX2_init_X0_init
theorem dX2_init_0 : decode cX2_init 0 = .ok (.aload_n 0, 1) := by decide +kernel
theorem dX2_init_1 : decode cX2_init 1 = .ok (.invokespecial 3, 3) := by decide +kernel
theorem dX2_init_4 : decode cX2_init 4 = .ok (.aload_n 0, 1) := by decide +kernel
theorem dX2_init_5 : decode cX2_init 5 = .ok (.new 9, 3) := by decide +kernel
theorem dX2_init_8 : decode cX2_init 8 = .ok (.dup, 1) := by decide +kernel
theorem dX2_init_9 : decode cX2_init 9 = .ok (.invokespecial 11, 3) := by decide +kernel
theorem dX2_init_12 : decode cX2_init 12 = .ok (.putfield 12, 3) := by decide +kernel
theorem dX2_init_15 : decode cX2_init 15 = .ok (.aload_n 0, 1) := by decide +kernel
theorem dX2_init_16 : decode cX2_init 16 = .ok (.new 9, 3) := by decide +kernel
theorem dX2_init_19 : decode cX2_init 19 = .ok (.dup, 1) := by decide +kernel
theorem dX2_init_20 : decode cX2_init 20 = .ok (.invokespecial 11, 3) := by decide +kernel
theorem dX2_init_23 : decode cX2_init 23 = .ok (.putfield 18, 3) := by decide +kernel
theorem dX2_init_26 : decode cX2_init 26 = .ok (.return_, 1) := by decide +kernel
set_option maxRecDepth 20000 in
theorem ggX2_look_X0_set : GoodIn wsX2_look wsX0_set := goodIn_r _ [8, 9, 10, 22, 23] rfl (by decide +kernel)
set_option maxRecDepth 20000 in
theorem gX2_look_X0_set : GoodIn wsX2_look (wsV RX2 21 RX0 yX0_set wsX0_set) := goodIn_app (goodIn_of _ (by decide +kernel)) ggX2_look_X0_set
theorem dX2_look_0 : decode cX2_look 0 = .ok (.aload_n 0, 1) := by decide +kernel
theorem dX2_look_1 : decode cX2_look 1 = .ok (.getfield 12, 3) := by decide +kernel
theorem dX2_look_4 : decode cX2_look 4 = .ok (.iload_n 1, 1) := by decide +kernel
theorem dX2_look_5 : decode cX2_look 5 = .ok (.iload_n 2, 1) := by decide +kernel
theorem dX2_look_6 : decode cX2_look 6 = .ok (.invokevirtual 21, 3) := by decide +kernel
theorem dX2_look_9 : decode cX2_look 9 = .ok (.aload_n 0, 1) := by decide +kernel
theorem dX2_look_10 : decode cX2_look 10 = .ok (.iload_n 3, 1) := by decide +kernel
theorem dX2_look_11 : decode cX2_look 11 = .ok (.putfield 25, 3) := by decide +kernel
theorem dX2_look_14 : decode cX2_look 14 = .ok (.aload_n 0, 1) := by decide +kernel
theorem dX2_look_15 : decode cX2_look 15 = .ok (.iload 4, 2) := by decide +kernel
theorem dX2_look_17 : decode cX2_look 17 = .ok (.putfield 29, 3) := by decide +kernel
theorem dX2_look_20 : decode cX2_look 20 = .ok (.return_, 1) := by decide +kernel
theorem dX2_place_0 : decode cX2_place 0 = .ok (.aload_n 0, 1) := by decide +kernel
theorem dX2_place_1 : decode cX2_place 1 = .ok (.iload_n 1, 1) := by decide +kernel
theorem dX2_place_2 : decode cX2_place 2 = .ok (.putfield 32, 3) := by decide +kernel
theorem dX2_place_5 : decode cX2_place 5 = .ok (.aload_n 0, 1) := by decide +kernel
theorem dX2_place_6 : decode cX2_place 6 = .ok (.iload_n 2, 1) := by decide +kernel
theorem dX2_place_7 : decode cX2_place 7 = .ok (.putfield 35, 3) := by decide +kernel
theorem dX2_place_10 : decode cX2_place 10 = .ok (.return_, 1) := by decide +kernel
theorem dX2_countsAt_0 : decode cX2_countsAt 0 = .ok (.aload_n 0, 1) := by decide +kernel
theorem dX2_countsAt_1 : decode cX2_countsAt 1 = .ok (.getfield 32, 3) := by decide +kernel
theorem dX2_countsAt_4 : decode cX2_countsAt 4 = .ok (.iload_n 1, 1) := by decide +kernel
theorem dX2_countsAt_5 : decode cX2_countsAt 5 = .ok (.if_icmp .ne 14, 3) := by decide +kernel
theorem dX2_countsAt_8 : decode cX2_countsAt 8 = .ok (.aload_n 0, 1) := by decide +kernel
theorem dX2_countsAt_9 : decode cX2_countsAt 9 = .ok (.getfield 38, 3) := by decide +kernel
theorem dX2_countsAt_12 : decode cX2_countsAt 12 = .ok (.ifCond .ne 7, 3) := by decide +kernel
theorem dX2_countsAt_15 : decode cX2_countsAt 15 = .ok (.iconst 1, 1) := by decide +kernel
theorem dX2_countsAt_16 : decode cX2_countsAt 16 = .ok (.goto 4, 3) := by decide +kernel
theorem dX2_countsAt_19 : decode cX2_countsAt 19 = .ok (.iconst 0, 1) := by decide +kernel
theorem dX2_countsAt_20 : decode cX2_countsAt 20 = .ok (.ireturn, 1) := by decide +kernel
set_option maxRecDepth 20000 in
theorem ggX2_weigh_X0_copy : GoodIn wsX2_weigh wsX0_copy := goodIn_r _ [11, 12, 13, 14, 15, 16, 10, 17, 40, 41] rfl (by decide +kernel)
set_option maxRecDepth 20000 in
theorem gX2_weigh_X0_copy : GoodIn wsX2_weigh (wsV RX2 42 RX0 yX0_copy wsX0_copy) := goodIn_app (goodIn_of _ (by decide +kernel)) ggX2_weigh_X0_copy
set_option maxRecDepth 20000 in
theorem ggX2_weigh_X5_multiply : GoodIn wsX2_weigh wsX5_multiply := goodIn_r _ [22, 23, 24, 25, 26, 27, 28, 15, 16, 10, 17, 12, 13, 42, 43, 44, 40, 41] rfl (by decide +kernel)
set_option maxRecDepth 20000 in
theorem gX2_weigh_X5_multiply : GoodIn wsX2_weigh (wsV RX2 46 RX5 yX5_multiply wsX5_multiply) := goodIn_app (goodIn_of _ (by decide +kernel)) ggX2_weigh_X5_multiply
theorem dX2_weigh_0 : decode cX2_weigh 0 = .ok (.aload_n 0, 1) := by decide +kernel
theorem dX2_weigh_1 : decode cX2_weigh 1 = .ok (.getfield 18, 3) := by decide +kernel
theorem dX2_weigh_4 : decode cX2_weigh 4 = .ok (.aload_n 0, 1) := by decide +kernel
theorem dX2_weigh_5 : decode cX2_weigh 5 = .ok (.getfield 12, 3) := by decide +kernel
theorem dX2_weigh_8 : decode cX2_weigh 8 = .ok (.invokevirtual 42, 3) := by decide +kernel
theorem dX2_weigh_11 : decode cX2_weigh 11 = .ok (.aload_n 1, 1) := by decide +kernel
theorem dX2_weigh_12 : decode cX2_weigh 12 = .ok (.aload_n 0, 1) := by decide +kernel
theorem dX2_weigh_13 : decode cX2_weigh 13 = .ok (.getfield 18, 3) := by decide +kernel
theorem dX2_weigh_16 : decode cX2_weigh 16 = .ok (.invokevirtual 46, 3) := by decide +kernel
theorem dX2_weigh_19 : decode cX2_weigh 19 = .ok (.aload_n 0, 1) := by decide +kernel
theorem dX2_weigh_20 : decode cX2_weigh 20 = .ok (.aload_n 0, 1) := by decide +kernel
theorem dX2_weigh_21 : decode cX2_weigh 21 = .ok (.getfield 12, 3) := by decide +kernel
theorem dX2_weigh_24 : decode cX2_weigh 24 = .ok (.getfield 51, 3) := by decide +kernel
theorem dX2_weigh_27 : decode cX2_weigh 27 = .ok (.aload_n 0, 1) := by decide +kernel
theorem dX2_weigh_28 : decode cX2_weigh 28 = .ok (.getfield 18, 3) := by decide +kernel
theorem dX2_weigh_31 : decode cX2_weigh 31 = .ok (.getfield 51, 3) := by decide +kernel
theorem dX2_weigh_34 : decode cX2_weigh 34 = .ok (.imul, 1) := by decide +kernel
theorem dX2_weigh_35 : decode cX2_weigh 35 = .ok (.aload_n 0, 1) := by decide +kernel
theorem dX2_weigh_36 : decode cX2_weigh 36 = .ok (.getfield 12, 3) := by decide +kernel
theorem dX2_weigh_39 : decode cX2_weigh 39 = .ok (.getfield 54, 3) := by decide +kernel
theorem dX2_weigh_42 : decode cX2_weigh 42 = .ok (.aload_n 0, 1) := by decide +kernel
theorem dX2_weigh_43 : decode cX2_weigh 43 = .ok (.getfield 18, 3) := by decide +kernel
theorem dX2_weigh_46 : decode cX2_weigh 46 = .ok (.getfield 54, 3) := by decide +kernel
theorem dX2_weigh_49 : decode cX2_weigh 49 = .ok (.imul, 1) := by decide +kernel
theorem dX2_weigh_50 : decode cX2_weigh 50 = .ok (.iadd, 1) := by decide +kernel
theorem dX2_weigh_51 : decode cX2_weigh 51 = .ok (.aload_n 0, 1) := by decide +kernel
theorem dX2_weigh_52 : decode cX2_weigh 52 = .ok (.getfield 29, 3) := by decide +kernel
theorem dX2_weigh_55 : decode cX2_weigh 55 = .ok (.iadd, 1) := by decide +kernel
theorem dX2_weigh_56 : decode cX2_weigh 56 = .ok (.sipush 10007, 3) := by decide +kernel
theorem dX2_weigh_59 : decode cX2_weigh 59 = .ok (.irem, 1) := by decide +kernel
theorem dX2_weigh_60 : decode cX2_weigh 60 = .ok (.putfield 57, 3) := by decide +kernel
theorem dX2_weigh_63 : decode cX2_weigh 63 = .ok (.return_, 1) := by decide +kernel
set_option maxRecDepth 20000 in
theorem ggX2_take_X2_weigh : GoodIn wsX2_take wsX2_weigh := goodIn_r _ [16, 17, 4, 5, 7, 18, 2, 19, 20, 21, 22, 23, 24, 25, 26, 27, 28, 29, 30, 31, 32, 33, 34, 35, 36, 37, 38, 39, 40, 68, 69, 70, 71, 72, 73, 74, 75, 76, 77, 78, 79, 80, 81, 82, 83] rfl (by decide +kernel)
set_option maxRecDepth 20000 in
theorem gX2_take_X2_weigh : GoodIn wsX2_take (wsV RX2 66 RX2 yX2_weigh wsX2_weigh) := goodIn_app (goodIn_of _ (by decide +kernel)) ggX2_take_X2_weigh
set_option maxRecDepth 20000 in
theorem ggX2_take_X6_less : GoodIn wsX2_take wsX6_less := goodIn_r _ [43, 44, 45, 46, 47] rfl (by decide +kernel)
set_option maxRecDepth 20000 in
theorem gX2_take_X6_less_n73 : GoodIn wsX2_take (wsX6_less) := ggX2_take_X6_less
set_option maxRecDepth 20000 in
theorem ggX2_take_X6_divide : GoodIn wsX2_take wsX6_divide := goodIn_r _ [49, 50, 51, 42, 52] rfl (by decide +kernel)
set_option maxRecDepth 20000 in
theorem gX2_take_X6_divide_n80 : GoodIn wsX2_take (wsX6_divide) := ggX2_take_X6_divide
set_option maxRecDepth 20000 in
theorem ggX2_take_X2_correct : GoodIn wsX2_take wsX2_correct := goodIn_r _ [56, 2, 8, 6, 5, 17, 7, 1, 51, 42, 52, 57, 27, 28, 22, 29, 24, 25, 41, 43, 44, 45, 46, 47, 58, 59, 60, 33, 61, 36, 38, 35, 37, 39, 62, 63, 64, 65, 68, 69, 70, 71, 72, 73, 74, 75, 76, 77, 78, 66, 67, 79, 80, 81, 82, 83] rfl (by decide +kernel)
set_option maxRecDepth 20000 in
theorem gX2_take_X2_correct : GoodIn wsX2_take (wsV RX2 89 RX2 yX2_correct wsX2_correct) := goodIn_app (goodIn_of _ (by decide +kernel)) ggX2_take_X2_correct
theorem dX2_take_0 : decode cX2_take 0 = .ok (.aload_n 0, 1) := by decide +kernel
theorem dX2_take_1 : decode cX2_take 1 = .ok (.aload_n 1, 1) := by decide +kernel
theorem dX2_take_2 : decode cX2_take 2 = .ok (.getfield 60, 3) := by decide +kernel
theorem dX2_take_5 : decode cX2_take 5 = .ok (.invokevirtual 66, 3) := by decide +kernel
theorem dX2_take_8 : decode cX2_take 8 = .ok (.aload_n 0, 1) := by decide +kernel
theorem dX2_take_9 : decode cX2_take 9 = .ok (.getfield 57, 3) := by decide +kernel
theorem dX2_take_12 : decode cX2_take 12 = .ok (.ifCond .ne 5, 3) := by decide +kernel
theorem dX2_take_15 : decode cX2_take 15 = .ok (.iconst 0, 1) := by decide +kernel
theorem dX2_take_16 : decode cX2_take 16 = .ok (.ireturn, 1) := by decide +kernel
theorem dX2_take_17 : decode cX2_take 17 = .ok (.aload_n 0, 1) := by decide +kernel
theorem dX2_take_18 : decode cX2_take 18 = .ok (.aload_n 0, 1) := by decide +kernel
theorem dX2_take_19 : decode cX2_take 19 = .ok (.getfield 25, 3) := by decide +kernel
theorem dX2_take_22 : decode cX2_take 22 = .ok (.aload_n 0, 1) := by decide +kernel
theorem dX2_take_23 : decode cX2_take 23 = .ok (.getfield 12, 3) := by decide +kernel
theorem dX2_take_26 : decode cX2_take 26 = .ok (.getfield 51, 3) := by decide +kernel
theorem dX2_take_29 : decode cX2_take 29 = .ok (.aload_n 1, 1) := by decide +kernel
theorem dX2_take_30 : decode cX2_take 30 = .ok (.getfield 70, 3) := by decide +kernel
theorem dX2_take_33 : decode cX2_take 33 = .ok (.getfield 51, 3) := by decide +kernel
theorem dX2_take_36 : decode cX2_take 36 = .ok (.imul, 1) := by decide +kernel
theorem dX2_take_37 : decode cX2_take 37 = .ok (.aload_n 0, 1) := by decide +kernel
theorem dX2_take_38 : decode cX2_take 38 = .ok (.getfield 12, 3) := by decide +kernel
theorem dX2_take_41 : decode cX2_take 41 = .ok (.getfield 54, 3) := by decide +kernel
theorem dX2_take_44 : decode cX2_take 44 = .ok (.aload_n 1, 1) := by decide +kernel
theorem dX2_take_45 : decode cX2_take 45 = .ok (.getfield 70, 3) := by decide +kernel
theorem dX2_take_48 : decode cX2_take 48 = .ok (.getfield 54, 3) := by decide +kernel
theorem dX2_take_51 : decode cX2_take 51 = .ok (.imul, 1) := by decide +kernel
theorem dX2_take_52 : decode cX2_take 52 = .ok (.iadd, 1) := by decide +kernel
theorem dX2_take_53 : decode cX2_take 53 = .ok (.sipush 10007, 3) := by decide +kernel
theorem dX2_take_56 : decode cX2_take 56 = .ok (.irem, 1) := by decide +kernel
theorem dX2_take_57 : decode cX2_take 57 = .ok (.invokestatic 73, 3) := by decide +kernel
theorem dX2_take_60 : decode cX2_take 60 = .ok (.putfield 77, 3) := by decide +kernel
theorem dX2_take_63 : decode cX2_take 63 = .ok (.aload_n 0, 1) := by decide +kernel
theorem dX2_take_64 : decode cX2_take 64 = .ok (.aload_n 0, 1) := by decide +kernel
theorem dX2_take_65 : decode cX2_take 65 = .ok (.getfield 77, 3) := by decide +kernel
theorem dX2_take_68 : decode cX2_take 68 = .ok (.aload_n 0, 1) := by decide +kernel
theorem dX2_take_69 : decode cX2_take 69 = .ok (.getfield 77, 3) := by decide +kernel
theorem dX2_take_72 : decode cX2_take 72 = .ok (.imul, 1) := by decide +kernel
theorem dX2_take_73 : decode cX2_take 73 = .ok (.sipush 10007, 3) := by decide +kernel
theorem dX2_take_76 : decode cX2_take 76 = .ok (.irem, 1) := by decide +kernel
theorem dX2_take_77 : decode cX2_take 77 = .ok (.aload_n 0, 1) := by decide +kernel
theorem dX2_take_78 : decode cX2_take 78 = .ok (.getfield 57, 3) := by decide +kernel
theorem dX2_take_81 : decode cX2_take 81 = .ok (.invokestatic 80, 3) := by decide +kernel
theorem dX2_take_84 : decode cX2_take 84 = .ok (.putfield 83, 3) := by decide +kernel
theorem dX2_take_87 : decode cX2_take 87 = .ok (.aload_n 0, 1) := by decide +kernel
theorem dX2_take_88 : decode cX2_take 88 = .ok (.aload_n 0, 1) := by decide +kernel
theorem dX2_take_89 : decode cX2_take 89 = .ok (.getfield 83, 3) := by decide +kernel
theorem dX2_take_92 : decode cX2_take 92 = .ok (.aload_n 0, 1) := by decide +kernel
theorem dX2_take_93 : decode cX2_take 93 = .ok (.getfield 35, 3) := by decide +kernel
theorem dX2_take_96 : decode cX2_take 96 = .ok (.if_icmp .le 7, 3) := by decide +kernel
theorem dX2_take_99 : decode cX2_take 99 = .ok (.iconst 1, 1) := by decide +kernel
theorem dX2_take_100 : decode cX2_take 100 = .ok (.goto 4, 3) := by decide +kernel
theorem dX2_take_103 : decode cX2_take 103 = .ok (.iconst 0, 1) := by decide +kernel
theorem dX2_take_104 : decode cX2_take 104 = .ok (.putfield 86, 3) := by decide +kernel
theorem dX2_take_107 : decode cX2_take 107 = .ok (.aload_n 0, 1) := by decide +kernel
theorem dX2_take_108 : decode cX2_take 108 = .ok (.getfield 86, 3) := by decide +kernel
theorem dX2_take_111 : decode cX2_take 111 = .ok (.ifCond .ne 8, 3) := by decide +kernel
theorem dX2_take_114 : decode cX2_take 114 = .ok (.aload_n 0, 1) := by decide +kernel
theorem dX2_take_115 : decode cX2_take 115 = .ok (.aload_n 1, 1) := by decide +kernel
theorem dX2_take_116 : decode cX2_take 116 = .ok (.invokevirtual 89, 3) := by decide +kernel
theorem dX2_take_119 : decode cX2_take 119 = .ok (.iconst 1, 1) := by decide +kernel
theorem dX2_take_120 : decode cX2_take 120 = .ok (.ireturn, 1) := by decide +kernel
set_option maxRecDepth 20000 in
theorem ggX2_correct_X6_inverse : GoodIn wsX2_correct wsX6_inverse := goodIn_r _ [10] rfl (by decide +kernel)
set_option maxRecDepth 20000 in
theorem gX2_correct_X6_inverse_n93 : GoodIn wsX2_correct (wsX6_inverse) := ggX2_correct_X6_inverse
set_option maxRecDepth 20000 in
theorem ggX2_correct_X0_set : GoodIn wsX2_correct wsX0_set := goodIn_r _ [15, 16, 17, 51, 52] rfl (by decide +kernel)
set_option maxRecDepth 20000 in
theorem gX2_correct_X0_set : GoodIn wsX2_correct (wsV RX2 21 RX0 yX0_set wsX0_set) := goodIn_app (goodIn_of _ (by decide +kernel)) ggX2_correct_X0_set
set_option maxRecDepth 20000 in
theorem ggX2_correct_X6_less : GoodIn wsX2_correct wsX6_less := goodIn_r _ [19, 20, 21, 22, 23] rfl (by decide +kernel)
set_option maxRecDepth 20000 in
theorem gX2_correct_X6_less_n73 : GoodIn wsX2_correct (wsX6_less) := ggX2_correct_X6_less
set_option maxRecDepth 20000 in
theorem ggX2_correct_X5_addSquare : GoodIn wsX2_correct wsX5_addSquare := goodIn_r _ [28, 29, 30, 31, 32, 33, 34, 35, 36, 27, 37, 51, 52, 53, 54, 55] rfl (by decide +kernel)
set_option maxRecDepth 20000 in
theorem gX2_correct_X5_addSquare : GoodIn wsX2_correct (wsV RX2 97 RX5 yX5_addSquare wsX5_addSquare) := goodIn_app (goodIn_of _ (by decide +kernel)) ggX2_correct_X5_addSquare
theorem dX2_correct_0 : decode cX2_correct 0 = .ok (.aload_n 0, 1) := by decide +kernel
theorem dX2_correct_1 : decode cX2_correct 1 = .ok (.getfield 57, 3) := by decide +kernel
theorem dX2_correct_4 : decode cX2_correct 4 = .ok (.invokestatic 93, 3) := by decide +kernel
theorem dX2_correct_7 : decode cX2_correct 7 = .ok (.istore_n 2, 1) := by decide +kernel
theorem dX2_correct_8 : decode cX2_correct 8 = .ok (.aload_n 0, 1) := by decide +kernel
theorem dX2_correct_9 : decode cX2_correct 9 = .ok (.getfield 77, 3) := by decide +kernel
theorem dX2_correct_12 : decode cX2_correct 12 = .ok (.iload_n 2, 1) := by decide +kernel
theorem dX2_correct_13 : decode cX2_correct 13 = .ok (.imul, 1) := by decide +kernel
theorem dX2_correct_14 : decode cX2_correct 14 = .ok (.sipush 10007, 3) := by decide +kernel
theorem dX2_correct_17 : decode cX2_correct 17 = .ok (.irem, 1) := by decide +kernel
theorem dX2_correct_18 : decode cX2_correct 18 = .ok (.istore_n 3, 1) := by decide +kernel
theorem dX2_correct_19 : decode cX2_correct 19 = .ok (.aload_n 1, 1) := by decide +kernel
theorem dX2_correct_20 : decode cX2_correct 20 = .ok (.getfield 70, 3) := by decide +kernel
theorem dX2_correct_23 : decode cX2_correct 23 = .ok (.astore 4, 2) := by decide +kernel
theorem dX2_correct_25 : decode cX2_correct 25 = .ok (.aload 4, 2) := by decide +kernel
theorem dX2_correct_27 : decode cX2_correct 27 = .ok (.aload 4, 2) := by decide +kernel
theorem dX2_correct_29 : decode cX2_correct 29 = .ok (.getfield 51, 3) := by decide +kernel
theorem dX2_correct_32 : decode cX2_correct 32 = .ok (.aload_n 0, 1) := by decide +kernel
theorem dX2_correct_33 : decode cX2_correct 33 = .ok (.getfield 18, 3) := by decide +kernel
theorem dX2_correct_36 : decode cX2_correct 36 = .ok (.getfield 51, 3) := by decide +kernel
theorem dX2_correct_39 : decode cX2_correct 39 = .ok (.iload_n 3, 1) := by decide +kernel
theorem dX2_correct_40 : decode cX2_correct 40 = .ok (.imul, 1) := by decide +kernel
theorem dX2_correct_41 : decode cX2_correct 41 = .ok (.iadd, 1) := by decide +kernel
theorem dX2_correct_42 : decode cX2_correct 42 = .ok (.sipush 10007, 3) := by decide +kernel
theorem dX2_correct_45 : decode cX2_correct 45 = .ok (.irem, 1) := by decide +kernel
theorem dX2_correct_46 : decode cX2_correct 46 = .ok (.aload 4, 2) := by decide +kernel
theorem dX2_correct_48 : decode cX2_correct 48 = .ok (.getfield 54, 3) := by decide +kernel
theorem dX2_correct_51 : decode cX2_correct 51 = .ok (.aload_n 0, 1) := by decide +kernel
theorem dX2_correct_52 : decode cX2_correct 52 = .ok (.getfield 18, 3) := by decide +kernel
theorem dX2_correct_55 : decode cX2_correct 55 = .ok (.getfield 54, 3) := by decide +kernel
theorem dX2_correct_58 : decode cX2_correct 58 = .ok (.iload_n 3, 1) := by decide +kernel
theorem dX2_correct_59 : decode cX2_correct 59 = .ok (.imul, 1) := by decide +kernel
theorem dX2_correct_60 : decode cX2_correct 60 = .ok (.iadd, 1) := by decide +kernel
theorem dX2_correct_61 : decode cX2_correct 61 = .ok (.sipush 10007, 3) := by decide +kernel
theorem dX2_correct_64 : decode cX2_correct 64 = .ok (.irem, 1) := by decide +kernel
theorem dX2_correct_65 : decode cX2_correct 65 = .ok (.invokevirtual 21, 3) := by decide +kernel
theorem dX2_correct_68 : decode cX2_correct 68 = .ok (.aload_n 1, 1) := by decide +kernel
theorem dX2_correct_69 : decode cX2_correct 69 = .ok (.getfield 60, 3) := by decide +kernel
theorem dX2_correct_72 : decode cX2_correct 72 = .ok (.aload_n 0, 1) := by decide +kernel
theorem dX2_correct_73 : decode cX2_correct 73 = .ok (.getfield 18, 3) := by decide +kernel
theorem dX2_correct_76 : decode cX2_correct 76 = .ok (.iconst 0, 1) := by decide +kernel
theorem dX2_correct_77 : decode cX2_correct 77 = .ok (.iload_n 2, 1) := by decide +kernel
theorem dX2_correct_78 : decode cX2_correct 78 = .ok (.invokestatic 73, 3) := by decide +kernel
theorem dX2_correct_81 : decode cX2_correct 81 = .ok (.invokevirtual 97, 3) := by decide +kernel
theorem dX2_correct_84 : decode cX2_correct 84 = .ok (.return_, 1) := by decide +kernel
set_option maxRecDepth 20000 in
theorem ggX2_inform_X6_inverse : GoodIn wsX2_inform wsX6_inverse := goodIn_r _ [10] rfl (by decide +kernel)
set_option maxRecDepth 20000 in
theorem gX2_inform_X6_inverse_n93 : GoodIn wsX2_inform (wsX6_inverse) := ggX2_inform_X6_inverse
set_option maxRecDepth 20000 in
theorem ggX2_inform_X5_addSquare : GoodIn wsX2_inform wsX5_addSquare := goodIn_r _ [15, 16, 17, 18, 19, 20, 21, 22, 23, 14, 24, 45, 46, 47, 48, 49] rfl (by decide +kernel)
set_option maxRecDepth 20000 in
theorem gX2_inform_X5_addSquare : GoodIn wsX2_inform (wsV RX2 97 RX5 yX5_addSquare wsX5_addSquare) := goodIn_app (goodIn_of _ (by decide +kernel)) ggX2_inform_X5_addSquare
set_option maxRecDepth 20000 in
theorem ggX2_inform_X0_set : GoodIn wsX2_inform wsX0_set := goodIn_r _ [29, 30, 31, 45, 46] rfl (by decide +kernel)
set_option maxRecDepth 20000 in
theorem gX2_inform_X0_set : GoodIn wsX2_inform (wsV RX2 21 RX0 yX0_set wsX0_set) := goodIn_app (goodIn_of _ (by decide +kernel)) ggX2_inform_X0_set
theorem dX2_inform_0 : decode cX2_inform 0 = .ok (.aload_n 0, 1) := by decide +kernel
theorem dX2_inform_1 : decode cX2_inform 1 = .ok (.getfield 29, 3) := by decide +kernel
theorem dX2_inform_4 : decode cX2_inform 4 = .ok (.ifCond .ne 5, 3) := by decide +kernel
theorem dX2_inform_7 : decode cX2_inform 7 = .ok (.iconst 0, 1) := by decide +kernel
theorem dX2_inform_8 : decode cX2_inform 8 = .ok (.ireturn, 1) := by decide +kernel
theorem dX2_inform_9 : decode cX2_inform 9 = .ok (.aload_n 0, 1) := by decide +kernel
theorem dX2_inform_10 : decode cX2_inform 10 = .ok (.getfield 29, 3) := by decide +kernel
theorem dX2_inform_13 : decode cX2_inform 13 = .ok (.invokestatic 93, 3) := by decide +kernel
theorem dX2_inform_16 : decode cX2_inform 16 = .ok (.istore_n 2, 1) := by decide +kernel
theorem dX2_inform_17 : decode cX2_inform 17 = .ok (.aload_n 0, 1) := by decide +kernel
theorem dX2_inform_18 : decode cX2_inform 18 = .ok (.getfield 25, 3) := by decide +kernel
theorem dX2_inform_21 : decode cX2_inform 21 = .ok (.iload_n 2, 1) := by decide +kernel
theorem dX2_inform_22 : decode cX2_inform 22 = .ok (.imul, 1) := by decide +kernel
theorem dX2_inform_23 : decode cX2_inform 23 = .ok (.sipush 10007, 3) := by decide +kernel
theorem dX2_inform_26 : decode cX2_inform 26 = .ok (.irem, 1) := by decide +kernel
theorem dX2_inform_27 : decode cX2_inform 27 = .ok (.istore_n 3, 1) := by decide +kernel
theorem dX2_inform_28 : decode cX2_inform 28 = .ok (.aload_n 1, 1) := by decide +kernel
theorem dX2_inform_29 : decode cX2_inform 29 = .ok (.getfield 70, 3) := by decide +kernel
theorem dX2_inform_32 : decode cX2_inform 32 = .ok (.astore 4, 2) := by decide +kernel
theorem dX2_inform_34 : decode cX2_inform 34 = .ok (.aload_n 1, 1) := by decide +kernel
theorem dX2_inform_35 : decode cX2_inform 35 = .ok (.getfield 60, 3) := by decide +kernel
theorem dX2_inform_38 : decode cX2_inform 38 = .ok (.aload_n 0, 1) := by decide +kernel
theorem dX2_inform_39 : decode cX2_inform 39 = .ok (.getfield 12, 3) := by decide +kernel
theorem dX2_inform_42 : decode cX2_inform 42 = .ok (.iload_n 2, 1) := by decide +kernel
theorem dX2_inform_43 : decode cX2_inform 43 = .ok (.invokevirtual 97, 3) := by decide +kernel
theorem dX2_inform_46 : decode cX2_inform 46 = .ok (.aload 4, 2) := by decide +kernel
theorem dX2_inform_48 : decode cX2_inform 48 = .ok (.aload 4, 2) := by decide +kernel
theorem dX2_inform_50 : decode cX2_inform 50 = .ok (.getfield 51, 3) := by decide +kernel
theorem dX2_inform_53 : decode cX2_inform 53 = .ok (.aload_n 0, 1) := by decide +kernel
theorem dX2_inform_54 : decode cX2_inform 54 = .ok (.getfield 12, 3) := by decide +kernel
theorem dX2_inform_57 : decode cX2_inform 57 = .ok (.getfield 51, 3) := by decide +kernel
theorem dX2_inform_60 : decode cX2_inform 60 = .ok (.iload_n 3, 1) := by decide +kernel
theorem dX2_inform_61 : decode cX2_inform 61 = .ok (.imul, 1) := by decide +kernel
theorem dX2_inform_62 : decode cX2_inform 62 = .ok (.iadd, 1) := by decide +kernel
theorem dX2_inform_63 : decode cX2_inform 63 = .ok (.sipush 10007, 3) := by decide +kernel
theorem dX2_inform_66 : decode cX2_inform 66 = .ok (.irem, 1) := by decide +kernel
theorem dX2_inform_67 : decode cX2_inform 67 = .ok (.aload 4, 2) := by decide +kernel
theorem dX2_inform_69 : decode cX2_inform 69 = .ok (.getfield 54, 3) := by decide +kernel
theorem dX2_inform_72 : decode cX2_inform 72 = .ok (.aload_n 0, 1) := by decide +kernel
theorem dX2_inform_73 : decode cX2_inform 73 = .ok (.getfield 12, 3) := by decide +kernel
theorem dX2_inform_76 : decode cX2_inform 76 = .ok (.getfield 54, 3) := by decide +kernel
theorem dX2_inform_79 : decode cX2_inform 79 = .ok (.iload_n 3, 1) := by decide +kernel
theorem dX2_inform_80 : decode cX2_inform 80 = .ok (.imul, 1) := by decide +kernel
theorem dX2_inform_81 : decode cX2_inform 81 = .ok (.iadd, 1) := by decide +kernel
theorem dX2_inform_82 : decode cX2_inform 82 = .ok (.sipush 10007, 3) := by decide +kernel
theorem dX2_inform_85 : decode cX2_inform 85 = .ok (.irem, 1) := by decide +kernel
theorem dX2_inform_86 : decode cX2_inform 86 = .ok (.invokevirtual 21, 3) := by decide +kernel
theorem dX2_inform_89 : decode cX2_inform 89 = .ok (.iconst 1, 1) := by decide +kernel
theorem dX2_inform_90 : decode cX2_inform 90 = .ok (.ireturn, 1) := by decide +kernel
set_option maxRecDepth 20000 in
theorem ggX3_init_X5_init : GoodIn wsX3_init wsX5_init := goodIn_r _ [9, 10, 2, 3] rfl (by decide +kernel)
set_option maxRecDepth 20000 in
theorem gX3_init_X5_init_n11 : GoodIn wsX3_init (wsX5_init) := ggX3_init_X5_init
theorem dX3_init_0 : decode cX3_init 0 = .ok (.aload_n 0, 1) := by decide +kernel
theorem dX3_init_1 : decode cX3_init 1 = .ok (.invokespecial 3, 3) := by decide +kernel
theorem dX3_init_4 : decode cX3_init 4 = .ok (.aload_n 0, 1) := by decide +kernel
theorem dX3_init_5 : decode cX3_init 5 = .ok (.new 9, 3) := by decide +kernel
theorem dX3_init_8 : decode cX3_init 8 = .ok (.dup, 1) := by decide +kernel
theorem dX3_init_9 : decode cX3_init 9 = .ok (.invokespecial 11, 3) := by decide +kernel
theorem dX3_init_12 : decode cX3_init 12 = .ok (.putfield 12, 3) := by decide +kernel
theorem dX3_init_15 : decode cX3_init 15 = .ok (.return_, 1) := by decide +kernel
set_option maxRecDepth 20000 in
theorem ggX3_read_X3_setF : GoodIn wsX3_read wsX3_setF := goodIn_r _ [6, 7, 8, 9, 10, 19, 20, 21, 22, 23] rfl (by decide +kernel)
set_option maxRecDepth 20000 in
theorem gX3_read_X3_setF : GoodIn wsX3_read (wsV RX3 18 RX3 yX3_setF wsX3_setF) := goodIn_app (goodIn_of _ (by decide +kernel)) ggX3_read_X3_setF
set_option maxRecDepth 20000 in
theorem ggX3_read_X5_set : GoodIn wsX3_read wsX5_set := goodIn_r _ [15, 16, 17, 18, 24, 25, 26] rfl (by decide +kernel)
set_option maxRecDepth 20000 in
theorem gX3_read_X5_set : GoodIn wsX3_read (wsV RX3 22 RX5 yX5_set wsX5_set) := goodIn_app (goodIn_of _ (by decide +kernel)) ggX3_read_X5_set
theorem dX3_read_0 : decode cX3_read 0 = .ok (.aload_n 0, 1) := by decide +kernel
theorem dX3_read_1 : decode cX3_read 1 = .ok (.aload_n 1, 1) := by decide +kernel
theorem dX3_read_2 : decode cX3_read 2 = .ok (.iconst 0, 1) := by decide +kernel
theorem dX3_read_3 : decode cX3_read 3 = .ok (.iaload, 1) := by decide +kernel
theorem dX3_read_4 : decode cX3_read 4 = .ok (.aload_n 1, 1) := by decide +kernel
theorem dX3_read_5 : decode cX3_read 5 = .ok (.iconst 1, 1) := by decide +kernel
theorem dX3_read_6 : decode cX3_read 6 = .ok (.iaload, 1) := by decide +kernel
theorem dX3_read_7 : decode cX3_read 7 = .ok (.aload_n 1, 1) := by decide +kernel
theorem dX3_read_8 : decode cX3_read 8 = .ok (.iconst 2, 1) := by decide +kernel
theorem dX3_read_9 : decode cX3_read 9 = .ok (.iaload, 1) := by decide +kernel
theorem dX3_read_10 : decode cX3_read 10 = .ok (.aload_n 1, 1) := by decide +kernel
theorem dX3_read_11 : decode cX3_read 11 = .ok (.iconst 3, 1) := by decide +kernel
theorem dX3_read_12 : decode cX3_read 12 = .ok (.iaload, 1) := by decide +kernel
theorem dX3_read_13 : decode cX3_read 13 = .ok (.invokevirtual 18, 3) := by decide +kernel
theorem dX3_read_16 : decode cX3_read 16 = .ok (.aload_n 0, 1) := by decide +kernel
theorem dX3_read_17 : decode cX3_read 17 = .ok (.getfield 12, 3) := by decide +kernel
theorem dX3_read_20 : decode cX3_read 20 = .ok (.aload_n 1, 1) := by decide +kernel
theorem dX3_read_21 : decode cX3_read 21 = .ok (.iconst 4, 1) := by decide +kernel
theorem dX3_read_22 : decode cX3_read 22 = .ok (.iaload, 1) := by decide +kernel
theorem dX3_read_23 : decode cX3_read 23 = .ok (.aload_n 1, 1) := by decide +kernel
theorem dX3_read_24 : decode cX3_read 24 = .ok (.iconst 5, 1) := by decide +kernel
theorem dX3_read_25 : decode cX3_read 25 = .ok (.iaload, 1) := by decide +kernel
theorem dX3_read_26 : decode cX3_read 26 = .ok (.aload_n 1, 1) := by decide +kernel
theorem dX3_read_27 : decode cX3_read 27 = .ok (.bipush 6, 2) := by decide +kernel
theorem dX3_read_29 : decode cX3_read 29 = .ok (.iaload, 1) := by decide +kernel
theorem dX3_read_30 : decode cX3_read 30 = .ok (.invokevirtual 22, 3) := by decide +kernel
theorem dX3_read_33 : decode cX3_read 33 = .ok (.return_, 1) := by decide +kernel
theorem dX3_setF_0 : decode cX3_setF 0 = .ok (.aload_n 0, 1) := by decide +kernel
theorem dX3_setF_1 : decode cX3_setF 1 = .ok (.iload_n 1, 1) := by decide +kernel
theorem dX3_setF_2 : decode cX3_setF 2 = .ok (.putfield 26, 3) := by decide +kernel
theorem dX3_setF_5 : decode cX3_setF 5 = .ok (.aload_n 0, 1) := by decide +kernel
theorem dX3_setF_6 : decode cX3_setF 6 = .ok (.iload_n 2, 1) := by decide +kernel
theorem dX3_setF_7 : decode cX3_setF 7 = .ok (.putfield 30, 3) := by decide +kernel
theorem dX3_setF_10 : decode cX3_setF 10 = .ok (.aload_n 0, 1) := by decide +kernel
theorem dX3_setF_11 : decode cX3_setF 11 = .ok (.iload_n 3, 1) := by decide +kernel
theorem dX3_setF_12 : decode cX3_setF 12 = .ok (.putfield 33, 3) := by decide +kernel
theorem dX3_setF_15 : decode cX3_setF 15 = .ok (.aload_n 0, 1) := by decide +kernel
theorem dX3_setF_16 : decode cX3_setF 16 = .ok (.iload 4, 2) := by decide +kernel
theorem dX3_setF_18 : decode cX3_setF 18 = .ok (.putfield 36, 3) := by decide +kernel
theorem dX3_setF_21 : decode cX3_setF 21 = .ok (.return_, 1) := by decide +kernel
set_option maxRecDepth 20000 in
theorem ggX3_copy_X3_setF : GoodIn wsX3_copy wsX3_setF := goodIn_r _ [10, 1, 2, 3, 4, 23, 24, 25, 26, 27] rfl (by decide +kernel)
set_option maxRecDepth 20000 in
theorem gX3_copy_X3_setF : GoodIn wsX3_copy (wsV RX3 18 RX3 yX3_setF wsX3_setF) := goodIn_app (goodIn_of _ (by decide +kernel)) ggX3_copy_X3_setF
set_option maxRecDepth 20000 in
theorem ggX3_copy_X5_copy : GoodIn wsX3_copy wsX5_copy := goodIn_r _ [15, 16, 17, 18, 19, 20, 21, 14, 22, 28, 29, 30] rfl (by decide +kernel)
set_option maxRecDepth 20000 in
theorem gX3_copy_X5_copy : GoodIn wsX3_copy (wsV RX3 39 RX5 yX5_copy wsX5_copy) := goodIn_app (goodIn_of _ (by decide +kernel)) ggX3_copy_X5_copy
theorem dX3_copy_0 : decode cX3_copy 0 = .ok (.aload_n 0, 1) := by decide +kernel
theorem dX3_copy_1 : decode cX3_copy 1 = .ok (.aload_n 1, 1) := by decide +kernel
theorem dX3_copy_2 : decode cX3_copy 2 = .ok (.getfield 26, 3) := by decide +kernel
theorem dX3_copy_5 : decode cX3_copy 5 = .ok (.aload_n 1, 1) := by decide +kernel
theorem dX3_copy_6 : decode cX3_copy 6 = .ok (.getfield 30, 3) := by decide +kernel
theorem dX3_copy_9 : decode cX3_copy 9 = .ok (.aload_n 1, 1) := by decide +kernel
theorem dX3_copy_10 : decode cX3_copy 10 = .ok (.getfield 33, 3) := by decide +kernel
theorem dX3_copy_13 : decode cX3_copy 13 = .ok (.aload_n 1, 1) := by decide +kernel
theorem dX3_copy_14 : decode cX3_copy 14 = .ok (.getfield 36, 3) := by decide +kernel
theorem dX3_copy_17 : decode cX3_copy 17 = .ok (.invokevirtual 18, 3) := by decide +kernel
theorem dX3_copy_20 : decode cX3_copy 20 = .ok (.aload_n 0, 1) := by decide +kernel
theorem dX3_copy_21 : decode cX3_copy 21 = .ok (.getfield 12, 3) := by decide +kernel
theorem dX3_copy_24 : decode cX3_copy 24 = .ok (.aload_n 1, 1) := by decide +kernel
theorem dX3_copy_25 : decode cX3_copy 25 = .ok (.getfield 12, 3) := by decide +kernel
theorem dX3_copy_28 : decode cX3_copy 28 = .ok (.invokevirtual 39, 3) := by decide +kernel
theorem dX3_copy_31 : decode cX3_copy 31 = .ok (.return_, 1) := by decide +kernel
set_option maxRecDepth 20000 in
theorem ggX3_move_X0_set : GoodIn wsX3_move wsX0_set := goodIn_r _ [13, 14, 15, 40, 41] rfl (by decide +kernel)
set_option maxRecDepth 20000 in
theorem gX3_move_X0_set : GoodIn wsX3_move (wsV RX3 57 RX0 yX0_set wsX0_set) := goodIn_app (goodIn_of _ (by decide +kernel)) ggX3_move_X0_set
set_option maxRecDepth 20000 in
theorem ggX3_move_X3_spread : GoodIn wsX3_move wsX3_spread := goodIn_r _ [20, 2, 21, 4, 22, 23, 6, 7, 24, 25, 26, 27, 28, 29, 30, 31, 32, 35, 36, 37, 38, 39, 42, 43, 44] rfl (by decide +kernel)
set_option maxRecDepth 20000 in
theorem gX3_move_X3_spread : GoodIn wsX3_move (wsV RX3 63 RX3 yX3_spread wsX3_spread) := goodIn_app (goodIn_of _ (by decide +kernel)) ggX3_move_X3_spread
theorem dX3_move_0 : decode cX3_move 0 = .ok (.aload_n 1, 1) := by decide +kernel
theorem dX3_move_1 : decode cX3_move 1 = .ok (.getfield 43, 3) := by decide +kernel
theorem dX3_move_4 : decode cX3_move 4 = .ok (.astore_n 2, 1) := by decide +kernel
theorem dX3_move_5 : decode cX3_move 5 = .ok (.aload_n 2, 1) := by decide +kernel
theorem dX3_move_6 : decode cX3_move 6 = .ok (.aload_n 0, 1) := by decide +kernel
theorem dX3_move_7 : decode cX3_move 7 = .ok (.getfield 26, 3) := by decide +kernel
theorem dX3_move_10 : decode cX3_move 10 = .ok (.aload_n 2, 1) := by decide +kernel
theorem dX3_move_11 : decode cX3_move 11 = .ok (.getfield 49, 3) := by decide +kernel
theorem dX3_move_14 : decode cX3_move 14 = .ok (.imul, 1) := by decide +kernel
theorem dX3_move_15 : decode cX3_move 15 = .ok (.aload_n 0, 1) := by decide +kernel
theorem dX3_move_16 : decode cX3_move 16 = .ok (.getfield 30, 3) := by decide +kernel
theorem dX3_move_19 : decode cX3_move 19 = .ok (.aload_n 2, 1) := by decide +kernel
theorem dX3_move_20 : decode cX3_move 20 = .ok (.getfield 54, 3) := by decide +kernel
theorem dX3_move_23 : decode cX3_move 23 = .ok (.imul, 1) := by decide +kernel
theorem dX3_move_24 : decode cX3_move 24 = .ok (.iadd, 1) := by decide +kernel
theorem dX3_move_25 : decode cX3_move 25 = .ok (.sipush 10007, 3) := by decide +kernel
theorem dX3_move_28 : decode cX3_move 28 = .ok (.irem, 1) := by decide +kernel
theorem dX3_move_29 : decode cX3_move 29 = .ok (.aload_n 0, 1) := by decide +kernel
theorem dX3_move_30 : decode cX3_move 30 = .ok (.getfield 33, 3) := by decide +kernel
theorem dX3_move_33 : decode cX3_move 33 = .ok (.aload_n 2, 1) := by decide +kernel
theorem dX3_move_34 : decode cX3_move 34 = .ok (.getfield 49, 3) := by decide +kernel
theorem dX3_move_37 : decode cX3_move 37 = .ok (.imul, 1) := by decide +kernel
theorem dX3_move_38 : decode cX3_move 38 = .ok (.aload_n 0, 1) := by decide +kernel
theorem dX3_move_39 : decode cX3_move 39 = .ok (.getfield 36, 3) := by decide +kernel
theorem dX3_move_42 : decode cX3_move 42 = .ok (.aload_n 2, 1) := by decide +kernel
theorem dX3_move_43 : decode cX3_move 43 = .ok (.getfield 54, 3) := by decide +kernel
theorem dX3_move_46 : decode cX3_move 46 = .ok (.imul, 1) := by decide +kernel
theorem dX3_move_47 : decode cX3_move 47 = .ok (.iadd, 1) := by decide +kernel
theorem dX3_move_48 : decode cX3_move 48 = .ok (.sipush 10007, 3) := by decide +kernel
theorem dX3_move_51 : decode cX3_move 51 = .ok (.irem, 1) := by decide +kernel
theorem dX3_move_52 : decode cX3_move 52 = .ok (.invokevirtual 57, 3) := by decide +kernel
theorem dX3_move_55 : decode cX3_move 55 = .ok (.aload_n 0, 1) := by decide +kernel
theorem dX3_move_56 : decode cX3_move 56 = .ok (.aload_n 1, 1) := by decide +kernel
theorem dX3_move_57 : decode cX3_move 57 = .ok (.getfield 60, 3) := by decide +kernel
theorem dX3_move_60 : decode cX3_move 60 = .ok (.invokevirtual 63, 3) := by decide +kernel
theorem dX3_move_63 : decode cX3_move 63 = .ok (.return_, 1) := by decide +kernel
set_option maxRecDepth 20000 in
theorem ggX3_spread_X5_set : GoodIn wsX3_spread wsX5_set := goodIn_r _ [13, 14, 15, 16, 22, 23, 24] rfl (by decide +kernel)
set_option maxRecDepth 20000 in
theorem gX3_spread_X5_set : GoodIn wsX3_spread (wsV RX3 22 RX5 yX5_set wsX5_set) := goodIn_app (goodIn_of _ (by decide +kernel)) ggX3_spread_X5_set
theorem dX3_spread_0 : decode cX3_spread 0 = .ok (.aload_n 0, 1) := by decide +kernel
theorem dX3_spread_1 : decode cX3_spread 1 = .ok (.getfield 26, 3) := by decide +kernel
theorem dX3_spread_4 : decode cX3_spread 4 = .ok (.aload_n 1, 1) := by decide +kernel
theorem dX3_spread_5 : decode cX3_spread 5 = .ok (.getfield 66, 3) := by decide +kernel
theorem dX3_spread_8 : decode cX3_spread 8 = .ok (.imul, 1) := by decide +kernel
theorem dX3_spread_9 : decode cX3_spread 9 = .ok (.aload_n 0, 1) := by decide +kernel
theorem dX3_spread_10 : decode cX3_spread 10 = .ok (.getfield 30, 3) := by decide +kernel
theorem dX3_spread_13 : decode cX3_spread 13 = .ok (.aload_n 1, 1) := by decide +kernel
theorem dX3_spread_14 : decode cX3_spread 14 = .ok (.getfield 69, 3) := by decide +kernel
theorem dX3_spread_17 : decode cX3_spread 17 = .ok (.imul, 1) := by decide +kernel
theorem dX3_spread_18 : decode cX3_spread 18 = .ok (.iadd, 1) := by decide +kernel
theorem dX3_spread_19 : decode cX3_spread 19 = .ok (.sipush 10007, 3) := by decide +kernel
theorem dX3_spread_22 : decode cX3_spread 22 = .ok (.irem, 1) := by decide +kernel
theorem dX3_spread_23 : decode cX3_spread 23 = .ok (.istore_n 2, 1) := by decide +kernel
theorem dX3_spread_24 : decode cX3_spread 24 = .ok (.aload_n 0, 1) := by decide +kernel
theorem dX3_spread_25 : decode cX3_spread 25 = .ok (.getfield 26, 3) := by decide +kernel
theorem dX3_spread_28 : decode cX3_spread 28 = .ok (.aload_n 1, 1) := by decide +kernel
theorem dX3_spread_29 : decode cX3_spread 29 = .ok (.getfield 69, 3) := by decide +kernel
theorem dX3_spread_32 : decode cX3_spread 32 = .ok (.imul, 1) := by decide +kernel
theorem dX3_spread_33 : decode cX3_spread 33 = .ok (.aload_n 0, 1) := by decide +kernel
theorem dX3_spread_34 : decode cX3_spread 34 = .ok (.getfield 30, 3) := by decide +kernel
theorem dX3_spread_37 : decode cX3_spread 37 = .ok (.aload_n 1, 1) := by decide +kernel
theorem dX3_spread_38 : decode cX3_spread 38 = .ok (.getfield 72, 3) := by decide +kernel
theorem dX3_spread_41 : decode cX3_spread 41 = .ok (.imul, 1) := by decide +kernel
theorem dX3_spread_42 : decode cX3_spread 42 = .ok (.iadd, 1) := by decide +kernel
theorem dX3_spread_43 : decode cX3_spread 43 = .ok (.sipush 10007, 3) := by decide +kernel
theorem dX3_spread_46 : decode cX3_spread 46 = .ok (.irem, 1) := by decide +kernel
theorem dX3_spread_47 : decode cX3_spread 47 = .ok (.istore_n 3, 1) := by decide +kernel
theorem dX3_spread_48 : decode cX3_spread 48 = .ok (.aload_n 0, 1) := by decide +kernel
theorem dX3_spread_49 : decode cX3_spread 49 = .ok (.getfield 33, 3) := by decide +kernel
theorem dX3_spread_52 : decode cX3_spread 52 = .ok (.aload_n 1, 1) := by decide +kernel
theorem dX3_spread_53 : decode cX3_spread 53 = .ok (.getfield 66, 3) := by decide +kernel
theorem dX3_spread_56 : decode cX3_spread 56 = .ok (.imul, 1) := by decide +kernel
theorem dX3_spread_57 : decode cX3_spread 57 = .ok (.aload_n 0, 1) := by decide +kernel
theorem dX3_spread_58 : decode cX3_spread 58 = .ok (.getfield 36, 3) := by decide +kernel
theorem dX3_spread_61 : decode cX3_spread 61 = .ok (.aload_n 1, 1) := by decide +kernel
theorem dX3_spread_62 : decode cX3_spread 62 = .ok (.getfield 69, 3) := by decide +kernel
theorem dX3_spread_65 : decode cX3_spread 65 = .ok (.imul, 1) := by decide +kernel
theorem dX3_spread_66 : decode cX3_spread 66 = .ok (.iadd, 1) := by decide +kernel
theorem dX3_spread_67 : decode cX3_spread 67 = .ok (.sipush 10007, 3) := by decide +kernel
theorem dX3_spread_70 : decode cX3_spread 70 = .ok (.irem, 1) := by decide +kernel
theorem dX3_spread_71 : decode cX3_spread 71 = .ok (.istore 4, 2) := by decide +kernel
theorem dX3_spread_73 : decode cX3_spread 73 = .ok (.aload_n 0, 1) := by decide +kernel
theorem dX3_spread_74 : decode cX3_spread 74 = .ok (.getfield 33, 3) := by decide +kernel
theorem dX3_spread_77 : decode cX3_spread 77 = .ok (.aload_n 1, 1) := by decide +kernel
theorem dX3_spread_78 : decode cX3_spread 78 = .ok (.getfield 69, 3) := by decide +kernel
theorem dX3_spread_81 : decode cX3_spread 81 = .ok (.imul, 1) := by decide +kernel
theorem dX3_spread_82 : decode cX3_spread 82 = .ok (.aload_n 0, 1) := by decide +kernel
theorem dX3_spread_83 : decode cX3_spread 83 = .ok (.getfield 36, 3) := by decide +kernel
theorem dX3_spread_86 : decode cX3_spread 86 = .ok (.aload_n 1, 1) := by decide +kernel
theorem dX3_spread_87 : decode cX3_spread 87 = .ok (.getfield 72, 3) := by decide +kernel
theorem dX3_spread_90 : decode cX3_spread 90 = .ok (.imul, 1) := by decide +kernel
theorem dX3_spread_91 : decode cX3_spread 91 = .ok (.iadd, 1) := by decide +kernel
theorem dX3_spread_92 : decode cX3_spread 92 = .ok (.sipush 10007, 3) := by decide +kernel
theorem dX3_spread_95 : decode cX3_spread 95 = .ok (.irem, 1) := by decide +kernel
theorem dX3_spread_96 : decode cX3_spread 96 = .ok (.istore 5, 2) := by decide +kernel
theorem dX3_spread_98 : decode cX3_spread 98 = .ok (.aload_n 1, 1) := by decide +kernel
theorem dX3_spread_99 : decode cX3_spread 99 = .ok (.iload_n 2, 1) := by decide +kernel
theorem dX3_spread_100 : decode cX3_spread 100 = .ok (.aload_n 0, 1) := by decide +kernel
theorem dX3_spread_101 : decode cX3_spread 101 = .ok (.getfield 26, 3) := by decide +kernel
theorem dX3_spread_104 : decode cX3_spread 104 = .ok (.imul, 1) := by decide +kernel
theorem dX3_spread_105 : decode cX3_spread 105 = .ok (.iload_n 3, 1) := by decide +kernel
theorem dX3_spread_106 : decode cX3_spread 106 = .ok (.aload_n 0, 1) := by decide +kernel
theorem dX3_spread_107 : decode cX3_spread 107 = .ok (.getfield 30, 3) := by decide +kernel
theorem dX3_spread_110 : decode cX3_spread 110 = .ok (.imul, 1) := by decide +kernel
theorem dX3_spread_111 : decode cX3_spread 111 = .ok (.iadd, 1) := by decide +kernel
theorem dX3_spread_112 : decode cX3_spread 112 = .ok (.aload_n 0, 1) := by decide +kernel
theorem dX3_spread_113 : decode cX3_spread 113 = .ok (.getfield 12, 3) := by decide +kernel
theorem dX3_spread_116 : decode cX3_spread 116 = .ok (.getfield 66, 3) := by decide +kernel
theorem dX3_spread_119 : decode cX3_spread 119 = .ok (.iadd, 1) := by decide +kernel
theorem dX3_spread_120 : decode cX3_spread 120 = .ok (.sipush 10007, 3) := by decide +kernel
theorem dX3_spread_123 : decode cX3_spread 123 = .ok (.irem, 1) := by decide +kernel
theorem dX3_spread_124 : decode cX3_spread 124 = .ok (.iload_n 2, 1) := by decide +kernel
theorem dX3_spread_125 : decode cX3_spread 125 = .ok (.aload_n 0, 1) := by decide +kernel
theorem dX3_spread_126 : decode cX3_spread 126 = .ok (.getfield 33, 3) := by decide +kernel
theorem dX3_spread_129 : decode cX3_spread 129 = .ok (.imul, 1) := by decide +kernel
theorem dX3_spread_130 : decode cX3_spread 130 = .ok (.iload_n 3, 1) := by decide +kernel
theorem dX3_spread_131 : decode cX3_spread 131 = .ok (.aload_n 0, 1) := by decide +kernel
theorem dX3_spread_132 : decode cX3_spread 132 = .ok (.getfield 36, 3) := by decide +kernel
theorem dX3_spread_135 : decode cX3_spread 135 = .ok (.imul, 1) := by decide +kernel
theorem dX3_spread_136 : decode cX3_spread 136 = .ok (.iadd, 1) := by decide +kernel
theorem dX3_spread_137 : decode cX3_spread 137 = .ok (.aload_n 0, 1) := by decide +kernel
theorem dX3_spread_138 : decode cX3_spread 138 = .ok (.getfield 12, 3) := by decide +kernel
theorem dX3_spread_141 : decode cX3_spread 141 = .ok (.getfield 69, 3) := by decide +kernel
theorem dX3_spread_144 : decode cX3_spread 144 = .ok (.iadd, 1) := by decide +kernel
theorem dX3_spread_145 : decode cX3_spread 145 = .ok (.sipush 10007, 3) := by decide +kernel
theorem dX3_spread_148 : decode cX3_spread 148 = .ok (.irem, 1) := by decide +kernel
theorem dX3_spread_149 : decode cX3_spread 149 = .ok (.iload 4, 2) := by decide +kernel
theorem dX3_spread_151 : decode cX3_spread 151 = .ok (.aload_n 0, 1) := by decide +kernel
theorem dX3_spread_152 : decode cX3_spread 152 = .ok (.getfield 33, 3) := by decide +kernel
theorem dX3_spread_155 : decode cX3_spread 155 = .ok (.imul, 1) := by decide +kernel
theorem dX3_spread_156 : decode cX3_spread 156 = .ok (.iload 5, 2) := by decide +kernel
theorem dX3_spread_158 : decode cX3_spread 158 = .ok (.aload_n 0, 1) := by decide +kernel
theorem dX3_spread_159 : decode cX3_spread 159 = .ok (.getfield 36, 3) := by decide +kernel
theorem dX3_spread_162 : decode cX3_spread 162 = .ok (.imul, 1) := by decide +kernel
theorem dX3_spread_163 : decode cX3_spread 163 = .ok (.iadd, 1) := by decide +kernel
theorem dX3_spread_164 : decode cX3_spread 164 = .ok (.aload_n 0, 1) := by decide +kernel
theorem dX3_spread_165 : decode cX3_spread 165 = .ok (.getfield 12, 3) := by decide +kernel
theorem dX3_spread_168 : decode cX3_spread 168 = .ok (.getfield 72, 3) := by decide +kernel
theorem dX3_spread_171 : decode cX3_spread 171 = .ok (.iadd, 1) := by decide +kernel
theorem dX3_spread_172 : decode cX3_spread 172 = .ok (.sipush 10007, 3) := by decide +kernel
theorem dX3_spread_175 : decode cX3_spread 175 = .ok (.irem, 1) := by decide +kernel
theorem dX3_spread_176 : decode cX3_spread 176 = .ok (.invokevirtual 22, 3) := by decide +kernel
theorem dX3_spread_179 : decode cX3_spread 179 = .ok (.return_, 1) := by decide +kernel
