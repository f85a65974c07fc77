/-! ===== BEGIN printed: names, fields, word lists, decode rows ===== -/
def RX0 : String := "TreeConfigurator$Deduction"
def TX0 : u_T := fun k => match k with
  | 0 => ("TreeConfigurator$Deduction", "reasons", "[C", true)
  | 1 => ("TreeConfigurator$Deduction", "reasonRules", "[I", true)
  | 2 => ("TreeConfigurator$Deduction", "in", "I", false)
  | _ => ("TreeConfigurator$Deduction", "out", "I", false)
def tyX0 : Nat → FieldType := fun k => match k with
  | 0 => .array .char
  | 1 => .array .int
  | 2 => .int
  | _ => .int
abbrev wsX00 : List Cond := u_ws RX0 TX0 4
theorem nmX0 : ∀ a, a < 4 → ∀ b, b < 4 → a ≠ b → (TX0 a).2.1 ≠ (TX0 b).2.1 := by decide +kernel
theorem tyX0_ok : ∀ k, k < 4 → parseFieldDescriptor (TX0 k).2.2.1 = some (tyX0 k) := by decide +kernel
abbrev cX0_init : ByteArray := prog_2_method_1_code
def yX0_init : MethodName := ⟨RX0, "<init>", "()V"⟩
abbrev cX0_run : ByteArray := prog_2_method_2_code
def yX0_run : MethodName := ⟨RX0, "run", "(LTreeConfigurator$Tree;LTreeConfigurator$Rules;II)V"⟩
abbrev cX0_knows : ByteArray := prog_2_method_3_code
def yX0_knows : MethodName := ⟨RX0, "knows", "(I)Z"⟩
abbrev cX0_learnLowest : ByteArray := prog_2_method_4_code
def yX0_learnLowest : MethodName := ⟨RX0, "learnLowest", "(LTreeConfigurator$Tree;LTreeConfigurator$Rules;)Z"⟩
abbrev cX0_learnByTree : ByteArray := prog_2_method_5_code
def yX0_learnByTree : MethodName := ⟨RX0, "learnByTree", "(LTreeConfigurator$Tree;I)Z"⟩
abbrev cX0_learnByRule : ByteArray := prog_2_method_6_code
def yX0_learnByRule : MethodName := ⟨RX0, "learnByRule", "(LTreeConfigurator$Rules;I)Z"⟩
abbrev cX0_learn : ByteArray := prog_2_method_7_code
def yX0_learn : MethodName := ⟨RX0, "learn", "(ICZ)V"⟩
abbrev cX0_letterByKin : ByteArray := prog_2_method_8_code
def yX0_letterByKin : MethodName := ⟨RX0, "letterByKin", "(LTreeConfigurator$Tree;I)C"⟩
abbrev cX0_letterByGroup : ByteArray := prog_2_method_9_code
def yX0_letterByGroup : MethodName := ⟨RX0, "letterByGroup", "(LTreeConfigurator$Tree;I)C"⟩
def RX1 : String := "TreeConfigurator$Line"
def TX1 : u_T := fun k => match k with
  | 0 => ("TreeConfigurator$Line", "signs", "[C", true)
  | _ => ("TreeConfigurator$Line", "length", "I", false)
def tyX1 : Nat → FieldType := fun k => match k with
  | 0 => .array .char
  | _ => .int
abbrev wsX10 : List Cond := u_ws RX1 TX1 2
theorem nmX1 : ∀ a, a < 2 → ∀ b, b < 2 → a ≠ b → (TX1 a).2.1 ≠ (TX1 b).2.1 := by decide +kernel
theorem tyX1_ok : ∀ k, k < 2 → parseFieldDescriptor (TX1 k).2.2.1 = some (tyX1 k) := by decide +kernel
abbrev cX1_init : ByteArray := prog_3_method_1_code
def yX1_init : MethodName := ⟨RX1, "<init>", "()V"⟩
def RX2 : String := "TreeConfigurator$Prices"
def TX2 : u_T := fun k => match k with
  | 0 => ("TreeConfigurator$Prices", "first", "[I", true)
  | 1 => ("TreeConfigurator$Prices", "kinds", "[I", true)
  | 2 => ("TreeConfigurator$Prices", "details", "[I", true)
  | 3 => ("TreeConfigurator$Prices", "amounts", "[I", true)
  | _ => ("TreeConfigurator$Prices", "added", "I", false)
def tyX2 : Nat → FieldType := fun k => match k with
  | 0 => .array .int
  | 1 => .array .int
  | 2 => .array .int
  | 3 => .array .int
  | _ => .int
abbrev wsX20 : List Cond := u_ws RX2 TX2 5
theorem nmX2 : ∀ a, a < 5 → ∀ b, b < 5 → a ≠ b → (TX2 a).2.1 ≠ (TX2 b).2.1 := by decide +kernel
theorem tyX2_ok : ∀ k, k < 5 → parseFieldDescriptor (TX2 k).2.2.1 = some (tyX2 k) := by decide +kernel
abbrev cX2_init : ByteArray := prog_4_method_1_code
def yX2_init : MethodName := ⟨RX2, "<init>", "()V"⟩
abbrev cX2_setFirst : ByteArray := prog_4_method_2_code
def yX2_setFirst : MethodName := ⟨RX2, "setFirst", "(II)V"⟩
def RX3 : String := "TreeConfigurator$Rules"
def TX3 : u_T := fun k => match k with
  | 0 => ("TreeConfigurator$Rules", "wanted", "[I", true)
  | 1 => ("TreeConfigurator$Rules", "unwanted", "[I", true)
  | 2 => ("TreeConfigurator$Rules", "last", "[I", true)
  | 3 => ("TreeConfigurator$Rules", "inForce", "I", false)
  | _ => ("TreeConfigurator$Rules", "count", "I", false)
def tyX3 : Nat → FieldType := fun k => match k with
  | 0 => .array .int
  | 1 => .array .int
  | 2 => .array .int
  | 3 => .int
  | _ => .int
abbrev wsX30 : List Cond := u_ws RX3 TX3 5
theorem nmX3 : ∀ a, a < 5 → ∀ b, b < 5 → a ≠ b → (TX3 a).2.1 ≠ (TX3 b).2.1 := by decide +kernel
theorem tyX3_ok : ∀ k, k < 5 → parseFieldDescriptor (TX3 k).2.2.1 = some (tyX3 k) := by decide +kernel
abbrev cX3_init : ByteArray := prog_5_method_1_code
def yX3_init : MethodName := ⟨RX3, "<init>", "()V"⟩
abbrev cX3_append : ByteArray := prog_5_method_2_code
def yX3_append : MethodName := ⟨RX3, "append", "(III)I"⟩
abbrev cX3_dropLast : ByteArray := prog_5_method_3_code
def yX3_dropLast : MethodName := ⟨RX3, "dropLast", "()V"⟩
abbrev cX3_holdFor : ByteArray := prog_5_method_4_code
def yX3_holdFor : MethodName := ⟨RX3, "holdFor", "(I)Z"⟩
abbrev cX3_holdAt : ByteArray := prog_5_method_5_code
def yX3_holdAt : MethodName := ⟨RX3, "holdAt", "(II)Z"⟩
abbrev cX3_holdsFor : ByteArray := prog_5_method_6_code
def yX3_holdsFor : MethodName := ⟨RX3, "holdsFor", "(II)Z"⟩
abbrev cX3_lastKeptBy : ByteArray := prog_5_method_7_code
def yX3_lastKeptBy : MethodName := ⟨RX3, "lastKeptBy", "(III)I"⟩
def RX4 : String := "TreeConfigurator$Search"
def TX4 : u_T := fun k => match k with
  | _ => ("", "", "", false)
def tyX4 : Nat → FieldType := fun k => match k with
  | _ => .int
abbrev wsX40 : List Cond := u_ws RX4 TX4 0
theorem nmX4 : ∀ a, a < 0 → ∀ b, b < 0 → a ≠ b → (TX4 a).2.1 ≠ (TX4 b).2.1 := by decide +kernel
theorem tyX4_ok : ∀ k, k < 0 → parseFieldDescriptor (TX4 k).2.2.1 = some (tyX4 k) := by decide +kernel
abbrev cX4_reaches : ByteArray := prog_6_method_2_code
def yX4_reaches : MethodName := ⟨RX4, "reaches", "(LTreeConfigurator$Tree;LTreeConfigurator$Rules;IIII)Z"⟩
abbrev cX4_countFrom : ByteArray := prog_6_method_3_code
def yX4_countFrom : MethodName := ⟨RX4, "countFrom", "(LTreeConfigurator$Tree;LTreeConfigurator$Rules;IIII)J"⟩
abbrev cX4_canTake : ByteArray := prog_6_method_5_code
def yX4_canTake : MethodName := ⟨RX4, "canTake", "(LTreeConfigurator$Tree;LTreeConfigurator$Rules;III)Z"⟩
abbrev cX4_canLeave : ByteArray := prog_6_method_6_code
def yX4_canLeave : MethodName := ⟨RX4, "canLeave", "(LTreeConfigurator$Tree;LTreeConfigurator$Rules;III)Z"⟩
def RX5 : String := "TreeConfigurator$Tree"
def TX5 : u_T := fun k => match k with
  | 0 => ("TreeConfigurator$Tree", "parents", "[I", true)
  | 1 => ("TreeConfigurator$Tree", "children", "[I", true)
  | 2 => ("TreeConfigurator$Tree", "least", "[I", true)
  | 3 => ("TreeConfigurator$Tree", "greatest", "[I", true)
  | 4 => ("TreeConfigurator$Tree", "mandatory", "I", false)
  | _ => ("TreeConfigurator$Tree", "count", "I", false)
def tyX5 : Nat → FieldType := fun k => match k with
  | 0 => .array .int
  | 1 => .array .int
  | 2 => .array .int
  | 3 => .array .int
  | 4 => .int
  | _ => .int
abbrev wsX50 : List Cond := u_ws RX5 TX5 6
theorem nmX5 : ∀ a, a < 6 → ∀ b, b < 6 → a ≠ b → (TX5 a).2.1 ≠ (TX5 b).2.1 := by decide +kernel
theorem tyX5_ok : ∀ k, k < 6 → parseFieldDescriptor (TX5 k).2.2.1 = some (tyX5 k) := by decide +kernel
abbrev cX5_init : ByteArray := prog_7_method_1_code
def yX5_init : MethodName := ⟨RX5, "<init>", "()V"⟩
abbrev cX5_grow : ByteArray := prog_7_method_2_code
def yX5_grow : MethodName := ⟨RX5, "grow", "(I)I"⟩
abbrev cX5_allFeatures : ByteArray := prog_7_method_3_code
def yX5_allFeatures : MethodName := ⟨RX5, "allFeatures", "()I"⟩
abbrev cX5_allows : ByteArray := prog_7_method_4_code
def yX5_allows : MethodName := ⟨RX5, "allows", "(I)Z"⟩
abbrev cX5_allowsAt : ByteArray := prog_7_method_5_code
def yX5_allowsAt : MethodName := ⟨RX5, "allowsAt", "(II)Z"⟩
abbrev cX5_mayBeIn : ByteArray := prog_7_method_6_code
def yX5_mayBeIn : MethodName := ⟨RX5, "mayBeIn", "(II)Z"⟩
abbrev cX5_mayBeOut : ByteArray := prog_7_method_7_code
def yX5_mayBeOut : MethodName := ⟨RX5, "mayBeOut", "(II)Z"⟩
def RX6 : String := "TreeConfigurator"
def TX6 : u_T := fun k => match k with
  | 0 => ("TreeConfigurator", "tree", "LTreeConfigurator$Tree;", true)
  | 1 => ("TreeConfigurator", "rules", "LTreeConfigurator$Rules;", true)
  | 2 => ("TreeConfigurator", "prices", "LTreeConfigurator$Prices;", true)
  | 3 => ("TreeConfigurator", "deduction", "LTreeConfigurator$Deduction;", true)
  | 4 => ("TreeConfigurator", "line", "LTreeConfigurator$Line;", true)
  | 5 => ("TreeConfigurator", "chosen", "I", false)
  | _ => ("TreeConfigurator", "refused", "I", false)
def tyX6 : Nat → FieldType := fun k => match k with
  | 0 => .object "TreeConfigurator$Tree"
  | 1 => .object "TreeConfigurator$Rules"
  | 2 => .object "TreeConfigurator$Prices"
  | 3 => .object "TreeConfigurator$Deduction"
  | 4 => .object "TreeConfigurator$Line"
  | 5 => .int
  | _ => .int
abbrev wsX60 : List Cond := u_ws RX6 TX6 7
theorem nmX6 : ∀ a, a < 7 → ∀ b, b < 7 → a ≠ b → (TX6 a).2.1 ≠ (TX6 b).2.1 := by decide +kernel
theorem tyX6_ok : ∀ k, k < 7 → parseFieldDescriptor (TX6 k).2.2.1 = some (tyX6 k) := by decide +kernel
abbrev cX6_init : ByteArray := prog_1_method_1_code
def yX6_init : MethodName := ⟨RX6, "<init>", "()V"⟩
abbrev cX6_addFeature : ByteArray := prog_1_method_2_code
def yX6_addFeature : MethodName := ⟨RX6, "addFeature", "(II)I"⟩
abbrev cX6_setMandatory : ByteArray := prog_1_method_3_code
def yX6_setMandatory : MethodName := ⟨RX6, "setMandatory", "(IZ)Z"⟩
abbrev cX6_setGroup : ByteArray := prog_1_method_4_code
def yX6_setGroup : MethodName := ⟨RX6, "setGroup", "(III)I"⟩
abbrev cX6_require : ByteArray := prog_1_method_5_code
def yX6_require : MethodName := ⟨RX6, "require", "(II)I"⟩
abbrev cX6_exclude : ByteArray := prog_1_method_6_code
def yX6_exclude : MethodName := ⟨RX6, "exclude", "(II)I"⟩
abbrev cX6_any : ByteArray := prog_1_method_7_code
def yX6_any : MethodName := ⟨RX6, "any", "(III)I"⟩
abbrev cX6_lift : ByteArray := prog_1_method_8_code
def yX6_lift : MethodName := ⟨RX6, "lift", "(I)I"⟩
abbrev cX6_choose : ByteArray := prog_1_method_9_code
def yX6_choose : MethodName := ⟨RX6, "choose", "(I)I"⟩
abbrev cX6_refuse : ByteArray := prog_1_method_10_code
def yX6_refuse : MethodName := ⟨RX6, "refuse", "(I)I"⟩
abbrev cX6_retract : ByteArray := prog_1_method_11_code
def yX6_retract : MethodName := ⟨RX6, "retract", "(I)C"⟩
abbrev cX6_retractAll : ByteArray := prog_1_method_12_code
def yX6_retractAll : MethodName := ⟨RX6, "retractAll", "()I"⟩
abbrev cX6_stateOf : ByteArray := prog_1_method_13_code
def yX6_stateOf : MethodName := ⟨RX6, "stateOf", "(I)C"⟩
abbrev cX6_stateByAll : ByteArray := prog_1_method_14_code
def yX6_stateByAll : MethodName := ⟨RX6, "stateByAll", "(I)C"⟩
abbrev cX6_unknown : ByteArray := prog_1_method_18_code
def yX6_unknown : MethodName := ⟨RX6, "unknown", "()I"⟩
abbrev cX6_isConfiguration : ByteArray := prog_1_method_19_code
def yX6_isConfiguration : MethodName := ⟨RX6, "isConfiguration", "(I)Z"⟩
abbrev cX6_completions : ByteArray := prog_1_method_20_code
def yX6_completions : MethodName := ⟨RX6, "completions", "()J"⟩
abbrev cX6_completionsByAll : ByteArray := prog_1_method_21_code
def yX6_completionsByAll : MethodName := ⟨RX6, "completionsByAll", "()J"⟩
abbrev cX6_checkFeature : ByteArray := prog_1_method_38_code
def yX6_checkFeature : MethodName := ⟨RX6, "checkFeature", "(I)V"⟩
abbrev cX6_checkNotRoot : ByteArray := prog_1_method_39_code
def yX6_checkNotRoot : MethodName := ⟨RX6, "checkNotRoot", "(I)V"⟩
abbrev cX6_checkDifferent : ByteArray := prog_1_method_40_code
def yX6_checkDifferent : MethodName := ⟨RX6, "checkDifferent", "(II)V"⟩
abbrev cX6_checkDecidable : ByteArray := prog_1_method_41_code
def yX6_checkDecidable : MethodName := ⟨RX6, "checkDecidable", "(I)V"⟩
abbrev cX6_checkSet : ByteArray := prog_1_method_42_code
def yX6_checkSet : MethodName := ⟨RX6, "checkSet", "(I)V"⟩
abbrev cX6_has : ByteArray := prog_1_method_43_code
def yX6_has : MethodName := ⟨RX6, "has", "(II)Z"⟩
abbrev cX6_stateLetter : ByteArray := prog_1_method_44_code
def yX6_stateLetter : MethodName := ⟨RX6, "stateLetter", "(IZZ)C"⟩
abbrev cX6_hasCompletion : ByteArray := prog_1_method_45_code
def yX6_hasCompletion : MethodName := ⟨RX6, "hasCompletion", "()Z"⟩
abbrev cX6_isAllowed : ByteArray := prog_1_method_46_code
def yX6_isAllowed : MethodName := ⟨RX6, "isAllowed", "(I)Z"⟩
abbrev cX6_isCompletion : ByteArray := prog_1_method_47_code
def yX6_isCompletion : MethodName := ⟨RX6, "isCompletion", "(I)Z"⟩
abbrev cX6_featuresInAll : ByteArray := prog_1_method_48_code
def yX6_featuresInAll : MethodName := ⟨RX6, "featuresInAll", "()I"⟩
abbrev cX6_featuresInSome : ByteArray := prog_1_method_49_code
def yX6_featuresInSome : MethodName := ⟨RX6, "featuresInSome", "()I"⟩
abbrev cX6_addRule : ByteArray := prog_1_method_50_code
def yX6_addRule : MethodName := ⟨RX6, "addRule", "(III)I"⟩
abbrev cX6_takeBack : ByteArray := prog_1_method_52_code
def yX6_takeBack : MethodName := ⟨RX6, "takeBack", "(I)V"⟩
abbrev cX6_deduce : ByteArray := prog_1_method_53_code
def yX6_deduce : MethodName := ⟨RX6, "deduce", "()V"⟩
abbrev cX6_countUnknown : ByteArray := prog_1_method_54_code
def yX6_countUnknown : MethodName := ⟨RX6, "countUnknown", "()I"⟩
def RX7 : String := "TreeConfiguratorModel"
def TX7 : u_T := fun k => match k with
  | _ => ("", "", "", false)
def tyX7 : Nat → FieldType := fun k => match k with
  | _ => .int
abbrev wsX70 : List Cond := u_ws RX7 TX7 0
theorem nmX7 : ∀ a, a < 0 → ∀ b, b < 0 → a ≠ b → (TX7 a).2.1 ≠ (TX7 b).2.1 := by decide +kernel
theorem tyX7_ok : ∀ k, k < 0 → parseFieldDescriptor (TX7 k).2.2.1 = some (tyX7 k) := by decide +kernel
def RJx145de : String := "java/io/Serializable"
def TJx145de : u_T := fun k => match k with
  | _ => ("", "", "", false)
def tyJx145de : Nat → FieldType := fun k => match k with
  | _ => .int
abbrev wsJx145de0 : List Cond := u_ws RJx145de TJx145de 0
theorem nmJx145de : ∀ a, a < 0 → ∀ b, b < 0 → a ≠ b → (TJx145de a).2.1 ≠ (TJx145de b).2.1 := by decide +kernel
theorem tyJx145de_ok : ∀ k, k < 0 → parseFieldDescriptor (TJx145de k).2.2.1 = some (tyJx145de k) := by decide +kernel
def RJ6 : String := "java/lang/Integer"
def TJ6 : u_T := fun k => match k with
  | _ => ("", "", "", false)
def tyJ6 : Nat → FieldType := fun k => match k with
  | _ => .int
abbrev wsJ60 : List Cond := u_ws RJ6 TJ6 0
theorem nmJ6 : ∀ a, a < 0 → ∀ b, b < 0 → a ≠ b → (TJ6 a).2.1 ≠ (TJ6 b).2.1 := by decide +kernel
theorem tyJ6_ok : ∀ k, k < 0 → parseFieldDescriptor (TJ6 k).2.2.1 = some (tyJ6 k) := by decide +kernel
abbrev cJ6_bitCount_0f7a4 : ByteArray := prog_15_method_49_code
def yJ6_bitCount_0f7a4 : MethodName := ⟨RJ6, "bitCount", "(I)I"⟩
def RJ9 : String := "java/lang/Math"
def TJ9 : u_T := fun k => match k with
  | _ => ("", "", "", false)
def tyJ9 : Nat → FieldType := fun k => match k with
  | _ => .int
abbrev wsJ90 : List Cond := u_ws RJ9 TJ9 0
theorem nmJ9 : ∀ a, a < 0 → ∀ b, b < 0 → a ≠ b → (TJ9 a).2.1 ≠ (TJ9 b).2.1 := by decide +kernel
theorem tyJ9_ok : ∀ k, k < 0 → parseFieldDescriptor (TJ9 k).2.2.1 = some (tyJ9 k) := by decide +kernel
abbrev cJ9_max_7cf53 : ByteArray := prog_16_method_65_code
def yJ9_max_7cf53 : MethodName := ⟨RJ9, "max", "(II)I"⟩
def RJ0 : String := "java/lang/String"
def TJ0 : u_T := fun k => match k with
  | _ => ("", "", "", false)
def tyJ0 : Nat → FieldType := fun k => match k with
  | _ => .int
abbrev wsJ00 : List Cond := u_ws RJ0 TJ0 0
theorem nmJ0 : ∀ a, a < 0 → ∀ b, b < 0 → a ≠ b → (TJ0 a).2.1 ≠ (TJ0 b).2.1 := by decide +kernel
theorem tyJ0_ok : ∀ k, k < 0 → parseFieldDescriptor (TJ0 k).2.2.1 = some (tyJ0 k) := by decide +kernel
def RL : String := "TreeConfiguratorLaw"
abbrev cL_cell : ByteArray := method_2_code
def yL_cell : MethodName := ⟨RL, "cell", "([II)I"⟩
abbrev cL_addFeature : ByteArray := method_3_code
def yL_addFeature : MethodName := ⟨RL, "addFeature", "(LTreeConfigurator;II)I"⟩
abbrev cL_setGroup : ByteArray := method_4_code
def yL_setGroup : MethodName := ⟨RL, "setGroup", "(LTreeConfigurator;III)I"⟩
abbrev cL_require : ByteArray := method_5_code
def yL_require : MethodName := ⟨RL, "require", "(LTreeConfigurator;II)I"⟩
abbrev cL_exclude : ByteArray := method_6_code
def yL_exclude : MethodName := ⟨RL, "exclude", "(LTreeConfigurator;II)I"⟩
abbrev cL_any : ByteArray := method_7_code
def yL_any : MethodName := ⟨RL, "any", "(LTreeConfigurator;III)I"⟩
abbrev cL_lift : ByteArray := method_8_code
def yL_lift : MethodName := ⟨RL, "lift", "(LTreeConfigurator;I)I"⟩
abbrev cL_choose : ByteArray := method_9_code
def yL_choose : MethodName := ⟨RL, "choose", "(LTreeConfigurator;I)I"⟩
abbrev cL_refuse : ByteArray := method_10_code
def yL_refuse : MethodName := ⟨RL, "refuse", "(LTreeConfigurator;I)I"⟩
abbrev cL_retract : ByteArray := method_11_code
def yL_retract : MethodName := ⟨RL, "retract", "(LTreeConfigurator;I)I"⟩
abbrev cL_stateOf : ByteArray := method_12_code
def yL_stateOf : MethodName := ⟨RL, "stateOf", "(LTreeConfigurator;I)I"⟩
abbrev cL_stateByAll : ByteArray := method_13_code
def yL_stateByAll : MethodName := ⟨RL, "stateByAll", "(LTreeConfigurator;I)I"⟩
abbrev cL_setMandatory : ByteArray := method_14_code
def yL_setMandatory : MethodName := ⟨RL, "setMandatory", "(LTreeConfigurator;IZ)I"⟩
abbrev cL_isConfiguration : ByteArray := method_15_code
def yL_isConfiguration : MethodName := ⟨RL, "isConfiguration", "(LTreeConfigurator;I)I"⟩
abbrev cL_in : ByteArray := method_16_code
def yL_in : MethodName := ⟨RL, "in", "([III)I"⟩
abbrev cL_isIn : ByteArray := method_17_code
def yL_isIn : MethodName := ⟨RL, "isIn", "(II)Z"⟩
abbrev cL_many : ByteArray := method_18_code
def yL_many : MethodName := ⟨RL, "many", "(I)I"⟩
abbrev cL_copy : ByteArray := method_19_code
