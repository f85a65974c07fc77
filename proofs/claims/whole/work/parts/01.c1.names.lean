theorem nmX7 : ∀ a, a < 24 → ∀ b, b < 24 → a ≠ b → (TX7 a).2.1 ≠ (TX7 b).2.1 := by decide +kernel
theorem tyX7_ok : ∀ k, k < 24 → parseFieldDescriptor (TX7 k).2.2.1 = some (tyX7 k) := by decide +kernel
abbrev cX7_init : ByteArray := prog_9_method_1_code
def yX7_init : MethodName := ⟨RX7, "<init>", "()V"⟩
abbrev cX7_thrown : ByteArray := prog_9_method_2_code
def yX7_thrown : MethodName := ⟨RX7, "thrown", "()I"⟩
abbrev cX7_isIn : ByteArray := prog_9_method_3_code
def yX7_isIn : MethodName := ⟨RX7, "isIn", "(III)Z"⟩
abbrev cX7_isThrown : ByteArray := prog_9_method_4_code
def yX7_isThrown : MethodName := ⟨RX7, "isThrown", "(ZI)Z"⟩
abbrev cX7_isNone : ByteArray := prog_9_method_5_code
def yX7_isNone : MethodName := ⟨RX7, "isNone", "(I)Z"⟩
abbrev cX7_has : ByteArray := prog_9_method_6_code
def yX7_has : MethodName := ⟨RX7, "has", "(II)Z"⟩
abbrev cX7_keeps : ByteArray := prog_9_method_7_code
def yX7_keeps : MethodName := ⟨RX7, "keeps", "(II)Z"⟩
abbrev cX7_isGood : ByteArray := prog_9_method_8_code
def yX7_isGood : MethodName := ⟨RX7, "isGood", "(I)Z"⟩
abbrev cX7_completes : ByteArray := prog_9_method_9_code
def yX7_completes : MethodName := ⟨RX7, "completes", "(I)Z"⟩
abbrev cX7_isNoneLeft : ByteArray := prog_9_method_10_code
def yX7_isNoneLeft : MethodName := ⟨RX7, "isNoneLeft", "()Z"⟩
abbrev cX7_addFeature : ByteArray := prog_9_method_11_code
def yX7_addFeature : MethodName := ⟨RX7, "addFeature", "(II)I"⟩
abbrev cX7_setMandatory : ByteArray := prog_9_method_12_code
def yX7_setMandatory : MethodName := ⟨RX7, "setMandatory", "(IZ)Z"⟩
abbrev cX7_setGroup : ByteArray := prog_9_method_13_code
def yX7_setGroup : MethodName := ⟨RX7, "setGroup", "(III)I"⟩
abbrev cX7_adds : ByteArray := prog_9_method_14_code
def yX7_adds : MethodName := ⟨RX7, "adds", "(CIII)I"⟩
abbrev cX7_require : ByteArray := prog_9_method_15_code
def yX7_require : MethodName := ⟨RX7, "require", "(II)I"⟩
abbrev cX7_exclude : ByteArray := prog_9_method_16_code
def yX7_exclude : MethodName := ⟨RX7, "exclude", "(II)I"⟩
abbrev cX7_any : ByteArray := prog_9_method_17_code
def yX7_any : MethodName := ⟨RX7, "any", "(III)I"⟩
abbrev cX7_lift : ByteArray := prog_9_method_18_code
def yX7_lift : MethodName := ⟨RX7, "lift", "(I)I"⟩
abbrev cX7_isDecided : ByteArray := prog_9_method_19_code
def yX7_isDecided : MethodName := ⟨RX7, "isDecided", "(I)Z"⟩
abbrev cX7_decides : ByteArray := prog_9_method_20_code
def yX7_decides : MethodName := ⟨RX7, "decides", "(IZ)I"⟩
abbrev cX7_choose : ByteArray := prog_9_method_21_code
def yX7_choose : MethodName := ⟨RX7, "choose", "(I)I"⟩
abbrev cX7_refuse : ByteArray := prog_9_method_22_code
def yX7_refuse : MethodName := ⟨RX7, "refuse", "(I)I"⟩
abbrev cX7_retract : ByteArray := prog_9_method_23_code
def yX7_retract : MethodName := ⟨RX7, "retract", "(I)C"⟩
abbrev cX7_retractAll : ByteArray := prog_9_method_24_code
def yX7_retractAll : MethodName := ⟨RX7, "retractAll", "()I"⟩
abbrev cX7_stateOf : ByteArray := prog_9_method_25_code
def yX7_stateOf : MethodName := ⟨RX7, "stateOf", "(I)C"⟩
abbrev cX7_stateByAll : ByteArray := prog_9_method_26_code
def yX7_stateByAll : MethodName := ⟨RX7, "stateByAll", "(I)C"⟩
abbrev cX7_children : ByteArray := prog_9_method_27_code
def yX7_children : MethodName := ⟨RX7, "children", "(IZ)I"⟩
abbrev cX7_hasOffChild : ByteArray := prog_9_method_28_code
def yX7_hasOffChild : MethodName := ⟨RX7, "hasOffChild", "(I)Z"⟩
abbrev cX7_told : ByteArray := prog_9_method_29_code
def yX7_told : MethodName := ⟨RX7, "told", "(II)I"⟩
abbrev cX7_becomes : ByteArray := prog_9_method_30_code
def yX7_becomes : MethodName := ⟨RX7, "becomes", "(IZC)Z"⟩
abbrev cX7_isKnown : ByteArray := prog_9_method_31_code
def yX7_isKnown : MethodName := ⟨RX7, "isKnown", "(I)Z"⟩
abbrev cX7_deduces : ByteArray := prog_9_method_32_code
def yX7_deduces : MethodName := ⟨RX7, "deduces", "()V"⟩
abbrev cX7_unknowns : ByteArray := prog_9_method_33_code
def yX7_unknowns : MethodName := ⟨RX7, "unknowns", "()I"⟩
abbrev cX7_known : ByteArray := prog_9_method_34_code
def yX7_known : MethodName := ⟨RX7, "known", "(I)C"⟩
abbrev cX7_reasonOf : ByteArray := prog_9_method_35_code
def yX7_reasonOf : MethodName := ⟨RX7, "reasonOf", "(I)C"⟩
abbrev cX7_reasonRule : ByteArray := prog_9_method_36_code
def yX7_reasonRule : MethodName := ⟨RX7, "reasonRule", "(I)I"⟩
abbrev cX7_unknown : ByteArray := prog_9_method_37_code
def yX7_unknown : MethodName := ⟨RX7, "unknown", "()I"⟩
abbrev cX7_isNoSet : ByteArray := prog_9_method_38_code
def yX7_isNoSet : MethodName := ⟨RX7, "isNoSet", "(I)Z"⟩
abbrev cX7_isConfiguration : ByteArray := prog_9_method_39_code
def yX7_isConfiguration : MethodName := ⟨RX7, "isConfiguration", "(I)Z"⟩
abbrev cX7_completions : ByteArray := prog_9_method_40_code
def yX7_completions : MethodName := ⟨RX7, "completions", "()J"⟩
abbrev cX7_completionsByAll : ByteArray := prog_9_method_41_code
def yX7_completionsByAll : MethodName := ⟨RX7, "completionsByAll", "()J"⟩
abbrev cX7_layer : ByteArray := prog_9_method_42_code
def yX7_layer : MethodName := ⟨RX7, "layer", "(CIII)I"⟩
abbrev cX7_addBundle : ByteArray := prog_9_method_43_code
def yX7_addBundle : MethodName := ⟨RX7, "addBundle", "(III)I"⟩
abbrev cX7_addPercent : ByteArray := prog_9_method_44_code
def yX7_addPercent : MethodName := ⟨RX7, "addPercent", "(I)I"⟩
abbrev cX7_addSurcharge : ByteArray := prog_9_method_45_code
def yX7_addSurcharge : MethodName := ⟨RX7, "addSurcharge", "(II)I"⟩
abbrev cX7_removeLayer : ByteArray := prog_9_method_46_code
def yX7_removeLayer : MethodName := ⟨RX7, "removeLayer", "()I"⟩
abbrev cX7_priced : ByteArray := prog_9_method_47_code
def yX7_priced : MethodName := ⟨RX7, "priced", "(I)I"⟩
abbrev cX7_price : ByteArray := prog_9_method_48_code
def yX7_price : MethodName := ⟨RX7, "price", "(I)I"⟩
abbrev cX7_isCheaper : ByteArray := prog_9_method_49_code
def yX7_isCheaper : MethodName := ⟨RX7, "isCheaper", "(II)Z"⟩
abbrev cX7_cheapest : ByteArray := prog_9_method_50_code
def yX7_cheapest : MethodName := ⟨RX7, "cheapest", "()I"⟩
abbrev cX7_cheapestByAll : ByteArray := prog_9_method_51_code
def yX7_cheapestByAll : MethodName := ⟨RX7, "cheapestByAll", "()I"⟩
abbrev cX7_complete : ByteArray := prog_9_method_52_code
def yX7_complete : MethodName := ⟨RX7, "complete", "()I"⟩
abbrev cX7_wrong : ByteArray := prog_9_method_53_code
def yX7_wrong : MethodName := ⟨RX7, "wrong", "(IZ)I"⟩
abbrev cX7_isNoWish : ByteArray := prog_9_method_54_code
def yX7_isNoWish : MethodName := ⟨RX7, "isNoWish", "(IZI)Z"⟩
abbrev cX7_fewest : ByteArray := prog_9_method_55_code
def yX7_fewest : MethodName := ⟨RX7, "fewest", "(IZ)I"⟩
abbrev cX7_toRetract : ByteArray := prog_9_method_56_code
def yX7_toRetract : MethodName := ⟨RX7, "toRetract", "(IZ)I"⟩
abbrev cX7_force : ByteArray := prog_9_method_57_code
def yX7_force : MethodName := ⟨RX7, "force", "(IZ)I"⟩
abbrev cX7_line : ByteArray := prog_9_method_58_code
def yX7_line : MethodName := ⟨RX7, "line", "()Ljava/lang/String;"⟩
abbrev cX7_lineLength : ByteArray := prog_9_method_59_code
def yX7_lineLength : MethodName := ⟨RX7, "lineLength", "()I"⟩
abbrev cX7_lineAt : ByteArray := prog_9_method_60_code
def yX7_lineAt : MethodName := ⟨RX7, "lineAt", "(I)C"⟩
abbrev cX7_knownShare : ByteArray := prog_9_method_61_code
def yX7_knownShare : MethodName := ⟨RX7, "knownShare", "()F"⟩
abbrev cX7_meanPrice : ByteArray := prog_9_method_62_code
def yX7_meanPrice : MethodName := ⟨RX7, "meanPrice", "()D"⟩
abbrev cX7_isSound : ByteArray := prog_9_method_63_code
def yX7_isSound : MethodName := ⟨RX7, "isSound", "()Z"⟩
def RJx145de : String := "java/io/Serializable"
def TJx145de : u_T := fun k => match k with
  | _ => ("", "", "", false)
def tyJx145de : Nat → FieldType := fun k => match k with
  | _ => .int
abbrev wsJx145de0 : List Cond := u_ws RJx145de TJx145de 0
theorem nmJx145de : ∀ a, a < 0 → ∀ b, b < 0 → a ≠ b → (TJx145de a).2.1 ≠ (TJx145de b).2.1 := by decide +kernel
theorem tyJx145de_ok : ∀ k, k < 0 → parseFieldDescriptor (TJx145de k).2.2.1 = some (tyJx145de k) := by decide +kernel
def RJ5 : String := "java/lang/AbstractStringBuilder"
def TJ5 : u_T := fun k => match k with
  | _ => ("", "", "", false)
def tyJ5 : Nat → FieldType := fun k => match k with
  | _ => .int
abbrev wsJ50 : List Cond := u_ws RJ5 TJ5 0
theorem nmJ5 : ∀ a, a < 0 → ∀ b, b < 0 → a ≠ b → (TJ5 a).2.1 ≠ (TJ5 b).2.1 := by decide +kernel
theorem tyJ5_ok : ∀ k, k < 0 → parseFieldDescriptor (TJ5 k).2.2.1 = some (tyJ5 k) := by decide +kernel
abbrev cJ5_init_d00df : ByteArray := prog_11_method_2_code
def yJ5_init_d00df : MethodName := ⟨RJ5, "<init>", "(I)V"⟩
abbrev cJ5_length_8abf5 : ByteArray := prog_11_method_6_code
def yJ5_length_8abf5 : MethodName := ⟨RJ5, "length", "()I"⟩
abbrev cJ5_ensureCapacityInternal_d00df : ByteArray := prog_11_method_9_code
def yJ5_ensureCapacityInternal_d00df : MethodName := ⟨RJ5, "ensureCapacityInternal", "(I)V"⟩
abbrev cJ5_newCapacity_0f7a4 : ByteArray := prog_11_method_10_code
def yJ5_newCapacity_0f7a4 : MethodName := ⟨RJ5, "newCapacity", "(I)I"⟩
abbrev cJ5_inflate_da8c8 : ByteArray := prog_11_method_11_code
def yJ5_inflate_da8c8 : MethodName := ⟨RJ5, "inflate", "()V"⟩
abbrev cJ5_append_cf1ce : ByteArray := prog_11_method_22_code
def yJ5_append_cf1ce : MethodName := ⟨RJ5, "append", "(Ljava/lang/String;)Ljava/lang/AbstractStringBuilder;"⟩
abbrev cJ5_appendNull_278bc : ByteArray := prog_11_method_26_code
def yJ5_appendNull_278bc : MethodName := ⟨RJ5, "appendNull", "()Ljava/lang/AbstractStringBuilder;"⟩
abbrev cJ5_append_3fe6f : ByteArray := prog_11_method_31_code
def yJ5_append_3fe6f : MethodName := ⟨RJ5, "append", "(C)Ljava/lang/AbstractStringBuilder;"⟩
abbrev cJ5_append_c97b9 : ByteArray := prog_11_method_32_code
def yJ5_append_c97b9 : MethodName := ⟨RJ5, "append", "(I)Ljava/lang/AbstractStringBuilder;"⟩
abbrev cJ5_getValue_6d5f1 : ByteArray := prog_11_method_64_code
def yJ5_getValue_6d5f1 : MethodName := ⟨RJ5, "getValue", "()[B"⟩
abbrev cJ5_isLatin1_aae02 : ByteArray := prog_11_method_68_code
def yJ5_isLatin1_aae02 : MethodName := ⟨RJ5, "isLatin1", "()Z"⟩
abbrev cJ5_inflateIfNeededFor_a7421 : ByteArray := prog_11_method_71_code
def yJ5_inflateIfNeededFor_a7421 : MethodName := ⟨RJ5, "inflateIfNeededFor", "(Ljava/lang/String;)V"⟩
abbrev cJ5_putStringAt_47b60 : ByteArray := prog_11_method_73_code
def yJ5_putStringAt_47b60 : MethodName := ⟨RJ5, "putStringAt", "(ILjava/lang/String;)V"⟩
def RJx2cfe8 : String := "java/lang/Appendable"
def TJx2cfe8 : u_T := fun k => match k with
  | _ => ("", "", "", false)
def tyJx2cfe8 : Nat → FieldType := fun k => match k with
  | _ => .int
abbrev wsJx2cfe80 : List Cond := u_ws RJx2cfe8 TJx2cfe8 0
theorem nmJx2cfe8 : ∀ a, a < 0 → ∀ b, b < 0 → a ≠ b → (TJx2cfe8 a).2.1 ≠ (TJx2cfe8 b).2.1 := by decide +kernel
theorem tyJx2cfe8_ok : ∀ k, k < 0 → parseFieldDescriptor (TJx2cfe8 k).2.2.1 = some (tyJx2cfe8 k) := by decide +kernel
def RJx9f9b0 : String := "java/lang/CharSequence"
def TJx9f9b0 : u_T := fun k => match k with
  | _ => ("", "", "", false)
def tyJx9f9b0 : Nat → FieldType := fun k => match k with
  | _ => .int
abbrev wsJx9f9b00 : List Cond := u_ws RJx9f9b0 TJx9f9b0 0
theorem nmJx9f9b0 : ∀ a, a < 0 → ∀ b, b < 0 → a ≠ b → (TJx9f9b0 a).2.1 ≠ (TJx9f9b0 b).2.1 := by decide +kernel
theorem tyJx9f9b0_ok : ∀ k, k < 0 → parseFieldDescriptor (TJx9f9b0 k).2.2.1 = some (tyJx9f9b0 k) := by decide +kernel
def RJx8e188 : String := "java/lang/Cloneable"
def TJx8e188 : u_T := fun k => match k with
  | _ => ("", "", "", false)
def tyJx8e188 : Nat → FieldType := fun k => match k with
  | _ => .int
abbrev wsJx8e1880 : List Cond := u_ws RJx8e188 TJx8e188 0
theorem nmJx8e188 : ∀ a, a < 0 → ∀ b, b < 0 → a ≠ b → (TJx8e188 a).2.1 ≠ (TJx8e188 b).2.1 := by decide +kernel
theorem tyJx8e188_ok : ∀ k, k < 0 → parseFieldDescriptor (TJx8e188 k).2.2.1 = some (tyJx8e188 k) := by decide +kernel
def RJxb160c : String := "java/lang/Comparable"
def TJxb160c : u_T := fun k => match k with
  | _ => ("", "", "", false)
def tyJxb160c : Nat → FieldType := fun k => match k with
  | _ => .int
abbrev wsJxb160c0 : List Cond := u_ws RJxb160c TJxb160c 0
theorem nmJxb160c : ∀ a, a < 0 → ∀ b, b < 0 → a ≠ b → (TJxb160c a).2.1 ≠ (TJxb160c b).2.1 := by decide +kernel
theorem tyJxb160c_ok : ∀ k, k < 0 → parseFieldDescriptor (TJxb160c k).2.2.1 = some (tyJxb160c k) := by decide +kernel
def RJ6 : String := "java/lang/Integer"
def TJ6 : u_T := fun k => match k with
  | _ => ("", "", "", false)
def tyJ6 : Nat → FieldType := fun k => match k with
  | _ => .int
abbrev wsJ60 : List Cond := u_ws RJ6 TJ6 0
theorem nmJ6 : ∀ a, a < 0 → ∀ b, b < 0 → a ≠ b → (TJ6 a).2.1 ≠ (TJ6 b).2.1 := by decide +kernel
theorem tyJ6_ok : ∀ k, k < 0 → parseFieldDescriptor (TJ6 k).2.2.1 = some (tyJ6 k) := by decide +kernel
abbrev cJ6_getChars_ba4f3 : ByteArray := prog_20_method_12_code
def yJ6_getChars_ba4f3 : MethodName := ⟨RJ6, "getChars", "(II[B)I"⟩
abbrev cJ6_stringSize_0f7a4 : ByteArray := prog_20_method_13_code
def yJ6_stringSize_0f7a4 : MethodName := ⟨RJ6, "stringSize", "(I)I"⟩
abbrev cJ6_compare_7cf53 : ByteArray := prog_20_method_40_code
def yJ6_compare_7cf53 : MethodName := ⟨RJ6, "compare", "(II)I"⟩
abbrev cJ6_bitCount_0f7a4 : ByteArray := prog_20_method_49_code
def yJ6_bitCount_0f7a4 : MethodName := ⟨RJ6, "bitCount", "(I)I"⟩
def RJ9 : String := "java/lang/Math"
def TJ9 : u_T := fun k => match k with
  | _ => ("", "", "", false)
def tyJ9 : Nat → FieldType := fun k => match k with
  | _ => .int
abbrev wsJ90 : List Cond := u_ws RJ9 TJ9 0
theorem nmJ9 : ∀ a, a < 0 → ∀ b, b < 0 → a ≠ b → (TJ9 a).2.1 ≠ (TJ9 b).2.1 := by decide +kernel
theorem tyJ9_ok : ∀ k, k < 0 → parseFieldDescriptor (TJ9 k).2.2.1 = some (tyJ9 k) := by decide +kernel
abbrev cJ9_max_7cf53 : ByteArray := prog_21_method_65_code
def yJ9_max_7cf53 : MethodName := ⟨RJ9, "max", "(II)I"⟩
abbrev cJ9_min_7cf53 : ByteArray := prog_21_method_69_code
def yJ9_min_7cf53 : MethodName := ⟨RJ9, "min", "(II)I"⟩
def RJxd2413 : String := "java/lang/Number"
def TJxd2413 : u_T := fun k => match k with
  | _ => ("", "", "", false)
def tyJxd2413 : Nat → FieldType := fun k => match k with
  | _ => .int
abbrev wsJxd24130 : List Cond := u_ws RJxd2413 TJxd2413 0
theorem nmJxd2413 : ∀ a, a < 0 → ∀ b, b < 0 → a ≠ b → (TJxd2413 a).2.1 ≠ (TJxd2413 b).2.1 := by decide +kernel
theorem tyJxd2413_ok : ∀ k, k < 0 → parseFieldDescriptor (TJxd2413 k).2.2.1 = some (tyJxd2413 k) := by decide +kernel
def RJ0 : String := "java/lang/String"
def TJ0 : u_T := fun k => match k with
  | 0 => ("java/lang/String", "value", "[B", true)
  | 1 => ("java/lang/String", "coder", "B", true)
  | 2 => ("java/lang/String", "hash", "I", false)
  | _ => ("java/lang/String", "hashIsZero", "Z", false)
def tyJ0 : Nat → FieldType := fun k => match k with
  | 0 => .array .byte
  | 1 => .byte
  | 2 => .int
  | _ => .boolean
abbrev wsJ00 : List Cond := u_ws RJ0 TJ0 4
theorem nmJ0 : ∀ a, a < 4 → ∀ b, b < 4 → a ≠ b → (TJ0 a).2.1 ≠ (TJ0 b).2.1 := by decide +kernel
theorem tyJ0_ok : ∀ k, k < 4 → parseFieldDescriptor (TJ0 k).2.2.1 = some (tyJ0 k) := by decide +kernel
abbrev cJ0_init_81219 : ByteArray := prog_24_method_53_code
def yJ0_init_81219 : MethodName := ⟨RJ0, "<init>", "(Ljava/lang/StringBuilder;)V"⟩
abbrev cJ0_length_8abf5 : ByteArray := prog_24_method_54_code
def yJ0_length_8abf5 : MethodName := ⟨RJ0, "length", "()I"⟩
abbrev cJ0_charAt_5068e : ByteArray := prog_24_method_56_code
def yJ0_charAt_5068e : MethodName := ⟨RJ0, "charAt", "(I)C"⟩
abbrev cJ0_getBytes_840e7 : ByteArray := prog_24_method_147_code
def yJ0_getBytes_840e7 : MethodName := ⟨RJ0, "getBytes", "([BIB)V"⟩
abbrev cJ0_init_db425 : ByteArray := prog_24_method_150_code
def yJ0_init_db425 : MethodName := ⟨RJ0, "<init>", "(Ljava/lang/AbstractStringBuilder;Ljava/lang/Void;)V"⟩
abbrev cJ0_coder_7d493 : ByteArray := prog_24_method_152_code
def yJ0_coder_7d493 : MethodName := ⟨RJ0, "coder", "()B"⟩
abbrev cJ0_isLatin1_aae02 : ByteArray := prog_24_method_154_code
def yJ0_isLatin1_aae02 : MethodName := ⟨RJ0, "isLatin1", "()Z"⟩
