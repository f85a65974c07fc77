abbrev cJ0_checkIndex_df160 : ByteArray := prog_24_method_155_code
def yJ0_checkIndex_df160 : MethodName := ⟨RJ0, "checkIndex", "(II)V"⟩
abbrev cJ0_checkBoundsOffCount_cabcc : ByteArray := prog_24_method_157_code
def yJ0_checkBoundsOffCount_cabcc : MethodName := ⟨RJ0, "checkBoundsOffCount", "(III)I"⟩
abbrev cJ0_checkBoundsBeginEnd_23922 : ByteArray := prog_24_method_158_code
def yJ0_checkBoundsBeginEnd_23922 : MethodName := ⟨RJ0, "checkBoundsBeginEnd", "(III)V"⟩
def RJ4 : String := "java/lang/StringBuilder"
def TJ4 : u_T := fun k => match k with
  | 0 => ("java/lang/AbstractStringBuilder", "value", "[B", false)
  | 1 => ("java/lang/AbstractStringBuilder", "coder", "B", false)
  | 2 => ("java/lang/AbstractStringBuilder", "maybeLatin1", "Z", false)
  | _ => ("java/lang/AbstractStringBuilder", "count", "I", false)
def tyJ4 : Nat → FieldType := fun k => match k with
  | 0 => .array .byte
  | 1 => .byte
  | 2 => .boolean
  | _ => .int
abbrev wsJ40 : List Cond := u_ws RJ4 TJ4 4
theorem nmJ4 : ∀ a, a < 4 → ∀ b, b < 4 → a ≠ b → (TJ4 a).2.1 ≠ (TJ4 b).2.1 := by decide +kernel
theorem tyJ4_ok : ∀ k, k < 4 → parseFieldDescriptor (TJ4 k).2.2.1 = some (tyJ4 k) := by decide +kernel
abbrev cJ4_init_da8c8 : ByteArray := prog_25_method_1_code
def yJ4_init_da8c8 : MethodName := ⟨RJ4, "<init>", "()V"⟩
abbrev cJ4_append_15ec4 : ByteArray := prog_25_method_7_code
def yJ4_append_15ec4 : MethodName := ⟨RJ4, "append", "(Ljava/lang/String;)Ljava/lang/StringBuilder;"⟩
abbrev cJ4_append_cf468 : ByteArray := prog_25_method_14_code
def yJ4_append_cf468 : MethodName := ⟨RJ4, "append", "(C)Ljava/lang/StringBuilder;"⟩
abbrev cJ4_append_bf812 : ByteArray := prog_25_method_15_code
def yJ4_append_bf812 : MethodName := ⟨RJ4, "append", "(I)Ljava/lang/StringBuilder;"⟩
abbrev cJ4_toString_0e30d : ByteArray := prog_25_method_42_code
def yJ4_toString_0e30d : MethodName := ⟨RJ4, "toString", "()Ljava/lang/String;"⟩
abbrev cJ4_length_8abf5 : ByteArray := prog_25_method_93_code
def yJ4_length_8abf5 : MethodName := ⟨RJ4, "length", "()I"⟩
def RJ1 : String := "java/lang/StringLatin1"
def TJ1 : u_T := fun k => match k with
  | _ => ("", "", "", false)
def tyJ1 : Nat → FieldType := fun k => match k with
  | _ => .int
abbrev wsJ10 : List Cond := u_ws RJ1 TJ1 0
theorem nmJ1 : ∀ a, a < 0 → ∀ b, b < 0 → a ≠ b → (TJ1 a).2.1 ≠ (TJ1 b).2.1 := by decide +kernel
theorem tyJ1_ok : ∀ k, k < 0 → parseFieldDescriptor (TJ1 k).2.2.1 = some (tyJ1 k) := by decide +kernel
abbrev cJ1_charAt_3b067 : ByteArray := prog_26_method_2_code
def yJ1_charAt_3b067 : MethodName := ⟨RJ1, "charAt", "([BI)C"⟩
abbrev cJ1_canEncode_fc78d : ByteArray := prog_26_method_3_code
def yJ1_canEncode_fc78d : MethodName := ⟨RJ1, "canEncode", "(C)Z"⟩
abbrev cJ1_inflate_0e8fd : ByteArray := prog_26_method_50_code
def yJ1_inflate_0e8fd : MethodName := ⟨RJ1, "inflate", "([BI[BII)V"⟩
def RJ2 : String := "java/lang/StringUTF16"
def TJ2 : u_T := fun k => match k with
  | _ => ("", "", "", false)
def tyJ2 : Nat → FieldType := fun k => match k with
  | _ => .int
abbrev wsJ20 : List Cond := u_ws RJ2 TJ2 0
theorem nmJ2 : ∀ a, a < 0 → ∀ b, b < 0 → a ≠ b → (TJ2 a).2.1 ≠ (TJ2 b).2.1 := by decide +kernel
theorem tyJ2_ok : ∀ k, k < 0 → parseFieldDescriptor (TJ2 k).2.2.1 = some (tyJ2 k) := by decide +kernel
abbrev cJ2_newBytesFor_77867 : ByteArray := prog_27_method_2_code
def yJ2_newBytesFor_77867 : MethodName := ⟨RJ2, "newBytesFor", "(I)[B"⟩
abbrev cJ2_newBytesLength_0f7a4 : ByteArray := prog_27_method_3_code
def yJ2_newBytesLength_0f7a4 : MethodName := ⟨RJ2, "newBytesLength", "(I)I"⟩
abbrev cJ2_putChar_b72d1 : ByteArray := prog_27_method_4_code
def yJ2_putChar_b72d1 : MethodName := ⟨RJ2, "putChar", "([BII)V"⟩
abbrev cJ2_getChar_3b067 : ByteArray := prog_27_method_5_code
def yJ2_getChar_3b067 : MethodName := ⟨RJ2, "getChar", "([BI)C"⟩
abbrev cJ2_length_9d52b : ByteArray := prog_27_method_6_code
def yJ2_length_9d52b : MethodName := ⟨RJ2, "length", "([B)I"⟩
abbrev cJ2_coderFromArrayLen_85cad : ByteArray := prog_27_method_15_code
def yJ2_coderFromArrayLen_85cad : MethodName := ⟨RJ2, "coderFromArrayLen", "([BI)B"⟩
abbrev cJ2_compress_39247 : ByteArray := prog_27_method_17_code
def yJ2_compress_39247 : MethodName := ⟨RJ2, "compress", "([BII)[B"⟩
abbrev cJ2_compress_5af95 : ByteArray := prog_27_method_22_code
def yJ2_compress_5af95 : MethodName := ⟨RJ2, "compress", "([BI[BII)I"⟩
abbrev cJ2_putCharSB_b72d1 : ByteArray := prog_27_method_71_code
def yJ2_putCharSB_b72d1 : MethodName := ⟨RJ2, "putCharSB", "([BII)V"⟩
abbrev cJ2_getChars_46870 : ByteArray := prog_27_method_77_code
def yJ2_getChars_46870 : MethodName := ⟨RJ2, "getChars", "(III[B)I"⟩
abbrev cJ2_putCharsAt_cd4e5 : ByteArray := prog_27_method_81_code
def yJ2_putCharsAt_cd4e5 : MethodName := ⟨RJ2, "putCharsAt", "([BICCCC)I"⟩
abbrev cJ2_charAt_3b067 : ByteArray := prog_27_method_83_code
def yJ2_charAt_3b067 : MethodName := ⟨RJ2, "charAt", "([BI)C"⟩
abbrev cJ2_inflate_0e8fd : ByteArray := prog_27_method_86_code
def yJ2_inflate_0e8fd : MethodName := ⟨RJ2, "inflate", "([BI[BII)V"⟩
abbrev cJ2_getChars_ba4f3 : ByteArray := prog_27_method_89_code
def yJ2_getChars_ba4f3 : MethodName := ⟨RJ2, "getChars", "(II[B)I"⟩
abbrev cJ2_checkIndex_2214a : ByteArray := prog_27_method_91_code
def yJ2_checkIndex_2214a : MethodName := ⟨RJ2, "checkIndex", "(I[B)V"⟩
abbrev cJ2_checkBoundsBeginEnd_d044e : ByteArray := prog_27_method_93_code
def yJ2_checkBoundsBeginEnd_d044e : MethodName := ⟨RJ2, "checkBoundsBeginEnd", "(II[B)V"⟩
abbrev cJ2_checkBoundsOffCount_d044e : ByteArray := prog_27_method_94_code
def yJ2_checkBoundsOffCount_d044e : MethodName := ⟨RJ2, "checkBoundsOffCount", "(II[B)V"⟩
def RJ10 : String := "java/lang/System"
def TJ10 : u_T := fun k => match k with
  | _ => ("", "", "", false)
def tyJ10 : Nat → FieldType := fun k => match k with
  | _ => .int
abbrev wsJ100 : List Cond := u_ws RJ10 TJ10 0
theorem nmJ10 : ∀ a, a < 0 → ∀ b, b < 0 → a ≠ b → (TJ10 a).2.1 ≠ (TJ10 b).2.1 := by decide +kernel
theorem tyJ10_ok : ∀ k, k < 0 → parseFieldDescriptor (TJ10 k).2.2.1 = some (tyJ10 k) := by decide +kernel
def RJxfd54e : String := "java/lang/constant/Constable"
def TJxfd54e : u_T := fun k => match k with
  | _ => ("", "", "", false)
def tyJxfd54e : Nat → FieldType := fun k => match k with
  | _ => .int
abbrev wsJxfd54e0 : List Cond := u_ws RJxfd54e TJxfd54e 0
theorem nmJxfd54e : ∀ a, a < 0 → ∀ b, b < 0 → a ≠ b → (TJxfd54e a).2.1 ≠ (TJxfd54e b).2.1 := by decide +kernel
theorem tyJxfd54e_ok : ∀ k, k < 0 → parseFieldDescriptor (TJxfd54e k).2.2.1 = some (tyJxfd54e k) := by decide +kernel
def RJx3cf43 : String := "java/lang/constant/ConstantDesc"
def TJx3cf43 : u_T := fun k => match k with
  | _ => ("", "", "", false)
def tyJx3cf43 : Nat → FieldType := fun k => match k with
  | _ => .int
abbrev wsJx3cf430 : List Cond := u_ws RJx3cf43 TJx3cf43 0
theorem nmJx3cf43 : ∀ a, a < 0 → ∀ b, b < 0 → a ≠ b → (TJx3cf43 a).2.1 ≠ (TJx3cf43 b).2.1 := by decide +kernel
theorem tyJx3cf43_ok : ∀ k, k < 0 → parseFieldDescriptor (TJx3cf43 k).2.2.1 = some (tyJx3cf43 k) := by decide +kernel
def RJ7 : String := "java/util/Arrays"
def TJ7 : u_T := fun k => match k with
  | _ => ("", "", "", false)
def tyJ7 : Nat → FieldType := fun k => match k with
  | _ => .int
abbrev wsJ70 : List Cond := u_ws RJ7 TJ7 0
theorem nmJ7 : ∀ a, a < 0 → ∀ b, b < 0 → a ≠ b → (TJ7 a).2.1 ≠ (TJ7 b).2.1 := by decide +kernel
theorem tyJ7_ok : ∀ k, k < 0 → parseFieldDescriptor (TJ7 k).2.2.1 = some (tyJ7 k) := by decide +kernel
abbrev cJ7_copyOf_9075b : ByteArray := prog_33_method_121_code
def yJ7_copyOf_9075b : MethodName := ⟨RJ7, "copyOf", "([BI)[B"⟩
abbrev cJ7_checkLength_df160 : ByteArray := prog_33_method_131_code
def yJ7_checkLength_df160 : MethodName := ⟨RJ7, "checkLength", "(II)V"⟩
abbrev cJ7_copyOfRange_39247 : ByteArray := prog_33_method_132_code
def yJ7_copyOfRange_39247 : MethodName := ⟨RJ7, "copyOfRange", "([BII)[B"⟩
abbrev cJ7_copyOfRangeByte_39247 : ByteArray := prog_33_method_133_code
def yJ7_copyOfRangeByte_39247 : MethodName := ⟨RJ7, "copyOfRangeByte", "([BII)[B"⟩
def RJ8 : String := "jdk/internal/util/ArraysSupport"
def TJ8 : u_T := fun k => match k with
  | _ => ("", "", "", false)
def tyJ8 : Nat → FieldType := fun k => match k with
  | _ => .int
abbrev wsJ80 : List Cond := u_ws RJ8 TJ8 0
theorem nmJ8 : ∀ a, a < 0 → ∀ b, b < 0 → a ≠ b → (TJ8 a).2.1 ≠ (TJ8 b).2.1 := by decide +kernel
theorem tyJ8_ok : ∀ k, k < 0 → parseFieldDescriptor (TJ8 k).2.2.1 = some (tyJ8 k) := by decide +kernel
abbrev cJ8_newLength_cabcc : ByteArray := prog_35_method_27_code
def yJ8_newLength_cabcc : MethodName := ⟨RJ8, "newLength", "(III)I"⟩
abbrev cJ8_hugeLength_7cf53 : ByteArray := prog_35_method_28_code
def yJ8_hugeLength_7cf53 : MethodName := ⟨RJ8, "hugeLength", "(II)I"⟩
def RJ3 : String := "jdk/internal/util/Preconditions"
def TJ3 : u_T := fun k => match k with
  | _ => ("", "", "", false)
def tyJ3 : Nat → FieldType := fun k => match k with
  | _ => .int
abbrev wsJ30 : List Cond := u_ws RJ3 TJ3 0
theorem nmJ3 : ∀ a, a < 0 → ∀ b, b < 0 → a ≠ b → (TJ3 a).2.1 ≠ (TJ3 b).2.1 := by decide +kernel
theorem tyJ3_ok : ∀ k, k < 0 → parseFieldDescriptor (TJ3 k).2.2.1 = some (tyJ3 k) := by decide +kernel
abbrev cJ3_checkIndex_8e157 : ByteArray := prog_36_method_11_code
def yJ3_checkIndex_8e157 : MethodName := ⟨RJ3, "checkIndex", "(IILjava/util/function/BiFunction;)I"⟩
abbrev cJ3_checkFromToIndex_8c36e : ByteArray := prog_36_method_12_code
def yJ3_checkFromToIndex_8c36e : MethodName := ⟨RJ3, "checkFromToIndex", "(IIILjava/util/function/BiFunction;)I"⟩
abbrev cJ3_checkFromIndexSize_8c36e : ByteArray := prog_36_method_13_code
def yJ3_checkFromIndexSize_8c36e : MethodName := ⟨RJ3, "checkFromIndexSize", "(IIILjava/util/function/BiFunction;)I"⟩
def RL : String := "TreeConfiguratorLaw"
abbrev cL_addFeature : ByteArray := method_3_code
def yL_addFeature : MethodName := ⟨RL, "addFeature", "(LTreeConfigurator;II[J)I"⟩
abbrev cL_setMandatory : ByteArray := method_4_code
def yL_setMandatory : MethodName := ⟨RL, "setMandatory", "(LTreeConfigurator;IZ[J)I"⟩
abbrev cL_setGroup : ByteArray := method_5_code
def yL_setGroup : MethodName := ⟨RL, "setGroup", "(LTreeConfigurator;III[J)I"⟩
abbrev cL_require : ByteArray := method_6_code
def yL_require : MethodName := ⟨RL, "require", "(LTreeConfigurator;II[J)I"⟩
abbrev cL_exclude : ByteArray := method_7_code
def yL_exclude : MethodName := ⟨RL, "exclude", "(LTreeConfigurator;II[J)I"⟩
abbrev cL_any : ByteArray := method_8_code
def yL_any : MethodName := ⟨RL, "any", "(LTreeConfigurator;III[J)I"⟩
abbrev cL_lift : ByteArray := method_9_code
def yL_lift : MethodName := ⟨RL, "lift", "(LTreeConfigurator;I[J)I"⟩
abbrev cL_choose : ByteArray := method_10_code
def yL_choose : MethodName := ⟨RL, "choose", "(LTreeConfigurator;I[J)I"⟩
abbrev cL_refuse : ByteArray := method_11_code
def yL_refuse : MethodName := ⟨RL, "refuse", "(LTreeConfigurator;I[J)I"⟩
abbrev cL_retract : ByteArray := method_12_code
def yL_retract : MethodName := ⟨RL, "retract", "(LTreeConfigurator;I[J)I"⟩
abbrev cL_stateOf : ByteArray := method_13_code
def yL_stateOf : MethodName := ⟨RL, "stateOf", "(LTreeConfigurator;I[J)I"⟩
abbrev cL_stateByAll : ByteArray := method_14_code
def yL_stateByAll : MethodName := ⟨RL, "stateByAll", "(LTreeConfigurator;I[J)I"⟩
abbrev cL_known : ByteArray := method_15_code
def yL_known : MethodName := ⟨RL, "known", "(LTreeConfigurator;I[J)I"⟩
abbrev cL_reasonOf : ByteArray := method_16_code
def yL_reasonOf : MethodName := ⟨RL, "reasonOf", "(LTreeConfigurator;I[J)I"⟩
abbrev cL_reasonRule : ByteArray := method_17_code
def yL_reasonRule : MethodName := ⟨RL, "reasonRule", "(LTreeConfigurator;I[J)I"⟩
abbrev cL_isConfiguration : ByteArray := method_18_code
def yL_isConfiguration : MethodName := ⟨RL, "isConfiguration", "(LTreeConfigurator;I[J)I"⟩
abbrev cL_addBundle : ByteArray := method_19_code
def yL_addBundle : MethodName := ⟨RL, "addBundle", "(LTreeConfigurator;III[J)I"⟩
abbrev cL_addPercent : ByteArray := method_20_code
def yL_addPercent : MethodName := ⟨RL, "addPercent", "(LTreeConfigurator;I[J)I"⟩
abbrev cL_addSurcharge : ByteArray := method_21_code
def yL_addSurcharge : MethodName := ⟨RL, "addSurcharge", "(LTreeConfigurator;II[J)I"⟩
abbrev cL_removeLayer : ByteArray := method_22_code
def yL_removeLayer : MethodName := ⟨RL, "removeLayer", "(LTreeConfigurator;[J)I"⟩
abbrev cL_price : ByteArray := method_23_code
def yL_price : MethodName := ⟨RL, "price", "(LTreeConfigurator;I[J)I"⟩
abbrev cL_fewest : ByteArray := method_24_code
def yL_fewest : MethodName := ⟨RL, "fewest", "(LTreeConfigurator;IZ[J)I"⟩
abbrev cL_toRetract : ByteArray := method_25_code
def yL_toRetract : MethodName := ⟨RL, "toRetract", "(LTreeConfigurator;IZ[J)I"⟩
abbrev cL_force : ByteArray := method_26_code
def yL_force : MethodName := ⟨RL, "force", "(LTreeConfigurator;IZ[J)I"⟩
abbrev cL_lineAt : ByteArray := method_27_code
def yL_lineAt : MethodName := ⟨RL, "lineAt", "(LTreeConfigurator;I[J)I"⟩
abbrev cL_law : ByteArray := code
def yL_law : MethodName := ⟨RL, "law", "([I)Z"⟩
def wsX0_init : List Cond := .code yX0_init cX0_init 1 none :: ([.methodLink RX0 3 objectInit, .instanceMethod objectInit, .code objectInit ⟨#[0xb1]⟩ 1 none, .arrayClass .char, .fieldLink RX0 9 "TreeConfigurator$Deduction" "reasons" "[C", .arrayClass .int, .fieldLink RX0 15 "TreeConfigurator$Deduction" "reasonRules" "[I"] ++ wsX00)
def wsX6_has : List Cond := .code yX6_has cX6_has 2 (some .boolean) :: ([])
def wsX0_knows : List Cond := .code yX0_knows cX0_knows 2 (some .boolean) :: ([.fieldLink RX0 19 "TreeConfigurator$Deduction" "in" "I", .fieldLink RX0 23 "TreeConfigurator$Deduction" "out" "I", .static yX6_has, .initialized RX6, .code yX6_has cX6_has 2 (some .boolean)] ++ wsX00)
def wsX0_letterByKin : List Cond := .code yX0_letterByKin cX0_letterByKin 5 (some .char) :: ([.fieldLink RX0 19 "TreeConfigurator$Deduction" "in" "I", .fieldLink RX0 23 "TreeConfigurator$Deduction" "out" "I", .static yX6_has, .initialized RX6, .code yX6_has cX6_has 2 (some .boolean)] ++ wsX50 ++ wsX00)
def wsJ6_bitCount_0f7a4 : List Cond := .code yJ6_bitCount_0f7a4 cJ6_bitCount_0f7a4 1 (some .int) :: ([.constant RJ6 265 (1431655765), .constant RJ6 266 (858993459), .constant RJ6 267 (252645135)])
def wsX0_letterByGroup : List Cond := .code yX0_letterByGroup cX0_letterByGroup 5 (some .char) :: ([.fieldLink RX0 19 "TreeConfigurator$Deduction" "in" "I", .fieldLink RX0 23 "TreeConfigurator$Deduction" "out" "I", .static yX6_has, .initialized RX6, .code yX6_has cX6_has 2 (some .boolean), .methodLink RX0 80 yJ6_bitCount_0f7a4, .static yJ6_bitCount_0f7a4, .initialized RJ6, .code yJ6_bitCount_0f7a4 cJ6_bitCount_0f7a4 1 (some .int), .constant RJ6 265 (1431655765), .constant RJ6 266 (858993459), .constant RJ6 267 (252645135)] ++ wsX50 ++ wsX00)
def wsX0_learn : List Cond := .code yX0_learn cX0_learn 4 none :: ([.fieldLink RX0 9 "TreeConfigurator$Deduction" "reasons" "[C", .fieldLink RX0 19 "TreeConfigurator$Deduction" "in" "I", .fieldLink RX0 23 "TreeConfigurator$Deduction" "out" "I"] ++ wsX00)
def wsX0_learnByTree_r1 : List Cond := [Cond.methodLink RX0 51 yX0_letterByKin, Cond.instanceMethod yX0_letterByKin, Cond.selects RX0 yX0_letterByKin yX0_letterByKin, Cond.initialized RX0, Cond.code yX0_letterByKin cX0_letterByKin 5 (some .char), Cond.fieldLink RX0 19 "TreeConfigurator$Deduction" "in" "I", Cond.fieldLink RX0 23 "TreeConfigurator$Deduction" "out" "I", Cond.static yX6_has, Cond.initialized RX6, Cond.code yX6_has cX6_has 2 (some .boolean), Cond.methodLink RX0 55 yX0_letterByGroup, Cond.instanceMethod yX0_letterByGroup, Cond.selects RX0 yX0_letterByGroup yX0_letterByGroup, Cond.code yX0_letterByGroup cX0_letterByGroup 5 (some .char), Cond.methodLink RX0 80 yJ6_bitCount_0f7a4, Cond.static yJ6_bitCount_0f7a4, Cond.initialized RJ6, Cond.code yJ6_bitCount_0f7a4 cJ6_bitCount_0f7a4 1 (some .int), Cond.constant RJ6 265 (1431655765), Cond.constant RJ6 266 (858993459), Cond.constant RJ6 267 (252645135), Cond.methodLink RX0 58 yX0_learn, Cond.instanceMethod yX0_learn, Cond.selects RX0 yX0_learn yX0_learn]
def wsX0_learnByTree_r2 : List Cond := [Cond.code yX0_learn cX0_learn 4 none, Cond.fieldLink RX0 9 "TreeConfigurator$Deduction" "reasons" "[C"]
def wsX0_learnByTree : List Cond := .code yX0_learnByTree cX0_learnByTree 4 (some .boolean) :: ((wsX0_learnByTree_r1 ++ wsX0_learnByTree_r2) ++ wsX50 ++ wsX00)
def wsX3_lastKeptBy : List Cond := .code yX3_lastKeptBy cX3_lastKeptBy 7 (some .int) :: ([.fieldLink RX3 21 "TreeConfigurator$Rules" "count" "I", .fieldLink RX3 9 "TreeConfigurator$Rules" "wanted" "[I", .fieldLink RX3 15 "TreeConfigurator$Rules" "unwanted" "[I", .fieldLink RX3 25 "TreeConfigurator$Rules" "inForce" "I", .static yX6_has, .initialized RX6, .code yX6_has cX6_has 2 (some .boolean)] ++ wsX30)
def wsX0_learnByRule : List Cond := .code yX0_learnByRule cX0_learnByRule 4 (some .boolean) :: ([.fieldLink RX0 19 "TreeConfigurator$Deduction" "in" "I", .fieldLink RX0 23 "TreeConfigurator$Deduction" "out" "I", .fieldLink RX0 15 "TreeConfigurator$Deduction" "reasonRules" "[I", .instanceMethod yX3_lastKeptBy, .initialized RX3, .selects RX3 yX3_lastKeptBy yX3_lastKeptBy, .code yX3_lastKeptBy cX3_lastKeptBy 7 (some .int), .fieldLink RX3 21 "TreeConfigurator$Rules" "count" "I", .fieldLink RX3 9 "TreeConfigurator$Rules" "wanted" "[I", .fieldLink RX3 15 "TreeConfigurator$Rules" "unwanted" "[I", .fieldLink RX3 25 "TreeConfigurator$Rules" "inForce" "I", .static yX6_has, .initialized RX6, .code yX6_has cX6_has 2 (some .boolean), .methodLink RX0 58 yX0_learn, .instanceMethod yX0_learn, .selects RX0 yX0_learn yX0_learn, .initialized RX0, .code yX0_learn cX0_learn 4 none, .fieldLink RX0 9 "TreeConfigurator$Deduction" "reasons" "[C"] ++ wsX00 ++ wsX30)
def wsX0_learnLowest_r1 : List Cond := [Cond.methodLink RX0 39 yX0_knows, Cond.instanceMethod yX0_knows, Cond.selects RX0 yX0_knows yX0_knows, Cond.initialized RX0, Cond.code yX0_knows cX0_knows 2 (some .boolean), Cond.fieldLink RX0 19 "TreeConfigurator$Deduction" "in" "I", Cond.fieldLink RX0 23 "TreeConfigurator$Deduction" "out" "I", Cond.static yX6_has, Cond.initialized RX6, Cond.code yX6_has cX6_has 2 (some .boolean), Cond.methodLink RX0 43 yX0_learnByTree, Cond.instanceMethod yX0_learnByTree, Cond.selects RX0 yX0_learnByTree yX0_learnByTree, Cond.code yX0_learnByTree cX0_learnByTree 4 (some .boolean), Cond.methodLink RX0 51 yX0_letterByKin, Cond.instanceMethod yX0_letterByKin, Cond.selects RX0 yX0_letterByKin yX0_letterByKin, Cond.code yX0_letterByKin cX0_letterByKin 5 (some .char), Cond.methodLink RX0 55 yX0_letterByGroup, Cond.instanceMethod yX0_letterByGroup, Cond.selects RX0 yX0_letterByGroup yX0_letterByGroup, Cond.code yX0_letterByGroup cX0_letterByGroup 5 (some .char), Cond.methodLink RX0 80 yJ6_bitCount_0f7a4, Cond.static yJ6_bitCount_0f7a4]
def wsX0_learnLowest_r2 : List Cond := [Cond.initialized RJ6, Cond.code yJ6_bitCount_0f7a4 cJ6_bitCount_0f7a4 1 (some .int), Cond.constant RJ6 265 (1431655765), Cond.constant RJ6 266 (858993459), Cond.constant RJ6 267 (252645135), Cond.methodLink RX0 58 yX0_learn, Cond.instanceMethod yX0_learn, Cond.selects RX0 yX0_learn yX0_learn, Cond.code yX0_learn cX0_learn 4 none, Cond.fieldLink RX0 9 "TreeConfigurator$Deduction" "reasons" "[C", Cond.methodLink RX0 47 yX0_learnByRule, Cond.instanceMethod yX0_learnByRule, Cond.selects RX0 yX0_learnByRule yX0_learnByRule, Cond.code yX0_learnByRule cX0_learnByRule 4 (some .boolean), Cond.fieldLink RX0 15 "TreeConfigurator$Deduction" "reasonRules" "[I", Cond.instanceMethod yX3_lastKeptBy, Cond.initialized RX3, Cond.selects RX3 yX3_lastKeptBy yX3_lastKeptBy, Cond.code yX3_lastKeptBy cX3_lastKeptBy 7 (some .int), Cond.fieldLink RX3 21 "TreeConfigurator$Rules" "count" "I", Cond.fieldLink RX3 9 "TreeConfigurator$Rules" "wanted" "[I", Cond.fieldLink RX3 15 "TreeConfigurator$Rules" "unwanted" "[I", Cond.fieldLink RX3 25 "TreeConfigurator$Rules" "inForce" "I"]
def wsX0_learnLowest : List Cond := .code yX0_learnLowest cX0_learnLowest 4 (some .boolean) :: ((wsX0_learnLowest_r1 ++ wsX0_learnLowest_r2) ++ wsX50 ++ wsX00 ++ wsX30)
def wsX0_run_r1 : List Cond := [Cond.fieldLink RX0 19 "TreeConfigurator$Deduction" "in" "I", Cond.fieldLink RX0 23 "TreeConfigurator$Deduction" "out" "I", Cond.fieldLink RX0 9 "TreeConfigurator$Deduction" "reasons" "[C", Cond.static yX6_has, Cond.initialized RX6, Cond.code yX6_has cX6_has 2 (some .boolean), Cond.methodLink RX0 35 yX0_learnLowest, Cond.instanceMethod yX0_learnLowest, Cond.selects RX0 yX0_learnLowest yX0_learnLowest, Cond.initialized RX0, Cond.code yX0_learnLowest cX0_learnLowest 4 (some .boolean), Cond.methodLink RX0 39 yX0_knows, Cond.instanceMethod yX0_knows, Cond.selects RX0 yX0_knows yX0_knows, Cond.code yX0_knows cX0_knows 2 (some .boolean), Cond.methodLink RX0 43 yX0_learnByTree, Cond.instanceMethod yX0_learnByTree, Cond.selects RX0 yX0_learnByTree yX0_learnByTree, Cond.code yX0_learnByTree cX0_learnByTree 4 (some .boolean), Cond.methodLink RX0 51 yX0_letterByKin, Cond.instanceMethod yX0_letterByKin, Cond.selects RX0 yX0_letterByKin yX0_letterByKin, Cond.code yX0_letterByKin cX0_letterByKin 5 (some .char), Cond.methodLink RX0 55 yX0_letterByGroup]
def wsX0_run_r2 : List Cond := [Cond.instanceMethod yX0_letterByGroup, Cond.selects RX0 yX0_letterByGroup yX0_letterByGroup, Cond.code yX0_letterByGroup cX0_letterByGroup 5 (some .char), Cond.methodLink RX0 80 yJ6_bitCount_0f7a4, Cond.static yJ6_bitCount_0f7a4, Cond.initialized RJ6, Cond.code yJ6_bitCount_0f7a4 cJ6_bitCount_0f7a4 1 (some .int), Cond.constant RJ6 265 (1431655765), Cond.constant RJ6 266 (858993459), Cond.constant RJ6 267 (252645135), Cond.methodLink RX0 58 yX0_learn, Cond.instanceMethod yX0_learn, Cond.selects RX0 yX0_learn yX0_learn, Cond.code yX0_learn cX0_learn 4 none, Cond.methodLink RX0 47 yX0_learnByRule, Cond.instanceMethod yX0_learnByRule, Cond.selects RX0 yX0_learnByRule yX0_learnByRule, Cond.code yX0_learnByRule cX0_learnByRule 4 (some .boolean), Cond.fieldLink RX0 15 "TreeConfigurator$Deduction" "reasonRules" "[I", Cond.instanceMethod yX3_lastKeptBy, Cond.initialized RX3, Cond.selects RX3 yX3_lastKeptBy yX3_lastKeptBy, Cond.code yX3_lastKeptBy cX3_lastKeptBy 7 (some .int), Cond.fieldLink RX3 21 "TreeConfigurator$Rules" "count" "I"]
def wsX0_run_r3 : List Cond := [Cond.fieldLink RX3 9 "TreeConfigurator$Rules" "wanted" "[I", Cond.fieldLink RX3 15 "TreeConfigurator$Rules" "unwanted" "[I", Cond.fieldLink RX3 25 "TreeConfigurator$Rules" "inForce" "I"]
def wsX0_run : List Cond := .code yX0_run cX0_run 7 none :: ((wsX0_run_r1 ++ (wsX0_run_r2 ++ wsX0_run_r3)) ++ wsX00 ++ wsX50 ++ wsX30)
def wsX1_init : List Cond := .code yX1_init cX1_init 1 none :: ([.methodLink RX1 1 objectInit, .instanceMethod objectInit, .code objectInit ⟨#[0xb1]⟩ 1 none, .arrayClass .char, .fieldLink RX1 9 "TreeConfigurator$Line" "signs" "[C"] ++ wsX10)
def wsX1_append : List Cond := .code yX1_append cX1_append 2 none :: ([.fieldLink RX1 13 "TreeConfigurator$Line" "length" "I", .fieldLink RX1 9 "TreeConfigurator$Line" "signs" "[C"] ++ wsX10)
def wsX1_write : List Cond := .code yX1_write cX1_write 4 none :: ([.fieldLink RX1 13 "TreeConfigurator$Line" "length" "I", .methodLink RX1 17 yX1_append, .instanceMethod yX1_append, .selects RX1 yX1_append yX1_append, .initialized RX1, .code yX1_append cX1_append 2 none, .fieldLink RX1 9 "TreeConfigurator$Line" "signs" "[C", .instanceMethod yX0_knows, .initialized RX0, .selects RX0 yX0_knows yX0_knows, .code yX0_knows cX0_knows 2 (some .boolean), .fieldLink RX0 19 "TreeConfigurator$Deduction" "in" "I", .fieldLink RX0 23 "TreeConfigurator$Deduction" "out" "I", .static yX6_has, .initialized RX6, .code yX6_has cX6_has 2 (some .boolean)] ++ wsX10 ++ wsX00)
def wsX2_init : List Cond := .code yX2_init cX2_init 1 none :: ([.methodLink RX2 3 objectInit, .instanceMethod objectInit, .code objectInit ⟨#[0xb1]⟩ 1 none, .arrayClass .int, .fieldLink RX2 9 "TreeConfigurator$Prices" "first" "[I", .fieldLink RX2 15 "TreeConfigurator$Prices" "kinds" "[I", .fieldLink RX2 18 "TreeConfigurator$Prices" "details" "[I", .fieldLink RX2 21 "TreeConfigurator$Prices" "amounts" "[I"] ++ wsX20)
def wsX2_setFirst : List Cond := .code yX2_setFirst cX2_setFirst 3 none :: ([.fieldLink RX2 9 "TreeConfigurator$Prices" "first" "[I"] ++ wsX20)
def wsX2_append : List Cond := .code yX2_append cX2_append 4 none :: ([.fieldLink RX2 15 "TreeConfigurator$Prices" "kinds" "[I", .fieldLink RX2 24 "TreeConfigurator$Prices" "added" "I", .fieldLink RX2 18 "TreeConfigurator$Prices" "details" "[I", .fieldLink RX2 21 "TreeConfigurator$Prices" "amounts" "[I"] ++ wsX20)
def wsX2_sumOf : List Cond := .code yX2_sumOf cX2_sumOf 4 (some .int) :: ([.fieldLink RX2 9 "TreeConfigurator$Prices" "first" "[I", .static yX6_has, .initialized RX6, .code yX6_has cX6_has 2 (some .boolean)] ++ wsX20)
def wsX2_answerOf : List Cond := .code yX2_answerOf cX2_answerOf 6 (some .int) :: ([.fieldLink RX2 18 "TreeConfigurator$Prices" "details" "[I", .fieldLink RX2 21 "TreeConfigurator$Prices" "amounts" "[I", .fieldLink RX2 15 "TreeConfigurator$Prices" "kinds" "[I", .methodLink RX2 45 Lib.Math.max.name, .static Lib.Math.max.name, .initialized "java/lang/Math", .code Lib.Math.max.name Lib.Math.max.code 2 (some .int), .methodLink RX2 40 yJ6_bitCount_0f7a4, .static yJ6_bitCount_0f7a4, .initialized RJ6, .code yJ6_bitCount_0f7a4 cJ6_bitCount_0f7a4 1 (some .int), .constant RJ6 265 (1431655765), .constant RJ6 266 (858993459), .constant RJ6 267 (252645135)] ++ wsX20)
def wsX2_ofSet_r1 : List Cond := [Cond.fieldLink RX2 24 "TreeConfigurator$Prices" "added" "I", Cond.methodLink RX2 28 yX2_sumOf, Cond.instanceMethod yX2_sumOf, Cond.selects RX2 yX2_sumOf yX2_sumOf, Cond.initialized RX2, Cond.code yX2_sumOf cX2_sumOf 4 (some .int), Cond.fieldLink RX2 9 "TreeConfigurator$Prices" "first" "[I", Cond.static yX6_has, Cond.initialized RX6, Cond.code yX6_has cX6_has 2 (some .boolean), Cond.methodLink RX2 32 yX2_answerOf, Cond.instanceMethod yX2_answerOf, Cond.selects RX2 yX2_answerOf yX2_answerOf, Cond.code yX2_answerOf cX2_answerOf 6 (some .int), Cond.fieldLink RX2 18 "TreeConfigurator$Prices" "details" "[I", Cond.fieldLink RX2 21 "TreeConfigurator$Prices" "amounts" "[I", Cond.fieldLink RX2 15 "TreeConfigurator$Prices" "kinds" "[I", Cond.methodLink RX2 45 Lib.Math.max.name, Cond.static Lib.Math.max.name, Cond.initialized "java/lang/Math", Cond.code Lib.Math.max.name Lib.Math.max.code 2 (some .int), Cond.methodLink RX2 40 yJ6_bitCount_0f7a4, Cond.static yJ6_bitCount_0f7a4, Cond.initialized RJ6]
def wsX2_ofSet_r2 : List Cond := [Cond.code yJ6_bitCount_0f7a4 cJ6_bitCount_0f7a4 1 (some .int), Cond.constant RJ6 265 (1431655765), Cond.constant RJ6 266 (858993459), Cond.constant RJ6 267 (252645135)]
def wsX2_ofSet : List Cond := .code yX2_ofSet cX2_ofSet 4 (some .int) :: ((wsX2_ofSet_r1 ++ wsX2_ofSet_r2) ++ wsX20)
def wsJ6_compare_7cf53 : List Cond := .code yJ6_compare_7cf53 cJ6_compare_7cf53 2 (some .int) :: ([])
def wsX2_cheaperOf_r1 : List Cond := [Cond.methodLink RX2 45 Lib.Math.max.name, Cond.static Lib.Math.max.name, Cond.initialized "java/lang/Math", Cond.code Lib.Math.max.name Lib.Math.max.code 2 (some .int), Cond.methodLink RX2 51 yX2_ofSet, Cond.instanceMethod yX2_ofSet, Cond.selects RX2 yX2_ofSet yX2_ofSet, Cond.initialized RX2, Cond.code yX2_ofSet cX2_ofSet 4 (some .int), Cond.fieldLink RX2 24 "TreeConfigurator$Prices" "added" "I", Cond.methodLink RX2 28 yX2_sumOf, Cond.instanceMethod yX2_sumOf, Cond.selects RX2 yX2_sumOf yX2_sumOf, Cond.code yX2_sumOf cX2_sumOf 4 (some .int), Cond.fieldLink RX2 9 "TreeConfigurator$Prices" "first" "[I", Cond.static yX6_has, Cond.initialized RX6, Cond.code yX6_has cX6_has 2 (some .boolean), Cond.methodLink RX2 32 yX2_answerOf, Cond.instanceMethod yX2_answerOf, Cond.selects RX2 yX2_answerOf yX2_answerOf, Cond.code yX2_answerOf cX2_answerOf 6 (some .int), Cond.fieldLink RX2 18 "TreeConfigurator$Prices" "details" "[I", Cond.fieldLink RX2 21 "TreeConfigurator$Prices" "amounts" "[I"]
def wsX2_cheaperOf_r2 : List Cond := [Cond.fieldLink RX2 15 "TreeConfigurator$Prices" "kinds" "[I", Cond.methodLink RX2 40 yJ6_bitCount_0f7a4, Cond.static yJ6_bitCount_0f7a4, Cond.initialized RJ6, Cond.code yJ6_bitCount_0f7a4 cJ6_bitCount_0f7a4 1 (some .int), Cond.constant RJ6 265 (1431655765), Cond.constant RJ6 266 (858993459), Cond.constant RJ6 267 (252645135), Cond.methodLink RX2 54 yJ6_compare_7cf53, Cond.static yJ6_compare_7cf53, Cond.code yJ6_compare_7cf53 cJ6_compare_7cf53 2 (some .int)]
def wsX2_cheaperOf : List Cond := .code yX2_cheaperOf cX2_cheaperOf 4 (some .int) :: ((wsX2_cheaperOf_r1 ++ wsX2_cheaperOf_r2) ++ wsX20)
def wsX3_init : List Cond := .code yX3_init cX3_init 1 none :: ([.methodLink RX3 3 objectInit, .instanceMethod objectInit, .code objectInit ⟨#[0xb1]⟩ 1 none, .arrayClass .int, .fieldLink RX3 9 "TreeConfigurator$Rules" "wanted" "[I", .fieldLink RX3 15 "TreeConfigurator$Rules" "unwanted" "[I", .fieldLink RX3 18 "TreeConfigurator$Rules" "last" "[I"] ++ wsX30)
def wsX3_append : List Cond := .code yX3_append cX3_append 5 (some .int) :: ([.fieldLink RX3 21 "TreeConfigurator$Rules" "count" "I", .fieldLink RX3 9 "TreeConfigurator$Rules" "wanted" "[I", .fieldLink RX3 15 "TreeConfigurator$Rules" "unwanted" "[I", .fieldLink RX3 18 "TreeConfigurator$Rules" "last" "[I", .fieldLink RX3 25 "TreeConfigurator$Rules" "inForce" "I"] ++ wsX30)
def wsX3_dropLast : List Cond := .code yX3_dropLast cX3_dropLast 1 none :: ([.fieldLink RX3 21 "TreeConfigurator$Rules" "count" "I", .fieldLink RX3 25 "TreeConfigurator$Rules" "inForce" "I"] ++ wsX30)
def wsX3_holdsFor : List Cond := .code yX3_holdsFor cX3_holdsFor 3 (some .boolean) :: ([.fieldLink RX3 9 "TreeConfigurator$Rules" "wanted" "[I", .fieldLink RX3 15 "TreeConfigurator$Rules" "unwanted" "[I"] ++ wsX30)
def wsX3_holdFor : List Cond := .code yX3_holdFor cX3_holdFor 3 (some .boolean) :: ([.fieldLink RX3 21 "TreeConfigurator$Rules" "count" "I", .fieldLink RX3 25 "TreeConfigurator$Rules" "inForce" "I", .static yX6_has, .initialized RX6, .code yX6_has cX6_has 2 (some .boolean), .methodLink RX3 32 yX3_holdsFor, .instanceMethod yX3_holdsFor, .selects RX3 yX3_holdsFor yX3_holdsFor, .initialized RX3, .code yX3_holdsFor cX3_holdsFor 3 (some .boolean), .fieldLink RX3 9 "TreeConfigurator$Rules" "wanted" "[I", .fieldLink RX3 15 "TreeConfigurator$Rules" "unwanted" "[I"] ++ wsX30)
def wsX3_holdAt : List Cond := .code yX3_holdAt cX3_holdAt 4 (some .boolean) :: ([.fieldLink RX3 21 "TreeConfigurator$Rules" "count" "I", .fieldLink RX3 18 "TreeConfigurator$Rules" "last" "[I", .fieldLink RX3 25 "TreeConfigurator$Rules" "inForce" "I", .static yX6_has, .initialized RX6, .code yX6_has cX6_has 2 (some .boolean), .methodLink RX3 32 yX3_holdsFor, .instanceMethod yX3_holdsFor, .selects RX3 yX3_holdsFor yX3_holdsFor, .initialized RX3, .code yX3_holdsFor cX3_holdsFor 3 (some .boolean), .fieldLink RX3 9 "TreeConfigurator$Rules" "wanted" "[I", .fieldLink RX3 15 "TreeConfigurator$Rules" "unwanted" "[I"] ++ wsX30)
def wsX5_mayBeOut : List Cond := .code yX5_mayBeOut cX5_mayBeOut 6 (some .boolean) :: ([.fieldLink RX5 9 "TreeConfigurator$Tree" "parents" "[I", .fieldLink RX5 15 "TreeConfigurator$Tree" "children" "[I", .fieldLink RX5 41 "TreeConfigurator$Tree" "mandatory" "I", .fieldLink RX5 18 "TreeConfigurator$Tree" "least" "[I", .static yX6_has, .initialized RX6, .code yX6_has cX6_has 2 (some .boolean), .methodLink RX5 35 yJ6_bitCount_0f7a4, .static yJ6_bitCount_0f7a4, .initialized RJ6, .code yJ6_bitCount_0f7a4 cJ6_bitCount_0f7a4 1 (some .int), .constant RJ6 265 (1431655765), .constant RJ6 266 (858993459), .constant RJ6 267 (252645135)] ++ wsX50)
def wsX4_canLeave_r1 : List Cond := [Cond.static yX6_has, Cond.initialized RX6, Cond.code yX6_has cX6_has 2 (some .boolean), Cond.instanceMethod yX5_mayBeOut, Cond.initialized RX5, Cond.selects RX5 yX5_mayBeOut yX5_mayBeOut, Cond.code yX5_mayBeOut cX5_mayBeOut 6 (some .boolean), Cond.fieldLink RX5 9 "TreeConfigurator$Tree" "parents" "[I", Cond.fieldLink RX5 15 "TreeConfigurator$Tree" "children" "[I", Cond.fieldLink RX5 41 "TreeConfigurator$Tree" "mandatory" "I", Cond.fieldLink RX5 18 "TreeConfigurator$Tree" "least" "[I", Cond.methodLink RX5 35 yJ6_bitCount_0f7a4, Cond.static yJ6_bitCount_0f7a4, Cond.initialized RJ6, Cond.code yJ6_bitCount_0f7a4 cJ6_bitCount_0f7a4 1 (some .int), Cond.constant RJ6 265 (1431655765), Cond.constant RJ6 266 (858993459), Cond.constant RJ6 267 (252645135), Cond.instanceMethod yX3_holdAt, Cond.initialized RX3, Cond.selects RX3 yX3_holdAt yX3_holdAt, Cond.code yX3_holdAt cX3_holdAt 4 (some .boolean), Cond.fieldLink RX3 21 "TreeConfigurator$Rules" "count" "I", Cond.fieldLink RX3 18 "TreeConfigurator$Rules" "last" "[I"]
def wsX4_canLeave_r2 : List Cond := [Cond.fieldLink RX3 25 "TreeConfigurator$Rules" "inForce" "I", Cond.methodLink RX3 32 yX3_holdsFor, Cond.instanceMethod yX3_holdsFor, Cond.selects RX3 yX3_holdsFor yX3_holdsFor, Cond.code yX3_holdsFor cX3_holdsFor 3 (some .boolean), Cond.fieldLink RX3 9 "TreeConfigurator$Rules" "wanted" "[I", Cond.fieldLink RX3 15 "TreeConfigurator$Rules" "unwanted" "[I"]
def wsX4_canLeave : List Cond := .code yX4_canLeave cX4_canLeave 5 (some .boolean) :: ((wsX4_canLeave_r1 ++ wsX4_canLeave_r2) ++ wsX50 ++ wsX30)
def wsX5_mayBeIn : List Cond := .code yX5_mayBeIn cX5_mayBeIn 4 (some .boolean) :: ([.fieldLink RX5 15 "TreeConfigurator$Tree" "children" "[I", .fieldLink RX5 18 "TreeConfigurator$Tree" "least" "[I", .fieldLink RX5 9 "TreeConfigurator$Tree" "parents" "[I", .fieldLink RX5 21 "TreeConfigurator$Tree" "greatest" "[I", .methodLink RX5 35 yJ6_bitCount_0f7a4, .static yJ6_bitCount_0f7a4, .initialized RJ6, .code yJ6_bitCount_0f7a4 cJ6_bitCount_0f7a4 1 (some .int), .constant RJ6 265 (1431655765), .constant RJ6 266 (858993459), .constant RJ6 267 (252645135), .static yX6_has, .initialized RX6, .code yX6_has cX6_has 2 (some .boolean)] ++ wsX50)
def wsX4_canTake_r1 : List Cond := [Cond.static yX6_has, Cond.initialized RX6, Cond.code yX6_has cX6_has 2 (some .boolean), Cond.instanceMethod yX5_mayBeIn, Cond.initialized RX5, Cond.selects RX5 yX5_mayBeIn yX5_mayBeIn, Cond.code yX5_mayBeIn cX5_mayBeIn 4 (some .boolean), Cond.fieldLink RX5 15 "TreeConfigurator$Tree" "children" "[I", Cond.fieldLink RX5 18 "TreeConfigurator$Tree" "least" "[I", Cond.fieldLink RX5 9 "TreeConfigurator$Tree" "parents" "[I", Cond.fieldLink RX5 21 "TreeConfigurator$Tree" "greatest" "[I", Cond.methodLink RX5 35 yJ6_bitCount_0f7a4, Cond.static yJ6_bitCount_0f7a4, Cond.initialized RJ6, Cond.code yJ6_bitCount_0f7a4 cJ6_bitCount_0f7a4 1 (some .int), Cond.constant RJ6 265 (1431655765), Cond.constant RJ6 266 (858993459), Cond.constant RJ6 267 (252645135), Cond.instanceMethod yX3_holdAt, Cond.initialized RX3, Cond.selects RX3 yX3_holdAt yX3_holdAt, Cond.code yX3_holdAt cX3_holdAt 4 (some .boolean), Cond.fieldLink RX3 21 "TreeConfigurator$Rules" "count" "I", Cond.fieldLink RX3 18 "TreeConfigurator$Rules" "last" "[I"]
def wsX4_canTake_r2 : List Cond := [Cond.fieldLink RX3 25 "TreeConfigurator$Rules" "inForce" "I", Cond.methodLink RX3 32 yX3_holdsFor, Cond.instanceMethod yX3_holdsFor, Cond.selects RX3 yX3_holdsFor yX3_holdsFor, Cond.code yX3_holdsFor cX3_holdsFor 3 (some .boolean), Cond.fieldLink RX3 9 "TreeConfigurator$Rules" "wanted" "[I", Cond.fieldLink RX3 15 "TreeConfigurator$Rules" "unwanted" "[I"]
def wsX4_canTake : List Cond := .code yX4_canTake cX4_canTake 5 (some .boolean) :: ((wsX4_canTake_r1 ++ wsX4_canTake_r2) ++ wsX50 ++ wsX30)
def wsX4_reaches_r1 : List Cond := [Cond.methodLink RX4 15 yX4_canLeave, Cond.static yX4_canLeave, Cond.initialized RX4, Cond.code yX4_canLeave cX4_canLeave 5 (some .boolean), Cond.static yX6_has, Cond.initialized RX6, Cond.code yX6_has cX6_has 2 (some .boolean), Cond.instanceMethod yX5_mayBeOut, Cond.initialized RX5, Cond.selects RX5 yX5_mayBeOut yX5_mayBeOut, Cond.code yX5_mayBeOut cX5_mayBeOut 6 (some .boolean), Cond.fieldLink RX5 9 "TreeConfigurator$Tree" "parents" "[I", Cond.fieldLink RX5 15 "TreeConfigurator$Tree" "children" "[I", Cond.fieldLink RX5 41 "TreeConfigurator$Tree" "mandatory" "I", Cond.fieldLink RX5 18 "TreeConfigurator$Tree" "least" "[I", Cond.methodLink RX5 35 yJ6_bitCount_0f7a4, Cond.static yJ6_bitCount_0f7a4, Cond.initialized RJ6, Cond.code yJ6_bitCount_0f7a4 cJ6_bitCount_0f7a4 1 (some .int), Cond.constant RJ6 265 (1431655765), Cond.constant RJ6 266 (858993459), Cond.constant RJ6 267 (252645135), Cond.instanceMethod yX3_holdAt, Cond.initialized RX3]
def wsX4_reaches_r2 : List Cond := [Cond.selects RX3 yX3_holdAt yX3_holdAt, Cond.code yX3_holdAt cX3_holdAt 4 (some .boolean), Cond.fieldLink RX3 21 "TreeConfigurator$Rules" "count" "I", Cond.fieldLink RX3 18 "TreeConfigurator$Rules" "last" "[I", Cond.fieldLink RX3 25 "TreeConfigurator$Rules" "inForce" "I", Cond.methodLink RX3 32 yX3_holdsFor, Cond.instanceMethod yX3_holdsFor, Cond.selects RX3 yX3_holdsFor yX3_holdsFor, Cond.code yX3_holdsFor cX3_holdsFor 3 (some .boolean), Cond.fieldLink RX3 9 "TreeConfigurator$Rules" "wanted" "[I", Cond.fieldLink RX3 15 "TreeConfigurator$Rules" "unwanted" "[I", Cond.methodLink RX4 21 yX4_reaches, Cond.static yX4_reaches, Cond.methodLink RX4 25 yX4_canTake, Cond.static yX4_canTake, Cond.code yX4_canTake cX4_canTake 5 (some .boolean), Cond.instanceMethod yX5_mayBeIn, Cond.selects RX5 yX5_mayBeIn yX5_mayBeIn, Cond.code yX5_mayBeIn cX5_mayBeIn 4 (some .boolean), Cond.fieldLink RX5 21 "TreeConfigurator$Tree" "greatest" "[I"]
def wsX4_reaches : List Cond := .code yX4_reaches cX4_reaches 7 (some .boolean) :: ((wsX4_reaches_r1 ++ wsX4_reaches_r2) ++ wsX50 ++ wsX30)
def wsX4_countFrom_r1 : List Cond := [Cond.methodLink RX4 15 yX4_canLeave, Cond.static yX4_canLeave, Cond.initialized RX4, Cond.code yX4_canLeave cX4_canLeave 5 (some .boolean), Cond.static yX6_has, Cond.initialized RX6, Cond.code yX6_has cX6_has 2 (some .boolean), Cond.instanceMethod yX5_mayBeOut, Cond.initialized RX5, Cond.selects RX5 yX5_mayBeOut yX5_mayBeOut, Cond.code yX5_mayBeOut cX5_mayBeOut 6 (some .boolean), Cond.fieldLink RX5 9 "TreeConfigurator$Tree" "parents" "[I", Cond.fieldLink RX5 15 "TreeConfigurator$Tree" "children" "[I", Cond.fieldLink RX5 41 "TreeConfigurator$Tree" "mandatory" "I", Cond.fieldLink RX5 18 "TreeConfigurator$Tree" "least" "[I", Cond.methodLink RX5 35 yJ6_bitCount_0f7a4, Cond.static yJ6_bitCount_0f7a4, Cond.initialized RJ6, Cond.code yJ6_bitCount_0f7a4 cJ6_bitCount_0f7a4 1 (some .int), Cond.constant RJ6 265 (1431655765), Cond.constant RJ6 266 (858993459), Cond.constant RJ6 267 (252645135), Cond.instanceMethod yX3_holdAt, Cond.initialized RX3]
def wsX4_countFrom_r2 : List Cond := [Cond.selects RX3 yX3_holdAt yX3_holdAt, Cond.code yX3_holdAt cX3_holdAt 4 (some .boolean), Cond.fieldLink RX3 21 "TreeConfigurator$Rules" "count" "I", Cond.fieldLink RX3 18 "TreeConfigurator$Rules" "last" "[I", Cond.fieldLink RX3 25 "TreeConfigurator$Rules" "inForce" "I", Cond.methodLink RX3 32 yX3_holdsFor, Cond.instanceMethod yX3_holdsFor, Cond.selects RX3 yX3_holdsFor yX3_holdsFor, Cond.code yX3_holdsFor cX3_holdsFor 3 (some .boolean), Cond.fieldLink RX3 9 "TreeConfigurator$Rules" "wanted" "[I", Cond.fieldLink RX3 15 "TreeConfigurator$Rules" "unwanted" "[I", Cond.methodLink RX4 28 yX4_countFrom, Cond.static yX4_countFrom, Cond.methodLink RX4 25 yX4_canTake, Cond.static yX4_canTake, Cond.code yX4_canTake cX4_canTake 5 (some .boolean), Cond.instanceMethod yX5_mayBeIn, Cond.selects RX5 yX5_mayBeIn yX5_mayBeIn, Cond.code yX5_mayBeIn cX5_mayBeIn 4 (some .boolean), Cond.fieldLink RX5 21 "TreeConfigurator$Tree" "greatest" "[I"]
def wsX4_countFrom : List Cond := .code yX4_countFrom cX4_countFrom 8 (some .long) :: ((wsX4_countFrom_r1 ++ wsX4_countFrom_r2) ++ wsX50 ++ wsX30)
def wsX4_cheapestFrom_r1 : List Cond := [Cond.methodLink RX4 15 yX4_canLeave, Cond.static yX4_canLeave, Cond.initialized RX4, Cond.code yX4_canLeave cX4_canLeave 5 (some .boolean), Cond.static yX6_has, Cond.initialized RX6, Cond.code yX6_has cX6_has 2 (some .boolean), Cond.instanceMethod yX5_mayBeOut, Cond.initialized RX5, Cond.selects RX5 yX5_mayBeOut yX5_mayBeOut, Cond.code yX5_mayBeOut cX5_mayBeOut 6 (some .boolean), Cond.fieldLink RX5 9 "TreeConfigurator$Tree" "parents" "[I", Cond.fieldLink RX5 15 "TreeConfigurator$Tree" "children" "[I", Cond.fieldLink RX5 41 "TreeConfigurator$Tree" "mandatory" "I", Cond.fieldLink RX5 18 "TreeConfigurator$Tree" "least" "[I", Cond.methodLink RX5 35 yJ6_bitCount_0f7a4, Cond.static yJ6_bitCount_0f7a4, Cond.initialized RJ6, Cond.code yJ6_bitCount_0f7a4 cJ6_bitCount_0f7a4 1 (some .int), Cond.constant RJ6 265 (1431655765), Cond.constant RJ6 266 (858993459), Cond.constant RJ6 267 (252645135), Cond.instanceMethod yX3_holdAt, Cond.initialized RX3]
def wsX4_cheapestFrom_r2 : List Cond := [Cond.selects RX3 yX3_holdAt yX3_holdAt, Cond.code yX3_holdAt cX3_holdAt 4 (some .boolean), Cond.fieldLink RX3 21 "TreeConfigurator$Rules" "count" "I", Cond.fieldLink RX3 18 "TreeConfigurator$Rules" "last" "[I", Cond.fieldLink RX3 25 "TreeConfigurator$Rules" "inForce" "I", Cond.methodLink RX3 32 yX3_holdsFor, Cond.instanceMethod yX3_holdsFor, Cond.selects RX3 yX3_holdsFor yX3_holdsFor, Cond.code yX3_holdsFor cX3_holdsFor 3 (some .boolean), Cond.fieldLink RX3 9 "TreeConfigurator$Rules" "wanted" "[I", Cond.fieldLink RX3 15 "TreeConfigurator$Rules" "unwanted" "[I", Cond.methodLink RX4 32 yX4_cheapestFrom, Cond.static yX4_cheapestFrom, Cond.methodLink RX4 25 yX4_canTake, Cond.static yX4_canTake, Cond.code yX4_canTake cX4_canTake 5 (some .boolean), Cond.instanceMethod yX5_mayBeIn, Cond.selects RX5 yX5_mayBeIn yX5_mayBeIn, Cond.code yX5_mayBeIn cX5_mayBeIn 4 (some .boolean), Cond.fieldLink RX5 21 "TreeConfigurator$Tree" "greatest" "[I", Cond.instanceMethod yX2_cheaperOf, Cond.initialized RX2, Cond.selects RX2 yX2_cheaperOf yX2_cheaperOf, Cond.code yX2_cheaperOf cX2_cheaperOf 4 (some .int)]
def wsX4_cheapestFrom_r3 : List Cond := [Cond.methodLink RX2 45 Lib.Math.max.name, Cond.static Lib.Math.max.name, Cond.initialized "java/lang/Math", Cond.code Lib.Math.max.name Lib.Math.max.code 2 (some .int), Cond.methodLink RX2 51 yX2_ofSet, Cond.instanceMethod yX2_ofSet, Cond.selects RX2 yX2_ofSet yX2_ofSet, Cond.code yX2_ofSet cX2_ofSet 4 (some .int), Cond.fieldLink RX2 24 "TreeConfigurator$Prices" "added" "I", Cond.methodLink RX2 28 yX2_sumOf, Cond.instanceMethod yX2_sumOf, Cond.selects RX2 yX2_sumOf yX2_sumOf, Cond.code yX2_sumOf cX2_sumOf 4 (some .int), Cond.fieldLink RX2 9 "TreeConfigurator$Prices" "first" "[I", Cond.methodLink RX2 32 yX2_answerOf, Cond.instanceMethod yX2_answerOf, Cond.selects RX2 yX2_answerOf yX2_answerOf, Cond.code yX2_answerOf cX2_answerOf 6 (some .int), Cond.fieldLink RX2 18 "TreeConfigurator$Prices" "details" "[I", Cond.fieldLink RX2 21 "TreeConfigurator$Prices" "amounts" "[I", Cond.fieldLink RX2 15 "TreeConfigurator$Prices" "kinds" "[I", Cond.methodLink RX2 40 yJ6_bitCount_0f7a4, Cond.methodLink RX2 54 yJ6_compare_7cf53, Cond.static yJ6_compare_7cf53]
