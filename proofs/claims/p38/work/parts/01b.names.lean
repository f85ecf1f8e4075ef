def yX8_oilRope : MethodName := ⟨RX8, "oilRope", "(II)I"⟩
abbrev cX8_letWait : ByteArray := prog_1_method_43_code
def yX8_letWait : MethodName := ⟨RX8, "letWait", "(III)I"⟩
abbrev cX8_takeAway : ByteArray := prog_1_method_44_code
def yX8_takeAway : MethodName := ⟨RX8, "takeAway", "(I)I"⟩
abbrev cX8_ringNext : ByteArray := prog_1_method_45_code
def yX8_ringNext : MethodName := ⟨RX8, "ringNext", "()I"⟩
abbrev cX8_ringHour : ByteArray := prog_1_method_46_code
def yX8_ringHour : MethodName := ⟨RX8, "ringHour", "()I"⟩
abbrev cX8_carryOut : ByteArray := prog_1_method_47_code
def yX8_carryOut : MethodName := ⟨RX8, "carryOut", "(I)I"⟩
abbrev cX8_hoursGuessed : ByteArray := prog_1_method_48_code
def yX8_hoursGuessed : MethodName := ⟨RX8, "hoursGuessed", "(I)I"⟩
abbrev cX8_arePullsAccountedFor : ByteArray := prog_1_method_49_code
def yX8_arePullsAccountedFor : MethodName := ⟨RX8, "arePullsAccountedFor", "()Z"⟩
abbrev cX8_areRopesAccountedFor : ByteArray := prog_1_method_50_code
def yX8_areRopesAccountedFor : MethodName := ⟨RX8, "areRopesAccountedFor", "()Z"⟩
abbrev cX8_areGuessesTheSame : ByteArray := prog_1_method_51_code
def yX8_areGuessesTheSame : MethodName := ⟨RX8, "areGuessesTheSame", "()Z"⟩
abbrev cX8_tellRope : ByteArray := prog_1_method_52_code
def yX8_tellRope : MethodName := ⟨RX8, "tellRope", "(I)V"⟩
abbrev cX8_tellPulls : ByteArray := prog_1_method_53_code
def yX8_tellPulls : MethodName := ⟨RX8, "tellPulls", "(I)V"⟩
abbrev cX8_tellHour : ByteArray := prog_1_method_54_code
def yX8_tellHour : MethodName := ⟨RX8, "tellHour", "(I)V"⟩
abbrev cX8_isParish : ByteArray := prog_1_method_55_code
def yX8_isParish : MethodName := ⟨RX8, "isParish", "(I)Z"⟩
abbrev cX8_isHour : ByteArray := prog_1_method_56_code
def yX8_isHour : MethodName := ⟨RX8, "isHour", "(I)Z"⟩
abbrev cX8_isStrength : ByteArray := prog_1_method_57_code
def yX8_isStrength : MethodName := ⟨RX8, "isStrength", "(I)Z"⟩
abbrev cX8_isDigit : ByteArray := prog_1_method_58_code
def yX8_isDigit : MethodName := ⟨RX8, "isDigit", "(I)Z"⟩
abbrev cX8_bit : ByteArray := prog_1_method_59_code
def yX8_bit : MethodName := ⟨RX8, "bit", "(I)I"⟩
abbrev cX8_isIn : ByteArray := prog_1_method_60_code
def yX8_isIn : MethodName := ⟨RX8, "isIn", "(II)Z"⟩
abbrev cX8_at : ByteArray := prog_1_method_61_code
def yX8_at : MethodName := ⟨RX8, "at", "([II)I"⟩
abbrev cX8_put : ByteArray := prog_1_method_62_code
def yX8_put : MethodName := ⟨RX8, "put", "([III)V"⟩
abbrev cX8_add : ByteArray := prog_1_method_63_code
def yX8_add : MethodName := ⟨RX8, "add", "([III)V"⟩
abbrev cX8_sum : ByteArray := prog_1_method_64_code
def yX8_sum : MethodName := ⟨RX8, "sum", "([I)I"⟩
abbrev cX8_copy : ByteArray := prog_1_method_65_code
def yX8_copy : MethodName := ⟨RX8, "copy", "([I[I)V"⟩
def RX9 : String := "UnheardBellsLaw$Bits"
def TX9 : u_T := fun k => match k with
  | _ => ("UnheardBellsLaw$Bits", "bits", "I", false)
def tyX9 : Nat → FieldType := fun k => match k with
  | _ => .int
abbrev wsX90 : List Cond := u_ws RX9 TX9 1
theorem nmX9 : ∀ a, a < 1 → ∀ b, b < 1 → a ≠ b → (TX9 a).2.1 ≠ (TX9 b).2.1 := by decide +kernel
theorem tyX9_ok : ∀ k, k < 1 → parseFieldDescriptor (TX9 k).2.2.1 = some (tyX9 k) := by decide +kernel
abbrev cX9_init : ByteArray := prog_11_method_1_code
def yX9_init : MethodName := ⟨RX9, "<init>", "(I)V"⟩
abbrev cX9_next : ByteArray := prog_11_method_2_code
def yX9_next : MethodName := ⟨RX9, "next", "(I)I"⟩
def RX10 : String := "UnheardBellsModel"
def TX10 : u_T := fun k => match k with
  | _ => ("", "", "", false)
def tyX10 : Nat → FieldType := fun k => match k with
  | _ => .int
abbrev wsX100 : List Cond := u_ws RX10 TX10 0
theorem nmX10 : ∀ a, a < 0 → ∀ b, b < 0 → a ≠ b → (TX10 a).2.1 ≠ (TX10 b).2.1 := by decide +kernel
theorem tyX10_ok : ∀ k, k < 0 → parseFieldDescriptor (TX10 k).2.2.1 = some (tyX10 k) := by decide +kernel
def RJ5 : String := "java/lang/AbstractStringBuilder"
def TJ5 : u_T := fun k => match k with
  | _ => ("", "", "", false)
def tyJ5 : Nat → FieldType := fun k => match k with
  | _ => .int
abbrev wsJ50 : List Cond := u_ws RJ5 TJ5 0
theorem nmJ5 : ∀ a, a < 0 → ∀ b, b < 0 → a ≠ b → (TJ5 a).2.1 ≠ (TJ5 b).2.1 := by decide +kernel
theorem tyJ5_ok : ∀ k, k < 0 → parseFieldDescriptor (TJ5 k).2.2.1 = some (tyJ5 k) := by decide +kernel
abbrev cJ5_init_d00df : ByteArray := prog_13_method_2_code
def yJ5_init_d00df : MethodName := ⟨RJ5, "<init>", "(I)V"⟩
abbrev cJ5_length_8abf5 : ByteArray := prog_13_method_6_code
def yJ5_length_8abf5 : MethodName := ⟨RJ5, "length", "()I"⟩
abbrev cJ5_ensureCapacityInternal_d00df : ByteArray := prog_13_method_9_code
def yJ5_ensureCapacityInternal_d00df : MethodName := ⟨RJ5, "ensureCapacityInternal", "(I)V"⟩
abbrev cJ5_newCapacity_0f7a4 : ByteArray := prog_13_method_10_code
def yJ5_newCapacity_0f7a4 : MethodName := ⟨RJ5, "newCapacity", "(I)I"⟩
abbrev cJ5_inflate_da8c8 : ByteArray := prog_13_method_11_code
def yJ5_inflate_da8c8 : MethodName := ⟨RJ5, "inflate", "()V"⟩
abbrev cJ5_append_cf1ce : ByteArray := prog_13_method_22_code
def yJ5_append_cf1ce : MethodName := ⟨RJ5, "append", "(Ljava/lang/String;)Ljava/lang/AbstractStringBuilder;"⟩
abbrev cJ5_appendNull_278bc : ByteArray := prog_13_method_26_code
def yJ5_appendNull_278bc : MethodName := ⟨RJ5, "appendNull", "()Ljava/lang/AbstractStringBuilder;"⟩
abbrev cJ5_append_3fe6f : ByteArray := prog_13_method_31_code
def yJ5_append_3fe6f : MethodName := ⟨RJ5, "append", "(C)Ljava/lang/AbstractStringBuilder;"⟩
abbrev cJ5_append_c97b9 : ByteArray := prog_13_method_32_code
def yJ5_append_c97b9 : MethodName := ⟨RJ5, "append", "(I)Ljava/lang/AbstractStringBuilder;"⟩
abbrev cJ5_getValue_6d5f1 : ByteArray := prog_13_method_64_code
def yJ5_getValue_6d5f1 : MethodName := ⟨RJ5, "getValue", "()[B"⟩
abbrev cJ5_isLatin1_aae02 : ByteArray := prog_13_method_68_code
def yJ5_isLatin1_aae02 : MethodName := ⟨RJ5, "isLatin1", "()Z"⟩
abbrev cJ5_inflateIfNeededFor_a7421 : ByteArray := prog_13_method_71_code
def yJ5_inflateIfNeededFor_a7421 : MethodName := ⟨RJ5, "inflateIfNeededFor", "(Ljava/lang/String;)V"⟩
abbrev cJ5_putStringAt_47b60 : ByteArray := prog_13_method_73_code
def yJ5_putStringAt_47b60 : MethodName := ⟨RJ5, "putStringAt", "(ILjava/lang/String;)V"⟩
def RJx8e188 : String := "java/lang/Cloneable"
def TJx8e188 : u_T := fun k => match k with
  | _ => ("", "", "", false)
def tyJx8e188 : Nat → FieldType := fun k => match k with
  | _ => .int
abbrev wsJx8e1880 : List Cond := u_ws RJx8e188 TJx8e188 0
theorem nmJx8e188 : ∀ a, a < 0 → ∀ b, b < 0 → a ≠ b → (TJx8e188 a).2.1 ≠ (TJx8e188 b).2.1 := by decide +kernel
theorem tyJx8e188_ok : ∀ k, k < 0 → parseFieldDescriptor (TJx8e188 k).2.2.1 = some (tyJx8e188 k) := by decide +kernel
def RJ6 : String := "java/lang/Integer"
def TJ6 : u_T := fun k => match k with
  | _ => ("", "", "", false)
def tyJ6 : Nat → FieldType := fun k => match k with
  | _ => .int
abbrev wsJ60 : List Cond := u_ws RJ6 TJ6 0
theorem nmJ6 : ∀ a, a < 0 → ∀ b, b < 0 → a ≠ b → (TJ6 a).2.1 ≠ (TJ6 b).2.1 := by decide +kernel
theorem tyJ6_ok : ∀ k, k < 0 → parseFieldDescriptor (TJ6 k).2.2.1 = some (tyJ6 k) := by decide +kernel
abbrev cJ6_getChars_ba4f3 : ByteArray := prog_15_method_12_code
def yJ6_getChars_ba4f3 : MethodName := ⟨RJ6, "getChars", "(II[B)I"⟩
abbrev cJ6_stringSize_0f7a4 : ByteArray := prog_15_method_13_code
def yJ6_stringSize_0f7a4 : MethodName := ⟨RJ6, "stringSize", "(I)I"⟩
abbrev cJ6_bitCount_0f7a4 : ByteArray := prog_15_method_49_code
def yJ6_bitCount_0f7a4 : MethodName := ⟨RJ6, "bitCount", "(I)I"⟩
def RJ9 : String := "java/lang/Math"
def TJ9 : u_T := fun k => match k with
  | _ => ("", "", "", false)
def tyJ9 : Nat → FieldType := fun k => match k with
  | _ => .int
abbrev wsJ90 : List Cond := u_ws RJ9 TJ9 0
theorem nmJ9 : ∀ a, a < 0 → ∀ b, b < 0 → a ≠ b → (TJ9 a).2.1 ≠ (TJ9 b).2.1 := by decide +kernel
theorem tyJ9_ok : ∀ k, k < 0 → parseFieldDescriptor (TJ9 k).2.2.1 = some (tyJ9 k) := by decide +kernel
abbrev cJ9_floorMod_7cf53 : ByteArray := prog_16_method_50_code
def yJ9_floorMod_7cf53 : MethodName := ⟨RJ9, "floorMod", "(II)I"⟩
abbrev cJ9_max_7cf53 : ByteArray := prog_16_method_65_code
def yJ9_max_7cf53 : MethodName := ⟨RJ9, "max", "(II)I"⟩
abbrev cJ9_min_7cf53 : ByteArray := prog_16_method_69_code
def yJ9_min_7cf53 : MethodName := ⟨RJ9, "min", "(II)I"⟩
def RJ0 : String := "java/lang/String"
def TJ0 : u_T := fun k => match k with
  | 0 => ("java/lang/String", "value", "[B", true)
  | 1 => ("java/lang/String", "coder", "B", true)
  | 2 => ("java/lang/String", "hash", "I", false)
  | _ => ("java/lang/String", "hashIsZero", "Z", false)
def tyJ0 : Nat → FieldType := fun k => match k with
  | 0 => .array .byte
  | 1 => .byte
  | 2 => .int
  | _ => .boolean
abbrev wsJ00 : List Cond := u_ws RJ0 TJ0 4
theorem nmJ0 : ∀ a, a < 4 → ∀ b, b < 4 → a ≠ b → (TJ0 a).2.1 ≠ (TJ0 b).2.1 := by decide +kernel
theorem tyJ0_ok : ∀ k, k < 4 → parseFieldDescriptor (TJ0 k).2.2.1 = some (tyJ0 k) := by decide +kernel
abbrev cJ0_init_81219 : ByteArray := prog_17_method_53_code
def yJ0_init_81219 : MethodName := ⟨RJ0, "<init>", "(Ljava/lang/StringBuilder;)V"⟩
abbrev cJ0_length_8abf5 : ByteArray := prog_17_method_54_code
def yJ0_length_8abf5 : MethodName := ⟨RJ0, "length", "()I"⟩
abbrev cJ0_isEmpty_aae02 : ByteArray := prog_17_method_55_code
def yJ0_isEmpty_aae02 : MethodName := ⟨RJ0, "isEmpty", "()Z"⟩
abbrev cJ0_charAt_5068e : ByteArray := prog_17_method_56_code
def yJ0_charAt_5068e : MethodName := ⟨RJ0, "charAt", "(I)C"⟩
abbrev cJ0_equals_9ea2d : ByteArray := prog_17_method_66_code
def yJ0_equals_9ea2d : MethodName := ⟨RJ0, "equals", "(Ljava/lang/Object;)Z"⟩
abbrev cJ0_getBytes_840e7 : ByteArray := prog_17_method_147_code
def yJ0_getBytes_840e7 : MethodName := ⟨RJ0, "getBytes", "([BIB)V"⟩
abbrev cJ0_init_db425 : ByteArray := prog_17_method_150_code
def yJ0_init_db425 : MethodName := ⟨RJ0, "<init>", "(Ljava/lang/AbstractStringBuilder;Ljava/lang/Void;)V"⟩
abbrev cJ0_coder_7d493 : ByteArray := prog_17_method_152_code
def yJ0_coder_7d493 : MethodName := ⟨RJ0, "coder", "()B"⟩
abbrev cJ0_isLatin1_aae02 : ByteArray := prog_17_method_154_code
def yJ0_isLatin1_aae02 : MethodName := ⟨RJ0, "isLatin1", "()Z"⟩
abbrev cJ0_checkIndex_df160 : ByteArray := prog_17_method_155_code
def yJ0_checkIndex_df160 : MethodName := ⟨RJ0, "checkIndex", "(II)V"⟩
abbrev cJ0_checkBoundsOffCount_cabcc : ByteArray := prog_17_method_157_code
def yJ0_checkBoundsOffCount_cabcc : MethodName := ⟨RJ0, "checkBoundsOffCount", "(III)I"⟩
abbrev cJ0_checkBoundsBeginEnd_23922 : ByteArray := prog_17_method_158_code
def yJ0_checkBoundsBeginEnd_23922 : MethodName := ⟨RJ0, "checkBoundsBeginEnd", "(III)V"⟩
def RJ4 : String := "java/lang/StringBuilder"
def TJ4 : u_T := fun k => match k with
  | 0 => ("java/lang/AbstractStringBuilder", "value", "[B", false)
  | 1 => ("java/lang/AbstractStringBuilder", "coder", "B", false)
  | 2 => ("java/lang/AbstractStringBuilder", "maybeLatin1", "Z", false)
  | _ => ("java/lang/AbstractStringBuilder", "count", "I", false)
def tyJ4 : Nat → FieldType := fun k => match k with
  | 0 => .array .byte
  | 1 => .byte
  | 2 => .boolean
  | _ => .int
abbrev wsJ40 : List Cond := u_ws RJ4 TJ4 4
theorem nmJ4 : ∀ a, a < 4 → ∀ b, b < 4 → a ≠ b → (TJ4 a).2.1 ≠ (TJ4 b).2.1 := by decide +kernel
theorem tyJ4_ok : ∀ k, k < 4 → parseFieldDescriptor (TJ4 k).2.2.1 = some (tyJ4 k) := by decide +kernel
abbrev cJ4_init_da8c8 : ByteArray := prog_18_method_1_code
def yJ4_init_da8c8 : MethodName := ⟨RJ4, "<init>", "()V"⟩
abbrev cJ4_append_15ec4 : ByteArray := prog_18_method_7_code
def yJ4_append_15ec4 : MethodName := ⟨RJ4, "append", "(Ljava/lang/String;)Ljava/lang/StringBuilder;"⟩
abbrev cJ4_append_cf468 : ByteArray := prog_18_method_14_code
def yJ4_append_cf468 : MethodName := ⟨RJ4, "append", "(C)Ljava/lang/StringBuilder;"⟩
abbrev cJ4_append_bf812 : ByteArray := prog_18_method_15_code
def yJ4_append_bf812 : MethodName := ⟨RJ4, "append", "(I)Ljava/lang/StringBuilder;"⟩
abbrev cJ4_toString_0e30d : ByteArray := prog_18_method_42_code
def yJ4_toString_0e30d : MethodName := ⟨RJ4, "toString", "()Ljava/lang/String;"⟩
abbrev cJ4_length_8abf5 : ByteArray := prog_18_method_93_code
def yJ4_length_8abf5 : MethodName := ⟨RJ4, "length", "()I"⟩
def RJ1 : String := "java/lang/StringLatin1"
def TJ1 : u_T := fun k => match k with
  | _ => ("", "", "", false)
def tyJ1 : Nat → FieldType := fun k => match k with
  | _ => .int
abbrev wsJ10 : List Cond := u_ws RJ1 TJ1 0
theorem nmJ1 : ∀ a, a < 0 → ∀ b, b < 0 → a ≠ b → (TJ1 a).2.1 ≠ (TJ1 b).2.1 := by decide +kernel
theorem tyJ1_ok : ∀ k, k < 0 → parseFieldDescriptor (TJ1 k).2.2.1 = some (tyJ1 k) := by decide +kernel
abbrev cJ1_charAt_3b067 : ByteArray := prog_19_method_2_code
def yJ1_charAt_3b067 : MethodName := ⟨RJ1, "charAt", "([BI)C"⟩
abbrev cJ1_canEncode_fc78d : ByteArray := prog_19_method_3_code
def yJ1_canEncode_fc78d : MethodName := ⟨RJ1, "canEncode", "(C)Z"⟩
abbrev cJ1_equals_b5fdf : ByteArray := prog_19_method_13_code
def yJ1_equals_b5fdf : MethodName := ⟨RJ1, "equals", "([B[B)Z"⟩
abbrev cJ1_inflate_0e8fd : ByteArray := prog_19_method_50_code
def yJ1_inflate_0e8fd : MethodName := ⟨RJ1, "inflate", "([BI[BII)V"⟩
def RJ2 : String := "java/lang/StringUTF16"
def TJ2 : u_T := fun k => match k with
  | _ => ("", "", "", false)
def tyJ2 : Nat → FieldType := fun k => match k with
  | _ => .int
abbrev wsJ20 : List Cond := u_ws RJ2 TJ2 0
theorem nmJ2 : ∀ a, a < 0 → ∀ b, b < 0 → a ≠ b → (TJ2 a).2.1 ≠ (TJ2 b).2.1 := by decide +kernel
theorem tyJ2_ok : ∀ k, k < 0 → parseFieldDescriptor (TJ2 k).2.2.1 = some (tyJ2 k) := by decide +kernel
abbrev cJ2_newBytesFor_77867 : ByteArray := prog_20_method_2_code
def yJ2_newBytesFor_77867 : MethodName := ⟨RJ2, "newBytesFor", "(I)[B"⟩
abbrev cJ2_newBytesLength_0f7a4 : ByteArray := prog_20_method_3_code
def yJ2_newBytesLength_0f7a4 : MethodName := ⟨RJ2, "newBytesLength", "(I)I"⟩
abbrev cJ2_putChar_b72d1 : ByteArray := prog_20_method_4_code
def yJ2_putChar_b72d1 : MethodName := ⟨RJ2, "putChar", "([BII)V"⟩
abbrev cJ2_getChar_3b067 : ByteArray := prog_20_method_5_code
def yJ2_getChar_3b067 : MethodName := ⟨RJ2, "getChar", "([BI)C"⟩
abbrev cJ2_length_9d52b : ByteArray := prog_20_method_6_code
def yJ2_length_9d52b : MethodName := ⟨RJ2, "length", "([B)I"⟩
abbrev cJ2_coderFromArrayLen_85cad : ByteArray := prog_20_method_15_code
def yJ2_coderFromArrayLen_85cad : MethodName := ⟨RJ2, "coderFromArrayLen", "([BI)B"⟩
abbrev cJ2_compress_39247 : ByteArray := prog_20_method_17_code
def yJ2_compress_39247 : MethodName := ⟨RJ2, "compress", "([BII)[B"⟩
abbrev cJ2_compress_5af95 : ByteArray := prog_20_method_22_code
def yJ2_compress_5af95 : MethodName := ⟨RJ2, "compress", "([BI[BII)I"⟩
abbrev cJ2_putCharSB_b72d1 : ByteArray := prog_20_method_71_code
def yJ2_putCharSB_b72d1 : MethodName := ⟨RJ2, "putCharSB", "([BII)V"⟩
abbrev cJ2_getChars_46870 : ByteArray := prog_20_method_77_code
def yJ2_getChars_46870 : MethodName := ⟨RJ2, "getChars", "(III[B)I"⟩
abbrev cJ2_putCharsAt_cd4e5 : ByteArray := prog_20_method_81_code
def yJ2_putCharsAt_cd4e5 : MethodName := ⟨RJ2, "putCharsAt", "([BICCCC)I"⟩
abbrev cJ2_charAt_3b067 : ByteArray := prog_20_method_83_code
def yJ2_charAt_3b067 : MethodName := ⟨RJ2, "charAt", "([BI)C"⟩
abbrev cJ2_inflate_0e8fd : ByteArray := prog_20_method_86_code
def yJ2_inflate_0e8fd : MethodName := ⟨RJ2, "inflate", "([BI[BII)V"⟩
abbrev cJ2_getChars_ba4f3 : ByteArray := prog_20_method_89_code
def yJ2_getChars_ba4f3 : MethodName := ⟨RJ2, "getChars", "(II[B)I"⟩
abbrev cJ2_checkIndex_2214a : ByteArray := prog_20_method_91_code
def yJ2_checkIndex_2214a : MethodName := ⟨RJ2, "checkIndex", "(I[B)V"⟩
abbrev cJ2_checkBoundsBeginEnd_d044e : ByteArray := prog_20_method_93_code
def yJ2_checkBoundsBeginEnd_d044e : MethodName := ⟨RJ2, "checkBoundsBeginEnd", "(II[B)V"⟩
abbrev cJ2_checkBoundsOffCount_d044e : ByteArray := prog_20_method_94_code
def yJ2_checkBoundsOffCount_d044e : MethodName := ⟨RJ2, "checkBoundsOffCount", "(II[B)V"⟩
def RJ10 : String := "java/lang/System"
def TJ10 : u_T := fun k => match k with
  | _ => ("", "", "", false)
def tyJ10 : Nat → FieldType := fun k => match k with
  | _ => .int
abbrev wsJ100 : List Cond := u_ws RJ10 TJ10 0
theorem nmJ10 : ∀ a, a < 0 → ∀ b, b < 0 → a ≠ b → (TJ10 a).2.1 ≠ (TJ10 b).2.1 := by decide +kernel
theorem tyJ10_ok : ∀ k, k < 0 → parseFieldDescriptor (TJ10 k).2.2.1 = some (tyJ10 k) := by decide +kernel
def RJ7 : String := "java/util/Arrays"
def TJ7 : u_T := fun k => match k with
  | _ => ("", "", "", false)
def tyJ7 : Nat → FieldType := fun k => match k with
  | _ => .int
abbrev wsJ70 : List Cond := u_ws RJ7 TJ7 0
theorem nmJ7 : ∀ a, a < 0 → ∀ b, b < 0 → a ≠ b → (TJ7 a).2.1 ≠ (TJ7 b).2.1 := by decide +kernel
theorem tyJ7_ok : ∀ k, k < 0 → parseFieldDescriptor (TJ7 k).2.2.1 = some (tyJ7 k) := by decide +kernel
abbrev cJ7_copyOf_9075b : ByteArray := prog_22_method_121_code
def yJ7_copyOf_9075b : MethodName := ⟨RJ7, "copyOf", "([BI)[B"⟩
abbrev cJ7_checkLength_df160 : ByteArray := prog_22_method_131_code
def yJ7_checkLength_df160 : MethodName := ⟨RJ7, "checkLength", "(II)V"⟩
abbrev cJ7_copyOfRange_39247 : ByteArray := prog_22_method_132_code
def yJ7_copyOfRange_39247 : MethodName := ⟨RJ7, "copyOfRange", "([BII)[B"⟩
abbrev cJ7_copyOfRangeByte_39247 : ByteArray := prog_22_method_133_code
def yJ7_copyOfRangeByte_39247 : MethodName := ⟨RJ7, "copyOfRangeByte", "([BII)[B"⟩
def RJ8 : String := "jdk/internal/util/ArraysSupport"
def TJ8 : u_T := fun k => match k with
  | _ => ("", "", "", false)
def tyJ8 : Nat → FieldType := fun k => match k with
  | _ => .int
abbrev wsJ80 : List Cond := u_ws RJ8 TJ8 0
theorem nmJ8 : ∀ a, a < 0 → ∀ b, b < 0 → a ≠ b → (TJ8 a).2.1 ≠ (TJ8 b).2.1 := by decide +kernel
theorem tyJ8_ok : ∀ k, k < 0 → parseFieldDescriptor (TJ8 k).2.2.1 = some (tyJ8 k) := by decide +kernel
abbrev cJ8_newLength_cabcc : ByteArray := prog_23_method_27_code
def yJ8_newLength_cabcc : MethodName := ⟨RJ8, "newLength", "(III)I"⟩
abbrev cJ8_hugeLength_7cf53 : ByteArray := prog_23_method_28_code
def yJ8_hugeLength_7cf53 : MethodName := ⟨RJ8, "hugeLength", "(II)I"⟩
def RJ3 : String := "jdk/internal/util/Preconditions"
def TJ3 : u_T := fun k => match k with
  | _ => ("", "", "", false)
def tyJ3 : Nat → FieldType := fun k => match k with
  | _ => .int
abbrev wsJ30 : List Cond := u_ws RJ3 TJ3 0
theorem nmJ3 : ∀ a, a < 0 → ∀ b, b < 0 → a ≠ b → (TJ3 a).2.1 ≠ (TJ3 b).2.1 := by decide +kernel
theorem tyJ3_ok : ∀ k, k < 0 → parseFieldDescriptor (TJ3 k).2.2.1 = some (tyJ3 k) := by decide +kernel
abbrev cJ3_checkIndex_8e157 : ByteArray := prog_24_method_11_code
def yJ3_checkIndex_8e157 : MethodName := ⟨RJ3, "checkIndex", "(IILjava/util/function/BiFunction;)I"⟩
abbrev cJ3_checkFromToIndex_8c36e : ByteArray := prog_24_method_12_code
def yJ3_checkFromToIndex_8c36e : MethodName := ⟨RJ3, "checkFromToIndex", "(IIILjava/util/function/BiFunction;)I"⟩
abbrev cJ3_checkFromIndexSize_8c36e : ByteArray := prog_24_method_13_code
def yJ3_checkFromIndexSize_8c36e : MethodName := ⟨RJ3, "checkFromIndexSize", "(IIILjava/util/function/BiFunction;)I"⟩
def RL : String := "UnheardBellsLaw"
abbrev cL_cell : ByteArray := method_2_code
def yL_cell : MethodName := ⟨RL, "cell", "([II)I"⟩
abbrev cL_some : ByteArray := method_4_code
def yL_some : MethodName := ⟨RL, "some", "(LUnheardBellsLaw$Bits;I)I"⟩
abbrev cL_acts : ByteArray := method_5_code
def yL_acts : MethodName := ⟨RL, "acts", "(LUnheardBells;ILUnheardBellsLaw$Bits;)I"⟩
abbrev cL_line : ByteArray := method_6_code
def yL_line : MethodName := ⟨RL, "line", "(LUnheardBells;I)Ljava/lang/String;"⟩
abbrev cL_told : ByteArray := method_7_code
def yL_told : MethodName := ⟨RL, "told", "(LUnheardBells;)Ljava/lang/String;"⟩
abbrev cL_stock : ByteArray := method_8_code
def yL_stock : MethodName := ⟨RL, "stock", "(LUnheardBells;)I"⟩
abbrev cL_pulls : ByteArray := method_9_code
def yL_pulls : MethodName := ⟨RL, "pulls", "(LUnheardBells;)Z"⟩
abbrev cL_ropes : ByteArray := method_10_code
def yL_ropes : MethodName := ⟨RL, "ropes", "(LUnheardBells;)Z"⟩
abbrev cL_guess : ByteArray := method_11_code
def yL_guess : MethodName := ⟨RL, "guess", "(LUnheardBells;I)I"⟩
abbrev cL_parishes : ByteArray := method_12_code
def yL_parishes : MethodName := ⟨RL, "parishes", "(LUnheardBells;)Z"⟩
abbrev cL_answers : ByteArray := method_13_code
def yL_answers : MethodName := ⟨RL, "answers", "(LUnheardBells;)Z"⟩
abbrev cL_foretold : ByteArray := method_14_code
def yL_foretold : MethodName := ⟨RL, "foretold", "(LUnheardBells;)Z"⟩
abbrev cL_law : ByteArray := code
def yL_law : MethodName := ⟨RL, "law", "([I)Z"⟩
def wsX0_init : List Cond := .code yX0_init cX0_init 1 none :: ([.methodLink RX0 3 objectInit, .instanceMethod objectInit, .code objectInit ⟨#[0xb1]⟩ 1 none, .arrayClass .int, .fieldLink RX0 9 "UnheardBells$Answers" "rope" "[I", .fieldLink RX0 15 "UnheardBells$Answers" "hour" "[I", .fieldLink RX0 18 "UnheardBells$Answers" "day" "[I", .fieldLink RX0 21 "UnheardBells$Answers" "strength" "[I"] ++ wsX00)
def wsX8_copy : List Cond := .code yX8_copy cX8_copy 2 none :: ([.methodLink RX8 340 Lib.Math.min.name, .static Lib.Math.min.name, .initialized "java/lang/Math", .code Lib.Math.min.name Lib.Math.min.code 2 (some .int), .methodLink RX8 345 arraycopyName, .native arraycopyName, .static arraycopyName, .initialized "java/lang/System"])
def wsX0_copyFrom : List Cond := .code yX0_copyFrom cX0_copyFrom 2 none :: ([.fieldLink RX0 24 "UnheardBells$Answers" "number" "I", .fieldLink RX0 28 "UnheardBells$Answers" "latest" "I", .fieldLink RX0 9 "UnheardBells$Answers" "rope" "[I", .fieldLink RX0 15 "UnheardBells$Answers" "hour" "[I", .fieldLink RX0 18 "UnheardBells$Answers" "day" "[I", .fieldLink RX0 21 "UnheardBells$Answers" "strength" "[I", .static yX8_copy, .initialized RX8, .code yX8_copy cX8_copy 2 none, .methodLink RX8 340 Lib.Math.min.name, .static Lib.Math.min.name, .initialized "java/lang/Math", .code Lib.Math.min.name Lib.Math.min.code 2 (some .int), .methodLink RX8 345 arraycopyName, .native arraycopyName, .static arraycopyName, .initialized "java/lang/System"] ++ wsX00)
def wsX0_has : List Cond := .code yX0_has cX0_has 2 (some .boolean) :: ([.fieldLink RX0 24 "UnheardBells$Answers" "number" "I"] ++ wsX00)
def wsJ9_floorMod_7cf53 : List Cond := .code yJ9_floorMod_7cf53 cJ9_floorMod_7cf53 3 (some .int) :: ([])
def wsX0_indexOf : List Cond := .code yX0_indexOf cX0_indexOf 2 (some .int) :: ([.fieldLink RX0 28 "UnheardBells$Answers" "latest" "I", .methodLink RX0 35 yJ9_floorMod_7cf53, .static yJ9_floorMod_7cf53, .initialized RJ9, .code yJ9_floorMod_7cf53 cJ9_floorMod_7cf53 3 (some .int)] ++ wsX00)
def wsX8_put : List Cond := .code yX8_put cX8_put 3 none :: ([])
def wsX0_remember : List Cond := .code yX0_remember cX0_remember 5 none :: ([.fieldLink RX0 28 "UnheardBells$Answers" "latest" "I", .fieldLink RX0 9 "UnheardBells$Answers" "rope" "[I", .fieldLink RX0 15 "UnheardBells$Answers" "hour" "[I", .fieldLink RX0 18 "UnheardBells$Answers" "day" "[I", .fieldLink RX0 21 "UnheardBells$Answers" "strength" "[I", .fieldLink RX0 24 "UnheardBells$Answers" "number" "I", .methodLink RX0 45 Lib.Math.min.name, .static Lib.Math.min.name, .initialized "java/lang/Math", .code Lib.Math.min.name Lib.Math.min.code 2 (some .int), .methodLink RX0 35 yJ9_floorMod_7cf53, .static yJ9_floorMod_7cf53, .initialized RJ9, .code yJ9_floorMod_7cf53 cJ9_floorMod_7cf53 3 (some .int), .static yX8_put, .initialized RX8, .code yX8_put cX8_put 3 none] ++ wsX00)
def wsX1_init : List Cond := .code yX1_init cX1_init 1 none :: ([.methodLink RX1 3 objectInit, .instanceMethod objectInit, .code objectInit ⟨#[0xb1]⟩ 1 none, .classLink RX1 9 RX7, .fieldLink RX1 11 "UnheardBells$History" "rows" "[LUnheardBells$Tower;"] ++ wsX10)
def wsX5_init : List Cond := .code yX5_init cX5_init 1 none :: ([.methodLink RX5 3 objectInit, .instanceMethod objectInit, .code objectInit ⟨#[0xb1]⟩ 1 none, .arrayClass .int, .fieldLink RX5 9 "UnheardBells$Ropes" "parish" "[I", .fieldLink RX5 15 "UnheardBells$Ropes" "isOn" "[I", .fieldLink RX5 18 "UnheardBells$Ropes" "rust" "[I", .fieldLink RX5 21 "UnheardBells$Ropes" "answers" "[I", .fieldLink RX5 24 "UnheardBells$Ropes" "misses" "[I", .fieldLink RX5 27 "UnheardBells$Ropes" "doubles" "[I"] ++ wsX50)
def wsX4_init : List Cond := .code yX4_init cX4_init 1 none :: ([.methodLink RX4 3 objectInit, .instanceMethod objectInit, .code objectInit ⟨#[0xb1]⟩ 1 none, .arrayClass .int, .fieldLink RX4 9 "UnheardBells$Pulls" "rope" "[I", .fieldLink RX4 15 "UnheardBells$Pulls" "hour" "[I", .fieldLink RX4 18 "UnheardBells$Pulls" "strength" "[I"] ++ wsX40)
def wsX7_init_r1 : List Cond := [Cond.methodLink RX7 3 objectInit, Cond.instanceMethod objectInit, Cond.code objectInit ⟨#[0xb1]⟩ 1 none, Cond.classLink RX7 9 RX5, Cond.instantiable RX5 7, Cond.initialized RX5, Cond.fieldLink RX7 12 "UnheardBells$Tower" "ropes" "LUnheardBells$Ropes;", Cond.classLink RX7 18 RX4, Cond.instantiable RX4 4, Cond.initialized RX4, Cond.fieldLink RX7 21 "UnheardBells$Tower" "pulls" "LUnheardBells$Pulls;", Cond.classLink RX7 25 RX0, Cond.instantiable RX0 6, Cond.initialized RX0, Cond.fieldLink RX7 28 "UnheardBells$Tower" "remembered" "LUnheardBells$Answers;", Cond.arrayClass .int, Cond.fieldLink RX7 32 "UnheardBells$Tower" "ringers" "[I", Cond.instanceMethod yX5_init, Cond.code yX5_init cX5_init 1 none, Cond.methodLink RX5 3 objectInit, Cond.fieldLink RX5 9 "UnheardBells$Ropes" "parish" "[I", Cond.fieldLink RX5 15 "UnheardBells$Ropes" "isOn" "[I", Cond.fieldLink RX5 18 "UnheardBells$Ropes" "rust" "[I", Cond.fieldLink RX5 21 "UnheardBells$Ropes" "answers" "[I"]
def wsX7_init_r2 : List Cond := [Cond.fieldLink RX5 24 "UnheardBells$Ropes" "misses" "[I", Cond.fieldLink RX5 27 "UnheardBells$Ropes" "doubles" "[I", Cond.instanceMethod yX4_init, Cond.code yX4_init cX4_init 1 none, Cond.methodLink RX4 3 objectInit, Cond.fieldLink RX4 9 "UnheardBells$Pulls" "rope" "[I", Cond.fieldLink RX4 15 "UnheardBells$Pulls" "hour" "[I", Cond.fieldLink RX4 18 "UnheardBells$Pulls" "strength" "[I", Cond.instanceMethod yX0_init, Cond.code yX0_init cX0_init 1 none, Cond.methodLink RX0 3 objectInit, Cond.fieldLink RX0 9 "UnheardBells$Answers" "rope" "[I", Cond.fieldLink RX0 15 "UnheardBells$Answers" "hour" "[I", Cond.fieldLink RX0 18 "UnheardBells$Answers" "day" "[I", Cond.fieldLink RX0 21 "UnheardBells$Answers" "strength" "[I"]
def wsX7_init : List Cond := .code yX7_init cX7_init 1 none :: ((wsX7_init_r1 ++ wsX7_init_r2) ++ wsX50 ++ wsX70 ++ wsX40 ++ wsX00)
def wsX1_rowAt_r1 : List Cond := [Cond.fieldLink RX1 11 "UnheardBells$History" "rows" "[LUnheardBells$Tower;", Cond.classLink RX1 9 RX7, Cond.instantiable RX7 12, Cond.initialized RX7, Cond.methodLink RX1 17 yJ9_floorMod_7cf53, Cond.static yJ9_floorMod_7cf53, Cond.initialized RJ9, Cond.code yJ9_floorMod_7cf53 cJ9_floorMod_7cf53 3 (some .int), Cond.instanceMethod yX7_init, Cond.code yX7_init cX7_init 1 none, Cond.methodLink RX7 3 objectInit, Cond.instanceMethod objectInit, Cond.code objectInit ⟨#[0xb1]⟩ 1 none, Cond.classLink RX7 9 RX5, Cond.instantiable RX5 7, Cond.initialized RX5, Cond.fieldLink RX7 12 "UnheardBells$Tower" "ropes" "LUnheardBells$Ropes;", Cond.classLink RX7 18 RX4, Cond.instantiable RX4 4, Cond.initialized RX4, Cond.fieldLink RX7 21 "UnheardBells$Tower" "pulls" "LUnheardBells$Pulls;", Cond.classLink RX7 25 RX0, Cond.instantiable RX0 6, Cond.initialized RX0]
def wsX1_rowAt_r2 : List Cond := [Cond.fieldLink RX7 28 "UnheardBells$Tower" "remembered" "LUnheardBells$Answers;", Cond.arrayClass .int, Cond.fieldLink RX7 32 "UnheardBells$Tower" "ringers" "[I", Cond.instanceMethod yX5_init, Cond.code yX5_init cX5_init 1 none, Cond.methodLink RX5 3 objectInit, Cond.fieldLink RX5 9 "UnheardBells$Ropes" "parish" "[I", Cond.fieldLink RX5 15 "UnheardBells$Ropes" "isOn" "[I", Cond.fieldLink RX5 18 "UnheardBells$Ropes" "rust" "[I", Cond.fieldLink RX5 21 "UnheardBells$Ropes" "answers" "[I", Cond.fieldLink RX5 24 "UnheardBells$Ropes" "misses" "[I", Cond.fieldLink RX5 27 "UnheardBells$Ropes" "doubles" "[I", Cond.instanceMethod yX4_init, Cond.code yX4_init cX4_init 1 none, Cond.methodLink RX4 3 objectInit, Cond.fieldLink RX4 9 "UnheardBells$Pulls" "rope" "[I", Cond.fieldLink RX4 15 "UnheardBells$Pulls" "hour" "[I", Cond.fieldLink RX4 18 "UnheardBells$Pulls" "strength" "[I", Cond.instanceMethod yX0_init, Cond.code yX0_init cX0_init 1 none, Cond.methodLink RX0 3 objectInit, Cond.fieldLink RX0 9 "UnheardBells$Answers" "rope" "[I", Cond.fieldLink RX0 15 "UnheardBells$Answers" "hour" "[I", Cond.fieldLink RX0 18 "UnheardBells$Answers" "day" "[I"]
def wsX1_rowAt_r3 : List Cond := [Cond.fieldLink RX0 21 "UnheardBells$Answers" "strength" "[I"]
def wsX1_rowAt : List Cond := .code yX1_rowAt cX1_rowAt 3 (some (.object "UnheardBells$Tower")) :: ((wsX1_rowAt_r1 ++ (wsX1_rowAt_r2 ++ wsX1_rowAt_r3)) ++ wsX10 ++ wsX70 ++ wsX50 ++ wsX40 ++ wsX00)
def wsX5_copyFrom : List Cond := .code yX5_copyFrom cX5_copyFrom 2 none :: ([.fieldLink RX5 30 "UnheardBells$Ropes" "number" "I", .fieldLink RX5 9 "UnheardBells$Ropes" "parish" "[I", .fieldLink RX5 15 "UnheardBells$Ropes" "isOn" "[I", .fieldLink RX5 18 "UnheardBells$Ropes" "rust" "[I", .fieldLink RX5 21 "UnheardBells$Ropes" "answers" "[I", .fieldLink RX5 24 "UnheardBells$Ropes" "misses" "[I", .fieldLink RX5 27 "UnheardBells$Ropes" "doubles" "[I", .static yX8_copy, .initialized RX8, .code yX8_copy cX8_copy 2 none, .methodLink RX8 340 Lib.Math.min.name, .static Lib.Math.min.name, .initialized "java/lang/Math", .code Lib.Math.min.name Lib.Math.min.code 2 (some .int), .methodLink RX8 345 arraycopyName, .native arraycopyName, .static arraycopyName, .initialized "java/lang/System"] ++ wsX50)
def wsX4_copyFrom : List Cond := .code yX4_copyFrom cX4_copyFrom 2 none :: ([.fieldLink RX4 21 "UnheardBells$Pulls" "number" "I", .fieldLink RX4 9 "UnheardBells$Pulls" "rope" "[I", .fieldLink RX4 15 "UnheardBells$Pulls" "hour" "[I", .fieldLink RX4 18 "UnheardBells$Pulls" "strength" "[I", .static yX8_copy, .initialized RX8, .code yX8_copy cX8_copy 2 none, .methodLink RX8 340 Lib.Math.min.name, .static Lib.Math.min.name, .initialized "java/lang/Math", .code Lib.Math.min.name Lib.Math.min.code 2 (some .int), .methodLink RX8 345 arraycopyName, .native arraycopyName, .static arraycopyName, .initialized "java/lang/System"] ++ wsX40)
def wsX7_copyFrom_r1 : List Cond := [Cond.fieldLink RX7 12 "UnheardBells$Tower" "ropes" "LUnheardBells$Ropes;", Cond.fieldLink RX7 21 "UnheardBells$Tower" "pulls" "LUnheardBells$Pulls;", Cond.fieldLink RX7 28 "UnheardBells$Tower" "remembered" "LUnheardBells$Answers;", Cond.fieldLink RX7 32 "UnheardBells$Tower" "ringers" "[I", Cond.fieldLink RX7 50 "UnheardBells$Tower" "hour" "I", Cond.fieldLink RX7 54 "UnheardBells$Tower" "day" "I", Cond.fieldLink RX7 57 "UnheardBells$Tower" "came" "I", Cond.fieldLink RX7 60 "UnheardBells$Tower" "rung" "I", Cond.fieldLink RX7 63 "UnheardBells$Tower" "answers" "I", Cond.fieldLink RX7 66 "UnheardBells$Tower" "misses" "I", Cond.fieldLink RX7 69 "UnheardBells$Tower" "doubles" "I", Cond.fieldLink RX7 72 "UnheardBells$Tower" "takenAway" "I", Cond.methodLink RX7 36 yX5_copyFrom, Cond.instanceMethod yX5_copyFrom, Cond.selects RX5 yX5_copyFrom yX5_copyFrom, Cond.initialized RX5, Cond.code yX5_copyFrom cX5_copyFrom 2 none, Cond.fieldLink RX5 30 "UnheardBells$Ropes" "number" "I", Cond.fieldLink RX5 9 "UnheardBells$Ropes" "parish" "[I", Cond.fieldLink RX5 15 "UnheardBells$Ropes" "isOn" "[I", Cond.fieldLink RX5 18 "UnheardBells$Ropes" "rust" "[I", Cond.fieldLink RX5 21 "UnheardBells$Ropes" "answers" "[I", Cond.fieldLink RX5 24 "UnheardBells$Ropes" "misses" "[I", Cond.fieldLink RX5 27 "UnheardBells$Ropes" "doubles" "[I"]
def wsX7_copyFrom_r2 : List Cond := [Cond.static yX8_copy, Cond.initialized RX8, Cond.code yX8_copy cX8_copy 2 none, Cond.methodLink RX8 340 Lib.Math.min.name, Cond.static Lib.Math.min.name, Cond.initialized "java/lang/Math", Cond.code Lib.Math.min.name Lib.Math.min.code 2 (some .int), Cond.methodLink RX8 345 arraycopyName, Cond.native arraycopyName, Cond.static arraycopyName, Cond.initialized "java/lang/System", Cond.methodLink RX7 40 yX4_copyFrom, Cond.instanceMethod yX4_copyFrom, Cond.selects RX4 yX4_copyFrom yX4_copyFrom, Cond.initialized RX4, Cond.code yX4_copyFrom cX4_copyFrom 2 none, Cond.fieldLink RX4 21 "UnheardBells$Pulls" "number" "I", Cond.fieldLink RX4 9 "UnheardBells$Pulls" "rope" "[I", Cond.fieldLink RX4 15 "UnheardBells$Pulls" "hour" "[I", Cond.fieldLink RX4 18 "UnheardBells$Pulls" "strength" "[I", Cond.methodLink RX7 43 yX0_copyFrom, Cond.instanceMethod yX0_copyFrom, Cond.selects RX0 yX0_copyFrom yX0_copyFrom, Cond.initialized RX0]
def wsX7_copyFrom_r3 : List Cond := [Cond.code yX0_copyFrom cX0_copyFrom 2 none, Cond.fieldLink RX0 24 "UnheardBells$Answers" "number" "I", Cond.fieldLink RX0 28 "UnheardBells$Answers" "latest" "I", Cond.fieldLink RX0 9 "UnheardBells$Answers" "rope" "[I", Cond.fieldLink RX0 15 "UnheardBells$Answers" "hour" "[I", Cond.fieldLink RX0 18 "UnheardBells$Answers" "day" "[I", Cond.fieldLink RX0 21 "UnheardBells$Answers" "strength" "[I"]
def wsX7_copyFrom : List Cond := .code yX7_copyFrom cX7_copyFrom 2 none :: ((wsX7_copyFrom_r1 ++ (wsX7_copyFrom_r2 ++ wsX7_copyFrom_r3)) ++ wsX70 ++ wsX50 ++ wsX40 ++ wsX00)
def wsX1_note_r1 : List Cond := [Cond.fieldLink RX1 24 "UnheardBells$History" "free" "I", Cond.methodLink RX1 28 yX1_rowAt, Cond.instanceMethod yX1_rowAt, Cond.selects RX1 yX1_rowAt yX1_rowAt, Cond.initialized RX1, Cond.code yX1_rowAt cX1_rowAt 3 (some (.object "UnheardBells$Tower")), Cond.fieldLink RX1 11 "UnheardBells$History" "rows" "[LUnheardBells$Tower;", Cond.classLink RX1 9 RX7, Cond.instantiable RX7 12, Cond.initialized RX7, Cond.methodLink RX1 17 yJ9_floorMod_7cf53, Cond.static yJ9_floorMod_7cf53, Cond.initialized RJ9, Cond.code yJ9_floorMod_7cf53 cJ9_floorMod_7cf53 3 (some .int), Cond.instanceMethod yX7_init, Cond.code yX7_init cX7_init 1 none, Cond.methodLink RX7 3 objectInit, Cond.instanceMethod objectInit, Cond.code objectInit ⟨#[0xb1]⟩ 1 none, Cond.classLink RX7 9 RX5, Cond.instantiable RX5 7, Cond.initialized RX5, Cond.fieldLink RX7 12 "UnheardBells$Tower" "ropes" "LUnheardBells$Ropes;", Cond.classLink RX7 18 RX4]
def wsX1_note_r2 : List Cond := [Cond.instantiable RX4 4, Cond.initialized RX4, Cond.fieldLink RX7 21 "UnheardBells$Tower" "pulls" "LUnheardBells$Pulls;", Cond.classLink RX7 25 RX0, Cond.instantiable RX0 6, Cond.initialized RX0, Cond.fieldLink RX7 28 "UnheardBells$Tower" "remembered" "LUnheardBells$Answers;", Cond.arrayClass .int, Cond.fieldLink RX7 32 "UnheardBells$Tower" "ringers" "[I", Cond.instanceMethod yX5_init, Cond.code yX5_init cX5_init 1 none, Cond.methodLink RX5 3 objectInit, Cond.fieldLink RX5 9 "UnheardBells$Ropes" "parish" "[I", Cond.fieldLink RX5 15 "UnheardBells$Ropes" "isOn" "[I", Cond.fieldLink RX5 18 "UnheardBells$Ropes" "rust" "[I", Cond.fieldLink RX5 21 "UnheardBells$Ropes" "answers" "[I", Cond.fieldLink RX5 24 "UnheardBells$Ropes" "misses" "[I", Cond.fieldLink RX5 27 "UnheardBells$Ropes" "doubles" "[I", Cond.instanceMethod yX4_init, Cond.code yX4_init cX4_init 1 none, Cond.methodLink RX4 3 objectInit, Cond.fieldLink RX4 9 "UnheardBells$Pulls" "rope" "[I", Cond.fieldLink RX4 15 "UnheardBells$Pulls" "hour" "[I", Cond.fieldLink RX4 18 "UnheardBells$Pulls" "strength" "[I"]
def wsX1_note_r3 : List Cond := [Cond.instanceMethod yX0_init, Cond.code yX0_init cX0_init 1 none, Cond.methodLink RX0 3 objectInit, Cond.fieldLink RX0 9 "UnheardBells$Answers" "rope" "[I", Cond.fieldLink RX0 15 "UnheardBells$Answers" "hour" "[I", Cond.fieldLink RX0 18 "UnheardBells$Answers" "day" "[I", Cond.fieldLink RX0 21 "UnheardBells$Answers" "strength" "[I", Cond.methodLink RX1 32 yX7_copyFrom, Cond.instanceMethod yX7_copyFrom, Cond.selects RX7 yX7_copyFrom yX7_copyFrom, Cond.code yX7_copyFrom cX7_copyFrom 2 none, Cond.fieldLink RX7 50 "UnheardBells$Tower" "hour" "I", Cond.fieldLink RX7 54 "UnheardBells$Tower" "day" "I", Cond.fieldLink RX7 57 "UnheardBells$Tower" "came" "I", Cond.fieldLink RX7 60 "UnheardBells$Tower" "rung" "I", Cond.fieldLink RX7 63 "UnheardBells$Tower" "answers" "I", Cond.fieldLink RX7 66 "UnheardBells$Tower" "misses" "I", Cond.fieldLink RX7 69 "UnheardBells$Tower" "doubles" "I", Cond.fieldLink RX7 72 "UnheardBells$Tower" "takenAway" "I", Cond.methodLink RX7 36 yX5_copyFrom, Cond.instanceMethod yX5_copyFrom, Cond.selects RX5 yX5_copyFrom yX5_copyFrom, Cond.code yX5_copyFrom cX5_copyFrom 2 none, Cond.fieldLink RX5 30 "UnheardBells$Ropes" "number" "I"]
def wsX1_note_r4 : List Cond := [Cond.static yX8_copy, Cond.initialized RX8, Cond.code yX8_copy cX8_copy 2 none, Cond.methodLink RX8 340 Lib.Math.min.name, Cond.static Lib.Math.min.name, Cond.initialized "java/lang/Math", Cond.code Lib.Math.min.name Lib.Math.min.code 2 (some .int), Cond.methodLink RX8 345 arraycopyName, Cond.native arraycopyName, Cond.static arraycopyName, Cond.initialized "java/lang/System", Cond.methodLink RX7 40 yX4_copyFrom, Cond.instanceMethod yX4_copyFrom, Cond.selects RX4 yX4_copyFrom yX4_copyFrom, Cond.code yX4_copyFrom cX4_copyFrom 2 none, Cond.fieldLink RX4 21 "UnheardBells$Pulls" "number" "I", Cond.methodLink RX7 43 yX0_copyFrom, Cond.instanceMethod yX0_copyFrom, Cond.selects RX0 yX0_copyFrom yX0_copyFrom, Cond.code yX0_copyFrom cX0_copyFrom 2 none, Cond.fieldLink RX0 24 "UnheardBells$Answers" "number" "I", Cond.fieldLink RX0 28 "UnheardBells$Answers" "latest" "I"]
def wsX1_note : List Cond := .code yX1_note cX1_note 2 none :: ((wsX1_note_r1 ++ (wsX1_note_r2 ++ (wsX1_note_r3 ++ wsX1_note_r4))) ++ wsX10 ++ wsX70 ++ wsX50 ++ wsX40 ++ wsX00)
def wsX1_takeBack_r1 : List Cond := [Cond.fieldLink RX1 24 "UnheardBells$History" "free" "I", Cond.methodLink RX1 28 yX1_rowAt, Cond.instanceMethod yX1_rowAt, Cond.selects RX1 yX1_rowAt yX1_rowAt, Cond.initialized RX1, Cond.code yX1_rowAt cX1_rowAt 3 (some (.object "UnheardBells$Tower")), Cond.fieldLink RX1 11 "UnheardBells$History" "rows" "[LUnheardBells$Tower;", Cond.classLink RX1 9 RX7, Cond.instantiable RX7 12, Cond.initialized RX7, Cond.methodLink RX1 17 yJ9_floorMod_7cf53, Cond.static yJ9_floorMod_7cf53, Cond.initialized RJ9, Cond.code yJ9_floorMod_7cf53 cJ9_floorMod_7cf53 3 (some .int), Cond.instanceMethod yX7_init, Cond.code yX7_init cX7_init 1 none, Cond.methodLink RX7 3 objectInit, Cond.instanceMethod objectInit, Cond.code objectInit ⟨#[0xb1]⟩ 1 none, Cond.classLink RX7 9 RX5, Cond.instantiable RX5 7, Cond.initialized RX5, Cond.fieldLink RX7 12 "UnheardBells$Tower" "ropes" "LUnheardBells$Ropes;", Cond.classLink RX7 18 RX4]
def wsX1_takeBack_r2 : List Cond := [Cond.instantiable RX4 4, Cond.initialized RX4, Cond.fieldLink RX7 21 "UnheardBells$Tower" "pulls" "LUnheardBells$Pulls;", Cond.classLink RX7 25 RX0, Cond.instantiable RX0 6, Cond.initialized RX0, Cond.fieldLink RX7 28 "UnheardBells$Tower" "remembered" "LUnheardBells$Answers;", Cond.arrayClass .int, Cond.fieldLink RX7 32 "UnheardBells$Tower" "ringers" "[I", Cond.instanceMethod yX5_init, Cond.code yX5_init cX5_init 1 none, Cond.methodLink RX5 3 objectInit, Cond.fieldLink RX5 9 "UnheardBells$Ropes" "parish" "[I", Cond.fieldLink RX5 15 "UnheardBells$Ropes" "isOn" "[I", Cond.fieldLink RX5 18 "UnheardBells$Ropes" "rust" "[I", Cond.fieldLink RX5 21 "UnheardBells$Ropes" "answers" "[I", Cond.fieldLink RX5 24 "UnheardBells$Ropes" "misses" "[I", Cond.fieldLink RX5 27 "UnheardBells$Ropes" "doubles" "[I", Cond.instanceMethod yX4_init, Cond.code yX4_init cX4_init 1 none, Cond.methodLink RX4 3 objectInit, Cond.fieldLink RX4 9 "UnheardBells$Pulls" "rope" "[I", Cond.fieldLink RX4 15 "UnheardBells$Pulls" "hour" "[I", Cond.fieldLink RX4 18 "UnheardBells$Pulls" "strength" "[I"]
def wsX1_takeBack_r3 : List Cond := [Cond.instanceMethod yX0_init, Cond.code yX0_init cX0_init 1 none, Cond.methodLink RX0 3 objectInit, Cond.fieldLink RX0 9 "UnheardBells$Answers" "rope" "[I", Cond.fieldLink RX0 15 "UnheardBells$Answers" "hour" "[I", Cond.fieldLink RX0 18 "UnheardBells$Answers" "day" "[I", Cond.fieldLink RX0 21 "UnheardBells$Answers" "strength" "[I", Cond.methodLink RX1 32 yX7_copyFrom, Cond.instanceMethod yX7_copyFrom, Cond.selects RX7 yX7_copyFrom yX7_copyFrom, Cond.code yX7_copyFrom cX7_copyFrom 2 none, Cond.fieldLink RX7 50 "UnheardBells$Tower" "hour" "I", Cond.fieldLink RX7 54 "UnheardBells$Tower" "day" "I", Cond.fieldLink RX7 57 "UnheardBells$Tower" "came" "I", Cond.fieldLink RX7 60 "UnheardBells$Tower" "rung" "I", Cond.fieldLink RX7 63 "UnheardBells$Tower" "answers" "I", Cond.fieldLink RX7 66 "UnheardBells$Tower" "misses" "I", Cond.fieldLink RX7 69 "UnheardBells$Tower" "doubles" "I", Cond.fieldLink RX7 72 "UnheardBells$Tower" "takenAway" "I", Cond.methodLink RX7 36 yX5_copyFrom, Cond.instanceMethod yX5_copyFrom, Cond.selects RX5 yX5_copyFrom yX5_copyFrom, Cond.code yX5_copyFrom cX5_copyFrom 2 none, Cond.fieldLink RX5 30 "UnheardBells$Ropes" "number" "I"]
def wsX1_takeBack_r4 : List Cond := [Cond.static yX8_copy, Cond.initialized RX8, Cond.code yX8_copy cX8_copy 2 none, Cond.methodLink RX8 340 Lib.Math.min.name, Cond.static Lib.Math.min.name, Cond.initialized "java/lang/Math", Cond.code Lib.Math.min.name Lib.Math.min.code 2 (some .int), Cond.methodLink RX8 345 arraycopyName, Cond.native arraycopyName, Cond.static arraycopyName, Cond.initialized "java/lang/System", Cond.methodLink RX7 40 yX4_copyFrom, Cond.instanceMethod yX4_copyFrom, Cond.selects RX4 yX4_copyFrom yX4_copyFrom, Cond.code yX4_copyFrom cX4_copyFrom 2 none, Cond.fieldLink RX4 21 "UnheardBells$Pulls" "number" "I", Cond.methodLink RX7 43 yX0_copyFrom, Cond.instanceMethod yX0_copyFrom, Cond.selects RX0 yX0_copyFrom yX0_copyFrom, Cond.code yX0_copyFrom cX0_copyFrom 2 none, Cond.fieldLink RX0 24 "UnheardBells$Answers" "number" "I", Cond.fieldLink RX0 28 "UnheardBells$Answers" "latest" "I"]
def wsX1_takeBack : List Cond := .code yX1_takeBack cX1_takeBack 2 none :: ((wsX1_takeBack_r1 ++ (wsX1_takeBack_r2 ++ (wsX1_takeBack_r3 ++ wsX1_takeBack_r4))) ++ wsX10 ++ wsX70 ++ wsX50 ++ wsX40 ++ wsX00)
def wsX1_keep : List Cond := .code yX1_keep cX1_keep 1 none :: ([.fieldLink RX1 24 "UnheardBells$History" "free" "I", .fieldLink RX1 36 "UnheardBells$History" "number" "I", .methodLink RX1 39 Lib.Math.min.name, .static Lib.Math.min.name, .initialized "java/lang/Math", .code Lib.Math.min.name Lib.Math.min.code 2 (some .int), .methodLink RX1 17 yJ9_floorMod_7cf53, .static yJ9_floorMod_7cf53, .initialized RJ9, .code yJ9_floorMod_7cf53 cJ9_floorMod_7cf53 3 (some .int)] ++ wsX10)
def wsX1_stepBack_r1 : List Cond := [Cond.fieldLink RX1 36 "UnheardBells$History" "number" "I", Cond.fieldLink RX1 24 "UnheardBells$History" "free" "I", Cond.methodLink RX1 17 yJ9_floorMod_7cf53, Cond.static yJ9_floorMod_7cf53, Cond.initialized RJ9, Cond.code yJ9_floorMod_7cf53 cJ9_floorMod_7cf53 3 (some .int), Cond.methodLink RX1 42 yX1_takeBack, Cond.instanceMethod yX1_takeBack, Cond.selects RX1 yX1_takeBack yX1_takeBack, Cond.initialized RX1, Cond.code yX1_takeBack cX1_takeBack 2 none, Cond.methodLink RX1 28 yX1_rowAt, Cond.instanceMethod yX1_rowAt, Cond.selects RX1 yX1_rowAt yX1_rowAt, Cond.code yX1_rowAt cX1_rowAt 3 (some (.object "UnheardBells$Tower")), Cond.fieldLink RX1 11 "UnheardBells$History" "rows" "[LUnheardBells$Tower;", Cond.classLink RX1 9 RX7, Cond.instantiable RX7 12, Cond.initialized RX7, Cond.instanceMethod yX7_init, Cond.code yX7_init cX7_init 1 none, Cond.methodLink RX7 3 objectInit, Cond.instanceMethod objectInit, Cond.code objectInit ⟨#[0xb1]⟩ 1 none]
def wsX1_stepBack_r2 : List Cond := [Cond.classLink RX7 9 RX5, Cond.instantiable RX5 7, Cond.initialized RX5, Cond.fieldLink RX7 12 "UnheardBells$Tower" "ropes" "LUnheardBells$Ropes;", Cond.classLink RX7 18 RX4, Cond.instantiable RX4 4, Cond.initialized RX4, Cond.fieldLink RX7 21 "UnheardBells$Tower" "pulls" "LUnheardBells$Pulls;", Cond.classLink RX7 25 RX0, Cond.instantiable RX0 6, Cond.initialized RX0, Cond.fieldLink RX7 28 "UnheardBells$Tower" "remembered" "LUnheardBells$Answers;", Cond.arrayClass .int, Cond.fieldLink RX7 32 "UnheardBells$Tower" "ringers" "[I", Cond.instanceMethod yX5_init, Cond.code yX5_init cX5_init 1 none, Cond.methodLink RX5 3 objectInit, Cond.fieldLink RX5 9 "UnheardBells$Ropes" "parish" "[I", Cond.fieldLink RX5 15 "UnheardBells$Ropes" "isOn" "[I", Cond.fieldLink RX5 18 "UnheardBells$Ropes" "rust" "[I", Cond.fieldLink RX5 21 "UnheardBells$Ropes" "answers" "[I", Cond.fieldLink RX5 24 "UnheardBells$Ropes" "misses" "[I", Cond.fieldLink RX5 27 "UnheardBells$Ropes" "doubles" "[I", Cond.instanceMethod yX4_init]
def wsX1_stepBack_r3 : List Cond := [Cond.code yX4_init cX4_init 1 none, Cond.methodLink RX4 3 objectInit, Cond.fieldLink RX4 9 "UnheardBells$Pulls" "rope" "[I", Cond.fieldLink RX4 15 "UnheardBells$Pulls" "hour" "[I", Cond.fieldLink RX4 18 "UnheardBells$Pulls" "strength" "[I", Cond.instanceMethod yX0_init, Cond.code yX0_init cX0_init 1 none, Cond.methodLink RX0 3 objectInit, Cond.fieldLink RX0 9 "UnheardBells$Answers" "rope" "[I", Cond.fieldLink RX0 15 "UnheardBells$Answers" "hour" "[I", Cond.fieldLink RX0 18 "UnheardBells$Answers" "day" "[I", Cond.fieldLink RX0 21 "UnheardBells$Answers" "strength" "[I", Cond.methodLink RX1 32 yX7_copyFrom, Cond.instanceMethod yX7_copyFrom, Cond.selects RX7 yX7_copyFrom yX7_copyFrom, Cond.code yX7_copyFrom cX7_copyFrom 2 none, Cond.fieldLink RX7 50 "UnheardBells$Tower" "hour" "I", Cond.fieldLink RX7 54 "UnheardBells$Tower" "day" "I", Cond.fieldLink RX7 57 "UnheardBells$Tower" "came" "I", Cond.fieldLink RX7 60 "UnheardBells$Tower" "rung" "I", Cond.fieldLink RX7 63 "UnheardBells$Tower" "answers" "I", Cond.fieldLink RX7 66 "UnheardBells$Tower" "misses" "I", Cond.fieldLink RX7 69 "UnheardBells$Tower" "doubles" "I", Cond.fieldLink RX7 72 "UnheardBells$Tower" "takenAway" "I"]
def wsX1_stepBack_r4 : List Cond := [Cond.methodLink RX7 36 yX5_copyFrom, Cond.instanceMethod yX5_copyFrom, Cond.selects RX5 yX5_copyFrom yX5_copyFrom, Cond.code yX5_copyFrom cX5_copyFrom 2 none, Cond.fieldLink RX5 30 "UnheardBells$Ropes" "number" "I", Cond.static yX8_copy, Cond.initialized RX8, Cond.code yX8_copy cX8_copy 2 none, Cond.methodLink RX8 340 Lib.Math.min.name, Cond.static Lib.Math.min.name, Cond.initialized "java/lang/Math", Cond.code Lib.Math.min.name Lib.Math.min.code 2 (some .int), Cond.methodLink RX8 345 arraycopyName, Cond.native arraycopyName, Cond.static arraycopyName, Cond.initialized "java/lang/System", Cond.methodLink RX7 40 yX4_copyFrom, Cond.instanceMethod yX4_copyFrom, Cond.selects RX4 yX4_copyFrom yX4_copyFrom, Cond.code yX4_copyFrom cX4_copyFrom 2 none, Cond.fieldLink RX4 21 "UnheardBells$Pulls" "number" "I", Cond.methodLink RX7 43 yX0_copyFrom, Cond.instanceMethod yX0_copyFrom, Cond.selects RX0 yX0_copyFrom yX0_copyFrom]
def wsX1_stepBack_r5 : List Cond := [Cond.code yX0_copyFrom cX0_copyFrom 2 none, Cond.fieldLink RX0 24 "UnheardBells$Answers" "number" "I", Cond.fieldLink RX0 28 "UnheardBells$Answers" "latest" "I"]
def wsX1_stepBack : List Cond := .code yX1_stepBack cX1_stepBack 2 (some .boolean) :: ((wsX1_stepBack_r1 ++ (wsX1_stepBack_r2 ++ (wsX1_stepBack_r3 ++ (wsX1_stepBack_r4 ++ wsX1_stepBack_r5)))) ++ wsX10 ++ wsX70 ++ wsX50 ++ wsX40 ++ wsX00)
def wsX2_init : List Cond := .code yX2_init cX2_init 1 none :: ([.methodLink RX2 3 objectInit, .instanceMethod objectInit, .code objectInit ⟨#[0xb1]⟩ 1 none, .arrayClass .int, .fieldLink RX2 9 "UnheardBells$Line" "codes" "[I"] ++ wsX20)
def wsX2_write : List Cond := .code yX2_write cX2_write 2 none :: ([.fieldLink RX2 9 "UnheardBells$Line" "codes" "[I", .fieldLink RX2 15 "UnheardBells$Line" "length" "I", .methodLink RX2 23 Lib.Math.min.name, .static Lib.Math.min.name, .initialized "java/lang/Math", .code Lib.Math.min.name Lib.Math.min.code 2 (some .int), .static yX8_put, .initialized RX8, .code yX8_put cX8_put 3 none] ++ wsX20)
def wsX2_writeNumber : List Cond := .code yX2_writeNumber cX2_writeNumber 2 none :: ([.methodLink RX2 29 yX2_write, .instanceMethod yX2_write, .selects RX2 yX2_write yX2_write, .initialized RX2, .code yX2_write cX2_write 2 none, .fieldLink RX2 9 "UnheardBells$Line" "codes" "[I", .fieldLink RX2 15 "UnheardBells$Line" "length" "I", .methodLink RX2 23 Lib.Math.min.name, .static Lib.Math.min.name, .initialized "java/lang/Math", .code Lib.Math.min.name Lib.Math.min.code 2 (some .int), .static yX8_put, .initialized RX8, .code yX8_put cX8_put 3 none] ++ wsX20)
def wsX3_init : List Cond := .code yX3_init cX3_init 1 none :: ([.methodLink RX3 3 objectInit, .instanceMethod objectInit, .code objectInit ⟨#[0xb1]⟩ 1 none, .arrayClass .int, .fieldLink RX3 9 "UnheardBells$Orders" "kinds" "[I", .fieldLink RX3 15 "UnheardBells$Orders" "numbers" "[I"] ++ wsX30)
def wsX8_at : List Cond := .code yX8_at cX8_at 2 (some .int) :: ([])
def wsX3_numberAt : List Cond := .code yX3_numberAt cX3_numberAt 3 (some .int) :: ([.fieldLink RX3 15 "UnheardBells$Orders" "numbers" "[I", .static yX8_at, .initialized RX8, .code yX8_at cX8_at 2 (some .int)] ++ wsX30)
def wsX6_codeAt : List Cond := .code yX6_codeAt cX6_codeAt 2 (some .int) :: ([.fieldLink RX6 15 "UnheardBells$Text" "length" "I", .fieldLink RX6 9 "UnheardBells$Text" "codes" "[I", .static yX8_at, .initialized RX8, .code yX8_at cX8_at 2 (some .int)] ++ wsX60)
def wsX3_shapeOf : List Cond := .code yX3_shapeOf cX3_shapeOf 2 (some (.object "java/lang/String")) :: ([])
def wsJ0_isEmpty_aae02 : List Cond := .code yJ0_isEmpty_aae02 cJ0_isEmpty_aae02 1 (some .boolean) :: ([.fieldLink RJ0 9 "java/lang/String" "value" "[B"] ++ wsJ00)
def wsJ0_coder_7d493 : List Cond := .code yJ0_coder_7d493 cJ0_coder_7d493 1 (some .byte) :: ([.fieldLink RJ0 38 "java/lang/String" "COMPACT_STRINGS" "Z", .fieldLink RJ0 15 "java/lang/String" "coder" "B"] ++ wsJ00)
def wsJ0_length_8abf5 : List Cond := .code yJ0_length_8abf5 cJ0_length_8abf5 1 (some .int) :: ([.fieldLink RJ0 9 "java/lang/String" "value" "[B", .methodLink RJ0 335 yJ0_coder_7d493, .instanceMethod yJ0_coder_7d493, .selects RJ0 yJ0_coder_7d493 yJ0_coder_7d493, .initialized RJ0, .code yJ0_coder_7d493 cJ0_coder_7d493 1 (some .byte), .fieldLink RJ0 38 "java/lang/String" "COMPACT_STRINGS" "Z", .fieldLink RJ0 15 "java/lang/String" "coder" "B"] ++ wsJ00)
def wsJ0_isLatin1_aae02 : List Cond := .code yJ0_isLatin1_aae02 cJ0_isLatin1_aae02 1 (some .boolean) :: ([.fieldLink RJ0 38 "java/lang/String" "COMPACT_STRINGS" "Z", .fieldLink RJ0 15 "java/lang/String" "coder" "B"] ++ wsJ00)
def wsJ3_checkIndex_8e157 : List Cond := .code yJ3_checkIndex_8e157 cJ3_checkIndex_8e157 3 (some .int) :: ([])
def wsJ0_checkIndex_df160 : List Cond := .code yJ0_checkIndex_df160 cJ0_checkIndex_df160 2 none :: ([.fieldLink RJ0 1053 "jdk/internal/util/Preconditions" "SIOOBE_FORMATTER" "Ljava/util/function/BiFunction;", .methodLink RJ0 1059 yJ3_checkIndex_8e157, .static yJ3_checkIndex_8e157, .initialized RJ3, .code yJ3_checkIndex_8e157 cJ3_checkIndex_8e157 3 (some .int)])
def wsJ1_charAt_3b067 : List Cond := .code yJ1_charAt_3b067 cJ1_charAt_3b067 2 (some .char) :: ([.methodLink RJ1 9 yJ0_checkIndex_df160, .static yJ0_checkIndex_df160, .initialized RJ0, .code yJ0_checkIndex_df160 cJ0_checkIndex_df160 2 none, .fieldLink RJ0 1053 "jdk/internal/util/Preconditions" "SIOOBE_FORMATTER" "Ljava/util/function/BiFunction;", .methodLink RJ0 1059 yJ3_checkIndex_8e157, .static yJ3_checkIndex_8e157, .initialized RJ3, .code yJ3_checkIndex_8e157 cJ3_checkIndex_8e157 3 (some .int)])
def wsJ0_charAt_5068e_r1 : List Cond := [Cond.fieldLink RJ0 9 "java/lang/String" "value" "[B", Cond.methodLink RJ0 492 yJ0_isLatin1_aae02, Cond.instanceMethod yJ0_isLatin1_aae02, Cond.selects RJ0 yJ0_isLatin1_aae02 yJ0_isLatin1_aae02, Cond.initialized RJ0, Cond.code yJ0_isLatin1_aae02 cJ0_isLatin1_aae02 1 (some .boolean), Cond.fieldLink RJ0 38 "java/lang/String" "COMPACT_STRINGS" "Z", Cond.fieldLink RJ0 15 "java/lang/String" "coder" "B", Cond.methodLink RJ0 495 yJ1_charAt_3b067, Cond.static yJ1_charAt_3b067, Cond.initialized RJ1, Cond.code yJ1_charAt_3b067 cJ1_charAt_3b067 2 (some .char), Cond.methodLink RJ1 9 yJ0_checkIndex_df160, Cond.static yJ0_checkIndex_df160, Cond.code yJ0_checkIndex_df160 cJ0_checkIndex_df160 2 none, Cond.fieldLink RJ0 1053 "jdk/internal/util/Preconditions" "SIOOBE_FORMATTER" "Ljava/util/function/BiFunction;", Cond.methodLink RJ0 1059 yJ3_checkIndex_8e157, Cond.static yJ3_checkIndex_8e157, Cond.initialized RJ3, Cond.code yJ3_checkIndex_8e157 cJ3_checkIndex_8e157 3 (some .int), Cond.methodLink RJ0 498 yJ2_charAt_3b067, Cond.static yJ2_charAt_3b067, Cond.initialized RJ2, Cond.code yJ2_charAt_3b067 cJ2_charAt_3b067 2 (some .char)]
def wsJ0_charAt_5068e_r2 : List Cond := [Cond.methodLink RJ2 67 yJ2_checkIndex_2214a, Cond.static yJ2_checkIndex_2214a, Cond.code yJ2_checkIndex_2214a cJ2_checkIndex_2214a 2 none, Cond.methodLink RJ2 48 yJ2_length_9d52b, Cond.static yJ2_length_9d52b, Cond.code yJ2_length_9d52b cJ2_length_9d52b 1 (some .int), Cond.methodLink RJ2 414 yJ0_checkIndex_df160, Cond.methodLink RJ2 71 yJ2_getChar_3b067, Cond.static yJ2_getChar_3b067, Cond.code yJ2_getChar_3b067 cJ2_getChar_3b067 2 (some .char), Cond.fieldLink RJ2 44 "java/lang/StringUTF16" "$assertionsDisabled" "Z", Cond.fieldLink RJ2 59 "java/lang/StringUTF16" "HI_BYTE_SHIFT" "I", Cond.fieldLink RJ2 63 "java/lang/StringUTF16" "LO_BYTE_SHIFT" "I"]
def wsJ0_charAt_5068e : List Cond := .code yJ0_charAt_5068e cJ0_charAt_5068e 2 (some .char) :: ((wsJ0_charAt_5068e_r1 ++ wsJ0_charAt_5068e_r2) ++ wsJ00)
def wsX3_readSign : List Cond := .code yX3_readSign cX3_readSign 3 (some .boolean) :: ([.fieldLink RX3 26 "UnheardBells$Orders" "position" "I", .methodLink RX3 42 yX6_codeAt, .instanceMethod yX6_codeAt, .selects RX6 yX6_codeAt yX6_codeAt, .initialized RX6, .code yX6_codeAt cX6_codeAt 2 (some .int), .fieldLink RX6 15 "UnheardBells$Text" "length" "I", .fieldLink RX6 9 "UnheardBells$Text" "codes" "[I", .static yX8_at, .initialized RX8, .code yX8_at cX8_at 2 (some .int)] ++ wsX30 ++ wsX60)
def wsX8_isDigit : List Cond := .code yX8_isDigit cX8_isDigit 1 (some .boolean) :: ([])
def wsX3_readNumber : List Cond := .code yX3_readNumber cX3_readNumber 6 (some .boolean) :: ([.fieldLink RX3 26 "UnheardBells$Orders" "position" "I", .fieldLink RX3 15 "UnheardBells$Orders" "numbers" "[I", .methodLink RX3 42 yX6_codeAt, .instanceMethod yX6_codeAt, .selects RX6 yX6_codeAt yX6_codeAt, .initialized RX6, .code yX6_codeAt cX6_codeAt 2 (some .int), .fieldLink RX6 15 "UnheardBells$Text" "length" "I", .fieldLink RX6 9 "UnheardBells$Text" "codes" "[I", .static yX8_at, .initialized RX8, .code yX8_at cX8_at 2 (some .int), .static yX8_put, .code yX8_put cX8_put 3 none, .methodLink RX3 38 yX3_readSign, .instanceMethod yX3_readSign, .selects RX3 yX3_readSign yX3_readSign, .initialized RX3, .code yX3_readSign cX3_readSign 3 (some .boolean), .static yX8_isDigit, .code yX8_isDigit cX8_isDigit 1 (some .boolean)] ++ wsX30 ++ wsX60)
def wsX3_readOrder_r1 : List Cond := [Cond.fieldLink RX3 26 "UnheardBells$Orders" "position" "I", Cond.fieldLink RX3 9 "UnheardBells$Orders" "kinds" "[I", Cond.fieldLink RX3 22 "UnheardBells$Orders" "number" "I", Cond.methodLink RX3 42 yX6_codeAt, Cond.instanceMethod yX6_codeAt, Cond.selects RX6 yX6_codeAt yX6_codeAt, Cond.initialized RX6, Cond.code yX6_codeAt cX6_codeAt 2 (some .int), Cond.fieldLink RX6 15 "UnheardBells$Text" "length" "I", Cond.fieldLink RX6 9 "UnheardBells$Text" "codes" "[I", Cond.static yX8_at, Cond.initialized RX8, Cond.code yX8_at cX8_at 2 (some .int), Cond.methodLink RX3 46 yX3_shapeOf, Cond.instanceMethod yX3_shapeOf, Cond.selects RX3 yX3_shapeOf yX3_shapeOf, Cond.initialized RX3, Cond.code yX3_shapeOf cX3_shapeOf 2 (some (.object "java/lang/String")), Cond.methodLink RX3 50 yJ0_isEmpty_aae02, Cond.instanceMethod yJ0_isEmpty_aae02, Cond.selects RJ0 yJ0_isEmpty_aae02 yJ0_isEmpty_aae02, Cond.initialized RJ0, Cond.code yJ0_isEmpty_aae02 cJ0_isEmpty_aae02 1 (some .boolean), Cond.fieldLink RJ0 9 "java/lang/String" "value" "[B"]
def wsX3_readOrder_r2 : List Cond := [Cond.static yX8_put, Cond.code yX8_put cX8_put 3 none, Cond.methodLink RX3 60 yJ0_length_8abf5, Cond.instanceMethod yJ0_length_8abf5, Cond.selects RJ0 yJ0_length_8abf5 yJ0_length_8abf5, Cond.code yJ0_length_8abf5 cJ0_length_8abf5 1 (some .int), Cond.methodLink RJ0 335 yJ0_coder_7d493, Cond.instanceMethod yJ0_coder_7d493, Cond.selects RJ0 yJ0_coder_7d493 yJ0_coder_7d493, Cond.code yJ0_coder_7d493 cJ0_coder_7d493 1 (some .byte), Cond.fieldLink RJ0 38 "java/lang/String" "COMPACT_STRINGS" "Z", Cond.fieldLink RJ0 15 "java/lang/String" "coder" "B", Cond.methodLink RX3 63 yJ0_charAt_5068e, Cond.instanceMethod yJ0_charAt_5068e, Cond.selects RJ0 yJ0_charAt_5068e yJ0_charAt_5068e, Cond.code yJ0_charAt_5068e cJ0_charAt_5068e 2 (some .char), Cond.methodLink RJ0 492 yJ0_isLatin1_aae02, Cond.instanceMethod yJ0_isLatin1_aae02, Cond.selects RJ0 yJ0_isLatin1_aae02 yJ0_isLatin1_aae02, Cond.code yJ0_isLatin1_aae02 cJ0_isLatin1_aae02 1 (some .boolean), Cond.methodLink RJ0 495 yJ1_charAt_3b067, Cond.static yJ1_charAt_3b067, Cond.initialized RJ1, Cond.code yJ1_charAt_3b067 cJ1_charAt_3b067 2 (some .char)]
def wsX3_readOrder_r3 : List Cond := [Cond.methodLink RJ1 9 yJ0_checkIndex_df160, Cond.static yJ0_checkIndex_df160, Cond.code yJ0_checkIndex_df160 cJ0_checkIndex_df160 2 none, Cond.fieldLink RJ0 1053 "jdk/internal/util/Preconditions" "SIOOBE_FORMATTER" "Ljava/util/function/BiFunction;", Cond.methodLink RJ0 1059 yJ3_checkIndex_8e157, Cond.static yJ3_checkIndex_8e157, Cond.initialized RJ3, Cond.code yJ3_checkIndex_8e157 cJ3_checkIndex_8e157 3 (some .int), Cond.methodLink RJ0 498 yJ2_charAt_3b067, Cond.static yJ2_charAt_3b067, Cond.initialized RJ2, Cond.code yJ2_charAt_3b067 cJ2_charAt_3b067 2 (some .char), Cond.methodLink RJ2 67 yJ2_checkIndex_2214a, Cond.static yJ2_checkIndex_2214a, Cond.code yJ2_checkIndex_2214a cJ2_checkIndex_2214a 2 none, Cond.methodLink RJ2 48 yJ2_length_9d52b, Cond.static yJ2_length_9d52b, Cond.code yJ2_length_9d52b cJ2_length_9d52b 1 (some .int), Cond.methodLink RJ2 414 yJ0_checkIndex_df160, Cond.methodLink RJ2 71 yJ2_getChar_3b067, Cond.static yJ2_getChar_3b067, Cond.code yJ2_getChar_3b067 cJ2_getChar_3b067 2 (some .char), Cond.fieldLink RJ2 44 "java/lang/StringUTF16" "$assertionsDisabled" "Z", Cond.fieldLink RJ2 59 "java/lang/StringUTF16" "HI_BYTE_SHIFT" "I"]
def wsX3_readOrder_r4 : List Cond := [Cond.fieldLink RJ2 63 "java/lang/StringUTF16" "LO_BYTE_SHIFT" "I", Cond.methodLink RX3 67 yX3_readNumber, Cond.instanceMethod yX3_readNumber, Cond.selects RX3 yX3_readNumber yX3_readNumber, Cond.code yX3_readNumber cX3_readNumber 6 (some .boolean), Cond.fieldLink RX3 15 "UnheardBells$Orders" "numbers" "[I", Cond.methodLink RX3 38 yX3_readSign, Cond.instanceMethod yX3_readSign, Cond.selects RX3 yX3_readSign yX3_readSign, Cond.code yX3_readSign cX3_readSign 3 (some .boolean), Cond.static yX8_isDigit, Cond.code yX8_isDigit cX8_isDigit 1 (some .boolean)]
def wsX3_readOrder : List Cond := .code yX3_readOrder cX3_readOrder 8 (some .boolean) :: ((wsX3_readOrder_r1 ++ (wsX3_readOrder_r2 ++ (wsX3_readOrder_r3 ++ wsX3_readOrder_r4))) ++ wsX30 ++ wsX60 ++ wsJ00)
def wsX3_read_r1 : List Cond := [Cond.fieldLink RX3 22 "UnheardBells$Orders" "number" "I", Cond.fieldLink RX3 26 "UnheardBells$Orders" "position" "I", Cond.fieldLink RX3 33 "UnheardBells$Text" "length" "I", Cond.methodLink RX3 29 yX3_readOrder, Cond.instanceMethod yX3_readOrder, Cond.selects RX3 yX3_readOrder yX3_readOrder, Cond.initialized RX3, Cond.code yX3_readOrder cX3_readOrder 8 (some .boolean), Cond.fieldLink RX3 9 "UnheardBells$Orders" "kinds" "[I", Cond.methodLink RX3 42 yX6_codeAt, Cond.instanceMethod yX6_codeAt, Cond.selects RX6 yX6_codeAt yX6_codeAt, Cond.initialized RX6, Cond.code yX6_codeAt cX6_codeAt 2 (some .int), Cond.fieldLink RX6 15 "UnheardBells$Text" "length" "I", Cond.fieldLink RX6 9 "UnheardBells$Text" "codes" "[I", Cond.static yX8_at, Cond.initialized RX8, Cond.code yX8_at cX8_at 2 (some .int), Cond.methodLink RX3 46 yX3_shapeOf, Cond.instanceMethod yX3_shapeOf, Cond.selects RX3 yX3_shapeOf yX3_shapeOf, Cond.code yX3_shapeOf cX3_shapeOf 2 (some (.object "java/lang/String")), Cond.methodLink RX3 50 yJ0_isEmpty_aae02]
def wsX3_read_r2 : List Cond := [Cond.instanceMethod yJ0_isEmpty_aae02, Cond.selects RJ0 yJ0_isEmpty_aae02 yJ0_isEmpty_aae02, Cond.initialized RJ0, Cond.code yJ0_isEmpty_aae02 cJ0_isEmpty_aae02 1 (some .boolean), Cond.fieldLink RJ0 9 "java/lang/String" "value" "[B", Cond.static yX8_put, Cond.code yX8_put cX8_put 3 none, Cond.methodLink RX3 60 yJ0_length_8abf5, Cond.instanceMethod yJ0_length_8abf5, Cond.selects RJ0 yJ0_length_8abf5 yJ0_length_8abf5, Cond.code yJ0_length_8abf5 cJ0_length_8abf5 1 (some .int), Cond.methodLink RJ0 335 yJ0_coder_7d493, Cond.instanceMethod yJ0_coder_7d493, Cond.selects RJ0 yJ0_coder_7d493 yJ0_coder_7d493, Cond.code yJ0_coder_7d493 cJ0_coder_7d493 1 (some .byte), Cond.fieldLink RJ0 38 "java/lang/String" "COMPACT_STRINGS" "Z", Cond.fieldLink RJ0 15 "java/lang/String" "coder" "B", Cond.methodLink RX3 63 yJ0_charAt_5068e, Cond.instanceMethod yJ0_charAt_5068e, Cond.selects RJ0 yJ0_charAt_5068e yJ0_charAt_5068e, Cond.code yJ0_charAt_5068e cJ0_charAt_5068e 2 (some .char), Cond.methodLink RJ0 492 yJ0_isLatin1_aae02, Cond.instanceMethod yJ0_isLatin1_aae02, Cond.selects RJ0 yJ0_isLatin1_aae02 yJ0_isLatin1_aae02]
def wsX3_read_r3 : List Cond := [Cond.code yJ0_isLatin1_aae02 cJ0_isLatin1_aae02 1 (some .boolean), Cond.methodLink RJ0 495 yJ1_charAt_3b067, Cond.static yJ1_charAt_3b067, Cond.initialized RJ1, Cond.code yJ1_charAt_3b067 cJ1_charAt_3b067 2 (some .char), Cond.methodLink RJ1 9 yJ0_checkIndex_df160, Cond.static yJ0_checkIndex_df160, Cond.code yJ0_checkIndex_df160 cJ0_checkIndex_df160 2 none, Cond.fieldLink RJ0 1053 "jdk/internal/util/Preconditions" "SIOOBE_FORMATTER" "Ljava/util/function/BiFunction;", Cond.methodLink RJ0 1059 yJ3_checkIndex_8e157, Cond.static yJ3_checkIndex_8e157, Cond.initialized RJ3, Cond.code yJ3_checkIndex_8e157 cJ3_checkIndex_8e157 3 (some .int), Cond.methodLink RJ0 498 yJ2_charAt_3b067, Cond.static yJ2_charAt_3b067, Cond.initialized RJ2, Cond.code yJ2_charAt_3b067 cJ2_charAt_3b067 2 (some .char), Cond.methodLink RJ2 67 yJ2_checkIndex_2214a, Cond.static yJ2_checkIndex_2214a, Cond.code yJ2_checkIndex_2214a cJ2_checkIndex_2214a 2 none, Cond.methodLink RJ2 48 yJ2_length_9d52b, Cond.static yJ2_length_9d52b, Cond.code yJ2_length_9d52b cJ2_length_9d52b 1 (some .int), Cond.methodLink RJ2 414 yJ0_checkIndex_df160]
def wsX3_read_r4 : List Cond := [Cond.methodLink RJ2 71 yJ2_getChar_3b067, Cond.static yJ2_getChar_3b067, Cond.code yJ2_getChar_3b067 cJ2_getChar_3b067 2 (some .char), Cond.fieldLink RJ2 44 "java/lang/StringUTF16" "$assertionsDisabled" "Z", Cond.fieldLink RJ2 59 "java/lang/StringUTF16" "HI_BYTE_SHIFT" "I", Cond.fieldLink RJ2 63 "java/lang/StringUTF16" "LO_BYTE_SHIFT" "I", Cond.methodLink RX3 67 yX3_readNumber, Cond.instanceMethod yX3_readNumber, Cond.selects RX3 yX3_readNumber yX3_readNumber, Cond.code yX3_readNumber cX3_readNumber 6 (some .boolean), Cond.fieldLink RX3 15 "UnheardBells$Orders" "numbers" "[I", Cond.methodLink RX3 38 yX3_readSign, Cond.instanceMethod yX3_readSign, Cond.selects RX3 yX3_readSign yX3_readSign, Cond.code yX3_readSign cX3_readSign 3 (some .boolean), Cond.static yX8_isDigit, Cond.code yX8_isDigit cX8_isDigit 1 (some .boolean)]
def wsX3_read : List Cond := .code yX3_read cX3_read 3 (some .int) :: ((wsX3_read_r1 ++ (wsX3_read_r2 ++ (wsX3_read_r3 ++ wsX3_read_r4))) ++ wsX30 ++ wsX60 ++ wsJ00)
def wsX4_has : List Cond := .code yX4_has cX4_has 2 (some .boolean) :: ([.fieldLink RX4 21 "UnheardBells$Pulls" "number" "I"] ++ wsX40)
def wsX4_isNextAt : List Cond := .code yX4_isNextAt cX4_isNextAt 2 (some .boolean) :: ([.fieldLink RX4 21 "UnheardBells$Pulls" "number" "I", .fieldLink RX4 15 "UnheardBells$Pulls" "hour" "[I", .static yX8_at, .initialized RX8, .code yX8_at cX8_at 2 (some .int)] ++ wsX40)
def wsX8_bit : List Cond := .code yX8_bit cX8_bit 1 (some .int) :: ([])
def wsX8_isIn : List Cond := .code yX8_isIn cX8_isIn 2 (some .boolean) :: ([])
def wsX4_numberIn : List Cond := .code yX4_numberIn cX4_numberIn 4 (some .int) :: ([.fieldLink RX4 21 "UnheardBells$Pulls" "number" "I", .fieldLink RX4 9 "UnheardBells$Pulls" "rope" "[I", .static yX8_at, .initialized RX8, .code yX8_at cX8_at 2 (some .int), .static yX8_isIn, .code yX8_isIn cX8_isIn 2 (some .boolean)] ++ wsX40)
def wsX4_numberOf : List Cond := .code yX4_numberOf cX4_numberOf 2 (some .int) :: ([.static yX8_bit, .initialized RX8, .code yX8_bit cX8_bit 1 (some .int), .methodLink RX4 37 yX4_numberIn, .instanceMethod yX4_numberIn, .selects RX4 yX4_numberIn yX4_numberIn, .initialized RX4, .code yX4_numberIn cX4_numberIn 4 (some .int), .fieldLink RX4 21 "UnheardBells$Pulls" "number" "I", .fieldLink RX4 9 "UnheardBells$Pulls" "rope" "[I", .static yX8_at, .code yX8_at cX8_at 2 (some .int), .static yX8_isIn, .code yX8_isIn cX8_isIn 2 (some .boolean)] ++ wsX40)
def wsX4_isAheadOf : List Cond := .code yX4_isAheadOf cX4_isAheadOf 5 (some .boolean) :: ([.fieldLink RX4 15 "UnheardBells$Pulls" "hour" "[I", .fieldLink RX4 18 "UnheardBells$Pulls" "strength" "[I", .fieldLink RX4 9 "UnheardBells$Pulls" "rope" "[I", .static yX8_at, .initialized RX8, .code yX8_at cX8_at 2 (some .int)] ++ wsX40)
def wsX4_carry : List Cond := .code yX4_carry cX4_carry 3 none :: ([.fieldLink RX4 9 "UnheardBells$Pulls" "rope" "[I", .fieldLink RX4 15 "UnheardBells$Pulls" "hour" "[I", .fieldLink RX4 18 "UnheardBells$Pulls" "strength" "[I", .static yX8_at, .initialized RX8, .code yX8_at cX8_at 2 (some .int), .static yX8_put, .code yX8_put cX8_put 3 none] ++ wsX40)
def wsX4_insert : List Cond := .code yX4_insert cX4_insert 5 (some .int) :: ([.fieldLink RX4 21 "UnheardBells$Pulls" "number" "I", .fieldLink RX4 9 "UnheardBells$Pulls" "rope" "[I", .fieldLink RX4 15 "UnheardBells$Pulls" "hour" "[I", .fieldLink RX4 18 "UnheardBells$Pulls" "strength" "[I", .methodLink RX4 44 yX4_isAheadOf, .instanceMethod yX4_isAheadOf, .selects RX4 yX4_isAheadOf yX4_isAheadOf, .initialized RX4, .code yX4_isAheadOf cX4_isAheadOf 5 (some .boolean), .static yX8_at, .initialized RX8, .code yX8_at cX8_at 2 (some .int), .methodLink RX4 48 yX4_carry, .instanceMethod yX4_carry, .selects RX4 yX4_carry yX4_carry, .code yX4_carry cX4_carry 3 none, .static yX8_put, .code yX8_put cX8_put 3 none] ++ wsX40)
def wsX4_removeFirst : List Cond := .code yX4_removeFirst cX4_removeFirst 2 none :: ([.fieldLink RX4 21 "UnheardBells$Pulls" "number" "I", .methodLink RX4 56 Lib.Math.max.name, .static Lib.Math.max.name, .initialized "java/lang/Math", .code Lib.Math.max.name Lib.Math.max.code 2 (some .int), .methodLink RX4 48 yX4_carry, .instanceMethod yX4_carry, .selects RX4 yX4_carry yX4_carry, .initialized RX4, .code yX4_carry cX4_carry 3 none, .fieldLink RX4 9 "UnheardBells$Pulls" "rope" "[I", .fieldLink RX4 15 "UnheardBells$Pulls" "hour" "[I", .fieldLink RX4 18 "UnheardBells$Pulls" "strength" "[I", .static yX8_at, .initialized RX8, .code yX8_at cX8_at 2 (some .int), .static yX8_put, .code yX8_put cX8_put 3 none] ++ wsX40)
def wsX4_removeAllOf : List Cond := .code yX4_removeAllOf cX4_removeAllOf 4 none :: ([.fieldLink RX4 21 "UnheardBells$Pulls" "number" "I", .fieldLink RX4 9 "UnheardBells$Pulls" "rope" "[I", .static yX8_at, .initialized RX8, .code yX8_at cX8_at 2 (some .int), .methodLink RX4 48 yX4_carry, .instanceMethod yX4_carry, .selects RX4 yX4_carry yX4_carry, .initialized RX4, .code yX4_carry cX4_carry 3 none, .fieldLink RX4 15 "UnheardBells$Pulls" "hour" "[I", .fieldLink RX4 18 "UnheardBells$Pulls" "strength" "[I", .static yX8_put, .code yX8_put cX8_put 3 none] ++ wsX40)
def wsX5_has : List Cond := .code yX5_has cX5_has 2 (some .boolean) :: ([.fieldLink RX5 30 "UnheardBells$Ropes" "number" "I"] ++ wsX50)
