theorem zw1190 : Cond.static ⟨"java/lang/Math", "max", "(II)I"⟩ ∈ zT := zsub5 230 (by decide +kernel) (by decide +kernel)
theorem zw25 : Cond.initialized "java/lang/Math" ∈ zT := zsub1 25 (by decide +kernel) (by decide +kernel)
theorem zw1191 : Cond.code ⟨"java/lang/Math", "max", "(II)I"⟩ prog_25_method_65_code 2 (Option.some Jvm.ClassFile.FieldType.int) ∈ zT := zsub5 231 rfl rfl
theorem zw1193 : Cond.static ⟨"java/lang/Math", "min", "(II)I"⟩ ∈ zT := zsub5 233 (by decide +kernel) (by decide +kernel)
theorem zw1194 : Cond.code ⟨"java/lang/Math", "min", "(II)I"⟩ prog_25_method_69_code 2 (Option.some Jvm.ClassFile.FieldType.int) ∈ zT := zsub5 234 rfl rfl
theorem zw1107 : Cond.fieldLink "java/lang/String" 38 "java/lang/String" "COMPACT_STRINGS" "Z" ∈ zT := zsub5 147 (by decide +kernel) (by decide +kernel)
theorem zw3798 : Cond.fieldLink "java/lang/String" 15 "java/lang/String" "coder" "B" ∈ zT := zsub16 198 (by decide +kernel) (by decide +kernel)
theorem zw3797 : Cond.fieldLink "java/lang/String" 9 "java/lang/String" "value" "[B" ∈ zT := zsub16 197 (by decide +kernel) (by decide +kernel)
theorem zw1103 : Cond.methodLink "java/lang/String" 335 ⟨"java/lang/String", "coder", "()B"⟩ ∈ zT := zsub5 143 (by decide +kernel) (by decide +kernel)
theorem zw1123 : Cond.fieldLink "java/lang/String" 1053 "jdk/internal/util/Preconditions" "SIOOBE_FORMATTER" "Ljava/util/function/BiFunction;" ∈ zT := zsub5 163 (by decide +kernel) (by decide +kernel)
theorem zw1125 : Cond.methodLink "java/lang/String" 1059 ⟨"jdk/internal/util/Preconditions", "checkIndex", "(IILjava/util/function/BiFunction;)I"⟩ ∈ zT := zsub5 165 (by decide +kernel) (by decide +kernel)
theorem zw1120 : Cond.methodLink "java/lang/StringLatin1" 9 ⟨"java/lang/String", "checkIndex", "(II)V"⟩ ∈ zT := zsub5 160 (by decide +kernel) (by decide +kernel)
theorem zw1113 : Cond.methodLink "java/lang/String" 492 ⟨"java/lang/String", "isLatin1", "()Z"⟩ ∈ zT := zsub5 153 (by decide +kernel) (by decide +kernel)
theorem zw1117 : Cond.methodLink "java/lang/String" 495 ⟨"java/lang/StringLatin1", "charAt", "([BI)C"⟩ ∈ zT := zsub5 157 (by decide +kernel) (by decide +kernel)
theorem zw1186 : Cond.methodLink "java/lang/StringLatin1" 88 ⟨"java/lang/StringLatin1", "canEncode", "(I)Z"⟩ ∈ zT := zsub5 226 (by decide +kernel) (by decide +kernel)
theorem zw1189 : Cond.methodLink "java/lang/StringLatin1" 92 ⟨"java/lang/Math", "max", "(II)I"⟩ ∈ zT := zsub5 229 (by decide +kernel) (by decide +kernel)
theorem zw1192 : Cond.methodLink "java/lang/StringLatin1" 38 ⟨"java/lang/Math", "min", "(II)I"⟩ ∈ zT := zsub5 232 (by decide +kernel) (by decide +kernel)
theorem zw1195 : Cond.methodLink "java/lang/StringLatin1" 95 ⟨"java/lang/StringLatin1", "indexOfChar", "([BIII)I"⟩ ∈ zT := zsub5 235 (by decide +kernel) (by decide +kernel)
theorem zw1182 : Cond.methodLink "java/lang/String" 505 ⟨"java/lang/String", "length", "()I"⟩ ∈ zT := zsub5 222 (by decide +kernel) (by decide +kernel)
theorem zw1183 : Cond.methodLink "java/lang/String" 637 ⟨"java/lang/StringLatin1", "indexOf", "([BIII)I"⟩ ∈ zT := zsub5 223 (by decide +kernel) (by decide +kernel)
theorem zw1178 : Cond.methodLink "java/lang/String" 633 ⟨"java/lang/String", "indexOf", "(II)I"⟩ ∈ zT := zsub5 218 (by decide +kernel) (by decide +kernel)
theorem zw1102 : Cond.code ⟨"java/lang/String", "length", "()I"⟩ prog_27_method_54_code 1 (Option.some Jvm.ClassFile.FieldType.int) ∈ zT := zsub5 142 rfl rfl
theorem zw21 : Cond.initialized "java/lang/String" ∈ zT := zsub1 21 (by decide +kernel) (by decide +kernel)
theorem zw1100 : Cond.instanceMethod ⟨"java/lang/String", "length", "()I"⟩ ∈ zT := zsub5 140 (by decide +kernel) (by decide +kernel)
theorem zw1101 : Cond.selects "java/lang/String" ⟨"java/lang/String", "length", "()I"⟩ ⟨"java/lang/String", "length", "()I"⟩ ∈ zT := zsub5 141 (by decide +kernel) (by decide +kernel)
theorem zw1106 : Cond.code ⟨"java/lang/String", "coder", "()B"⟩ prog_27_method_152_code 1 (Option.some Jvm.ClassFile.FieldType.byte) ∈ zT := zsub5 146 rfl rfl
theorem zw1104 : Cond.instanceMethod ⟨"java/lang/String", "coder", "()B"⟩ ∈ zT := zsub5 144 (by decide +kernel) (by decide +kernel)
theorem zw1105 : Cond.selects "java/lang/String" ⟨"java/lang/String", "coder", "()B"⟩ ⟨"java/lang/String", "coder", "()B"⟩ ∈ zT := zsub5 145 (by decide +kernel) (by decide +kernel)
theorem zw1112 : Cond.code ⟨"java/lang/String", "charAt", "(I)C"⟩ prog_27_method_56_code 2 (Option.some Jvm.ClassFile.FieldType.char) ∈ zT := zsub5 152 rfl rfl
theorem zw1110 : Cond.instanceMethod ⟨"java/lang/String", "charAt", "(I)C"⟩ ∈ zT := zsub5 150 (by decide +kernel) (by decide +kernel)
theorem zw1111 : Cond.selects "java/lang/String" ⟨"java/lang/String", "charAt", "(I)C"⟩ ⟨"java/lang/String", "charAt", "(I)C"⟩ ∈ zT := zsub5 151 (by decide +kernel) (by decide +kernel)
theorem zw1122 : Cond.code ⟨"java/lang/String", "checkIndex", "(II)V"⟩ prog_27_method_155_code 2 (Option.none : Option Jvm.ClassFile.FieldType) ∈ zT := zsub5 162 rfl rfl
theorem zw1121 : Cond.static ⟨"java/lang/String", "checkIndex", "(II)V"⟩ ∈ zT := zsub5 161 (by decide +kernel) (by decide +kernel)
theorem zw1116 : Cond.code ⟨"java/lang/String", "isLatin1", "()Z"⟩ prog_27_method_154_code 1 (Option.some Jvm.ClassFile.FieldType.boolean) ∈ zT := zsub5 156 rfl rfl
theorem zw1114 : Cond.instanceMethod ⟨"java/lang/String", "isLatin1", "()Z"⟩ ∈ zT := zsub5 154 (by decide +kernel) (by decide +kernel)
theorem zw1115 : Cond.selects "java/lang/String" ⟨"java/lang/String", "isLatin1", "()Z"⟩ ⟨"java/lang/String", "isLatin1", "()Z"⟩ ∈ zT := zsub5 155 (by decide +kernel) (by decide +kernel)
theorem zw1177 : Cond.code ⟨"java/lang/String", "indexOf", "(I)I"⟩ prog_27_method_79_code 2 (Option.some Jvm.ClassFile.FieldType.int) ∈ zT := zsub5 217 rfl rfl
theorem zw1175 : Cond.instanceMethod ⟨"java/lang/String", "indexOf", "(I)I"⟩ ∈ zT := zsub5 215 (by decide +kernel) (by decide +kernel)
theorem zw1176 : Cond.selects "java/lang/String" ⟨"java/lang/String", "indexOf", "(I)I"⟩ ⟨"java/lang/String", "indexOf", "(I)I"⟩ ∈ zT := zsub5 216 (by decide +kernel) (by decide +kernel)
theorem zw1181 : Cond.code ⟨"java/lang/String", "indexOf", "(II)I"⟩ prog_27_method_80_code 3 (Option.some Jvm.ClassFile.FieldType.int) ∈ zT := zsub5 221 rfl rfl
theorem zw1179 : Cond.instanceMethod ⟨"java/lang/String", "indexOf", "(II)I"⟩ ∈ zT := zsub5 219 (by decide +kernel) (by decide +kernel)
theorem zw1180 : Cond.selects "java/lang/String" ⟨"java/lang/String", "indexOf", "(II)I"⟩ ⟨"java/lang/String", "indexOf", "(II)I"⟩ ∈ zT := zsub5 220 (by decide +kernel) (by decide +kernel)
theorem zw1119 : Cond.code ⟨"java/lang/StringLatin1", "charAt", "([BI)C"⟩ prog_28_method_2_code 2 (Option.some Jvm.ClassFile.FieldType.char) ∈ zT := zsub5 159 rfl rfl
theorem zw22 : Cond.initialized "java/lang/StringLatin1" ∈ zT := zsub1 22 (by decide +kernel) (by decide +kernel)
theorem zw1118 : Cond.static ⟨"java/lang/StringLatin1", "charAt", "([BI)C"⟩ ∈ zT := zsub5 158 (by decide +kernel) (by decide +kernel)
theorem zw1188 : Cond.code ⟨"java/lang/StringLatin1", "canEncode", "(I)Z"⟩ prog_28_method_4_code 1 (Option.some Jvm.ClassFile.FieldType.boolean) ∈ zT := zsub5 228 rfl rfl
theorem zw1187 : Cond.static ⟨"java/lang/StringLatin1", "canEncode", "(I)Z"⟩ ∈ zT := zsub5 227 (by decide +kernel) (by decide +kernel)
theorem zw1185 : Cond.code ⟨"java/lang/StringLatin1", "indexOf", "([BIII)I"⟩ prog_28_method_22_code 4 (Option.some Jvm.ClassFile.FieldType.int) ∈ zT := zsub5 225 rfl rfl
theorem zw1184 : Cond.static ⟨"java/lang/StringLatin1", "indexOf", "([BIII)I"⟩ ∈ zT := zsub5 224 (by decide +kernel) (by decide +kernel)
theorem zw1197 : Cond.code ⟨"java/lang/StringLatin1", "indexOfChar", "([BIII)I"⟩ prog_28_method_23_code 6 (Option.some Jvm.ClassFile.FieldType.int) ∈ zT := zsub5 237 rfl rfl
theorem zw1196 : Cond.static ⟨"java/lang/StringLatin1", "indexOfChar", "([BIII)I"⟩ ∈ zT := zsub5 236 (by decide +kernel) (by decide +kernel)
theorem zw1127 : Cond.code ⟨"jdk/internal/util/Preconditions", "checkIndex", "(IILjava/util/function/BiFunction;)I"⟩ prog_36_method_11_code 3 (Option.some Jvm.ClassFile.FieldType.int) ∈ zT := zsub5 167 rfl rfl
theorem zw23 : Cond.initialized "jdk/internal/util/Preconditions" ∈ zT := zsub1 23 (by decide +kernel) (by decide +kernel)
theorem zw1126 : Cond.static ⟨"jdk/internal/util/Preconditions", "checkIndex", "(IILjava/util/function/BiFunction;)I"⟩ ∈ zT := zsub5 166 (by decide +kernel) (by decide +kernel)
abbrev cJ0_length_8abf5 : ByteArray := prog_27_method_54_code
abbrev yJ0_length_8abf5 : MethodName := ⟨"java/lang/String", "length", "()I"⟩
theorem dmJ0_length_8abf5 : zDv yJ0_length_8abf5 cJ0_length_8abf5 1 (some .int) 0 := ⟨⟨⟨by decide +kernel, by decide +kernel, by decide +kernel⟩, zw1102, zw21⟩, zw1100, zw1101⟩
abbrev cJ0_coder_7d493 : ByteArray := prog_27_method_152_code
abbrev yJ0_coder_7d493 : MethodName := ⟨"java/lang/String", "coder", "()B"⟩
theorem dmJ0_coder_7d493 : zDv yJ0_coder_7d493 cJ0_coder_7d493 1 (some .byte) 0 := ⟨⟨⟨by decide +kernel, by decide +kernel, by decide +kernel⟩, zw1106, zw21⟩, zw1104, zw1105⟩
abbrev cJ0_charAt_5068e : ByteArray := prog_27_method_56_code
abbrev yJ0_charAt_5068e : MethodName := ⟨"java/lang/String", "charAt", "(I)C"⟩
theorem dmJ0_charAt_5068e : zDv yJ0_charAt_5068e cJ0_charAt_5068e 2 (some .char) 1 := ⟨⟨⟨by decide +kernel, by decide +kernel, by decide +kernel⟩, zw1112, zw21⟩, zw1110, zw1111⟩
abbrev cJ0_checkIndex_df160 : ByteArray := prog_27_method_155_code
abbrev yJ0_checkIndex_df160 : MethodName := ⟨"java/lang/String", "checkIndex", "(II)V"⟩
theorem dmJ0_checkIndex_df160 : zDs yJ0_checkIndex_df160 cJ0_checkIndex_df160 2 none 2 := ⟨⟨⟨by decide +kernel, by decide +kernel, by decide +kernel⟩, zw1122, zw21⟩, zw1121⟩
abbrev cJ0_isLatin1_aae02 : ByteArray := prog_27_method_154_code
abbrev yJ0_isLatin1_aae02 : MethodName := ⟨"java/lang/String", "isLatin1", "()Z"⟩
theorem dmJ0_isLatin1_aae02 : zDv yJ0_isLatin1_aae02 cJ0_isLatin1_aae02 1 (some .boolean) 0 := ⟨⟨⟨by decide +kernel, by decide +kernel, by decide +kernel⟩, zw1116, zw21⟩, zw1114, zw1115⟩
abbrev cJ0_indexOf_0f7a4 : ByteArray := prog_27_method_79_code
abbrev yJ0_indexOf_0f7a4 : MethodName := ⟨"java/lang/String", "indexOf", "(I)I"⟩
theorem dmJ0_indexOf_0f7a4 : zDv yJ0_indexOf_0f7a4 cJ0_indexOf_0f7a4 2 (some .int) 1 := ⟨⟨⟨by decide +kernel, by decide +kernel, by decide +kernel⟩, zw1177, zw21⟩, zw1175, zw1176⟩
abbrev cJ0_indexOf_7cf53 : ByteArray := prog_27_method_80_code
abbrev yJ0_indexOf_7cf53 : MethodName := ⟨"java/lang/String", "indexOf", "(II)I"⟩
theorem dmJ0_indexOf_7cf53 : zDv yJ0_indexOf_7cf53 cJ0_indexOf_7cf53 3 (some .int) 2 := ⟨⟨⟨by decide +kernel, by decide +kernel, by decide +kernel⟩, zw1181, zw21⟩, zw1179, zw1180⟩
abbrev cJ1_charAt_3b067 : ByteArray := prog_28_method_2_code
abbrev yJ1_charAt_3b067 : MethodName := ⟨"java/lang/StringLatin1", "charAt", "([BI)C"⟩
theorem dmJ1_charAt_3b067 : zDs yJ1_charAt_3b067 cJ1_charAt_3b067 2 (some .char) 2 := ⟨⟨⟨by decide +kernel, by decide +kernel, by decide +kernel⟩, zw1119, zw22⟩, zw1118⟩
abbrev cJ1_canEncode_9a6ad : ByteArray := prog_28_method_4_code
abbrev yJ1_canEncode_9a6ad : MethodName := ⟨"java/lang/StringLatin1", "canEncode", "(I)Z"⟩
theorem dmJ1_canEncode_9a6ad : zDs yJ1_canEncode_9a6ad cJ1_canEncode_9a6ad 1 (some .boolean) 1 := ⟨⟨⟨by decide +kernel, by decide +kernel, by decide +kernel⟩, zw1188, zw22⟩, zw1187⟩
abbrev cJ1_indexOf_4cfef : ByteArray := prog_28_method_22_code
abbrev yJ1_indexOf_4cfef : MethodName := ⟨"java/lang/StringLatin1", "indexOf", "([BIII)I"⟩
theorem dmJ1_indexOf_4cfef : zDs yJ1_indexOf_4cfef cJ1_indexOf_4cfef 4 (some .int) 4 := ⟨⟨⟨by decide +kernel, by decide +kernel, by decide +kernel⟩, zw1185, zw22⟩, zw1184⟩
abbrev cJ1_indexOfChar_4cfef : ByteArray := prog_28_method_23_code
abbrev yJ1_indexOfChar_4cfef : MethodName := ⟨"java/lang/StringLatin1", "indexOfChar", "([BIII)I"⟩
theorem dmJ1_indexOfChar_4cfef : zDs yJ1_indexOfChar_4cfef cJ1_indexOfChar_4cfef 6 (some .int) 4 := ⟨⟨⟨by decide +kernel, by decide +kernel, by decide +kernel⟩, zw1197, zw22⟩, zw1196⟩
abbrev cJ3_checkIndex_8e157 : ByteArray := prog_36_method_11_code
abbrev yJ3_checkIndex_8e157 : MethodName := ⟨"jdk/internal/util/Preconditions", "checkIndex", "(IILjava/util/function/BiFunction;)I"⟩
theorem dmJ3_checkIndex_8e157 : zDs yJ3_checkIndex_8e157 cJ3_checkIndex_8e157 3 (some .int) 3 := ⟨⟨⟨by decide +kernel, by decide +kernel, by decide +kernel⟩, zw1127, zw23⟩, zw1126⟩
theorem dJ0_coder_7d493_0 : decode cJ0_coder_7d493 0 = .ok (.getstatic 38, 3) := by decide +kernel
theorem dJ0_coder_7d493_3 : decode cJ0_coder_7d493 3 = .ok (.ifCond .eq 10, 3) := by decide +kernel
theorem dJ0_coder_7d493_6 : decode cJ0_coder_7d493 6 = .ok (.aload_n 0, 1) := by decide +kernel
theorem dJ0_coder_7d493_7 : decode cJ0_coder_7d493 7 = .ok (.getfield 15, 3) := by decide +kernel
theorem dJ0_coder_7d493_10 : decode cJ0_coder_7d493 10 = .ok (.goto 4, 3) := by decide +kernel
theorem dJ0_coder_7d493_14 : decode cJ0_coder_7d493 14 = .ok (.ireturn, 1) := by decide +kernel
theorem dJ0_length_8abf5_0 : decode cJ0_length_8abf5 0 = .ok (.aload_n 0, 1) := by decide +kernel
theorem dJ0_length_8abf5_1 : decode cJ0_length_8abf5 1 = .ok (.getfield 9, 3) := by decide +kernel
theorem dJ0_length_8abf5_4 : decode cJ0_length_8abf5 4 = .ok (.arraylength, 1) := by decide +kernel
theorem dJ0_length_8abf5_5 : decode cJ0_length_8abf5 5 = .ok (.aload_n 0, 1) := by decide +kernel
theorem dJ0_length_8abf5_6 : decode cJ0_length_8abf5 6 = .ok (.invokevirtual 335, 3) := by decide +kernel
theorem dJ0_length_8abf5_9 : decode cJ0_length_8abf5 9 = .ok (.ishr, 1) := by decide +kernel
theorem dJ0_length_8abf5_10 : decode cJ0_length_8abf5 10 = .ok (.ireturn, 1) := by decide +kernel
theorem dJ0_isLatin1_aae02_0 : decode cJ0_isLatin1_aae02 0 = .ok (.getstatic 38, 3) := by decide +kernel
theorem dJ0_isLatin1_aae02_3 : decode cJ0_isLatin1_aae02 3 = .ok (.ifCond .eq 14, 3) := by decide +kernel
theorem dJ0_isLatin1_aae02_6 : decode cJ0_isLatin1_aae02 6 = .ok (.aload_n 0, 1) := by decide +kernel
theorem dJ0_isLatin1_aae02_7 : decode cJ0_isLatin1_aae02 7 = .ok (.getfield 15, 3) := by decide +kernel
theorem dJ0_isLatin1_aae02_10 : decode cJ0_isLatin1_aae02 10 = .ok (.ifCond .ne 7, 3) := by decide +kernel
theorem dJ0_isLatin1_aae02_13 : decode cJ0_isLatin1_aae02 13 = .ok (.iconst 1, 1) := by decide +kernel
theorem dJ0_isLatin1_aae02_14 : decode cJ0_isLatin1_aae02 14 = .ok (.goto 4, 3) := by decide +kernel
theorem dJ0_isLatin1_aae02_18 : decode cJ0_isLatin1_aae02 18 = .ok (.ireturn, 1) := by decide +kernel
theorem dJ3_checkIndex_8e157_0 : decode cJ3_checkIndex_8e157 0 = .ok (.iload_n 0, 1) := by decide +kernel
theorem dJ3_checkIndex_8e157_1 : decode cJ3_checkIndex_8e157 1 = .ok (.ifCond .lt 8, 3) := by decide +kernel
theorem dJ3_checkIndex_8e157_4 : decode cJ3_checkIndex_8e157 4 = .ok (.iload_n 0, 1) := by decide +kernel
theorem dJ3_checkIndex_8e157_5 : decode cJ3_checkIndex_8e157 5 = .ok (.iload_n 1, 1) := by decide +kernel
theorem dJ3_checkIndex_8e157_6 : decode cJ3_checkIndex_8e157 6 = .ok (.if_icmp .lt 10, 3) := by decide +kernel
theorem dJ3_checkIndex_8e157_16 : decode cJ3_checkIndex_8e157 16 = .ok (.iload_n 0, 1) := by decide +kernel
theorem dJ3_checkIndex_8e157_17 : decode cJ3_checkIndex_8e157 17 = .ok (.ireturn, 1) := by decide +kernel
theorem dJ0_checkIndex_df160_0 : decode cJ0_checkIndex_df160 0 = .ok (.iload_n 0, 1) := by decide +kernel
theorem dJ0_checkIndex_df160_1 : decode cJ0_checkIndex_df160 1 = .ok (.iload_n 1, 1) := by decide +kernel
theorem dJ0_checkIndex_df160_2 : decode cJ0_checkIndex_df160 2 = .ok (.getstatic 1053, 3) := by decide +kernel
theorem dJ0_checkIndex_df160_5 : decode cJ0_checkIndex_df160 5 = .ok (.invokestatic 1059, 3) := by decide +kernel
theorem dJ0_checkIndex_df160_8 : decode cJ0_checkIndex_df160 8 = .ok (.pop, 1) := by decide +kernel
theorem dJ0_checkIndex_df160_9 : decode cJ0_checkIndex_df160 9 = .ok (.return_, 1) := by decide +kernel
theorem dJ1_charAt_3b067_0 : decode cJ1_charAt_3b067 0 = .ok (.iload_n 1, 1) := by decide +kernel
theorem dJ1_charAt_3b067_1 : decode cJ1_charAt_3b067 1 = .ok (.aload_n 0, 1) := by decide +kernel
theorem dJ1_charAt_3b067_2 : decode cJ1_charAt_3b067 2 = .ok (.arraylength, 1) := by decide +kernel
theorem dJ1_charAt_3b067_3 : decode cJ1_charAt_3b067 3 = .ok (.invokestatic 9, 3) := by decide +kernel
theorem dJ1_charAt_3b067_6 : decode cJ1_charAt_3b067 6 = .ok (.aload_n 0, 1) := by decide +kernel
theorem dJ1_charAt_3b067_7 : decode cJ1_charAt_3b067 7 = .ok (.iload_n 1, 1) := by decide +kernel
theorem dJ1_charAt_3b067_8 : decode cJ1_charAt_3b067 8 = .ok (.baload, 1) := by decide +kernel
theorem dJ1_charAt_3b067_9 : decode cJ1_charAt_3b067 9 = .ok (.sipush 255, 3) := by decide +kernel
theorem dJ1_charAt_3b067_12 : decode cJ1_charAt_3b067 12 = .ok (.iand, 1) := by decide +kernel
theorem dJ1_charAt_3b067_13 : decode cJ1_charAt_3b067 13 = .ok (.i2c, 1) := by decide +kernel
theorem dJ1_charAt_3b067_14 : decode cJ1_charAt_3b067 14 = .ok (.ireturn, 1) := by decide +kernel
theorem dJ0_charAt_5068e_0 : decode cJ0_charAt_5068e 0 = .ok (.aload_n 0, 1) := by decide +kernel
theorem dJ0_charAt_5068e_1 : decode cJ0_charAt_5068e 1 = .ok (.invokevirtual 492, 3) := by decide +kernel
theorem dJ0_charAt_5068e_4 : decode cJ0_charAt_5068e 4 = .ok (.ifCond .eq 12, 3) := by decide +kernel
theorem dJ0_charAt_5068e_7 : decode cJ0_charAt_5068e 7 = .ok (.aload_n 0, 1) := by decide +kernel
theorem dJ0_charAt_5068e_8 : decode cJ0_charAt_5068e 8 = .ok (.getfield 9, 3) := by decide +kernel
theorem dJ0_charAt_5068e_11 : decode cJ0_charAt_5068e 11 = .ok (.iload_n 1, 1) := by decide +kernel
theorem dJ0_charAt_5068e_12 : decode cJ0_charAt_5068e 12 = .ok (.invokestatic 495, 3) := by decide +kernel
theorem dJ0_charAt_5068e_15 : decode cJ0_charAt_5068e 15 = .ok (.ireturn, 1) := by decide +kernel
theorem dJ1_canEncode_9a6ad_0 : decode cJ1_canEncode_9a6ad 0 = .ok (.iload_n 0, 1) := by decide +kernel
theorem dJ1_canEncode_9a6ad_15 : decode cJ1_canEncode_9a6ad 15 = .ok (.iconst 0, 1) := by decide +kernel
theorem dJ1_canEncode_9a6ad_16 : decode cJ1_canEncode_9a6ad 16 = .ok (.ireturn, 1) := by decide +kernel
theorem dJ1_canEncode_9a6ad_1 : decode cJ1_canEncode_9a6ad 1 = .ok (.ifCond .lt 14, 3) := by decide +kernel
theorem dJ1_canEncode_9a6ad_4 : decode cJ1_canEncode_9a6ad 4 = .ok (.iload_n 0, 1) := by decide +kernel
theorem dJ1_canEncode_9a6ad_5 : decode cJ1_canEncode_9a6ad 5 = .ok (.sipush 255, 3) := by decide +kernel
theorem dJ1_canEncode_9a6ad_8 : decode cJ1_canEncode_9a6ad 8 = .ok (.if_icmp .gt 7, 3) := by decide +kernel
theorem dJ1_canEncode_9a6ad_11 : decode cJ1_canEncode_9a6ad 11 = .ok (.iconst 1, 1) := by decide +kernel
theorem dJ1_canEncode_9a6ad_12 : decode cJ1_canEncode_9a6ad 12 = .ok (.goto 4, 3) := by decide +kernel
theorem dJ1_indexOfChar_4cfef_0 : decode cJ1_indexOfChar_4cfef 0 = .ok (.iload_n 1, 1) := by decide +kernel
theorem dJ1_indexOfChar_4cfef_1 : decode cJ1_indexOfChar_4cfef 1 = .ok (.i2b, 1) := by decide +kernel
theorem dJ1_indexOfChar_4cfef_2 : decode cJ1_indexOfChar_4cfef 2 = .ok (.istore 4, 2) := by decide +kernel
theorem dJ1_indexOfChar_4cfef_4 : decode cJ1_indexOfChar_4cfef 4 = .ok (.iload_n 2, 1) := by decide +kernel
theorem dJ1_indexOfChar_4cfef_5 : decode cJ1_indexOfChar_4cfef 5 = .ok (.istore 5, 2) := by decide +kernel
theorem dJ1_indexOfChar_4cfef_7 : decode cJ1_indexOfChar_4cfef 7 = .ok (.iload 5, 2) := by decide +kernel
theorem dJ1_indexOfChar_4cfef_9 : decode cJ1_indexOfChar_4cfef 9 = .ok (.iload_n 3, 1) := by decide +kernel
theorem dJ1_indexOfChar_4cfef_10 : decode cJ1_indexOfChar_4cfef 10 = .ok (.if_icmp .ge 21, 3) := by decide +kernel
theorem dJ1_indexOfChar_4cfef_31 : decode cJ1_indexOfChar_4cfef 31 = .ok (.iconst (-1), 1) := by decide +kernel
theorem dJ1_indexOfChar_4cfef_32 : decode cJ1_indexOfChar_4cfef 32 = .ok (.ireturn, 1) := by decide +kernel
theorem dJ1_indexOfChar_4cfef_13 : decode cJ1_indexOfChar_4cfef 13 = .ok (.aload_n 0, 1) := by decide +kernel
theorem dJ1_indexOfChar_4cfef_14 : decode cJ1_indexOfChar_4cfef 14 = .ok (.iload 5, 2) := by decide +kernel
theorem dJ1_indexOfChar_4cfef_16 : decode cJ1_indexOfChar_4cfef 16 = .ok (.baload, 1) := by decide +kernel
theorem dJ1_indexOfChar_4cfef_17 : decode cJ1_indexOfChar_4cfef 17 = .ok (.iload 4, 2) := by decide +kernel
theorem dJ1_indexOfChar_4cfef_19 : decode cJ1_indexOfChar_4cfef 19 = .ok (.if_icmp .ne 6, 3) := by decide +kernel
theorem dJ1_indexOfChar_4cfef_25 : decode cJ1_indexOfChar_4cfef 25 = .ok (.iinc 5 1, 3) := by decide +kernel
theorem dJ1_indexOfChar_4cfef_28 : decode cJ1_indexOfChar_4cfef 28 = .ok (.goto (-21), 3) := by decide +kernel
theorem dJ1_indexOfChar_4cfef_22 : decode cJ1_indexOfChar_4cfef 22 = .ok (.iload 5, 2) := by decide +kernel
theorem dJ1_indexOfChar_4cfef_24 : decode cJ1_indexOfChar_4cfef 24 = .ok (.ireturn, 1) := by decide +kernel
theorem dJ1_indexOf_4cfef_0 : decode cJ1_indexOf_4cfef 0 = .ok (.iload_n 1, 1) := by decide +kernel
theorem dJ1_indexOf_4cfef_1 : decode cJ1_indexOf_4cfef 1 = .ok (.invokestatic 88, 3) := by decide +kernel
theorem dJ1_indexOf_4cfef_4 : decode cJ1_indexOf_4cfef 4 = .ok (.ifCond .ne 5, 3) := by decide +kernel
theorem dJ1_indexOf_4cfef_9 : decode cJ1_indexOf_4cfef 9 = .ok (.iload_n 2, 1) := by decide +kernel
theorem dJ1_indexOf_4cfef_10 : decode cJ1_indexOf_4cfef 10 = .ok (.iconst 0, 1) := by decide +kernel
theorem dJ1_indexOf_4cfef_11 : decode cJ1_indexOf_4cfef 11 = .ok (.invokestatic 92, 3) := by decide +kernel
theorem dJ1_indexOf_4cfef_14 : decode cJ1_indexOf_4cfef 14 = .ok (.istore_n 2, 1) := by decide +kernel
theorem dJ1_indexOf_4cfef_15 : decode cJ1_indexOf_4cfef 15 = .ok (.iload_n 3, 1) := by decide +kernel
theorem dJ1_indexOf_4cfef_16 : decode cJ1_indexOf_4cfef 16 = .ok (.aload_n 0, 1) := by decide +kernel
theorem dJ1_indexOf_4cfef_17 : decode cJ1_indexOf_4cfef 17 = .ok (.arraylength, 1) := by decide +kernel
theorem dJ1_indexOf_4cfef_18 : decode cJ1_indexOf_4cfef 18 = .ok (.invokestatic 38, 3) := by decide +kernel
theorem dJ1_indexOf_4cfef_21 : decode cJ1_indexOf_4cfef 21 = .ok (.istore_n 3, 1) := by decide +kernel
theorem dJ1_indexOf_4cfef_22 : decode cJ1_indexOf_4cfef 22 = .ok (.iload_n 2, 1) := by decide +kernel
theorem dJ1_indexOf_4cfef_23 : decode cJ1_indexOf_4cfef 23 = .ok (.iload_n 3, 1) := by decide +kernel
theorem dJ1_indexOf_4cfef_24 : decode cJ1_indexOf_4cfef 24 = .ok (.if_icmp .lt 5, 3) := by decide +kernel
theorem dJ1_indexOf_4cfef_29 : decode cJ1_indexOf_4cfef 29 = .ok (.aload_n 0, 1) := by decide +kernel
theorem dJ1_indexOf_4cfef_30 : decode cJ1_indexOf_4cfef 30 = .ok (.iload_n 1, 1) := by decide +kernel
theorem dJ1_indexOf_4cfef_31 : decode cJ1_indexOf_4cfef 31 = .ok (.iload_n 2, 1) := by decide +kernel
theorem dJ1_indexOf_4cfef_32 : decode cJ1_indexOf_4cfef 32 = .ok (.iload_n 3, 1) := by decide +kernel
theorem dJ1_indexOf_4cfef_33 : decode cJ1_indexOf_4cfef 33 = .ok (.invokestatic 95, 3) := by decide +kernel
theorem dJ1_indexOf_4cfef_36 : decode cJ1_indexOf_4cfef 36 = .ok (.ireturn, 1) := by decide +kernel
theorem dJ1_indexOf_4cfef_27 : decode cJ1_indexOf_4cfef 27 = .ok (.iconst (-1), 1) := by decide +kernel
theorem dJ1_indexOf_4cfef_28 : decode cJ1_indexOf_4cfef 28 = .ok (.ireturn, 1) := by decide +kernel
theorem dJ1_indexOf_4cfef_7 : decode cJ1_indexOf_4cfef 7 = .ok (.iconst (-1), 1) := by decide +kernel
theorem dJ1_indexOf_4cfef_8 : decode cJ1_indexOf_4cfef 8 = .ok (.ireturn, 1) := by decide +kernel
theorem dJ0_indexOf_7cf53_0 : decode cJ0_indexOf_7cf53 0 = .ok (.aload_n 0, 1) := by decide +kernel
theorem dJ0_indexOf_7cf53_1 : decode cJ0_indexOf_7cf53 1 = .ok (.invokevirtual 492, 3) := by decide +kernel
theorem dJ0_indexOf_7cf53_4 : decode cJ0_indexOf_7cf53 4 = .ok (.ifCond .eq 19, 3) := by decide +kernel
theorem dJ0_indexOf_7cf53_7 : decode cJ0_indexOf_7cf53 7 = .ok (.aload_n 0, 1) := by decide +kernel
theorem dJ0_indexOf_7cf53_8 : decode cJ0_indexOf_7cf53 8 = .ok (.getfield 9, 3) := by decide +kernel
theorem dJ0_indexOf_7cf53_11 : decode cJ0_indexOf_7cf53 11 = .ok (.iload_n 1, 1) := by decide +kernel
theorem dJ0_indexOf_7cf53_12 : decode cJ0_indexOf_7cf53 12 = .ok (.iload_n 2, 1) := by decide +kernel
theorem dJ0_indexOf_7cf53_13 : decode cJ0_indexOf_7cf53 13 = .ok (.aload_n 0, 1) := by decide +kernel
theorem dJ0_indexOf_7cf53_14 : decode cJ0_indexOf_7cf53 14 = .ok (.invokevirtual 505, 3) := by decide +kernel
theorem dJ0_indexOf_7cf53_17 : decode cJ0_indexOf_7cf53 17 = .ok (.invokestatic 637, 3) := by decide +kernel
theorem dJ0_indexOf_7cf53_20 : decode cJ0_indexOf_7cf53 20 = .ok (.goto 16, 3) := by decide +kernel
theorem dJ0_indexOf_7cf53_36 : decode cJ0_indexOf_7cf53 36 = .ok (.ireturn, 1) := by decide +kernel
theorem dJ0_indexOf_0f7a4_0 : decode cJ0_indexOf_0f7a4 0 = .ok (.aload_n 0, 1) := by decide +kernel
theorem dJ0_indexOf_0f7a4_1 : decode cJ0_indexOf_0f7a4 1 = .ok (.iload_n 1, 1) := by decide +kernel
theorem dJ0_indexOf_0f7a4_2 : decode cJ0_indexOf_0f7a4 2 = .ok (.iconst 0, 1) := by decide +kernel
theorem dJ0_indexOf_0f7a4_3 : decode cJ0_indexOf_0f7a4 3 = .ok (.invokevirtual 633, 3) := by decide +kernel
theorem dJ0_indexOf_0f7a4_6 : decode cJ0_indexOf_0f7a4 6 = .ok (.ireturn, 1) := by decide +kernel
section ZSTR2
variable {X : zX} {l : Launch} {G : zG} {y : MethodName} {cc : ByteArray} {nL fr lo mc ms : Nat} {ws : va_W} {lv : List (Nat × Value)} {k n pc : Nat} {st : List Value}
theorem z_callStr2 {y' : MethodName} {b' : ByteArray} {nL' fr' lo' idx a v len : Nat} {na : Nat} {As : List Value} {post : Int32 → Prop} {stk : List Value} {ty : FieldType} {st : List Value} (hC : zC X l G y cc nL fr lo mc ms) (hz : ∀ (A : Nat → Prop) (U : State) (H : Heap), zNh G.2.2 A U H → zStr a v len A U H) (hM : zMi l G y' b' nL' ty fr' lo' 0 0 (.ref a :: As) [] (fun r w => post r ∧ w = [])) (hDe : zDv y' b' nL' (some ty) na) (hS0 : y'.cls = "java/lang/String") (hd : decode cc pc = .ok (.invokevirtual idx, 3)) (hw : Cond.methodLink y.cls idx y' ∈ zT) (hst : stk = As.reverse ++ .ref a :: st) (hna : As.length = na) (hk : k ≤ mc) (hn : n ≤ ms) (hfr : fr' + 1 ≤ fr) (hlo : 8 + (nL' + 11) + lo' ≤ lo) (hm : (st.map fun v => v.category).sum ≤ 8) (kk : ∀ x, post x → zS X G nL ws lv k n (pc + 3) (.int x :: st)) : zS X G nL ws lv k n pc stk := by
  obtain ⟨p, l', e, R, s, m, args, below, meth, c, A, Q⟩ := X
  obtain ⟨rfl, rfl, hx, hb, hml, hown, hts, hnm, hA, hK⟩ := hC
  intro H locs ls hP hD hS hl
  have hIC : ([] : List Nat).map (fun i => ws[i]?) = ([] : va_W).map some := rfl
  have hPc : va_P G.1 zcl [] H := zsubP hP hIC
  have hDc : va_D A [] := hD.sub [] rfl hIC
  have hFc := va_free hD hS hA [] hIC
  have hrec : ∃ cell : Cell, H[a]? = some cell ∧ cell.vm.isStatics = false ∧ s.vm.findClass y'.cls = some cell.cls := by
    obtain ⟨cell, h1, h2, h3, -⟩ := ((hz _ _ _ hK.2.1).1).kept hS.2.1
    exact ⟨cell, h1, h2, by rw [hS0]; exact h3⟩
  have hIR : (List.range ws.length).map (fun i => ws[i]?) = ws.map some := by
    apply List.ext_getElem
    · simp
    · intro i h1 h2
      simp at h1
      simp [h1]
  refine va_calli (va_runV (As := As) (rest := st) ⟨hx, hb, hml, hown, hts⟩ (hM H.size) (cwV na hts (zDv.good hDe hw) rfl rfl rfl ⟨rfl, hDe.1.1.1, hDe.1.1.2.1, hDe.1.1.2.2⟩ ⟨hfr, hlo⟩) ⟨zPc.blind, hrec, fun U hU hW => zPc.pre (ws := ws) hK hS hFc hPc hDc hU hW⟩ rfl hna hl.1 hst (lv_room hm) hd ⟨hk, hn⟩) hS (fun q _ h => hFc q h) hFc (fun r w t H1 locs1 ht hvm hp hB hz1 hk1 hS1 => ?_)
  obtain ⟨hp, rfl⟩ := hp
  refine kk r hp H1 locs1 ls (hP.kept (fun i q hq => hk1 q.1 ((hP i q hq).lt) (fun h => ?_))) hD hS1 hl
  rcases h with ⟨i, e, h⟩ | h
  · simp at h
  · exact absurd ((hP _ q hq).lt) (Nat.not_lt.mpr h)


theorem z_getFM {idx : Nat} (hC : zC X l G y cc nL fr lo mc ms) (hd : decode cc pc = .ok (.getstatic idx, 3)) (hwd : Cond.fieldLink y.cls idx "jdk/internal/util/Preconditions" "SIOOBE_FORMATTER" "Ljava/util/function/BiFunction;" ∈ zT) (kk : ∀ v : Value, (v = .null ∨ ∃ t : Nat, v = .ref t) → zS X G nL ws lv k n (pc + 3) (v :: st)) : zS X G nL ws lv k n pc st := by
  obtain ⟨p, l', e, R, s, m, args, below, meth, c, A, Q⟩ := X
  obtain ⟨rfl, rfl, hx, hb, hml, hown, hts, hnm, hA, hK⟩ := hC
  intro H locs ls hP hD hS hl
  rcases hK.2.1.2.2.2.2.2.2 with h | ⟨t, h⟩
  · exact va_gets hx hb h hS hown (hts _ hwd) (fun _ h => h) hd (kk .null (Or.inl rfl) H locs ls hP hD hS hl)
  · exact va_gets hx hb h hS hown (hts _ hwd) (fun _ h => h) hd (kk (.ref t) (Or.inr ⟨t, rfl⟩) H locs ls hP hD hS hl)
theorem z_strBald (hC : zC X l G y cc nL fr lo mc ms) {a v len : Nat} {i : Int32} (hz : ∀ (A : Nat → Prop) (U : State) (H : Heap), zNh G.2.2 A U H → zStr a v len A U H) (hd : decode cc pc = .ok (.baload, 1)) (hi : vp_in i len) (kk : ∀ x : Int32, zS X G nL ws lv k n (pc + 1) (.int x :: st)) : zS X G nL ws lv k n pc (.int i :: .ref v :: st) := by
  obtain ⟨p, l', e, R, s, m, args, below, meth, c, A, Q⟩ := X
  obtain ⟨rfl, rfl, hx, hb, hml, hown, hts, hnm, hA, hK⟩ := hC
  intro H locs ls hP hD hS hl
  obtain ⟨f, hf⟩ := (hz _ _ _ hK.2.1).2.2.2
  exact va_tb hx hb hf hS hi rfl hd (kk _ H locs ls hP hD hS hl)
theorem z_mmax {idx : Nat} {x y : Int32} {yy : MethodName} (hC : zC X l G yy cc nL fr lo mc ms) (hd : decode cc pc = .ok (.invokestatic idx, 3)) (hw : Cond.methodLink yy.cls idx Lib.Math.max.name ∈ zT) (h2 : Cond.static Lib.Math.max.name ∈ zT) (h3 : Cond.initialized "java/lang/Math" ∈ zT) (h4 : Cond.code Lib.Math.max.name Lib.Math.max.code 2 (some .int) ∈ zT) (hfr : 1 ≤ fr) (hlo : (st.map fun v => v.category).sum + 13 ≤ lo) (hk : k ≤ mc) (hn : n ≤ ms) (kk : zS X G nL ws lv k n (pc + 3) (.int (if x < y then y else x) :: st)) : zS X G nL ws lv k n pc (.int y :: .int x :: st) := by
  obtain ⟨p, l', e, R, s, m, args, below, meth, c, A, Q⟩ := X
  obtain ⟨rfl, rfl, hx, hb, hml, hown, hts, hnm, hA, hK⟩ := hC
  intro H locs ls hP hD hS hl
  exact va_mmax hx hb (hml.trans hl.1.symm) hown (hts _ hw) (hts _ h2) (hts _ h3) (hts _ h4) hfr hlo hk hn hd (kk H locs ls hP hD hS hl)
theorem z_mmin {idx : Nat} {x y : Int32} {yy : MethodName} (hC : zC X l G yy cc nL fr lo mc ms) (hd : decode cc pc = .ok (.invokestatic idx, 3)) (hw : Cond.methodLink yy.cls idx Lib.Math.min.name ∈ zT) (h2 : Cond.static Lib.Math.min.name ∈ zT) (h3 : Cond.initialized "java/lang/Math" ∈ zT) (h4 : Cond.code Lib.Math.min.name Lib.Math.min.code 2 (some .int) ∈ zT) (hfr : 1 ≤ fr) (hlo : (st.map fun v => v.category).sum + 13 ≤ lo) (hk : k ≤ mc) (hn : n ≤ ms) (kk : zS X G nL ws lv k n (pc + 3) (.int (if y < x then y else x) :: st)) : zS X G nL ws lv k n pc (.int y :: .int x :: st) := by
  obtain ⟨p, l', e, R, s, m, args, below, meth, c, A, Q⟩ := X
  obtain ⟨rfl, rfl, hx, hb, hml, hown, hts, hnm, hA, hK⟩ := hC
  intro H locs ls hP hD hS hl
  exact va_mmin hx hb (hml.trans hl.1.symm) hown (hts _ hw) (hts _ h2) (hts _ h3) (hts _ h4) hfr hlo hk hn hd (kk H locs ls hP hD hS hl)
end ZSTR2
theorem i_on (n : Nat) : Int32.ofInt (n : Int) = Int32.ofNat n := by
  apply Int32.toBitVec_inj.mp
  rw [Int32.toBitVec_ofInt, Int32.toBitVec_ofNat', BitVec.ofInt_natCast]
theorem i_shr0 (x : Int32) : x >>> ((0 : Int32) &&& 31) = x := by
  have h : ((0 : Int32) &&& 31) = 0 := by decide
  rw [h]
  exact Int32.shiftRight_zero
theorem i_and255 (x : Int32) : ∃ m : Nat, m < 256 ∧ x &&& 255 = Int32.ofNat m := by
  refine ⟨(x &&& 255).toBitVec.toNat, ?_, ?_⟩
  · rw [Int32.toBitVec_and, BitVec.toNat_and]
    exact Nat.lt_of_le_of_lt Nat.and_le_right (by decide)
  · apply Int32.toBitVec_inj.mp
    rw [Int32.toBitVec_ofNat']
    simp
theorem i_c256 : ∀ m, m < 256 → ((Int32.ofNat m).toUInt32 % 65536).toInt32 = Int32.ofNat m ∧ narrow .char (.int (Int32.ofNat m)) = .int (Int32.ofNat m) := by decide +kernel
theorem vi_in {i : Int32} {n : Nat} (h : vp_in i n) (hn : n < 2147483648) : ¬ i < 0 ∧ i < Int32.ofNat n := by
  rw [vp_in_iff] at h
  have e : (Int32.ofNat n).toInt = n := nI_toInt hn
  rw [Int32.lt_iff_toInt_lt, Int32.lt_iff_toInt_lt, e]
  have e0 : (0 : Int32).toInt = 0 := by decide
  omega
/-- a String constant of n signs -/
def rSt (G : zG) (a len : Nat) : Prop := len < 1000 ∧ ∃ v : Nat, ∀ (A : Nat → Prop) (U : State) (H : Heap), zNh G.2.2 A U H → zStr a v len A U H
theorem zS_0 {κ : Nat → Nat} (U : State) (h : zNt κ U) : vk_R "TemplateHouse$FileReader" 144 "delimiters" (κ 1) U := h.2.2.1 ("TemplateHouse$FileReader", 144, "delimiters", 0) (List.mem_of_getElem? (i := 0) rfl)
theorem zS_1 {κ : Nat → Nat} (U : State) (h : zNt κ U) : vk_R "TemplateHouse$FileReader" 163 "import" (κ 3) U := h.2.2.1 ("TemplateHouse$FileReader", 163, "import", 1) (List.mem_of_getElem? (i := 1) rfl)
theorem zS_2 {κ : Nat → Nat} (U : State) (h : zNt κ U) : vk_R "TemplateHouse$FileReader" 190 "\"'(){}[],.:;=|!&@\\_" (κ 5) U := h.2.2.1 ("TemplateHouse$FileReader", 190, "\"'(){}[],.:;=|!&@\\_", 2) (List.mem_of_getElem? (i := 2) rfl)
theorem zS_3 {κ : Nat → Nat} (U : State) (h : zNt κ U) : vk_R "TemplateHouse$FileReader" 200 "delimiters import default key true false " (κ 7) U := h.2.2.1 ("TemplateHouse$FileReader", 200, "delimiters import default key true false ", 3) (List.mem_of_getElem? (i := 3) rfl)
theorem zS_4 {κ : Nat → Nat} (U : State) (h : zNt κ U) : vk_R "TemplateHouse$FileReader" 280 "true" (κ 9) U := h.2.2.1 ("TemplateHouse$FileReader", 280, "true", 4) (List.mem_of_getElem? (i := 4) rfl)
theorem zS_5 {κ : Nat → Nat} (U : State) (h : zNt κ U) : vk_R "TemplateHouse$FileReader" 282 "key" (κ 11) U := h.2.2.1 ("TemplateHouse$FileReader", 282, "key", 5) (List.mem_of_getElem? (i := 5) rfl)
theorem zS_6 {κ : Nat → Nat} (U : State) (h : zNt κ U) : vk_R "TemplateHouse$FileReader" 284 "false" (κ 13) U := h.2.2.1 ("TemplateHouse$FileReader", 284, "false", 6) (List.mem_of_getElem? (i := 6) rfl)
theorem zS_7 {κ : Nat → Nat} (U : State) (h : zNt κ U) : vk_R "TemplateHouse$FileReader" 298 "default" (κ 15) U := h.2.2.1 ("TemplateHouse$FileReader", 298, "default", 7) (List.mem_of_getElem? (i := 7) rfl)
theorem zS_8 {κ : Nat → Nat} (U : State) (h : zNt κ U) : vk_R "TemplateHouse$Heap" 222 "true" (κ 17) U := h.2.2.1 ("TemplateHouse$Heap", 222, "true", 8) (List.mem_of_getElem? (i := 8) rfl)
theorem zS_9 {κ : Nat → Nat} (U : State) (h : zNt κ U) : vk_R "TemplateHouse$Heap" 224 "false" (κ 19) U := h.2.2.1 ("TemplateHouse$Heap", 224, "false", 9) (List.mem_of_getElem? (i := 9) rfl)
theorem zS_10 {κ : Nat → Nat} (U : State) (h : zNt κ U) : vk_R "TemplateHouse$Maker" 391 "&amp;" (κ 21) U := h.2.2.1 ("TemplateHouse$Maker", 391, "&amp;", 10) (List.mem_of_getElem? (i := 10) rfl)
theorem zS_11 {κ : Nat → Nat} (U : State) (h : zNt κ U) : vk_R "TemplateHouse$Maker" 393 "&lt;" (κ 23) U := h.2.2.1 ("TemplateHouse$Maker", 393, "&lt;", 11) (List.mem_of_getElem? (i := 11) rfl)
theorem zS_12 {κ : Nat → Nat} (U : State) (h : zNt κ U) : vk_R "TemplateHouse$Maker" 395 "&gt;" (κ 25) U := h.2.2.1 ("TemplateHouse$Maker", 395, "&gt;", 12) (List.mem_of_getElem? (i := 12) rfl)
theorem zS_13 {κ : Nat → Nat} (U : State) (h : zNt κ U) : vk_R "TemplateHouse$Maker" 397 "&quot;" (κ 27) U := h.2.2.1 ("TemplateHouse$Maker", 397, "&quot;", 13) (List.mem_of_getElem? (i := 13) rfl)
theorem zS_14 {κ : Nat → Nat} (U : State) (h : zNt κ U) : vk_R "TemplateHouse$Maker" 530 "keys" (κ 29) U := h.2.2.1 ("TemplateHouse$Maker", 530, "keys", 14) (List.mem_of_getElem? (i := 14) rfl)
theorem zS_15 {κ : Nat → Nat} (U : State) (h : zNt κ U) : vk_R "TemplateHouse$Maker" 536 "values" (κ 31) U := h.2.2.1 ("TemplateHouse$Maker", 536, "values", 15) (List.mem_of_getElem? (i := 15) rfl)
theorem zS_16 {κ : Nat → Nat} (U : State) (h : zNt κ U) : vk_R "TemplateHouse$Maker" 579 "upper lower cap xml url " (κ 33) U := h.2.2.1 ("TemplateHouse$Maker", 579, "upper lower cap xml url ", 16) (List.mem_of_getElem? (i := 16) rfl)
theorem zS_17 {κ : Nat → Nat} (U : State) (h : zNt κ U) : vk_R "TemplateHouse$TextReader" 134 "first last rest trunc strip reverse length strlen trim if elseif else endif super true false " (κ 35) U := h.2.2.1 ("TemplateHouse$TextReader", 134, "first last rest trunc strip reverse length strlen trim if elseif else endif super true false ", 17) (List.mem_of_getElem? (i := 17) rfl)
theorem zS_18 {κ : Nat → Nat} (U : State) (h : zNt κ U) : vk_R "TemplateHouse$TextReader" 202 "end" (κ 37) U := h.2.2.1 ("TemplateHouse$TextReader", 202, "end", 18) (List.mem_of_getElem? (i := 18) rfl)
theorem zS_19 {κ : Nat → Nat} (U : State) (h : zNt κ U) : vk_R "TemplateHouse$TextReader" 211 "super" (κ 39) U := h.2.2.1 ("TemplateHouse$TextReader", 211, "super", 19) (List.mem_of_getElem? (i := 19) rfl)
theorem zS_20 {κ : Nat → Nat} (U : State) (h : zNt κ U) : vk_R "TemplateHouse$TextReader" 271 "separator null format wrap anchor " (κ 41) U := h.2.2.1 ("TemplateHouse$TextReader", 271, "separator null format wrap anchor ", 20) (List.mem_of_getElem? (i := 20) rfl)
theorem zS_21 {κ : Nat → Nat} (U : State) (h : zNt κ U) : vk_R "TemplateHouse$TextReader" 338 " " (κ 43) U := h.2.2.1 ("TemplateHouse$TextReader", 338, " ", 21) (List.mem_of_getElem? (i := 21) rfl)
theorem zS_22 {κ : Nat → Nat} (U : State) (h : zNt κ U) : vk_R "TemplateHouseModel" 311 "delimiters" (κ 45) U := h.2.2.1 ("TemplateHouseModel", 311, "delimiters", 22) (List.mem_of_getElem? (i := 22) rfl)
theorem zS_23 {κ : Nat → Nat} (U : State) (h : zNt κ U) : vk_R "TemplateHouseModel" 317 "import" (κ 47) U := h.2.2.1 ("TemplateHouseModel", 317, "import", 23) (List.mem_of_getElem? (i := 23) rfl)
theorem zS_24 {κ : Nat → Nat} (U : State) (h : zNt κ U) : vk_R "TemplateHouseModel" 319 "default" (κ 49) U := h.2.2.1 ("TemplateHouseModel", 319, "default", 24) (List.mem_of_getElem? (i := 24) rfl)
theorem zS_25 {κ : Nat → Nat} (U : State) (h : zNt κ U) : vk_R "TemplateHouseModel" 321 "key" (κ 51) U := h.2.2.1 ("TemplateHouseModel", 321, "key", 25) (List.mem_of_getElem? (i := 25) rfl)
theorem zS_26 {κ : Nat → Nat} (U : State) (h : zNt κ U) : vk_R "TemplateHouseModel" 323 "true" (κ 53) U := h.2.2.1 ("TemplateHouseModel", 323, "true", 26) (List.mem_of_getElem? (i := 26) rfl)
theorem zS_27 {κ : Nat → Nat} (U : State) (h : zNt κ U) : vk_R "TemplateHouseModel" 325 "false" (κ 55) U := h.2.2.1 ("TemplateHouseModel", 325, "false", 27) (List.mem_of_getElem? (i := 27) rfl)
theorem zS_28 {κ : Nat → Nat} (U : State) (h : zNt κ U) : vk_R "TemplateHouseModel" 403 "," (κ 57) U := h.2.2.1 ("TemplateHouseModel", 403, ",", 28) (List.mem_of_getElem? (i := 28) rfl)
theorem zS_29 {κ : Nat → Nat} (U : State) (h : zNt κ U) : vk_R "TemplateHouseModel" 428 "\"(){}[],.:;=|!&@\\'" (κ 59) U := h.2.2.1 ("TemplateHouseModel", 428, "\"(){}[],.:;=|!&@\\'", 29) (List.mem_of_getElem? (i := 29) rfl)
theorem zS_30 {κ : Nat → Nat} (U : State) (h : zNt κ U) : vk_R "TemplateHouseModel" 462 "::=" (κ 61) U := h.2.2.1 ("TemplateHouseModel", 462, "::=", 30) (List.mem_of_getElem? (i := 30) rfl)
theorem zS_31 {κ : Nat → Nat} (U : State) (h : zNt κ U) : vk_R "TemplateHouseModel" 501 "." (κ 63) U := h.2.2.1 ("TemplateHouseModel", 501, ".", 31) (List.mem_of_getElem? (i := 31) rfl)
theorem zS_32 {κ : Nat → Nat} (U : State) (h : zNt κ U) : vk_R "TemplateHouseModel" 503 "(" (κ 65) U := h.2.2.1 ("TemplateHouseModel", 503, "(", 32) (List.mem_of_getElem? (i := 32) rfl)
theorem zS_33 {κ : Nat → Nat} (U : State) (h : zNt κ U) : vk_R "TemplateHouseModel" 505 ")" (κ 67) U := h.2.2.1 ("TemplateHouseModel", 505, ")", 33) (List.mem_of_getElem? (i := 33) rfl)
theorem zS_34 {κ : Nat → Nat} (U : State) (h : zNt κ U) : vk_R "TemplateHouseModel" 510 "=" (κ 69) U := h.2.2.1 ("TemplateHouseModel", 510, "=", 34) (List.mem_of_getElem? (i := 34) rfl)
theorem zS_35 {κ : Nat → Nat} (U : State) (h : zNt κ U) : vk_R "TemplateHouseModel" 523 "]" (κ 71) U := h.2.2.1 ("TemplateHouseModel", 523, "]", 35) (List.mem_of_getElem? (i := 35) rfl)
theorem zS_36 {κ : Nat → Nat} (U : State) (h : zNt κ U) : vk_R "TemplateHouseModel" 528 ":" (κ 73) U := h.2.2.1 ("TemplateHouseModel", 528, ":", 36) (List.mem_of_getElem? (i := 36) rfl)
theorem zS_37 {κ : Nat → Nat} (U : State) (h : zNt κ U) : vk_R "TemplateHouseModel" 574 "first" (κ 75) U := h.2.2.1 ("TemplateHouseModel", 574, "first", 37) (List.mem_of_getElem? (i := 37) rfl)
theorem zS_38 {κ : Nat → Nat} (U : State) (h : zNt κ U) : vk_R "TemplateHouseModel" 579 "last" (κ 77) U := h.2.2.1 ("TemplateHouseModel", 579, "last", 38) (List.mem_of_getElem? (i := 38) rfl)
theorem zS_39 {κ : Nat → Nat} (U : State) (h : zNt κ U) : vk_R "TemplateHouseModel" 581 "rest" (κ 79) U := h.2.2.1 ("TemplateHouseModel", 581, "rest", 39) (List.mem_of_getElem? (i := 39) rfl)
theorem zS_40 {κ : Nat → Nat} (U : State) (h : zNt κ U) : vk_R "TemplateHouseModel" 583 "trunc" (κ 81) U := h.2.2.1 ("TemplateHouseModel", 583, "trunc", 40) (List.mem_of_getElem? (i := 40) rfl)
theorem zS_41 {κ : Nat → Nat} (U : State) (h : zNt κ U) : vk_R "TemplateHouseModel" 585 "strip" (κ 83) U := h.2.2.1 ("TemplateHouseModel", 585, "strip", 41) (List.mem_of_getElem? (i := 41) rfl)
theorem zS_42 {κ : Nat → Nat} (U : State) (h : zNt κ U) : vk_R "TemplateHouseModel" 587 "reverse" (κ 85) U := h.2.2.1 ("TemplateHouseModel", 587, "reverse", 42) (List.mem_of_getElem? (i := 42) rfl)
theorem zS_43 {κ : Nat → Nat} (U : State) (h : zNt κ U) : vk_R "TemplateHouseModel" 589 "length" (κ 87) U := h.2.2.1 ("TemplateHouseModel", 589, "length", 43) (List.mem_of_getElem? (i := 43) rfl)
theorem zS_44 {κ : Nat → Nat} (U : State) (h : zNt κ U) : vk_R "TemplateHouseModel" 590 "strlen" (κ 89) U := h.2.2.1 ("TemplateHouseModel", 590, "strlen", 44) (List.mem_of_getElem? (i := 44) rfl)
theorem zS_45 {κ : Nat → Nat} (U : State) (h : zNt κ U) : vk_R "TemplateHouseModel" 592 "trim" (κ 91) U := h.2.2.1 ("TemplateHouseModel", 592, "trim", 45) (List.mem_of_getElem? (i := 45) rfl)
theorem zS_46 {κ : Nat → Nat} (U : State) (h : zNt κ U) : vk_R "TemplateHouseModel" 594 "if" (κ 93) U := h.2.2.1 ("TemplateHouseModel", 594, "if", 46) (List.mem_of_getElem? (i := 46) rfl)
theorem zS_47 {κ : Nat → Nat} (U : State) (h : zNt κ U) : vk_R "TemplateHouseModel" 596 "elseif" (κ 95) U := h.2.2.1 ("TemplateHouseModel", 596, "elseif", 47) (List.mem_of_getElem? (i := 47) rfl)
theorem zS_48 {κ : Nat → Nat} (U : State) (h : zNt κ U) : vk_R "TemplateHouseModel" 598 "else" (κ 97) U := h.2.2.1 ("TemplateHouseModel", 598, "else", 48) (List.mem_of_getElem? (i := 48) rfl)
theorem zS_49 {κ : Nat → Nat} (U : State) (h : zNt κ U) : vk_R "TemplateHouseModel" 600 "endif" (κ 99) U := h.2.2.1 ("TemplateHouseModel", 600, "endif", 49) (List.mem_of_getElem? (i := 49) rfl)
theorem zS_50 {κ : Nat → Nat} (U : State) (h : zNt κ U) : vk_R "TemplateHouseModel" 608 "super" (κ 101) U := h.2.2.1 ("TemplateHouseModel", 608, "super", 50) (List.mem_of_getElem? (i := 50) rfl)
theorem zS_51 {κ : Nat → Nat} (U : State) (h : zNt κ U) : vk_R "TemplateHouseModel" 656 "end" (κ 103) U := h.2.2.1 ("TemplateHouseModel", 656, "end", 51) (List.mem_of_getElem? (i := 51) rfl)
theorem zS_52 {κ : Nat → Nat} (U : State) (h : zNt κ U) : vk_R "TemplateHouseModel" 701 "separator" (κ 105) U := h.2.2.1 ("TemplateHouseModel", 701, "separator", 52) (List.mem_of_getElem? (i := 52) rfl)
theorem zS_53 {κ : Nat → Nat} (U : State) (h : zNt κ U) : vk_R "TemplateHouseModel" 703 "null" (κ 107) U := h.2.2.1 ("TemplateHouseModel", 703, "null", 53) (List.mem_of_getElem? (i := 53) rfl)
theorem zS_54 {κ : Nat → Nat} (U : State) (h : zNt κ U) : vk_R "TemplateHouseModel" 705 "format" (κ 109) U := h.2.2.1 ("TemplateHouseModel", 705, "format", 54) (List.mem_of_getElem? (i := 54) rfl)
theorem zS_55 {κ : Nat → Nat} (U : State) (h : zNt κ U) : vk_R "TemplateHouseModel" 707 "wrap" (κ 111) U := h.2.2.1 ("TemplateHouseModel", 707, "wrap", 55) (List.mem_of_getElem? (i := 55) rfl)
theorem zS_56 {κ : Nat → Nat} (U : State) (h : zNt κ U) : vk_R "TemplateHouseModel" 709 "anchor" (κ 113) U := h.2.2.1 ("TemplateHouseModel", 709, "anchor", 56) (List.mem_of_getElem? (i := 56) rfl)
theorem zS_57 {κ : Nat → Nat} (U : State) (h : zNt κ U) : vk_R "TemplateHouseModel" 1121 "keys" (κ 115) U := h.2.2.1 ("TemplateHouseModel", 1121, "keys", 57) (List.mem_of_getElem? (i := 57) rfl)
theorem zS_58 {κ : Nat → Nat} (U : State) (h : zNt κ U) : vk_R "TemplateHouseModel" 1126 "values" (κ 117) U := h.2.2.1 ("TemplateHouseModel", 1126, "values", 58) (List.mem_of_getElem? (i := 58) rfl)
theorem zS_59 {κ : Nat → Nat} (U : State) (h : zNt κ U) : vk_R "TemplateHouseModel" 1177 "&amp;" (κ 119) U := h.2.2.1 ("TemplateHouseModel", 1177, "&amp;", 59) (List.mem_of_getElem? (i := 59) rfl)
theorem zS_60 {κ : Nat → Nat} (U : State) (h : zNt κ U) : vk_R "TemplateHouseModel" 1179 "&lt;" (κ 121) U := h.2.2.1 ("TemplateHouseModel", 1179, "&lt;", 60) (List.mem_of_getElem? (i := 60) rfl)
theorem zS_61 {κ : Nat → Nat} (U : State) (h : zNt κ U) : vk_R "TemplateHouseModel" 1181 "&gt;" (κ 123) U := h.2.2.1 ("TemplateHouseModel", 1181, "&gt;", 61) (List.mem_of_getElem? (i := 61) rfl)
theorem zS_62 {κ : Nat → Nat} (U : State) (h : zNt κ U) : vk_R "TemplateHouseModel" 1183 "&quot;" (κ 125) U := h.2.2.1 ("TemplateHouseModel", 1183, "&quot;", 62) (List.mem_of_getElem? (i := 62) rfl)
theorem zS_63 {κ : Nat → Nat} (U : State) (h : zNt κ U) : vk_R "TemplateHouseModel" 1219 "upper" (κ 127) U := h.2.2.1 ("TemplateHouseModel", 1219, "upper", 63) (List.mem_of_getElem? (i := 63) rfl)
theorem zS_64 {κ : Nat → Nat} (U : State) (h : zNt κ U) : vk_R "TemplateHouseModel" 1220 "lower" (κ 129) U := h.2.2.1 ("TemplateHouseModel", 1220, "lower", 64) (List.mem_of_getElem? (i := 64) rfl)
theorem zS_65 {κ : Nat → Nat} (U : State) (h : zNt κ U) : vk_R "TemplateHouseModel" 1221 "cap" (κ 131) U := h.2.2.1 ("TemplateHouseModel", 1221, "cap", 65) (List.mem_of_getElem? (i := 65) rfl)
theorem zS_66 {κ : Nat → Nat} (U : State) (h : zNt κ U) : vk_R "TemplateHouseModel" 1223 "xml" (κ 133) U := h.2.2.1 ("TemplateHouseModel", 1223, "xml", 66) (List.mem_of_getElem? (i := 66) rfl)
theorem zS_67 {κ : Nat → Nat} (U : State) (h : zNt κ U) : vk_R "TemplateHouseModel" 1225 "url" (κ 135) U := h.2.2.1 ("TemplateHouseModel", 1225, "url", 67) (List.mem_of_getElem? (i := 67) rfl)
theorem rSt_0 (G : zG) : rSt G (G.2.2 1) 10 := ⟨by decide, G.2.2 2, fun A U H h => h.2.2.2.1 0 10 rfl⟩
theorem rSt_1 (G : zG) : rSt G (G.2.2 3) 6 := ⟨by decide, G.2.2 4, fun A U H h => h.2.2.2.1 1 6 rfl⟩
theorem rSt_2 (G : zG) : rSt G (G.2.2 5) 19 := ⟨by decide, G.2.2 6, fun A U H h => h.2.2.2.1 2 19 rfl⟩
theorem rSt_3 (G : zG) : rSt G (G.2.2 7) 41 := ⟨by decide, G.2.2 8, fun A U H h => h.2.2.2.1 3 41 rfl⟩
theorem rSt_4 (G : zG) : rSt G (G.2.2 9) 4 := ⟨by decide, G.2.2 10, fun A U H h => h.2.2.2.1 4 4 rfl⟩
theorem rSt_5 (G : zG) : rSt G (G.2.2 11) 3 := ⟨by decide, G.2.2 12, fun A U H h => h.2.2.2.1 5 3 rfl⟩
theorem rSt_6 (G : zG) : rSt G (G.2.2 13) 5 := ⟨by decide, G.2.2 14, fun A U H h => h.2.2.2.1 6 5 rfl⟩
theorem rSt_7 (G : zG) : rSt G (G.2.2 15) 7 := ⟨by decide, G.2.2 16, fun A U H h => h.2.2.2.1 7 7 rfl⟩
theorem rSt_8 (G : zG) : rSt G (G.2.2 17) 4 := ⟨by decide, G.2.2 18, fun A U H h => h.2.2.2.1 8 4 rfl⟩
theorem rSt_9 (G : zG) : rSt G (G.2.2 19) 5 := ⟨by decide, G.2.2 20, fun A U H h => h.2.2.2.1 9 5 rfl⟩
theorem rSt_10 (G : zG) : rSt G (G.2.2 21) 5 := ⟨by decide, G.2.2 22, fun A U H h => h.2.2.2.1 10 5 rfl⟩
theorem rSt_11 (G : zG) : rSt G (G.2.2 23) 4 := ⟨by decide, G.2.2 24, fun A U H h => h.2.2.2.1 11 4 rfl⟩
theorem rSt_12 (G : zG) : rSt G (G.2.2 25) 4 := ⟨by decide, G.2.2 26, fun A U H h => h.2.2.2.1 12 4 rfl⟩
theorem rSt_13 (G : zG) : rSt G (G.2.2 27) 6 := ⟨by decide, G.2.2 28, fun A U H h => h.2.2.2.1 13 6 rfl⟩
theorem rSt_14 (G : zG) : rSt G (G.2.2 29) 4 := ⟨by decide, G.2.2 30, fun A U H h => h.2.2.2.1 14 4 rfl⟩
theorem rSt_15 (G : zG) : rSt G (G.2.2 31) 6 := ⟨by decide, G.2.2 32, fun A U H h => h.2.2.2.1 15 6 rfl⟩
theorem rSt_16 (G : zG) : rSt G (G.2.2 33) 24 := ⟨by decide, G.2.2 34, fun A U H h => h.2.2.2.1 16 24 rfl⟩
theorem rSt_17 (G : zG) : rSt G (G.2.2 35) 93 := ⟨by decide, G.2.2 36, fun A U H h => h.2.2.2.1 17 93 rfl⟩
theorem rSt_18 (G : zG) : rSt G (G.2.2 37) 3 := ⟨by decide, G.2.2 38, fun A U H h => h.2.2.2.1 18 3 rfl⟩
theorem rSt_19 (G : zG) : rSt G (G.2.2 39) 5 := ⟨by decide, G.2.2 40, fun A U H h => h.2.2.2.1 19 5 rfl⟩
theorem rSt_20 (G : zG) : rSt G (G.2.2 41) 34 := ⟨by decide, G.2.2 42, fun A U H h => h.2.2.2.1 20 34 rfl⟩
theorem rSt_21 (G : zG) : rSt G (G.2.2 43) 1 := ⟨by decide, G.2.2 44, fun A U H h => h.2.2.2.1 21 1 rfl⟩
theorem rSt_22 (G : zG) : rSt G (G.2.2 45) 10 := ⟨by decide, G.2.2 46, fun A U H h => h.2.2.2.1 22 10 rfl⟩
theorem rSt_23 (G : zG) : rSt G (G.2.2 47) 6 := ⟨by decide, G.2.2 48, fun A U H h => h.2.2.2.1 23 6 rfl⟩
theorem rSt_24 (G : zG) : rSt G (G.2.2 49) 7 := ⟨by decide, G.2.2 50, fun A U H h => h.2.2.2.1 24 7 rfl⟩
theorem rSt_25 (G : zG) : rSt G (G.2.2 51) 3 := ⟨by decide, G.2.2 52, fun A U H h => h.2.2.2.1 25 3 rfl⟩
theorem rSt_26 (G : zG) : rSt G (G.2.2 53) 4 := ⟨by decide, G.2.2 54, fun A U H h => h.2.2.2.1 26 4 rfl⟩
theorem rSt_27 (G : zG) : rSt G (G.2.2 55) 5 := ⟨by decide, G.2.2 56, fun A U H h => h.2.2.2.1 27 5 rfl⟩
theorem rSt_28 (G : zG) : rSt G (G.2.2 57) 1 := ⟨by decide, G.2.2 58, fun A U H h => h.2.2.2.1 28 1 rfl⟩
theorem rSt_29 (G : zG) : rSt G (G.2.2 59) 18 := ⟨by decide, G.2.2 60, fun A U H h => h.2.2.2.1 29 18 rfl⟩
theorem rSt_30 (G : zG) : rSt G (G.2.2 61) 3 := ⟨by decide, G.2.2 62, fun A U H h => h.2.2.2.1 30 3 rfl⟩
theorem rSt_31 (G : zG) : rSt G (G.2.2 63) 1 := ⟨by decide, G.2.2 64, fun A U H h => h.2.2.2.1 31 1 rfl⟩
theorem rSt_32 (G : zG) : rSt G (G.2.2 65) 1 := ⟨by decide, G.2.2 66, fun A U H h => h.2.2.2.1 32 1 rfl⟩
theorem rSt_33 (G : zG) : rSt G (G.2.2 67) 1 := ⟨by decide, G.2.2 68, fun A U H h => h.2.2.2.1 33 1 rfl⟩
theorem rSt_34 (G : zG) : rSt G (G.2.2 69) 1 := ⟨by decide, G.2.2 70, fun A U H h => h.2.2.2.1 34 1 rfl⟩
theorem rSt_35 (G : zG) : rSt G (G.2.2 71) 1 := ⟨by decide, G.2.2 72, fun A U H h => h.2.2.2.1 35 1 rfl⟩
theorem rSt_36 (G : zG) : rSt G (G.2.2 73) 1 := ⟨by decide, G.2.2 74, fun A U H h => h.2.2.2.1 36 1 rfl⟩
theorem rSt_37 (G : zG) : rSt G (G.2.2 75) 5 := ⟨by decide, G.2.2 76, fun A U H h => h.2.2.2.1 37 5 rfl⟩
theorem rSt_38 (G : zG) : rSt G (G.2.2 77) 4 := ⟨by decide, G.2.2 78, fun A U H h => h.2.2.2.1 38 4 rfl⟩
theorem rSt_39 (G : zG) : rSt G (G.2.2 79) 4 := ⟨by decide, G.2.2 80, fun A U H h => h.2.2.2.1 39 4 rfl⟩
theorem rSt_40 (G : zG) : rSt G (G.2.2 81) 5 := ⟨by decide, G.2.2 82, fun A U H h => h.2.2.2.1 40 5 rfl⟩
theorem rSt_41 (G : zG) : rSt G (G.2.2 83) 5 := ⟨by decide, G.2.2 84, fun A U H h => h.2.2.2.1 41 5 rfl⟩
theorem rSt_42 (G : zG) : rSt G (G.2.2 85) 7 := ⟨by decide, G.2.2 86, fun A U H h => h.2.2.2.1 42 7 rfl⟩
theorem rSt_43 (G : zG) : rSt G (G.2.2 87) 6 := ⟨by decide, G.2.2 88, fun A U H h => h.2.2.2.1 43 6 rfl⟩
theorem rSt_44 (G : zG) : rSt G (G.2.2 89) 6 := ⟨by decide, G.2.2 90, fun A U H h => h.2.2.2.1 44 6 rfl⟩
theorem rSt_45 (G : zG) : rSt G (G.2.2 91) 4 := ⟨by decide, G.2.2 92, fun A U H h => h.2.2.2.1 45 4 rfl⟩
theorem rSt_46 (G : zG) : rSt G (G.2.2 93) 2 := ⟨by decide, G.2.2 94, fun A U H h => h.2.2.2.1 46 2 rfl⟩
theorem rSt_47 (G : zG) : rSt G (G.2.2 95) 6 := ⟨by decide, G.2.2 96, fun A U H h => h.2.2.2.1 47 6 rfl⟩
theorem rSt_48 (G : zG) : rSt G (G.2.2 97) 4 := ⟨by decide, G.2.2 98, fun A U H h => h.2.2.2.1 48 4 rfl⟩
theorem rSt_49 (G : zG) : rSt G (G.2.2 99) 5 := ⟨by decide, G.2.2 100, fun A U H h => h.2.2.2.1 49 5 rfl⟩
theorem rSt_50 (G : zG) : rSt G (G.2.2 101) 5 := ⟨by decide, G.2.2 102, fun A U H h => h.2.2.2.1 50 5 rfl⟩
theorem rSt_51 (G : zG) : rSt G (G.2.2 103) 3 := ⟨by decide, G.2.2 104, fun A U H h => h.2.2.2.1 51 3 rfl⟩
theorem rSt_52 (G : zG) : rSt G (G.2.2 105) 9 := ⟨by decide, G.2.2 106, fun A U H h => h.2.2.2.1 52 9 rfl⟩
theorem rSt_53 (G : zG) : rSt G (G.2.2 107) 4 := ⟨by decide, G.2.2 108, fun A U H h => h.2.2.2.1 53 4 rfl⟩
theorem rSt_54 (G : zG) : rSt G (G.2.2 109) 6 := ⟨by decide, G.2.2 110, fun A U H h => h.2.2.2.1 54 6 rfl⟩
theorem rSt_55 (G : zG) : rSt G (G.2.2 111) 4 := ⟨by decide, G.2.2 112, fun A U H h => h.2.2.2.1 55 4 rfl⟩
theorem rSt_56 (G : zG) : rSt G (G.2.2 113) 6 := ⟨by decide, G.2.2 114, fun A U H h => h.2.2.2.1 56 6 rfl⟩
theorem rSt_57 (G : zG) : rSt G (G.2.2 115) 4 := ⟨by decide, G.2.2 116, fun A U H h => h.2.2.2.1 57 4 rfl⟩
theorem rSt_58 (G : zG) : rSt G (G.2.2 117) 6 := ⟨by decide, G.2.2 118, fun A U H h => h.2.2.2.1 58 6 rfl⟩
theorem rSt_59 (G : zG) : rSt G (G.2.2 119) 5 := ⟨by decide, G.2.2 120, fun A U H h => h.2.2.2.1 59 5 rfl⟩
theorem rSt_60 (G : zG) : rSt G (G.2.2 121) 4 := ⟨by decide, G.2.2 122, fun A U H h => h.2.2.2.1 60 4 rfl⟩
theorem rSt_61 (G : zG) : rSt G (G.2.2 123) 4 := ⟨by decide, G.2.2 124, fun A U H h => h.2.2.2.1 61 4 rfl⟩
theorem rSt_62 (G : zG) : rSt G (G.2.2 125) 6 := ⟨by decide, G.2.2 126, fun A U H h => h.2.2.2.1 62 6 rfl⟩
theorem rSt_63 (G : zG) : rSt G (G.2.2 127) 5 := ⟨by decide, G.2.2 128, fun A U H h => h.2.2.2.1 63 5 rfl⟩
theorem rSt_64 (G : zG) : rSt G (G.2.2 129) 5 := ⟨by decide, G.2.2 130, fun A U H h => h.2.2.2.1 64 5 rfl⟩
theorem rSt_65 (G : zG) : rSt G (G.2.2 131) 3 := ⟨by decide, G.2.2 132, fun A U H h => h.2.2.2.1 65 3 rfl⟩
theorem rSt_66 (G : zG) : rSt G (G.2.2 133) 3 := ⟨by decide, G.2.2 134, fun A U H h => h.2.2.2.1 66 3 rfl⟩
theorem rSt_67 (G : zG) : rSt G (G.2.2 135) 3 := ⟨by decide, G.2.2 136, fun A U H h => h.2.2.2.1 67 3 rfl⟩
theorem jcoder (l : Launch) (G : zG) {a v len : Nat} (hz : ∀ (A : Nat → Prop) (U : State) (H : Heap), zNh G.2.2 A U H → zStr a v len A U H) : zMi l G yJ0_coder_7d493 cJ0_coder_7d493 1 .byte 0 0 0 0 [.ref a] [] (fun r w => r = 0 ∧ w = []) := by
  refine zMi.intro (by decide) (Nat.le_of_ble_eq_true rfl) (fun X hC hR => ?_)
  refine z_getCOMPACT hC (pc := 0) dJ0_coder_7d493_0 zw1107 ?_
  refine z_if_eqF hC (pc := 3) 13 dJ0_coder_7d493_3 (by decide) (by decide) ?_
  refine z_aload_n hC (pc := 6) 0 dJ0_coder_7d493_6 rfl rfl ?_
  refine z_strCoder hC (pc := 7) hz dJ0_coder_7d493_7 zw3798 ?_
  refine z_goto hC (pc := 10) 14 dJ0_coder_7d493_10 (by decide) ?_
  exact hR _ _ _ _ _ _ dJ0_coder_7d493_14 rfl (Nat.le_of_ble_eq_true rfl) (Nat.le_of_ble_eq_true rfl) ⟨rfl, rfl⟩
theorem jlen (l : Launch) (G : zG) {a v len : Nat} (hz : ∀ (A : Nat → Prop) (U : State) (H : Heap), zNh G.2.2 A U H → zStr a v len A U H) : zMi l G yJ0_length_8abf5 cJ0_length_8abf5 1 .int 1 20 0 0 [.ref a] [] (fun r w => r = Int32.ofNat len ∧ w = []) := by
  refine zMi.intro (by decide) (Nat.le_of_ble_eq_true rfl) (fun X hC hR => ?_)
  refine z_aload_n hC (pc := 0) 0 dJ0_length_8abf5_0 rfl rfl ?_
  refine z_strVal hC (pc := 1) hz dJ0_length_8abf5_1 zw3797 ?_
  refine z_strLen hC (pc := 4) hz dJ0_length_8abf5_4 rfl ?_
  refine z_aload_n hC (pc := 5) 0 dJ0_length_8abf5_5 rfl rfl ?_
  refine z_callStr hC (pc := 6) hz (jcoder l G hz) dmJ0_coder_7d493 rfl dJ0_length_8abf5_6 zw1103 (Nat.le_of_ble_eq_true rfl) (Nat.le_of_ble_eq_true rfl) (Nat.le_of_ble_eq_true rfl) (Nat.le_of_ble_eq_true rfl) (Nat.le_of_ble_eq_true rfl) ?_
  refine z_ishr hC (pc := 9) dJ0_length_8abf5_9 (i_shr0 _) ?_
  exact hR _ _ _ _ _ _ dJ0_length_8abf5_10 rfl (Nat.le_of_ble_eq_true rfl) (Nat.le_of_ble_eq_true rfl) ⟨rfl, rfl⟩
theorem jlat (l : Launch) (G : zG) {a v len : Nat} (hz : ∀ (A : Nat → Prop) (U : State) (H : Heap), zNh G.2.2 A U H → zStr a v len A U H) : zMi l G yJ0_isLatin1_aae02 cJ0_isLatin1_aae02 1 .boolean 0 0 0 0 [.ref a] [] (fun r w => r = 1 ∧ w = []) := by
  refine zMi.intro (by decide) (Nat.le_of_ble_eq_true rfl) (fun X hC hR => ?_)
  refine z_getCOMPACT hC (pc := 0) dJ0_isLatin1_aae02_0 zw1107 ?_
  refine z_if_eqF hC (pc := 3) 17 dJ0_isLatin1_aae02_3 (by decide) (by decide) ?_
  refine z_aload_n hC (pc := 6) 0 dJ0_isLatin1_aae02_6 rfl rfl ?_
  refine z_strCoder hC (pc := 7) hz dJ0_isLatin1_aae02_7 zw3798 ?_
  refine z_if_neF hC (pc := 10) 17 dJ0_isLatin1_aae02_10 (by decide) rfl ?_
  refine z_iconst hC (pc := 13) (v := 1) dJ0_isLatin1_aae02_13 (by decide) ?_
  refine z_goto hC (pc := 14) 18 dJ0_isLatin1_aae02_14 (by decide) ?_
  exact hR _ _ _ _ _ _ dJ0_isLatin1_aae02_18 rfl (Nat.le_of_ble_eq_true rfl) (Nat.le_of_ble_eq_true rfl) ⟨rfl, rfl⟩
theorem jpchk (l : Launch) (G : zG) {i m : Int32} {x : Value} (hv : x = .null ∨ ∃ t : Nat, x = .ref t) (h0 : ¬ i < 0) (h1 : i < m) : zMi l G yJ3_checkIndex_8e157 cJ3_checkIndex_8e157 3 .int 0 0 0 0 [.int i, .int m, x] [] (fun r w => r = i ∧ w = []) := by
  rcases hv with rfl | ⟨t, rfl⟩ <;>
  · refine zMi.intro (by decide) (Nat.le_of_ble_eq_true rfl) (fun X hC hR => ?_)
    refine z_iload_n hC (pc := 0) 0 dJ3_checkIndex_8e157_0 rfl rfl ?_
    refine z_if_ltF hC (pc := 1) 9 dJ3_checkIndex_8e157_1 (by decide) h0 ?_
    refine z_iload_n hC (pc := 4) 0 dJ3_checkIndex_8e157_4 rfl rfl ?_
    refine z_iload_n hC (pc := 5) 1 dJ3_checkIndex_8e157_5 rfl rfl ?_
    refine z_icmp_ltT hC (pc := 6) 16 dJ3_checkIndex_8e157_6 (by decide) h1 ?_
    refine z_iload_n hC (pc := 16) 0 dJ3_checkIndex_8e157_16 rfl rfl ?_
    exact hR _ _ _ _ _ _ dJ3_checkIndex_8e157_17 rfl (Nat.le_of_ble_eq_true rfl) (Nat.le_of_ble_eq_true rfl) ⟨rfl, rfl⟩
theorem jchk (l : Launch) (G : zG) {i m : Int32} (h0 : ¬ i < 0) (h1 : i < m) : zMv l G yJ0_checkIndex_df160 cJ0_checkIndex_df160 2 1 22 0 0 [.int i, .int m] [] (fun w => w = []) := by
  refine zMv.intro (by decide) (Nat.le_of_ble_eq_true rfl) (fun X hC hR => ?_)
  refine z_iload_n hC (pc := 0) 0 dJ0_checkIndex_df160_0 rfl rfl ?_
  refine z_iload_n hC (pc := 1) 1 dJ0_checkIndex_df160_1 rfl rfl ?_
  refine z_getFM hC (pc := 2) dJ0_checkIndex_df160_2 zw1123 (fun x hv => ?_)
  refine z_callSi hC (pc := 5) (wr := []) (As := [.int i, .int m, x]) (jpchk l G hv h0 h1) dmJ3_checkIndex_8e157 [] [] rfl rfl (by decide) dJ0_checkIndex_df160_5 zw1125 rfl rfl (Nat.le_of_ble_eq_true rfl) (Nat.le_of_ble_eq_true rfl) (Nat.le_of_ble_eq_true rfl) (Nat.le_of_ble_eq_true rfl) (Nat.le_of_ble_eq_true rfl) (fun r w hp => ?_)
  obtain ⟨rfl, rfl⟩ := hp
  refine z_pop hC (pc := 8) dJ0_checkIndex_df160_8 rfl ?_
  exact hR _ _ _ _ _ dJ0_checkIndex_df160_9 (Nat.le_of_ble_eq_true rfl) (Nat.le_of_ble_eq_true rfl) rfl
theorem jchar1 (l : Launch) (G : zG) {a v len : Nat} (hlen : len < 1000) (hz : ∀ (A : Nat → Prop) (U : State) (H : Heap), zNh G.2.2 A U H → zStr a v len A U H) {i : Int32} (hi : vp_in i len) : zMi l G yJ1_charAt_3b067 cJ1_charAt_3b067 2 .char 2 60 0 0 [.ref v, .int i] [] (fun r w => (∃ m : Nat, m < 256 ∧ r = Int32.ofNat m) ∧ w = []) := by
  obtain ⟨h0, h1⟩ := vi_in hi (by omega)
  refine zMi.intro (by decide) (Nat.le_of_ble_eq_true rfl) (fun X hC hR => ?_)
  refine z_iload_n hC (pc := 0) 1 dJ1_charAt_3b067_0 rfl rfl ?_
  refine z_aload_n hC (pc := 1) 0 dJ1_charAt_3b067_1 rfl rfl ?_
  refine z_strLen hC (pc := 2) hz dJ1_charAt_3b067_2 rfl ?_
  refine z_callSv hC (pc := 3) (wr := []) (As := [.int i, .int (Int32.ofNat len)]) (jchk l G h0 h1) dmJ0_checkIndex_df160 [] [] rfl rfl (by decide) dJ1_charAt_3b067_3 zw1120 rfl rfl (Nat.le_of_ble_eq_true rfl) (Nat.le_of_ble_eq_true rfl) (Nat.le_of_ble_eq_true rfl) (Nat.le_of_ble_eq_true rfl) (Nat.le_of_ble_eq_true rfl) (fun w hp => ?_)
  subst hp
  refine z_aload_n hC (pc := 6) 0 dJ1_charAt_3b067_6 rfl rfl ?_
  refine z_iload_n hC (pc := 7) 1 dJ1_charAt_3b067_7 rfl rfl ?_
  refine z_strBald hC (pc := 8) hz dJ1_charAt_3b067_8 hi (fun x => ?_)
  refine z_sipush hC (pc := 9) (v := 255) dJ1_charAt_3b067_9 (by decide) ?_
  obtain ⟨m, hm, em⟩ := i_and255 x
  refine z_iand hC (pc := 12) (v := Int32.ofNat m) dJ1_charAt_3b067_12 em ?_
  refine z_i2c hC (pc := 13) (v := Int32.ofNat m) dJ1_charAt_3b067_13 (i_c256 m hm).1 ?_
  exact hR _ _ _ _ _ _ dJ1_charAt_3b067_14 (i_c256 m hm).2 (Nat.le_of_ble_eq_true rfl) (Nat.le_of_ble_eq_true rfl) ⟨⟨m, hm, rfl⟩, rfl⟩
theorem jchar (l : Launch) (G : zG) {a v len : Nat} (hlen : len < 1000) (hz : ∀ (A : Nat → Prop) (U : State) (H : Heap), zNh G.2.2 A U H → zStr a v len A U H) {i : Int32} (hi : vp_in i len) : zMi l G yJ0_charAt_5068e cJ0_charAt_5068e 2 .char 3 90 0 0 [.ref a, .int i] [] (fun r w => (∃ m : Nat, m < 256 ∧ r = Int32.ofNat m) ∧ w = []) := by
  refine zMi.intro (by decide) (Nat.le_of_ble_eq_true rfl) (fun X hC hR => ?_)
  refine z_aload_n hC (pc := 0) 0 dJ0_charAt_5068e_0 rfl rfl ?_
  refine z_callStr hC (pc := 1) hz (jlat l G hz) dmJ0_isLatin1_aae02 rfl dJ0_charAt_5068e_1 zw1113 (Nat.le_of_ble_eq_true rfl) (Nat.le_of_ble_eq_true rfl) (Nat.le_of_ble_eq_true rfl) (Nat.le_of_ble_eq_true rfl) (Nat.le_of_ble_eq_true rfl) ?_
  refine z_if_eqF hC (pc := 4) 16 dJ0_charAt_5068e_4 (by decide) (by decide) ?_
  refine z_aload_n hC (pc := 7) 0 dJ0_charAt_5068e_7 rfl rfl ?_
  refine z_strVal hC (pc := 8) hz dJ0_charAt_5068e_8 zw3797 ?_
  refine z_iload_n hC (pc := 11) 1 dJ0_charAt_5068e_11 rfl rfl ?_
  refine z_callSi hC (pc := 12) (wr := []) (As := [.ref v, .int i]) (jchar1 l G hlen hz hi) dmJ1_charAt_3b067 [] [] rfl rfl (by decide) dJ0_charAt_5068e_12 zw1117 rfl rfl (Nat.le_of_ble_eq_true rfl) (Nat.le_of_ble_eq_true rfl) (Nat.le_of_ble_eq_true rfl) (Nat.le_of_ble_eq_true rfl) (Nat.le_of_ble_eq_true rfl) (fun r w hp => ?_)
  obtain ⟨⟨m, hm, rfl⟩, rfl⟩ := hp
  exact hR _ _ _ _ _ _ dJ0_charAt_5068e_15 (i_c256 m hm).2 (Nat.le_of_ble_eq_true rfl) (Nat.le_of_ble_eq_true rfl) ⟨⟨m, hm, rfl⟩, rfl⟩
theorem jcan (l : Launch) (G : zG) {i : Int32} : zMi l G yJ1_canEncode_9a6ad cJ1_canEncode_9a6ad 1 .boolean 0 0 0 0 [.int i] [] (fun r w => (r = 0 ∨ r = 1) ∧ w = []) := by
  refine zMi.intro (by decide) (Nat.le_of_ble_eq_true rfl) (fun X hC hR => ?_)
  refine z_iload_n hC (pc := 0) 0 dJ1_canEncode_9a6ad_0 rfl rfl ?_
  have e : zS X G 1 [] [(0, .int i)] 0 0 15 [] := by
    refine z_iconst hC (pc := 15) (v := 0) dJ1_canEncode_9a6ad_15 (by decide) ?_
    exact hR _ _ _ _ _ _ dJ1_canEncode_9a6ad_16 rfl (Nat.le_of_ble_eq_true rfl) (Nat.le_of_ble_eq_true rfl) ⟨Or.inl rfl, rfl⟩
  refine z_if_lt hC (pc := 1) 15 dJ1_canEncode_9a6ad_1 (by decide) (fun _ => e) (fun _ => ?_)
  refine z_iload_n hC (pc := 4) 0 dJ1_canEncode_9a6ad_4 rfl rfl ?_
  refine z_sipush hC (pc := 5) (v := 255) dJ1_canEncode_9a6ad_5 (by decide) ?_
  refine z_icmp_gt hC (pc := 8) 15 dJ1_canEncode_9a6ad_8 (by decide) (fun _ => e) (fun _ => ?_)
  refine z_iconst hC (pc := 11) (v := 1) dJ1_canEncode_9a6ad_11 (by decide) ?_
  refine z_goto hC (pc := 12) 16 dJ1_canEncode_9a6ad_12 (by decide) ?_
  exact hR _ _ _ _ _ _ dJ1_canEncode_9a6ad_16 rfl (Nat.le_of_ble_eq_true rfl) (Nat.le_of_ble_eq_true rfl) ⟨Or.inr rfl, rfl⟩
theorem jidc (l : Launch) (G : zG) {a v len : Nat} (hlen : len < 1000) (hz : ∀ (A : Nat → Prop) (U : State) (H : Heap), zNh G.2.2 A U H → zStr a v len A U H) {x : Int32} : zMi l G yJ1_indexOfChar_4cfef cJ1_indexOfChar_4cfef 6 .int 0 0 0 0 [.ref v, .int x, .int 0, .int (Int32.ofNat len)] [] (fun r w => w = []) := by
  refine zMi.intro (by decide) (Nat.le_of_ble_eq_true rfl) (fun X hC hR => ?_)
  refine z_iload_n hC (pc := 0) 1 dJ1_indexOfChar_4cfef_0 rfl rfl ?_
  refine z_i2b hC (pc := 1) dJ1_indexOfChar_4cfef_1 rfl ?_
  generalize (x : Int32).toInt8.toInt32 = b
  refine z_istore hC (pc := 2) (lv' := [(4, .int b), (0, .ref v), (1, .int x), (2, .int 0), (3, .int (Int32.ofNat len))]) dJ1_indexOfChar_4cfef_2 (by decide) rfl ?_
  refine z_iload_n hC (pc := 4) 3 dJ1_indexOfChar_4cfef_4 rfl rfl ?_
  refine z_istore hC (pc := 5) (lv' := [(5, .int 0), (4, .int b), (0, .ref v), (1, .int x), (2, .int 0), (3, .int (Int32.ofNat len))]) dJ1_indexOfChar_4cfef_5 (by decide) rfl ?_
  have loop : ∀ (d : Nat) (i : Int32), ¬ i < 0 → (len - i.toInt.toNat) ≤ d → zS X G 6 [] [(5, .int i), (4, .int b), (0, .ref v), (1, .int x), (2, .int 0), (3, .int (Int32.ofNat len))] 0 0 7 [] := by
    intro d
    induction d with
    | zero =>
      intro i h0 hd
      refine z_iload hC (pc := 7) 0 dJ1_indexOfChar_4cfef_7 rfl ?_
      refine z_iload_n hC (pc := 9) 5 dJ1_indexOfChar_4cfef_9 rfl rfl ?_
      refine z_icmp_geT hC (pc := 10) 31 dJ1_indexOfChar_4cfef_10 (by decide) ?_ ?_
      · have e : (Int32.ofNat len).toInt = len := nI_toInt (by omega)
        rw [Int32.le_iff_toInt_le, e]
        rw [Int32.lt_iff_toInt_lt] at h0
        have e0 : (0 : Int32).toInt = 0 := by decide
        omega
      · refine z_iconst hC (pc := 31) (v := -1) dJ1_indexOfChar_4cfef_31 (by decide) ?_
        exact hR _ _ _ _ _ _ dJ1_indexOfChar_4cfef_32 rfl (Nat.le_of_ble_eq_true rfl) (Nat.le_of_ble_eq_true rfl) rfl
    | succ d ih =>
      intro i h0 hd
      refine z_iload hC (pc := 7) 0 dJ1_indexOfChar_4cfef_7 rfl ?_
      refine z_iload_n hC (pc := 9) 5 dJ1_indexOfChar_4cfef_9 rfl rfl ?_
      refine z_icmp_ge hC (pc := 10) 31 dJ1_indexOfChar_4cfef_10 (by decide) (fun _ => ?_) (fun c => ?_)
      · refine z_iconst hC (pc := 31) (v := -1) dJ1_indexOfChar_4cfef_31 (by decide) ?_
        exact hR _ _ _ _ _ _ dJ1_indexOfChar_4cfef_32 rfl (Nat.le_of_ble_eq_true rfl) (Nat.le_of_ble_eq_true rfl) rfl
      · have e0 : (0 : Int32).toInt = 0 := by decide
        have c' : ¬ (Int32.ofNat len).toInt ≤ i.toInt := fun q => c (Int32.le_iff_toInt_le.mpr q)
        have e : (Int32.ofNat len).toInt = len := nI_toInt (by omega)
        rw [e] at c'
        have h0' : ¬ i.toInt < 0 := fun q => h0 (by rw [Int32.lt_iff_toInt_lt, e0]; exact q)
        refine z_aload_n hC (pc := 13) 2 dJ1_indexOfChar_4cfef_13 rfl rfl ?_
        refine z_iload hC (pc := 14) 0 dJ1_indexOfChar_4cfef_14 rfl ?_
        refine z_strBald hC (pc := 16) hz dJ1_indexOfChar_4cfef_16 (by rw [vp_in_iff]; omega) (fun z => ?_)
        refine z_iload hC (pc := 17) 1 dJ1_indexOfChar_4cfef_17 rfl ?_
        refine z_icmp_ne hC (pc := 19) 25 dJ1_indexOfChar_4cfef_19 (by decide) (fun _ => ?_) (fun _ => ?_)
        · refine z_iinc hC (pc := 25) (v := i + 1) (lv' := [(5, .int (i + 1)), (4, .int b), (0, .ref v), (1, .int x), (2, .int 0), (3, .int (Int32.ofNat len))]) 0 dJ1_indexOfChar_4cfef_25 rfl (congrArg _ (by decide)) (by decide) rfl ?_
          refine z_goto hC (pc := 28) 7 dJ1_indexOfChar_4cfef_28 (by decide) ?_
          have e1 : (i + 1).toInt = i.toInt + 1 := by
            have h1 := i.toInt_lt
            rw [Int32.toInt_add, Int.bmod_def, show (1 : Int32).toInt = 1 by decide]
            split <;> omega
          exact ih (i + 1) (by rw [Int32.lt_iff_toInt_lt, e0]; omega) (by omega)
        · refine z_iload hC (pc := 22) 0 dJ1_indexOfChar_4cfef_22 rfl ?_
          exact hR _ _ _ _ _ _ dJ1_indexOfChar_4cfef_24 rfl (Nat.le_of_ble_eq_true rfl) (Nat.le_of_ble_eq_true rfl) rfl
  exact loop _ 0 (by decide) (Nat.le_refl _)
theorem jidx1 (l : Launch) (G : zG) {a v len : Nat} (hlen : len < 1000) (hz : ∀ (A : Nat → Prop) (U : State) (H : Heap), zNh G.2.2 A U H → zStr a v len A U H) {x : Int32} : zMi l G yJ1_indexOf_4cfef cJ1_indexOf_4cfef 4 .int 1 30 0 0 [.ref v, .int x, .int 0, .int (Int32.ofNat len)] [] (fun r w => w = []) := by
  refine zMi.intro (by decide) (Nat.le_of_ble_eq_true rfl) (fun X hC hR => ?_)
  refine z_iload_n hC (pc := 0) 1 dJ1_indexOf_4cfef_0 rfl rfl ?_
  refine z_callSi hC (pc := 1) (wr := []) (As := [.int x]) (jcan l G) dmJ1_canEncode_9a6ad [] [] rfl rfl (by decide) dJ1_indexOf_4cfef_1 zw1186 rfl rfl (Nat.le_of_ble_eq_true rfl) (Nat.le_of_ble_eq_true rfl) (Nat.le_of_ble_eq_true rfl) (Nat.le_of_ble_eq_true rfl) (Nat.le_of_ble_eq_true rfl) (fun r w hp => ?_)
  obtain ⟨hr, rfl⟩ := hp
  refine z_if_ne hC (pc := 4) 9 dJ1_indexOf_4cfef_4 (by decide) (fun _ => ?_) (fun _ => ?_)
  · refine z_iload_n hC (pc := 9) 2 dJ1_indexOf_4cfef_9 rfl rfl ?_
    refine z_iconst hC (pc := 10) (v := 0) dJ1_indexOf_4cfef_10 (by decide) ?_
    refine z_mmax hC (pc := 11) dJ1_indexOf_4cfef_11 zw1189 zw1190 zw25 zw1191 (Nat.le_of_ble_eq_true rfl) (Nat.le_of_ble_eq_true rfl) (Nat.le_of_ble_eq_true rfl) (Nat.le_of_ble_eq_true rfl) ?_
    rw [ite_self]
    refine z_istore_n hC (pc := 14) (lv' := [(2, .int 0), (0, .ref v), (1, .int x), (3, .int (Int32.ofNat len))]) dJ1_indexOf_4cfef_14 rfl (by decide) rfl ?_
    refine z_iload_n hC (pc := 15) 3 dJ1_indexOf_4cfef_15 rfl rfl ?_
    refine z_aload_n hC (pc := 16) 1 dJ1_indexOf_4cfef_16 rfl rfl ?_
    refine z_strLen hC (pc := 17) hz dJ1_indexOf_4cfef_17 rfl ?_
    refine z_mmin hC (pc := 18) dJ1_indexOf_4cfef_18 zw1192 zw1193 zw25 zw1194 (Nat.le_of_ble_eq_true rfl) (Nat.le_of_ble_eq_true rfl) (Nat.le_of_ble_eq_true rfl) (Nat.le_of_ble_eq_true rfl) ?_
    rw [ite_self]
    refine z_istore_n hC (pc := 21) (lv' := [(3, .int (Int32.ofNat len)), (2, .int 0), (0, .ref v), (1, .int x)]) dJ1_indexOf_4cfef_21 rfl (by decide) rfl ?_
    refine z_iload_n hC (pc := 22) 1 dJ1_indexOf_4cfef_22 rfl rfl ?_
    refine z_iload_n hC (pc := 23) 0 dJ1_indexOf_4cfef_23 rfl rfl ?_
    refine z_icmp_lt hC (pc := 24) 29 dJ1_indexOf_4cfef_24 (by decide) (fun _ => ?_) (fun _ => ?_)
    · refine z_aload_n hC (pc := 29) 2 dJ1_indexOf_4cfef_29 rfl rfl ?_
      refine z_iload_n hC (pc := 30) 3 dJ1_indexOf_4cfef_30 rfl rfl ?_
      refine z_iload_n hC (pc := 31) 1 dJ1_indexOf_4cfef_31 rfl rfl ?_
      refine z_iload_n hC (pc := 32) 0 dJ1_indexOf_4cfef_32 rfl rfl ?_
      refine z_callSi hC (pc := 33) (wr := []) (As := [.ref v, .int x, .int 0, .int (Int32.ofNat len)]) (jidc l G hlen hz) dmJ1_indexOfChar_4cfef [] [] rfl rfl (by decide) dJ1_indexOf_4cfef_33 zw1195 rfl rfl (Nat.le_of_ble_eq_true rfl) (Nat.le_of_ble_eq_true rfl) (Nat.le_of_ble_eq_true rfl) (Nat.le_of_ble_eq_true rfl) (Nat.le_of_ble_eq_true rfl) (fun r w hp => ?_)
      subst hp
      exact hR _ _ _ _ _ _ dJ1_indexOf_4cfef_36 rfl (Nat.le_of_ble_eq_true rfl) (Nat.le_of_ble_eq_true rfl) rfl
    · refine z_iconst hC (pc := 27) (v := -1) dJ1_indexOf_4cfef_27 (by decide) ?_
      exact hR _ _ _ _ _ _ dJ1_indexOf_4cfef_28 rfl (Nat.le_of_ble_eq_true rfl) (Nat.le_of_ble_eq_true rfl) rfl
  · refine z_iconst hC (pc := 7) (v := -1) dJ1_indexOf_4cfef_7 (by decide) ?_
    exact hR _ _ _ _ _ _ dJ1_indexOf_4cfef_8 rfl (Nat.le_of_ble_eq_true rfl) (Nat.le_of_ble_eq_true rfl) rfl
theorem jidx2 (l : Launch) (G : zG) {a v len : Nat} (hlen : len < 1000) (hz : ∀ (A : Nat → Prop) (U : State) (H : Heap), zNh G.2.2 A U H → zStr a v len A U H) {x : Int32} : zMi l G yJ0_indexOf_7cf53 cJ0_indexOf_7cf53 3 .int 2 70 0 0 [.ref a, .int x, .int 0] [] (fun r w => True ∧ w = []) := by
  refine zMi.intro (by decide) (Nat.le_of_ble_eq_true rfl) (fun X hC hR => ?_)
  refine z_aload_n hC (pc := 0) 0 dJ0_indexOf_7cf53_0 rfl rfl ?_
  refine z_callStr hC (pc := 1) hz (jlat l G hz) dmJ0_isLatin1_aae02 rfl dJ0_indexOf_7cf53_1 zw1113 (Nat.le_of_ble_eq_true rfl) (Nat.le_of_ble_eq_true rfl) (Nat.le_of_ble_eq_true rfl) (Nat.le_of_ble_eq_true rfl) (Nat.le_of_ble_eq_true rfl) ?_
  refine z_if_eqF hC (pc := 4) 23 dJ0_indexOf_7cf53_4 (by decide) (by decide) ?_
  refine z_aload_n hC (pc := 7) 0 dJ0_indexOf_7cf53_7 rfl rfl ?_
  refine z_strVal hC (pc := 8) hz dJ0_indexOf_7cf53_8 zw3797 ?_
  refine z_iload_n hC (pc := 11) 1 dJ0_indexOf_7cf53_11 rfl rfl ?_
  refine z_iload_n hC (pc := 12) 2 dJ0_indexOf_7cf53_12 rfl rfl ?_
  refine z_aload_n hC (pc := 13) 0 dJ0_indexOf_7cf53_13 rfl rfl ?_
  refine z_callStr hC (pc := 14) hz (jlen l G hz) dmJ0_length_8abf5 rfl dJ0_indexOf_7cf53_14 zw1182 (Nat.le_of_ble_eq_true rfl) (Nat.le_of_ble_eq_true rfl) (Nat.le_of_ble_eq_true rfl) (Nat.le_of_ble_eq_true rfl) (Nat.le_of_ble_eq_true rfl) ?_
  refine z_callSi hC (pc := 17) (wr := []) (As := [.ref v, .int x, .int 0, .int (Int32.ofNat len)]) (jidx1 l G hlen hz) dmJ1_indexOf_4cfef [] [] rfl rfl (by decide) dJ0_indexOf_7cf53_17 zw1183 rfl rfl (Nat.le_of_ble_eq_true rfl) (Nat.le_of_ble_eq_true rfl) (Nat.le_of_ble_eq_true rfl) (Nat.le_of_ble_eq_true rfl) (Nat.le_of_ble_eq_true rfl) (fun r w hp => ?_)
  subst hp
  refine z_goto hC (pc := 20) 36 dJ0_indexOf_7cf53_20 (by decide) ?_
  exact hR _ _ _ _ _ _ dJ0_indexOf_7cf53_36 rfl (Nat.le_of_ble_eq_true rfl) (Nat.le_of_ble_eq_true rfl) ⟨trivial, rfl⟩
theorem jidx (l : Launch) (G : zG) {a v len : Nat} (hlen : len < 1000) (hz : ∀ (A : Nat → Prop) (U : State) (H : Heap), zNh G.2.2 A U H → zStr a v len A U H) {x : Int32} : zMi l G yJ0_indexOf_0f7a4 cJ0_indexOf_0f7a4 2 .int 3 100 0 0 [.ref a, .int x] [] (fun r w => True ∧ w = []) := by
  refine zMi.intro (by decide) (Nat.le_of_ble_eq_true rfl) (fun X hC hR => ?_)
  refine z_aload_n hC (pc := 0) 0 dJ0_indexOf_0f7a4_0 rfl rfl ?_
  refine z_iload_n hC (pc := 1) 1 dJ0_indexOf_0f7a4_1 rfl rfl ?_
  refine z_iconst hC (pc := 2) (v := 0) dJ0_indexOf_0f7a4_2 (by decide) ?_
  refine z_callStr2 hC (pc := 3) (As := [.int x, .int 0]) (post := fun _ => True) hz (jidx2 l G hlen hz) dmJ0_indexOf_7cf53 rfl dJ0_indexOf_0f7a4_3 zw1178 rfl rfl (Nat.le_of_ble_eq_true rfl) (Nat.le_of_ble_eq_true rfl) (Nat.le_of_ble_eq_true rfl) (Nat.le_of_ble_eq_true rfl) (Nat.le_of_ble_eq_true rfl) (fun r _ => ?_)
  exact hR _ _ _ _ _ _ dJ0_indexOf_0f7a4_6 rfl (Nat.le_of_ble_eq_true rfl) (Nat.le_of_ble_eq_true rfl) ⟨trivial, rfl⟩
section RSTR
variable {X : zX} {l : Launch} {G : zG} {y : MethodName} {cc : ByteArray} {nL fr lo mc ms : Nat} {lv : List (Nat × Value)} {k n pc : Nat} {st : List Value} {κ : Nat → Nat} {σ : rS} {a len idx : Nat}
theorem y_slen (hC : zC X l G y cc nL fr lo mc ms) (hs : rSt G a len) (hd : decode cc pc = .ok (.invokevirtual idx, 3)) (hw : Cond.methodLink y.cls idx yJ0_length_8abf5 ∈ zT) (hk : k ≤ mc) (hn : n ≤ ms) (hfr : 2 ≤ fr) (hlo : 40 ≤ lo) (hm : (st.map fun v => v.category).sum ≤ 8) (kk : zS X G nL (rW G κ σ) lv k n (pc + 3) (iv (len : Int) :: st)) : zS X G nL (rW G κ σ) lv k n pc (.ref a :: st) := by
  obtain ⟨hlen, v, hz⟩ := hs
  exact z_callStr hC hz (jlen l G hz) dmJ0_length_8abf5 rfl hd hw hk hn hfr hlo hm (by rw [iv, i_on] at kk; exact kk)
theorem y_char (hC : zC X l G y cc nL fr lo mc ms) {i : Int} (hs : rSt G a len) (hi : 0 ≤ i ∧ i < len) (hd : decode cc pc = .ok (.invokevirtual idx, 3)) (hw : Cond.methodLink y.cls idx yJ0_charAt_5068e ∈ zT) (hk : k ≤ mc) (hn : n ≤ ms) (hfr : 4 ≤ fr) (hlo : 111 ≤ lo) (hm : (st.map fun v => v.category).sum ≤ 8) (kk : ∀ x : Int, (0 ≤ x ∧ x ≤ 255) → zS X G nL (rW G κ σ) lv k n (pc + 3) (iv x :: st)) : zS X G nL (rW G κ σ) lv k n pc (iv i :: .ref a :: st) := by
  obtain ⟨hlen, v, hz⟩ := hs
  refine z_callStr2 hC (As := [iv i]) (post := fun r => ∃ m : Nat, m < 256 ∧ r = Int32.ofNat m) hz (jchar l G hlen hz (i_in hi (by omega))) dmJ0_charAt_5068e rfl hd hw rfl rfl hk hn hfr hlo hm (fun r hr => ?_)
  obtain ⟨m, hm2, rfl⟩ := hr
  have := kk (m : Int) ⟨by omega, by omega⟩
  rw [iv, i_on] at this
  exact this
theorem y_sidx (hC : zC X l G y cc nL fr lo mc ms) {i : Int} (hs : rSt G a len) (hd : decode cc pc = .ok (.invokevirtual idx, 3)) (hw : Cond.methodLink y.cls idx yJ0_indexOf_0f7a4 ∈ zT) (hk : k ≤ mc) (hn : n ≤ ms) (hfr : 4 ≤ fr) (hlo : 121 ≤ lo) (hm : (st.map fun v => v.category).sum ≤ 8) (kk : ∀ x : Int, rng x → zS X G nL (rW G κ σ) lv k n (pc + 3) (iv x :: st)) : zS X G nL (rW G κ σ) lv k n pc (iv i :: .ref a :: st) := by
  obtain ⟨hlen, v, hz⟩ := hs
  refine z_callStr2 hC (As := [iv i]) (post := fun _ => True) hz (jidx l G hlen hz) dmJ0_indexOf_0f7a4 rfl hd hw rfl rfl hk hn hfr hlo hm (fun r _ => ?_)
  have := kk r.toInt (i_rng r)
  rw [iv, Int32.ofInt_toInt] at this
  exact this
end RSTR

