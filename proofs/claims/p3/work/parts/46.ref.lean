theorem zw3136 : Cond.methodLink "TemplateHouseModel" 650 ⟨"TemplateHouseModel", "need", "(I)V"⟩ ∈ zT := zsub14 16 (by decide +kernel) (by decide +kernel)
theorem zw3218 : Cond.methodLink "TemplateHouseModel" 383 ⟨"TemplateHouseModel", "keep", "([BII)V"⟩ ∈ zT := zsub14 98 (by decide +kernel) (by decide +kernel)
theorem zw3170 : Cond.methodLink "TemplateHouseModel" 387 ⟨"TemplateHouseModel", "node", "(IIII)I"⟩ ∈ zT := zsub14 50 (by decide +kernel) (by decide +kernel)
theorem zw3027 : Cond.methodLink "TemplateHouseModel" 425 ⟨"TemplateHouseModel", "fileString", "()V"⟩ ∈ zT := zsub13 147 (by decide +kernel) (by decide +kernel)
theorem zw3032 : Cond.methodLink "TemplateHouseModel" 430 ⟨"java/lang/String", "indexOf", "(I)I"⟩ ∈ zT := zsub13 152 (by decide +kernel) (by decide +kernel)
theorem zw3087 : Cond.methodLink "TemplateHouseModel" 545 ⟨"TemplateHouseModel", "addByte", "(II)V"⟩ ∈ zT := zsub13 207 (by decide +kernel) (by decide +kernel)
theorem zw2355 : Cond.fieldLink "TemplateHouseModel$Group" 72 "TemplateHouseModel$Group" "many" "[I" ∈ zT := zsub10 195 (by decide +kernel) (by decide +kernel)
theorem zw2337 : Cond.fieldLink "TemplateHouseModel$Group" 45 "TemplateHouseModel$Group" "defKind" "[I" ∈ zT := zsub10 177 (by decide +kernel) (by decide +kernel)
theorem zw2339 : Cond.fieldLink "TemplateHouseModel$Group" 48 "TemplateHouseModel$Group" "defName" "[I" ∈ zT := zsub10 179 (by decide +kernel) (by decide +kernel)
theorem zw3315 : Cond.methodLink "TemplateHouseModel$Group" 135 ⟨"TemplateHouseModel$Group", "own", "(IIZ)I"⟩ ∈ zT := zsub14 195 (by decide +kernel) (by decide +kernel)
theorem zw2371 : Cond.fieldLink "TemplateHouseModel$Group" 122 "TemplateHouseModel$Group" "parts" "I" ∈ zT := zsub10 211 (by decide +kernel) (by decide +kernel)
theorem zw2365 : Cond.fieldLink "TemplateHouseModel$Group" 85 "TemplateHouseModel$Group" "partDef" "[I" ∈ zT := zsub10 205 (by decide +kernel) (by decide +kernel)
theorem zw2367 : Cond.fieldLink "TemplateHouseModel$Group" 88 "TemplateHouseModel$Group" "partName" "[I" ∈ zT := zsub10 207 (by decide +kernel) (by decide +kernel)
theorem zw2369 : Cond.fieldLink "TemplateHouseModel$Group" 91 "TemplateHouseModel$Group" "partNode" "[I" ∈ zT := zsub10 209 (by decide +kernel) (by decide +kernel)
theorem zw3214 : Cond.methodLink "TemplateHouseModel" 516 ⟨"TemplateHouseModel", "keepString", "([BIII)I"⟩ ∈ zT := zsub14 94 (by decide +kernel) (by decide +kernel)
theorem zw3257 : Cond.code ⟨"TemplateHouseModel", "dots", "(I)V"⟩ prog_15_method_68_code 2 (Option.none : Option Jvm.ClassFile.FieldType) ∈ zT := zsub14 137 rfl rfl
theorem zw3256 : Cond.instanceMethod ⟨"TemplateHouseModel", "dots", "(I)V"⟩ ∈ zT := zsub14 136 (by decide +kernel) (by decide +kernel)
theorem zwp171 : Cond.selects "TemplateHouseModel" ⟨"TemplateHouseModel", "dots", "(I)V"⟩ ⟨"TemplateHouseModel", "dots", "(I)V"⟩ ∈ zT := zin 171 (by decide +kernel) (by decide +kernel)
theorem zw3217 : Cond.code ⟨"TemplateHouseModel", "keepString", "([BIII)I"⟩ prog_15_method_19_code 6 (Option.some Jvm.ClassFile.FieldType.int) ∈ zT := zsub14 97 rfl rfl
theorem zw3216 : Cond.instanceMethod ⟨"TemplateHouseModel", "keepString", "([BIII)I"⟩ ∈ zT := zsub14 96 (by decide +kernel) (by decide +kernel)
theorem zwp213 : Cond.selects "TemplateHouseModel" ⟨"TemplateHouseModel", "keepString", "([BIII)I"⟩ ⟨"TemplateHouseModel", "keepString", "([BIII)I"⟩ ∈ zT := zin 213 (by decide +kernel) (by decide +kernel)
theorem zw3345 : Cond.code ⟨"TemplateHouseModel", "isSameKey", "(I)Z"⟩ prog_15_method_30_code 4 (Option.some Jvm.ClassFile.FieldType.boolean) ∈ zT := zsub14 225 rfl rfl
theorem zw3344 : Cond.instanceMethod ⟨"TemplateHouseModel", "isSameKey", "(I)Z"⟩ ∈ zT := zsub14 224 (by decide +kernel) (by decide +kernel)
theorem zwp202 : Cond.selects "TemplateHouseModel" ⟨"TemplateHouseModel", "isSameKey", "(I)Z"⟩ ⟨"TemplateHouseModel", "isSameKey", "(I)Z"⟩ ∈ zT := zin 202 (by decide +kernel) (by decide +kernel)
theorem zw3026 : Cond.code ⟨"TemplateHouseModel", "delimiter", "()I"⟩ prog_15_method_21_code 3 (Option.some Jvm.ClassFile.FieldType.int) ∈ zT := zsub13 146 rfl rfl
theorem zw3025 : Cond.instanceMethod ⟨"TemplateHouseModel", "delimiter", "()I"⟩ ∈ zT := zsub13 145 (by decide +kernel) (by decide +kernel)
theorem zwp170 : Cond.selects "TemplateHouseModel" ⟨"TemplateHouseModel", "delimiter", "()I"⟩ ⟨"TemplateHouseModel", "delimiter", "()I"⟩ ∈ zT := zin 170 (by decide +kernel) (by decide +kernel)
theorem zw3086 : Cond.code ⟨"TemplateHouseModel", "packed", "(II)V"⟩ prog_15_method_33_code 4 (Option.none : Option Jvm.ClassFile.FieldType) ∈ zT := zsub13 206 rfl rfl
theorem zw3085 : Cond.instanceMethod ⟨"TemplateHouseModel", "packed", "(II)V"⟩ ∈ zT := zsub13 205 (by decide +kernel) (by decide +kernel)
theorem zwp237 : Cond.selects "TemplateHouseModel" ⟨"TemplateHouseModel", "packed", "(II)V"⟩ ⟨"TemplateHouseModel", "packed", "(II)V"⟩ ∈ zT := zin 237 (by decide +kernel) (by decide +kernel)
theorem zw3318 : Cond.code ⟨"TemplateHouseModel$Group", "own", "(IIZ)I"⟩ prog_16_method_7_code 5 (Option.some Jvm.ClassFile.FieldType.int) ∈ zT := zsub14 198 rfl rfl
theorem zw3316 : Cond.instanceMethod ⟨"TemplateHouseModel$Group", "own", "(IIZ)I"⟩ ∈ zT := zsub14 196 (by decide +kernel) (by decide +kernel)
theorem zw3317 : Cond.selects "TemplateHouseModel$Group" ⟨"TemplateHouseModel$Group", "own", "(IIZ)I"⟩ ⟨"TemplateHouseModel$Group", "own", "(IIZ)I"⟩ ∈ zT := zsub14 197 (by decide +kernel) (by decide +kernel)
theorem zw3314 : Cond.code ⟨"TemplateHouseModel$Group", "isOwn", "(II)Z"⟩ prog_16_method_6_code 3 (Option.some Jvm.ClassFile.FieldType.boolean) ∈ zT := zsub14 194 rfl rfl
theorem zw3312 : Cond.instanceMethod ⟨"TemplateHouseModel$Group", "isOwn", "(II)Z"⟩ ∈ zT := zsub14 192 (by decide +kernel) (by decide +kernel)
theorem zw3313 : Cond.selects "TemplateHouseModel$Group" ⟨"TemplateHouseModel$Group", "isOwn", "(II)Z"⟩ ⟨"TemplateHouseModel$Group", "isOwn", "(II)Z"⟩ ∈ zT := zsub14 193 (by decide +kernel) (by decide +kernel)
theorem zw3177 : Cond.code ⟨"TemplateHouseModel$Group", "partOf", "(II)I"⟩ prog_16_method_11_code 4 (Option.some Jvm.ClassFile.FieldType.int) ∈ zT := zsub14 57 rfl rfl
theorem zw3175 : Cond.instanceMethod ⟨"TemplateHouseModel$Group", "partOf", "(II)I"⟩ ∈ zT := zsub14 55 (by decide +kernel) (by decide +kernel)
theorem zw3176 : Cond.selects "TemplateHouseModel$Group" ⟨"TemplateHouseModel$Group", "partOf", "(II)I"⟩ ⟨"TemplateHouseModel$Group", "partOf", "(II)I"⟩ ∈ zT := zsub14 56 (by decide +kernel) (by decide +kernel)
theorem zw3213 : Cond.code ⟨"TemplateHouseModel", "readString", "(I)I"⟩ prog_15_method_73_code 5 (Option.some Jvm.ClassFile.FieldType.int) ∈ zT := zsub14 93 rfl rfl
theorem zw3212 : Cond.instanceMethod ⟨"TemplateHouseModel", "readString", "(I)I"⟩ ∈ zT := zsub14 92 (by decide +kernel) (by decide +kernel)
theorem zwp271 : Cond.selects "TemplateHouseModel" ⟨"TemplateHouseModel", "readString", "(I)I"⟩ ⟨"TemplateHouseModel", "readString", "(I)I"⟩ ∈ zT := zin 271 (by decide +kernel) (by decide +kernel)
abbrev cX14_dots : ByteArray := prog_15_method_68_code
abbrev yX14_dots : MethodName := ⟨"TemplateHouseModel", "dots", "(I)V"⟩
theorem dmX14_dots : zDv yX14_dots cX14_dots 2 none 1 := ⟨⟨⟨by decide +kernel, by decide +kernel, by decide +kernel⟩, zw3257, zw14⟩, zw3256, zwp171⟩
abbrev cX14_keepString : ByteArray := prog_15_method_19_code
abbrev yX14_keepString : MethodName := ⟨"TemplateHouseModel", "keepString", "([BIII)I"⟩
theorem dmX14_keepString : zDv yX14_keepString cX14_keepString 6 (some .int) 4 := ⟨⟨⟨by decide +kernel, by decide +kernel, by decide +kernel⟩, zw3217, zw14⟩, zw3216, zwp213⟩
abbrev cX14_isSameKey : ByteArray := prog_15_method_30_code
abbrev yX14_isSameKey : MethodName := ⟨"TemplateHouseModel", "isSameKey", "(I)Z"⟩
theorem dmX14_isSameKey : zDv yX14_isSameKey cX14_isSameKey 4 (some .boolean) 1 := ⟨⟨⟨by decide +kernel, by decide +kernel, by decide +kernel⟩, zw3345, zw14⟩, zw3344, zwp202⟩
abbrev cX14_delimiter : ByteArray := prog_15_method_21_code
abbrev yX14_delimiter : MethodName := ⟨"TemplateHouseModel", "delimiter", "()I"⟩
theorem dmX14_delimiter : zDv yX14_delimiter cX14_delimiter 3 (some .int) 0 := ⟨⟨⟨by decide +kernel, by decide +kernel, by decide +kernel⟩, zw3026, zw14⟩, zw3025, zwp170⟩
abbrev cX14_packed : ByteArray := prog_15_method_33_code
abbrev yX14_packed : MethodName := ⟨"TemplateHouseModel", "packed", "(II)V"⟩
theorem dmX14_packed : zDv yX14_packed cX14_packed 4 none 2 := ⟨⟨⟨by decide +kernel, by decide +kernel, by decide +kernel⟩, zw3086, zw14⟩, zw3085, zwp237⟩
abbrev cX13_own : ByteArray := prog_16_method_7_code
abbrev yX13_own : MethodName := ⟨"TemplateHouseModel$Group", "own", "(IIZ)I"⟩
theorem dmX13_own : zDv yX13_own cX13_own 5 (some .int) 3 := ⟨⟨⟨by decide +kernel, by decide +kernel, by decide +kernel⟩, zw3318, zw15⟩, zw3316, zw3317⟩
abbrev cX13_isOwn : ByteArray := prog_16_method_6_code
abbrev yX13_isOwn : MethodName := ⟨"TemplateHouseModel$Group", "isOwn", "(II)Z"⟩
theorem dmX13_isOwn : zDv yX13_isOwn cX13_isOwn 3 (some .boolean) 2 := ⟨⟨⟨by decide +kernel, by decide +kernel, by decide +kernel⟩, zw3314, zw15⟩, zw3312, zw3313⟩
abbrev cX13_partOf : ByteArray := prog_16_method_11_code
abbrev yX13_partOf : MethodName := ⟨"TemplateHouseModel$Group", "partOf", "(II)I"⟩
theorem dmX13_partOf : zDv yX13_partOf cX13_partOf 4 (some .int) 2 := ⟨⟨⟨by decide +kernel, by decide +kernel, by decide +kernel⟩, zw3177, zw15⟩, zw3175, zw3176⟩
abbrev cX14_readString : ByteArray := prog_15_method_73_code
abbrev yX14_readString : MethodName := ⟨"TemplateHouseModel", "readString", "(I)I"⟩
theorem dmX14_readString : zDv yX14_readString cX14_readString 5 (some .int) 1 := ⟨⟨⟨by decide +kernel, by decide +kernel, by decide +kernel⟩, zw3213, zw14⟩, zw3212, zwp271⟩
theorem dX14_dots_0 : decode cX14_dots 0 = .ok (.aload_n 0, 1) := by decide +kernel
theorem dX14_dots_1 : decode cX14_dots 1 = .ok (.dup, 1) := by decide +kernel
theorem dX14_dots_2 : decode cX14_dots 2 = .ok (.getfield 548, 3) := by decide +kernel
theorem dX14_dots_5 : decode cX14_dots 5 = .ok (.iconst 3, 1) := by decide +kernel
theorem dX14_dots_6 : decode cX14_dots 6 = .ok (.iadd, 1) := by decide +kernel
theorem dX14_dots_7 : decode cX14_dots 7 = .ok (.putfield 548, 3) := by decide +kernel
theorem dX14_dots_10 : decode cX14_dots 10 = .ok (.aload_n 0, 1) := by decide +kernel
theorem dX14_dots_11 : decode cX14_dots 11 = .ok (.getfield 334, 3) := by decide +kernel
theorem dX14_dots_14 : decode cX14_dots 14 = .ok (.getfield 359, 3) := by decide +kernel
theorem dX14_dots_17 : decode cX14_dots 17 = .ok (.iload_n 1, 1) := by decide +kernel
theorem dX14_dots_18 : decode cX14_dots 18 = .ok (.iconst 1, 1) := by decide +kernel
theorem dX14_dots_19 : decode cX14_dots 19 = .ok (.iastore, 1) := by decide +kernel
theorem dX14_dots_20 : decode cX14_dots 20 = .ok (.aload_n 0, 1) := by decide +kernel
theorem dX14_dots_21 : decode cX14_dots 21 = .ok (.bipush 41, 2) := by decide +kernel
theorem dX14_dots_23 : decode cX14_dots 23 = .ok (.invokevirtual 650, 3) := by decide +kernel
theorem dX14_dots_26 : decode cX14_dots 26 = .ok (.return_, 1) := by decide +kernel
theorem dX14_keepString_0 : decode cX14_keepString 0 = .ok (.aload_n 0, 1) := by decide +kernel
theorem dX14_keepString_1 : decode cX14_keepString 1 = .ok (.aload_n 1, 1) := by decide +kernel
theorem dX14_keepString_2 : decode cX14_keepString 2 = .ok (.iload_n 2, 1) := by decide +kernel
theorem dX14_keepString_3 : decode cX14_keepString 3 = .ok (.iload_n 3, 1) := by decide +kernel
theorem dX14_keepString_4 : decode cX14_keepString 4 = .ok (.invokevirtual 383, 3) := by decide +kernel
theorem dX14_keepString_7 : decode cX14_keepString 7 = .ok (.aload_n 0, 1) := by decide +kernel
theorem dX14_keepString_8 : decode cX14_keepString 8 = .ok (.bipush 30, 2) := by decide +kernel
theorem dX14_keepString_10 : decode cX14_keepString 10 = .ok (.aload_n 0, 1) := by decide +kernel
theorem dX14_keepString_11 : decode cX14_keepString 11 = .ok (.getfield 374, 3) := by decide +kernel
theorem dX14_keepString_14 : decode cX14_keepString 14 = .ok (.aload_n 0, 1) := by decide +kernel
theorem dX14_keepString_15 : decode cX14_keepString 15 = .ok (.getfield 380, 3) := by decide +kernel
theorem dX14_keepString_18 : decode cX14_keepString 18 = .ok (.iload 4, 2) := by decide +kernel
theorem dX14_keepString_20 : decode cX14_keepString 20 = .ok (.invokevirtual 387, 3) := by decide +kernel
theorem dX14_keepString_23 : decode cX14_keepString 23 = .ok (.istore 5, 2) := by decide +kernel
theorem dX14_keepString_25 : decode cX14_keepString 25 = .ok (.iload 5, 2) := by decide +kernel
theorem dX14_keepString_27 : decode cX14_keepString 27 = .ok (.ireturn, 1) := by decide +kernel
theorem dX14_isSameKey_0 : decode cX14_isSameKey 0 = .ok (.aload_n 0, 1) := by decide +kernel
theorem dX14_isSameKey_1 : decode cX14_isSameKey 1 = .ok (.getfield 334, 3) := by decide +kernel
theorem dX14_isSameKey_4 : decode cX14_isSameKey 4 = .ok (.getfield 356, 3) := by decide +kernel
theorem dX14_isSameKey_7 : decode cX14_isSameKey 7 = .ok (.iload_n 1, 1) := by decide +kernel
theorem dX14_isSameKey_8 : decode cX14_isSameKey 8 = .ok (.iaload, 1) := by decide +kernel
theorem dX14_isSameKey_9 : decode cX14_isSameKey 9 = .ok (.aload_n 0, 1) := by decide +kernel
theorem dX14_isSameKey_10 : decode cX14_isSameKey 10 = .ok (.getfield 380, 3) := by decide +kernel
theorem dX14_isSameKey_13 : decode cX14_isSameKey 13 = .ok (.if_icmp .ne 7, 3) := by decide +kernel
theorem dX14_isSameKey_20 : decode cX14_isSameKey 20 = .ok (.iconst 0, 1) := by decide +kernel
theorem dX14_isSameKey_21 : decode cX14_isSameKey 21 = .ok (.istore_n 2, 1) := by decide +kernel
theorem dX14_isSameKey_22 : decode cX14_isSameKey 22 = .ok (.iconst 0, 1) := by decide +kernel
theorem dX14_isSameKey_23 : decode cX14_isSameKey 23 = .ok (.istore_n 3, 1) := by decide +kernel
theorem dX14_isSameKey_24 : decode cX14_isSameKey 24 = .ok (.iload_n 3, 1) := by decide +kernel
theorem dX14_isSameKey_25 : decode cX14_isSameKey 25 = .ok (.aload_n 0, 1) := by decide +kernel
theorem dX14_isSameKey_26 : decode cX14_isSameKey 26 = .ok (.getfield 380, 3) := by decide +kernel
theorem dX14_isSameKey_29 : decode cX14_isSameKey 29 = .ok (.if_icmp .ge 55, 3) := by decide +kernel
theorem dX14_isSameKey_84 : decode cX14_isSameKey 84 = .ok (.iload_n 2, 1) := by decide +kernel
theorem dX14_isSameKey_85 : decode cX14_isSameKey 85 = .ok (.ireturn, 1) := by decide +kernel
theorem dX14_isSameKey_32 : decode cX14_isSameKey 32 = .ok (.iload_n 2, 1) := by decide +kernel
theorem dX14_isSameKey_33 : decode cX14_isSameKey 33 = .ok (.ifCond .eq 51, 3) := by decide +kernel
theorem dX14_isSameKey_36 : decode cX14_isSameKey 36 = .ok (.aload_n 0, 1) := by decide +kernel
theorem dX14_isSameKey_37 : decode cX14_isSameKey 37 = .ok (.getfield 334, 3) := by decide +kernel
theorem dX14_isSameKey_40 : decode cX14_isSameKey 40 = .ok (.getfield 377, 3) := by decide +kernel
theorem dX14_isSameKey_43 : decode cX14_isSameKey 43 = .ok (.aload_n 0, 1) := by decide +kernel
theorem dX14_isSameKey_44 : decode cX14_isSameKey 44 = .ok (.getfield 334, 3) := by decide +kernel
theorem dX14_isSameKey_47 : decode cX14_isSameKey 47 = .ok (.getfield 353, 3) := by decide +kernel
theorem dX14_isSameKey_50 : decode cX14_isSameKey 50 = .ok (.iload_n 1, 1) := by decide +kernel
theorem dX14_isSameKey_51 : decode cX14_isSameKey 51 = .ok (.iaload, 1) := by decide +kernel
theorem dX14_isSameKey_52 : decode cX14_isSameKey 52 = .ok (.iload_n 3, 1) := by decide +kernel
theorem dX14_isSameKey_53 : decode cX14_isSameKey 53 = .ok (.iadd, 1) := by decide +kernel
theorem dX14_isSameKey_54 : decode cX14_isSameKey 54 = .ok (.baload, 1) := by decide +kernel
theorem dX14_isSameKey_55 : decode cX14_isSameKey 55 = .ok (.aload_n 0, 1) := by decide +kernel
theorem dX14_isSameKey_56 : decode cX14_isSameKey 56 = .ok (.getfield 334, 3) := by decide +kernel
theorem dX14_isSameKey_59 : decode cX14_isSameKey 59 = .ok (.getfield 377, 3) := by decide +kernel
theorem dX14_isSameKey_62 : decode cX14_isSameKey 62 = .ok (.aload_n 0, 1) := by decide +kernel
theorem dX14_isSameKey_63 : decode cX14_isSameKey 63 = .ok (.getfield 374, 3) := by decide +kernel
theorem dX14_isSameKey_66 : decode cX14_isSameKey 66 = .ok (.iload_n 3, 1) := by decide +kernel
theorem dX14_isSameKey_67 : decode cX14_isSameKey 67 = .ok (.iadd, 1) := by decide +kernel
theorem dX14_isSameKey_68 : decode cX14_isSameKey 68 = .ok (.baload, 1) := by decide +kernel
theorem dX14_isSameKey_69 : decode cX14_isSameKey 69 = .ok (.if_icmp .ne 7, 3) := by decide +kernel
theorem dX14_isSameKey_76 : decode cX14_isSameKey 76 = .ok (.iconst 0, 1) := by decide +kernel
theorem dX14_isSameKey_77 : decode cX14_isSameKey 77 = .ok (.istore_n 2, 1) := by decide +kernel
theorem dX14_isSameKey_78 : decode cX14_isSameKey 78 = .ok (.iinc 3 1, 3) := by decide +kernel
theorem dX14_isSameKey_81 : decode cX14_isSameKey 81 = .ok (.goto (-57), 3) := by decide +kernel
theorem dX14_isSameKey_72 : decode cX14_isSameKey 72 = .ok (.iconst 1, 1) := by decide +kernel
theorem dX14_isSameKey_73 : decode cX14_isSameKey 73 = .ok (.goto 4, 3) := by decide +kernel
theorem dX14_isSameKey_16 : decode cX14_isSameKey 16 = .ok (.iconst 1, 1) := by decide +kernel
theorem dX14_isSameKey_17 : decode cX14_isSameKey 17 = .ok (.goto 4, 3) := by decide +kernel
theorem dX14_delimiter_0 : decode cX14_delimiter 0 = .ok (.aload_n 0, 1) := by decide +kernel
theorem dX14_delimiter_1 : decode cX14_delimiter 1 = .ok (.invokevirtual 425, 3) := by decide +kernel
theorem dX14_delimiter_4 : decode cX14_delimiter 4 = .ok (.aload_n 0, 1) := by decide +kernel
theorem dX14_delimiter_5 : decode cX14_delimiter 5 = .ok (.getfield 248, 3) := by decide +kernel
theorem dX14_delimiter_8 : decode cX14_delimiter 8 = .ok (.ifCond .eq 5, 3) := by decide +kernel
theorem dX14_delimiter_13 : decode cX14_delimiter 13 = .ok (.aload_n 0, 1) := by decide +kernel
theorem dX14_delimiter_14 : decode cX14_delimiter 14 = .ok (.getfield 344, 3) := by decide +kernel
theorem dX14_delimiter_17 : decode cX14_delimiter 17 = .ok (.aload_n 0, 1) := by decide +kernel
theorem dX14_delimiter_18 : decode cX14_delimiter 18 = .ok (.getfield 341, 3) := by decide +kernel
theorem dX14_delimiter_21 : decode cX14_delimiter 21 = .ok (.isub, 1) := by decide +kernel
theorem dX14_delimiter_22 : decode cX14_delimiter 22 = .ok (.iconst 1, 1) := by decide +kernel
theorem dX14_delimiter_23 : decode cX14_delimiter 23 = .ok (.if_icmp .ne 15, 3) := by decide +kernel
theorem dX14_delimiter_38 : decode cX14_delimiter 38 = .ok (.bipush 32, 2) := by decide +kernel
theorem dX14_delimiter_40 : decode cX14_delimiter 40 = .ok (.istore_n 1, 1) := by decide +kernel
theorem dX14_delimiter_41 : decode cX14_delimiter 41 = .ok (.iload_n 1, 1) := by decide +kernel
theorem dX14_delimiter_42 : decode cX14_delimiter 42 = .ok (.invokestatic 284, 3) := by decide +kernel
theorem dX14_delimiter_45 : decode cX14_delimiter 45 = .ok (.ifCond .ne 27, 3) := by decide +kernel
theorem dX14_delimiter_72 : decode cX14_delimiter 72 = .ok (.iconst 1, 1) := by decide +kernel
theorem dX14_delimiter_73 : decode cX14_delimiter 73 = .ok (.goto 4, 3) := by decide +kernel
theorem dX14_delimiter_77 : decode cX14_delimiter 77 = .ok (.istore_n 2, 1) := by decide +kernel
theorem dX14_delimiter_78 : decode cX14_delimiter 78 = .ok (.iload_n 2, 1) := by decide +kernel
theorem dX14_delimiter_79 : decode cX14_delimiter 79 = .ok (.ifCond .eq 12, 3) := by decide +kernel
theorem dX14_delimiter_82 : decode cX14_delimiter 82 = .ok (.aload_n 0, 1) := by decide +kernel
theorem dX14_delimiter_83 : decode cX14_delimiter 83 = .ok (.iconst 2, 1) := by decide +kernel
theorem dX14_delimiter_84 : decode cX14_delimiter 84 = .ok (.aload_n 0, 1) := by decide +kernel
theorem dX14_delimiter_85 : decode cX14_delimiter 85 = .ok (.getfield 327, 3) := by decide +kernel
theorem dX14_delimiter_88 : decode cX14_delimiter 88 = .ok (.invokevirtual 280, 3) := by decide +kernel
theorem dX14_delimiter_91 : decode cX14_delimiter 91 = .ok (.iload_n 1, 1) := by decide +kernel
theorem dX14_delimiter_92 : decode cX14_delimiter 92 = .ok (.ireturn, 1) := by decide +kernel
theorem dX14_delimiter_48 : decode cX14_delimiter 48 = .ok (.iload_n 1, 1) := by decide +kernel
theorem dX14_delimiter_49 : decode cX14_delimiter 49 = .ok (.invokestatic 287, 3) := by decide +kernel
theorem dX14_delimiter_52 : decode cX14_delimiter 52 = .ok (.ifCond .ne 20, 3) := by decide +kernel
theorem dX14_delimiter_55 : decode cX14_delimiter 55 = .ok (.iload_n 1, 1) := by decide +kernel
theorem dX14_delimiter_56 : decode cX14_delimiter 56 = .ok (.invokestatic 270, 3) := by decide +kernel
theorem dX14_delimiter_59 : decode cX14_delimiter 59 = .ok (.ifCond .ne 13, 3) := by decide +kernel
theorem dX14_delimiter_62 : decode cX14_delimiter 62 = .ok (.ldc_w 428, 3) := by decide +kernel
theorem dX14_delimiter_65 : decode cX14_delimiter 65 = .ok (.iload_n 1, 1) := by decide +kernel
theorem dX14_delimiter_66 : decode cX14_delimiter 66 = .ok (.invokevirtual 430, 3) := by decide +kernel
theorem dX14_delimiter_69 : decode cX14_delimiter 69 = .ok (.ifCond .lt 7, 3) := by decide +kernel
theorem dX14_delimiter_76 : decode cX14_delimiter 76 = .ok (.iconst 0, 1) := by decide +kernel
theorem dX14_delimiter_26 : decode cX14_delimiter 26 = .ok (.aload_n 0, 1) := by decide +kernel
theorem dX14_delimiter_27 : decode cX14_delimiter 27 = .ok (.getfield 263, 3) := by decide +kernel
theorem dX14_delimiter_30 : decode cX14_delimiter 30 = .ok (.aload_n 0, 1) := by decide +kernel
theorem dX14_delimiter_31 : decode cX14_delimiter 31 = .ok (.getfield 341, 3) := by decide +kernel
theorem dX14_delimiter_34 : decode cX14_delimiter 34 = .ok (.baload, 1) := by decide +kernel
theorem dX14_delimiter_35 : decode cX14_delimiter 35 = .ok (.goto 5, 3) := by decide +kernel
theorem dX14_delimiter_11 : decode cX14_delimiter 11 = .ok (.iconst 0, 1) := by decide +kernel
theorem dX14_delimiter_12 : decode cX14_delimiter 12 = .ok (.ireturn, 1) := by decide +kernel
theorem dX14_packed_0 : decode cX14_packed 0 = .ok (.iload_n 1, 1) := by decide +kernel
theorem dX14_packed_1 : decode cX14_packed 1 = .ok (.istore_n 3, 1) := by decide +kernel
theorem dX14_packed_2 : decode cX14_packed 2 = .ok (.iload_n 3, 1) := by decide +kernel
theorem dX14_packed_3 : decode cX14_packed 3 = .ok (.iload_n 2, 1) := by decide +kernel
theorem dX14_packed_4 : decode cX14_packed 4 = .ok (.if_icmp .ge 67, 3) := by decide +kernel
theorem dX14_packed_71 : decode cX14_packed 71 = .ok (.return_, 1) := by decide +kernel
theorem dX14_packed_7 : decode cX14_packed 7 = .ok (.aload_n 0, 1) := by decide +kernel
theorem dX14_packed_8 : decode cX14_packed 8 = .ok (.getfield 263, 3) := by decide +kernel
theorem dX14_packed_11 : decode cX14_packed 11 = .ok (.iload_n 3, 1) := by decide +kernel
theorem dX14_packed_12 : decode cX14_packed 12 = .ok (.baload, 1) := by decide +kernel
theorem dX14_packed_13 : decode cX14_packed 13 = .ok (.bipush 10, 2) := by decide +kernel
theorem dX14_packed_15 : decode cX14_packed 15 = .ok (.if_icmp .ne 39, 3) := by decide +kernel
theorem dX14_packed_54 : decode cX14_packed 54 = .ok (.aload_n 0, 1) := by decide +kernel
theorem dX14_packed_55 : decode cX14_packed 55 = .ok (.aload_n 0, 1) := by decide +kernel
theorem dX14_packed_56 : decode cX14_packed 56 = .ok (.getfield 263, 3) := by decide +kernel
theorem dX14_packed_59 : decode cX14_packed 59 = .ok (.iload_n 3, 1) := by decide +kernel
theorem dX14_packed_60 : decode cX14_packed 60 = .ok (.baload, 1) := by decide +kernel
theorem dX14_packed_61 : decode cX14_packed 61 = .ok (.iload_n 3, 1) := by decide +kernel
theorem dX14_packed_62 : decode cX14_packed 62 = .ok (.invokevirtual 545, 3) := by decide +kernel
theorem dX14_packed_65 : decode cX14_packed 65 = .ok (.iinc 3 1, 3) := by decide +kernel
theorem dX14_packed_68 : decode cX14_packed 68 = .ok (.goto (-66), 3) := by decide +kernel
theorem dX14_packed_18 : decode cX14_packed 18 = .ok (.iinc 3 1, 3) := by decide +kernel
theorem dX14_packed_21 : decode cX14_packed 21 = .ok (.iload_n 3, 1) := by decide +kernel
theorem dX14_packed_22 : decode cX14_packed 22 = .ok (.iload_n 2, 1) := by decide +kernel
theorem dX14_packed_23 : decode cX14_packed 23 = .ok (.if_icmp .ge (-21), 3) := by decide +kernel
theorem dX14_packed_26 : decode cX14_packed 26 = .ok (.aload_n 0, 1) := by decide +kernel
theorem dX14_packed_27 : decode cX14_packed 27 = .ok (.getfield 263, 3) := by decide +kernel
theorem dX14_packed_30 : decode cX14_packed 30 = .ok (.iload_n 3, 1) := by decide +kernel
theorem dX14_packed_31 : decode cX14_packed 31 = .ok (.baload, 1) := by decide +kernel
theorem dX14_packed_32 : decode cX14_packed 32 = .ok (.bipush 32, 2) := by decide +kernel
theorem dX14_packed_34 : decode cX14_packed 34 = .ok (.if_icmp .eq 14, 3) := by decide +kernel
theorem dX14_packed_48 : decode cX14_packed 48 = .ok (.iinc 3 1, 3) := by decide +kernel
theorem dX14_packed_51 : decode cX14_packed 51 = .ok (.goto (-30), 3) := by decide +kernel
theorem dX14_packed_37 : decode cX14_packed 37 = .ok (.aload_n 0, 1) := by decide +kernel
theorem dX14_packed_38 : decode cX14_packed 38 = .ok (.getfield 263, 3) := by decide +kernel
theorem dX14_packed_41 : decode cX14_packed 41 = .ok (.iload_n 3, 1) := by decide +kernel
theorem dX14_packed_42 : decode cX14_packed 42 = .ok (.baload, 1) := by decide +kernel
theorem dX14_packed_43 : decode cX14_packed 43 = .ok (.bipush 9, 2) := by decide +kernel
theorem dX14_packed_45 : decode cX14_packed 45 = .ok (.if_icmp .ne (-43), 3) := by decide +kernel
theorem dX13_own_0 : decode cX13_own 0 = .ok (.bipush 40, 2) := by decide +kernel
theorem dX13_own_2 : decode cX13_own 2 = .ok (.iload_n 1, 1) := by decide +kernel
theorem dX13_own_3 : decode cX13_own 3 = .ok (.imul, 1) := by decide +kernel
theorem dX13_own_4 : decode cX13_own 4 = .ok (.istore 4, 2) := by decide +kernel
theorem dX13_own_6 : decode cX13_own 6 = .ok (.iload 4, 2) := by decide +kernel
theorem dX13_own_8 : decode cX13_own 8 = .ok (.bipush 40, 2) := by decide +kernel
theorem dX13_own_10 : decode cX13_own 10 = .ok (.iload_n 1, 1) := by decide +kernel
theorem dX13_own_11 : decode cX13_own 11 = .ok (.imul, 1) := by decide +kernel
theorem dX13_own_12 : decode cX13_own 12 = .ok (.aload_n 0, 1) := by decide +kernel
theorem dX13_own_13 : decode cX13_own 13 = .ok (.getfield 72, 3) := by decide +kernel
theorem dX13_own_16 : decode cX13_own 16 = .ok (.iload_n 1, 1) := by decide +kernel
theorem dX13_own_17 : decode cX13_own 17 = .ok (.iaload, 1) := by decide +kernel
theorem dX13_own_18 : decode cX13_own 18 = .ok (.iadd, 1) := by decide +kernel
theorem dX13_own_19 : decode cX13_own 19 = .ok (.if_icmp .ge 54, 3) := by decide +kernel
theorem dX13_own_73 : decode cX13_own 73 = .ok (.iconst (-1), 1) := by decide +kernel
theorem dX13_own_74 : decode cX13_own 74 = .ok (.ireturn, 1) := by decide +kernel
theorem dX13_own_22 : decode cX13_own 22 = .ok (.aload_n 0, 1) := by decide +kernel
theorem dX13_own_23 : decode cX13_own 23 = .ok (.getfield 45, 3) := by decide +kernel
theorem dX13_own_26 : decode cX13_own 26 = .ok (.iload 4, 2) := by decide +kernel
theorem dX13_own_28 : decode cX13_own 28 = .ok (.iaload, 1) := by decide +kernel
theorem dX13_own_29 : decode cX13_own 29 = .ok (.iconst 1, 1) := by decide +kernel
theorem dX13_own_30 : decode cX13_own 30 = .ok (.if_icmp .eq 37, 3) := by decide +kernel
theorem dX13_own_67 : decode cX13_own 67 = .ok (.iinc 4 1, 3) := by decide +kernel
theorem dX13_own_70 : decode cX13_own 70 = .ok (.goto (-64), 3) := by decide +kernel
theorem dX13_own_33 : decode cX13_own 33 = .ok (.aload_n 0, 1) := by decide +kernel
theorem dX13_own_34 : decode cX13_own 34 = .ok (.getfield 48, 3) := by decide +kernel
theorem dX13_own_37 : decode cX13_own 37 = .ok (.iload 4, 2) := by decide +kernel
theorem dX13_own_39 : decode cX13_own 39 = .ok (.iaload, 1) := by decide +kernel
theorem dX13_own_40 : decode cX13_own 40 = .ok (.iload_n 2, 1) := by decide +kernel
theorem dX13_own_41 : decode cX13_own 41 = .ok (.if_icmp .ne 26, 3) := by decide +kernel
theorem dX13_own_44 : decode cX13_own 44 = .ok (.aload_n 0, 1) := by decide +kernel
theorem dX13_own_45 : decode cX13_own 45 = .ok (.getfield 45, 3) := by decide +kernel
theorem dX13_own_48 : decode cX13_own 48 = .ok (.iload 4, 2) := by decide +kernel
theorem dX13_own_50 : decode cX13_own 50 = .ok (.iaload, 1) := by decide +kernel
theorem dX13_own_51 : decode cX13_own 51 = .ok (.iconst 3, 1) := by decide +kernel
theorem dX13_own_52 : decode cX13_own 52 = .ok (.if_icmp .ne 7, 3) := by decide +kernel
theorem dX13_own_59 : decode cX13_own 59 = .ok (.iconst 0, 1) := by decide +kernel
theorem dX13_own_60 : decode cX13_own 60 = .ok (.iload_n 3, 1) := by decide +kernel
theorem dX13_own_61 : decode cX13_own 61 = .ok (.if_icmp .ne 6, 3) := by decide +kernel
theorem dX13_own_64 : decode cX13_own 64 = .ok (.iload 4, 2) := by decide +kernel
theorem dX13_own_66 : decode cX13_own 66 = .ok (.ireturn, 1) := by decide +kernel
theorem dX13_own_55 : decode cX13_own 55 = .ok (.iconst 1, 1) := by decide +kernel
theorem dX13_own_56 : decode cX13_own 56 = .ok (.goto 4, 3) := by decide +kernel
theorem dX13_isOwn_0 : decode cX13_isOwn 0 = .ok (.aload_n 0, 1) := by decide +kernel
theorem dX13_isOwn_1 : decode cX13_isOwn 1 = .ok (.iload_n 1, 1) := by decide +kernel
theorem dX13_isOwn_2 : decode cX13_isOwn 2 = .ok (.iload_n 2, 1) := by decide +kernel
theorem dX13_isOwn_3 : decode cX13_isOwn 3 = .ok (.iconst 0, 1) := by decide +kernel
theorem dX13_isOwn_4 : decode cX13_isOwn 4 = .ok (.invokevirtual 135, 3) := by decide +kernel
theorem dX13_isOwn_7 : decode cX13_isOwn 7 = .ok (.ifCond .ge 13, 3) := by decide +kernel
theorem dX13_isOwn_20 : decode cX13_isOwn 20 = .ok (.iconst 1, 1) := by decide +kernel
theorem dX13_isOwn_21 : decode cX13_isOwn 21 = .ok (.goto 4, 3) := by decide +kernel
theorem dX13_isOwn_25 : decode cX13_isOwn 25 = .ok (.ireturn, 1) := by decide +kernel
theorem dX13_isOwn_10 : decode cX13_isOwn 10 = .ok (.aload_n 0, 1) := by decide +kernel
theorem dX13_isOwn_11 : decode cX13_isOwn 11 = .ok (.iload_n 1, 1) := by decide +kernel
theorem dX13_isOwn_12 : decode cX13_isOwn 12 = .ok (.iload_n 2, 1) := by decide +kernel
theorem dX13_isOwn_13 : decode cX13_isOwn 13 = .ok (.iconst 1, 1) := by decide +kernel
theorem dX13_isOwn_14 : decode cX13_isOwn 14 = .ok (.invokevirtual 135, 3) := by decide +kernel
theorem dX13_isOwn_17 : decode cX13_isOwn 17 = .ok (.ifCond .lt 7, 3) := by decide +kernel
theorem dX13_isOwn_24 : decode cX13_isOwn 24 = .ok (.iconst 0, 1) := by decide +kernel
theorem dX13_partOf_0 : decode cX13_partOf 0 = .ok (.iconst 0, 1) := by decide +kernel
theorem dX13_partOf_1 : decode cX13_partOf 1 = .ok (.istore_n 3, 1) := by decide +kernel
theorem dX13_partOf_2 : decode cX13_partOf 2 = .ok (.iload_n 3, 1) := by decide +kernel
theorem dX13_partOf_3 : decode cX13_partOf 3 = .ok (.aload_n 0, 1) := by decide +kernel
theorem dX13_partOf_4 : decode cX13_partOf 4 = .ok (.getfield 122, 3) := by decide +kernel
theorem dX13_partOf_7 : decode cX13_partOf 7 = .ok (.if_icmp .ge 36, 3) := by decide +kernel
theorem dX13_partOf_43 : decode cX13_partOf 43 = .ok (.iconst (-1), 1) := by decide +kernel
theorem dX13_partOf_44 : decode cX13_partOf 44 = .ok (.ireturn, 1) := by decide +kernel
theorem dX13_partOf_10 : decode cX13_partOf 10 = .ok (.aload_n 0, 1) := by decide +kernel
theorem dX13_partOf_11 : decode cX13_partOf 11 = .ok (.getfield 85, 3) := by decide +kernel
theorem dX13_partOf_14 : decode cX13_partOf 14 = .ok (.iload_n 3, 1) := by decide +kernel
theorem dX13_partOf_15 : decode cX13_partOf 15 = .ok (.iaload, 1) := by decide +kernel
theorem dX13_partOf_16 : decode cX13_partOf 16 = .ok (.iload_n 1, 1) := by decide +kernel
theorem dX13_partOf_17 : decode cX13_partOf 17 = .ok (.if_icmp .ne 20, 3) := by decide +kernel
theorem dX13_partOf_37 : decode cX13_partOf 37 = .ok (.iinc 3 1, 3) := by decide +kernel
theorem dX13_partOf_40 : decode cX13_partOf 40 = .ok (.goto (-38), 3) := by decide +kernel
theorem dX13_partOf_20 : decode cX13_partOf 20 = .ok (.aload_n 0, 1) := by decide +kernel
theorem dX13_partOf_21 : decode cX13_partOf 21 = .ok (.getfield 88, 3) := by decide +kernel
theorem dX13_partOf_24 : decode cX13_partOf 24 = .ok (.iload_n 3, 1) := by decide +kernel
theorem dX13_partOf_25 : decode cX13_partOf 25 = .ok (.iaload, 1) := by decide +kernel
theorem dX13_partOf_26 : decode cX13_partOf 26 = .ok (.iload_n 2, 1) := by decide +kernel
theorem dX13_partOf_27 : decode cX13_partOf 27 = .ok (.if_icmp .ne 10, 3) := by decide +kernel
theorem dX13_partOf_30 : decode cX13_partOf 30 = .ok (.aload_n 0, 1) := by decide +kernel
theorem dX13_partOf_31 : decode cX13_partOf 31 = .ok (.getfield 91, 3) := by decide +kernel
theorem dX13_partOf_34 : decode cX13_partOf 34 = .ok (.iload_n 3, 1) := by decide +kernel
theorem dX13_partOf_35 : decode cX13_partOf 35 = .ok (.iaload, 1) := by decide +kernel
theorem dX13_partOf_36 : decode cX13_partOf 36 = .ok (.ireturn, 1) := by decide +kernel
theorem dX14_readString_0 : decode cX14_readString 0 = .ok (.aload_n 0, 1) := by decide +kernel
theorem dX14_readString_1 : decode cX14_readString 1 = .ok (.invokevirtual 572, 3) := by decide +kernel
theorem dX14_readString_4 : decode cX14_readString 4 = .ok (.istore_n 2, 1) := by decide +kernel
theorem dX14_readString_5 : decode cX14_readString 5 = .ok (.aload_n 0, 1) := by decide +kernel
theorem dX14_readString_6 : decode cX14_readString 6 = .ok (.getfield 548, 3) := by decide +kernel
theorem dX14_readString_9 : decode cX14_readString 9 = .ok (.iconst 1, 1) := by decide +kernel
theorem dX14_readString_10 : decode cX14_readString 10 = .ok (.iadd, 1) := by decide +kernel
theorem dX14_readString_11 : decode cX14_readString 11 = .ok (.istore_n 3, 1) := by decide +kernel
theorem dX14_readString_12 : decode cX14_readString 12 = .ok (.iload_n 3, 1) := by decide +kernel
theorem dX14_readString_13 : decode cX14_readString 13 = .ok (.aload_n 0, 1) := by decide +kernel
theorem dX14_readString_14 : decode cX14_readString 14 = .ok (.getfield 533, 3) := by decide +kernel
theorem dX14_readString_17 : decode cX14_readString 17 = .ok (.if_icmp .ge 30, 3) := by decide +kernel
theorem dX14_readString_47 : decode cX14_readString 47 = .ok (.iload_n 3, 1) := by decide +kernel
theorem dX14_readString_48 : decode cX14_readString 48 = .ok (.aload_n 0, 1) := by decide +kernel
theorem dX14_readString_49 : decode cX14_readString 49 = .ok (.getfield 533, 3) := by decide +kernel
theorem dX14_readString_52 : decode cX14_readString 52 = .ok (.if_icmp .ge 14, 3) := by decide +kernel
theorem dX14_readString_66 : decode cX14_readString 66 = .ok (.aload_n 0, 1) := by decide +kernel
theorem dX14_readString_67 : decode cX14_readString 67 = .ok (.iconst 1, 1) := by decide +kernel
theorem dX14_readString_68 : decode cX14_readString 68 = .ok (.iload_n 3, 1) := by decide +kernel
theorem dX14_readString_69 : decode cX14_readString 69 = .ok (.aload_n 0, 1) := by decide +kernel
theorem dX14_readString_70 : decode cX14_readString 70 = .ok (.getfield 533, 3) := by decide +kernel
theorem dX14_readString_73 : decode cX14_readString 73 = .ok (.if_icmp .ge 12, 3) := by decide +kernel
theorem dX14_readString_85 : decode cX14_readString 85 = .ok (.aload_n 0, 1) := by decide +kernel
theorem dX14_readString_86 : decode cX14_readString 86 = .ok (.getfield 536, 3) := by decide +kernel
theorem dX14_readString_89 : decode cX14_readString 89 = .ok (.invokevirtual 280, 3) := by decide +kernel
theorem dX14_readString_92 : decode cX14_readString 92 = .ok (.iconst 0, 1) := by decide +kernel
theorem dX14_readString_93 : decode cX14_readString 93 = .ok (.ireturn, 1) := by decide +kernel
theorem dX14_readString_76 : decode cX14_readString 76 = .ok (.aload_n 0, 1) := by decide +kernel
theorem dX14_readString_77 : decode cX14_readString 77 = .ok (.getfield 39, 3) := by decide +kernel
theorem dX14_readString_80 : decode cX14_readString 80 = .ok (.iload_n 3, 1) := by decide +kernel
theorem dX14_readString_81 : decode cX14_readString 81 = .ok (.iaload, 1) := by decide +kernel
theorem dX14_readString_82 : decode cX14_readString 82 = .ok (.goto 7, 3) := by decide +kernel
theorem dX14_readString_55 : decode cX14_readString 55 = .ok (.aload_n 0, 1) := by decide +kernel
theorem dX14_readString_56 : decode cX14_readString 56 = .ok (.getfield 36, 3) := by decide +kernel
theorem dX14_readString_59 : decode cX14_readString 59 = .ok (.iload_n 3, 1) := by decide +kernel
theorem dX14_readString_60 : decode cX14_readString 60 = .ok (.baload, 1) := by decide +kernel
theorem dX14_readString_61 : decode cX14_readString 61 = .ok (.bipush 10, 2) := by decide +kernel
theorem dX14_readString_63 : decode cX14_readString 63 = .ok (.if_icmp .ne 31, 3) := by decide +kernel
theorem dX14_readString_94 : decode cX14_readString 94 = .ok (.aload_n 0, 1) := by decide +kernel
theorem dX14_readString_95 : decode cX14_readString 95 = .ok (.aload_n 0, 1) := by decide +kernel
theorem dX14_readString_96 : decode cX14_readString 96 = .ok (.getfield 36, 3) := by decide +kernel
theorem dX14_readString_99 : decode cX14_readString 99 = .ok (.aload_n 0, 1) := by decide +kernel
theorem dX14_readString_100 : decode cX14_readString 100 = .ok (.getfield 548, 3) := by decide +kernel
theorem dX14_readString_103 : decode cX14_readString 103 = .ok (.iconst 1, 1) := by decide +kernel
theorem dX14_readString_104 : decode cX14_readString 104 = .ok (.iadd, 1) := by decide +kernel
theorem dX14_readString_105 : decode cX14_readString 105 = .ok (.iload_n 3, 1) := by decide +kernel
theorem dX14_readString_106 : decode cX14_readString 106 = .ok (.iload_n 2, 1) := by decide +kernel
theorem dX14_readString_107 : decode cX14_readString 107 = .ok (.invokevirtual 516, 3) := by decide +kernel
theorem dX14_readString_110 : decode cX14_readString 110 = .ok (.istore 4, 2) := by decide +kernel
theorem dX14_readString_112 : decode cX14_readString 112 = .ok (.aload_n 0, 1) := by decide +kernel
theorem dX14_readString_113 : decode cX14_readString 113 = .ok (.iload_n 3, 1) := by decide +kernel
theorem dX14_readString_114 : decode cX14_readString 114 = .ok (.iconst 1, 1) := by decide +kernel
theorem dX14_readString_115 : decode cX14_readString 115 = .ok (.iadd, 1) := by decide +kernel
theorem dX14_readString_116 : decode cX14_readString 116 = .ok (.putfield 548, 3) := by decide +kernel
theorem dX14_readString_119 : decode cX14_readString 119 = .ok (.iload 4, 2) := by decide +kernel
theorem dX14_readString_121 : decode cX14_readString 121 = .ok (.ireturn, 1) := by decide +kernel
theorem dX14_readString_20 : decode cX14_readString 20 = .ok (.aload_n 0, 1) := by decide +kernel
theorem dX14_readString_21 : decode cX14_readString 21 = .ok (.getfield 36, 3) := by decide +kernel
theorem dX14_readString_24 : decode cX14_readString 24 = .ok (.iload_n 3, 1) := by decide +kernel
theorem dX14_readString_25 : decode cX14_readString 25 = .ok (.baload, 1) := by decide +kernel
theorem dX14_readString_26 : decode cX14_readString 26 = .ok (.iload_n 1, 1) := by decide +kernel
theorem dX14_readString_27 : decode cX14_readString 27 = .ok (.if_icmp .eq 20, 3) := by decide +kernel
theorem dX14_readString_30 : decode cX14_readString 30 = .ok (.aload_n 0, 1) := by decide +kernel
theorem dX14_readString_31 : decode cX14_readString 31 = .ok (.getfield 36, 3) := by decide +kernel
theorem dX14_readString_34 : decode cX14_readString 34 = .ok (.iload_n 3, 1) := by decide +kernel
theorem dX14_readString_35 : decode cX14_readString 35 = .ok (.baload, 1) := by decide +kernel
theorem dX14_readString_36 : decode cX14_readString 36 = .ok (.bipush 10, 2) := by decide +kernel
theorem dX14_readString_38 : decode cX14_readString 38 = .ok (.if_icmp .eq 9, 3) := by decide +kernel
theorem dX14_readString_41 : decode cX14_readString 41 = .ok (.iinc 3 1, 3) := by decide +kernel
theorem dX14_readString_44 : decode cX14_readString 44 = .ok (.goto (-32), 3) := by decide +kernel
def pre_X14_dots (σ : rS) (x1 : Int) : Prop := 0 ≤ (rF σ 0 29) ∧ (rF σ 0 29) ≤ (rF σ 0 28) + 3 ∧ ((rF σ 0 10) = 0 → (rF σ 0 29) ≤ (rF σ 0 28)) ∧ 0 ≤ (rF σ 0 28) ∧ (rF σ 0 28) ≤ 4001 ∧ TPRp σ ∧ (rF σ 0 29) + 2 < (rF σ 0 28) ∧ rgk (rR σ 7) ∧ 0 ≤ x1 ∧ x1 < 50000
def post_X14_dots (σ : rS) (x1 : Int) (σ' : rS) : Prop := (rF σ 0 29) ≤ (rF σ' 0 29) ∧ (rF σ' 0 29) ≤ (rF σ 0 28) + 3 ∧ ((rF σ' 0 10) = 0 → (rF σ' 0 29) ≤ (rF σ 0 28)) ∧ ((rF σ 0 10) ≠ 0 → (rF σ' 0 10) = (rF σ 0 10))
def VC_X14_dots (σ : rS) (x1 : Int) (Q : rS → Prop) : Prop := rgk (rR σ 7) ∧ (rng (rF σ 0 29) → rng ((rF σ 0 29) + 3) ∧ (0 ≤ x1 ∧ x1 < 50000) ∧ pre_X14_need (sA (sF σ 0 29 ((rF σ 0 29) + 3)) (1000 * ((rR σ 7) + 1) + 3) x1 1) 41 ∧ (∀ (s15 : rS), rWF s15 → (TPRp (sA (sF σ 0 29 ((rF σ 0 29) + 3)) (1000 * ((rR σ 7) + 1) + 3) x1 1) → TPRp s15) → rR s15 7 = rR (sA (sF σ 0 29 ((rF σ 0 29) + 3)) (1000 * ((rR σ 7) + 1) + 3) x1 1) 7 → rF s15 0 28 = rF (sA (sF σ 0 29 ((rF σ 0 29) + 3)) (1000 * ((rR σ 7) + 1) + 3) x1 1) 0 28 → post_X14_need (sA (sF σ 0 29 ((rF σ 0 29) + 3)) (1000 * ((rR σ 7) + 1) + 3) x1 1) 41 s15 → Q s15))
set_option maxHeartbeats 400000 in
theorem vX14_dots (σ : rS) (x1 : Int) (hwf : rWF σ) (hx1 : rng x1) (hp : pre_X14_dots σ x1) : VC_X14_dots σ x1 (post_X14_dots σ x1) := by
  simp only [VC_X14_dots, pre_X14_dots, post_X14_dots, pre_X14_need, post_X14_need, rng, rfk, rNMp, rF_sF, rF_sA, rF_sL, rF_sR, rA_sA, rA_sF, rA_sL, rA_sR, rR_sF, rR_sA, rR_sL, rR_sR, reduceIte, and_true, true_and, and_false, false_and, and_self, TPRp_sL, TPRp_sF0, TPRp_sF3, TPRp_sF10, TPRp_sF11, TPRp_sF12, TPRp_sF13, TPRp_sF14, TPRp_sF16, TPRp_sF17, TPRp_sF18, TPRp_sF19, TPRp_sF21, TPRp_sF22, TPRp_sF23, TPRp_sF24, TPRp_sF25, TPRp_sF29, TPRp_sF31, TPRp_sF32, TPRp_sF33, TPRp_sF38, TPRp_sF39, TPRp_sF41, TPRp_sF42, TPRp_sF43, TPRp_sF44, TPRp_sF45, TPRp_sF60, TPRp_sF65, TPRp_sF66, TPRp_sF67, TPRp_sF68, TPRp_sF70, TPRp_sF71, TPRp_sF72, TPRp_sF73, TPRp_sF74, TPRp_sF80, TPRp_sF81, TPRp_sF82, TPRp_sF83, TPRp_sF88, TPRp_sF92, TPRp_sF94, TPRp_sF96, TPRp_sF97, TPRp_sF98, TPRp_sF99, TPRp_sF100, TPRp_sF101, TPRp_sF103, TPRp_sF104, TPRp_sF112, TPRp_sF113, TPRp_sF118, TPRp_sF119, TPRp_sF122, TPRp_sF123, TPRp_sF135, TPRp_sF137, TPRp_sA1, TPRp_sA2, TPRp_sA5, TPRp_sA20, TPRp_sA26, TPRp_sA34, TPRp_sA35, TPRp_sA36, TPRp_sA37, TPRp_sA40, TPRp_sA46, TPRp_sA47, TPRp_sA48, TPRp_sA49, TPRp_sA50, TPRp_sA51, TPRp_sA52, TPRp_sA53, TPRp_sA54, TPRp_sA55, TPRp_sA56, TPRp_sA57, TPRp_sA58, TPRp_sA59, TPRp_sA61, TPRp_sA62, TPRp_sA63, TPRp_sA64, TPRp_sA69, TPRp_sA75, TPRp_sA76, TPRp_sA77, TPRp_sA78, TPRp_sA79, TPRp_sA84, TPRp_sA85, TPRp_sA86, TPRp_sA87, TPRp_sA89, TPRp_sA90, TPRp_sA91, TPRp_sA93, TPRp_sA102, TPRp_sA105, TPRp_sA106, TPRp_sA107, TPRp_sA108, TPRp_sA109, TPRp_sA110, TPRp_sA111, TPRp_sA114, TPRp_sA115, TPRp_sA116, TPRp_sA117, TPRp_sA120, TPRp_sA121, TPRp_sA124, TPRp_sA125, TPRp_sA126, TPRp_sA127, TPRp_sA128, TPRp_sA129, TPRp_sA136, TPRp_sA138, TPRp_gA0, TPRp_gA1, TPRp_gA2, TPRp_gA3, TPRp_gA4, TPRp_gA5, TPRp_gA6, TPRp_gA8, TPRp_gA10, TPRp_gA11, TPRp_gA15, TPRp_gA16, TPRp_gA17, TPRp_gA18, TPRp_gA19, TPRp_gA20, TPRp_gA21, TPRp_gA22, TPRp_gA23, TPRp_gA24, TPRp_gA25, TPRp_gA26, TPRp_gA29, TPRp_gA30, TPRp_gA31, TPRp_gA33, TPRp_gA34, TPRp_gA35, TPRp_gA36, TPRp_gA37, TPRp_sF7, TPRp_sF9] at *
  (repeat' (first | with_reducible intro _ | with_reducible apply And.intro))
  all_goals (first | assumption | omega | grind (splits := 20) [rNM_sF0])
theorem wX14_dots (l : Launch) (G : zG) (κ : Nat → Nat) (σ : rS) (x1 : Int) (hwf : rWF σ) (hx1 : rng x1) (Q : rS → Prop) (h : VC_X14_dots σ x1 Q) : rMv l G κ yX14_dots cX14_dots 2 4 61 [.ref (κ 0), iv x1] σ (fun s => rKeep 0x20001c00 0 0 0x8 0 σ s ∧ Q s) := by
  refine zMv.intro (by decide +kernel) (Nat.le_of_ble_eq_true rfl) (fun X hC hR => ?_)
  obtain ⟨g0, h⟩ := h
  refine z_aload_n hC (pc := 0) 0 dX14_dots_0 rfl rfl ?_
  refine z_dup hC (pc := 1) dX14_dots_1 rfl ?_
  refine y_get hC (pc := 2) zf14 rOb_0 29 (v := iv (rF σ 0 29)) dX14_dots_2 zw2496 (rv_i (Or.inl rfl) rfl) (kk := ?_)
  have h := h (hwf.f _ _)
  refine z_iconst hC (pc := 5) (v := Int32.ofInt 3) dX14_dots_5 (by decide) ?_
  refine y_iadd hC (pc := 6) (v := ((rF σ 0 29) + 3)) dX14_dots_6 rfl ?_
  obtain ⟨r10, h⟩ := h
  refine y_putI hC (pc := 7) zf14 rOb_0 29 (x := ((rF σ 0 29) + 3)) dX14_dots_7 zw2496 (Or.inl rfl) rfl rfl (kk := ?_)
  have W11 := hwf.sF (q := 0) (f := 29) (x := ((rF σ 0 29) + 3)) r10
  refine z_aload_n hC (pc := 10) 0 dX14_dots_10 rfl rfl ?_
  refine y_get hC (pc := 11) zf14 rOb_0 7 (v := .ref (κ (rR σ 7))) dX14_dots_11 zw2475 (rv_g rfl rfl g0) (kk := ?_)
  refine y_getN hC (pc := 14) zf13 (rOb_k g0) 3 (v := .ref (κ (1000 * ((rR σ 7) + 1) + 3))) dX14_dots_14 zw2316 (rv_c rfl) (kk := ?_)
  refine z_iload_n hC (pc := 17) 1 dX14_dots_17 rfl rfl ?_
  refine z_iconst hC (pc := 18) (v := Int32.ofInt 1) dX14_dots_18 (by decide) ?_
  obtain ⟨b12, h⟩ := h
  refine y_iast hC (pc := 19) (rAr_k g0 rfl rfl) dX14_dots_19 b12 (v := 1) (kk := ?_)
  have W13 := W11.sA (p := (1000 * ((rR σ 7) + 1) + 3)) (i := x1) (x := 1) (r_lit rfl)
  refine z_aload_n hC (pc := 20) 0 dX14_dots_20 rfl rfl ?_
  refine z_bipush hC (pc := 21) (v := Int32.ofInt 41) dX14_dots_21 (by decide) ?_
  obtain ⟨p14, h⟩ := h
  refine y_callVv hC (pc := 23) (As := [iv 41]) (kX14_need l G κ (sA (sF σ 0 29 ((rF σ 0 29) + 3)) (1000 * ((rR σ 7) + 1) + 3) x1 1) 41 W13 (r_lit rfl) p14) dmX14_need zf14 rOb_0 dX14_dots_23 zw3136 rfl rfl (Nat.le_of_ble_eq_true rfl) (Nat.le_of_ble_eq_true rfl) (Nat.le_of_ble_eq_true rfl) (Nat.le_of_ble_eq_true rfl) (Nat.le_of_ble_eq_true rfl) (kk := fun s15 Ws15 qs15 => ?_)
  have h := h s15 Ws15 (TPRp.keep qs15.1 rfl rfl rfl) (qs15.1.R rfl) (qs15.1.F rfl) qs15.2
  exact y_retv hR dX14_dots_26 Ws15 (Nat.le_of_ble_eq_true rfl) (Nat.le_of_ble_eq_true rfl) ⟨(rKeep.tr (rKeep.tr (rKeep.tr rKeep.rf (rKeep.sF0 (f := 29)) rfl rfl rfl rfl rfl) (rKeep.sAk (f := 3) g0 (by decide)) rfl rfl rfl rfl rfl) qs15.1 rfl rfl rfl rfl rfl), h⟩
theorem kX14_dots (l : Launch) (G : zG) (κ : Nat → Nat) (σ : rS) (x1 : Int) (hwf : rWF σ) (hx1 : rng x1) (hp : pre_X14_dots σ x1) : rMv l G κ yX14_dots cX14_dots 2 4 61 [.ref (κ 0), iv x1] σ (fun s => rKeep 0x20001c00 0 0 0x8 0 σ s ∧ post_X14_dots σ x1 s) := wX14_dots l G κ σ x1 hwf hx1 (post_X14_dots σ x1) (vX14_dots σ x1 hwf hx1 hp) 
def pre_X14_keepString (σ : rS) (p1 n1 : Nat) (x2 : Int) (x3 : Int) (x4 : Int) : Prop := rgk (rR σ 7) ∧ 0 ≤ x2 ∧ x2 ≤ x3 ∧ x3 ≤ n1 ∧ n1 ≤ 100000 ∧ 0 ≤ (rF σ (rR σ 7) 9) ∧ (rF σ (rR σ 7) 9) + (x3 - x2) ≤ 60000 ∧ 0 ≤ (rF σ (rR σ 7) 7) ∧ (rF σ (rR σ 7) 7) < 50000 ∧ 0 ≤ x4 ∧ x4 ≤ 100000 ∧ 0 ≤ (rF σ 0 14) ∧ (rF σ 0 14) ≤ 7
def post_X14_keepString (σ : rS) (p1 n1 : Nat) (x2 : Int) (x3 : Int) (x4 : Int) (r : Int) (σ' : rS) : Prop := r = (rF σ (rR σ 7) 7) ∧ rF σ' (rR σ 7) 7 = (rF σ (rR σ 7) 7) + 1 ∧ (rF σ (rR σ 7) 9) ≤ rF σ' (rR σ 7) 9 ∧ rF σ' (rR σ 7) 9 ≤ (rF σ (rR σ 7) 9) + (x3 - x2)
def VC_X14_keepString (σ : rS) (p1 n1 : Nat) (x2 : Int) (x3 : Int) (x4 : Int) (Q : Int → rS → Prop) : Prop := rgk (rR σ 7) ∧ pre_X14_keep σ p1 n1 x2 x3 ∧ (∀ (s11 : rS), rWF s11 → rR s11 7 = rR σ 7 → rF s11 0 14 = rF σ 0 14 → rF s11 (rR σ 7) 7 = rF σ (rR σ 7) 7 → (∀ i, rA s11 (1000 * ((rR σ 7) + 1) + 0) i = rA σ (1000 * ((rR σ 7) + 1) + 0) i) → (∀ i, rA s11 (1000 * ((rR σ 7) + 1) + 1) i = rA σ (1000 * ((rR σ 7) + 1) + 1) i) → (∀ i, rA s11 (1000 * ((rR σ 7) + 1) + 2) i = rA σ (1000 * ((rR σ 7) + 1) + 2) i) → (∀ i, rA s11 (1000 * ((rR σ 7) + 1) + 3) i = rA σ (1000 * ((rR σ 7) + 1) + 3) i) → (∀ i, rA s11 (1000 * ((rR σ 7) + 1) + 4) i = rA σ (1000 * ((rR σ 7) + 1) + 4) i) → (∀ i, rA s11 (1000 * ((rR σ 7) + 1) + 5) i = rA σ (1000 * ((rR σ 7) + 1) + 5) i) → (∀ i, rA s11 (1000 * ((rR σ 7) + 1) + 6) i = rA σ (1000 * ((rR σ 7) + 1) + 6) i) → post_X14_keep σ p1 n1 x2 x3 s11 → (rng (rF s11 0 24) → (rng (rF s11 0 25) → pre_X14_node s11 30 (rF s11 0 24) (rF s11 0 25) x4 ∧ (∀ (x15 : Int) (s14 : rS), rng x15 → rWF s14 → rR s14 7 = rR s11 7 → rF s14 0 14 = rF s11 0 14 → rF s14 0 24 = rF s11 0 24 → rF s14 0 25 = rF s11 0 25 → rF s14 (rR σ 7) 9 = rF s11 (rR σ 7) 9 → post_X14_node s11 30 (rF s11 0 24) (rF s11 0 25) x4 x15 s14 → Q x15 s14))))
set_option maxHeartbeats 400000 in
theorem vX14_keepString (σ : rS) (p1 n1 : Nat) (x2 : Int) (x3 : Int) (x4 : Int) (hwf : rWF σ) (ha1 : rAr 3 n1 p1) (hx2 : rng x2) (hx3 : rng x3) (hx4 : rng x4) (hp : pre_X14_keepString σ p1 n1 x2 x3 x4) : VC_X14_keepString σ p1 n1 x2 x3 x4 (post_X14_keepString σ p1 n1 x2 x3 x4) := by
  simp only [VC_X14_keepString, pre_X14_keepString, post_X14_keepString, pre_X14_node, pre_X14_keep, post_X14_node, post_X14_keep, rng, rfk, rNMp, rF_sF, rF_sA, rF_sL, rF_sR, rA_sA, rA_sF, rA_sL, rA_sR, rR_sF, rR_sA, rR_sL, rR_sR, reduceIte, and_true, true_and, and_false, false_and, and_self] at *
  (repeat' (first | with_reducible intro _ | with_reducible apply And.intro))
  all_goals (first | assumption | omega | grind (splits := 20) [rNM_sF0])
theorem wX14_keepString (l : Launch) (G : zG) (κ : Nat → Nat) (σ : rS) (p1 n1 : Nat) (x2 : Int) (x3 : Int) (x4 : Int) (hwf : rWF σ) (ha1 : rAr 3 n1 p1) (hx2 : rng x2) (hx3 : rng x3) (hx4 : rng x4) (Q : Int → rS → Prop) (h : VC_X14_keepString σ p1 n1 x2 x3 x4 Q) : rMi l G κ yX14_keepString cX14_keepString 6 .int 2 25 [.ref (κ 0), .ref (κ p1), iv x2, iv x3, iv x4] σ (fun x s => rKeep 0x3000000 0x280 0 0x17f 0 σ s ∧ Q x s) := by
  refine zMi.intro (by decide +kernel) (Nat.le_of_ble_eq_true rfl) (fun X hC hR => ?_)
  obtain ⟨g0, h⟩ := h
  refine z_aload_n hC (pc := 0) 0 dX14_keepString_0 rfl rfl ?_
  refine z_aload_n hC (pc := 1) 1 dX14_keepString_1 rfl rfl ?_
  refine z_iload_n hC (pc := 2) 2 dX14_keepString_2 rfl rfl ?_
  refine z_iload_n hC (pc := 3) 3 dX14_keepString_3 rfl rfl ?_
  obtain ⟨p10, h⟩ := h
  refine y_callVv hC (pc := 4) (As := [.ref (κ p1), iv x2, iv x3]) (kX14_keep l G κ σ p1 n1 x2 x3 hwf ha1 hx2 hx3 p10) dmX14_keep zf14 rOb_0 dX14_keepString_4 zw3218 rfl rfl (Nat.le_of_ble_eq_true rfl) (Nat.le_of_ble_eq_true rfl) (Nat.le_of_ble_eq_true rfl) (Nat.le_of_ble_eq_true rfl) (Nat.le_of_ble_eq_true rfl) (kk := fun s11 Ws11 qs11 => ?_)
  have h := h s11 Ws11 (qs11.1.R rfl) (qs11.1.F rfl) (qs11.1.FG g0 rfl) (fun i => qs11.1.AG (f := 0) g0 (by decide) rfl) (fun i => qs11.1.AG (f := 1) g0 (by decide) rfl) (fun i => qs11.1.AG (f := 2) g0 (by decide) rfl) (fun i => qs11.1.AG (f := 3) g0 (by decide) rfl) (fun i => qs11.1.AG (f := 4) g0 (by decide) rfl) (fun i => qs11.1.AG (f := 5) g0 (by decide) rfl) (fun i => qs11.1.AG (f := 6) g0 (by decide) rfl) qs11.2
  refine z_aload_n hC (pc := 7) 0 dX14_keepString_7 rfl rfl ?_
  refine z_bipush hC (pc := 8) (v := Int32.ofInt 30) dX14_keepString_8 (by decide) ?_
  refine z_aload_n hC (pc := 10) 0 dX14_keepString_10 rfl rfl ?_
  refine y_get hC (pc := 11) zf14 rOb_0 24 (v := iv (rF s11 0 24)) dX14_keepString_11 zw2491 (rv_i (Or.inl rfl) rfl) (kk := ?_)
  have h := h (Ws11.f _ _)
  refine z_aload_n hC (pc := 14) 0 dX14_keepString_14 rfl rfl ?_
  refine y_get hC (pc := 15) zf14 rOb_0 25 (v := iv (rF s11 0 25)) dX14_keepString_15 zw2492 (rv_i (Or.inl rfl) rfl) (kk := ?_)
  have h := h (Ws11.f _ _)
  refine z_iload hC (pc := 18) 4 dX14_keepString_18 rfl ?_
  obtain ⟨p13, h⟩ := h
  refine y_callVi hC (pc := 20) (As := [iv 30, iv (rF s11 0 24), iv (rF s11 0 25), iv x4]) (kX14_node l G κ s11 30 (rF s11 0 24) (rF s11 0 25) x4 Ws11 (r_lit rfl) (Ws11.f _ _) (Ws11.f _ _) hx4 p13) dmX14_node zf14 rOb_0 dX14_keepString_20 zw3170 rfl rfl (Nat.le_of_ble_eq_true rfl) (Nat.le_of_ble_eq_true rfl) (Nat.le_of_ble_eq_true rfl) (Nat.le_of_ble_eq_true rfl) (Nat.le_of_ble_eq_true rfl) (kk := fun x15 s14 hx15 Ws14 qs14 => ?_)
  have h := h x15 s14 hx15 Ws14 (qs14.1.R rfl) (qs14.1.F rfl) (qs14.1.F rfl) (qs14.1.F rfl) (qs14.1.FG g0 rfl) qs14.2
  refine z_istore hC (pc := 23) (lv' := [(5, iv x15), (0, .ref (κ 0)), (1, .ref (κ p1)), (2, iv x2), (3, iv x3), (4, iv x4)]) dX14_keepString_23 (by decide) rfl ?_
  refine z_iload hC (pc := 25) 0 dX14_keepString_25 rfl ?_
  exact y_reti hR dX14_keepString_27 rfl hx15 Ws14 (Nat.le_of_ble_eq_true rfl) (Nat.le_of_ble_eq_true rfl) ⟨(rKeep.tr (rKeep.tr rKeep.rf qs11.1 rfl rfl rfl rfl rfl) qs14.1 rfl rfl rfl rfl rfl), h⟩
theorem kX14_keepString (l : Launch) (G : zG) (κ : Nat → Nat) (σ : rS) (p1 n1 : Nat) (x2 : Int) (x3 : Int) (x4 : Int) (hwf : rWF σ) (ha1 : rAr 3 n1 p1) (hx2 : rng x2) (hx3 : rng x3) (hx4 : rng x4) (hp : pre_X14_keepString σ p1 n1 x2 x3 x4) : rMi l G κ yX14_keepString cX14_keepString 6 .int 2 25 [.ref (κ 0), .ref (κ p1), iv x2, iv x3, iv x4] σ (fun x s => rKeep 0x3000000 0x280 0 0x17f 0 σ s ∧ post_X14_keepString σ p1 n1 x2 x3 x4 x s) := wX14_keepString l G κ σ p1 n1 x2 x3 x4 hwf ha1 hx2 hx3 hx4 (post_X14_keepString σ p1 n1 x2 x3 x4) (vX14_keepString σ p1 n1 x2 x3 x4 hwf ha1 hx2 hx3 hx4 hp) 
def pre_X14_isSameKey (σ : rS) (x1 : Int) : Prop := rgk (rR σ 7) ∧ 0 ≤ x1 ∧ x1 < 50000 ∧ 0 ≤ (rA σ (1000 * ((rR σ 7) + 1) + 1) (x1)) ∧ (rA σ (1000 * ((rR σ 7) + 1) + 1) (x1)) + (rA σ (1000 * ((rR σ 7) + 1) + 2) (x1)) ≤ 60000 ∧ 0 ≤ (rF σ 0 24) ∧ 0 ≤ (rF σ 0 25) ∧ (rF σ 0 24) + (rF σ 0 25) ≤ 60000
def post_X14_isSameKey (σ : rS) (x1 : Int) (r : Int) : Prop := r = 0 ∨ r = 1
def inv_X14_isSameKey_24 (σ : rS) (x1 : Int)  (s : rS) (b : Int) (k : Int) : Prop := 0 ≤ k ∧ k ≤ (rF σ 0 25) ∧ (b = 0 ∨ b = 1) ∧ (b = 1 → (rA σ (1000 * ((rR σ 7) + 1) + 2) (x1)) = (rF σ 0 25))
def mu_X14_isSameKey_24 (σ : rS) (x1 : Int) (s : rS) (b : Int) (k : Int) : Nat := (1 + ((rF σ 0 25) - k).toNat)
def VC_X14_isSameKey (σ : rS) (x1 : Int) (Q : Int → Prop) : Prop := rgk (rR σ 7) ∧ (0 ≤ x1 ∧ x1 < 50000) ∧ (rng (rA σ (1000 * ((rR σ 7) + 1) + 2) x1) → (rng (rF σ 0 25) → ((¬ (rA σ (1000 * ((rR σ 7) + 1) + 2) x1) = (rF σ 0 25) → (inv_X14_isSameKey_24 σ x1 σ 0 0)) ∧ ((rA σ (1000 * ((rR σ 7) + 1) + 2) x1) = (rF σ 0 25) → (inv_X14_isSameKey_24 σ x1 σ 1 0)))))
def VC_X14_isSameKey_24 (σ : rS) (x1 : Int) (Q : Int → Prop) : Prop := ∀ (y11 : Int) (y12 : Int), rng y11 → rng y12 → inv_X14_isSameKey_24 σ x1 σ y11 y12 → ((rng (rF σ 0 25) → (((rF σ 0 25) ≤ y12 → (y11 = 0 ∨ y11 = 1) ∧ Q y11) ∧ (¬ (rF σ 0 25) ≤ y12 → ((y11 = 0 → (y11 = 0 ∨ y11 = 1) ∧ Q y11) ∧ (¬ y11 = 0 → (0 ≤ x1 ∧ x1 < 50000) ∧ (rng (rA σ (1000 * ((rR σ 7) + 1) + 1) x1) → (0 ≤ ((rA σ (1000 * ((rR σ 7) + 1) + 1) x1) + y12) ∧ ((rA σ (1000 * ((rR σ 7) + 1) + 1) x1) + y12) < 60000) ∧ (rng (rA σ (1000 * ((rR σ 7) + 1) + 8) ((rA σ (1000 * ((rR σ 7) + 1) + 1) x1) + y12)) → (rng (rF σ 0 24) → (0 ≤ ((rF σ 0 24) + y12) ∧ ((rF σ 0 24) + y12) < 60000) ∧ (rng (rA σ (1000 * ((rR σ 7) + 1) + 8) ((rF σ 0 24) + y12)) → ((¬ (rA σ (1000 * ((rR σ 7) + 1) + 8) ((rA σ (1000 * ((rR σ 7) + 1) + 1) x1) + y12)) = (rA σ (1000 * ((rR σ 7) + 1) + 8) ((rF σ 0 24) + y12)) → rng (y12 + 1) ∧ (inv_X14_isSameKey_24 σ x1 σ 0 (y12 + 1) ∧ (mu_X14_isSameKey_24 σ x1 σ 0 (y12 + 1)) < (mu_X14_isSameKey_24 σ x1 σ y11 y12))) ∧ ((rA σ (1000 * ((rR σ 7) + 1) + 8) ((rA σ (1000 * ((rR σ 7) + 1) + 1) x1) + y12)) = (rA σ (1000 * ((rR σ 7) + 1) + 8) ((rF σ 0 24) + y12)) → rng (y12 + 1) ∧ (inv_X14_isSameKey_24 σ x1 σ 1 (y12 + 1) ∧ (mu_X14_isSameKey_24 σ x1 σ 1 (y12 + 1)) < (mu_X14_isSameKey_24 σ x1 σ y11 y12))))))))))))))
def VC_X14_isSameKey_24m (σ : rS) (x1 : Int) : Prop := ∀ (y11 : Int) (y12 : Int), rng y11 → rng y12 → inv_X14_isSameKey_24 σ x1 σ y11 y12 → 0 < (mu_X14_isSameKey_24 σ x1 σ y11 y12)
set_option maxHeartbeats 400000 in
theorem vX14_isSameKey (σ : rS) (x1 : Int) (hwf : rWF σ) (hx1 : rng x1) (hp : pre_X14_isSameKey σ x1) : VC_X14_isSameKey σ x1 (post_X14_isSameKey σ x1) := by
  simp only [VC_X14_isSameKey, pre_X14_isSameKey, post_X14_isSameKey, inv_X14_isSameKey_24, mu_X14_isSameKey_24, rng, rfk, rNMp, rF_sF, rF_sA, rF_sL, rF_sR, rA_sA, rA_sF, rA_sL, rA_sR, rR_sF, rR_sA, rR_sL, rR_sR, reduceIte, and_true, true_and, and_false, false_and, and_self] at *
  (repeat' (first | with_reducible intro _ | with_reducible apply And.intro))
  all_goals (first | assumption | omega | grind (splits := 20) [rNM_sF0])
set_option maxHeartbeats 400000 in
theorem vX14_isSameKey_24 (σ : rS) (x1 : Int) (hwf : rWF σ) (hx1 : rng x1) (hp : pre_X14_isSameKey σ x1) : VC_X14_isSameKey_24 σ x1 (post_X14_isSameKey σ x1) := by
  simp only [VC_X14_isSameKey_24, pre_X14_isSameKey, post_X14_isSameKey, inv_X14_isSameKey_24, mu_X14_isSameKey_24, rng, rfk, rNMp, rF_sF, rF_sA, rF_sL, rF_sR, rA_sA, rA_sF, rA_sL, rA_sR, rR_sF, rR_sA, rR_sL, rR_sR, reduceIte, and_true, true_and, and_false, false_and, and_self] at *
  (repeat' (first | with_reducible intro _ | with_reducible apply And.intro))
  all_goals (first | assumption | omega | grind (splits := 20) [rNM_sF0])
set_option maxHeartbeats 400000 in
theorem vX14_isSameKey_24m (σ : rS) (x1 : Int) (hwf : rWF σ) (hx1 : rng x1) (hp : pre_X14_isSameKey σ x1) : VC_X14_isSameKey_24m σ x1 := by
  simp only [VC_X14_isSameKey_24m, pre_X14_isSameKey, post_X14_isSameKey, inv_X14_isSameKey_24, mu_X14_isSameKey_24, rng, rfk, rNMp, rF_sF, rF_sA, rF_sL, rF_sR, rA_sA, rA_sF, rA_sL, rA_sR, rR_sF, rR_sA, rR_sL, rR_sR, reduceIte, and_true, true_and, and_false, false_and, and_self] at *
  (repeat' (first | with_reducible intro _ | with_reducible apply And.intro))
  all_goals (first | assumption | omega | grind (splits := 20) [rNM_sF0])
theorem wX14_isSameKey (l : Launch) (G : zG) (κ : Nat → Nat) (σ : rS) (x1 : Int) (hwf : rWF σ) (hx1 : rng x1) (Q : Int → Prop) (h : VC_X14_isSameKey σ x1 Q) (h_24 : VC_X14_isSameKey_24 σ x1 Q) (h_24m : VC_X14_isSameKey_24m σ x1) : rMi l G κ yX14_isSameKey cX14_isSameKey 4 .boolean 1 0 [.ref (κ 0), iv x1] σ (fun x s => s = σ ∧ Q x) := by
  refine zMi.intro (by decide +kernel) (Nat.le_of_ble_eq_true rfl) (fun X hC hR => ?_)
  obtain ⟨g0, h⟩ := h
  refine z_aload_n hC (pc := 0) 0 dX14_isSameKey_0 rfl rfl ?_
  refine y_get hC (pc := 1) zf14 rOb_0 7 (v := .ref (κ (rR σ 7))) dX14_isSameKey_1 zw2475 (rv_g rfl rfl g0) (kk := ?_)
  refine y_getN hC (pc := 4) zf13 (rOb_k g0) 2 (v := .ref (κ (1000 * ((rR σ 7) + 1) + 2))) dX14_isSameKey_4 zw2314 (rv_c rfl) (kk := ?_)
  refine z_iload_n hC (pc := 7) 1 dX14_isSameKey_7 rfl rfl ?_
  obtain ⟨b10, h⟩ := h
  refine y_iald hC (pc := 8) (rAr_k g0 rfl rfl) dX14_isSameKey_8 b10 (v := (rA σ (1000 * ((rR σ 7) + 1) + 2) x1)) rfl (kk := ?_)
  have h := h (hwf.a _ _)
  refine z_aload_n hC (pc := 9) 0 dX14_isSameKey_9 rfl rfl ?_
  refine y_get hC (pc := 10) zf14 rOb_0 25 (v := iv (rF σ 0 25)) dX14_isSameKey_10 zw2492 (rv_i (Or.inl rfl) rfl) (kk := ?_)
  have h := h (hwf.f _ _)
  obtain ⟨hT, hF⟩ := h
  refine y_icmp_ne hC (pc := 13) 20 (hwf.a _ _) (hwf.f _ _) dX14_isSameKey_13 (by decide) (fun c => ?_) (fun c => ?_)
  · have h := hT c
    refine z_iconst hC (pc := 20) (v := Int32.ofInt 0) dX14_isSameKey_20 (by decide) ?_
    refine z_istore_n hC (pc := 21) (lv' := [(2, iv 0), (0, .ref (κ 0)), (1, iv x1)]) dX14_isSameKey_21 rfl (by decide) rfl ?_
    refine z_iconst hC (pc := 22) (v := Int32.ofInt 0) dX14_isSameKey_22 (by decide) ?_
    refine z_istore_n hC (pc := 23) (lv' := [(3, iv 0), (2, iv 0), (0, .ref (κ 0)), (1, iv x1)]) dX14_isSameKey_23 rfl (by decide) rfl ?_
    have j24 : ∀ (d24 : Nat), ∀ (y11 : Int) (y12 : Int), rng y11 → rng y12 → inv_X14_isSameKey_24 σ x1 σ y11 y12 → (mu_X14_isSameKey_24 σ x1 σ y11 y12) ≤ d24 → zS X G 4 (rW G κ σ) [(0, .ref (κ 0)), (1, iv x1), (2, iv y11), (3, iv y12)] 0 0 24 [] := by
      intro d24
      induction d24 with
      | zero =>
        intro y11 y12 hy11 hy12 hI hmu
        exact absurd hmu (by have := h_24m   y11 y12  hy11 hy12  hI; omega)
      | succ d24 ih24 =>
        intro y11 y12 hy11 hy12 hI hmu24
        have h := h_24   y11 y12  hy11 hy12  hI
        refine z_iload_n hC (pc := 24) 3 dX14_isSameKey_24 rfl rfl ?_
        refine z_aload_n hC (pc := 25) 0 dX14_isSameKey_25 rfl rfl ?_
        refine y_get hC (pc := 26) zf14 rOb_0 25 (v := iv (rF σ 0 25)) dX14_isSameKey_26 zw2492 (rv_i (Or.inl rfl) rfl) (kk := ?_)
        have h := h (hwf.f _ _)
        obtain ⟨hT, hF⟩ := h
        refine y_icmp_ge hC (pc := 29) 84 hy12 (hwf.f _ _) dX14_isSameKey_29 (by decide) (fun c => ?_) (fun c => ?_)
        · have h := hT c
          refine z_iload_n hC (pc := 84) 2 dX14_isSameKey_84 rfl rfl ?_
          obtain ⟨z13, h⟩ := h
          exact y_reti hR dX14_isSameKey_85 (r_nZ z13) hy11 hwf (Nat.le_of_ble_eq_true rfl) (Nat.le_of_ble_eq_true rfl) ⟨rfl, h⟩
        · have h := hF c
          refine z_iload_n hC (pc := 32) 2 dX14_isSameKey_32 rfl rfl ?_
          obtain ⟨hT, hF⟩ := h
          refine y_if_eq hC (pc := 33) 84 hy11 dX14_isSameKey_33 (by decide) (fun c => ?_) (fun c => ?_)
          · have h := hT c
            refine z_iload_n hC (pc := 84) 2 dX14_isSameKey_84 rfl rfl ?_
            obtain ⟨z14, h⟩ := h
            exact y_reti hR dX14_isSameKey_85 (r_nZ z14) hy11 hwf (Nat.le_of_ble_eq_true rfl) (Nat.le_of_ble_eq_true rfl) ⟨rfl, h⟩
          · have h := hF c
            refine z_aload_n hC (pc := 36) 0 dX14_isSameKey_36 rfl rfl ?_
            refine y_get hC (pc := 37) zf14 rOb_0 7 (v := .ref (κ (rR σ 7))) dX14_isSameKey_37 zw2475 (rv_g rfl rfl g0) (kk := ?_)
            refine y_getN hC (pc := 40) zf13 (rOb_k g0) 8 (v := .ref (κ (1000 * ((rR σ 7) + 1) + 8))) dX14_isSameKey_40 zw2326 (rv_c rfl) (kk := ?_)
            refine z_aload_n hC (pc := 43) 0 dX14_isSameKey_43 rfl rfl ?_
            refine y_get hC (pc := 44) zf14 rOb_0 7 (v := .ref (κ (rR σ 7))) dX14_isSameKey_44 zw2475 (rv_g rfl rfl g0) (kk := ?_)
            refine y_getN hC (pc := 47) zf13 (rOb_k g0) 1 (v := .ref (κ (1000 * ((rR σ 7) + 1) + 1))) dX14_isSameKey_47 zw2312 (rv_c rfl) (kk := ?_)
            refine z_iload_n hC (pc := 50) 1 dX14_isSameKey_50 rfl rfl ?_
            obtain ⟨b15, h⟩ := h
            refine y_iald hC (pc := 51) (rAr_k g0 rfl rfl) dX14_isSameKey_51 b15 (v := (rA σ (1000 * ((rR σ 7) + 1) + 1) x1)) rfl (kk := ?_)
            have h := h (hwf.a _ _)
            refine z_iload_n hC (pc := 52) 3 dX14_isSameKey_52 rfl rfl ?_
            refine y_iadd hC (pc := 53) (v := ((rA σ (1000 * ((rR σ 7) + 1) + 1) x1) + y12)) dX14_isSameKey_53 rfl ?_
            obtain ⟨b16, h⟩ := h
            refine y_bald hC (pc := 54) (rAr_k g0 rfl rfl) dX14_isSameKey_54 b16 (v := (rA σ (1000 * ((rR σ 7) + 1) + 8) ((rA σ (1000 * ((rR σ 7) + 1) + 1) x1) + y12))) rfl (kk := ?_)
            have h := h (hwf.a _ _)
            refine z_aload_n hC (pc := 55) 0 dX14_isSameKey_55 rfl rfl ?_
            refine y_get hC (pc := 56) zf14 rOb_0 7 (v := .ref (κ (rR σ 7))) dX14_isSameKey_56 zw2475 (rv_g rfl rfl g0) (kk := ?_)
            refine y_getN hC (pc := 59) zf13 (rOb_k g0) 8 (v := .ref (κ (1000 * ((rR σ 7) + 1) + 8))) dX14_isSameKey_59 zw2326 (rv_c rfl) (kk := ?_)
            refine z_aload_n hC (pc := 62) 0 dX14_isSameKey_62 rfl rfl ?_
            refine y_get hC (pc := 63) zf14 rOb_0 24 (v := iv (rF σ 0 24)) dX14_isSameKey_63 zw2491 (rv_i (Or.inl rfl) rfl) (kk := ?_)
            have h := h (hwf.f _ _)
            refine z_iload_n hC (pc := 66) 3 dX14_isSameKey_66 rfl rfl ?_
            refine y_iadd hC (pc := 67) (v := ((rF σ 0 24) + y12)) dX14_isSameKey_67 rfl ?_
            obtain ⟨b17, h⟩ := h
            refine y_bald hC (pc := 68) (rAr_k g0 rfl rfl) dX14_isSameKey_68 b17 (v := (rA σ (1000 * ((rR σ 7) + 1) + 8) ((rF σ 0 24) + y12))) rfl (kk := ?_)
            have h := h (hwf.a _ _)
            obtain ⟨hT, hF⟩ := h
            refine y_icmp_ne hC (pc := 69) 76 (hwf.a _ _) (hwf.a _ _) dX14_isSameKey_69 (by decide) (fun c => ?_) (fun c => ?_)
            · have h := hT c
              refine z_iconst hC (pc := 76) (v := Int32.ofInt 0) dX14_isSameKey_76 (by decide) ?_
              refine z_istore_n hC (pc := 77) (lv' := [(2, iv 0), (0, .ref (κ 0)), (1, iv x1), (3, iv y12)]) dX14_isSameKey_77 rfl (by decide) rfl ?_
              refine y_iinc hC (pc := 78) (v := (y12 + 1)) (lv' := [(3, iv (y12 + 1)), (2, iv 0), (0, .ref (κ 0)), (1, iv x1)]) 3 dX14_isSameKey_78 rfl rfl (by decide) rfl ?_
              refine z_goto hC (pc := 81) 24 dX14_isSameKey_81 (by decide) ?_
              refine z_lvs [2, 3, 1, 0] rfl ?_
              obtain ⟨r18, h⟩ := h
              obtain ⟨hI, hm⟩ := h
              exact ih24  0 (y12 + 1)  (r_lit rfl) r18  hI (by omega)
            · have h := hF c
              refine z_iconst hC (pc := 72) (v := Int32.ofInt 1) dX14_isSameKey_72 (by decide) ?_
              refine z_goto hC (pc := 73) 77 dX14_isSameKey_73 (by decide) ?_
              refine z_istore_n hC (pc := 77) (lv' := [(2, iv 1), (0, .ref (κ 0)), (1, iv x1), (3, iv y12)]) dX14_isSameKey_77 rfl (by decide) rfl ?_
              refine y_iinc hC (pc := 78) (v := (y12 + 1)) (lv' := [(3, iv (y12 + 1)), (2, iv 1), (0, .ref (κ 0)), (1, iv x1)]) 3 dX14_isSameKey_78 rfl rfl (by decide) rfl ?_
              refine z_goto hC (pc := 81) 24 dX14_isSameKey_81 (by decide) ?_
              refine z_lvs [2, 3, 1, 0] rfl ?_
              obtain ⟨r19, h⟩ := h
              obtain ⟨hI, hm⟩ := h
              exact ih24  1 (y12 + 1)  (r_lit rfl) r19  hI (by omega)
    refine z_lvs [2, 3, 1, 0] rfl ?_
    exact j24 _  0 0  (r_lit rfl) (r_lit rfl)  h (Nat.le_refl _)
  · have h := hF c
    refine z_iconst hC (pc := 16) (v := Int32.ofInt 1) dX14_isSameKey_16 (by decide) ?_
    refine z_goto hC (pc := 17) 21 dX14_isSameKey_17 (by decide) ?_
    refine z_istore_n hC (pc := 21) (lv' := [(2, iv 1), (0, .ref (κ 0)), (1, iv x1)]) dX14_isSameKey_21 rfl (by decide) rfl ?_
    refine z_iconst hC (pc := 22) (v := Int32.ofInt 0) dX14_isSameKey_22 (by decide) ?_
    refine z_istore_n hC (pc := 23) (lv' := [(3, iv 0), (2, iv 1), (0, .ref (κ 0)), (1, iv x1)]) dX14_isSameKey_23 rfl (by decide) rfl ?_
    have j24 : ∀ (d24 : Nat), ∀ (y20 : Int) (y21 : Int), rng y20 → rng y21 → inv_X14_isSameKey_24 σ x1 σ y20 y21 → (mu_X14_isSameKey_24 σ x1 σ y20 y21) ≤ d24 → zS X G 4 (rW G κ σ) [(0, .ref (κ 0)), (1, iv x1), (2, iv y20), (3, iv y21)] 0 0 24 [] := by
      intro d24
      induction d24 with
      | zero =>
        intro y20 y21 hy20 hy21 hI hmu
        exact absurd hmu (by have := h_24m   y20 y21  hy20 hy21  hI; omega)
      | succ d24 ih24 =>
        intro y20 y21 hy20 hy21 hI hmu24
        have h := h_24   y20 y21  hy20 hy21  hI
        refine z_iload_n hC (pc := 24) 3 dX14_isSameKey_24 rfl rfl ?_
        refine z_aload_n hC (pc := 25) 0 dX14_isSameKey_25 rfl rfl ?_
        refine y_get hC (pc := 26) zf14 rOb_0 25 (v := iv (rF σ 0 25)) dX14_isSameKey_26 zw2492 (rv_i (Or.inl rfl) rfl) (kk := ?_)
        have h := h (hwf.f _ _)
        obtain ⟨hT, hF⟩ := h
        refine y_icmp_ge hC (pc := 29) 84 hy21 (hwf.f _ _) dX14_isSameKey_29 (by decide) (fun c => ?_) (fun c => ?_)
        · have h := hT c
          refine z_iload_n hC (pc := 84) 2 dX14_isSameKey_84 rfl rfl ?_
          obtain ⟨z22, h⟩ := h
          exact y_reti hR dX14_isSameKey_85 (r_nZ z22) hy20 hwf (Nat.le_of_ble_eq_true rfl) (Nat.le_of_ble_eq_true rfl) ⟨rfl, h⟩
        · have h := hF c
          refine z_iload_n hC (pc := 32) 2 dX14_isSameKey_32 rfl rfl ?_
          obtain ⟨hT, hF⟩ := h
          refine y_if_eq hC (pc := 33) 84 hy20 dX14_isSameKey_33 (by decide) (fun c => ?_) (fun c => ?_)
          · have h := hT c
            refine z_iload_n hC (pc := 84) 2 dX14_isSameKey_84 rfl rfl ?_
            obtain ⟨z23, h⟩ := h
            exact y_reti hR dX14_isSameKey_85 (r_nZ z23) hy20 hwf (Nat.le_of_ble_eq_true rfl) (Nat.le_of_ble_eq_true rfl) ⟨rfl, h⟩
          · have h := hF c
            refine z_aload_n hC (pc := 36) 0 dX14_isSameKey_36 rfl rfl ?_
            refine y_get hC (pc := 37) zf14 rOb_0 7 (v := .ref (κ (rR σ 7))) dX14_isSameKey_37 zw2475 (rv_g rfl rfl g0) (kk := ?_)
            refine y_getN hC (pc := 40) zf13 (rOb_k g0) 8 (v := .ref (κ (1000 * ((rR σ 7) + 1) + 8))) dX14_isSameKey_40 zw2326 (rv_c rfl) (kk := ?_)
            refine z_aload_n hC (pc := 43) 0 dX14_isSameKey_43 rfl rfl ?_
            refine y_get hC (pc := 44) zf14 rOb_0 7 (v := .ref (κ (rR σ 7))) dX14_isSameKey_44 zw2475 (rv_g rfl rfl g0) (kk := ?_)
            refine y_getN hC (pc := 47) zf13 (rOb_k g0) 1 (v := .ref (κ (1000 * ((rR σ 7) + 1) + 1))) dX14_isSameKey_47 zw2312 (rv_c rfl) (kk := ?_)
            refine z_iload_n hC (pc := 50) 1 dX14_isSameKey_50 rfl rfl ?_
            obtain ⟨b24, h⟩ := h
            refine y_iald hC (pc := 51) (rAr_k g0 rfl rfl) dX14_isSameKey_51 b24 (v := (rA σ (1000 * ((rR σ 7) + 1) + 1) x1)) rfl (kk := ?_)
            have h := h (hwf.a _ _)
            refine z_iload_n hC (pc := 52) 3 dX14_isSameKey_52 rfl rfl ?_
            refine y_iadd hC (pc := 53) (v := ((rA σ (1000 * ((rR σ 7) + 1) + 1) x1) + y21)) dX14_isSameKey_53 rfl ?_
            obtain ⟨b25, h⟩ := h
            refine y_bald hC (pc := 54) (rAr_k g0 rfl rfl) dX14_isSameKey_54 b25 (v := (rA σ (1000 * ((rR σ 7) + 1) + 8) ((rA σ (1000 * ((rR σ 7) + 1) + 1) x1) + y21))) rfl (kk := ?_)
            have h := h (hwf.a _ _)
            refine z_aload_n hC (pc := 55) 0 dX14_isSameKey_55 rfl rfl ?_
            refine y_get hC (pc := 56) zf14 rOb_0 7 (v := .ref (κ (rR σ 7))) dX14_isSameKey_56 zw2475 (rv_g rfl rfl g0) (kk := ?_)
            refine y_getN hC (pc := 59) zf13 (rOb_k g0) 8 (v := .ref (κ (1000 * ((rR σ 7) + 1) + 8))) dX14_isSameKey_59 zw2326 (rv_c rfl) (kk := ?_)
            refine z_aload_n hC (pc := 62) 0 dX14_isSameKey_62 rfl rfl ?_
            refine y_get hC (pc := 63) zf14 rOb_0 24 (v := iv (rF σ 0 24)) dX14_isSameKey_63 zw2491 (rv_i (Or.inl rfl) rfl) (kk := ?_)
            have h := h (hwf.f _ _)
            refine z_iload_n hC (pc := 66) 3 dX14_isSameKey_66 rfl rfl ?_
            refine y_iadd hC (pc := 67) (v := ((rF σ 0 24) + y21)) dX14_isSameKey_67 rfl ?_
            obtain ⟨b26, h⟩ := h
            refine y_bald hC (pc := 68) (rAr_k g0 rfl rfl) dX14_isSameKey_68 b26 (v := (rA σ (1000 * ((rR σ 7) + 1) + 8) ((rF σ 0 24) + y21))) rfl (kk := ?_)
            have h := h (hwf.a _ _)
            obtain ⟨hT, hF⟩ := h
            refine y_icmp_ne hC (pc := 69) 76 (hwf.a _ _) (hwf.a _ _) dX14_isSameKey_69 (by decide) (fun c => ?_) (fun c => ?_)
            · have h := hT c
              refine z_iconst hC (pc := 76) (v := Int32.ofInt 0) dX14_isSameKey_76 (by decide) ?_
              refine z_istore_n hC (pc := 77) (lv' := [(2, iv 0), (0, .ref (κ 0)), (1, iv x1), (3, iv y21)]) dX14_isSameKey_77 rfl (by decide) rfl ?_
              refine y_iinc hC (pc := 78) (v := (y21 + 1)) (lv' := [(3, iv (y21 + 1)), (2, iv 0), (0, .ref (κ 0)), (1, iv x1)]) 3 dX14_isSameKey_78 rfl rfl (by decide) rfl ?_
              refine z_goto hC (pc := 81) 24 dX14_isSameKey_81 (by decide) ?_
              refine z_lvs [2, 3, 1, 0] rfl ?_
              obtain ⟨r27, h⟩ := h
              obtain ⟨hI, hm⟩ := h
              exact ih24  0 (y21 + 1)  (r_lit rfl) r27  hI (by omega)
            · have h := hF c
              refine z_iconst hC (pc := 72) (v := Int32.ofInt 1) dX14_isSameKey_72 (by decide) ?_
              refine z_goto hC (pc := 73) 77 dX14_isSameKey_73 (by decide) ?_
              refine z_istore_n hC (pc := 77) (lv' := [(2, iv 1), (0, .ref (κ 0)), (1, iv x1), (3, iv y21)]) dX14_isSameKey_77 rfl (by decide) rfl ?_
              refine y_iinc hC (pc := 78) (v := (y21 + 1)) (lv' := [(3, iv (y21 + 1)), (2, iv 1), (0, .ref (κ 0)), (1, iv x1)]) 3 dX14_isSameKey_78 rfl rfl (by decide) rfl ?_
              refine z_goto hC (pc := 81) 24 dX14_isSameKey_81 (by decide) ?_
              refine z_lvs [2, 3, 1, 0] rfl ?_
              obtain ⟨r28, h⟩ := h
              obtain ⟨hI, hm⟩ := h
              exact ih24  1 (y21 + 1)  (r_lit rfl) r28  hI (by omega)
    refine z_lvs [2, 3, 1, 0] rfl ?_
    exact j24 _  1 0  (r_lit rfl) (r_lit rfl)  h (Nat.le_refl _)
theorem kX14_isSameKey (l : Launch) (G : zG) (κ : Nat → Nat) (σ : rS) (x1 : Int) (hwf : rWF σ) (hx1 : rng x1) (hp : pre_X14_isSameKey σ x1) : rMi l G κ yX14_isSameKey cX14_isSameKey 4 .boolean 1 0 [.ref (κ 0), iv x1] σ (fun x s => s = σ ∧ post_X14_isSameKey σ x1 x) := wX14_isSameKey l G κ σ x1 hwf hx1 (post_X14_isSameKey σ x1) (vX14_isSameKey σ x1 hwf hx1 hp) (vX14_isSameKey_24 σ x1 hwf hx1 hp) (vX14_isSameKey_24m σ x1 hwf hx1 hp)
def pre_X14_delimiter (σ : rS)  : Prop := 0 ≤ (rF σ 0 17) ∧ 0 ≤ (rF σ 0 16) ∧ (rF σ 0 16) ≤ 4000 ∧ rfk (rR σ 15) ∧ (rF σ 0 17) ≤ (rF σ 0 16)
def post_X14_delimiter (σ : rS)  (r : Int) (σ' : rS) : Prop := (rF σ 0 17) ≤ (rF σ' 0 17) ∧ (rF σ' 0 17) ≤ (rF σ 0 16) ∧ ((rF σ 0 10) ≠ 0 → (rF σ' 0 10) = (rF σ 0 10))
def VC_X14_delimiter (σ : rS) (Q : Int → rS → Prop) : Prop := pre_X14_fileString σ ∧ (∀ (s11 : rS), rWF s11 → rR s11 15 = rR σ 15 → rF s11 0 16 = rF σ 0 16 → post_X14_fileString σ s11 → (rng (rF s11 0 10) → (((rF s11 0 10) = 0 → (rng (rF s11 0 23) → (rng (rF s11 0 22) → rng ((rF s11 0 23) - (rF s11 0 22)) ∧ ((¬ ((rF s11 0 23) - (rF s11 0 22)) = 1 → pre_X14_isLetter s11 32 ∧ (∀ (x16 : Int), rng x16 → post_X14_isLetter s11 32 x16 → ((¬ x16 = 0 → (rng (rF s11 0 21) → pre_X14_bad s11 2 (rF s11 0 21) ∧ (∀ (s18 : rS), rWF s18 → rR s18 15 = rR s11 15 → rF s18 0 16 = rF s11 0 16 → rF s18 0 17 = rF s11 0 17 → rF s18 0 21 = rF s11 0 21 → rF s18 0 22 = rF s11 0 22 → rF s18 0 23 = rF s11 0 23 → post_X14_bad s11 2 (rF s11 0 21) s18 → Q 32 s18))) ∧ (x16 = 0 → pre_X14_isDigit s11 32 ∧ (∀ (x22 : Int), rng x22 → post_X14_isDigit s11 32 x22 → ((¬ x22 = 0 → (rng (rF s11 0 21) → pre_X14_bad s11 2 (rF s11 0 21) ∧ (∀ (s24 : rS), rWF s24 → rR s24 15 = rR s11 15 → rF s24 0 16 = rF s11 0 16 → rF s24 0 17 = rF s11 0 17 → rF s24 0 21 = rF s11 0 21 → rF s24 0 22 = rF s11 0 22 → rF s24 0 23 = rF s11 0 23 → post_X14_bad s11 2 (rF s11 0 21) s24 → Q 32 s24))) ∧ (x22 = 0 → pre_X14_isBlank s11 32 ∧ (∀ (x28 : Int), rng x28 → post_X14_isBlank s11 32 x28 → ((¬ x28 = 0 → (rng (rF s11 0 21) → pre_X14_bad s11 2 (rF s11 0 21) ∧ (∀ (s30 : rS), rWF s30 → rR s30 15 = rR s11 15 → rF s30 0 16 = rF s11 0 16 → rF s30 0 17 = rF s11 0 17 → rF s30 0 21 = rF s11 0 21 → rF s30 0 22 = rF s11 0 22 → rF s30 0 23 = rF s11 0 23 → post_X14_bad s11 2 (rF s11 0 21) s30 → Q 32 s30))) ∧ (x28 = 0 → (∀ (x32 : Int), rng x32 → ((x32 < 0 → Q 32 s11) ∧ (¬ x32 < 0 → (rng (rF s11 0 21) → pre_X14_bad s11 2 (rF s11 0 21) ∧ (∀ (s34 : rS), rWF s34 → rR s34 15 = rR s11 15 → rF s34 0 16 = rF s11 0 16 → rF s34 0 17 = rF s11 0 17 → rF s34 0 21 = rF s11 0 21 → rF s34 0 22 = rF s11 0 22 → rF s34 0 23 = rF s11 0 23 → post_X14_bad s11 2 (rF s11 0 21) s34 → Q 32 s34))))))))))))))) ∧ (((rF s11 0 23) - (rF s11 0 22)) = 1 → rfk (rR σ 15) ∧ (0 ≤ (rF s11 0 22) ∧ (rF s11 0 22) < 4000) ∧ (rng (rA s11 (rR σ 15) (rF s11 0 22)) → pre_X14_isLetter s11 (rA s11 (rR σ 15) (rF s11 0 22)) ∧ (∀ (x40 : Int), rng x40 → post_X14_isLetter s11 (rA s11 (rR σ 15) (rF s11 0 22)) x40 → ((¬ x40 = 0 → (rng (rF s11 0 21) → pre_X14_bad s11 2 (rF s11 0 21) ∧ (∀ (s42 : rS), rWF s42 → rR s42 15 = rR s11 15 → rF s42 0 16 = rF s11 0 16 → rF s42 0 17 = rF s11 0 17 → rF s42 0 21 = rF s11 0 21 → rF s42 0 22 = rF s11 0 22 → rF s42 0 23 = rF s11 0 23 → post_X14_bad s11 2 (rF s11 0 21) s42 → Q (rA s11 (rR σ 15) (rF s11 0 22)) s42))) ∧ (x40 = 0 → pre_X14_isDigit s11 (rA s11 (rR σ 15) (rF s11 0 22)) ∧ (∀ (x46 : Int), rng x46 → post_X14_isDigit s11 (rA s11 (rR σ 15) (rF s11 0 22)) x46 → ((¬ x46 = 0 → (rng (rF s11 0 21) → pre_X14_bad s11 2 (rF s11 0 21) ∧ (∀ (s48 : rS), rWF s48 → rR s48 15 = rR s11 15 → rF s48 0 16 = rF s11 0 16 → rF s48 0 17 = rF s11 0 17 → rF s48 0 21 = rF s11 0 21 → rF s48 0 22 = rF s11 0 22 → rF s48 0 23 = rF s11 0 23 → post_X14_bad s11 2 (rF s11 0 21) s48 → Q (rA s11 (rR σ 15) (rF s11 0 22)) s48))) ∧ (x46 = 0 → pre_X14_isBlank s11 (rA s11 (rR σ 15) (rF s11 0 22)) ∧ (∀ (x52 : Int), rng x52 → post_X14_isBlank s11 (rA s11 (rR σ 15) (rF s11 0 22)) x52 → ((¬ x52 = 0 → (rng (rF s11 0 21) → pre_X14_bad s11 2 (rF s11 0 21) ∧ (∀ (s54 : rS), rWF s54 → rR s54 15 = rR s11 15 → rF s54 0 16 = rF s11 0 16 → rF s54 0 17 = rF s11 0 17 → rF s54 0 21 = rF s11 0 21 → rF s54 0 22 = rF s11 0 22 → rF s54 0 23 = rF s11 0 23 → post_X14_bad s11 2 (rF s11 0 21) s54 → Q (rA s11 (rR σ 15) (rF s11 0 22)) s54))) ∧ (x52 = 0 → (∀ (x56 : Int), rng x56 → ((x56 < 0 → Q (rA s11 (rR σ 15) (rF s11 0 22)) s11) ∧ (¬ x56 < 0 → (rng (rF s11 0 21) → pre_X14_bad s11 2 (rF s11 0 21) ∧ (∀ (s58 : rS), rWF s58 → rR s58 15 = rR s11 15 → rF s58 0 16 = rF s11 0 16 → rF s58 0 17 = rF s11 0 17 → rF s58 0 21 = rF s11 0 21 → rF s58 0 22 = rF s11 0 22 → rF s58 0 23 = rF s11 0 23 → post_X14_bad s11 2 (rF s11 0 21) s58 → Q (rA s11 (rR σ 15) (rF s11 0 22)) s58)))))))))))))))))))) ∧ (¬ (rF s11 0 10) = 0 → Q 0 s11))))
set_option maxHeartbeats 400000 in
theorem vX14_delimiter (σ : rS) (hwf : rWF σ) (hp : pre_X14_delimiter σ ) : VC_X14_delimiter σ (post_X14_delimiter σ ) := by
  simp only [VC_X14_delimiter, pre_X14_delimiter, post_X14_delimiter, pre_X14_isBlank, pre_X14_bad, pre_X14_isDigit, pre_X14_isLetter, pre_X14_fileString, post_X14_isBlank, post_X14_bad, post_X14_isDigit, post_X14_isLetter, post_X14_fileString, rng, rfk, rNMp, rF_sF, rF_sA, rF_sL, rF_sR, rA_sA, rA_sF, rA_sL, rA_sR, rR_sF, rR_sA, rR_sL, rR_sR, reduceIte, and_true, true_and, and_false, false_and, and_self] at *
  (repeat' (first | with_reducible intro _ | with_reducible apply And.intro))
  all_goals (first | assumption | omega | grind (splits := 20) [rNM_sF0])
theorem wX14_delimiter (l : Launch) (G : zG) (κ : Nat → Nat) (σ : rS) (hwf : rWF σ) (Q : Int → rS → Prop) (h : VC_X14_delimiter σ Q) : rMi l G κ yX14_delimiter cX14_delimiter 3 .int 5 121 [.ref (κ 0)] σ (fun x s => rKeep 0xe21c00 0 0 0 0 σ s ∧ Q x s) := by
  refine zMi.intro (by decide +kernel) (Nat.le_of_ble_eq_true rfl) (fun X hC hR => ?_)
  refine z_aload_n hC (pc := 0) 0 dX14_delimiter_0 rfl rfl ?_
  obtain ⟨p10, h⟩ := h
  refine y_callVv hC (pc := 1) (As := []) (kX14_fileString l G κ σ  hwf  p10) dmX14_fileString zf14 rOb_0 dX14_delimiter_1 zw3027 rfl rfl (Nat.le_of_ble_eq_true rfl) (Nat.le_of_ble_eq_true rfl) (Nat.le_of_ble_eq_true rfl) (Nat.le_of_ble_eq_true rfl) (Nat.le_of_ble_eq_true rfl) (kk := fun s11 Ws11 qs11 => ?_)
  have h := h s11 Ws11 (qs11.1.R rfl) (qs11.1.F rfl) qs11.2
  refine z_aload_n hC (pc := 4) 0 dX14_delimiter_4 rfl rfl ?_
  refine y_get hC (pc := 5) zf14 rOb_0 10 (v := iv (rF s11 0 10)) dX14_delimiter_5 zw2478 (rv_i (Or.inl rfl) rfl) (kk := ?_)
  have h := h (Ws11.f _ _)
  obtain ⟨hT, hF⟩ := h
  refine y_if_eq hC (pc := 8) 13 (Ws11.f _ _) dX14_delimiter_8 (by decide) (fun c => ?_) (fun c => ?_)
  · have h := hT c
    refine z_aload_n hC (pc := 13) 0 dX14_delimiter_13 rfl rfl ?_
    refine y_get hC (pc := 14) zf14 rOb_0 23 (v := iv (rF s11 0 23)) dX14_delimiter_14 zw2490 (rv_i (Or.inl rfl) rfl) (kk := ?_)
    have h := h (Ws11.f _ _)
    refine z_aload_n hC (pc := 17) 0 dX14_delimiter_17 rfl rfl ?_
    refine y_get hC (pc := 18) zf14 rOb_0 22 (v := iv (rF s11 0 22)) dX14_delimiter_18 zw2489 (rv_i (Or.inl rfl) rfl) (kk := ?_)
    have h := h (Ws11.f _ _)
    refine y_isub hC (pc := 21) (v := ((rF s11 0 23) - (rF s11 0 22))) dX14_delimiter_21 rfl ?_
    refine z_iconst hC (pc := 22) (v := Int32.ofInt 1) dX14_delimiter_22 (by decide) ?_
    obtain ⟨r13, h⟩ := h
    obtain ⟨hT, hF⟩ := h
    refine y_icmp_ne hC (pc := 23) 38 r13 (r_lit rfl) dX14_delimiter_23 (by decide) (fun c => ?_) (fun c => ?_)
    · have h := hT c
      refine z_bipush hC (pc := 38) (v := Int32.ofInt 32) dX14_delimiter_38 (by decide) ?_
      refine z_istore_n hC (pc := 40) (lv' := [(1, iv 32), (0, .ref (κ 0))]) dX14_delimiter_40 rfl (by decide) rfl ?_
      refine z_iload_n hC (pc := 41) 0 dX14_delimiter_41 rfl rfl ?_
      obtain ⟨p14, h⟩ := h
      refine y_callSi hC (pc := 42) (As := [iv 32]) (kX14_isLetter l G κ s11 32 Ws11 (r_lit rfl) p14) dmX14_isLetter dX14_delimiter_42 zw3012 rfl rfl (Nat.le_of_ble_eq_true rfl) (Nat.le_of_ble_eq_true rfl) (Nat.le_of_ble_eq_true rfl) (Nat.le_of_ble_eq_true rfl) (Nat.le_of_ble_eq_true rfl) (kk := fun x16 s15 hx16 Ws15 qs15 => ?_)
      obtain ⟨es15, qs15⟩ := qs15
      have es15 := es15.symm
      subst es15
      have h := h x16 hx16 qs15
      obtain ⟨hT, hF⟩ := h
      refine y_if_ne hC (pc := 45) 72 hx16 dX14_delimiter_45 (by decide) (fun c => ?_) (fun c => ?_)
      · have h := hT c
        refine z_iconst hC (pc := 72) (v := Int32.ofInt 1) dX14_delimiter_72 (by decide) ?_
        refine z_goto hC (pc := 73) 77 dX14_delimiter_73 (by decide) ?_
        refine z_istore_n hC (pc := 77) (lv' := [(2, iv 1), (1, iv 32), (0, .ref (κ 0))]) dX14_delimiter_77 rfl (by decide) rfl ?_
        refine z_iload_n hC (pc := 78) 0 dX14_delimiter_78 rfl rfl ?_
        refine y_if_eq hC (pc := 79) 91 (r_lit rfl) dX14_delimiter_79 (by decide) (fun c => absurd c (by decide)) (fun _ => ?_)
        refine z_aload_n hC (pc := 82) 2 dX14_delimiter_82 rfl rfl ?_
        refine z_iconst hC (pc := 83) (v := Int32.ofInt 2) dX14_delimiter_83 (by decide) ?_
        refine z_aload_n hC (pc := 84) 2 dX14_delimiter_84 rfl rfl ?_
        refine y_get hC (pc := 85) zf14 rOb_0 21 (v := iv (rF s11 0 21)) dX14_delimiter_85 zw2488 (rv_i (Or.inl rfl) rfl) (kk := ?_)
        have h := h (Ws11.f _ _)
        obtain ⟨p17, h⟩ := h
        refine y_callVv hC (pc := 88) (As := [iv 2, iv (rF s11 0 21)]) (kX14_bad l G κ s11 2 (rF s11 0 21) Ws11 (r_lit rfl) (Ws11.f _ _) p17) dmX14_bad zf14 rOb_0 dX14_delimiter_88 zw3000 rfl rfl (Nat.le_of_ble_eq_true rfl) (Nat.le_of_ble_eq_true rfl) (Nat.le_of_ble_eq_true rfl) (Nat.le_of_ble_eq_true rfl) (Nat.le_of_ble_eq_true rfl) (kk := fun s18 Ws18 qs18 => ?_)
        have h := h s18 Ws18 (qs18.1.R rfl) (qs18.1.F rfl) (qs18.1.F rfl) (qs18.1.F rfl) (qs18.1.F rfl) (qs18.1.F rfl) qs18.2
        refine z_iload_n hC (pc := 91) 1 dX14_delimiter_91 rfl rfl ?_
        exact y_reti hR dX14_delimiter_92 rfl (r_lit rfl) Ws18 (Nat.le_of_ble_eq_true rfl) (Nat.le_of_ble_eq_true rfl) ⟨(rKeep.tr (rKeep.tr rKeep.rf qs11.1 rfl rfl rfl rfl rfl) qs18.1 rfl rfl rfl rfl rfl), h⟩
      · have h := hF c
        refine z_iload_n hC (pc := 48) 0 dX14_delimiter_48 rfl rfl ?_
        obtain ⟨p20, h⟩ := h
        refine y_callSi hC (pc := 49) (As := [iv 32]) (kX14_isDigit l G κ s11 32 Ws11 (r_lit rfl) p20) dmX14_isDigit dX14_delimiter_49 zw3015 rfl rfl (Nat.le_of_ble_eq_true rfl) (Nat.le_of_ble_eq_true rfl) (Nat.le_of_ble_eq_true rfl) (Nat.le_of_ble_eq_true rfl) (Nat.le_of_ble_eq_true rfl) (kk := fun x22 s21 hx22 Ws21 qs21 => ?_)
        obtain ⟨es21, qs21⟩ := qs21
        have es21 := es21.symm
        subst es21
        have h := h x22 hx22 qs21
        obtain ⟨hT, hF⟩ := h
        refine y_if_ne hC (pc := 52) 72 hx22 dX14_delimiter_52 (by decide) (fun c => ?_) (fun c => ?_)
        · have h := hT c
          refine z_iconst hC (pc := 72) (v := Int32.ofInt 1) dX14_delimiter_72 (by decide) ?_
          refine z_goto hC (pc := 73) 77 dX14_delimiter_73 (by decide) ?_
          refine z_istore_n hC (pc := 77) (lv' := [(2, iv 1), (1, iv 32), (0, .ref (κ 0))]) dX14_delimiter_77 rfl (by decide) rfl ?_
          refine z_iload_n hC (pc := 78) 0 dX14_delimiter_78 rfl rfl ?_
          refine y_if_eq hC (pc := 79) 91 (r_lit rfl) dX14_delimiter_79 (by decide) (fun c => absurd c (by decide)) (fun _ => ?_)
          refine z_aload_n hC (pc := 82) 2 dX14_delimiter_82 rfl rfl ?_
          refine z_iconst hC (pc := 83) (v := Int32.ofInt 2) dX14_delimiter_83 (by decide) ?_
          refine z_aload_n hC (pc := 84) 2 dX14_delimiter_84 rfl rfl ?_
          refine y_get hC (pc := 85) zf14 rOb_0 21 (v := iv (rF s11 0 21)) dX14_delimiter_85 zw2488 (rv_i (Or.inl rfl) rfl) (kk := ?_)
          have h := h (Ws11.f _ _)
          obtain ⟨p23, h⟩ := h
          refine y_callVv hC (pc := 88) (As := [iv 2, iv (rF s11 0 21)]) (kX14_bad l G κ s11 2 (rF s11 0 21) Ws11 (r_lit rfl) (Ws11.f _ _) p23) dmX14_bad zf14 rOb_0 dX14_delimiter_88 zw3000 rfl rfl (Nat.le_of_ble_eq_true rfl) (Nat.le_of_ble_eq_true rfl) (Nat.le_of_ble_eq_true rfl) (Nat.le_of_ble_eq_true rfl) (Nat.le_of_ble_eq_true rfl) (kk := fun s24 Ws24 qs24 => ?_)
          have h := h s24 Ws24 (qs24.1.R rfl) (qs24.1.F rfl) (qs24.1.F rfl) (qs24.1.F rfl) (qs24.1.F rfl) (qs24.1.F rfl) qs24.2
          refine z_iload_n hC (pc := 91) 1 dX14_delimiter_91 rfl rfl ?_
          exact y_reti hR dX14_delimiter_92 rfl (r_lit rfl) Ws24 (Nat.le_of_ble_eq_true rfl) (Nat.le_of_ble_eq_true rfl) ⟨(rKeep.tr (rKeep.tr rKeep.rf qs11.1 rfl rfl rfl rfl rfl) qs24.1 rfl rfl rfl rfl rfl), h⟩
        · have h := hF c
          refine z_iload_n hC (pc := 55) 0 dX14_delimiter_55 rfl rfl ?_
          obtain ⟨p26, h⟩ := h
          refine y_callSi hC (pc := 56) (As := [iv 32]) (kX14_isBlank l G κ s11 32 Ws11 (r_lit rfl) p26) dmX14_isBlank dX14_delimiter_56 zw2997 rfl rfl (Nat.le_of_ble_eq_true rfl) (Nat.le_of_ble_eq_true rfl) (Nat.le_of_ble_eq_true rfl) (Nat.le_of_ble_eq_true rfl) (Nat.le_of_ble_eq_true rfl) (kk := fun x28 s27 hx28 Ws27 qs27 => ?_)
          obtain ⟨es27, qs27⟩ := qs27
          have es27 := es27.symm
          subst es27
          have h := h x28 hx28 qs27
          obtain ⟨hT, hF⟩ := h
          refine y_if_ne hC (pc := 59) 72 hx28 dX14_delimiter_59 (by decide) (fun c => ?_) (fun c => ?_)
          · have h := hT c
            refine z_iconst hC (pc := 72) (v := Int32.ofInt 1) dX14_delimiter_72 (by decide) ?_
            refine z_goto hC (pc := 73) 77 dX14_delimiter_73 (by decide) ?_
            refine z_istore_n hC (pc := 77) (lv' := [(2, iv 1), (1, iv 32), (0, .ref (κ 0))]) dX14_delimiter_77 rfl (by decide) rfl ?_
            refine z_iload_n hC (pc := 78) 0 dX14_delimiter_78 rfl rfl ?_
            refine y_if_eq hC (pc := 79) 91 (r_lit rfl) dX14_delimiter_79 (by decide) (fun c => absurd c (by decide)) (fun _ => ?_)
            refine z_aload_n hC (pc := 82) 2 dX14_delimiter_82 rfl rfl ?_
            refine z_iconst hC (pc := 83) (v := Int32.ofInt 2) dX14_delimiter_83 (by decide) ?_
            refine z_aload_n hC (pc := 84) 2 dX14_delimiter_84 rfl rfl ?_
            refine y_get hC (pc := 85) zf14 rOb_0 21 (v := iv (rF s11 0 21)) dX14_delimiter_85 zw2488 (rv_i (Or.inl rfl) rfl) (kk := ?_)
            have h := h (Ws11.f _ _)
            obtain ⟨p29, h⟩ := h
            refine y_callVv hC (pc := 88) (As := [iv 2, iv (rF s11 0 21)]) (kX14_bad l G κ s11 2 (rF s11 0 21) Ws11 (r_lit rfl) (Ws11.f _ _) p29) dmX14_bad zf14 rOb_0 dX14_delimiter_88 zw3000 rfl rfl (Nat.le_of_ble_eq_true rfl) (Nat.le_of_ble_eq_true rfl) (Nat.le_of_ble_eq_true rfl) (Nat.le_of_ble_eq_true rfl) (Nat.le_of_ble_eq_true rfl) (kk := fun s30 Ws30 qs30 => ?_)
            have h := h s30 Ws30 (qs30.1.R rfl) (qs30.1.F rfl) (qs30.1.F rfl) (qs30.1.F rfl) (qs30.1.F rfl) (qs30.1.F rfl) qs30.2
            refine z_iload_n hC (pc := 91) 1 dX14_delimiter_91 rfl rfl ?_
            exact y_reti hR dX14_delimiter_92 rfl (r_lit rfl) Ws30 (Nat.le_of_ble_eq_true rfl) (Nat.le_of_ble_eq_true rfl) ⟨(rKeep.tr (rKeep.tr rKeep.rf qs11.1 rfl rfl rfl rfl rfl) qs30.1 rfl rfl rfl rfl rfl), h⟩
          · have h := hF c
            refine z_ldcSw hC (pc := 62) dX14_delimiter_62 zS_29 ?_
            refine z_iload_n hC (pc := 65) 0 dX14_delimiter_65 rfl rfl ?_
            refine y_sidx hC (pc := 66) (i := 32) (rSt_29 G) dX14_delimiter_66 zw3032 (Nat.le_of_ble_eq_true rfl) (Nat.le_of_ble_eq_true rfl) (Nat.le_of_ble_eq_true rfl) (Nat.le_of_ble_eq_true rfl) (Nat.le_of_ble_eq_true rfl) (fun x32 hx32 => ?_)
            have h := h x32 hx32
            obtain ⟨hT, hF⟩ := h
            refine y_if_lt hC (pc := 69) 76 hx32 dX14_delimiter_69 (by decide) (fun c => ?_) (fun c => ?_)
            · have h := hT c
              refine z_iconst hC (pc := 76) (v := Int32.ofInt 0) dX14_delimiter_76 (by decide) ?_
              refine z_istore_n hC (pc := 77) (lv' := [(2, iv 0), (1, iv 32), (0, .ref (κ 0))]) dX14_delimiter_77 rfl (by decide) rfl ?_
              refine z_iload_n hC (pc := 78) 0 dX14_delimiter_78 rfl rfl ?_
              refine y_if_eq hC (pc := 79) 91 (r_lit rfl) dX14_delimiter_79 (by decide) (fun _ => ?_) (fun c => absurd c (by decide))
              refine z_iload_n hC (pc := 91) 1 dX14_delimiter_91 rfl rfl ?_
              exact y_reti hR dX14_delimiter_92 rfl (r_lit rfl) Ws11 (Nat.le_of_ble_eq_true rfl) (Nat.le_of_ble_eq_true rfl) ⟨(rKeep.tr rKeep.rf qs11.1 rfl rfl rfl rfl rfl), h⟩
            · have h := hF c
              refine z_iconst hC (pc := 72) (v := Int32.ofInt 1) dX14_delimiter_72 (by decide) ?_
              refine z_goto hC (pc := 73) 77 dX14_delimiter_73 (by decide) ?_
              refine z_istore_n hC (pc := 77) (lv' := [(2, iv 1), (1, iv 32), (0, .ref (κ 0))]) dX14_delimiter_77 rfl (by decide) rfl ?_
              refine z_iload_n hC (pc := 78) 0 dX14_delimiter_78 rfl rfl ?_
              refine y_if_eq hC (pc := 79) 91 (r_lit rfl) dX14_delimiter_79 (by decide) (fun c => absurd c (by decide)) (fun _ => ?_)
              refine z_aload_n hC (pc := 82) 2 dX14_delimiter_82 rfl rfl ?_
              refine z_iconst hC (pc := 83) (v := Int32.ofInt 2) dX14_delimiter_83 (by decide) ?_
              refine z_aload_n hC (pc := 84) 2 dX14_delimiter_84 rfl rfl ?_
              refine y_get hC (pc := 85) zf14 rOb_0 21 (v := iv (rF s11 0 21)) dX14_delimiter_85 zw2488 (rv_i (Or.inl rfl) rfl) (kk := ?_)
              have h := h (Ws11.f _ _)
              obtain ⟨p33, h⟩ := h
              refine y_callVv hC (pc := 88) (As := [iv 2, iv (rF s11 0 21)]) (kX14_bad l G κ s11 2 (rF s11 0 21) Ws11 (r_lit rfl) (Ws11.f _ _) p33) dmX14_bad zf14 rOb_0 dX14_delimiter_88 zw3000 rfl rfl (Nat.le_of_ble_eq_true rfl) (Nat.le_of_ble_eq_true rfl) (Nat.le_of_ble_eq_true rfl) (Nat.le_of_ble_eq_true rfl) (Nat.le_of_ble_eq_true rfl) (kk := fun s34 Ws34 qs34 => ?_)
              have h := h s34 Ws34 (qs34.1.R rfl) (qs34.1.F rfl) (qs34.1.F rfl) (qs34.1.F rfl) (qs34.1.F rfl) (qs34.1.F rfl) qs34.2
              refine z_iload_n hC (pc := 91) 1 dX14_delimiter_91 rfl rfl ?_
              exact y_reti hR dX14_delimiter_92 rfl (r_lit rfl) Ws34 (Nat.le_of_ble_eq_true rfl) (Nat.le_of_ble_eq_true rfl) ⟨(rKeep.tr (rKeep.tr rKeep.rf qs11.1 rfl rfl rfl rfl rfl) qs34.1 rfl rfl rfl rfl rfl), h⟩
    · have h := hF c
      refine z_aload_n hC (pc := 26) 0 dX14_delimiter_26 rfl rfl ?_
      obtain ⟨g36, h⟩ := h
      refine y_get hC (pc := 27) zf14 rOb_0 15 (v := .ref (κ (rR σ 15))) dX14_delimiter_27 zw2482 (rv_b rfl ((qs11.1.R rfl).trans rfl) g36) (kk := ?_)
      refine z_aload_n hC (pc := 30) 0 dX14_delimiter_30 rfl rfl ?_
      refine y_get hC (pc := 31) zf14 rOb_0 22 (v := iv (rF s11 0 22)) dX14_delimiter_31 zw2489 (rv_i (Or.inl rfl) rfl) (kk := ?_)
      obtain ⟨b37, h⟩ := h
      refine y_bald hC (pc := 34) (rAr_f g36) dX14_delimiter_34 b37 (v := (rA s11 (rR σ 15) (rF s11 0 22))) rfl (kk := ?_)
      have h := h (Ws11.a _ _)
      refine z_goto hC (pc := 35) 40 dX14_delimiter_35 (by decide) ?_
      refine z_istore_n hC (pc := 40) (lv' := [(1, iv (rA s11 (rR σ 15) (rF s11 0 22))), (0, .ref (κ 0))]) dX14_delimiter_40 rfl (by decide) rfl ?_
      refine z_iload_n hC (pc := 41) 0 dX14_delimiter_41 rfl rfl ?_
      obtain ⟨p38, h⟩ := h
      refine y_callSi hC (pc := 42) (As := [iv (rA s11 (rR σ 15) (rF s11 0 22))]) (kX14_isLetter l G κ s11 (rA s11 (rR σ 15) (rF s11 0 22)) Ws11 (Ws11.a _ _) p38) dmX14_isLetter dX14_delimiter_42 zw3012 rfl rfl (Nat.le_of_ble_eq_true rfl) (Nat.le_of_ble_eq_true rfl) (Nat.le_of_ble_eq_true rfl) (Nat.le_of_ble_eq_true rfl) (Nat.le_of_ble_eq_true rfl) (kk := fun x40 s39 hx40 Ws39 qs39 => ?_)
      obtain ⟨es39, qs39⟩ := qs39
      have es39 := es39.symm
      subst es39
      have h := h x40 hx40 qs39
      obtain ⟨hT, hF⟩ := h
      refine y_if_ne hC (pc := 45) 72 hx40 dX14_delimiter_45 (by decide) (fun c => ?_) (fun c => ?_)
      · have h := hT c
        refine z_iconst hC (pc := 72) (v := Int32.ofInt 1) dX14_delimiter_72 (by decide) ?_
        refine z_goto hC (pc := 73) 77 dX14_delimiter_73 (by decide) ?_
        refine z_istore_n hC (pc := 77) (lv' := [(2, iv 1), (1, iv (rA s11 (rR σ 15) (rF s11 0 22))), (0, .ref (κ 0))]) dX14_delimiter_77 rfl (by decide) rfl ?_
        refine z_iload_n hC (pc := 78) 0 dX14_delimiter_78 rfl rfl ?_
        refine y_if_eq hC (pc := 79) 91 (r_lit rfl) dX14_delimiter_79 (by decide) (fun c => absurd c (by decide)) (fun _ => ?_)
        refine z_aload_n hC (pc := 82) 2 dX14_delimiter_82 rfl rfl ?_
        refine z_iconst hC (pc := 83) (v := Int32.ofInt 2) dX14_delimiter_83 (by decide) ?_
        refine z_aload_n hC (pc := 84) 2 dX14_delimiter_84 rfl rfl ?_
        refine y_get hC (pc := 85) zf14 rOb_0 21 (v := iv (rF s11 0 21)) dX14_delimiter_85 zw2488 (rv_i (Or.inl rfl) rfl) (kk := ?_)
        have h := h (Ws11.f _ _)
        obtain ⟨p41, h⟩ := h
        refine y_callVv hC (pc := 88) (As := [iv 2, iv (rF s11 0 21)]) (kX14_bad l G κ s11 2 (rF s11 0 21) Ws11 (r_lit rfl) (Ws11.f _ _) p41) dmX14_bad zf14 rOb_0 dX14_delimiter_88 zw3000 rfl rfl (Nat.le_of_ble_eq_true rfl) (Nat.le_of_ble_eq_true rfl) (Nat.le_of_ble_eq_true rfl) (Nat.le_of_ble_eq_true rfl) (Nat.le_of_ble_eq_true rfl) (kk := fun s42 Ws42 qs42 => ?_)
        have h := h s42 Ws42 (qs42.1.R rfl) (qs42.1.F rfl) (qs42.1.F rfl) (qs42.1.F rfl) (qs42.1.F rfl) (qs42.1.F rfl) qs42.2
        refine z_iload_n hC (pc := 91) 1 dX14_delimiter_91 rfl rfl ?_
        exact y_reti hR dX14_delimiter_92 rfl (Ws11.a _ _) Ws42 (Nat.le_of_ble_eq_true rfl) (Nat.le_of_ble_eq_true rfl) ⟨(rKeep.tr (rKeep.tr rKeep.rf qs11.1 rfl rfl rfl rfl rfl) qs42.1 rfl rfl rfl rfl rfl), h⟩
      · have h := hF c
        refine z_iload_n hC (pc := 48) 0 dX14_delimiter_48 rfl rfl ?_
        obtain ⟨p44, h⟩ := h
        refine y_callSi hC (pc := 49) (As := [iv (rA s11 (rR σ 15) (rF s11 0 22))]) (kX14_isDigit l G κ s11 (rA s11 (rR σ 15) (rF s11 0 22)) Ws11 (Ws11.a _ _) p44) dmX14_isDigit dX14_delimiter_49 zw3015 rfl rfl (Nat.le_of_ble_eq_true rfl) (Nat.le_of_ble_eq_true rfl) (Nat.le_of_ble_eq_true rfl) (Nat.le_of_ble_eq_true rfl) (Nat.le_of_ble_eq_true rfl) (kk := fun x46 s45 hx46 Ws45 qs45 => ?_)
        obtain ⟨es45, qs45⟩ := qs45
        have es45 := es45.symm
        subst es45
        have h := h x46 hx46 qs45
        obtain ⟨hT, hF⟩ := h
        refine y_if_ne hC (pc := 52) 72 hx46 dX14_delimiter_52 (by decide) (fun c => ?_) (fun c => ?_)
        · have h := hT c
          refine z_iconst hC (pc := 72) (v := Int32.ofInt 1) dX14_delimiter_72 (by decide) ?_
          refine z_goto hC (pc := 73) 77 dX14_delimiter_73 (by decide) ?_
          refine z_istore_n hC (pc := 77) (lv' := [(2, iv 1), (1, iv (rA s11 (rR σ 15) (rF s11 0 22))), (0, .ref (κ 0))]) dX14_delimiter_77 rfl (by decide) rfl ?_
          refine z_iload_n hC (pc := 78) 0 dX14_delimiter_78 rfl rfl ?_
          refine y_if_eq hC (pc := 79) 91 (r_lit rfl) dX14_delimiter_79 (by decide) (fun c => absurd c (by decide)) (fun _ => ?_)
          refine z_aload_n hC (pc := 82) 2 dX14_delimiter_82 rfl rfl ?_
          refine z_iconst hC (pc := 83) (v := Int32.ofInt 2) dX14_delimiter_83 (by decide) ?_
          refine z_aload_n hC (pc := 84) 2 dX14_delimiter_84 rfl rfl ?_
          refine y_get hC (pc := 85) zf14 rOb_0 21 (v := iv (rF s11 0 21)) dX14_delimiter_85 zw2488 (rv_i (Or.inl rfl) rfl) (kk := ?_)
          have h := h (Ws11.f _ _)
          obtain ⟨p47, h⟩ := h
          refine y_callVv hC (pc := 88) (As := [iv 2, iv (rF s11 0 21)]) (kX14_bad l G κ s11 2 (rF s11 0 21) Ws11 (r_lit rfl) (Ws11.f _ _) p47) dmX14_bad zf14 rOb_0 dX14_delimiter_88 zw3000 rfl rfl (Nat.le_of_ble_eq_true rfl) (Nat.le_of_ble_eq_true rfl) (Nat.le_of_ble_eq_true rfl) (Nat.le_of_ble_eq_true rfl) (Nat.le_of_ble_eq_true rfl) (kk := fun s48 Ws48 qs48 => ?_)
          have h := h s48 Ws48 (qs48.1.R rfl) (qs48.1.F rfl) (qs48.1.F rfl) (qs48.1.F rfl) (qs48.1.F rfl) (qs48.1.F rfl) qs48.2
          refine z_iload_n hC (pc := 91) 1 dX14_delimiter_91 rfl rfl ?_
          exact y_reti hR dX14_delimiter_92 rfl (Ws11.a _ _) Ws48 (Nat.le_of_ble_eq_true rfl) (Nat.le_of_ble_eq_true rfl) ⟨(rKeep.tr (rKeep.tr rKeep.rf qs11.1 rfl rfl rfl rfl rfl) qs48.1 rfl rfl rfl rfl rfl), h⟩
        · have h := hF c
          refine z_iload_n hC (pc := 55) 0 dX14_delimiter_55 rfl rfl ?_
          obtain ⟨p50, h⟩ := h
          refine y_callSi hC (pc := 56) (As := [iv (rA s11 (rR σ 15) (rF s11 0 22))]) (kX14_isBlank l G κ s11 (rA s11 (rR σ 15) (rF s11 0 22)) Ws11 (Ws11.a _ _) p50) dmX14_isBlank dX14_delimiter_56 zw2997 rfl rfl (Nat.le_of_ble_eq_true rfl) (Nat.le_of_ble_eq_true rfl) (Nat.le_of_ble_eq_true rfl) (Nat.le_of_ble_eq_true rfl) (Nat.le_of_ble_eq_true rfl) (kk := fun x52 s51 hx52 Ws51 qs51 => ?_)
          obtain ⟨es51, qs51⟩ := qs51
          have es51 := es51.symm
          subst es51
          have h := h x52 hx52 qs51
          obtain ⟨hT, hF⟩ := h
          refine y_if_ne hC (pc := 59) 72 hx52 dX14_delimiter_59 (by decide) (fun c => ?_) (fun c => ?_)
          · have h := hT c
            refine z_iconst hC (pc := 72) (v := Int32.ofInt 1) dX14_delimiter_72 (by decide) ?_
            refine z_goto hC (pc := 73) 77 dX14_delimiter_73 (by decide) ?_
            refine z_istore_n hC (pc := 77) (lv' := [(2, iv 1), (1, iv (rA s11 (rR σ 15) (rF s11 0 22))), (0, .ref (κ 0))]) dX14_delimiter_77 rfl (by decide) rfl ?_
            refine z_iload_n hC (pc := 78) 0 dX14_delimiter_78 rfl rfl ?_
            refine y_if_eq hC (pc := 79) 91 (r_lit rfl) dX14_delimiter_79 (by decide) (fun c => absurd c (by decide)) (fun _ => ?_)
            refine z_aload_n hC (pc := 82) 2 dX14_delimiter_82 rfl rfl ?_
            refine z_iconst hC (pc := 83) (v := Int32.ofInt 2) dX14_delimiter_83 (by decide) ?_
            refine z_aload_n hC (pc := 84) 2 dX14_delimiter_84 rfl rfl ?_
            refine y_get hC (pc := 85) zf14 rOb_0 21 (v := iv (rF s11 0 21)) dX14_delimiter_85 zw2488 (rv_i (Or.inl rfl) rfl) (kk := ?_)
            have h := h (Ws11.f _ _)
            obtain ⟨p53, h⟩ := h
            refine y_callVv hC (pc := 88) (As := [iv 2, iv (rF s11 0 21)]) (kX14_bad l G κ s11 2 (rF s11 0 21) Ws11 (r_lit rfl) (Ws11.f _ _) p53) dmX14_bad zf14 rOb_0 dX14_delimiter_88 zw3000 rfl rfl (Nat.le_of_ble_eq_true rfl) (Nat.le_of_ble_eq_true rfl) (Nat.le_of_ble_eq_true rfl) (Nat.le_of_ble_eq_true rfl) (Nat.le_of_ble_eq_true rfl) (kk := fun s54 Ws54 qs54 => ?_)
            have h := h s54 Ws54 (qs54.1.R rfl) (qs54.1.F rfl) (qs54.1.F rfl) (qs54.1.F rfl) (qs54.1.F rfl) (qs54.1.F rfl) qs54.2
            refine z_iload_n hC (pc := 91) 1 dX14_delimiter_91 rfl rfl ?_
            exact y_reti hR dX14_delimiter_92 rfl (Ws11.a _ _) Ws54 (Nat.le_of_ble_eq_true rfl) (Nat.le_of_ble_eq_true rfl) ⟨(rKeep.tr (rKeep.tr rKeep.rf qs11.1 rfl rfl rfl rfl rfl) qs54.1 rfl rfl rfl rfl rfl), h⟩
          · have h := hF c
            refine z_ldcSw hC (pc := 62) dX14_delimiter_62 zS_29 ?_
            refine z_iload_n hC (pc := 65) 0 dX14_delimiter_65 rfl rfl ?_
            refine y_sidx hC (pc := 66) (i := (rA s11 (rR σ 15) (rF s11 0 22))) (rSt_29 G) dX14_delimiter_66 zw3032 (Nat.le_of_ble_eq_true rfl) (Nat.le_of_ble_eq_true rfl) (Nat.le_of_ble_eq_true rfl) (Nat.le_of_ble_eq_true rfl) (Nat.le_of_ble_eq_true rfl) (fun x56 hx56 => ?_)
            have h := h x56 hx56
            obtain ⟨hT, hF⟩ := h
            refine y_if_lt hC (pc := 69) 76 hx56 dX14_delimiter_69 (by decide) (fun c => ?_) (fun c => ?_)
            · have h := hT c
              refine z_iconst hC (pc := 76) (v := Int32.ofInt 0) dX14_delimiter_76 (by decide) ?_
              refine z_istore_n hC (pc := 77) (lv' := [(2, iv 0), (1, iv (rA s11 (rR σ 15) (rF s11 0 22))), (0, .ref (κ 0))]) dX14_delimiter_77 rfl (by decide) rfl ?_
              refine z_iload_n hC (pc := 78) 0 dX14_delimiter_78 rfl rfl ?_
              refine y_if_eq hC (pc := 79) 91 (r_lit rfl) dX14_delimiter_79 (by decide) (fun _ => ?_) (fun c => absurd c (by decide))
              refine z_iload_n hC (pc := 91) 1 dX14_delimiter_91 rfl rfl ?_
              exact y_reti hR dX14_delimiter_92 rfl (Ws11.a _ _) Ws11 (Nat.le_of_ble_eq_true rfl) (Nat.le_of_ble_eq_true rfl) ⟨(rKeep.tr rKeep.rf qs11.1 rfl rfl rfl rfl rfl), h⟩
            · have h := hF c
              refine z_iconst hC (pc := 72) (v := Int32.ofInt 1) dX14_delimiter_72 (by decide) ?_
              refine z_goto hC (pc := 73) 77 dX14_delimiter_73 (by decide) ?_
              refine z_istore_n hC (pc := 77) (lv' := [(2, iv 1), (1, iv (rA s11 (rR σ 15) (rF s11 0 22))), (0, .ref (κ 0))]) dX14_delimiter_77 rfl (by decide) rfl ?_
              refine z_iload_n hC (pc := 78) 0 dX14_delimiter_78 rfl rfl ?_
              refine y_if_eq hC (pc := 79) 91 (r_lit rfl) dX14_delimiter_79 (by decide) (fun c => absurd c (by decide)) (fun _ => ?_)
              refine z_aload_n hC (pc := 82) 2 dX14_delimiter_82 rfl rfl ?_
              refine z_iconst hC (pc := 83) (v := Int32.ofInt 2) dX14_delimiter_83 (by decide) ?_
              refine z_aload_n hC (pc := 84) 2 dX14_delimiter_84 rfl rfl ?_
              refine y_get hC (pc := 85) zf14 rOb_0 21 (v := iv (rF s11 0 21)) dX14_delimiter_85 zw2488 (rv_i (Or.inl rfl) rfl) (kk := ?_)
              have h := h (Ws11.f _ _)
              obtain ⟨p57, h⟩ := h
              refine y_callVv hC (pc := 88) (As := [iv 2, iv (rF s11 0 21)]) (kX14_bad l G κ s11 2 (rF s11 0 21) Ws11 (r_lit rfl) (Ws11.f _ _) p57) dmX14_bad zf14 rOb_0 dX14_delimiter_88 zw3000 rfl rfl (Nat.le_of_ble_eq_true rfl) (Nat.le_of_ble_eq_true rfl) (Nat.le_of_ble_eq_true rfl) (Nat.le_of_ble_eq_true rfl) (Nat.le_of_ble_eq_true rfl) (kk := fun s58 Ws58 qs58 => ?_)
              have h := h s58 Ws58 (qs58.1.R rfl) (qs58.1.F rfl) (qs58.1.F rfl) (qs58.1.F rfl) (qs58.1.F rfl) (qs58.1.F rfl) qs58.2
              refine z_iload_n hC (pc := 91) 1 dX14_delimiter_91 rfl rfl ?_
              exact y_reti hR dX14_delimiter_92 rfl (Ws11.a _ _) Ws58 (Nat.le_of_ble_eq_true rfl) (Nat.le_of_ble_eq_true rfl) ⟨(rKeep.tr (rKeep.tr rKeep.rf qs11.1 rfl rfl rfl rfl rfl) qs58.1 rfl rfl rfl rfl rfl), h⟩
  · have h := hF c
    refine z_iconst hC (pc := 11) (v := Int32.ofInt 0) dX14_delimiter_11 (by decide) ?_
    exact y_reti hR dX14_delimiter_12 rfl (r_lit rfl) Ws11 (Nat.le_of_ble_eq_true rfl) (Nat.le_of_ble_eq_true rfl) ⟨(rKeep.tr rKeep.rf qs11.1 rfl rfl rfl rfl rfl), h⟩
theorem kX14_delimiter (l : Launch) (G : zG) (κ : Nat → Nat) (σ : rS) (hwf : rWF σ) (hp : pre_X14_delimiter σ ) : rMi l G κ yX14_delimiter cX14_delimiter 3 .int 5 121 [.ref (κ 0)] σ (fun x s => rKeep 0xe21c00 0 0 0 0 σ s ∧ post_X14_delimiter σ x s) := wX14_delimiter l G κ σ hwf (post_X14_delimiter σ ) (vX14_delimiter σ hwf hp) 
def pre_X14_packed (σ : rS) (x1 : Int) (x2 : Int) : Prop := 0 ≤ x1 ∧ x1 ≤ x2 ∧ x2 ≤ 4000 ∧ rfk (rR σ 15) ∧ (rF σ 0 28) = 0 ∧ (rF σ 0 16) ≤ 4000
def post_X14_packed (σ : rS) (x1 : Int) (x2 : Int) (σ' : rS) : Prop := 0 ≤ (rF σ' 0 28) ∧ (rF σ' 0 28) ≤ x2 - x1
def inv_X14_packed_2 (σ : rS) (x1 : Int) (x2 : Int)  (s : rS) (k : Int) : Prop := x1 ≤ k ∧ k ≤ x2 ∧ 0 ≤ (rF s 0 28) ∧ (rF s 0 28) + x1 ≤ k
def mu_X14_packed_2 (σ : rS) (x1 : Int) (x2 : Int) (s : rS) (k : Int) : Nat := (1 + (x2 - k).toNat)
def inv_X14_packed_21 (σ : rS) (x1 : Int) (x2 : Int) (m2 : Nat) (s : rS) (k : Int) : Prop := x1 ≤ k ∧ k ≤ x2 ∧ 0 ≤ (rF s 0 28) ∧ (rF s 0 28) + x1 ≤ k ∧ (x2 - k).toNat + 1 < m2
def mu_X14_packed_21 (σ : rS) (x1 : Int) (x2 : Int) (s : rS) (k : Int) : Nat := (1 + (x2 - k).toNat)
def VC_X14_packed (σ : rS) (x1 : Int) (x2 : Int) (Q : rS → Prop) : Prop := (inv_X14_packed_2 σ x1 x2 σ x1)
def VC_X14_packed_21 (σ : rS) (x1 : Int) (x2 : Int) (Q : rS → Prop) : Prop := ∀ (m2 : Nat) (s19 : rS) (y20 : Int), rWF s19 → rng y20 → rR s19 15 = rR σ 15 → rF s19 0 16 = rF σ 0 16 → inv_X14_packed_21 σ x1 x2 m2 s19 y20 → (((x2 ≤ y20 → (inv_X14_packed_2 σ x1 x2 s19 y20 ∧ (mu_X14_packed_2 σ x1 x2 s19 y20) < m2)) ∧ (¬ x2 ≤ y20 → rfk (rR s19 15) ∧ (0 ≤ y20 ∧ y20 < 4000) ∧ (rng (rA s19 (rR s19 15) y20) → (((rA s19 (rR s19 15) y20) = 32 → rng (y20 + 1) ∧ (inv_X14_packed_21 σ x1 x2 m2 s19 (y20 + 1) ∧ (mu_X14_packed_21 σ x1 x2 s19 (y20 + 1)) < (mu_X14_packed_21 σ x1 x2 s19 y20))) ∧ (¬ (rA s19 (rR s19 15) y20) = 32 → (0 ≤ y20 ∧ y20 < 4000) ∧ ((¬ (rA s19 (rR s19 15) y20) = 9 → (inv_X14_packed_2 σ x1 x2 s19 y20 ∧ (mu_X14_packed_2 σ x1 x2 s19 y20) < m2)) ∧ ((rA s19 (rR s19 15) y20) = 9 → rng (y20 + 1) ∧ (inv_X14_packed_21 σ x1 x2 m2 s19 (y20 + 1) ∧ (mu_X14_packed_21 σ x1 x2 s19 (y20 + 1)) < (mu_X14_packed_21 σ x1 x2 s19 y20))))))))))
def VC_X14_packed_21m (σ : rS) (x1 : Int) (x2 : Int) : Prop := ∀ (m2 : Nat) (s19 : rS) (y20 : Int), rWF s19 → rng y20 → rR s19 15 = rR σ 15 → rF s19 0 16 = rF σ 0 16 → inv_X14_packed_21 σ x1 x2 m2 s19 y20 → 0 < (mu_X14_packed_21 σ x1 x2 s19 y20)
def VC_X14_packed_2 (σ : rS) (x1 : Int) (x2 : Int) (Q : rS → Prop) : Prop := ∀ (s10 : rS) (y11 : Int), rWF s10 → rng y11 → rR s10 15 = rR σ 15 → rF s10 0 16 = rF σ 0 16 → inv_X14_packed_2 σ x1 x2 s10 y11 → (((x2 ≤ y11 → Q s10) ∧ (¬ x2 ≤ y11 → rfk (rR s10 15) ∧ (0 ≤ y11 ∧ y11 < 4000) ∧ (rng (rA s10 (rR s10 15) y11) → ((¬ (rA s10 (rR s10 15) y11) = 10 → (0 ≤ y11 ∧ y11 < 4000) ∧ pre_X14_addByte s10 (rA s10 (rR s10 15) y11) y11 ∧ (∀ (s16 : rS), rWF s16 → rR s16 15 = rR s10 15 → rF s16 0 16 = rF s10 0 16 → post_X14_addByte s10 (rA s10 (rR s10 15) y11) y11 s16 → rng (y11 + 1) ∧ (inv_X14_packed_2 σ x1 x2 s16 (y11 + 1) ∧ (mu_X14_packed_2 σ x1 x2 s16 (y11 + 1)) < (mu_X14_packed_2 σ x1 x2 s10 y11)))) ∧ ((rA s10 (rR s10 15) y11) = 10 → rng (y11 + 1) ∧ (inv_X14_packed_21 σ x1 x2 (mu_X14_packed_2 σ x1 x2 s10 y11) s10 (y11 + 1))))))))
def VC_X14_packed_2m (σ : rS) (x1 : Int) (x2 : Int) : Prop := ∀ (s10 : rS) (y11 : Int), rWF s10 → rng y11 → rR s10 15 = rR σ 15 → rF s10 0 16 = rF σ 0 16 → inv_X14_packed_2 σ x1 x2 s10 y11 → 0 < (mu_X14_packed_2 σ x1 x2 s10 y11)
set_option maxHeartbeats 400000 in
theorem vX14_packed (σ : rS) (x1 : Int) (x2 : Int) (hwf : rWF σ) (hx1 : rng x1) (hx2 : rng x2) (hp : pre_X14_packed σ x1 x2) : VC_X14_packed σ x1 x2 (post_X14_packed σ x1 x2) := by
  simp only [VC_X14_packed, pre_X14_packed, post_X14_packed, inv_X14_packed_2, inv_X14_packed_21, mu_X14_packed_2, mu_X14_packed_21, pre_X14_addByte, post_X14_addByte, rng, rfk, rNMp, rF_sF, rF_sA, rF_sL, rF_sR, rA_sA, rA_sF, rA_sL, rA_sR, rR_sF, rR_sA, rR_sL, rR_sR, reduceIte, and_true, true_and, and_false, false_and, and_self] at *
  (repeat' (first | with_reducible intro _ | with_reducible apply And.intro))
  all_goals (first | assumption | omega | grind (splits := 20) [rNM_sF0])
set_option maxHeartbeats 400000 in
theorem vX14_packed_21 (σ : rS) (x1 : Int) (x2 : Int) (hwf : rWF σ) (hx1 : rng x1) (hx2 : rng x2) (hp : pre_X14_packed σ x1 x2) : VC_X14_packed_21 σ x1 x2 (post_X14_packed σ x1 x2) := by
  simp only [VC_X14_packed_21, pre_X14_packed, post_X14_packed, inv_X14_packed_2, inv_X14_packed_21, mu_X14_packed_2, mu_X14_packed_21, pre_X14_addByte, post_X14_addByte, rng, rfk, rNMp, rF_sF, rF_sA, rF_sL, rF_sR, rA_sA, rA_sF, rA_sL, rA_sR, rR_sF, rR_sA, rR_sL, rR_sR, reduceIte, and_true, true_and, and_false, false_and, and_self] at *
  (repeat' (first | with_reducible intro _ | with_reducible apply And.intro))
  all_goals (first | assumption | omega | grind (splits := 20) [rNM_sF0])
set_option maxHeartbeats 400000 in
theorem vX14_packed_21m (σ : rS) (x1 : Int) (x2 : Int) (hwf : rWF σ) (hx1 : rng x1) (hx2 : rng x2) (hp : pre_X14_packed σ x1 x2) : VC_X14_packed_21m σ x1 x2 := by
  simp only [VC_X14_packed_21m, pre_X14_packed, post_X14_packed, inv_X14_packed_2, inv_X14_packed_21, mu_X14_packed_2, mu_X14_packed_21, pre_X14_addByte, post_X14_addByte, rng, rfk, rNMp, rF_sF, rF_sA, rF_sL, rF_sR, rA_sA, rA_sF, rA_sL, rA_sR, rR_sF, rR_sA, rR_sL, rR_sR, reduceIte, and_true, true_and, and_false, false_and, and_self] at *
  (repeat' (first | with_reducible intro _ | with_reducible apply And.intro))
  all_goals (first | assumption | omega | grind (splits := 20) [rNM_sF0])
set_option maxHeartbeats 400000 in
theorem vX14_packed_2 (σ : rS) (x1 : Int) (x2 : Int) (hwf : rWF σ) (hx1 : rng x1) (hx2 : rng x2) (hp : pre_X14_packed σ x1 x2) : VC_X14_packed_2 σ x1 x2 (post_X14_packed σ x1 x2) := by
  simp only [VC_X14_packed_2, pre_X14_packed, post_X14_packed, inv_X14_packed_2, inv_X14_packed_21, mu_X14_packed_2, mu_X14_packed_21, pre_X14_addByte, post_X14_addByte, rng, rfk, rNMp, rF_sF, rF_sA, rF_sL, rF_sR, rA_sA, rA_sF, rA_sL, rA_sR, rR_sF, rR_sA, rR_sL, rR_sR, reduceIte, and_true, true_and, and_false, false_and, and_self] at *
  (repeat' (first | with_reducible intro _ | with_reducible apply And.intro))
  all_goals (first | assumption | omega | grind (splits := 20) [rNM_sF0])
set_option maxHeartbeats 400000 in
theorem vX14_packed_2m (σ : rS) (x1 : Int) (x2 : Int) (hwf : rWF σ) (hx1 : rng x1) (hx2 : rng x2) (hp : pre_X14_packed σ x1 x2) : VC_X14_packed_2m σ x1 x2 := by
  simp only [VC_X14_packed_2m, pre_X14_packed, post_X14_packed, inv_X14_packed_2, inv_X14_packed_21, mu_X14_packed_2, mu_X14_packed_21, pre_X14_addByte, post_X14_addByte, rng, rfk, rNMp, rF_sF, rF_sA, rF_sL, rF_sR, rA_sA, rA_sF, rA_sL, rA_sR, rR_sF, rR_sA, rR_sL, rR_sR, reduceIte, and_true, true_and, and_false, false_and, and_self] at *
  (repeat' (first | with_reducible intro _ | with_reducible apply And.intro))
  all_goals (first | assumption | omega | grind (splits := 20) [rNM_sF0])
theorem wX14_packed (l : Launch) (G : zG) (κ : Nat → Nat) (σ : rS) (x1 : Int) (x2 : Int) (hwf : rWF σ) (hx1 : rng x1) (hx2 : rng x2) (Q : rS → Prop) (h : VC_X14_packed σ x1 x2 Q) (h_21 : VC_X14_packed_21 σ x1 x2 Q) (h_21m : VC_X14_packed_21m σ x1 x2) (h_2 : VC_X14_packed_2 σ x1 x2 Q) (h_2m : VC_X14_packed_2m σ x1 x2) : rMv l G κ yX14_packed cX14_packed 4 2 22 [.ref (κ 0), iv x1, iv x2] σ (fun s => rKeep 0x10000000 0 0xc000000 0 0 σ s ∧ Q s) := by
  refine zMv.intro (by decide +kernel) (Nat.le_of_ble_eq_true rfl) (fun X hC hR => ?_)
  refine z_iload_n hC (pc := 0) 1 dX14_packed_0 rfl rfl ?_
  refine z_istore_n hC (pc := 1) (lv' := [(3, iv x1), (0, .ref (κ 0)), (1, iv x1), (2, iv x2)]) dX14_packed_1 rfl (by decide) rfl ?_
  have j2 : ∀ (d2 : Nat), ∀ (s10 : rS) (y11 : Int), rWF s10 → rng y11 → rKeep 0x10000000 0 0xc000000 0 0 σ s10 → inv_X14_packed_2 σ x1 x2 s10 y11 → (mu_X14_packed_2 σ x1 x2 s10 y11) ≤ d2 → zS X G 4 (rW G κ s10) [(0, .ref (κ 0)), (2, iv x2), (3, iv y11)] 0 0 2 [] := by
    intro d2
    induction d2 with
    | zero =>
      intro s10 y11 Ws10 hy11 kJ hI hmu
      exact absurd hmu (by have := h_2m  s10 y11 Ws10 hy11 (kJ.R rfl) (kJ.F rfl) hI; omega)
    | succ d2 ih2 =>
      intro s10 y11 Ws10 hy11 kJ hI hmu2
      have h := h_2  s10 y11 Ws10 hy11 (kJ.R rfl) (kJ.F rfl) hI
      refine z_iload_n hC (pc := 2) 2 dX14_packed_2 rfl rfl ?_
      refine z_iload_n hC (pc := 3) 1 dX14_packed_3 rfl rfl ?_
      obtain ⟨hT, hF⟩ := h
      refine y_icmp_ge hC (pc := 4) 71 hy11 hx2 dX14_packed_4 (by decide) (fun c => ?_) (fun c => ?_)
      · have h := hT c
        exact y_retv hR dX14_packed_71 Ws10 (Nat.le_of_ble_eq_true rfl) (Nat.le_of_ble_eq_true rfl) ⟨(rKeep.tr rKeep.rf kJ rfl rfl rfl rfl rfl), h⟩
      · have h := hF c
        refine z_aload_n hC (pc := 7) 0 dX14_packed_7 rfl rfl ?_
        obtain ⟨g12, h⟩ := h
        refine y_get hC (pc := 8) zf14 rOb_0 15 (v := .ref (κ (rR s10 15))) dX14_packed_8 zw2482 (rv_b rfl rfl g12) (kk := ?_)
        refine z_iload_n hC (pc := 11) 2 dX14_packed_11 rfl rfl ?_
        obtain ⟨b13, h⟩ := h
        refine y_bald hC (pc := 12) (rAr_f g12) dX14_packed_12 b13 (v := (rA s10 (rR s10 15) y11)) rfl (kk := ?_)
        have h := h (Ws10.a _ _)
        refine z_bipush hC (pc := 13) (v := Int32.ofInt 10) dX14_packed_13 (by decide) ?_
        obtain ⟨hT, hF⟩ := h
        refine y_icmp_ne hC (pc := 15) 54 (Ws10.a _ _) (r_lit rfl) dX14_packed_15 (by decide) (fun c => ?_) (fun c => ?_)
        · have h := hT c
          refine z_aload_n hC (pc := 54) 0 dX14_packed_54 rfl rfl ?_
          refine z_aload_n hC (pc := 55) 0 dX14_packed_55 rfl rfl ?_
          refine y_get hC (pc := 56) zf14 rOb_0 15 (v := .ref (κ (rR s10 15))) dX14_packed_56 zw2482 (rv_b rfl rfl g12) (kk := ?_)
          refine z_iload_n hC (pc := 59) 2 dX14_packed_59 rfl rfl ?_
          obtain ⟨b14, h⟩ := h
          refine y_bald hC (pc := 60) (rAr_f g12) dX14_packed_60 b14 (v := (rA s10 (rR s10 15) y11)) rfl (kk := ?_)
          refine z_iload_n hC (pc := 61) 2 dX14_packed_61 rfl rfl ?_
          obtain ⟨p15, h⟩ := h
          refine y_callVv hC (pc := 62) (As := [iv (rA s10 (rR s10 15) y11), iv y11]) (kX14_addByte l G κ s10 (rA s10 (rR s10 15) y11) y11 Ws10 (Ws10.a _ _) hy11 p15) dmX14_addByte zf14 rOb_0 dX14_packed_62 zw3087 rfl rfl (Nat.le_of_ble_eq_true rfl) (Nat.le_of_ble_eq_true rfl) (Nat.le_of_ble_eq_true rfl) (Nat.le_of_ble_eq_true rfl) (Nat.le_of_ble_eq_true rfl) (kk := fun s16 Ws16 qs16 => ?_)
          have h := h s16 Ws16 (qs16.1.R rfl) (qs16.1.F rfl) qs16.2
          refine y_iinc hC (pc := 65) (v := (y11 + 1)) (lv' := [(3, iv (y11 + 1)), (0, .ref (κ 0)), (2, iv x2)]) 2 dX14_packed_65 rfl rfl (by decide) rfl ?_
          refine z_goto hC (pc := 68) 2 dX14_packed_68 (by decide) ?_
          refine z_lvs [1, 2, 0] rfl ?_
          obtain ⟨r18, h⟩ := h
          obtain ⟨hI, hm⟩ := h
          exact ih2 s16 (y11 + 1) Ws16 r18 (rKeep.tr (rKeep.tr rKeep.rf kJ rfl rfl rfl rfl rfl) qs16.1 rfl rfl rfl rfl rfl) hI (by omega)
        · have h := hF c
          refine y_iinc hC (pc := 18) (v := (y11 + 1)) (lv' := [(3, iv (y11 + 1)), (0, .ref (κ 0)), (2, iv x2)]) 2 dX14_packed_18 rfl rfl (by decide) rfl ?_
          have j21 : ∀ (d21 : Nat), ∀ (s19 : rS) (y20 : Int), rWF s19 → rng y20 → rKeep 0x10000000 0 0xc000000 0 0 σ s19 → inv_X14_packed_21 σ x1 x2 (mu_X14_packed_2 σ x1 x2 s10 y11) s19 y20 → (mu_X14_packed_21 σ x1 x2 s19 y20) ≤ d21 → zS X G 4 (rW G κ s19) [(0, .ref (κ 0)), (2, iv x2), (3, iv y20)] 0 0 21 [] := by
            intro d21
            induction d21 with
            | zero =>
              intro s19 y20 Ws19 hy20 kJ hI hmu
              exact absurd hmu (by have := h_21m (mu_X14_packed_2 σ x1 x2 s10 y11) s19 y20 Ws19 hy20 (kJ.R rfl) (kJ.F rfl) hI; omega)
            | succ d21 ih21 =>
              intro s19 y20 Ws19 hy20 kJ hI hmu21
              have h := h_21 (mu_X14_packed_2 σ x1 x2 s10 y11) s19 y20 Ws19 hy20 (kJ.R rfl) (kJ.F rfl) hI
              refine z_iload_n hC (pc := 21) 2 dX14_packed_21 rfl rfl ?_
              refine z_iload_n hC (pc := 22) 1 dX14_packed_22 rfl rfl ?_
              obtain ⟨hT, hF⟩ := h
              refine y_icmp_ge hC (pc := 23) 2 hy20 hx2 dX14_packed_23 (by decide) (fun c => ?_) (fun c => ?_)
              · have h := hT c
                obtain ⟨hI, hm⟩ := h
                exact ih2 s19 y20 Ws19 hy20 (rKeep.tr rKeep.rf kJ rfl rfl rfl rfl rfl) hI (by omega)
              · have h := hF c
                refine z_aload_n hC (pc := 26) 0 dX14_packed_26 rfl rfl ?_
                obtain ⟨g21, h⟩ := h
                refine y_get hC (pc := 27) zf14 rOb_0 15 (v := .ref (κ (rR s19 15))) dX14_packed_27 zw2482 (rv_b rfl rfl g21) (kk := ?_)
                refine z_iload_n hC (pc := 30) 2 dX14_packed_30 rfl rfl ?_
                obtain ⟨b22, h⟩ := h
                refine y_bald hC (pc := 31) (rAr_f g21) dX14_packed_31 b22 (v := (rA s19 (rR s19 15) y20)) rfl (kk := ?_)
                have h := h (Ws19.a _ _)
                refine z_bipush hC (pc := 32) (v := Int32.ofInt 32) dX14_packed_32 (by decide) ?_
                obtain ⟨hT, hF⟩ := h
                refine y_icmp_eq hC (pc := 34) 48 (Ws19.a _ _) (r_lit rfl) dX14_packed_34 (by decide) (fun c => ?_) (fun c => ?_)
                · have h := hT c
                  refine y_iinc hC (pc := 48) (v := (y20 + 1)) (lv' := [(3, iv (y20 + 1)), (0, .ref (κ 0)), (2, iv x2)]) 2 dX14_packed_48 rfl rfl (by decide) rfl ?_
                  refine z_goto hC (pc := 51) 21 dX14_packed_51 (by decide) ?_
                  refine z_lvs [1, 2, 0] rfl ?_
                  obtain ⟨r23, h⟩ := h
                  obtain ⟨hI, hm⟩ := h
                  exact ih21 s19 (y20 + 1) Ws19 r23 (rKeep.tr rKeep.rf kJ rfl rfl rfl rfl rfl) hI (by omega)
                · have h := hF c
                  refine z_aload_n hC (pc := 37) 0 dX14_packed_37 rfl rfl ?_
                  refine y_get hC (pc := 38) zf14 rOb_0 15 (v := .ref (κ (rR s19 15))) dX14_packed_38 zw2482 (rv_b rfl rfl g21) (kk := ?_)
                  refine z_iload_n hC (pc := 41) 2 dX14_packed_41 rfl rfl ?_
                  obtain ⟨b24, h⟩ := h
                  refine y_bald hC (pc := 42) (rAr_f g21) dX14_packed_42 b24 (v := (rA s19 (rR s19 15) y20)) rfl (kk := ?_)
                  refine z_bipush hC (pc := 43) (v := Int32.ofInt 9) dX14_packed_43 (by decide) ?_
                  obtain ⟨hT, hF⟩ := h
                  refine y_icmp_ne hC (pc := 45) 2 (Ws19.a _ _) (r_lit rfl) dX14_packed_45 (by decide) (fun c => ?_) (fun c => ?_)
                  · have h := hT c
                    obtain ⟨hI, hm⟩ := h
                    exact ih2 s19 y20 Ws19 hy20 (rKeep.tr rKeep.rf kJ rfl rfl rfl rfl rfl) hI (by omega)
                  · have h := hF c
                    refine y_iinc hC (pc := 48) (v := (y20 + 1)) (lv' := [(3, iv (y20 + 1)), (0, .ref (κ 0)), (2, iv x2)]) 2 dX14_packed_48 rfl rfl (by decide) rfl ?_
                    refine z_goto hC (pc := 51) 21 dX14_packed_51 (by decide) ?_
                    refine z_lvs [1, 2, 0] rfl ?_
                    obtain ⟨r25, h⟩ := h
                    obtain ⟨hI, hm⟩ := h
                    exact ih21 s19 (y20 + 1) Ws19 r25 (rKeep.tr rKeep.rf kJ rfl rfl rfl rfl rfl) hI (by omega)
          refine z_lvs [1, 2, 0] rfl ?_
          obtain ⟨r26, h⟩ := h
          exact j21 _ s10 (y11 + 1) Ws10 r26 (rKeep.tr rKeep.rf kJ rfl rfl rfl rfl rfl) h (Nat.le_refl _)
  refine z_lvs [1, 3, 0] rfl ?_
  exact j2 _ σ x1 hwf hx1 rKeep.rf h (Nat.le_refl _)
theorem kX14_packed (l : Launch) (G : zG) (κ : Nat → Nat) (σ : rS) (x1 : Int) (x2 : Int) (hwf : rWF σ) (hx1 : rng x1) (hx2 : rng x2) (hp : pre_X14_packed σ x1 x2) : rMv l G κ yX14_packed cX14_packed 4 2 22 [.ref (κ 0), iv x1, iv x2] σ (fun s => rKeep 0x10000000 0 0xc000000 0 0 σ s ∧ post_X14_packed σ x1 x2 s) := wX14_packed l G κ σ x1 x2 hwf hx1 hx2 (post_X14_packed σ x1 x2) (vX14_packed σ x1 x2 hwf hx1 hx2 hp) (vX14_packed_21 σ x1 x2 hwf hx1 hx2 hp) (vX14_packed_21m σ x1 x2 hwf hx1 hx2 hp) (vX14_packed_2 σ x1 x2 hwf hx1 hx2 hp) (vX14_packed_2m σ x1 x2 hwf hx1 hx2 hp)
def pre_X13_own (σ : rS) (k : Nat) (x1 : Int) (x2 : Int) (x3 : Int) : Prop := 0 ≤ x1 ∧ x1 ≤ 7 ∧ (rA σ (1000 * (k + 1) + 24) (x1)) ≤ 40
def post_X13_own (σ : rS) (k : Nat) (x1 : Int) (x2 : Int) (x3 : Int) (r : Int) : Prop := r = -1 ∨ (0 ≤ r ∧ r < 320)
def inv_X13_own_6 (σ : rS) (k : Nat) (x1 : Int) (x2 : Int) (x3 : Int)  (s : rS) (kk : Int) : Prop := 40 * x1 ≤ kk ∧ kk ≤ 40 * x1 + 40
def mu_X13_own_6 (σ : rS) (k : Nat) (x1 : Int) (x2 : Int) (x3 : Int) (s : rS) (kk : Int) : Nat := (1 + (40 * x1 + 40 - kk).toNat)
def VC_X13_own (σ : rS) (k : Nat) (x1 : Int) (x2 : Int) (x3 : Int) (Q : Int → Prop) : Prop := rng (40 * x1) ∧ (inv_X13_own_6 σ k x1 x2 x3 σ (40 * x1))
def VC_X13_own_6 (σ : rS) (k : Nat) (x1 : Int) (x2 : Int) (x3 : Int) (Q : Int → Prop) : Prop := ∀ (y10 : Int), rng y10 → inv_X13_own_6 σ k x1 x2 x3 σ y10 → ((0 ≤ x1 ∧ x1 < 8) ∧ (rng (rA σ (1000 * (k + 1) + 24) x1) → rng ((40 * x1) + (rA σ (1000 * (k + 1) + 24) x1)) ∧ ((((40 * x1) + (rA σ (1000 * (k + 1) + 24) x1)) ≤ y10 → Q (-1)) ∧ (¬ ((40 * x1) + (rA σ (1000 * (k + 1) + 24) x1)) ≤ y10 → (0 ≤ y10 ∧ y10 < 320) ∧ (rng (rA σ (1000 * (k + 1) + 15) y10) → (((rA σ (1000 * (k + 1) + 15) y10) = 1 → rng (y10 + 1) ∧ (inv_X13_own_6 σ k x1 x2 x3 σ (y10 + 1) ∧ (mu_X13_own_6 σ k x1 x2 x3 σ (y10 + 1)) < (mu_X13_own_6 σ k x1 x2 x3 σ y10))) ∧ (¬ (rA σ (1000 * (k + 1) + 15) y10) = 1 → (0 ≤ y10 ∧ y10 < 320) ∧ (rng (rA σ (1000 * (k + 1) + 16) y10) → ((¬ (rA σ (1000 * (k + 1) + 16) y10) = x2 → rng (y10 + 1) ∧ (inv_X13_own_6 σ k x1 x2 x3 σ (y10 + 1) ∧ (mu_X13_own_6 σ k x1 x2 x3 σ (y10 + 1)) < (mu_X13_own_6 σ k x1 x2 x3 σ y10))) ∧ ((rA σ (1000 * (k + 1) + 16) y10) = x2 → (0 ≤ y10 ∧ y10 < 320) ∧ ((¬ (rA σ (1000 * (k + 1) + 15) y10) = 3 → ((¬ 0 = x3 → rng (y10 + 1) ∧ (inv_X13_own_6 σ k x1 x2 x3 σ (y10 + 1) ∧ (mu_X13_own_6 σ k x1 x2 x3 σ (y10 + 1)) < (mu_X13_own_6 σ k x1 x2 x3 σ y10))) ∧ (0 = x3 → Q y10))) ∧ ((rA σ (1000 * (k + 1) + 15) y10) = 3 → ((¬ 1 = x3 → rng (y10 + 1) ∧ (inv_X13_own_6 σ k x1 x2 x3 σ (y10 + 1) ∧ (mu_X13_own_6 σ k x1 x2 x3 σ (y10 + 1)) < (mu_X13_own_6 σ k x1 x2 x3 σ y10))) ∧ (1 = x3 → Q y10))))))))))))))
def VC_X13_own_6m (σ : rS) (k : Nat) (x1 : Int) (x2 : Int) (x3 : Int) : Prop := ∀ (y10 : Int), rng y10 → inv_X13_own_6 σ k x1 x2 x3 σ y10 → 0 < (mu_X13_own_6 σ k x1 x2 x3 σ y10)
set_option maxHeartbeats 400000 in
theorem vX13_own (σ : rS) (k : Nat) (x1 : Int) (x2 : Int) (x3 : Int) (hwf : rWF σ) (hk : rgk k) (hx1 : rng x1) (hx2 : rng x2) (hx3 : rng x3) (hp : pre_X13_own σ k x1 x2 x3) : VC_X13_own σ k x1 x2 x3 (post_X13_own σ k x1 x2 x3) := by
  simp only [VC_X13_own, pre_X13_own, post_X13_own, inv_X13_own_6, mu_X13_own_6, rng, rfk, rNMp, rF_sF, rF_sA, rF_sL, rF_sR, rA_sA, rA_sF, rA_sL, rA_sR, rR_sF, rR_sA, rR_sL, rR_sR, reduceIte, and_true, true_and, and_false, false_and, and_self] at *
  (repeat' (first | with_reducible intro _ | with_reducible apply And.intro))
  all_goals (first | assumption | omega | grind (splits := 20) [rNM_sF0])
set_option maxHeartbeats 400000 in
theorem vX13_own_6 (σ : rS) (k : Nat) (x1 : Int) (x2 : Int) (x3 : Int) (hwf : rWF σ) (hk : rgk k) (hx1 : rng x1) (hx2 : rng x2) (hx3 : rng x3) (hp : pre_X13_own σ k x1 x2 x3) : VC_X13_own_6 σ k x1 x2 x3 (post_X13_own σ k x1 x2 x3) := by
  simp only [VC_X13_own_6, pre_X13_own, post_X13_own, inv_X13_own_6, mu_X13_own_6, rng, rfk, rNMp, rF_sF, rF_sA, rF_sL, rF_sR, rA_sA, rA_sF, rA_sL, rA_sR, rR_sF, rR_sA, rR_sL, rR_sR, reduceIte, and_true, true_and, and_false, false_and, and_self] at *
  (repeat' (first | with_reducible intro _ | with_reducible apply And.intro))
  all_goals (first | assumption | omega | grind (splits := 20) [rNM_sF0])
set_option maxHeartbeats 400000 in
theorem vX13_own_6m (σ : rS) (k : Nat) (x1 : Int) (x2 : Int) (x3 : Int) (hwf : rWF σ) (hk : rgk k) (hx1 : rng x1) (hx2 : rng x2) (hx3 : rng x3) (hp : pre_X13_own σ k x1 x2 x3) : VC_X13_own_6m σ k x1 x2 x3 := by
  simp only [VC_X13_own_6m, pre_X13_own, post_X13_own, inv_X13_own_6, mu_X13_own_6, rng, rfk, rNMp, rF_sF, rF_sA, rF_sL, rF_sR, rA_sA, rA_sF, rA_sL, rA_sR, rR_sF, rR_sA, rR_sL, rR_sR, reduceIte, and_true, true_and, and_false, false_and, and_self] at *
  (repeat' (first | with_reducible intro _ | with_reducible apply And.intro))
  all_goals (first | assumption | omega | grind (splits := 20) [rNM_sF0])
theorem wX13_own (l : Launch) (G : zG) (κ : Nat → Nat) (σ : rS) (k : Nat) (x1 : Int) (x2 : Int) (x3 : Int) (hwf : rWF σ) (hk : rgk k) (hx1 : rng x1) (hx2 : rng x2) (hx3 : rng x3) (Q : Int → Prop) (h : VC_X13_own σ k x1 x2 x3 Q) (h_6 : VC_X13_own_6 σ k x1 x2 x3 Q) (h_6m : VC_X13_own_6m σ k x1 x2 x3) : rMi l G κ yX13_own cX13_own 5 .int 1 0 [.ref (κ k), iv x1, iv x2, iv x3] σ (fun x s => s = σ ∧ Q x) := by
  refine zMi.intro (by decide +kernel) (Nat.le_of_ble_eq_true rfl) (fun X hC hR => ?_)
  refine z_bipush hC (pc := 0) (v := Int32.ofInt 40) dX13_own_0 (by decide) ?_
  refine z_iload_n hC (pc := 2) 1 dX13_own_2 rfl rfl ?_
  refine y_imul hC (pc := 3) (v := (40 * x1)) dX13_own_3 rfl ?_
  refine z_istore hC (pc := 4) (lv' := [(4, iv (40 * x1)), (0, .ref (κ k)), (1, iv x1), (2, iv x2), (3, iv x3)]) dX13_own_4 (by decide) rfl ?_
  have j6 : ∀ (d6 : Nat), ∀ (y10 : Int), rng y10 → inv_X13_own_6 σ k x1 x2 x3 σ y10 → (mu_X13_own_6 σ k x1 x2 x3 σ y10) ≤ d6 → zS X G 5 (rW G κ σ) [(0, .ref (κ k)), (1, iv x1), (2, iv x2), (3, iv x3), (4, iv y10)] 0 0 6 [] := by
    intro d6
    induction d6 with
    | zero =>
      intro y10 hy10 hI hmu
      exact absurd hmu (by have := h_6m   y10  hy10  hI; omega)
    | succ d6 ih6 =>
      intro y10 hy10 hI hmu6
      have h := h_6   y10  hy10  hI
      refine z_iload hC (pc := 6) 4 dX13_own_6 rfl ?_
      refine z_bipush hC (pc := 8) (v := Int32.ofInt 40) dX13_own_8 (by decide) ?_
      refine z_iload_n hC (pc := 10) 1 dX13_own_10 rfl rfl ?_
      refine y_imul hC (pc := 11) (v := (40 * x1)) dX13_own_11 rfl ?_
      refine z_aload_n hC (pc := 12) 0 dX13_own_12 rfl rfl ?_
      refine y_get hC (pc := 13) zf13 (rOb_k hk) 24 (v := .ref (κ (1000 * (k + 1) + 24))) dX13_own_13 zw2355 (rv_c rfl) (kk := ?_)
      refine z_iload_n hC (pc := 16) 1 dX13_own_16 rfl rfl ?_
      obtain ⟨b11, h⟩ := h
      refine y_iald hC (pc := 17) (rAr_k hk rfl rfl) dX13_own_17 b11 (v := (rA σ (1000 * (k + 1) + 24) x1)) rfl (kk := ?_)
      have h := h (hwf.a _ _)
      refine y_iadd hC (pc := 18) (v := ((40 * x1) + (rA σ (1000 * (k + 1) + 24) x1))) dX13_own_18 rfl ?_
      obtain ⟨r12, h⟩ := h
      obtain ⟨hT, hF⟩ := h
      refine y_icmp_ge hC (pc := 19) 73 hy10 r12 dX13_own_19 (by decide) (fun c => ?_) (fun c => ?_)
      · have h := hT c
        refine z_iconst hC (pc := 73) (v := Int32.ofInt (-1)) dX13_own_73 (by decide) ?_
        exact y_reti hR dX13_own_74 rfl (r_lit rfl) hwf (Nat.le_of_ble_eq_true rfl) (Nat.le_of_ble_eq_true rfl) ⟨rfl, h⟩
      · have h := hF c
        refine z_aload_n hC (pc := 22) 0 dX13_own_22 rfl rfl ?_
        refine y_get hC (pc := 23) zf13 (rOb_k hk) 15 (v := .ref (κ (1000 * (k + 1) + 15))) dX13_own_23 zw2337 (rv_c rfl) (kk := ?_)
        refine z_iload hC (pc := 26) 4 dX13_own_26 rfl ?_
        obtain ⟨b13, h⟩ := h
        refine y_iald hC (pc := 28) (rAr_k hk rfl rfl) dX13_own_28 b13 (v := (rA σ (1000 * (k + 1) + 15) y10)) rfl (kk := ?_)
        have h := h (hwf.a _ _)
        refine z_iconst hC (pc := 29) (v := Int32.ofInt 1) dX13_own_29 (by decide) ?_
        obtain ⟨hT, hF⟩ := h
        refine y_icmp_eq hC (pc := 30) 67 (hwf.a _ _) (r_lit rfl) dX13_own_30 (by decide) (fun c => ?_) (fun c => ?_)
        · have h := hT c
          refine y_iinc hC (pc := 67) (v := (y10 + 1)) (lv' := [(4, iv (y10 + 1)), (0, .ref (κ k)), (1, iv x1), (2, iv x2), (3, iv x3)]) 4 dX13_own_67 rfl rfl (by decide) rfl ?_
          refine z_goto hC (pc := 70) 6 dX13_own_70 (by decide) ?_
          refine z_lvs [1, 2, 3, 4, 0] rfl ?_
          obtain ⟨r14, h⟩ := h
          obtain ⟨hI, hm⟩ := h
          exact ih6  (y10 + 1)  r14  hI (by omega)
        · have h := hF c
          refine z_aload_n hC (pc := 33) 0 dX13_own_33 rfl rfl ?_
          refine y_get hC (pc := 34) zf13 (rOb_k hk) 16 (v := .ref (κ (1000 * (k + 1) + 16))) dX13_own_34 zw2339 (rv_c rfl) (kk := ?_)
          refine z_iload hC (pc := 37) 4 dX13_own_37 rfl ?_
          obtain ⟨b15, h⟩ := h
          refine y_iald hC (pc := 39) (rAr_k hk rfl rfl) dX13_own_39 b15 (v := (rA σ (1000 * (k + 1) + 16) y10)) rfl (kk := ?_)
          have h := h (hwf.a _ _)
          refine z_iload_n hC (pc := 40) 2 dX13_own_40 rfl rfl ?_
          obtain ⟨hT, hF⟩ := h
          refine y_icmp_ne hC (pc := 41) 67 (hwf.a _ _) hx2 dX13_own_41 (by decide) (fun c => ?_) (fun c => ?_)
          · have h := hT c
            refine y_iinc hC (pc := 67) (v := (y10 + 1)) (lv' := [(4, iv (y10 + 1)), (0, .ref (κ k)), (1, iv x1), (2, iv x2), (3, iv x3)]) 4 dX13_own_67 rfl rfl (by decide) rfl ?_
            refine z_goto hC (pc := 70) 6 dX13_own_70 (by decide) ?_
            refine z_lvs [1, 2, 3, 4, 0] rfl ?_
            obtain ⟨r16, h⟩ := h
            obtain ⟨hI, hm⟩ := h
            exact ih6  (y10 + 1)  r16  hI (by omega)
          · have h := hF c
            refine z_aload_n hC (pc := 44) 0 dX13_own_44 rfl rfl ?_
            refine y_get hC (pc := 45) zf13 (rOb_k hk) 15 (v := .ref (κ (1000 * (k + 1) + 15))) dX13_own_45 zw2337 (rv_c rfl) (kk := ?_)
            refine z_iload hC (pc := 48) 4 dX13_own_48 rfl ?_
            obtain ⟨b17, h⟩ := h
            refine y_iald hC (pc := 50) (rAr_k hk rfl rfl) dX13_own_50 b17 (v := (rA σ (1000 * (k + 1) + 15) y10)) rfl (kk := ?_)
            refine z_iconst hC (pc := 51) (v := Int32.ofInt 3) dX13_own_51 (by decide) ?_
            obtain ⟨hT, hF⟩ := h
            refine y_icmp_ne hC (pc := 52) 59 (hwf.a _ _) (r_lit rfl) dX13_own_52 (by decide) (fun c => ?_) (fun c => ?_)
            · have h := hT c
              refine z_iconst hC (pc := 59) (v := Int32.ofInt 0) dX13_own_59 (by decide) ?_
              refine z_iload_n hC (pc := 60) 3 dX13_own_60 rfl rfl ?_
              obtain ⟨hT, hF⟩ := h
              refine y_icmp_ne hC (pc := 61) 67 (r_lit rfl) hx3 dX13_own_61 (by decide) (fun c => ?_) (fun c => ?_)
              · have h := hT c
                refine y_iinc hC (pc := 67) (v := (y10 + 1)) (lv' := [(4, iv (y10 + 1)), (0, .ref (κ k)), (1, iv x1), (2, iv x2), (3, iv x3)]) 4 dX13_own_67 rfl rfl (by decide) rfl ?_
                refine z_goto hC (pc := 70) 6 dX13_own_70 (by decide) ?_
                refine z_lvs [1, 2, 3, 4, 0] rfl ?_
                obtain ⟨r18, h⟩ := h
                obtain ⟨hI, hm⟩ := h
                exact ih6  (y10 + 1)  r18  hI (by omega)
              · have h := hF c
                refine z_iload hC (pc := 64) 4 dX13_own_64 rfl ?_
                exact y_reti hR dX13_own_66 rfl hy10 hwf (Nat.le_of_ble_eq_true rfl) (Nat.le_of_ble_eq_true rfl) ⟨rfl, h⟩
            · have h := hF c
              refine z_iconst hC (pc := 55) (v := Int32.ofInt 1) dX13_own_55 (by decide) ?_
              refine z_goto hC (pc := 56) 60 dX13_own_56 (by decide) ?_
              refine z_iload_n hC (pc := 60) 3 dX13_own_60 rfl rfl ?_
              obtain ⟨hT, hF⟩ := h
              refine y_icmp_ne hC (pc := 61) 67 (r_lit rfl) hx3 dX13_own_61 (by decide) (fun c => ?_) (fun c => ?_)
              · have h := hT c
                refine y_iinc hC (pc := 67) (v := (y10 + 1)) (lv' := [(4, iv (y10 + 1)), (0, .ref (κ k)), (1, iv x1), (2, iv x2), (3, iv x3)]) 4 dX13_own_67 rfl rfl (by decide) rfl ?_
                refine z_goto hC (pc := 70) 6 dX13_own_70 (by decide) ?_
                refine z_lvs [1, 2, 3, 4, 0] rfl ?_
                obtain ⟨r19, h⟩ := h
                obtain ⟨hI, hm⟩ := h
                exact ih6  (y10 + 1)  r19  hI (by omega)
              · have h := hF c
                refine z_iload hC (pc := 64) 4 dX13_own_64 rfl ?_
                exact y_reti hR dX13_own_66 rfl hy10 hwf (Nat.le_of_ble_eq_true rfl) (Nat.le_of_ble_eq_true rfl) ⟨rfl, h⟩
  refine z_lvs [1, 2, 3, 4, 0] rfl ?_
  obtain ⟨r20, h⟩ := h
  exact j6 _  (40 * x1)  r20  h (Nat.le_refl _)
theorem kX13_own (l : Launch) (G : zG) (κ : Nat → Nat) (σ : rS) (k : Nat) (x1 : Int) (x2 : Int) (x3 : Int) (hwf : rWF σ) (hk : rgk k) (hx1 : rng x1) (hx2 : rng x2) (hx3 : rng x3) (hp : pre_X13_own σ k x1 x2 x3) : rMi l G κ yX13_own cX13_own 5 .int 1 0 [.ref (κ k), iv x1, iv x2, iv x3] σ (fun x s => s = σ ∧ post_X13_own σ k x1 x2 x3 x) := wX13_own l G κ σ k x1 x2 x3 hwf hk hx1 hx2 hx3 (post_X13_own σ k x1 x2 x3) (vX13_own σ k x1 x2 x3 hwf hk hx1 hx2 hx3 hp) (vX13_own_6 σ k x1 x2 x3 hwf hk hx1 hx2 hx3 hp) (vX13_own_6m σ k x1 x2 x3 hwf hk hx1 hx2 hx3 hp)
def pre_X13_isOwn (σ : rS) (k : Nat) (x1 : Int) (x2 : Int) : Prop := 0 ≤ x1 ∧ x1 ≤ 7 ∧ (rA σ (1000 * (k + 1) + 24) (x1)) ≤ 40
def post_X13_isOwn (σ : rS) (k : Nat) (x1 : Int) (x2 : Int) (r : Int) : Prop := r = 0 ∨ r = 1
def VC_X13_isOwn (σ : rS) (k : Nat) (x1 : Int) (x2 : Int) (Q : Int → Prop) : Prop := pre_X13_own σ k x1 x2 0 ∧ (∀ (x12 : Int), rng x12 → post_X13_own σ k x1 x2 0 x12 → ((0 ≤ x12 → Q 1) ∧ (¬ 0 ≤ x12 → pre_X13_own σ k x1 x2 1 ∧ (∀ (x15 : Int), rng x15 → post_X13_own σ k x1 x2 1 x15 → ((x15 < 0 → Q 0) ∧ (¬ x15 < 0 → Q 1))))))
set_option maxHeartbeats 400000 in
theorem vX13_isOwn (σ : rS) (k : Nat) (x1 : Int) (x2 : Int) (hwf : rWF σ) (hk : rgk k) (hx1 : rng x1) (hx2 : rng x2) (hp : pre_X13_isOwn σ k x1 x2) : VC_X13_isOwn σ k x1 x2 (post_X13_isOwn σ k x1 x2) := by
  simp only [VC_X13_isOwn, pre_X13_isOwn, post_X13_isOwn, pre_X13_own, post_X13_own, rng, rfk, rNMp, rF_sF, rF_sA, rF_sL, rF_sR, rA_sA, rA_sF, rA_sL, rA_sR, rR_sF, rR_sA, rR_sL, rR_sR, reduceIte, and_true, true_and, and_false, false_and, and_self] at *
  (repeat' (first | with_reducible intro _ | with_reducible apply And.intro))
  all_goals (first | assumption | omega | grind (splits := 20) [rNM_sF0])
theorem wX13_isOwn (l : Launch) (G : zG) (κ : Nat → Nat) (σ : rS) (k : Nat) (x1 : Int) (x2 : Int) (hwf : rWF σ) (hk : rgk k) (hx1 : rng x1) (hx2 : rng x2) (Q : Int → Prop) (h : VC_X13_isOwn σ k x1 x2 Q) : rMi l G κ yX13_isOwn cX13_isOwn 3 .boolean 2 24 [.ref (κ k), iv x1, iv x2] σ (fun x s => s = σ ∧ Q x) := by
  refine zMi.intro (by decide +kernel) (Nat.le_of_ble_eq_true rfl) (fun X hC hR => ?_)
  refine z_aload_n hC (pc := 0) 0 dX13_isOwn_0 rfl rfl ?_
  refine z_iload_n hC (pc := 1) 1 dX13_isOwn_1 rfl rfl ?_
  refine z_iload_n hC (pc := 2) 2 dX13_isOwn_2 rfl rfl ?_
  refine z_iconst hC (pc := 3) (v := Int32.ofInt 0) dX13_isOwn_3 (by decide) ?_
  obtain ⟨p10, h⟩ := h
  refine y_callVi hC (pc := 4) (As := [iv x1, iv x2, iv 0]) (kX13_own l G κ σ k x1 x2 0 hwf hk hx1 hx2 (r_lit rfl) p10) dmX13_own zf13 (rOb_k hk) dX13_isOwn_4 zw3315 rfl rfl (Nat.le_of_ble_eq_true rfl) (Nat.le_of_ble_eq_true rfl) (Nat.le_of_ble_eq_true rfl) (Nat.le_of_ble_eq_true rfl) (Nat.le_of_ble_eq_true rfl) (kk := fun x12 s11 hx12 Ws11 qs11 => ?_)
  obtain ⟨es11, qs11⟩ := qs11
  have es11 := es11.symm
  subst es11
  have h := h x12 hx12 qs11
  obtain ⟨hT, hF⟩ := h
  refine y_if_ge hC (pc := 7) 20 hx12 dX13_isOwn_7 (by decide) (fun c => ?_) (fun c => ?_)
  · have h := hT c
    refine z_iconst hC (pc := 20) (v := Int32.ofInt 1) dX13_isOwn_20 (by decide) ?_
    refine z_goto hC (pc := 21) 25 dX13_isOwn_21 (by decide) ?_
    exact y_reti hR dX13_isOwn_25 rfl (r_lit rfl) hwf (Nat.le_of_ble_eq_true rfl) (Nat.le_of_ble_eq_true rfl) ⟨rfl, h⟩
  · have h := hF c
    refine z_aload_n hC (pc := 10) 0 dX13_isOwn_10 rfl rfl ?_
    refine z_iload_n hC (pc := 11) 1 dX13_isOwn_11 rfl rfl ?_
    refine z_iload_n hC (pc := 12) 2 dX13_isOwn_12 rfl rfl ?_
    refine z_iconst hC (pc := 13) (v := Int32.ofInt 1) dX13_isOwn_13 (by decide) ?_
    obtain ⟨p13, h⟩ := h
    refine y_callVi hC (pc := 14) (As := [iv x1, iv x2, iv 1]) (kX13_own l G κ σ k x1 x2 1 hwf hk hx1 hx2 (r_lit rfl) p13) dmX13_own zf13 (rOb_k hk) dX13_isOwn_14 zw3315 rfl rfl (Nat.le_of_ble_eq_true rfl) (Nat.le_of_ble_eq_true rfl) (Nat.le_of_ble_eq_true rfl) (Nat.le_of_ble_eq_true rfl) (Nat.le_of_ble_eq_true rfl) (kk := fun x15 s14 hx15 Ws14 qs14 => ?_)
    obtain ⟨es14, qs14⟩ := qs14
    have es14 := es14.symm
    subst es14
    have h := h x15 hx15 qs14
    obtain ⟨hT, hF⟩ := h
    refine y_if_lt hC (pc := 17) 24 hx15 dX13_isOwn_17 (by decide) (fun c => ?_) (fun c => ?_)
    · have h := hT c
      refine z_iconst hC (pc := 24) (v := Int32.ofInt 0) dX13_isOwn_24 (by decide) ?_
      exact y_reti hR dX13_isOwn_25 rfl (r_lit rfl) hwf (Nat.le_of_ble_eq_true rfl) (Nat.le_of_ble_eq_true rfl) ⟨rfl, h⟩
    · have h := hF c
      refine z_iconst hC (pc := 20) (v := Int32.ofInt 1) dX13_isOwn_20 (by decide) ?_
      refine z_goto hC (pc := 21) 25 dX13_isOwn_21 (by decide) ?_
      exact y_reti hR dX13_isOwn_25 rfl (r_lit rfl) hwf (Nat.le_of_ble_eq_true rfl) (Nat.le_of_ble_eq_true rfl) ⟨rfl, h⟩
theorem kX13_isOwn (l : Launch) (G : zG) (κ : Nat → Nat) (σ : rS) (k : Nat) (x1 : Int) (x2 : Int) (hwf : rWF σ) (hk : rgk k) (hx1 : rng x1) (hx2 : rng x2) (hp : pre_X13_isOwn σ k x1 x2) : rMi l G κ yX13_isOwn cX13_isOwn 3 .boolean 2 24 [.ref (κ k), iv x1, iv x2] σ (fun x s => s = σ ∧ post_X13_isOwn σ k x1 x2 x) := wX13_isOwn l G κ σ k x1 x2 hwf hk hx1 hx2 (post_X13_isOwn σ k x1 x2) (vX13_isOwn σ k x1 x2 hwf hk hx1 hx2 hp) 
def pre_X13_partOf (σ : rS) (k : Nat) (x1 : Int) (x2 : Int) : Prop := (rF σ k 32) ≤ 5400 ∧ (∀ j, 0 ≤ j → j < (rF σ k 32) → 0 ≤ (rA σ (1000 * (k + 1) + 31) (j)) ∧ (rA σ (1000 * (k + 1) + 31) (j)) < 50000)
def post_X13_partOf (σ : rS) (k : Nat) (x1 : Int) (x2 : Int) (r : Int) : Prop := r = -1 ∨ (0 ≤ r ∧ r < 50000)
def inv_X13_partOf_2 (σ : rS) (k : Nat) (x1 : Int) (x2 : Int)  (s : rS) (kk : Int) : Prop := 0 ≤ kk
def mu_X13_partOf_2 (σ : rS) (k : Nat) (x1 : Int) (x2 : Int) (s : rS) (kk : Int) : Nat := (1 + (5400 - kk).toNat)
def VC_X13_partOf (σ : rS) (k : Nat) (x1 : Int) (x2 : Int) (Q : Int → Prop) : Prop := (inv_X13_partOf_2 σ k x1 x2 σ 0)
def VC_X13_partOf_2 (σ : rS) (k : Nat) (x1 : Int) (x2 : Int) (Q : Int → Prop) : Prop := ∀ (y10 : Int), rng y10 → inv_X13_partOf_2 σ k x1 x2 σ y10 → ((rng (rF σ k 32) → (((rF σ k 32) ≤ y10 → Q (-1)) ∧ (¬ (rF σ k 32) ≤ y10 → (0 ≤ y10 ∧ y10 < 5400) ∧ (rng (rA σ (1000 * (k + 1) + 29) y10) → ((¬ (rA σ (1000 * (k + 1) + 29) y10) = x1 → rng (y10 + 1) ∧ (inv_X13_partOf_2 σ k x1 x2 σ (y10 + 1) ∧ (mu_X13_partOf_2 σ k x1 x2 σ (y10 + 1)) < (mu_X13_partOf_2 σ k x1 x2 σ y10))) ∧ ((rA σ (1000 * (k + 1) + 29) y10) = x1 → (0 ≤ y10 ∧ y10 < 5400) ∧ (rng (rA σ (1000 * (k + 1) + 30) y10) → ((¬ (rA σ (1000 * (k + 1) + 30) y10) = x2 → rng (y10 + 1) ∧ (inv_X13_partOf_2 σ k x1 x2 σ (y10 + 1) ∧ (mu_X13_partOf_2 σ k x1 x2 σ (y10 + 1)) < (mu_X13_partOf_2 σ k x1 x2 σ y10))) ∧ ((rA σ (1000 * (k + 1) + 30) y10) = x2 → (0 ≤ y10 ∧ y10 < 5400) ∧ (rng (rA σ (1000 * (k + 1) + 31) y10) → Q (rA σ (1000 * (k + 1) + 31) y10))))))))))))
def VC_X13_partOf_2m (σ : rS) (k : Nat) (x1 : Int) (x2 : Int) : Prop := ∀ (y10 : Int), rng y10 → inv_X13_partOf_2 σ k x1 x2 σ y10 → 0 < (mu_X13_partOf_2 σ k x1 x2 σ y10)
set_option maxHeartbeats 400000 in
theorem vX13_partOf (σ : rS) (k : Nat) (x1 : Int) (x2 : Int) (hwf : rWF σ) (hk : rgk k) (hx1 : rng x1) (hx2 : rng x2) (hp : pre_X13_partOf σ k x1 x2) : VC_X13_partOf σ k x1 x2 (post_X13_partOf σ k x1 x2) := by
  simp only [VC_X13_partOf, pre_X13_partOf, post_X13_partOf, inv_X13_partOf_2, mu_X13_partOf_2, rng, rfk, rNMp, rF_sF, rF_sA, rF_sL, rF_sR, rA_sA, rA_sF, rA_sL, rA_sR, rR_sF, rR_sA, rR_sL, rR_sR, reduceIte, and_true, true_and, and_false, false_and, and_self] at *
  (repeat' (first | with_reducible intro _ | with_reducible apply And.intro))
  all_goals (first | assumption | omega | grind (splits := 20) [rNM_sF0])
set_option maxHeartbeats 400000 in
theorem vX13_partOf_2 (σ : rS) (k : Nat) (x1 : Int) (x2 : Int) (hwf : rWF σ) (hk : rgk k) (hx1 : rng x1) (hx2 : rng x2) (hp : pre_X13_partOf σ k x1 x2) : VC_X13_partOf_2 σ k x1 x2 (post_X13_partOf σ k x1 x2) := by
  simp only [VC_X13_partOf_2, pre_X13_partOf, post_X13_partOf, inv_X13_partOf_2, mu_X13_partOf_2, rng, rfk, rNMp, rF_sF, rF_sA, rF_sL, rF_sR, rA_sA, rA_sF, rA_sL, rA_sR, rR_sF, rR_sA, rR_sL, rR_sR, reduceIte, and_true, true_and, and_false, false_and, and_self] at *
  (repeat' (first | with_reducible intro _ | with_reducible apply And.intro))
  all_goals (first | assumption | omega | grind (splits := 20) [rNM_sF0])
set_option maxHeartbeats 400000 in
theorem vX13_partOf_2m (σ : rS) (k : Nat) (x1 : Int) (x2 : Int) (hwf : rWF σ) (hk : rgk k) (hx1 : rng x1) (hx2 : rng x2) (hp : pre_X13_partOf σ k x1 x2) : VC_X13_partOf_2m σ k x1 x2 := by
  simp only [VC_X13_partOf_2m, pre_X13_partOf, post_X13_partOf, inv_X13_partOf_2, mu_X13_partOf_2, rng, rfk, rNMp, rF_sF, rF_sA, rF_sL, rF_sR, rA_sA, rA_sF, rA_sL, rA_sR, rR_sF, rR_sA, rR_sL, rR_sR, reduceIte, and_true, true_and, and_false, false_and, and_self] at *
  (repeat' (first | with_reducible intro _ | with_reducible apply And.intro))
  all_goals (first | assumption | omega | grind (splits := 20) [rNM_sF0])
theorem wX13_partOf (l : Launch) (G : zG) (κ : Nat → Nat) (σ : rS) (k : Nat) (x1 : Int) (x2 : Int) (hwf : rWF σ) (hk : rgk k) (hx1 : rng x1) (hx2 : rng x2) (Q : Int → Prop) (h : VC_X13_partOf σ k x1 x2 Q) (h_2 : VC_X13_partOf_2 σ k x1 x2 Q) (h_2m : VC_X13_partOf_2m σ k x1 x2) : rMi l G κ yX13_partOf cX13_partOf 4 .int 1 0 [.ref (κ k), iv x1, iv x2] σ (fun x s => s = σ ∧ Q x) := by
  refine zMi.intro (by decide +kernel) (Nat.le_of_ble_eq_true rfl) (fun X hC hR => ?_)
  refine z_iconst hC (pc := 0) (v := Int32.ofInt 0) dX13_partOf_0 (by decide) ?_
  refine z_istore_n hC (pc := 1) (lv' := [(3, iv 0), (0, .ref (κ k)), (1, iv x1), (2, iv x2)]) dX13_partOf_1 rfl (by decide) rfl ?_
  have j2 : ∀ (d2 : Nat), ∀ (y10 : Int), rng y10 → inv_X13_partOf_2 σ k x1 x2 σ y10 → (mu_X13_partOf_2 σ k x1 x2 σ y10) ≤ d2 → zS X G 4 (rW G κ σ) [(0, .ref (κ k)), (1, iv x1), (2, iv x2), (3, iv y10)] 0 0 2 [] := by
    intro d2
    induction d2 with
    | zero =>
      intro y10 hy10 hI hmu
      exact absurd hmu (by have := h_2m   y10  hy10  hI; omega)
    | succ d2 ih2 =>
      intro y10 hy10 hI hmu2
      have h := h_2   y10  hy10  hI
      refine z_iload_n hC (pc := 2) 3 dX13_partOf_2 rfl rfl ?_
      refine z_aload_n hC (pc := 3) 0 dX13_partOf_3 rfl rfl ?_
      refine y_get hC (pc := 4) zf13 (rOb_k hk) 32 (v := iv (rF σ k 32)) dX13_partOf_4 zw2371 (rv_i (Or.inl rfl) rfl) (kk := ?_)
      have h := h (hwf.f _ _)
      obtain ⟨hT, hF⟩ := h
      refine y_icmp_ge hC (pc := 7) 43 hy10 (hwf.f _ _) dX13_partOf_7 (by decide) (fun c => ?_) (fun c => ?_)
      · have h := hT c
        refine z_iconst hC (pc := 43) (v := Int32.ofInt (-1)) dX13_partOf_43 (by decide) ?_
        exact y_reti hR dX13_partOf_44 rfl (r_lit rfl) hwf (Nat.le_of_ble_eq_true rfl) (Nat.le_of_ble_eq_true rfl) ⟨rfl, h⟩
      · have h := hF c
        refine z_aload_n hC (pc := 10) 0 dX13_partOf_10 rfl rfl ?_
        refine y_get hC (pc := 11) zf13 (rOb_k hk) 29 (v := .ref (κ (1000 * (k + 1) + 29))) dX13_partOf_11 zw2365 (rv_c rfl) (kk := ?_)
        refine z_iload_n hC (pc := 14) 3 dX13_partOf_14 rfl rfl ?_
        obtain ⟨b11, h⟩ := h
        refine y_iald hC (pc := 15) (rAr_k hk rfl rfl) dX13_partOf_15 b11 (v := (rA σ (1000 * (k + 1) + 29) y10)) rfl (kk := ?_)
        have h := h (hwf.a _ _)
        refine z_iload_n hC (pc := 16) 1 dX13_partOf_16 rfl rfl ?_
        obtain ⟨hT, hF⟩ := h
        refine y_icmp_ne hC (pc := 17) 37 (hwf.a _ _) hx1 dX13_partOf_17 (by decide) (fun c => ?_) (fun c => ?_)
        · have h := hT c
          refine y_iinc hC (pc := 37) (v := (y10 + 1)) (lv' := [(3, iv (y10 + 1)), (0, .ref (κ k)), (1, iv x1), (2, iv x2)]) 3 dX13_partOf_37 rfl rfl (by decide) rfl ?_
          refine z_goto hC (pc := 40) 2 dX13_partOf_40 (by decide) ?_
          refine z_lvs [1, 2, 3, 0] rfl ?_
          obtain ⟨r12, h⟩ := h
          obtain ⟨hI, hm⟩ := h
          exact ih2  (y10 + 1)  r12  hI (by omega)
        · have h := hF c
          refine z_aload_n hC (pc := 20) 0 dX13_partOf_20 rfl rfl ?_
          refine y_get hC (pc := 21) zf13 (rOb_k hk) 30 (v := .ref (κ (1000 * (k + 1) + 30))) dX13_partOf_21 zw2367 (rv_c rfl) (kk := ?_)
          refine z_iload_n hC (pc := 24) 3 dX13_partOf_24 rfl rfl ?_
          obtain ⟨b13, h⟩ := h
          refine y_iald hC (pc := 25) (rAr_k hk rfl rfl) dX13_partOf_25 b13 (v := (rA σ (1000 * (k + 1) + 30) y10)) rfl (kk := ?_)
          have h := h (hwf.a _ _)
          refine z_iload_n hC (pc := 26) 2 dX13_partOf_26 rfl rfl ?_
          obtain ⟨hT, hF⟩ := h
          refine y_icmp_ne hC (pc := 27) 37 (hwf.a _ _) hx2 dX13_partOf_27 (by decide) (fun c => ?_) (fun c => ?_)
          · have h := hT c
            refine y_iinc hC (pc := 37) (v := (y10 + 1)) (lv' := [(3, iv (y10 + 1)), (0, .ref (κ k)), (1, iv x1), (2, iv x2)]) 3 dX13_partOf_37 rfl rfl (by decide) rfl ?_
            refine z_goto hC (pc := 40) 2 dX13_partOf_40 (by decide) ?_
            refine z_lvs [1, 2, 3, 0] rfl ?_
            obtain ⟨r14, h⟩ := h
            obtain ⟨hI, hm⟩ := h
            exact ih2  (y10 + 1)  r14  hI (by omega)
          · have h := hF c
            refine z_aload_n hC (pc := 30) 0 dX13_partOf_30 rfl rfl ?_
            refine y_get hC (pc := 31) zf13 (rOb_k hk) 31 (v := .ref (κ (1000 * (k + 1) + 31))) dX13_partOf_31 zw2369 (rv_c rfl) (kk := ?_)
            refine z_iload_n hC (pc := 34) 3 dX13_partOf_34 rfl rfl ?_
            obtain ⟨b15, h⟩ := h
            refine y_iald hC (pc := 35) (rAr_k hk rfl rfl) dX13_partOf_35 b15 (v := (rA σ (1000 * (k + 1) + 31) y10)) rfl (kk := ?_)
            have h := h (hwf.a _ _)
            exact y_reti hR dX13_partOf_36 rfl (hwf.a _ _) hwf (Nat.le_of_ble_eq_true rfl) (Nat.le_of_ble_eq_true rfl) ⟨rfl, h⟩
  refine z_lvs [1, 2, 3, 0] rfl ?_
  exact j2 _  0  (r_lit rfl)  h (Nat.le_refl _)
theorem kX13_partOf (l : Launch) (G : zG) (κ : Nat → Nat) (σ : rS) (k : Nat) (x1 : Int) (x2 : Int) (hwf : rWF σ) (hk : rgk k) (hx1 : rng x1) (hx2 : rng x2) (hp : pre_X13_partOf σ k x1 x2) : rMi l G κ yX13_partOf cX13_partOf 4 .int 1 0 [.ref (κ k), iv x1, iv x2] σ (fun x s => s = σ ∧ post_X13_partOf σ k x1 x2 x) := wX13_partOf l G κ σ k x1 x2 hwf hk hx1 hx2 (post_X13_partOf σ k x1 x2) (vX13_partOf σ k x1 x2 hwf hk hx1 hx2 hp) (vX13_partOf_2 σ k x1 x2 hwf hk hx1 hx2 hp) (vX13_partOf_2m σ k x1 x2 hwf hk hx1 hx2 hp)
def pre_X14_readString (σ : rS) (x1 : Int) : Prop := 0 ≤ (rF σ 0 29) ∧ (rF σ 0 29) ≤ (rF σ 0 28) + 3 ∧ ((rF σ 0 10) = 0 → (rF σ 0 29) ≤ (rF σ 0 28)) ∧ 0 ≤ (rF σ 0 28) ∧ (rF σ 0 28) ≤ 4001 ∧ TPRp σ ∧ (rF σ 0 10) = 0 ∧ (rF σ 0 29) < (rF σ 0 28) ∧ rgk (rR σ 7) ∧ 0 ≤ (rF σ (rR σ 7) 7) ∧ (rF σ (rR σ 7) 7) < 50000 ∧ 0 ≤ (rF σ (rR σ 7) 9) ∧ (rF σ (rR σ 7) 9) + ((rF σ 0 28) - (rF σ 0 29)) ≤ 60000 ∧ 0 ≤ (rF σ 0 14) ∧ (rF σ 0 14) ≤ 7
def post_X14_readString (σ : rS) (x1 : Int) (r : Int) (σ' : rS) : Prop := (rF σ 0 29) ≤ (rF σ' 0 29) ∧ (rF σ' 0 29) ≤ (rF σ 0 28) + 3 ∧ ((rF σ' 0 10) = 0 → (rF σ' 0 29) ≤ (rF σ 0 28)) ∧ ((rF σ 0 10) ≠ 0 → (rF σ' 0 10) = (rF σ 0 10)) ∧ (rF σ (rR σ 7) 9) ≤ rF σ' (rR σ 7) 9 ∧ rF σ' (rR σ 7) 9 + (rF σ 0 29) ≤ (rF σ (rR σ 7) 9) + (rF σ' 0 29) ∧ (rF σ (rR σ 7) 7) ≤ rF σ' (rR σ 7) 7 ∧ rF σ' (rR σ 7) 7 ≤ (rF σ (rR σ 7) 7) + 1 ∧ ((rF σ' 0 10) = 0 → (rF σ 0 29) < (rF σ' 0 29) ∧ r = (rF σ (rR σ 7) 7) ∧ rF σ' (rR σ 7) 7 = (rF σ (rR σ 7) 7) + 1)
def inv_X14_readString_12 (σ : rS) (x1 : Int)  (s : rS) (pl : Int) (k : Int) : Prop := 0 ≤ pl ∧ pl ≤ 4000 ∧ (rF s 0 29) = (rF σ 0 29) ∧ (rF s 0 10) = 0 ∧ (rF σ 0 29) < k ∧ k ≤ (rF σ 0 28) ∧ rF s (rR σ 7) 9 = (rF σ (rR σ 7) 9) ∧ rF s (rR σ 7) 7 = (rF σ (rR σ 7) 7)
def mu_X14_readString_12 (σ : rS) (x1 : Int) (s : rS) (pl : Int) (k : Int) : Nat := (1 + ((rF σ 0 28) - k).toNat)
def VC_X14_readString (σ : rS) (x1 : Int) (Q : Int → rS → Prop) : Prop := rgk (rR σ 7) ∧ pre_X14_place σ ∧ (∀ (x12 : Int), rng x12 → post_X14_place σ x12 → (rng (rF σ 0 29) → rng ((rF σ 0 29) + 1) ∧ (inv_X14_readString_12 σ x1 σ x12 ((rF σ 0 29) + 1))))
def VC_X14_readString_12 (σ : rS) (x1 : Int) (Q : Int → rS → Prop) : Prop := ∀ (s13 : rS) (y14 : Int) (y15 : Int), rWF s13 → rng y14 → rng y15 → (TPRp σ → TPRp s13) → rR s13 7 = rR σ 7 → rF s13 0 14 = rF σ 0 14 → rF s13 0 28 = rF σ 0 28 → inv_X14_readString_12 σ x1 s13 y14 y15 → ((rng (rF s13 0 28) → (((rF s13 0 28) ≤ y15 → (((rF s13 0 28) ≤ y15 → (((rF s13 0 28) ≤ y15 → (rng (rF s13 0 30) → pre_X14_bad s13 1 (rF s13 0 30) ∧ (∀ (s17 : rS), rWF s17 → (TPRp s13 → TPRp s17) → rR s17 7 = rR s13 7 → rF s17 0 14 = rF s13 0 14 → rF s17 0 28 = rF s13 0 28 → rF s17 0 29 = rF s13 0 29 → rF s17 (rR σ 7) 7 = rF s13 (rR σ 7) 7 → rF s17 (rR σ 7) 9 = rF s13 (rR σ 7) 9 → post_X14_bad s13 1 (rF s13 0 30) s17 → Q 0 s17))) ∧ (¬ (rF s13 0 28) ≤ y15 → (0 ≤ y15 ∧ y15 < 4001) ∧ (rng (rA s13 1027 y15) → pre_X14_bad s13 1 (rA s13 1027 y15) ∧ (∀ (s21 : rS), rWF s21 → (TPRp s13 → TPRp s21) → rR s21 7 = rR s13 7 → rF s21 0 14 = rF s13 0 14 → rF s21 0 28 = rF s13 0 28 → rF s21 0 29 = rF s13 0 29 → rF s21 (rR σ 7) 7 = rF s13 (rR σ 7) 7 → rF s21 (rR σ 7) 9 = rF s13 (rR σ 7) 9 → post_X14_bad s13 1 (rA s13 1027 y15) s21 → Q 0 s21))))) ∧ (¬ (rF s13 0 28) ≤ y15 → (0 ≤ y15 ∧ y15 < 4001) ∧ (rng (rA s13 1026 y15) → ((¬ (rA s13 1026 y15) = 10 → (rng (rF s13 0 29) → rng ((rF s13 0 29) + 1) ∧ pre_X14_keepString s13 1026 4001 ((rF s13 0 29) + 1) y15 y14 ∧ (∀ (x27 : Int) (s26 : rS), rng x27 → rWF s26 → (TPRp s13 → TPRp s26) → rR s26 7 = rR s13 7 → rF s26 0 10 = rF s13 0 10 → rF s26 0 14 = rF s13 0 14 → rF s26 0 28 = rF s13 0 28 → rF s26 0 29 = rF s13 0 29 → post_X14_keepString s13 1026 4001 ((rF s13 0 29) + 1) y15 y14 x27 s26 → rng (y15 + 1) ∧ Q x27 (sF s26 0 29 (y15 + 1))))) ∧ ((rA s13 1026 y15) = 10 → (((rF s13 0 28) ≤ y15 → (rng (rF s13 0 30) → pre_X14_bad s13 1 (rF s13 0 30) ∧ (∀ (s31 : rS), rWF s31 → (TPRp s13 → TPRp s31) → rR s31 7 = rR s13 7 → rF s31 0 14 = rF s13 0 14 → rF s31 0 28 = rF s13 0 28 → rF s31 0 29 = rF s13 0 29 → rF s31 (rR σ 7) 7 = rF s13 (rR σ 7) 7 → rF s31 (rR σ 7) 9 = rF s13 (rR σ 7) 9 → post_X14_bad s13 1 (rF s13 0 30) s31 → Q 0 s31))) ∧ (¬ (rF s13 0 28) ≤ y15 → (0 ≤ y15 ∧ y15 < 4001) ∧ (rng (rA s13 1027 y15) → pre_X14_bad s13 1 (rA s13 1027 y15) ∧ (∀ (s35 : rS), rWF s35 → (TPRp s13 → TPRp s35) → rR s35 7 = rR s13 7 → rF s35 0 14 = rF s13 0 14 → rF s35 0 28 = rF s13 0 28 → rF s35 0 29 = rF s13 0 29 → rF s35 (rR σ 7) 7 = rF s13 (rR σ 7) 7 → rF s35 (rR σ 7) 9 = rF s13 (rR σ 7) 9 → post_X14_bad s13 1 (rA s13 1027 y15) s35 → Q 0 s35)))))))))) ∧ (¬ (rF s13 0 28) ≤ y15 → (0 ≤ y15 ∧ y15 < 4001) ∧ (rng (rA s13 1026 y15) → (((rA s13 1026 y15) = x1 → (((rF s13 0 28) ≤ y15 → (((rF s13 0 28) ≤ y15 → (rng (rF s13 0 30) → pre_X14_bad s13 1 (rF s13 0 30) ∧ (∀ (s39 : rS), rWF s39 → (TPRp s13 → TPRp s39) → rR s39 7 = rR s13 7 → rF s39 0 14 = rF s13 0 14 → rF s39 0 28 = rF s13 0 28 → rF s39 0 29 = rF s13 0 29 → rF s39 (rR σ 7) 7 = rF s13 (rR σ 7) 7 → rF s39 (rR σ 7) 9 = rF s13 (rR σ 7) 9 → post_X14_bad s13 1 (rF s13 0 30) s39 → Q 0 s39))) ∧ (¬ (rF s13 0 28) ≤ y15 → (0 ≤ y15 ∧ y15 < 4001) ∧ (rng (rA s13 1027 y15) → pre_X14_bad s13 1 (rA s13 1027 y15) ∧ (∀ (s43 : rS), rWF s43 → (TPRp s13 → TPRp s43) → rR s43 7 = rR s13 7 → rF s43 0 14 = rF s13 0 14 → rF s43 0 28 = rF s13 0 28 → rF s43 0 29 = rF s13 0 29 → rF s43 (rR σ 7) 7 = rF s13 (rR σ 7) 7 → rF s43 (rR σ 7) 9 = rF s13 (rR σ 7) 9 → post_X14_bad s13 1 (rA s13 1027 y15) s43 → Q 0 s43))))) ∧ (¬ (rF s13 0 28) ≤ y15 → (0 ≤ y15 ∧ y15 < 4001) ∧ ((¬ (rA s13 1026 y15) = 10 → (rng (rF s13 0 29) → rng ((rF s13 0 29) + 1) ∧ pre_X14_keepString s13 1026 4001 ((rF s13 0 29) + 1) y15 y14 ∧ (∀ (x49 : Int) (s48 : rS), rng x49 → rWF s48 → (TPRp s13 → TPRp s48) → rR s48 7 = rR s13 7 → rF s48 0 10 = rF s13 0 10 → rF s48 0 14 = rF s13 0 14 → rF s48 0 28 = rF s13 0 28 → rF s48 0 29 = rF s13 0 29 → post_X14_keepString s13 1026 4001 ((rF s13 0 29) + 1) y15 y14 x49 s48 → rng (y15 + 1) ∧ Q x49 (sF s48 0 29 (y15 + 1))))) ∧ ((rA s13 1026 y15) = 10 → (((rF s13 0 28) ≤ y15 → (rng (rF s13 0 30) → pre_X14_bad s13 1 (rF s13 0 30) ∧ (∀ (s53 : rS), rWF s53 → (TPRp s13 → TPRp s53) → rR s53 7 = rR s13 7 → rF s53 0 14 = rF s13 0 14 → rF s53 0 28 = rF s13 0 28 → rF s53 0 29 = rF s13 0 29 → rF s53 (rR σ 7) 7 = rF s13 (rR σ 7) 7 → rF s53 (rR σ 7) 9 = rF s13 (rR σ 7) 9 → post_X14_bad s13 1 (rF s13 0 30) s53 → Q 0 s53))) ∧ (¬ (rF s13 0 28) ≤ y15 → (0 ≤ y15 ∧ y15 < 4001) ∧ (rng (rA s13 1027 y15) → pre_X14_bad s13 1 (rA s13 1027 y15) ∧ (∀ (s57 : rS), rWF s57 → (TPRp s13 → TPRp s57) → rR s57 7 = rR s13 7 → rF s57 0 14 = rF s13 0 14 → rF s57 0 28 = rF s13 0 28 → rF s57 0 29 = rF s13 0 29 → rF s57 (rR σ 7) 7 = rF s13 (rR σ 7) 7 → rF s57 (rR σ 7) 9 = rF s13 (rR σ 7) 9 → post_X14_bad s13 1 (rA s13 1027 y15) s57 → Q 0 s57))))))))) ∧ (¬ (rA s13 1026 y15) = x1 → (0 ≤ y15 ∧ y15 < 4001) ∧ (((rA s13 1026 y15) = 10 → (((rF s13 0 28) ≤ y15 → (((rF s13 0 28) ≤ y15 → (rng (rF s13 0 30) → pre_X14_bad s13 1 (rF s13 0 30) ∧ (∀ (s61 : rS), rWF s61 → (TPRp s13 → TPRp s61) → rR s61 7 = rR s13 7 → rF s61 0 14 = rF s13 0 14 → rF s61 0 28 = rF s13 0 28 → rF s61 0 29 = rF s13 0 29 → rF s61 (rR σ 7) 7 = rF s13 (rR σ 7) 7 → rF s61 (rR σ 7) 9 = rF s13 (rR σ 7) 9 → post_X14_bad s13 1 (rF s13 0 30) s61 → Q 0 s61))) ∧ (¬ (rF s13 0 28) ≤ y15 → (0 ≤ y15 ∧ y15 < 4001) ∧ (rng (rA s13 1027 y15) → pre_X14_bad s13 1 (rA s13 1027 y15) ∧ (∀ (s65 : rS), rWF s65 → (TPRp s13 → TPRp s65) → rR s65 7 = rR s13 7 → rF s65 0 14 = rF s13 0 14 → rF s65 0 28 = rF s13 0 28 → rF s65 0 29 = rF s13 0 29 → rF s65 (rR σ 7) 7 = rF s13 (rR σ 7) 7 → rF s65 (rR σ 7) 9 = rF s13 (rR σ 7) 9 → post_X14_bad s13 1 (rA s13 1027 y15) s65 → Q 0 s65))))) ∧ (¬ (rF s13 0 28) ≤ y15 → (0 ≤ y15 ∧ y15 < 4001) ∧ ((¬ (rA s13 1026 y15) = 10 → (rng (rF s13 0 29) → rng ((rF s13 0 29) + 1) ∧ pre_X14_keepString s13 1026 4001 ((rF s13 0 29) + 1) y15 y14 ∧ (∀ (x71 : Int) (s70 : rS), rng x71 → rWF s70 → (TPRp s13 → TPRp s70) → rR s70 7 = rR s13 7 → rF s70 0 10 = rF s13 0 10 → rF s70 0 14 = rF s13 0 14 → rF s70 0 28 = rF s13 0 28 → rF s70 0 29 = rF s13 0 29 → post_X14_keepString s13 1026 4001 ((rF s13 0 29) + 1) y15 y14 x71 s70 → rng (y15 + 1) ∧ Q x71 (sF s70 0 29 (y15 + 1))))) ∧ ((rA s13 1026 y15) = 10 → (((rF s13 0 28) ≤ y15 → (rng (rF s13 0 30) → pre_X14_bad s13 1 (rF s13 0 30) ∧ (∀ (s75 : rS), rWF s75 → (TPRp s13 → TPRp s75) → rR s75 7 = rR s13 7 → rF s75 0 14 = rF s13 0 14 → rF s75 0 28 = rF s13 0 28 → rF s75 0 29 = rF s13 0 29 → rF s75 (rR σ 7) 7 = rF s13 (rR σ 7) 7 → rF s75 (rR σ 7) 9 = rF s13 (rR σ 7) 9 → post_X14_bad s13 1 (rF s13 0 30) s75 → Q 0 s75))) ∧ (¬ (rF s13 0 28) ≤ y15 → (0 ≤ y15 ∧ y15 < 4001) ∧ (rng (rA s13 1027 y15) → pre_X14_bad s13 1 (rA s13 1027 y15) ∧ (∀ (s79 : rS), rWF s79 → (TPRp s13 → TPRp s79) → rR s79 7 = rR s13 7 → rF s79 0 14 = rF s13 0 14 → rF s79 0 28 = rF s13 0 28 → rF s79 0 29 = rF s13 0 29 → rF s79 (rR σ 7) 7 = rF s13 (rR σ 7) 7 → rF s79 (rR σ 7) 9 = rF s13 (rR σ 7) 9 → post_X14_bad s13 1 (rA s13 1027 y15) s79 → Q 0 s79))))))))) ∧ (¬ (rA s13 1026 y15) = 10 → rng (y15 + 1) ∧ (inv_X14_readString_12 σ x1 s13 y14 (y15 + 1) ∧ (mu_X14_readString_12 σ x1 s13 y14 (y15 + 1)) < (mu_X14_readString_12 σ x1 s13 y14 y15)))))))))))
def VC_X14_readString_12m (σ : rS) (x1 : Int) : Prop := ∀ (s13 : rS) (y14 : Int) (y15 : Int), rWF s13 → rng y14 → rng y15 → (TPRp σ → TPRp s13) → rR s13 7 = rR σ 7 → rF s13 0 14 = rF σ 0 14 → rF s13 0 28 = rF σ 0 28 → inv_X14_readString_12 σ x1 s13 y14 y15 → 0 < (mu_X14_readString_12 σ x1 s13 y14 y15)
set_option maxHeartbeats 400000 in
theorem vX14_readString (σ : rS) (x1 : Int) (hwf : rWF σ) (hx1 : rng x1) (hp : pre_X14_readString σ x1) : VC_X14_readString σ x1 (post_X14_readString σ x1) := by
  simp only [VC_X14_readString, pre_X14_readString, post_X14_readString, inv_X14_readString_12, mu_X14_readString_12, pre_X14_place, pre_X14_bad, pre_X14_keepString, post_X14_place, post_X14_bad, post_X14_keepString, rng, rfk, rNMp, rF_sF, rF_sA, rF_sL, rF_sR, rA_sA, rA_sF, rA_sL, rA_sR, rR_sF, rR_sA, rR_sL, rR_sR, reduceIte, and_true, true_and, and_false, false_and, and_self, TPRp_sL, TPRp_sF0, TPRp_sF3, TPRp_sF10, TPRp_sF11, TPRp_sF12, TPRp_sF13, TPRp_sF14, TPRp_sF16, TPRp_sF17, TPRp_sF18, TPRp_sF19, TPRp_sF21, TPRp_sF22, TPRp_sF23, TPRp_sF24, TPRp_sF25, TPRp_sF29, TPRp_sF31, TPRp_sF32, TPRp_sF33, TPRp_sF38, TPRp_sF39, TPRp_sF41, TPRp_sF42, TPRp_sF43, TPRp_sF44, TPRp_sF45, TPRp_sF60, TPRp_sF65, TPRp_sF66, TPRp_sF67, TPRp_sF68, TPRp_sF70, TPRp_sF71, TPRp_sF72, TPRp_sF73, TPRp_sF74, TPRp_sF80, TPRp_sF81, TPRp_sF82, TPRp_sF83, TPRp_sF88, TPRp_sF92, TPRp_sF94, TPRp_sF96, TPRp_sF97, TPRp_sF98, TPRp_sF99, TPRp_sF100, TPRp_sF101, TPRp_sF103, TPRp_sF104, TPRp_sF112, TPRp_sF113, TPRp_sF118, TPRp_sF119, TPRp_sF122, TPRp_sF123, TPRp_sF135, TPRp_sF137, TPRp_sA1, TPRp_sA2, TPRp_sA5, TPRp_sA20, TPRp_sA26, TPRp_sA34, TPRp_sA35, TPRp_sA36, TPRp_sA37, TPRp_sA40, TPRp_sA46, TPRp_sA47, TPRp_sA48, TPRp_sA49, TPRp_sA50, TPRp_sA51, TPRp_sA52, TPRp_sA53, TPRp_sA54, TPRp_sA55, TPRp_sA56, TPRp_sA57, TPRp_sA58, TPRp_sA59, TPRp_sA61, TPRp_sA62, TPRp_sA63, TPRp_sA64, TPRp_sA69, TPRp_sA75, TPRp_sA76, TPRp_sA77, TPRp_sA78, TPRp_sA79, TPRp_sA84, TPRp_sA85, TPRp_sA86, TPRp_sA87, TPRp_sA89, TPRp_sA90, TPRp_sA91, TPRp_sA93, TPRp_sA102, TPRp_sA105, TPRp_sA106, TPRp_sA107, TPRp_sA108, TPRp_sA109, TPRp_sA110, TPRp_sA111, TPRp_sA114, TPRp_sA115, TPRp_sA116, TPRp_sA117, TPRp_sA120, TPRp_sA121, TPRp_sA124, TPRp_sA125, TPRp_sA126, TPRp_sA127, TPRp_sA128, TPRp_sA129, TPRp_sA136, TPRp_sA138, TPRp_gA0, TPRp_gA1, TPRp_gA2, TPRp_gA3, TPRp_gA4, TPRp_gA5, TPRp_gA6, TPRp_gA8, TPRp_gA10, TPRp_gA11, TPRp_gA15, TPRp_gA16, TPRp_gA17, TPRp_gA18, TPRp_gA19, TPRp_gA20, TPRp_gA21, TPRp_gA22, TPRp_gA23, TPRp_gA24, TPRp_gA25, TPRp_gA26, TPRp_gA29, TPRp_gA30, TPRp_gA31, TPRp_gA33, TPRp_gA34, TPRp_gA35, TPRp_gA36, TPRp_gA37, TPRp_sF7, TPRp_sF9] at *
  (repeat' (first | with_reducible intro _ | with_reducible apply And.intro))
  all_goals (first | assumption | omega | grind (splits := 20) [rNM_sF0])
set_option maxHeartbeats 400000 in
theorem vX14_readString_12 (σ : rS) (x1 : Int) (hwf : rWF σ) (hx1 : rng x1) (hp : pre_X14_readString σ x1) : VC_X14_readString_12 σ x1 (post_X14_readString σ x1) := by
  simp only [VC_X14_readString_12, pre_X14_readString, post_X14_readString, inv_X14_readString_12, mu_X14_readString_12, pre_X14_place, pre_X14_bad, pre_X14_keepString, post_X14_place, post_X14_bad, post_X14_keepString, rng, rfk, rNMp, rF_sF, rF_sA, rF_sL, rF_sR, rA_sA, rA_sF, rA_sL, rA_sR, rR_sF, rR_sA, rR_sL, rR_sR, reduceIte, and_true, true_and, and_false, false_and, and_self, TPRp_sL, TPRp_sF0, TPRp_sF3, TPRp_sF10, TPRp_sF11, TPRp_sF12, TPRp_sF13, TPRp_sF14, TPRp_sF16, TPRp_sF17, TPRp_sF18, TPRp_sF19, TPRp_sF21, TPRp_sF22, TPRp_sF23, TPRp_sF24, TPRp_sF25, TPRp_sF29, TPRp_sF31, TPRp_sF32, TPRp_sF33, TPRp_sF38, TPRp_sF39, TPRp_sF41, TPRp_sF42, TPRp_sF43, TPRp_sF44, TPRp_sF45, TPRp_sF60, TPRp_sF65, TPRp_sF66, TPRp_sF67, TPRp_sF68, TPRp_sF70, TPRp_sF71, TPRp_sF72, TPRp_sF73, TPRp_sF74, TPRp_sF80, TPRp_sF81, TPRp_sF82, TPRp_sF83, TPRp_sF88, TPRp_sF92, TPRp_sF94, TPRp_sF96, TPRp_sF97, TPRp_sF98, TPRp_sF99, TPRp_sF100, TPRp_sF101, TPRp_sF103, TPRp_sF104, TPRp_sF112, TPRp_sF113, TPRp_sF118, TPRp_sF119, TPRp_sF122, TPRp_sF123, TPRp_sF135, TPRp_sF137, TPRp_sA1, TPRp_sA2, TPRp_sA5, TPRp_sA20, TPRp_sA26, TPRp_sA34, TPRp_sA35, TPRp_sA36, TPRp_sA37, TPRp_sA40, TPRp_sA46, TPRp_sA47, TPRp_sA48, TPRp_sA49, TPRp_sA50, TPRp_sA51, TPRp_sA52, TPRp_sA53, TPRp_sA54, TPRp_sA55, TPRp_sA56, TPRp_sA57, TPRp_sA58, TPRp_sA59, TPRp_sA61, TPRp_sA62, TPRp_sA63, TPRp_sA64, TPRp_sA69, TPRp_sA75, TPRp_sA76, TPRp_sA77, TPRp_sA78, TPRp_sA79, TPRp_sA84, TPRp_sA85, TPRp_sA86, TPRp_sA87, TPRp_sA89, TPRp_sA90, TPRp_sA91, TPRp_sA93, TPRp_sA102, TPRp_sA105, TPRp_sA106, TPRp_sA107, TPRp_sA108, TPRp_sA109, TPRp_sA110, TPRp_sA111, TPRp_sA114, TPRp_sA115, TPRp_sA116, TPRp_sA117, TPRp_sA120, TPRp_sA121, TPRp_sA124, TPRp_sA125, TPRp_sA126, TPRp_sA127, TPRp_sA128, TPRp_sA129, TPRp_sA136, TPRp_sA138, TPRp_gA0, TPRp_gA1, TPRp_gA2, TPRp_gA3, TPRp_gA4, TPRp_gA5, TPRp_gA6, TPRp_gA8, TPRp_gA10, TPRp_gA11, TPRp_gA15, TPRp_gA16, TPRp_gA17, TPRp_gA18, TPRp_gA19, TPRp_gA20, TPRp_gA21, TPRp_gA22, TPRp_gA23, TPRp_gA24, TPRp_gA25, TPRp_gA26, TPRp_gA29, TPRp_gA30, TPRp_gA31, TPRp_gA33, TPRp_gA34, TPRp_gA35, TPRp_gA36, TPRp_gA37, TPRp_sF7, TPRp_sF9] at *
  (repeat' (first | with_reducible intro _ | with_reducible apply And.intro))
  all_goals (first | assumption | omega | grind (splits := 20) [rNM_sF0])
set_option maxHeartbeats 400000 in
theorem vX14_readString_12m (σ : rS) (x1 : Int) (hwf : rWF σ) (hx1 : rng x1) (hp : pre_X14_readString σ x1) : VC_X14_readString_12m σ x1 := by
  simp only [VC_X14_readString_12m, pre_X14_readString, post_X14_readString, inv_X14_readString_12, mu_X14_readString_12, pre_X14_place, pre_X14_bad, pre_X14_keepString, post_X14_place, post_X14_bad, post_X14_keepString, rng, rfk, rNMp, rF_sF, rF_sA, rF_sL, rF_sR, rA_sA, rA_sF, rA_sL, rA_sR, rR_sF, rR_sA, rR_sL, rR_sR, reduceIte, and_true, true_and, and_false, false_and, and_self, TPRp_sL, TPRp_sF0, TPRp_sF3, TPRp_sF10, TPRp_sF11, TPRp_sF12, TPRp_sF13, TPRp_sF14, TPRp_sF16, TPRp_sF17, TPRp_sF18, TPRp_sF19, TPRp_sF21, TPRp_sF22, TPRp_sF23, TPRp_sF24, TPRp_sF25, TPRp_sF29, TPRp_sF31, TPRp_sF32, TPRp_sF33, TPRp_sF38, TPRp_sF39, TPRp_sF41, TPRp_sF42, TPRp_sF43, TPRp_sF44, TPRp_sF45, TPRp_sF60, TPRp_sF65, TPRp_sF66, TPRp_sF67, TPRp_sF68, TPRp_sF70, TPRp_sF71, TPRp_sF72, TPRp_sF73, TPRp_sF74, TPRp_sF80, TPRp_sF81, TPRp_sF82, TPRp_sF83, TPRp_sF88, TPRp_sF92, TPRp_sF94, TPRp_sF96, TPRp_sF97, TPRp_sF98, TPRp_sF99, TPRp_sF100, TPRp_sF101, TPRp_sF103, TPRp_sF104, TPRp_sF112, TPRp_sF113, TPRp_sF118, TPRp_sF119, TPRp_sF122, TPRp_sF123, TPRp_sF135, TPRp_sF137, TPRp_sA1, TPRp_sA2, TPRp_sA5, TPRp_sA20, TPRp_sA26, TPRp_sA34, TPRp_sA35, TPRp_sA36, TPRp_sA37, TPRp_sA40, TPRp_sA46, TPRp_sA47, TPRp_sA48, TPRp_sA49, TPRp_sA50, TPRp_sA51, TPRp_sA52, TPRp_sA53, TPRp_sA54, TPRp_sA55, TPRp_sA56, TPRp_sA57, TPRp_sA58, TPRp_sA59, TPRp_sA61, TPRp_sA62, TPRp_sA63, TPRp_sA64, TPRp_sA69, TPRp_sA75, TPRp_sA76, TPRp_sA77, TPRp_sA78, TPRp_sA79, TPRp_sA84, TPRp_sA85, TPRp_sA86, TPRp_sA87, TPRp_sA89, TPRp_sA90, TPRp_sA91, TPRp_sA93, TPRp_sA102, TPRp_sA105, TPRp_sA106, TPRp_sA107, TPRp_sA108, TPRp_sA109, TPRp_sA110, TPRp_sA111, TPRp_sA114, TPRp_sA115, TPRp_sA116, TPRp_sA117, TPRp_sA120, TPRp_sA121, TPRp_sA124, TPRp_sA125, TPRp_sA126, TPRp_sA127, TPRp_sA128, TPRp_sA129, TPRp_sA136, TPRp_sA138, TPRp_gA0, TPRp_gA1, TPRp_gA2, TPRp_gA3, TPRp_gA4, TPRp_gA5, TPRp_gA6, TPRp_gA8, TPRp_gA10, TPRp_gA11, TPRp_gA15, TPRp_gA16, TPRp_gA17, TPRp_gA18, TPRp_gA19, TPRp_gA20, TPRp_gA21, TPRp_gA22, TPRp_gA23, TPRp_gA24, TPRp_gA25, TPRp_gA26, TPRp_gA29, TPRp_gA30, TPRp_gA31, TPRp_gA33, TPRp_gA34, TPRp_gA35, TPRp_gA36, TPRp_gA37, TPRp_sF7, TPRp_sF9] at *
  (repeat' (first | with_reducible intro _ | with_reducible apply And.intro))
  all_goals (first | assumption | omega | grind (splits := 20) [rNM_sF0])
theorem wX14_readString (l : Launch) (G : zG) (κ : Nat → Nat) (σ : rS) (x1 : Int) (hwf : rWF σ) (hx1 : rng x1) (Q : Int → rS → Prop) (h : VC_X14_readString σ x1 Q) (h_12 : VC_X14_readString_12 σ x1 Q) (h_12m : VC_X14_readString_12m σ x1) : rMi l G κ yX14_readString cX14_readString 5 .int 3 50 [.ref (κ 0), iv x1] σ (fun x s => rKeep 0x23001c00 0x280 0 0x17f 0 σ s ∧ Q x s) := by
  refine zMi.intro (by decide +kernel) (Nat.le_of_ble_eq_true rfl) (fun X hC hR => ?_)
  obtain ⟨g0, h⟩ := h
  refine z_aload_n hC (pc := 0) 0 dX14_readString_0 rfl rfl ?_
  obtain ⟨p10, h⟩ := h
  refine y_callVi hC (pc := 1) (As := []) (kX14_place l G κ σ  hwf  p10) dmX14_place zf14 rOb_0 dX14_readString_1 zw3103 rfl rfl (Nat.le_of_ble_eq_true rfl) (Nat.le_of_ble_eq_true rfl) (Nat.le_of_ble_eq_true rfl) (Nat.le_of_ble_eq_true rfl) (Nat.le_of_ble_eq_true rfl) (kk := fun x12 s11 hx12 Ws11 qs11 => ?_)
  obtain ⟨es11, qs11⟩ := qs11
  have es11 := es11.symm
  subst es11
  have h := h x12 hx12 qs11
  refine z_istore_n hC (pc := 4) (lv' := [(2, iv x12), (0, .ref (κ 0)), (1, iv x1)]) dX14_readString_4 rfl (by decide) rfl ?_
  refine z_aload_n hC (pc := 5) 1 dX14_readString_5 rfl rfl ?_
  refine y_get hC (pc := 6) zf14 rOb_0 29 (v := iv (rF σ 0 29)) dX14_readString_6 zw2496 (rv_i (Or.inl rfl) rfl) (kk := ?_)
  have h := h (hwf.f _ _)
  refine z_iconst hC (pc := 9) (v := Int32.ofInt 1) dX14_readString_9 (by decide) ?_
  refine y_iadd hC (pc := 10) (v := ((rF σ 0 29) + 1)) dX14_readString_10 rfl ?_
  refine z_istore_n hC (pc := 11) (lv' := [(3, iv ((rF σ 0 29) + 1)), (2, iv x12), (0, .ref (κ 0)), (1, iv x1)]) dX14_readString_11 rfl (by decide) rfl ?_
  have j12 : ∀ (d12 : Nat), ∀ (s13 : rS) (y14 : Int) (y15 : Int), rWF s13 → rng y14 → rng y15 → rKeep 0x23001c00 0x280 0 0x17f 0 σ s13 → inv_X14_readString_12 σ x1 s13 y14 y15 → (mu_X14_readString_12 σ x1 s13 y14 y15) ≤ d12 → zS X G 5 (rW G κ s13) [(0, .ref (κ 0)), (1, iv x1), (2, iv y14), (3, iv y15)] 0 0 12 [] := by
    intro d12
    induction d12 with
    | zero =>
      intro s13 y14 y15 Ws13 hy14 hy15 kJ hI hmu
      exact absurd hmu (by have := h_12m  s13 y14 y15 Ws13 hy14 hy15 (TPRp.keep kJ rfl rfl rfl) (kJ.R rfl) (kJ.F rfl) (kJ.F rfl) hI; omega)
    | succ d12 ih12 =>
      intro s13 y14 y15 Ws13 hy14 hy15 kJ hI hmu12
      have h := h_12  s13 y14 y15 Ws13 hy14 hy15 (TPRp.keep kJ rfl rfl rfl) (kJ.R rfl) (kJ.F rfl) (kJ.F rfl) hI
      refine z_iload_n hC (pc := 12) 3 dX14_readString_12 rfl rfl ?_
      refine z_aload_n hC (pc := 13) 0 dX14_readString_13 rfl rfl ?_
      refine y_get hC (pc := 14) zf14 rOb_0 28 (v := iv (rF s13 0 28)) dX14_readString_14 zw2495 (rv_i (Or.inl rfl) rfl) (kk := ?_)
      have h := h (Ws13.f _ _)
      obtain ⟨hT, hF⟩ := h
      refine y_icmp_ge hC (pc := 17) 47 hy15 (Ws13.f _ _) dX14_readString_17 (by decide) (fun c => ?_) (fun c => ?_)
      · have h := hT c
        refine z_iload_n hC (pc := 47) 3 dX14_readString_47 rfl rfl ?_
        refine z_aload_n hC (pc := 48) 0 dX14_readString_48 rfl rfl ?_
        refine y_get hC (pc := 49) zf14 rOb_0 28 (v := iv (rF s13 0 28)) dX14_readString_49 zw2495 (rv_i (Or.inl rfl) rfl) (kk := ?_)
        obtain ⟨hT, hF⟩ := h
        refine y_icmp_ge hC (pc := 52) 66 hy15 (Ws13.f _ _) dX14_readString_52 (by decide) (fun c => ?_) (fun c => ?_)
        · have h := hT c
          refine z_aload_n hC (pc := 66) 0 dX14_readString_66 rfl rfl ?_
          refine z_iconst hC (pc := 67) (v := Int32.ofInt 1) dX14_readString_67 (by decide) ?_
          refine z_iload_n hC (pc := 68) 3 dX14_readString_68 rfl rfl ?_
          refine z_aload_n hC (pc := 69) 0 dX14_readString_69 rfl rfl ?_
          refine y_get hC (pc := 70) zf14 rOb_0 28 (v := iv (rF s13 0 28)) dX14_readString_70 zw2495 (rv_i (Or.inl rfl) rfl) (kk := ?_)
          obtain ⟨hT, hF⟩ := h
          refine y_icmp_ge hC (pc := 73) 85 hy15 (Ws13.f _ _) dX14_readString_73 (by decide) (fun c => ?_) (fun c => ?_)
          · have h := hT c
            refine z_aload_n hC (pc := 85) 0 dX14_readString_85 rfl rfl ?_
            refine y_get hC (pc := 86) zf14 rOb_0 30 (v := iv (rF s13 0 30)) dX14_readString_86 zw2497 (rv_i (Or.inl rfl) rfl) (kk := ?_)
            have h := h (Ws13.f _ _)
            obtain ⟨p16, h⟩ := h
            refine y_callVv hC (pc := 89) (As := [iv 1, iv (rF s13 0 30)]) (kX14_bad l G κ s13 1 (rF s13 0 30) Ws13 (r_lit rfl) (Ws13.f _ _) p16) dmX14_bad zf14 rOb_0 dX14_readString_89 zw3000 rfl rfl (Nat.le_of_ble_eq_true rfl) (Nat.le_of_ble_eq_true rfl) (Nat.le_of_ble_eq_true rfl) (Nat.le_of_ble_eq_true rfl) (Nat.le_of_ble_eq_true rfl) (kk := fun s17 Ws17 qs17 => ?_)
            have h := h s17 Ws17 (TPRp.keep qs17.1 rfl rfl rfl) (qs17.1.R rfl) (qs17.1.F rfl) (qs17.1.F rfl) (qs17.1.F rfl) (qs17.1.FG g0 rfl) (qs17.1.FG g0 rfl) qs17.2
            refine z_iconst hC (pc := 92) (v := Int32.ofInt 0) dX14_readString_92 (by decide) ?_
            exact y_reti hR dX14_readString_93 rfl (r_lit rfl) Ws17 (Nat.le_of_ble_eq_true rfl) (Nat.le_of_ble_eq_true rfl) ⟨(rKeep.tr (rKeep.tr rKeep.rf kJ rfl rfl rfl rfl rfl) qs17.1 rfl rfl rfl rfl rfl), h⟩
          · have h := hF c
            refine z_aload_n hC (pc := 76) 0 dX14_readString_76 rfl rfl ?_
            refine y_get hC (pc := 77) zf14 rOb_0 27 (v := .ref (κ 1027)) dX14_readString_77 zw2494 (rv_c rfl) (kk := ?_)
            refine z_iload_n hC (pc := 80) 3 dX14_readString_80 rfl rfl ?_
            obtain ⟨b19, h⟩ := h
            refine y_iald hC (pc := 81) (rAr_m rfl) dX14_readString_81 b19 (v := (rA s13 1027 y15)) rfl (kk := ?_)
            have h := h (Ws13.a _ _)
            refine z_goto hC (pc := 82) 89 dX14_readString_82 (by decide) ?_
            obtain ⟨p20, h⟩ := h
            refine y_callVv hC (pc := 89) (As := [iv 1, iv (rA s13 1027 y15)]) (kX14_bad l G κ s13 1 (rA s13 1027 y15) Ws13 (r_lit rfl) (Ws13.a _ _) p20) dmX14_bad zf14 rOb_0 dX14_readString_89 zw3000 rfl rfl (Nat.le_of_ble_eq_true rfl) (Nat.le_of_ble_eq_true rfl) (Nat.le_of_ble_eq_true rfl) (Nat.le_of_ble_eq_true rfl) (Nat.le_of_ble_eq_true rfl) (kk := fun s21 Ws21 qs21 => ?_)
            have h := h s21 Ws21 (TPRp.keep qs21.1 rfl rfl rfl) (qs21.1.R rfl) (qs21.1.F rfl) (qs21.1.F rfl) (qs21.1.F rfl) (qs21.1.FG g0 rfl) (qs21.1.FG g0 rfl) qs21.2
            refine z_iconst hC (pc := 92) (v := Int32.ofInt 0) dX14_readString_92 (by decide) ?_
            exact y_reti hR dX14_readString_93 rfl (r_lit rfl) Ws21 (Nat.le_of_ble_eq_true rfl) (Nat.le_of_ble_eq_true rfl) ⟨(rKeep.tr (rKeep.tr rKeep.rf kJ rfl rfl rfl rfl rfl) qs21.1 rfl rfl rfl rfl rfl), h⟩
        · have h := hF c
          refine z_aload_n hC (pc := 55) 0 dX14_readString_55 rfl rfl ?_
          refine y_get hC (pc := 56) zf14 rOb_0 26 (v := .ref (κ 1026)) dX14_readString_56 zw2493 (rv_c rfl) (kk := ?_)
          refine z_iload_n hC (pc := 59) 3 dX14_readString_59 rfl rfl ?_
          obtain ⟨b23, h⟩ := h
          refine y_bald hC (pc := 60) (rAr_m rfl) dX14_readString_60 b23 (v := (rA s13 1026 y15)) rfl (kk := ?_)
          have h := h (Ws13.a _ _)
          refine z_bipush hC (pc := 61) (v := Int32.ofInt 10) dX14_readString_61 (by decide) ?_
          obtain ⟨hT, hF⟩ := h
          refine y_icmp_ne hC (pc := 63) 94 (Ws13.a _ _) (r_lit rfl) dX14_readString_63 (by decide) (fun c => ?_) (fun c => ?_)
          · have h := hT c
            refine z_aload_n hC (pc := 94) 0 dX14_readString_94 rfl rfl ?_
            refine z_aload_n hC (pc := 95) 0 dX14_readString_95 rfl rfl ?_
            refine y_get hC (pc := 96) zf14 rOb_0 26 (v := .ref (κ 1026)) dX14_readString_96 zw2493 (rv_c rfl) (kk := ?_)
            refine z_aload_n hC (pc := 99) 0 dX14_readString_99 rfl rfl ?_
            refine y_get hC (pc := 100) zf14 rOb_0 29 (v := iv (rF s13 0 29)) dX14_readString_100 zw2496 (rv_i (Or.inl rfl) rfl) (kk := ?_)
            have h := h (Ws13.f _ _)
            refine z_iconst hC (pc := 103) (v := Int32.ofInt 1) dX14_readString_103 (by decide) ?_
            refine y_iadd hC (pc := 104) (v := ((rF s13 0 29) + 1)) dX14_readString_104 rfl ?_
            refine z_iload_n hC (pc := 105) 3 dX14_readString_105 rfl rfl ?_
            refine z_iload_n hC (pc := 106) 2 dX14_readString_106 rfl rfl ?_
            obtain ⟨r24, h⟩ := h
            obtain ⟨p25, h⟩ := h
            refine y_callVi hC (pc := 107) (As := [.ref (κ 1026), iv ((rF s13 0 29) + 1), iv y15, iv y14]) (kX14_keepString l G κ s13 1026 4001 ((rF s13 0 29) + 1) y15 y14 Ws13 (rAr_m rfl) r24 hy15 hy14 p25) dmX14_keepString zf14 rOb_0 dX14_readString_107 zw3214 rfl rfl (Nat.le_of_ble_eq_true rfl) (Nat.le_of_ble_eq_true rfl) (Nat.le_of_ble_eq_true rfl) (Nat.le_of_ble_eq_true rfl) (Nat.le_of_ble_eq_true rfl) (kk := fun x27 s26 hx27 Ws26 qs26 => ?_)
            have h := h x27 s26 hx27 Ws26 (TPRp.keep qs26.1 rfl rfl rfl) (qs26.1.R rfl) (qs26.1.F rfl) (qs26.1.F rfl) (qs26.1.F rfl) (qs26.1.F rfl) qs26.2
            refine z_istore hC (pc := 110) (lv' := [(4, iv x27), (0, .ref (κ 0)), (1, iv x1), (2, iv y14), (3, iv y15)]) dX14_readString_110 (by decide) rfl ?_
            refine z_aload_n hC (pc := 112) 1 dX14_readString_112 rfl rfl ?_
            refine z_iload_n hC (pc := 113) 4 dX14_readString_113 rfl rfl ?_
            refine z_iconst hC (pc := 114) (v := Int32.ofInt 1) dX14_readString_114 (by decide) ?_
            refine y_iadd hC (pc := 115) (v := (y15 + 1)) dX14_readString_115 rfl ?_
            obtain ⟨r28, h⟩ := h
            refine y_putI hC (pc := 116) zf14 rOb_0 29 (x := (y15 + 1)) dX14_readString_116 zw2496 (Or.inl rfl) rfl rfl (kk := ?_)
            have W29 := Ws26.sF (q := 0) (f := 29) (x := (y15 + 1)) r28
            refine z_iload hC (pc := 119) 0 dX14_readString_119 rfl ?_
            exact y_reti hR dX14_readString_121 rfl hx27 W29 (Nat.le_of_ble_eq_true rfl) (Nat.le_of_ble_eq_true rfl) ⟨(rKeep.tr (rKeep.tr (rKeep.tr rKeep.rf kJ rfl rfl rfl rfl rfl) qs26.1 rfl rfl rfl rfl rfl) (rKeep.sF0 (f := 29)) rfl rfl rfl rfl rfl), h⟩
          · have h := hF c
            refine z_aload_n hC (pc := 66) 0 dX14_readString_66 rfl rfl ?_
            refine z_iconst hC (pc := 67) (v := Int32.ofInt 1) dX14_readString_67 (by decide) ?_
            refine z_iload_n hC (pc := 68) 3 dX14_readString_68 rfl rfl ?_
            refine z_aload_n hC (pc := 69) 0 dX14_readString_69 rfl rfl ?_
            refine y_get hC (pc := 70) zf14 rOb_0 28 (v := iv (rF s13 0 28)) dX14_readString_70 zw2495 (rv_i (Or.inl rfl) rfl) (kk := ?_)
            obtain ⟨hT, hF⟩ := h
            refine y_icmp_ge hC (pc := 73) 85 hy15 (Ws13.f _ _) dX14_readString_73 (by decide) (fun c => ?_) (fun c => ?_)
            · have h := hT c
              refine z_aload_n hC (pc := 85) 0 dX14_readString_85 rfl rfl ?_
              refine y_get hC (pc := 86) zf14 rOb_0 30 (v := iv (rF s13 0 30)) dX14_readString_86 zw2497 (rv_i (Or.inl rfl) rfl) (kk := ?_)
              have h := h (Ws13.f _ _)
              obtain ⟨p30, h⟩ := h
              refine y_callVv hC (pc := 89) (As := [iv 1, iv (rF s13 0 30)]) (kX14_bad l G κ s13 1 (rF s13 0 30) Ws13 (r_lit rfl) (Ws13.f _ _) p30) dmX14_bad zf14 rOb_0 dX14_readString_89 zw3000 rfl rfl (Nat.le_of_ble_eq_true rfl) (Nat.le_of_ble_eq_true rfl) (Nat.le_of_ble_eq_true rfl) (Nat.le_of_ble_eq_true rfl) (Nat.le_of_ble_eq_true rfl) (kk := fun s31 Ws31 qs31 => ?_)
              have h := h s31 Ws31 (TPRp.keep qs31.1 rfl rfl rfl) (qs31.1.R rfl) (qs31.1.F rfl) (qs31.1.F rfl) (qs31.1.F rfl) (qs31.1.FG g0 rfl) (qs31.1.FG g0 rfl) qs31.2
              refine z_iconst hC (pc := 92) (v := Int32.ofInt 0) dX14_readString_92 (by decide) ?_
              exact y_reti hR dX14_readString_93 rfl (r_lit rfl) Ws31 (Nat.le_of_ble_eq_true rfl) (Nat.le_of_ble_eq_true rfl) ⟨(rKeep.tr (rKeep.tr rKeep.rf kJ rfl rfl rfl rfl rfl) qs31.1 rfl rfl rfl rfl rfl), h⟩
            · have h := hF c
              refine z_aload_n hC (pc := 76) 0 dX14_readString_76 rfl rfl ?_
              refine y_get hC (pc := 77) zf14 rOb_0 27 (v := .ref (κ 1027)) dX14_readString_77 zw2494 (rv_c rfl) (kk := ?_)
              refine z_iload_n hC (pc := 80) 3 dX14_readString_80 rfl rfl ?_
              obtain ⟨b33, h⟩ := h
              refine y_iald hC (pc := 81) (rAr_m rfl) dX14_readString_81 b33 (v := (rA s13 1027 y15)) rfl (kk := ?_)
              have h := h (Ws13.a _ _)
              refine z_goto hC (pc := 82) 89 dX14_readString_82 (by decide) ?_
              obtain ⟨p34, h⟩ := h
              refine y_callVv hC (pc := 89) (As := [iv 1, iv (rA s13 1027 y15)]) (kX14_bad l G κ s13 1 (rA s13 1027 y15) Ws13 (r_lit rfl) (Ws13.a _ _) p34) dmX14_bad zf14 rOb_0 dX14_readString_89 zw3000 rfl rfl (Nat.le_of_ble_eq_true rfl) (Nat.le_of_ble_eq_true rfl) (Nat.le_of_ble_eq_true rfl) (Nat.le_of_ble_eq_true rfl) (Nat.le_of_ble_eq_true rfl) (kk := fun s35 Ws35 qs35 => ?_)
              have h := h s35 Ws35 (TPRp.keep qs35.1 rfl rfl rfl) (qs35.1.R rfl) (qs35.1.F rfl) (qs35.1.F rfl) (qs35.1.F rfl) (qs35.1.FG g0 rfl) (qs35.1.FG g0 rfl) qs35.2
              refine z_iconst hC (pc := 92) (v := Int32.ofInt 0) dX14_readString_92 (by decide) ?_
              exact y_reti hR dX14_readString_93 rfl (r_lit rfl) Ws35 (Nat.le_of_ble_eq_true rfl) (Nat.le_of_ble_eq_true rfl) ⟨(rKeep.tr (rKeep.tr rKeep.rf kJ rfl rfl rfl rfl rfl) qs35.1 rfl rfl rfl rfl rfl), h⟩
      · have h := hF c
        refine z_aload_n hC (pc := 20) 0 dX14_readString_20 rfl rfl ?_
        refine y_get hC (pc := 21) zf14 rOb_0 26 (v := .ref (κ 1026)) dX14_readString_21 zw2493 (rv_c rfl) (kk := ?_)
        refine z_iload_n hC (pc := 24) 3 dX14_readString_24 rfl rfl ?_
        obtain ⟨b37, h⟩ := h
        refine y_bald hC (pc := 25) (rAr_m rfl) dX14_readString_25 b37 (v := (rA s13 1026 y15)) rfl (kk := ?_)
        have h := h (Ws13.a _ _)
        refine z_iload_n hC (pc := 26) 1 dX14_readString_26 rfl rfl ?_
        obtain ⟨hT, hF⟩ := h
        refine y_icmp_eq hC (pc := 27) 47 (Ws13.a _ _) hx1 dX14_readString_27 (by decide) (fun c => ?_) (fun c => ?_)
        · have h := hT c
          refine z_iload_n hC (pc := 47) 3 dX14_readString_47 rfl rfl ?_
          refine z_aload_n hC (pc := 48) 0 dX14_readString_48 rfl rfl ?_
          refine y_get hC (pc := 49) zf14 rOb_0 28 (v := iv (rF s13 0 28)) dX14_readString_49 zw2495 (rv_i (Or.inl rfl) rfl) (kk := ?_)
          obtain ⟨hT, hF⟩ := h
          refine y_icmp_ge hC (pc := 52) 66 hy15 (Ws13.f _ _) dX14_readString_52 (by decide) (fun c => ?_) (fun c => ?_)
          · have h := hT c
            refine z_aload_n hC (pc := 66) 0 dX14_readString_66 rfl rfl ?_
            refine z_iconst hC (pc := 67) (v := Int32.ofInt 1) dX14_readString_67 (by decide) ?_
            refine z_iload_n hC (pc := 68) 3 dX14_readString_68 rfl rfl ?_
            refine z_aload_n hC (pc := 69) 0 dX14_readString_69 rfl rfl ?_
            refine y_get hC (pc := 70) zf14 rOb_0 28 (v := iv (rF s13 0 28)) dX14_readString_70 zw2495 (rv_i (Or.inl rfl) rfl) (kk := ?_)
            obtain ⟨hT, hF⟩ := h
            refine y_icmp_ge hC (pc := 73) 85 hy15 (Ws13.f _ _) dX14_readString_73 (by decide) (fun c => ?_) (fun c => ?_)
            · have h := hT c
              refine z_aload_n hC (pc := 85) 0 dX14_readString_85 rfl rfl ?_
              refine y_get hC (pc := 86) zf14 rOb_0 30 (v := iv (rF s13 0 30)) dX14_readString_86 zw2497 (rv_i (Or.inl rfl) rfl) (kk := ?_)
              have h := h (Ws13.f _ _)
              obtain ⟨p38, h⟩ := h
              refine y_callVv hC (pc := 89) (As := [iv 1, iv (rF s13 0 30)]) (kX14_bad l G κ s13 1 (rF s13 0 30) Ws13 (r_lit rfl) (Ws13.f _ _) p38) dmX14_bad zf14 rOb_0 dX14_readString_89 zw3000 rfl rfl (Nat.le_of_ble_eq_true rfl) (Nat.le_of_ble_eq_true rfl) (Nat.le_of_ble_eq_true rfl) (Nat.le_of_ble_eq_true rfl) (Nat.le_of_ble_eq_true rfl) (kk := fun s39 Ws39 qs39 => ?_)
              have h := h s39 Ws39 (TPRp.keep qs39.1 rfl rfl rfl) (qs39.1.R rfl) (qs39.1.F rfl) (qs39.1.F rfl) (qs39.1.F rfl) (qs39.1.FG g0 rfl) (qs39.1.FG g0 rfl) qs39.2
              refine z_iconst hC (pc := 92) (v := Int32.ofInt 0) dX14_readString_92 (by decide) ?_
              exact y_reti hR dX14_readString_93 rfl (r_lit rfl) Ws39 (Nat.le_of_ble_eq_true rfl) (Nat.le_of_ble_eq_true rfl) ⟨(rKeep.tr (rKeep.tr rKeep.rf kJ rfl rfl rfl rfl rfl) qs39.1 rfl rfl rfl rfl rfl), h⟩
            · have h := hF c
              refine z_aload_n hC (pc := 76) 0 dX14_readString_76 rfl rfl ?_
              refine y_get hC (pc := 77) zf14 rOb_0 27 (v := .ref (κ 1027)) dX14_readString_77 zw2494 (rv_c rfl) (kk := ?_)
              refine z_iload_n hC (pc := 80) 3 dX14_readString_80 rfl rfl ?_
              obtain ⟨b41, h⟩ := h
              refine y_iald hC (pc := 81) (rAr_m rfl) dX14_readString_81 b41 (v := (rA s13 1027 y15)) rfl (kk := ?_)
              have h := h (Ws13.a _ _)
              refine z_goto hC (pc := 82) 89 dX14_readString_82 (by decide) ?_
              obtain ⟨p42, h⟩ := h
              refine y_callVv hC (pc := 89) (As := [iv 1, iv (rA s13 1027 y15)]) (kX14_bad l G κ s13 1 (rA s13 1027 y15) Ws13 (r_lit rfl) (Ws13.a _ _) p42) dmX14_bad zf14 rOb_0 dX14_readString_89 zw3000 rfl rfl (Nat.le_of_ble_eq_true rfl) (Nat.le_of_ble_eq_true rfl) (Nat.le_of_ble_eq_true rfl) (Nat.le_of_ble_eq_true rfl) (Nat.le_of_ble_eq_true rfl) (kk := fun s43 Ws43 qs43 => ?_)
              have h := h s43 Ws43 (TPRp.keep qs43.1 rfl rfl rfl) (qs43.1.R rfl) (qs43.1.F rfl) (qs43.1.F rfl) (qs43.1.F rfl) (qs43.1.FG g0 rfl) (qs43.1.FG g0 rfl) qs43.2
              refine z_iconst hC (pc := 92) (v := Int32.ofInt 0) dX14_readString_92 (by decide) ?_
              exact y_reti hR dX14_readString_93 rfl (r_lit rfl) Ws43 (Nat.le_of_ble_eq_true rfl) (Nat.le_of_ble_eq_true rfl) ⟨(rKeep.tr (rKeep.tr rKeep.rf kJ rfl rfl rfl rfl rfl) qs43.1 rfl rfl rfl rfl rfl), h⟩
          · have h := hF c
            refine z_aload_n hC (pc := 55) 0 dX14_readString_55 rfl rfl ?_
            refine y_get hC (pc := 56) zf14 rOb_0 26 (v := .ref (κ 1026)) dX14_readString_56 zw2493 (rv_c rfl) (kk := ?_)
            refine z_iload_n hC (pc := 59) 3 dX14_readString_59 rfl rfl ?_
            obtain ⟨b45, h⟩ := h
            refine y_bald hC (pc := 60) (rAr_m rfl) dX14_readString_60 b45 (v := (rA s13 1026 y15)) rfl (kk := ?_)
            refine z_bipush hC (pc := 61) (v := Int32.ofInt 10) dX14_readString_61 (by decide) ?_
            obtain ⟨hT, hF⟩ := h
            refine y_icmp_ne hC (pc := 63) 94 (Ws13.a _ _) (r_lit rfl) dX14_readString_63 (by decide) (fun c => ?_) (fun c => ?_)
            · have h := hT c
              refine z_aload_n hC (pc := 94) 0 dX14_readString_94 rfl rfl ?_
              refine z_aload_n hC (pc := 95) 0 dX14_readString_95 rfl rfl ?_
              refine y_get hC (pc := 96) zf14 rOb_0 26 (v := .ref (κ 1026)) dX14_readString_96 zw2493 (rv_c rfl) (kk := ?_)
              refine z_aload_n hC (pc := 99) 0 dX14_readString_99 rfl rfl ?_
              refine y_get hC (pc := 100) zf14 rOb_0 29 (v := iv (rF s13 0 29)) dX14_readString_100 zw2496 (rv_i (Or.inl rfl) rfl) (kk := ?_)
              have h := h (Ws13.f _ _)
              refine z_iconst hC (pc := 103) (v := Int32.ofInt 1) dX14_readString_103 (by decide) ?_
              refine y_iadd hC (pc := 104) (v := ((rF s13 0 29) + 1)) dX14_readString_104 rfl ?_
              refine z_iload_n hC (pc := 105) 3 dX14_readString_105 rfl rfl ?_
              refine z_iload_n hC (pc := 106) 2 dX14_readString_106 rfl rfl ?_
              obtain ⟨r46, h⟩ := h
              obtain ⟨p47, h⟩ := h
              refine y_callVi hC (pc := 107) (As := [.ref (κ 1026), iv ((rF s13 0 29) + 1), iv y15, iv y14]) (kX14_keepString l G κ s13 1026 4001 ((rF s13 0 29) + 1) y15 y14 Ws13 (rAr_m rfl) r46 hy15 hy14 p47) dmX14_keepString zf14 rOb_0 dX14_readString_107 zw3214 rfl rfl (Nat.le_of_ble_eq_true rfl) (Nat.le_of_ble_eq_true rfl) (Nat.le_of_ble_eq_true rfl) (Nat.le_of_ble_eq_true rfl) (Nat.le_of_ble_eq_true rfl) (kk := fun x49 s48 hx49 Ws48 qs48 => ?_)
              have h := h x49 s48 hx49 Ws48 (TPRp.keep qs48.1 rfl rfl rfl) (qs48.1.R rfl) (qs48.1.F rfl) (qs48.1.F rfl) (qs48.1.F rfl) (qs48.1.F rfl) qs48.2
              refine z_istore hC (pc := 110) (lv' := [(4, iv x49), (0, .ref (κ 0)), (1, iv x1), (2, iv y14), (3, iv y15)]) dX14_readString_110 (by decide) rfl ?_
              refine z_aload_n hC (pc := 112) 1 dX14_readString_112 rfl rfl ?_
              refine z_iload_n hC (pc := 113) 4 dX14_readString_113 rfl rfl ?_
              refine z_iconst hC (pc := 114) (v := Int32.ofInt 1) dX14_readString_114 (by decide) ?_
              refine y_iadd hC (pc := 115) (v := (y15 + 1)) dX14_readString_115 rfl ?_
              obtain ⟨r50, h⟩ := h
              refine y_putI hC (pc := 116) zf14 rOb_0 29 (x := (y15 + 1)) dX14_readString_116 zw2496 (Or.inl rfl) rfl rfl (kk := ?_)
              have W51 := Ws48.sF (q := 0) (f := 29) (x := (y15 + 1)) r50
              refine z_iload hC (pc := 119) 0 dX14_readString_119 rfl ?_
              exact y_reti hR dX14_readString_121 rfl hx49 W51 (Nat.le_of_ble_eq_true rfl) (Nat.le_of_ble_eq_true rfl) ⟨(rKeep.tr (rKeep.tr (rKeep.tr rKeep.rf kJ rfl rfl rfl rfl rfl) qs48.1 rfl rfl rfl rfl rfl) (rKeep.sF0 (f := 29)) rfl rfl rfl rfl rfl), h⟩
            · have h := hF c
              refine z_aload_n hC (pc := 66) 0 dX14_readString_66 rfl rfl ?_
              refine z_iconst hC (pc := 67) (v := Int32.ofInt 1) dX14_readString_67 (by decide) ?_
              refine z_iload_n hC (pc := 68) 3 dX14_readString_68 rfl rfl ?_
              refine z_aload_n hC (pc := 69) 0 dX14_readString_69 rfl rfl ?_
              refine y_get hC (pc := 70) zf14 rOb_0 28 (v := iv (rF s13 0 28)) dX14_readString_70 zw2495 (rv_i (Or.inl rfl) rfl) (kk := ?_)
              obtain ⟨hT, hF⟩ := h
              refine y_icmp_ge hC (pc := 73) 85 hy15 (Ws13.f _ _) dX14_readString_73 (by decide) (fun c => ?_) (fun c => ?_)
              · have h := hT c
                refine z_aload_n hC (pc := 85) 0 dX14_readString_85 rfl rfl ?_
                refine y_get hC (pc := 86) zf14 rOb_0 30 (v := iv (rF s13 0 30)) dX14_readString_86 zw2497 (rv_i (Or.inl rfl) rfl) (kk := ?_)
                have h := h (Ws13.f _ _)
                obtain ⟨p52, h⟩ := h
                refine y_callVv hC (pc := 89) (As := [iv 1, iv (rF s13 0 30)]) (kX14_bad l G κ s13 1 (rF s13 0 30) Ws13 (r_lit rfl) (Ws13.f _ _) p52) dmX14_bad zf14 rOb_0 dX14_readString_89 zw3000 rfl rfl (Nat.le_of_ble_eq_true rfl) (Nat.le_of_ble_eq_true rfl) (Nat.le_of_ble_eq_true rfl) (Nat.le_of_ble_eq_true rfl) (Nat.le_of_ble_eq_true rfl) (kk := fun s53 Ws53 qs53 => ?_)
                have h := h s53 Ws53 (TPRp.keep qs53.1 rfl rfl rfl) (qs53.1.R rfl) (qs53.1.F rfl) (qs53.1.F rfl) (qs53.1.F rfl) (qs53.1.FG g0 rfl) (qs53.1.FG g0 rfl) qs53.2
                refine z_iconst hC (pc := 92) (v := Int32.ofInt 0) dX14_readString_92 (by decide) ?_
                exact y_reti hR dX14_readString_93 rfl (r_lit rfl) Ws53 (Nat.le_of_ble_eq_true rfl) (Nat.le_of_ble_eq_true rfl) ⟨(rKeep.tr (rKeep.tr rKeep.rf kJ rfl rfl rfl rfl rfl) qs53.1 rfl rfl rfl rfl rfl), h⟩
              · have h := hF c
                refine z_aload_n hC (pc := 76) 0 dX14_readString_76 rfl rfl ?_
                refine y_get hC (pc := 77) zf14 rOb_0 27 (v := .ref (κ 1027)) dX14_readString_77 zw2494 (rv_c rfl) (kk := ?_)
                refine z_iload_n hC (pc := 80) 3 dX14_readString_80 rfl rfl ?_
                obtain ⟨b55, h⟩ := h
                refine y_iald hC (pc := 81) (rAr_m rfl) dX14_readString_81 b55 (v := (rA s13 1027 y15)) rfl (kk := ?_)
                have h := h (Ws13.a _ _)
                refine z_goto hC (pc := 82) 89 dX14_readString_82 (by decide) ?_
                obtain ⟨p56, h⟩ := h
                refine y_callVv hC (pc := 89) (As := [iv 1, iv (rA s13 1027 y15)]) (kX14_bad l G κ s13 1 (rA s13 1027 y15) Ws13 (r_lit rfl) (Ws13.a _ _) p56) dmX14_bad zf14 rOb_0 dX14_readString_89 zw3000 rfl rfl (Nat.le_of_ble_eq_true rfl) (Nat.le_of_ble_eq_true rfl) (Nat.le_of_ble_eq_true rfl) (Nat.le_of_ble_eq_true rfl) (Nat.le_of_ble_eq_true rfl) (kk := fun s57 Ws57 qs57 => ?_)
                have h := h s57 Ws57 (TPRp.keep qs57.1 rfl rfl rfl) (qs57.1.R rfl) (qs57.1.F rfl) (qs57.1.F rfl) (qs57.1.F rfl) (qs57.1.FG g0 rfl) (qs57.1.FG g0 rfl) qs57.2
                refine z_iconst hC (pc := 92) (v := Int32.ofInt 0) dX14_readString_92 (by decide) ?_
                exact y_reti hR dX14_readString_93 rfl (r_lit rfl) Ws57 (Nat.le_of_ble_eq_true rfl) (Nat.le_of_ble_eq_true rfl) ⟨(rKeep.tr (rKeep.tr rKeep.rf kJ rfl rfl rfl rfl rfl) qs57.1 rfl rfl rfl rfl rfl), h⟩
        · have h := hF c
          refine z_aload_n hC (pc := 30) 0 dX14_readString_30 rfl rfl ?_
          refine y_get hC (pc := 31) zf14 rOb_0 26 (v := .ref (κ 1026)) dX14_readString_31 zw2493 (rv_c rfl) (kk := ?_)
          refine z_iload_n hC (pc := 34) 3 dX14_readString_34 rfl rfl ?_
          obtain ⟨b59, h⟩ := h
          refine y_bald hC (pc := 35) (rAr_m rfl) dX14_readString_35 b59 (v := (rA s13 1026 y15)) rfl (kk := ?_)
          refine z_bipush hC (pc := 36) (v := Int32.ofInt 10) dX14_readString_36 (by decide) ?_
          obtain ⟨hT, hF⟩ := h
          refine y_icmp_eq hC (pc := 38) 47 (Ws13.a _ _) (r_lit rfl) dX14_readString_38 (by decide) (fun c => ?_) (fun c => ?_)
          · have h := hT c
            refine z_iload_n hC (pc := 47) 3 dX14_readString_47 rfl rfl ?_
            refine z_aload_n hC (pc := 48) 0 dX14_readString_48 rfl rfl ?_
            refine y_get hC (pc := 49) zf14 rOb_0 28 (v := iv (rF s13 0 28)) dX14_readString_49 zw2495 (rv_i (Or.inl rfl) rfl) (kk := ?_)
            obtain ⟨hT, hF⟩ := h
            refine y_icmp_ge hC (pc := 52) 66 hy15 (Ws13.f _ _) dX14_readString_52 (by decide) (fun c => ?_) (fun c => ?_)
            · have h := hT c
              refine z_aload_n hC (pc := 66) 0 dX14_readString_66 rfl rfl ?_
              refine z_iconst hC (pc := 67) (v := Int32.ofInt 1) dX14_readString_67 (by decide) ?_
              refine z_iload_n hC (pc := 68) 3 dX14_readString_68 rfl rfl ?_
              refine z_aload_n hC (pc := 69) 0 dX14_readString_69 rfl rfl ?_
              refine y_get hC (pc := 70) zf14 rOb_0 28 (v := iv (rF s13 0 28)) dX14_readString_70 zw2495 (rv_i (Or.inl rfl) rfl) (kk := ?_)
              obtain ⟨hT, hF⟩ := h
              refine y_icmp_ge hC (pc := 73) 85 hy15 (Ws13.f _ _) dX14_readString_73 (by decide) (fun c => ?_) (fun c => ?_)
              · have h := hT c
                refine z_aload_n hC (pc := 85) 0 dX14_readString_85 rfl rfl ?_
                refine y_get hC (pc := 86) zf14 rOb_0 30 (v := iv (rF s13 0 30)) dX14_readString_86 zw2497 (rv_i (Or.inl rfl) rfl) (kk := ?_)
                have h := h (Ws13.f _ _)
                obtain ⟨p60, h⟩ := h
                refine y_callVv hC (pc := 89) (As := [iv 1, iv (rF s13 0 30)]) (kX14_bad l G κ s13 1 (rF s13 0 30) Ws13 (r_lit rfl) (Ws13.f _ _) p60) dmX14_bad zf14 rOb_0 dX14_readString_89 zw3000 rfl rfl (Nat.le_of_ble_eq_true rfl) (Nat.le_of_ble_eq_true rfl) (Nat.le_of_ble_eq_true rfl) (Nat.le_of_ble_eq_true rfl) (Nat.le_of_ble_eq_true rfl) (kk := fun s61 Ws61 qs61 => ?_)
                have h := h s61 Ws61 (TPRp.keep qs61.1 rfl rfl rfl) (qs61.1.R rfl) (qs61.1.F rfl) (qs61.1.F rfl) (qs61.1.F rfl) (qs61.1.FG g0 rfl) (qs61.1.FG g0 rfl) qs61.2
                refine z_iconst hC (pc := 92) (v := Int32.ofInt 0) dX14_readString_92 (by decide) ?_
                exact y_reti hR dX14_readString_93 rfl (r_lit rfl) Ws61 (Nat.le_of_ble_eq_true rfl) (Nat.le_of_ble_eq_true rfl) ⟨(rKeep.tr (rKeep.tr rKeep.rf kJ rfl rfl rfl rfl rfl) qs61.1 rfl rfl rfl rfl rfl), h⟩
              · have h := hF c
                refine z_aload_n hC (pc := 76) 0 dX14_readString_76 rfl rfl ?_
                refine y_get hC (pc := 77) zf14 rOb_0 27 (v := .ref (κ 1027)) dX14_readString_77 zw2494 (rv_c rfl) (kk := ?_)
                refine z_iload_n hC (pc := 80) 3 dX14_readString_80 rfl rfl ?_
                obtain ⟨b63, h⟩ := h
                refine y_iald hC (pc := 81) (rAr_m rfl) dX14_readString_81 b63 (v := (rA s13 1027 y15)) rfl (kk := ?_)
                have h := h (Ws13.a _ _)
                refine z_goto hC (pc := 82) 89 dX14_readString_82 (by decide) ?_
                obtain ⟨p64, h⟩ := h
                refine y_callVv hC (pc := 89) (As := [iv 1, iv (rA s13 1027 y15)]) (kX14_bad l G κ s13 1 (rA s13 1027 y15) Ws13 (r_lit rfl) (Ws13.a _ _) p64) dmX14_bad zf14 rOb_0 dX14_readString_89 zw3000 rfl rfl (Nat.le_of_ble_eq_true rfl) (Nat.le_of_ble_eq_true rfl) (Nat.le_of_ble_eq_true rfl) (Nat.le_of_ble_eq_true rfl) (Nat.le_of_ble_eq_true rfl) (kk := fun s65 Ws65 qs65 => ?_)
                have h := h s65 Ws65 (TPRp.keep qs65.1 rfl rfl rfl) (qs65.1.R rfl) (qs65.1.F rfl) (qs65.1.F rfl) (qs65.1.F rfl) (qs65.1.FG g0 rfl) (qs65.1.FG g0 rfl) qs65.2
                refine z_iconst hC (pc := 92) (v := Int32.ofInt 0) dX14_readString_92 (by decide) ?_
                exact y_reti hR dX14_readString_93 rfl (r_lit rfl) Ws65 (Nat.le_of_ble_eq_true rfl) (Nat.le_of_ble_eq_true rfl) ⟨(rKeep.tr (rKeep.tr rKeep.rf kJ rfl rfl rfl rfl rfl) qs65.1 rfl rfl rfl rfl rfl), h⟩
            · have h := hF c
              refine z_aload_n hC (pc := 55) 0 dX14_readString_55 rfl rfl ?_
              refine y_get hC (pc := 56) zf14 rOb_0 26 (v := .ref (κ 1026)) dX14_readString_56 zw2493 (rv_c rfl) (kk := ?_)
              refine z_iload_n hC (pc := 59) 3 dX14_readString_59 rfl rfl ?_
              obtain ⟨b67, h⟩ := h
              refine y_bald hC (pc := 60) (rAr_m rfl) dX14_readString_60 b67 (v := (rA s13 1026 y15)) rfl (kk := ?_)
              refine z_bipush hC (pc := 61) (v := Int32.ofInt 10) dX14_readString_61 (by decide) ?_
              obtain ⟨hT, hF⟩ := h
              refine y_icmp_ne hC (pc := 63) 94 (Ws13.a _ _) (r_lit rfl) dX14_readString_63 (by decide) (fun c => ?_) (fun c => ?_)
              · have h := hT c
                refine z_aload_n hC (pc := 94) 0 dX14_readString_94 rfl rfl ?_
                refine z_aload_n hC (pc := 95) 0 dX14_readString_95 rfl rfl ?_
                refine y_get hC (pc := 96) zf14 rOb_0 26 (v := .ref (κ 1026)) dX14_readString_96 zw2493 (rv_c rfl) (kk := ?_)
                refine z_aload_n hC (pc := 99) 0 dX14_readString_99 rfl rfl ?_
                refine y_get hC (pc := 100) zf14 rOb_0 29 (v := iv (rF s13 0 29)) dX14_readString_100 zw2496 (rv_i (Or.inl rfl) rfl) (kk := ?_)
                have h := h (Ws13.f _ _)
                refine z_iconst hC (pc := 103) (v := Int32.ofInt 1) dX14_readString_103 (by decide) ?_
                refine y_iadd hC (pc := 104) (v := ((rF s13 0 29) + 1)) dX14_readString_104 rfl ?_
                refine z_iload_n hC (pc := 105) 3 dX14_readString_105 rfl rfl ?_
                refine z_iload_n hC (pc := 106) 2 dX14_readString_106 rfl rfl ?_
                obtain ⟨r68, h⟩ := h
                obtain ⟨p69, h⟩ := h
                refine y_callVi hC (pc := 107) (As := [.ref (κ 1026), iv ((rF s13 0 29) + 1), iv y15, iv y14]) (kX14_keepString l G κ s13 1026 4001 ((rF s13 0 29) + 1) y15 y14 Ws13 (rAr_m rfl) r68 hy15 hy14 p69) dmX14_keepString zf14 rOb_0 dX14_readString_107 zw3214 rfl rfl (Nat.le_of_ble_eq_true rfl) (Nat.le_of_ble_eq_true rfl) (Nat.le_of_ble_eq_true rfl) (Nat.le_of_ble_eq_true rfl) (Nat.le_of_ble_eq_true rfl) (kk := fun x71 s70 hx71 Ws70 qs70 => ?_)
                have h := h x71 s70 hx71 Ws70 (TPRp.keep qs70.1 rfl rfl rfl) (qs70.1.R rfl) (qs70.1.F rfl) (qs70.1.F rfl) (qs70.1.F rfl) (qs70.1.F rfl) qs70.2
                refine z_istore hC (pc := 110) (lv' := [(4, iv x71), (0, .ref (κ 0)), (1, iv x1), (2, iv y14), (3, iv y15)]) dX14_readString_110 (by decide) rfl ?_
                refine z_aload_n hC (pc := 112) 1 dX14_readString_112 rfl rfl ?_
                refine z_iload_n hC (pc := 113) 4 dX14_readString_113 rfl rfl ?_
                refine z_iconst hC (pc := 114) (v := Int32.ofInt 1) dX14_readString_114 (by decide) ?_
                refine y_iadd hC (pc := 115) (v := (y15 + 1)) dX14_readString_115 rfl ?_
                obtain ⟨r72, h⟩ := h
                refine y_putI hC (pc := 116) zf14 rOb_0 29 (x := (y15 + 1)) dX14_readString_116 zw2496 (Or.inl rfl) rfl rfl (kk := ?_)
                have W73 := Ws70.sF (q := 0) (f := 29) (x := (y15 + 1)) r72
                refine z_iload hC (pc := 119) 0 dX14_readString_119 rfl ?_
                exact y_reti hR dX14_readString_121 rfl hx71 W73 (Nat.le_of_ble_eq_true rfl) (Nat.le_of_ble_eq_true rfl) ⟨(rKeep.tr (rKeep.tr (rKeep.tr rKeep.rf kJ rfl rfl rfl rfl rfl) qs70.1 rfl rfl rfl rfl rfl) (rKeep.sF0 (f := 29)) rfl rfl rfl rfl rfl), h⟩
              · have h := hF c
                refine z_aload_n hC (pc := 66) 0 dX14_readString_66 rfl rfl ?_
                refine z_iconst hC (pc := 67) (v := Int32.ofInt 1) dX14_readString_67 (by decide) ?_
                refine z_iload_n hC (pc := 68) 3 dX14_readString_68 rfl rfl ?_
                refine z_aload_n hC (pc := 69) 0 dX14_readString_69 rfl rfl ?_
                refine y_get hC (pc := 70) zf14 rOb_0 28 (v := iv (rF s13 0 28)) dX14_readString_70 zw2495 (rv_i (Or.inl rfl) rfl) (kk := ?_)
                obtain ⟨hT, hF⟩ := h
                refine y_icmp_ge hC (pc := 73) 85 hy15 (Ws13.f _ _) dX14_readString_73 (by decide) (fun c => ?_) (fun c => ?_)
                · have h := hT c
                  refine z_aload_n hC (pc := 85) 0 dX14_readString_85 rfl rfl ?_
                  refine y_get hC (pc := 86) zf14 rOb_0 30 (v := iv (rF s13 0 30)) dX14_readString_86 zw2497 (rv_i (Or.inl rfl) rfl) (kk := ?_)
                  have h := h (Ws13.f _ _)
                  obtain ⟨p74, h⟩ := h
                  refine y_callVv hC (pc := 89) (As := [iv 1, iv (rF s13 0 30)]) (kX14_bad l G κ s13 1 (rF s13 0 30) Ws13 (r_lit rfl) (Ws13.f _ _) p74) dmX14_bad zf14 rOb_0 dX14_readString_89 zw3000 rfl rfl (Nat.le_of_ble_eq_true rfl) (Nat.le_of_ble_eq_true rfl) (Nat.le_of_ble_eq_true rfl) (Nat.le_of_ble_eq_true rfl) (Nat.le_of_ble_eq_true rfl) (kk := fun s75 Ws75 qs75 => ?_)
                  have h := h s75 Ws75 (TPRp.keep qs75.1 rfl rfl rfl) (qs75.1.R rfl) (qs75.1.F rfl) (qs75.1.F rfl) (qs75.1.F rfl) (qs75.1.FG g0 rfl) (qs75.1.FG g0 rfl) qs75.2
                  refine z_iconst hC (pc := 92) (v := Int32.ofInt 0) dX14_readString_92 (by decide) ?_
                  exact y_reti hR dX14_readString_93 rfl (r_lit rfl) Ws75 (Nat.le_of_ble_eq_true rfl) (Nat.le_of_ble_eq_true rfl) ⟨(rKeep.tr (rKeep.tr rKeep.rf kJ rfl rfl rfl rfl rfl) qs75.1 rfl rfl rfl rfl rfl), h⟩
                · have h := hF c
                  refine z_aload_n hC (pc := 76) 0 dX14_readString_76 rfl rfl ?_
                  refine y_get hC (pc := 77) zf14 rOb_0 27 (v := .ref (κ 1027)) dX14_readString_77 zw2494 (rv_c rfl) (kk := ?_)
                  refine z_iload_n hC (pc := 80) 3 dX14_readString_80 rfl rfl ?_
                  obtain ⟨b77, h⟩ := h
                  refine y_iald hC (pc := 81) (rAr_m rfl) dX14_readString_81 b77 (v := (rA s13 1027 y15)) rfl (kk := ?_)
                  have h := h (Ws13.a _ _)
                  refine z_goto hC (pc := 82) 89 dX14_readString_82 (by decide) ?_
                  obtain ⟨p78, h⟩ := h
                  refine y_callVv hC (pc := 89) (As := [iv 1, iv (rA s13 1027 y15)]) (kX14_bad l G κ s13 1 (rA s13 1027 y15) Ws13 (r_lit rfl) (Ws13.a _ _) p78) dmX14_bad zf14 rOb_0 dX14_readString_89 zw3000 rfl rfl (Nat.le_of_ble_eq_true rfl) (Nat.le_of_ble_eq_true rfl) (Nat.le_of_ble_eq_true rfl) (Nat.le_of_ble_eq_true rfl) (Nat.le_of_ble_eq_true rfl) (kk := fun s79 Ws79 qs79 => ?_)
                  have h := h s79 Ws79 (TPRp.keep qs79.1 rfl rfl rfl) (qs79.1.R rfl) (qs79.1.F rfl) (qs79.1.F rfl) (qs79.1.F rfl) (qs79.1.FG g0 rfl) (qs79.1.FG g0 rfl) qs79.2
                  refine z_iconst hC (pc := 92) (v := Int32.ofInt 0) dX14_readString_92 (by decide) ?_
                  exact y_reti hR dX14_readString_93 rfl (r_lit rfl) Ws79 (Nat.le_of_ble_eq_true rfl) (Nat.le_of_ble_eq_true rfl) ⟨(rKeep.tr (rKeep.tr rKeep.rf kJ rfl rfl rfl rfl rfl) qs79.1 rfl rfl rfl rfl rfl), h⟩
          · have h := hF c
            refine y_iinc hC (pc := 41) (v := (y15 + 1)) (lv' := [(3, iv (y15 + 1)), (0, .ref (κ 0)), (1, iv x1), (2, iv y14)]) 3 dX14_readString_41 rfl rfl (by decide) rfl ?_
            refine z_goto hC (pc := 44) 12 dX14_readString_44 (by decide) ?_
            refine z_lvs [1, 2, 3, 0] rfl ?_
            obtain ⟨r81, h⟩ := h
            obtain ⟨hI, hm⟩ := h
            exact ih12 s13 y14 (y15 + 1) Ws13 hy14 r81 (rKeep.tr rKeep.rf kJ rfl rfl rfl rfl rfl) hI (by omega)
  refine z_lvs [2, 3, 1, 0] rfl ?_
  obtain ⟨r82, h⟩ := h
  exact j12 _ σ x12 ((rF σ 0 29) + 1) hwf hx12 r82 rKeep.rf h (Nat.le_refl _)
theorem kX14_readString (l : Launch) (G : zG) (κ : Nat → Nat) (σ : rS) (x1 : Int) (hwf : rWF σ) (hx1 : rng x1) (hp : pre_X14_readString σ x1) : rMi l G κ yX14_readString cX14_readString 5 .int 3 50 [.ref (κ 0), iv x1] σ (fun x s => rKeep 0x23001c00 0x280 0 0x17f 0 σ s ∧ post_X14_readString σ x1 x s) := wX14_readString l G κ σ x1 hwf hx1 (post_X14_readString σ x1) (vX14_readString σ x1 hwf hx1 hp) (vX14_readString_12 σ x1 hwf hx1 hp) (vX14_readString_12m σ x1 hwf hx1 hp)
