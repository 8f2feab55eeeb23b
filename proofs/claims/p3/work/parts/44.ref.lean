theorem zw2331 : Cond.fieldLink "TemplateHouseModel$Group" 42 "TemplateHouseModel$Group" "nameSize" "[I" ∈ zT := zsub10 171 (by decide +kernel) (by decide +kernel)
theorem zw2325 : Cond.fieldLink "TemplateHouseModel$Group" 35 "TemplateHouseModel$Group" "bytes" "[B" ∈ zT := zsub10 165 (by decide +kernel) (by decide +kernel)
theorem zw2329 : Cond.fieldLink "TemplateHouseModel$Group" 39 "TemplateHouseModel$Group" "nameAt" "[I" ∈ zT := zsub10 169 (by decide +kernel) (by decide +kernel)
theorem zw2333 : Cond.fieldLink "TemplateHouseModel$Group" 116 "TemplateHouseModel$Group" "names" "I" ∈ zT := zsub10 173 (by decide +kernel) (by decide +kernel)
theorem zw2327 : Cond.fieldLink "TemplateHouseModel$Group" 113 "TemplateHouseModel$Group" "size" "I" ∈ zT := zsub10 167 (by decide +kernel) (by decide +kernel)
theorem zw3067 : Cond.methodLink "TemplateHouseModel$Group" 131 ⟨"TemplateHouseModel$Group", "isName", "(I[BII)Z"⟩ ∈ zT := zsub13 187 (by decide +kernel) (by decide +kernel)
theorem zw2506 : Cond.fieldLink "TemplateHouseModel" 557 "TemplateHouseModel" "openMany" "I" ∈ zT := zsub11 106 (by decide +kernel) (by decide +kernel)
theorem zw2507 : Cond.fieldLink "TemplateHouseModel" 61 "TemplateHouseModel" "openKind" "[I" ∈ zT := zsub11 107 (by decide +kernel) (by decide +kernel)
theorem zw3141 : Cond.methodLink "TemplateHouseModel" 613 ⟨"TemplateHouseModel", "isReserved", "()Z"⟩ ∈ zT := zsub14 21 (by decide +kernel) (by decide +kernel)
theorem zw2328 : Cond.fieldLinkNest "TemplateHouseModel" 371 "TemplateHouseModel$Group" "size" "I" "TemplateHouseModel" ∈ zNest := zsubN10 168 (by decide +kernel) (by decide +kernel)
theorem zw2491 : Cond.fieldLink "TemplateHouseModel" 374 "TemplateHouseModel" "keptAt" "I" ∈ zT := zsub11 91 (by decide +kernel) (by decide +kernel)
theorem zw2492 : Cond.fieldLink "TemplateHouseModel" 380 "TemplateHouseModel" "keptSize" "I" ∈ zT := zsub11 92 (by decide +kernel) (by decide +kernel)
theorem zw2326 : Cond.fieldLinkNest "TemplateHouseModel" 377 "TemplateHouseModel$Group" "bytes" "[B" "TemplateHouseModel" ∈ zNest := zsubN10 166 (by decide +kernel) (by decide +kernel)
theorem zw2488 : Cond.fieldLink "TemplateHouseModel" 327 "TemplateHouseModel" "wordAt" "I" ∈ zT := zsub11 88 (by decide +kernel) (by decide +kernel)
theorem zw2489 : Cond.fieldLink "TemplateHouseModel" 341 "TemplateHouseModel" "stringAt" "I" ∈ zT := zsub11 89 (by decide +kernel) (by decide +kernel)
theorem zw2490 : Cond.fieldLink "TemplateHouseModel" 344 "TemplateHouseModel" "stringEnd" "I" ∈ zT := zsub11 90 (by decide +kernel) (by decide +kernel)
theorem zw3063 : Cond.methodLink "TemplateHouseModel" 338 ⟨"TemplateHouseModel$Group", "name", "([BII)I"⟩ ∈ zT := zsub13 183 (by decide +kernel) (by decide +kernel)
theorem zw3055 : Cond.methodLink "TemplateHouseModel" 330 ⟨"TemplateHouseModel", "isFileReserved", "()Z"⟩ ∈ zT := zsub13 175 (by decide +kernel) (by decide +kernel)
theorem zw2508 : Cond.fieldLink "TemplateHouseModel" 610 "TemplateHouseModel" "namePlace" "I" ∈ zT := zsub11 108 (by decide +kernel) (by decide +kernel)
theorem zw3070 : Cond.code ⟨"TemplateHouseModel$Group", "isName", "(I[BII)Z"⟩ prog_16_method_5_code 7 (Option.some Jvm.ClassFile.FieldType.boolean) ∈ zT := zsub13 190 rfl rfl
theorem zw15 : Cond.initialized "TemplateHouseModel$Group" ∈ zT := zsub1 15 (by decide +kernel) (by decide +kernel)
theorem zw3068 : Cond.instanceMethod ⟨"TemplateHouseModel$Group", "isName", "(I[BII)Z"⟩ ∈ zT := zsub13 188 (by decide +kernel) (by decide +kernel)
theorem zw3069 : Cond.selects "TemplateHouseModel$Group" ⟨"TemplateHouseModel$Group", "isName", "(I[BII)Z"⟩ ⟨"TemplateHouseModel$Group", "isName", "(I[BII)Z"⟩ ∈ zT := zsub13 189 (by decide +kernel) (by decide +kernel)
theorem zw3066 : Cond.code ⟨"TemplateHouseModel$Group", "name", "([BII)I"⟩ prog_16_method_4_code 5 (Option.some Jvm.ClassFile.FieldType.int) ∈ zT := zsub13 186 rfl rfl
theorem zw3064 : Cond.instanceMethod ⟨"TemplateHouseModel$Group", "name", "([BII)I"⟩ ∈ zT := zsub13 184 (by decide +kernel) (by decide +kernel)
theorem zw3065 : Cond.selects "TemplateHouseModel$Group" ⟨"TemplateHouseModel$Group", "name", "([BII)I"⟩ ⟨"TemplateHouseModel$Group", "name", "([BII)I"⟩ ∈ zT := zsub13 185 (by decide +kernel) (by decide +kernel)
theorem zw3361 : Cond.code ⟨"TemplateHouseModel", "fileOf", "(I)I"⟩ prog_15_method_17_code 2 (Option.some Jvm.ClassFile.FieldType.int) ∈ zT := zsub15 1 rfl rfl
theorem zw3360 : Cond.instanceMethod ⟨"TemplateHouseModel", "fileOf", "(I)I"⟩ ∈ zT := zsub15 0 (by decide +kernel) (by decide +kernel)
theorem zwp179 : Cond.selects "TemplateHouseModel" ⟨"TemplateHouseModel", "fileOf", "(I)I"⟩ ⟨"TemplateHouseModel", "fileOf", "(I)I"⟩ ∈ zT := zin 179 (by decide +kernel) (by decide +kernel)
theorem zw3326 : Cond.code ⟨"TemplateHouseModel", "isNext", "(I)Z"⟩ prog_15_method_23_code 3 (Option.some Jvm.ClassFile.FieldType.boolean) ∈ zT := zsub14 206 rfl rfl
theorem zw3325 : Cond.instanceMethod ⟨"TemplateHouseModel", "isNext", "(I)Z"⟩ ∈ zT := zsub14 205 (by decide +kernel) (by decide +kernel)
theorem zwp197 : Cond.selects "TemplateHouseModel" ⟨"TemplateHouseModel", "isNext", "(I)Z"⟩ ⟨"TemplateHouseModel", "isNext", "(I)Z"⟩ ∈ zT := zin 197 (by decide +kernel) (by decide +kernel)
theorem zw3302 : Cond.code ⟨"TemplateHouseModel", "isSpace", "(I)Z"⟩ prog_15_method_54_code 2 (Option.some Jvm.ClassFile.FieldType.boolean) ∈ zT := zsub14 182 rfl rfl
theorem zw3301 : Cond.instanceMethod ⟨"TemplateHouseModel", "isSpace", "(I)Z"⟩ ∈ zT := zsub14 181 (by decide +kernel) (by decide +kernel)
theorem zwp203 : Cond.selects "TemplateHouseModel" ⟨"TemplateHouseModel", "isSpace", "(I)Z"⟩ ⟨"TemplateHouseModel", "isSpace", "(I)Z"⟩ ∈ zT := zin 203 (by decide +kernel) (by decide +kernel)
theorem zw3298 : Cond.code ⟨"TemplateHouseModel", "isLineTag", "(I)Z"⟩ prog_15_method_55_code 2 (Option.some Jvm.ClassFile.FieldType.boolean) ∈ zT := zsub14 178 rfl rfl
theorem zw3297 : Cond.instanceMethod ⟨"TemplateHouseModel", "isLineTag", "(I)Z"⟩ ∈ zT := zsub14 177 (by decide +kernel) (by decide +kernel)
theorem zwp193 : Cond.selects "TemplateHouseModel" ⟨"TemplateHouseModel", "isLineTag", "(I)Z"⟩ ⟨"TemplateHouseModel", "isLineTag", "(I)Z"⟩ ∈ zT := zin 193 (by decide +kernel) (by decide +kernel)
theorem zw3273 : Cond.code ⟨"TemplateHouseModel", "isTwice", "(I)Z"⟩ prog_15_method_77_code 2 (Option.some Jvm.ClassFile.FieldType.boolean) ∈ zT := zsub14 153 rfl rfl
theorem zw3272 : Cond.instanceMethod ⟨"TemplateHouseModel", "isTwice", "(I)Z"⟩ ∈ zT := zsub14 152 (by decide +kernel) (by decide +kernel)
theorem zwp208 : Cond.selects "TemplateHouseModel" ⟨"TemplateHouseModel", "isTwice", "(I)Z"⟩ ⟨"TemplateHouseModel", "isTwice", "(I)Z"⟩ ∈ zT := zin 208 (by decide +kernel) (by decide +kernel)
theorem zw3253 : Cond.code ⟨"TemplateHouseModel", "isDots", "()Z"⟩ prog_15_method_67_code 1 (Option.some Jvm.ClassFile.FieldType.boolean) ∈ zT := zsub14 133 rfl rfl
theorem zw3252 : Cond.instanceMethod ⟨"TemplateHouseModel", "isDots", "()Z"⟩ ∈ zT := zsub14 132 (by decide +kernel) (by decide +kernel)
theorem zwp190 : Cond.selects "TemplateHouseModel" ⟨"TemplateHouseModel", "isDots", "()Z"⟩ ⟨"TemplateHouseModel", "isDots", "()Z"⟩ ∈ zT := zin 190 (by decide +kernel) (by decide +kernel)
theorem zw3135 : Cond.code ⟨"TemplateHouseModel", "isOpen", "(II)Z"⟩ prog_15_method_50_code 3 (Option.some Jvm.ClassFile.FieldType.boolean) ∈ zT := zsub14 15 rfl rfl
theorem zw3134 : Cond.instanceMethod ⟨"TemplateHouseModel", "isOpen", "(II)Z"⟩ ∈ zT := zsub14 14 (by decide +kernel) (by decide +kernel)
theorem zwp198 : Cond.selects "TemplateHouseModel" ⟨"TemplateHouseModel", "isOpen", "(II)Z"⟩ ⟨"TemplateHouseModel", "isOpen", "(II)Z"⟩ ∈ zT := zin 198 (by decide +kernel) (by decide +kernel)
theorem zw3261 : Cond.code ⟨"TemplateHouseModel", "isNamed", "()Z"⟩ prog_15_method_69_code 2 (Option.some Jvm.ClassFile.FieldType.boolean) ∈ zT := zsub14 141 rfl rfl
theorem zw3260 : Cond.instanceMethod ⟨"TemplateHouseModel", "isNamed", "()Z"⟩ ∈ zT := zsub14 140 (by decide +kernel) (by decide +kernel)
theorem zwp196 : Cond.selects "TemplateHouseModel" ⟨"TemplateHouseModel", "isNamed", "()Z"⟩ ⟨"TemplateHouseModel", "isNamed", "()Z"⟩ ∈ zT := zin 196 (by decide +kernel) (by decide +kernel)
theorem zw3229 : Cond.code ⟨"TemplateHouseModel", "bar", "()I"⟩ prog_15_method_75_code 4 (Option.some Jvm.ClassFile.FieldType.int) ∈ zT := zsub14 109 rfl rfl
theorem zw3228 : Cond.instanceMethod ⟨"TemplateHouseModel", "bar", "()I"⟩ ∈ zT := zsub14 108 (by decide +kernel) (by decide +kernel)
theorem zwp152 : Cond.selects "TemplateHouseModel" ⟨"TemplateHouseModel", "bar", "()I"⟩ ⟨"TemplateHouseModel", "bar", "()I"⟩ ∈ zT := zin 152 (by decide +kernel) (by decide +kernel)
theorem zw3241 : Cond.code ⟨"TemplateHouseModel", "lowest", "()I"⟩ prog_15_method_62_code 3 (Option.some Jvm.ClassFile.FieldType.int) ∈ zT := zsub14 121 rfl rfl
theorem zw3240 : Cond.instanceMethod ⟨"TemplateHouseModel", "lowest", "()I"⟩ ∈ zT := zsub14 120 (by decide +kernel) (by decide +kernel)
theorem zwp222 : Cond.selects "TemplateHouseModel" ⟨"TemplateHouseModel", "lowest", "()I"⟩ ⟨"TemplateHouseModel", "lowest", "()I"⟩ ∈ zT := zin 222 (by decide +kernel) (by decide +kernel)
theorem zw3221 : Cond.code ⟨"TemplateHouseModel", "keep", "([BII)V"⟩ prog_15_method_18_code 6 (Option.none : Option Jvm.ClassFile.FieldType) ∈ zT := zsub14 101 rfl rfl
theorem zw3220 : Cond.instanceMethod ⟨"TemplateHouseModel", "keep", "([BII)V"⟩ ∈ zT := zsub14 100 (by decide +kernel) (by decide +kernel)
theorem zwp212 : Cond.selects "TemplateHouseModel" ⟨"TemplateHouseModel", "keep", "([BII)V"⟩ ⟨"TemplateHouseModel", "keep", "([BII)V"⟩ ∈ zT := zin 212 (by decide +kernel) (by decide +kernel)
theorem zw3030 : Cond.code ⟨"TemplateHouseModel", "fileString", "()V"⟩ prog_15_method_15_code 2 (Option.none : Option Jvm.ClassFile.FieldType) ∈ zT := zsub13 150 rfl rfl
theorem zw3029 : Cond.instanceMethod ⟨"TemplateHouseModel", "fileString", "()V"⟩ ∈ zT := zsub13 149 (by decide +kernel) (by decide +kernel)
theorem zwp180 : Cond.selects "TemplateHouseModel" ⟨"TemplateHouseModel", "fileString", "()V"⟩ ⟨"TemplateHouseModel", "fileString", "()V"⟩ ∈ zT := zin 180 (by decide +kernel) (by decide +kernel)
theorem zw3054 : Cond.code ⟨"TemplateHouseModel", "fileName", "()I"⟩ prog_15_method_14_code 3 (Option.some Jvm.ClassFile.FieldType.int) ∈ zT := zsub13 174 rfl rfl
theorem zw3053 : Cond.instanceMethod ⟨"TemplateHouseModel", "fileName", "()I"⟩ ∈ zT := zsub13 173 (by decide +kernel) (by decide +kernel)
theorem zwp178 : Cond.selects "TemplateHouseModel" ⟨"TemplateHouseModel", "fileName", "()I"⟩ ⟨"TemplateHouseModel", "fileName", "()I"⟩ ∈ zT := zin 178 (by decide +kernel) (by decide +kernel)
theorem zw3169 : Cond.code ⟨"TemplateHouseModel", "tagName", "()I"⟩ prog_15_method_45_code 3 (Option.some Jvm.ClassFile.FieldType.int) ∈ zT := zsub14 49 rfl rfl
theorem zw3168 : Cond.instanceMethod ⟨"TemplateHouseModel", "tagName", "()I"⟩ ∈ zT := zsub14 48 (by decide +kernel) (by decide +kernel)
theorem zwp284 : Cond.selects "TemplateHouseModel" ⟨"TemplateHouseModel", "tagName", "()I"⟩ ⟨"TemplateHouseModel", "tagName", "()I"⟩ ∈ zT := zin 284 (by decide +kernel) (by decide +kernel)
abbrev cX13_isName : ByteArray := prog_16_method_5_code
abbrev yX13_isName : MethodName := ⟨"TemplateHouseModel$Group", "isName", "(I[BII)Z"⟩
theorem dmX13_isName : zDv yX13_isName cX13_isName 7 (some .boolean) 4 := ⟨⟨⟨by decide +kernel, by decide +kernel, by decide +kernel⟩, zw3070, zw15⟩, zw3068, zw3069⟩
abbrev cX13_name : ByteArray := prog_16_method_4_code
abbrev yX13_name : MethodName := ⟨"TemplateHouseModel$Group", "name", "([BII)I"⟩
theorem dmX13_name : zDv yX13_name cX13_name 5 (some .int) 3 := ⟨⟨⟨by decide +kernel, by decide +kernel, by decide +kernel⟩, zw3066, zw15⟩, zw3064, zw3065⟩
abbrev cX14_fileOf : ByteArray := prog_15_method_17_code
abbrev yX14_fileOf : MethodName := ⟨"TemplateHouseModel", "fileOf", "(I)I"⟩
theorem dmX14_fileOf : zDv yX14_fileOf cX14_fileOf 2 (some .int) 1 := ⟨⟨⟨by decide +kernel, by decide +kernel, by decide +kernel⟩, zw3361, zw14⟩, zw3360, zwp179⟩
abbrev cX14_isNext : ByteArray := prog_15_method_23_code
abbrev yX14_isNext : MethodName := ⟨"TemplateHouseModel", "isNext", "(I)Z"⟩
theorem dmX14_isNext : zDv yX14_isNext cX14_isNext 3 (some .boolean) 1 := ⟨⟨⟨by decide +kernel, by decide +kernel, by decide +kernel⟩, zw3326, zw14⟩, zw3325, zwp197⟩
abbrev cX14_isSpace : ByteArray := prog_15_method_54_code
abbrev yX14_isSpace : MethodName := ⟨"TemplateHouseModel", "isSpace", "(I)Z"⟩
theorem dmX14_isSpace : zDv yX14_isSpace cX14_isSpace 2 (some .boolean) 1 := ⟨⟨⟨by decide +kernel, by decide +kernel, by decide +kernel⟩, zw3302, zw14⟩, zw3301, zwp203⟩
abbrev cX14_isLineTag : ByteArray := prog_15_method_55_code
abbrev yX14_isLineTag : MethodName := ⟨"TemplateHouseModel", "isLineTag", "(I)Z"⟩
theorem dmX14_isLineTag : zDv yX14_isLineTag cX14_isLineTag 2 (some .boolean) 1 := ⟨⟨⟨by decide +kernel, by decide +kernel, by decide +kernel⟩, zw3298, zw14⟩, zw3297, zwp193⟩
abbrev cX14_isTwice : ByteArray := prog_15_method_77_code
abbrev yX14_isTwice : MethodName := ⟨"TemplateHouseModel", "isTwice", "(I)Z"⟩
theorem dmX14_isTwice : zDv yX14_isTwice cX14_isTwice 2 (some .boolean) 1 := ⟨⟨⟨by decide +kernel, by decide +kernel, by decide +kernel⟩, zw3273, zw14⟩, zw3272, zwp208⟩
abbrev cX14_isDots : ByteArray := prog_15_method_67_code
abbrev yX14_isDots : MethodName := ⟨"TemplateHouseModel", "isDots", "()Z"⟩
theorem dmX14_isDots : zDv yX14_isDots cX14_isDots 1 (some .boolean) 0 := ⟨⟨⟨by decide +kernel, by decide +kernel, by decide +kernel⟩, zw3253, zw14⟩, zw3252, zwp190⟩
abbrev cX14_isOpen : ByteArray := prog_15_method_50_code
abbrev yX14_isOpen : MethodName := ⟨"TemplateHouseModel", "isOpen", "(II)Z"⟩
theorem dmX14_isOpen : zDv yX14_isOpen cX14_isOpen 3 (some .boolean) 2 := ⟨⟨⟨by decide +kernel, by decide +kernel, by decide +kernel⟩, zw3135, zw14⟩, zw3134, zwp198⟩
abbrev cX14_isNamed : ByteArray := prog_15_method_69_code
abbrev yX14_isNamed : MethodName := ⟨"TemplateHouseModel", "isNamed", "()Z"⟩
theorem dmX14_isNamed : zDv yX14_isNamed cX14_isNamed 2 (some .boolean) 0 := ⟨⟨⟨by decide +kernel, by decide +kernel, by decide +kernel⟩, zw3261, zw14⟩, zw3260, zwp196⟩
abbrev cX14_bar : ByteArray := prog_15_method_75_code
abbrev yX14_bar : MethodName := ⟨"TemplateHouseModel", "bar", "()I"⟩
theorem dmX14_bar : zDv yX14_bar cX14_bar 4 (some .int) 0 := ⟨⟨⟨by decide +kernel, by decide +kernel, by decide +kernel⟩, zw3229, zw14⟩, zw3228, zwp152⟩
abbrev cX14_lowest : ByteArray := prog_15_method_62_code
abbrev yX14_lowest : MethodName := ⟨"TemplateHouseModel", "lowest", "()I"⟩
theorem dmX14_lowest : zDv yX14_lowest cX14_lowest 3 (some .int) 0 := ⟨⟨⟨by decide +kernel, by decide +kernel, by decide +kernel⟩, zw3241, zw14⟩, zw3240, zwp222⟩
abbrev cX14_keep : ByteArray := prog_15_method_18_code
abbrev yX14_keep : MethodName := ⟨"TemplateHouseModel", "keep", "([BII)V"⟩
theorem dmX14_keep : zDv yX14_keep cX14_keep 6 none 3 := ⟨⟨⟨by decide +kernel, by decide +kernel, by decide +kernel⟩, zw3221, zw14⟩, zw3220, zwp212⟩
abbrev cX14_fileString : ByteArray := prog_15_method_15_code
abbrev yX14_fileString : MethodName := ⟨"TemplateHouseModel", "fileString", "()V"⟩
theorem dmX14_fileString : zDv yX14_fileString cX14_fileString 2 none 0 := ⟨⟨⟨by decide +kernel, by decide +kernel, by decide +kernel⟩, zw3030, zw14⟩, zw3029, zwp180⟩
abbrev cX14_fileName : ByteArray := prog_15_method_14_code
abbrev yX14_fileName : MethodName := ⟨"TemplateHouseModel", "fileName", "()I"⟩
theorem dmX14_fileName : zDv yX14_fileName cX14_fileName 3 (some .int) 0 := ⟨⟨⟨by decide +kernel, by decide +kernel, by decide +kernel⟩, zw3054, zw14⟩, zw3053, zwp178⟩
abbrev cX14_tagName : ByteArray := prog_15_method_45_code
abbrev yX14_tagName : MethodName := ⟨"TemplateHouseModel", "tagName", "()I"⟩
theorem dmX14_tagName : zDv yX14_tagName cX14_tagName 3 (some .int) 0 := ⟨⟨⟨by decide +kernel, by decide +kernel, by decide +kernel⟩, zw3169, zw14⟩, zw3168, zwp284⟩
theorem dX13_isName_0 : decode cX13_isName 0 = .ok (.aload_n 0, 1) := by decide +kernel
theorem dX13_isName_1 : decode cX13_isName 1 = .ok (.getfield 42, 3) := by decide +kernel
theorem dX13_isName_4 : decode cX13_isName 4 = .ok (.iload_n 1, 1) := by decide +kernel
theorem dX13_isName_5 : decode cX13_isName 5 = .ok (.iaload, 1) := by decide +kernel
theorem dX13_isName_6 : decode cX13_isName 6 = .ok (.iload 4, 2) := by decide +kernel
theorem dX13_isName_8 : decode cX13_isName 8 = .ok (.if_icmp .ne 7, 3) := by decide +kernel
theorem dX13_isName_15 : decode cX13_isName 15 = .ok (.iconst 0, 1) := by decide +kernel
theorem dX13_isName_16 : decode cX13_isName 16 = .ok (.istore 5, 2) := by decide +kernel
theorem dX13_isName_18 : decode cX13_isName 18 = .ok (.iconst 0, 1) := by decide +kernel
theorem dX13_isName_19 : decode cX13_isName 19 = .ok (.istore 6, 2) := by decide +kernel
theorem dX13_isName_21 : decode cX13_isName 21 = .ok (.iload 6, 2) := by decide +kernel
theorem dX13_isName_23 : decode cX13_isName 23 = .ok (.iload 4, 2) := by decide +kernel
theorem dX13_isName_25 : decode cX13_isName 25 = .ok (.if_icmp .ge 44, 3) := by decide +kernel
theorem dX13_isName_69 : decode cX13_isName 69 = .ok (.iload 5, 2) := by decide +kernel
theorem dX13_isName_71 : decode cX13_isName 71 = .ok (.ireturn, 1) := by decide +kernel
theorem dX13_isName_28 : decode cX13_isName 28 = .ok (.iload 5, 2) := by decide +kernel
theorem dX13_isName_30 : decode cX13_isName 30 = .ok (.ifCond .eq 39, 3) := by decide +kernel
theorem dX13_isName_33 : decode cX13_isName 33 = .ok (.aload_n 0, 1) := by decide +kernel
theorem dX13_isName_34 : decode cX13_isName 34 = .ok (.getfield 35, 3) := by decide +kernel
theorem dX13_isName_37 : decode cX13_isName 37 = .ok (.aload_n 0, 1) := by decide +kernel
theorem dX13_isName_38 : decode cX13_isName 38 = .ok (.getfield 39, 3) := by decide +kernel
theorem dX13_isName_41 : decode cX13_isName 41 = .ok (.iload_n 1, 1) := by decide +kernel
theorem dX13_isName_42 : decode cX13_isName 42 = .ok (.iaload, 1) := by decide +kernel
theorem dX13_isName_43 : decode cX13_isName 43 = .ok (.iload 6, 2) := by decide +kernel
theorem dX13_isName_45 : decode cX13_isName 45 = .ok (.iadd, 1) := by decide +kernel
theorem dX13_isName_46 : decode cX13_isName 46 = .ok (.baload, 1) := by decide +kernel
theorem dX13_isName_47 : decode cX13_isName 47 = .ok (.aload_n 2, 1) := by decide +kernel
theorem dX13_isName_48 : decode cX13_isName 48 = .ok (.iload_n 3, 1) := by decide +kernel
theorem dX13_isName_49 : decode cX13_isName 49 = .ok (.iload 6, 2) := by decide +kernel
theorem dX13_isName_51 : decode cX13_isName 51 = .ok (.iadd, 1) := by decide +kernel
theorem dX13_isName_52 : decode cX13_isName 52 = .ok (.baload, 1) := by decide +kernel
theorem dX13_isName_53 : decode cX13_isName 53 = .ok (.if_icmp .ne 7, 3) := by decide +kernel
theorem dX13_isName_60 : decode cX13_isName 60 = .ok (.iconst 0, 1) := by decide +kernel
theorem dX13_isName_61 : decode cX13_isName 61 = .ok (.istore 5, 2) := by decide +kernel
theorem dX13_isName_63 : decode cX13_isName 63 = .ok (.iinc 6 1, 3) := by decide +kernel
theorem dX13_isName_66 : decode cX13_isName 66 = .ok (.goto (-45), 3) := by decide +kernel
theorem dX13_isName_56 : decode cX13_isName 56 = .ok (.iconst 1, 1) := by decide +kernel
theorem dX13_isName_57 : decode cX13_isName 57 = .ok (.goto 4, 3) := by decide +kernel
theorem dX13_isName_11 : decode cX13_isName 11 = .ok (.iconst 1, 1) := by decide +kernel
theorem dX13_isName_12 : decode cX13_isName 12 = .ok (.goto 4, 3) := by decide +kernel
theorem dX13_name_0 : decode cX13_name 0 = .ok (.iconst 0, 1) := by decide +kernel
theorem dX13_name_1 : decode cX13_name 1 = .ok (.istore 4, 2) := by decide +kernel
theorem dX13_name_3 : decode cX13_name 3 = .ok (.iload 4, 2) := by decide +kernel
theorem dX13_name_5 : decode cX13_name 5 = .ok (.aload_n 0, 1) := by decide +kernel
theorem dX13_name_6 : decode cX13_name 6 = .ok (.getfield 116, 3) := by decide +kernel
theorem dX13_name_9 : decode cX13_name 9 = .ok (.if_icmp .ge 24, 3) := by decide +kernel
theorem dX13_name_33 : decode cX13_name 33 = .ok (.aload_n 0, 1) := by decide +kernel
theorem dX13_name_34 : decode cX13_name 34 = .ok (.getfield 39, 3) := by decide +kernel
theorem dX13_name_37 : decode cX13_name 37 = .ok (.aload_n 0, 1) := by decide +kernel
theorem dX13_name_38 : decode cX13_name 38 = .ok (.getfield 116, 3) := by decide +kernel
theorem dX13_name_41 : decode cX13_name 41 = .ok (.aload_n 0, 1) := by decide +kernel
theorem dX13_name_42 : decode cX13_name 42 = .ok (.getfield 113, 3) := by decide +kernel
theorem dX13_name_45 : decode cX13_name 45 = .ok (.iastore, 1) := by decide +kernel
theorem dX13_name_46 : decode cX13_name 46 = .ok (.aload_n 0, 1) := by decide +kernel
theorem dX13_name_47 : decode cX13_name 47 = .ok (.getfield 42, 3) := by decide +kernel
theorem dX13_name_50 : decode cX13_name 50 = .ok (.aload_n 0, 1) := by decide +kernel
theorem dX13_name_51 : decode cX13_name 51 = .ok (.getfield 116, 3) := by decide +kernel
theorem dX13_name_54 : decode cX13_name 54 = .ok (.iload_n 3, 1) := by decide +kernel
theorem dX13_name_55 : decode cX13_name 55 = .ok (.iastore, 1) := by decide +kernel
theorem dX13_name_56 : decode cX13_name 56 = .ok (.iconst 0, 1) := by decide +kernel
theorem dX13_name_57 : decode cX13_name 57 = .ok (.istore 4, 2) := by decide +kernel
theorem dX13_name_59 : decode cX13_name 59 = .ok (.iload 4, 2) := by decide +kernel
theorem dX13_name_61 : decode cX13_name 61 = .ok (.iload_n 3, 1) := by decide +kernel
theorem dX13_name_62 : decode cX13_name 62 = .ok (.if_icmp .ge 27, 3) := by decide +kernel
theorem dX13_name_89 : decode cX13_name 89 = .ok (.aload_n 0, 1) := by decide +kernel
theorem dX13_name_90 : decode cX13_name 90 = .ok (.dup, 1) := by decide +kernel
theorem dX13_name_91 : decode cX13_name 91 = .ok (.getfield 113, 3) := by decide +kernel
theorem dX13_name_94 : decode cX13_name 94 = .ok (.iload_n 3, 1) := by decide +kernel
theorem dX13_name_95 : decode cX13_name 95 = .ok (.iadd, 1) := by decide +kernel
theorem dX13_name_96 : decode cX13_name 96 = .ok (.putfield 113, 3) := by decide +kernel
theorem dX13_name_99 : decode cX13_name 99 = .ok (.aload_n 0, 1) := by decide +kernel
theorem dX13_name_100 : decode cX13_name 100 = .ok (.dup, 1) := by decide +kernel
theorem dX13_name_101 : decode cX13_name 101 = .ok (.getfield 116, 3) := by decide +kernel
theorem dX13_name_104 : decode cX13_name 104 = .ok (.iconst 1, 1) := by decide +kernel
theorem dX13_name_105 : decode cX13_name 105 = .ok (.iadd, 1) := by decide +kernel
theorem dX13_name_106 : decode cX13_name 106 = .ok (.putfield 116, 3) := by decide +kernel
theorem dX13_name_109 : decode cX13_name 109 = .ok (.aload_n 0, 1) := by decide +kernel
theorem dX13_name_110 : decode cX13_name 110 = .ok (.getfield 116, 3) := by decide +kernel
theorem dX13_name_113 : decode cX13_name 113 = .ok (.iconst 1, 1) := by decide +kernel
theorem dX13_name_114 : decode cX13_name 114 = .ok (.isub, 1) := by decide +kernel
theorem dX13_name_115 : decode cX13_name 115 = .ok (.ireturn, 1) := by decide +kernel
theorem dX13_name_65 : decode cX13_name 65 = .ok (.aload_n 0, 1) := by decide +kernel
theorem dX13_name_66 : decode cX13_name 66 = .ok (.getfield 35, 3) := by decide +kernel
theorem dX13_name_69 : decode cX13_name 69 = .ok (.aload_n 0, 1) := by decide +kernel
theorem dX13_name_70 : decode cX13_name 70 = .ok (.getfield 113, 3) := by decide +kernel
theorem dX13_name_73 : decode cX13_name 73 = .ok (.iload 4, 2) := by decide +kernel
theorem dX13_name_75 : decode cX13_name 75 = .ok (.iadd, 1) := by decide +kernel
theorem dX13_name_76 : decode cX13_name 76 = .ok (.aload_n 1, 1) := by decide +kernel
theorem dX13_name_77 : decode cX13_name 77 = .ok (.iload_n 2, 1) := by decide +kernel
theorem dX13_name_78 : decode cX13_name 78 = .ok (.iload 4, 2) := by decide +kernel
theorem dX13_name_80 : decode cX13_name 80 = .ok (.iadd, 1) := by decide +kernel
theorem dX13_name_81 : decode cX13_name 81 = .ok (.baload, 1) := by decide +kernel
theorem dX13_name_82 : decode cX13_name 82 = .ok (.bastore, 1) := by decide +kernel
theorem dX13_name_83 : decode cX13_name 83 = .ok (.iinc 4 1, 3) := by decide +kernel
theorem dX13_name_86 : decode cX13_name 86 = .ok (.goto (-27), 3) := by decide +kernel
theorem dX13_name_12 : decode cX13_name 12 = .ok (.aload_n 0, 1) := by decide +kernel
theorem dX13_name_13 : decode cX13_name 13 = .ok (.iload 4, 2) := by decide +kernel
theorem dX13_name_15 : decode cX13_name 15 = .ok (.aload_n 1, 1) := by decide +kernel
theorem dX13_name_16 : decode cX13_name 16 = .ok (.iload_n 2, 1) := by decide +kernel
theorem dX13_name_17 : decode cX13_name 17 = .ok (.iload_n 3, 1) := by decide +kernel
theorem dX13_name_18 : decode cX13_name 18 = .ok (.invokevirtual 131, 3) := by decide +kernel
theorem dX13_name_21 : decode cX13_name 21 = .ok (.ifCond .eq 6, 3) := by decide +kernel
theorem dX13_name_27 : decode cX13_name 27 = .ok (.iinc 4 1, 3) := by decide +kernel
theorem dX13_name_30 : decode cX13_name 30 = .ok (.goto (-27), 3) := by decide +kernel
theorem dX13_name_24 : decode cX13_name 24 = .ok (.iload 4, 2) := by decide +kernel
theorem dX13_name_26 : decode cX13_name 26 = .ok (.ireturn, 1) := by decide +kernel
theorem dX14_fileOf_0 : decode cX14_fileOf 0 = .ok (.aload_n 0, 1) := by decide +kernel
theorem dX14_fileOf_1 : decode cX14_fileOf 1 = .ok (.getfield 334, 3) := by decide +kernel
theorem dX14_fileOf_4 : decode cX14_fileOf 4 = .ok (.getfield 368, 3) := by decide +kernel
theorem dX14_fileOf_7 : decode cX14_fileOf 7 = .ok (.iload_n 1, 1) := by decide +kernel
theorem dX14_fileOf_8 : decode cX14_fileOf 8 = .ok (.iaload, 1) := by decide +kernel
theorem dX14_fileOf_9 : decode cX14_fileOf 9 = .ok (.bipush 7, 2) := by decide +kernel
theorem dX14_fileOf_11 : decode cX14_fileOf 11 = .ok (.iand, 1) := by decide +kernel
theorem dX14_fileOf_12 : decode cX14_fileOf 12 = .ok (.ireturn, 1) := by decide +kernel
theorem dX14_isNext_0 : decode cX14_isNext 0 = .ok (.aload_n 0, 1) := by decide +kernel
theorem dX14_isNext_1 : decode cX14_isNext 1 = .ok (.aload_n 0, 1) := by decide +kernel
theorem dX14_isNext_2 : decode cX14_isNext 2 = .ok (.getfield 274, 3) := by decide +kernel
theorem dX14_isNext_5 : decode cX14_isNext 5 = .ok (.invokevirtual 277, 3) := by decide +kernel
theorem dX14_isNext_8 : decode cX14_isNext 8 = .ok (.istore_n 2, 1) := by decide +kernel
theorem dX14_isNext_9 : decode cX14_isNext 9 = .ok (.iload_n 2, 1) := by decide +kernel
theorem dX14_isNext_10 : decode cX14_isNext 10 = .ok (.ifCond .lt 16, 3) := by decide +kernel
theorem dX14_isNext_26 : decode cX14_isNext 26 = .ok (.iconst 0, 1) := by decide +kernel
theorem dX14_isNext_27 : decode cX14_isNext 27 = .ok (.ireturn, 1) := by decide +kernel
theorem dX14_isNext_13 : decode cX14_isNext 13 = .ok (.aload_n 0, 1) := by decide +kernel
theorem dX14_isNext_14 : decode cX14_isNext 14 = .ok (.iload_n 2, 1) := by decide +kernel
theorem dX14_isNext_15 : decode cX14_isNext 15 = .ok (.invokevirtual 266, 3) := by decide +kernel
theorem dX14_isNext_18 : decode cX14_isNext 18 = .ok (.iload_n 1, 1) := by decide +kernel
theorem dX14_isNext_19 : decode cX14_isNext 19 = .ok (.if_icmp .ne 7, 3) := by decide +kernel
theorem dX14_isNext_22 : decode cX14_isNext 22 = .ok (.iconst 1, 1) := by decide +kernel
theorem dX14_isNext_23 : decode cX14_isNext 23 = .ok (.goto 4, 3) := by decide +kernel
theorem dX14_isSpace_0 : decode cX14_isSpace 0 = .ok (.aload_n 0, 1) := by decide +kernel
theorem dX14_isSpace_1 : decode cX14_isSpace 1 = .ok (.getfield 49, 3) := by decide +kernel
theorem dX14_isSpace_4 : decode cX14_isSpace 4 = .ok (.iload_n 1, 1) := by decide +kernel
theorem dX14_isSpace_5 : decode cX14_isSpace 5 = .ok (.iaload, 1) := by decide +kernel
theorem dX14_isSpace_6 : decode cX14_isSpace 6 = .ok (.iconst 1, 1) := by decide +kernel
theorem dX14_isSpace_7 : decode cX14_isSpace 7 = .ok (.if_icmp .ne 29, 3) := by decide +kernel
theorem dX14_isSpace_36 : decode cX14_isSpace 36 = .ok (.iconst 0, 1) := by decide +kernel
theorem dX14_isSpace_37 : decode cX14_isSpace 37 = .ok (.ireturn, 1) := by decide +kernel
theorem dX14_isSpace_10 : decode cX14_isSpace 10 = .ok (.aload_n 0, 1) := by decide +kernel
theorem dX14_isSpace_11 : decode cX14_isSpace 11 = .ok (.getfield 52, 3) := by decide +kernel
theorem dX14_isSpace_14 : decode cX14_isSpace 14 = .ok (.iload_n 1, 1) := by decide +kernel
theorem dX14_isSpace_15 : decode cX14_isSpace 15 = .ok (.iaload, 1) := by decide +kernel
theorem dX14_isSpace_16 : decode cX14_isSpace 16 = .ok (.bipush 32, 2) := by decide +kernel
theorem dX14_isSpace_18 : decode cX14_isSpace 18 = .ok (.if_icmp .eq 14, 3) := by decide +kernel
theorem dX14_isSpace_32 : decode cX14_isSpace 32 = .ok (.iconst 1, 1) := by decide +kernel
theorem dX14_isSpace_33 : decode cX14_isSpace 33 = .ok (.goto 4, 3) := by decide +kernel
theorem dX14_isSpace_21 : decode cX14_isSpace 21 = .ok (.aload_n 0, 1) := by decide +kernel
theorem dX14_isSpace_22 : decode cX14_isSpace 22 = .ok (.getfield 52, 3) := by decide +kernel
theorem dX14_isSpace_25 : decode cX14_isSpace 25 = .ok (.iload_n 1, 1) := by decide +kernel
theorem dX14_isSpace_26 : decode cX14_isSpace 26 = .ok (.iaload, 1) := by decide +kernel
theorem dX14_isSpace_27 : decode cX14_isSpace 27 = .ok (.bipush 9, 2) := by decide +kernel
theorem dX14_isSpace_29 : decode cX14_isSpace 29 = .ok (.if_icmp .ne 7, 3) := by decide +kernel
theorem dX14_isLineTag_0 : decode cX14_isLineTag 0 = .ok (.aload_n 0, 1) := by decide +kernel
theorem dX14_isLineTag_1 : decode cX14_isLineTag 1 = .ok (.getfield 49, 3) := by decide +kernel
theorem dX14_isLineTag_4 : decode cX14_isLineTag 4 = .ok (.iload_n 1, 1) := by decide +kernel
theorem dX14_isLineTag_5 : decode cX14_isLineTag 5 = .ok (.iaload, 1) := by decide +kernel
theorem dX14_isLineTag_6 : decode cX14_isLineTag 6 = .ok (.iconst 5, 1) := by decide +kernel
theorem dX14_isLineTag_7 : decode cX14_isLineTag 7 = .ok (.if_icmp .eq 25, 3) := by decide +kernel
theorem dX14_isLineTag_32 : decode cX14_isLineTag 32 = .ok (.iconst 1, 1) := by decide +kernel
theorem dX14_isLineTag_33 : decode cX14_isLineTag 33 = .ok (.goto 4, 3) := by decide +kernel
theorem dX14_isLineTag_37 : decode cX14_isLineTag 37 = .ok (.ireturn, 1) := by decide +kernel
theorem dX14_isLineTag_10 : decode cX14_isLineTag 10 = .ok (.aload_n 0, 1) := by decide +kernel
theorem dX14_isLineTag_11 : decode cX14_isLineTag 11 = .ok (.getfield 49, 3) := by decide +kernel
theorem dX14_isLineTag_14 : decode cX14_isLineTag 14 = .ok (.iload_n 1, 1) := by decide +kernel
theorem dX14_isLineTag_15 : decode cX14_isLineTag 15 = .ok (.iaload, 1) := by decide +kernel
theorem dX14_isLineTag_16 : decode cX14_isLineTag 16 = .ok (.bipush 21, 2) := by decide +kernel
theorem dX14_isLineTag_18 : decode cX14_isLineTag 18 = .ok (.if_icmp .lt 18, 3) := by decide +kernel
theorem dX14_isLineTag_36 : decode cX14_isLineTag 36 = .ok (.iconst 0, 1) := by decide +kernel
theorem dX14_isLineTag_21 : decode cX14_isLineTag 21 = .ok (.aload_n 0, 1) := by decide +kernel
theorem dX14_isLineTag_22 : decode cX14_isLineTag 22 = .ok (.getfield 49, 3) := by decide +kernel
theorem dX14_isLineTag_25 : decode cX14_isLineTag 25 = .ok (.iload_n 1, 1) := by decide +kernel
theorem dX14_isLineTag_26 : decode cX14_isLineTag 26 = .ok (.iaload, 1) := by decide +kernel
theorem dX14_isLineTag_27 : decode cX14_isLineTag 27 = .ok (.bipush 26, 2) := by decide +kernel
theorem dX14_isLineTag_29 : decode cX14_isLineTag 29 = .ok (.if_icmp .gt 7, 3) := by decide +kernel
theorem dX14_isTwice_0 : decode cX14_isTwice 0 = .ok (.aload_n 0, 1) := by decide +kernel
theorem dX14_isTwice_1 : decode cX14_isTwice 1 = .ok (.invokevirtual 569, 3) := by decide +kernel
theorem dX14_isTwice_4 : decode cX14_isTwice 4 = .ok (.iload_n 1, 1) := by decide +kernel
theorem dX14_isTwice_5 : decode cX14_isTwice 5 = .ok (.if_icmp .ne 35, 3) := by decide +kernel
theorem dX14_isTwice_40 : decode cX14_isTwice 40 = .ok (.iconst 0, 1) := by decide +kernel
theorem dX14_isTwice_41 : decode cX14_isTwice 41 = .ok (.ireturn, 1) := by decide +kernel
theorem dX14_isTwice_8 : decode cX14_isTwice 8 = .ok (.aload_n 0, 1) := by decide +kernel
theorem dX14_isTwice_9 : decode cX14_isTwice 9 = .ok (.getfield 548, 3) := by decide +kernel
theorem dX14_isTwice_12 : decode cX14_isTwice 12 = .ok (.iconst 1, 1) := by decide +kernel
theorem dX14_isTwice_13 : decode cX14_isTwice 13 = .ok (.iadd, 1) := by decide +kernel
theorem dX14_isTwice_14 : decode cX14_isTwice 14 = .ok (.aload_n 0, 1) := by decide +kernel
theorem dX14_isTwice_15 : decode cX14_isTwice 15 = .ok (.getfield 533, 3) := by decide +kernel
theorem dX14_isTwice_18 : decode cX14_isTwice 18 = .ok (.if_icmp .ge 22, 3) := by decide +kernel
theorem dX14_isTwice_21 : decode cX14_isTwice 21 = .ok (.aload_n 0, 1) := by decide +kernel
theorem dX14_isTwice_22 : decode cX14_isTwice 22 = .ok (.getfield 36, 3) := by decide +kernel
theorem dX14_isTwice_25 : decode cX14_isTwice 25 = .ok (.aload_n 0, 1) := by decide +kernel
theorem dX14_isTwice_26 : decode cX14_isTwice 26 = .ok (.getfield 548, 3) := by decide +kernel
theorem dX14_isTwice_29 : decode cX14_isTwice 29 = .ok (.iconst 1, 1) := by decide +kernel
theorem dX14_isTwice_30 : decode cX14_isTwice 30 = .ok (.iadd, 1) := by decide +kernel
theorem dX14_isTwice_31 : decode cX14_isTwice 31 = .ok (.baload, 1) := by decide +kernel
theorem dX14_isTwice_32 : decode cX14_isTwice 32 = .ok (.iload_n 1, 1) := by decide +kernel
theorem dX14_isTwice_33 : decode cX14_isTwice 33 = .ok (.if_icmp .ne 7, 3) := by decide +kernel
theorem dX14_isTwice_36 : decode cX14_isTwice 36 = .ok (.iconst 1, 1) := by decide +kernel
theorem dX14_isTwice_37 : decode cX14_isTwice 37 = .ok (.goto 4, 3) := by decide +kernel
theorem dX14_isDots_0 : decode cX14_isDots 0 = .ok (.aload_n 0, 1) := by decide +kernel
theorem dX14_isDots_1 : decode cX14_isDots 1 = .ok (.getfield 548, 3) := by decide +kernel
theorem dX14_isDots_4 : decode cX14_isDots 4 = .ok (.iconst 2, 1) := by decide +kernel
theorem dX14_isDots_5 : decode cX14_isDots 5 = .ok (.iadd, 1) := by decide +kernel
theorem dX14_isDots_6 : decode cX14_isDots 6 = .ok (.aload_n 0, 1) := by decide +kernel
theorem dX14_isDots_7 : decode cX14_isDots 7 = .ok (.getfield 533, 3) := by decide +kernel
theorem dX14_isDots_10 : decode cX14_isDots 10 = .ok (.if_icmp .ge 53, 3) := by decide +kernel
theorem dX14_isDots_63 : decode cX14_isDots 63 = .ok (.iconst 0, 1) := by decide +kernel
theorem dX14_isDots_64 : decode cX14_isDots 64 = .ok (.ireturn, 1) := by decide +kernel
theorem dX14_isDots_13 : decode cX14_isDots 13 = .ok (.aload_n 0, 1) := by decide +kernel
theorem dX14_isDots_14 : decode cX14_isDots 14 = .ok (.getfield 36, 3) := by decide +kernel
theorem dX14_isDots_17 : decode cX14_isDots 17 = .ok (.aload_n 0, 1) := by decide +kernel
theorem dX14_isDots_18 : decode cX14_isDots 18 = .ok (.getfield 548, 3) := by decide +kernel
theorem dX14_isDots_21 : decode cX14_isDots 21 = .ok (.baload, 1) := by decide +kernel
theorem dX14_isDots_22 : decode cX14_isDots 22 = .ok (.bipush 46, 2) := by decide +kernel
theorem dX14_isDots_24 : decode cX14_isDots 24 = .ok (.if_icmp .ne 39, 3) := by decide +kernel
theorem dX14_isDots_27 : decode cX14_isDots 27 = .ok (.aload_n 0, 1) := by decide +kernel
theorem dX14_isDots_28 : decode cX14_isDots 28 = .ok (.getfield 36, 3) := by decide +kernel
theorem dX14_isDots_31 : decode cX14_isDots 31 = .ok (.aload_n 0, 1) := by decide +kernel
theorem dX14_isDots_32 : decode cX14_isDots 32 = .ok (.getfield 548, 3) := by decide +kernel
theorem dX14_isDots_35 : decode cX14_isDots 35 = .ok (.iconst 1, 1) := by decide +kernel
theorem dX14_isDots_36 : decode cX14_isDots 36 = .ok (.iadd, 1) := by decide +kernel
theorem dX14_isDots_37 : decode cX14_isDots 37 = .ok (.baload, 1) := by decide +kernel
theorem dX14_isDots_38 : decode cX14_isDots 38 = .ok (.bipush 46, 2) := by decide +kernel
theorem dX14_isDots_40 : decode cX14_isDots 40 = .ok (.if_icmp .ne 23, 3) := by decide +kernel
theorem dX14_isDots_43 : decode cX14_isDots 43 = .ok (.aload_n 0, 1) := by decide +kernel
theorem dX14_isDots_44 : decode cX14_isDots 44 = .ok (.getfield 36, 3) := by decide +kernel
theorem dX14_isDots_47 : decode cX14_isDots 47 = .ok (.aload_n 0, 1) := by decide +kernel
theorem dX14_isDots_48 : decode cX14_isDots 48 = .ok (.getfield 548, 3) := by decide +kernel
theorem dX14_isDots_51 : decode cX14_isDots 51 = .ok (.iconst 2, 1) := by decide +kernel
theorem dX14_isDots_52 : decode cX14_isDots 52 = .ok (.iadd, 1) := by decide +kernel
theorem dX14_isDots_53 : decode cX14_isDots 53 = .ok (.baload, 1) := by decide +kernel
theorem dX14_isDots_54 : decode cX14_isDots 54 = .ok (.bipush 46, 2) := by decide +kernel
theorem dX14_isDots_56 : decode cX14_isDots 56 = .ok (.if_icmp .ne 7, 3) := by decide +kernel
theorem dX14_isDots_59 : decode cX14_isDots 59 = .ok (.iconst 1, 1) := by decide +kernel
theorem dX14_isDots_60 : decode cX14_isDots 60 = .ok (.goto 4, 3) := by decide +kernel
theorem dX14_isOpen_0 : decode cX14_isOpen 0 = .ok (.aload_n 0, 1) := by decide +kernel
theorem dX14_isOpen_1 : decode cX14_isOpen 1 = .ok (.getfield 557, 3) := by decide +kernel
theorem dX14_isOpen_4 : decode cX14_isOpen 4 = .ok (.iload_n 2, 1) := by decide +kernel
theorem dX14_isOpen_5 : decode cX14_isOpen 5 = .ok (.if_icmp .le 22, 3) := by decide +kernel
theorem dX14_isOpen_27 : decode cX14_isOpen 27 = .ok (.iconst 0, 1) := by decide +kernel
theorem dX14_isOpen_28 : decode cX14_isOpen 28 = .ok (.ireturn, 1) := by decide +kernel
theorem dX14_isOpen_8 : decode cX14_isOpen 8 = .ok (.aload_n 0, 1) := by decide +kernel
theorem dX14_isOpen_9 : decode cX14_isOpen 9 = .ok (.getfield 61, 3) := by decide +kernel
theorem dX14_isOpen_12 : decode cX14_isOpen 12 = .ok (.aload_n 0, 1) := by decide +kernel
theorem dX14_isOpen_13 : decode cX14_isOpen 13 = .ok (.getfield 557, 3) := by decide +kernel
theorem dX14_isOpen_16 : decode cX14_isOpen 16 = .ok (.iconst 1, 1) := by decide +kernel
theorem dX14_isOpen_17 : decode cX14_isOpen 17 = .ok (.isub, 1) := by decide +kernel
theorem dX14_isOpen_18 : decode cX14_isOpen 18 = .ok (.iaload, 1) := by decide +kernel
theorem dX14_isOpen_19 : decode cX14_isOpen 19 = .ok (.iload_n 1, 1) := by decide +kernel
theorem dX14_isOpen_20 : decode cX14_isOpen 20 = .ok (.if_icmp .ne 7, 3) := by decide +kernel
theorem dX14_isOpen_23 : decode cX14_isOpen 23 = .ok (.iconst 1, 1) := by decide +kernel
theorem dX14_isOpen_24 : decode cX14_isOpen 24 = .ok (.goto 4, 3) := by decide +kernel
theorem dX14_isNamed_0 : decode cX14_isNamed 0 = .ok (.aload_n 0, 1) := by decide +kernel
theorem dX14_isNamed_1 : decode cX14_isNamed 1 = .ok (.getfield 36, 3) := by decide +kernel
theorem dX14_isNamed_4 : decode cX14_isNamed 4 = .ok (.aload_n 0, 1) := by decide +kernel
theorem dX14_isNamed_5 : decode cX14_isNamed 5 = .ok (.getfield 533, 3) := by decide +kernel
theorem dX14_isNamed_8 : decode cX14_isNamed 8 = .ok (.aload_n 0, 1) := by decide +kernel
theorem dX14_isNamed_9 : decode cX14_isNamed 9 = .ok (.getfield 548, 3) := by decide +kernel
theorem dX14_isNamed_12 : decode cX14_isNamed 12 = .ok (.invokestatic 300, 3) := by decide +kernel
theorem dX14_isNamed_15 : decode cX14_isNamed 15 = .ok (.istore_n 1, 1) := by decide +kernel
theorem dX14_isNamed_16 : decode cX14_isNamed 16 = .ok (.iload_n 1, 1) := by decide +kernel
theorem dX14_isNamed_17 : decode cX14_isNamed 17 = .ok (.aload_n 0, 1) := by decide +kernel
theorem dX14_isNamed_18 : decode cX14_isNamed 18 = .ok (.getfield 548, 3) := by decide +kernel
theorem dX14_isNamed_21 : decode cX14_isNamed 21 = .ok (.if_icmp .ne 5, 3) := by decide +kernel
theorem dX14_isNamed_26 : decode cX14_isNamed 26 = .ok (.iload_n 1, 1) := by decide +kernel
theorem dX14_isNamed_27 : decode cX14_isNamed 27 = .ok (.aload_n 0, 1) := by decide +kernel
theorem dX14_isNamed_28 : decode cX14_isNamed 28 = .ok (.getfield 533, 3) := by decide +kernel
theorem dX14_isNamed_31 : decode cX14_isNamed 31 = .ok (.if_icmp .ge 21, 3) := by decide +kernel
theorem dX14_isNamed_52 : decode cX14_isNamed 52 = .ok (.iload_n 1, 1) := by decide +kernel
theorem dX14_isNamed_53 : decode cX14_isNamed 53 = .ok (.aload_n 0, 1) := by decide +kernel
theorem dX14_isNamed_54 : decode cX14_isNamed 54 = .ok (.getfield 533, 3) := by decide +kernel
theorem dX14_isNamed_57 : decode cX14_isNamed 57 = .ok (.if_icmp .ge 18, 3) := by decide +kernel
theorem dX14_isNamed_75 : decode cX14_isNamed 75 = .ok (.iconst 0, 1) := by decide +kernel
theorem dX14_isNamed_76 : decode cX14_isNamed 76 = .ok (.ireturn, 1) := by decide +kernel
theorem dX14_isNamed_60 : decode cX14_isNamed 60 = .ok (.aload_n 0, 1) := by decide +kernel
theorem dX14_isNamed_61 : decode cX14_isNamed 61 = .ok (.getfield 36, 3) := by decide +kernel
theorem dX14_isNamed_64 : decode cX14_isNamed 64 = .ok (.iload_n 1, 1) := by decide +kernel
theorem dX14_isNamed_65 : decode cX14_isNamed 65 = .ok (.baload, 1) := by decide +kernel
theorem dX14_isNamed_66 : decode cX14_isNamed 66 = .ok (.bipush 61, 2) := by decide +kernel
theorem dX14_isNamed_68 : decode cX14_isNamed 68 = .ok (.if_icmp .ne 7, 3) := by decide +kernel
theorem dX14_isNamed_71 : decode cX14_isNamed 71 = .ok (.iconst 1, 1) := by decide +kernel
theorem dX14_isNamed_72 : decode cX14_isNamed 72 = .ok (.goto 4, 3) := by decide +kernel
theorem dX14_isNamed_34 : decode cX14_isNamed 34 = .ok (.aload_n 0, 1) := by decide +kernel
theorem dX14_isNamed_35 : decode cX14_isNamed 35 = .ok (.getfield 36, 3) := by decide +kernel
theorem dX14_isNamed_38 : decode cX14_isNamed 38 = .ok (.iload_n 1, 1) := by decide +kernel
theorem dX14_isNamed_39 : decode cX14_isNamed 39 = .ok (.baload, 1) := by decide +kernel
theorem dX14_isNamed_40 : decode cX14_isNamed 40 = .ok (.invokestatic 270, 3) := by decide +kernel
theorem dX14_isNamed_43 : decode cX14_isNamed 43 = .ok (.ifCond .eq 9, 3) := by decide +kernel
theorem dX14_isNamed_46 : decode cX14_isNamed 46 = .ok (.iinc 1 1, 3) := by decide +kernel
theorem dX14_isNamed_49 : decode cX14_isNamed 49 = .ok (.goto (-23), 3) := by decide +kernel
theorem dX14_isNamed_24 : decode cX14_isNamed 24 = .ok (.iconst 0, 1) := by decide +kernel
theorem dX14_isNamed_25 : decode cX14_isNamed 25 = .ok (.ireturn, 1) := by decide +kernel
theorem dX14_bar_0 : decode cX14_bar 0 = .ok (.aload_n 0, 1) := by decide +kernel
theorem dX14_bar_1 : decode cX14_bar 1 = .ok (.getfield 548, 3) := by decide +kernel
theorem dX14_bar_4 : decode cX14_bar 4 = .ok (.istore_n 1, 1) := by decide +kernel
theorem dX14_bar_5 : decode cX14_bar 5 = .ok (.iconst 1, 1) := by decide +kernel
theorem dX14_bar_6 : decode cX14_bar 6 = .ok (.istore_n 2, 1) := by decide +kernel
theorem dX14_bar_7 : decode cX14_bar 7 = .ok (.iload_n 2, 1) := by decide +kernel
theorem dX14_bar_8 : decode cX14_bar 8 = .ok (.ifCond .eq 112, 3) := by decide +kernel
theorem dX14_bar_11 : decode cX14_bar 11 = .ok (.iload_n 1, 1) := by decide +kernel
theorem dX14_bar_12 : decode cX14_bar 12 = .ok (.aload_n 0, 1) := by decide +kernel
theorem dX14_bar_13 : decode cX14_bar 13 = .ok (.getfield 533, 3) := by decide +kernel
theorem dX14_bar_16 : decode cX14_bar 16 = .ok (.if_icmp .ge 21, 3) := by decide +kernel
theorem dX14_bar_37 : decode cX14_bar 37 = .ok (.aload_n 0, 1) := by decide +kernel
theorem dX14_bar_38 : decode cX14_bar 38 = .ok (.getfield 36, 3) := by decide +kernel
theorem dX14_bar_41 : decode cX14_bar 41 = .ok (.aload_n 0, 1) := by decide +kernel
theorem dX14_bar_42 : decode cX14_bar 42 = .ok (.getfield 533, 3) := by decide +kernel
theorem dX14_bar_45 : decode cX14_bar 45 = .ok (.iload_n 1, 1) := by decide +kernel
theorem dX14_bar_46 : decode cX14_bar 46 = .ok (.invokestatic 300, 3) := by decide +kernel
theorem dX14_bar_49 : decode cX14_bar 49 = .ok (.istore_n 3, 1) := by decide +kernel
theorem dX14_bar_50 : decode cX14_bar 50 = .ok (.iload_n 3, 1) := by decide +kernel
theorem dX14_bar_51 : decode cX14_bar 51 = .ok (.iload_n 1, 1) := by decide +kernel
theorem dX14_bar_52 : decode cX14_bar 52 = .ok (.if_icmp .ne 5, 3) := by decide +kernel
theorem dX14_bar_57 : decode cX14_bar 57 = .ok (.iload_n 3, 1) := by decide +kernel
theorem dX14_bar_58 : decode cX14_bar 58 = .ok (.istore_n 1, 1) := by decide +kernel
theorem dX14_bar_59 : decode cX14_bar 59 = .ok (.iload_n 1, 1) := by decide +kernel
theorem dX14_bar_60 : decode cX14_bar 60 = .ok (.aload_n 0, 1) := by decide +kernel
theorem dX14_bar_61 : decode cX14_bar 61 = .ok (.getfield 533, 3) := by decide +kernel
theorem dX14_bar_64 : decode cX14_bar 64 = .ok (.if_icmp .ge 21, 3) := by decide +kernel
theorem dX14_bar_85 : decode cX14_bar 85 = .ok (.iload_n 1, 1) := by decide +kernel
theorem dX14_bar_86 : decode cX14_bar 86 = .ok (.aload_n 0, 1) := by decide +kernel
theorem dX14_bar_87 : decode cX14_bar 87 = .ok (.getfield 533, 3) := by decide +kernel
theorem dX14_bar_90 : decode cX14_bar 90 = .ok (.if_icmp .ge 18, 3) := by decide +kernel
theorem dX14_bar_108 : decode cX14_bar 108 = .ok (.iconst 0, 1) := by decide +kernel
theorem dX14_bar_109 : decode cX14_bar 109 = .ok (.istore_n 2, 1) := by decide +kernel
theorem dX14_bar_110 : decode cX14_bar 110 = .ok (.iload_n 2, 1) := by decide +kernel
theorem dX14_bar_111 : decode cX14_bar 111 = .ok (.ifCond .eq 6, 3) := by decide +kernel
theorem dX14_bar_117 : decode cX14_bar 117 = .ok (.goto (-110), 3) := by decide +kernel
theorem dX14_bar_93 : decode cX14_bar 93 = .ok (.aload_n 0, 1) := by decide +kernel
theorem dX14_bar_94 : decode cX14_bar 94 = .ok (.getfield 36, 3) := by decide +kernel
theorem dX14_bar_97 : decode cX14_bar 97 = .ok (.iload_n 1, 1) := by decide +kernel
theorem dX14_bar_98 : decode cX14_bar 98 = .ok (.baload, 1) := by decide +kernel
theorem dX14_bar_99 : decode cX14_bar 99 = .ok (.bipush 44, 2) := by decide +kernel
theorem dX14_bar_101 : decode cX14_bar 101 = .ok (.if_icmp .ne 7, 3) := by decide +kernel
theorem dX14_bar_104 : decode cX14_bar 104 = .ok (.iconst 1, 1) := by decide +kernel
theorem dX14_bar_105 : decode cX14_bar 105 = .ok (.goto 4, 3) := by decide +kernel
theorem dX14_bar_114 : decode cX14_bar 114 = .ok (.iinc 1 1, 3) := by decide +kernel
theorem dX14_bar_67 : decode cX14_bar 67 = .ok (.aload_n 0, 1) := by decide +kernel
theorem dX14_bar_68 : decode cX14_bar 68 = .ok (.getfield 36, 3) := by decide +kernel
theorem dX14_bar_71 : decode cX14_bar 71 = .ok (.iload_n 1, 1) := by decide +kernel
theorem dX14_bar_72 : decode cX14_bar 72 = .ok (.baload, 1) := by decide +kernel
theorem dX14_bar_73 : decode cX14_bar 73 = .ok (.invokestatic 270, 3) := by decide +kernel
theorem dX14_bar_76 : decode cX14_bar 76 = .ok (.ifCond .eq 9, 3) := by decide +kernel
theorem dX14_bar_79 : decode cX14_bar 79 = .ok (.iinc 1 1, 3) := by decide +kernel
theorem dX14_bar_82 : decode cX14_bar 82 = .ok (.goto (-23), 3) := by decide +kernel
theorem dX14_bar_55 : decode cX14_bar 55 = .ok (.iconst (-1), 1) := by decide +kernel
theorem dX14_bar_56 : decode cX14_bar 56 = .ok (.ireturn, 1) := by decide +kernel
theorem dX14_bar_19 : decode cX14_bar 19 = .ok (.aload_n 0, 1) := by decide +kernel
theorem dX14_bar_20 : decode cX14_bar 20 = .ok (.getfield 36, 3) := by decide +kernel
theorem dX14_bar_23 : decode cX14_bar 23 = .ok (.iload_n 1, 1) := by decide +kernel
theorem dX14_bar_24 : decode cX14_bar 24 = .ok (.baload, 1) := by decide +kernel
theorem dX14_bar_25 : decode cX14_bar 25 = .ok (.invokestatic 270, 3) := by decide +kernel
theorem dX14_bar_28 : decode cX14_bar 28 = .ok (.ifCond .eq 9, 3) := by decide +kernel
theorem dX14_bar_31 : decode cX14_bar 31 = .ok (.iinc 1 1, 3) := by decide +kernel
theorem dX14_bar_34 : decode cX14_bar 34 = .ok (.goto (-23), 3) := by decide +kernel
theorem dX14_bar_120 : decode cX14_bar 120 = .ok (.iload_n 1, 1) := by decide +kernel
theorem dX14_bar_121 : decode cX14_bar 121 = .ok (.aload_n 0, 1) := by decide +kernel
theorem dX14_bar_122 : decode cX14_bar 122 = .ok (.getfield 533, 3) := by decide +kernel
theorem dX14_bar_125 : decode cX14_bar 125 = .ok (.if_icmp .ge 18, 3) := by decide +kernel
theorem dX14_bar_143 : decode cX14_bar 143 = .ok (.iconst (-1), 1) := by decide +kernel
theorem dX14_bar_144 : decode cX14_bar 144 = .ok (.ireturn, 1) := by decide +kernel
theorem dX14_bar_128 : decode cX14_bar 128 = .ok (.aload_n 0, 1) := by decide +kernel
theorem dX14_bar_129 : decode cX14_bar 129 = .ok (.getfield 36, 3) := by decide +kernel
theorem dX14_bar_132 : decode cX14_bar 132 = .ok (.iload_n 1, 1) := by decide +kernel
theorem dX14_bar_133 : decode cX14_bar 133 = .ok (.baload, 1) := by decide +kernel
theorem dX14_bar_134 : decode cX14_bar 134 = .ok (.bipush 124, 2) := by decide +kernel
theorem dX14_bar_136 : decode cX14_bar 136 = .ok (.if_icmp .ne 7, 3) := by decide +kernel
theorem dX14_bar_139 : decode cX14_bar 139 = .ok (.iload_n 1, 1) := by decide +kernel
theorem dX14_bar_140 : decode cX14_bar 140 = .ok (.goto 4, 3) := by decide +kernel
theorem dX14_lowest_0 : decode cX14_lowest 0 = .ok (.aload_n 0, 1) := by decide +kernel
theorem dX14_lowest_1 : decode cX14_lowest 1 = .ok (.invokevirtual 569, 3) := by decide +kernel
theorem dX14_lowest_4 : decode cX14_lowest 4 = .ok (.istore_n 1, 1) := by decide +kernel
theorem dX14_lowest_5 : decode cX14_lowest 5 = .ok (.aload_n 0, 1) := by decide +kernel
theorem dX14_lowest_6 : decode cX14_lowest 6 = .ok (.getfield 36, 3) := by decide +kernel
theorem dX14_lowest_9 : decode cX14_lowest 9 = .ok (.aload_n 0, 1) := by decide +kernel
theorem dX14_lowest_10 : decode cX14_lowest 10 = .ok (.getfield 533, 3) := by decide +kernel
theorem dX14_lowest_13 : decode cX14_lowest 13 = .ok (.aload_n 0, 1) := by decide +kernel
theorem dX14_lowest_14 : decode cX14_lowest 14 = .ok (.getfield 548, 3) := by decide +kernel
theorem dX14_lowest_17 : decode cX14_lowest 17 = .ok (.invokestatic 300, 3) := by decide +kernel
theorem dX14_lowest_20 : decode cX14_lowest 20 = .ok (.istore_n 2, 1) := by decide +kernel
theorem dX14_lowest_21 : decode cX14_lowest 21 = .ok (.iload_n 2, 1) := by decide +kernel
theorem dX14_lowest_22 : decode cX14_lowest 22 = .ok (.aload_n 0, 1) := by decide +kernel
theorem dX14_lowest_23 : decode cX14_lowest 23 = .ok (.getfield 548, 3) := by decide +kernel
theorem dX14_lowest_26 : decode cX14_lowest 26 = .ok (.if_icmp .le 38, 3) := by decide +kernel
theorem dX14_lowest_64 : decode cX14_lowest 64 = .ok (.iload_n 1, 1) := by decide +kernel
theorem dX14_lowest_65 : decode cX14_lowest 65 = .ok (.bipush 34, 2) := by decide +kernel
theorem dX14_lowest_67 : decode cX14_lowest 67 = .ok (.if_icmp .eq 27, 3) := by decide +kernel
theorem dX14_lowest_94 : decode cX14_lowest 94 = .ok (.iconst 4, 1) := by decide +kernel
theorem dX14_lowest_95 : decode cX14_lowest 95 = .ok (.goto 4, 3) := by decide +kernel
theorem dX14_lowest_99 : decode cX14_lowest 99 = .ok (.ireturn, 1) := by decide +kernel
theorem dX14_lowest_70 : decode cX14_lowest 70 = .ok (.iload_n 1, 1) := by decide +kernel
theorem dX14_lowest_71 : decode cX14_lowest 71 = .ok (.bipush 39, 2) := by decide +kernel
theorem dX14_lowest_73 : decode cX14_lowest 73 = .ok (.if_icmp .eq 21, 3) := by decide +kernel
theorem dX14_lowest_76 : decode cX14_lowest 76 = .ok (.iload_n 1, 1) := by decide +kernel
theorem dX14_lowest_77 : decode cX14_lowest 77 = .ok (.bipush 123, 2) := by decide +kernel
theorem dX14_lowest_79 : decode cX14_lowest 79 = .ok (.if_icmp .eq 15, 3) := by decide +kernel
theorem dX14_lowest_82 : decode cX14_lowest 82 = .ok (.iload_n 1, 1) := by decide +kernel
theorem dX14_lowest_83 : decode cX14_lowest 83 = .ok (.bipush 91, 2) := by decide +kernel
theorem dX14_lowest_85 : decode cX14_lowest 85 = .ok (.if_icmp .eq 9, 3) := by decide +kernel
theorem dX14_lowest_88 : decode cX14_lowest 88 = .ok (.iload_n 1, 1) := by decide +kernel
theorem dX14_lowest_89 : decode cX14_lowest 89 = .ok (.bipush 40, 2) := by decide +kernel
theorem dX14_lowest_91 : decode cX14_lowest 91 = .ok (.if_icmp .ne 7, 3) := by decide +kernel
theorem dX14_lowest_98 : decode cX14_lowest 98 = .ok (.iconst 1, 1) := by decide +kernel
theorem dX14_lowest_29 : decode cX14_lowest 29 = .ok (.aload_n 0, 1) := by decide +kernel
theorem dX14_lowest_30 : decode cX14_lowest 30 = .ok (.invokevirtual 605, 3) := by decide +kernel
theorem dX14_lowest_33 : decode cX14_lowest 33 = .ok (.ifCond .eq 7, 3) := by decide +kernel
theorem dX14_lowest_40 : decode cX14_lowest 40 = .ok (.aload_n 0, 1) := by decide +kernel
theorem dX14_lowest_41 : decode cX14_lowest 41 = .ok (.invokevirtual 613, 3) := by decide +kernel
theorem dX14_lowest_44 : decode cX14_lowest 44 = .ok (.ifCond .ne 18, 3) := by decide +kernel
theorem dX14_lowest_62 : decode cX14_lowest 62 = .ok (.iconst 4, 1) := by decide +kernel
theorem dX14_lowest_63 : decode cX14_lowest 63 = .ok (.ireturn, 1) := by decide +kernel
theorem dX14_lowest_47 : decode cX14_lowest 47 = .ok (.iload_n 2, 1) := by decide +kernel
theorem dX14_lowest_48 : decode cX14_lowest 48 = .ok (.aload_n 0, 1) := by decide +kernel
theorem dX14_lowest_49 : decode cX14_lowest 49 = .ok (.getfield 548, 3) := by decide +kernel
theorem dX14_lowest_52 : decode cX14_lowest 52 = .ok (.isub, 1) := by decide +kernel
theorem dX14_lowest_53 : decode cX14_lowest 53 = .ok (.bipush 16, 2) := by decide +kernel
theorem dX14_lowest_55 : decode cX14_lowest 55 = .ok (.if_icmp .le 7, 3) := by decide +kernel
theorem dX14_lowest_58 : decode cX14_lowest 58 = .ok (.iconst 2, 1) := by decide +kernel
theorem dX14_lowest_59 : decode cX14_lowest 59 = .ok (.goto 4, 3) := by decide +kernel
theorem dX14_lowest_36 : decode cX14_lowest 36 = .ok (.iconst 1, 1) := by decide +kernel
theorem dX14_lowest_37 : decode cX14_lowest 37 = .ok (.goto 26, 3) := by decide +kernel
theorem dX14_keep_0 : decode cX14_keep 0 = .ok (.aload_n 0, 1) := by decide +kernel
theorem dX14_keep_1 : decode cX14_keep 1 = .ok (.aload_n 0, 1) := by decide +kernel
theorem dX14_keep_2 : decode cX14_keep 2 = .ok (.getfield 334, 3) := by decide +kernel
theorem dX14_keep_5 : decode cX14_keep 5 = .ok (.getfield 371, 3) := by decide +kernel
theorem dX14_keep_8 : decode cX14_keep 8 = .ok (.putfield 374, 3) := by decide +kernel
theorem dX14_keep_11 : decode cX14_keep 11 = .ok (.iload_n 2, 1) := by decide +kernel
theorem dX14_keep_12 : decode cX14_keep 12 = .ok (.istore 4, 2) := by decide +kernel
theorem dX14_keep_14 : decode cX14_keep 14 = .ok (.iload 4, 2) := by decide +kernel
theorem dX14_keep_16 : decode cX14_keep 16 = .ok (.iload_n 3, 1) := by decide +kernel
theorem dX14_keep_17 : decode cX14_keep 17 = .ok (.if_icmp .ge 98, 3) := by decide +kernel
theorem dX14_keep_115 : decode cX14_keep 115 = .ok (.aload_n 0, 1) := by decide +kernel
theorem dX14_keep_116 : decode cX14_keep 116 = .ok (.aload_n 0, 1) := by decide +kernel
theorem dX14_keep_117 : decode cX14_keep 117 = .ok (.getfield 334, 3) := by decide +kernel
theorem dX14_keep_120 : decode cX14_keep 120 = .ok (.getfield 371, 3) := by decide +kernel
theorem dX14_keep_123 : decode cX14_keep 123 = .ok (.aload_n 0, 1) := by decide +kernel
theorem dX14_keep_124 : decode cX14_keep 124 = .ok (.getfield 374, 3) := by decide +kernel
theorem dX14_keep_127 : decode cX14_keep 127 = .ok (.isub, 1) := by decide +kernel
theorem dX14_keep_128 : decode cX14_keep 128 = .ok (.putfield 380, 3) := by decide +kernel
theorem dX14_keep_131 : decode cX14_keep 131 = .ok (.return_, 1) := by decide +kernel
theorem dX14_keep_20 : decode cX14_keep 20 = .ok (.aload_n 1, 1) := by decide +kernel
theorem dX14_keep_21 : decode cX14_keep 21 = .ok (.iload 4, 2) := by decide +kernel
theorem dX14_keep_23 : decode cX14_keep 23 = .ok (.baload, 1) := by decide +kernel
theorem dX14_keep_24 : decode cX14_keep 24 = .ok (.istore 5, 2) := by decide +kernel
theorem dX14_keep_26 : decode cX14_keep 26 = .ok (.iload 5, 2) := by decide +kernel
theorem dX14_keep_28 : decode cX14_keep 28 = .ok (.bipush 92, 2) := by decide +kernel
theorem dX14_keep_30 : decode cX14_keep 30 = .ok (.if_icmp .ne 48, 3) := by decide +kernel
theorem dX14_keep_78 : decode cX14_keep 78 = .ok (.aload_n 0, 1) := by decide +kernel
theorem dX14_keep_79 : decode cX14_keep 79 = .ok (.getfield 334, 3) := by decide +kernel
theorem dX14_keep_82 : decode cX14_keep 82 = .ok (.getfield 377, 3) := by decide +kernel
theorem dX14_keep_85 : decode cX14_keep 85 = .ok (.aload_n 0, 1) := by decide +kernel
theorem dX14_keep_86 : decode cX14_keep 86 = .ok (.getfield 334, 3) := by decide +kernel
theorem dX14_keep_89 : decode cX14_keep 89 = .ok (.getfield 371, 3) := by decide +kernel
theorem dX14_keep_92 : decode cX14_keep 92 = .ok (.iload 5, 2) := by decide +kernel
theorem dX14_keep_94 : decode cX14_keep 94 = .ok (.i2b, 1) := by decide +kernel
theorem dX14_keep_95 : decode cX14_keep 95 = .ok (.bastore, 1) := by decide +kernel
theorem dX14_keep_96 : decode cX14_keep 96 = .ok (.aload_n 0, 1) := by decide +kernel
theorem dX14_keep_97 : decode cX14_keep 97 = .ok (.getfield 334, 3) := by decide +kernel
theorem dX14_keep_100 : decode cX14_keep 100 = .ok (.dup, 1) := by decide +kernel
theorem dX14_keep_101 : decode cX14_keep 101 = .ok (.getfield 371, 3) := by decide +kernel
theorem dX14_keep_104 : decode cX14_keep 104 = .ok (.iconst 1, 1) := by decide +kernel
theorem dX14_keep_105 : decode cX14_keep 105 = .ok (.iadd, 1) := by decide +kernel
theorem dX14_keep_106 : decode cX14_keep 106 = .ok (.putfield 371, 3) := by decide +kernel
theorem dX14_keep_109 : decode cX14_keep 109 = .ok (.iinc 4 1, 3) := by decide +kernel
theorem dX14_keep_112 : decode cX14_keep 112 = .ok (.goto (-98), 3) := by decide +kernel
theorem dX14_keep_33 : decode cX14_keep 33 = .ok (.iload 4, 2) := by decide +kernel
theorem dX14_keep_35 : decode cX14_keep 35 = .ok (.iconst 1, 1) := by decide +kernel
theorem dX14_keep_36 : decode cX14_keep 36 = .ok (.iadd, 1) := by decide +kernel
theorem dX14_keep_37 : decode cX14_keep 37 = .ok (.iload_n 3, 1) := by decide +kernel
theorem dX14_keep_38 : decode cX14_keep 38 = .ok (.if_icmp .ge 40, 3) := by decide +kernel
theorem dX14_keep_41 : decode cX14_keep 41 = .ok (.iinc 4 1, 3) := by decide +kernel
theorem dX14_keep_44 : decode cX14_keep 44 = .ok (.aload_n 1, 1) := by decide +kernel
theorem dX14_keep_45 : decode cX14_keep 45 = .ok (.iload 4, 2) := by decide +kernel
theorem dX14_keep_47 : decode cX14_keep 47 = .ok (.baload, 1) := by decide +kernel
theorem dX14_keep_48 : decode cX14_keep 48 = .ok (.bipush 110, 2) := by decide +kernel
theorem dX14_keep_50 : decode cX14_keep 50 = .ok (.if_icmp .ne 8, 3) := by decide +kernel
theorem dX14_keep_58 : decode cX14_keep 58 = .ok (.aload_n 1, 1) := by decide +kernel
theorem dX14_keep_59 : decode cX14_keep 59 = .ok (.iload 4, 2) := by decide +kernel
theorem dX14_keep_61 : decode cX14_keep 61 = .ok (.baload, 1) := by decide +kernel
theorem dX14_keep_62 : decode cX14_keep 62 = .ok (.bipush 116, 2) := by decide +kernel
theorem dX14_keep_64 : decode cX14_keep 64 = .ok (.if_icmp .ne 8, 3) := by decide +kernel
theorem dX14_keep_72 : decode cX14_keep 72 = .ok (.aload_n 1, 1) := by decide +kernel
theorem dX14_keep_73 : decode cX14_keep 73 = .ok (.iload 4, 2) := by decide +kernel
theorem dX14_keep_75 : decode cX14_keep 75 = .ok (.baload, 1) := by decide +kernel
theorem dX14_keep_76 : decode cX14_keep 76 = .ok (.istore 5, 2) := by decide +kernel
theorem dX14_keep_67 : decode cX14_keep 67 = .ok (.bipush 9, 2) := by decide +kernel
theorem dX14_keep_69 : decode cX14_keep 69 = .ok (.goto 7, 3) := by decide +kernel
theorem dX14_keep_53 : decode cX14_keep 53 = .ok (.bipush 10, 2) := by decide +kernel
theorem dX14_keep_55 : decode cX14_keep 55 = .ok (.goto 21, 3) := by decide +kernel
theorem dX14_fileString_0 : decode cX14_fileString 0 = .ok (.aload_n 0, 1) := by decide +kernel
theorem dX14_fileString_1 : decode cX14_fileString 1 = .ok (.invokevirtual 308, 3) := by decide +kernel
theorem dX14_fileString_4 : decode cX14_fileString 4 = .ok (.aload_n 0, 1) := by decide +kernel
theorem dX14_fileString_5 : decode cX14_fileString 5 = .ok (.getfield 248, 3) := by decide +kernel
theorem dX14_fileString_8 : decode cX14_fileString 8 = .ok (.ifCond .eq 4, 3) := by decide +kernel
theorem dX14_fileString_12 : decode cX14_fileString 12 = .ok (.aload_n 0, 1) := by decide +kernel
theorem dX14_fileString_13 : decode cX14_fileString 13 = .ok (.aload_n 0, 1) := by decide +kernel
theorem dX14_fileString_14 : decode cX14_fileString 14 = .ok (.getfield 274, 3) := by decide +kernel
theorem dX14_fileString_17 : decode cX14_fileString 17 = .ok (.invokevirtual 266, 3) := by decide +kernel
theorem dX14_fileString_20 : decode cX14_fileString 20 = .ok (.bipush 34, 2) := by decide +kernel
theorem dX14_fileString_22 : decode cX14_fileString 22 = .ok (.if_icmp .eq 13, 3) := by decide +kernel
theorem dX14_fileString_35 : decode cX14_fileString 35 = .ok (.aload_n 0, 1) := by decide +kernel
theorem dX14_fileString_36 : decode cX14_fileString 36 = .ok (.aload_n 0, 1) := by decide +kernel
theorem dX14_fileString_37 : decode cX14_fileString 37 = .ok (.getfield 274, 3) := by decide +kernel
theorem dX14_fileString_40 : decode cX14_fileString 40 = .ok (.putfield 327, 3) := by decide +kernel
theorem dX14_fileString_43 : decode cX14_fileString 43 = .ok (.aload_n 0, 1) := by decide +kernel
theorem dX14_fileString_44 : decode cX14_fileString 44 = .ok (.getfield 274, 3) := by decide +kernel
theorem dX14_fileString_47 : decode cX14_fileString 47 = .ok (.iconst 1, 1) := by decide +kernel
theorem dX14_fileString_48 : decode cX14_fileString 48 = .ok (.iadd, 1) := by decide +kernel
theorem dX14_fileString_49 : decode cX14_fileString 49 = .ok (.istore_n 1, 1) := by decide +kernel
theorem dX14_fileString_50 : decode cX14_fileString 50 = .ok (.iload_n 1, 1) := by decide +kernel
theorem dX14_fileString_51 : decode cX14_fileString 51 = .ok (.aload_n 0, 1) := by decide +kernel
theorem dX14_fileString_52 : decode cX14_fileString 52 = .ok (.getfield 260, 3) := by decide +kernel
theorem dX14_fileString_55 : decode cX14_fileString 55 = .ok (.if_icmp .ge 31, 3) := by decide +kernel
theorem dX14_fileString_86 : decode cX14_fileString 86 = .ok (.iload_n 1, 1) := by decide +kernel
theorem dX14_fileString_87 : decode cX14_fileString 87 = .ok (.aload_n 0, 1) := by decide +kernel
theorem dX14_fileString_88 : decode cX14_fileString 88 = .ok (.getfield 260, 3) := by decide +kernel
theorem dX14_fileString_91 : decode cX14_fileString 91 = .ok (.if_icmp .ge 14, 3) := by decide +kernel
theorem dX14_fileString_105 : decode cX14_fileString 105 = .ok (.aload_n 0, 1) := by decide +kernel
theorem dX14_fileString_106 : decode cX14_fileString 106 = .ok (.iconst 1, 1) := by decide +kernel
theorem dX14_fileString_107 : decode cX14_fileString 107 = .ok (.iload_n 1, 1) := by decide +kernel
theorem dX14_fileString_108 : decode cX14_fileString 108 = .ok (.invokevirtual 280, 3) := by decide +kernel
theorem dX14_fileString_111 : decode cX14_fileString 111 = .ok (.return_, 1) := by decide +kernel
theorem dX14_fileString_94 : decode cX14_fileString 94 = .ok (.aload_n 0, 1) := by decide +kernel
theorem dX14_fileString_95 : decode cX14_fileString 95 = .ok (.getfield 263, 3) := by decide +kernel
theorem dX14_fileString_98 : decode cX14_fileString 98 = .ok (.iload_n 1, 1) := by decide +kernel
theorem dX14_fileString_99 : decode cX14_fileString 99 = .ok (.baload, 1) := by decide +kernel
theorem dX14_fileString_100 : decode cX14_fileString 100 = .ok (.bipush 10, 2) := by decide +kernel
theorem dX14_fileString_102 : decode cX14_fileString 102 = .ok (.if_icmp .ne 10, 3) := by decide +kernel
theorem dX14_fileString_112 : decode cX14_fileString 112 = .ok (.aload_n 0, 1) := by decide +kernel
theorem dX14_fileString_113 : decode cX14_fileString 113 = .ok (.aload_n 0, 1) := by decide +kernel
theorem dX14_fileString_114 : decode cX14_fileString 114 = .ok (.getfield 274, 3) := by decide +kernel
theorem dX14_fileString_117 : decode cX14_fileString 117 = .ok (.iconst 1, 1) := by decide +kernel
theorem dX14_fileString_118 : decode cX14_fileString 118 = .ok (.iadd, 1) := by decide +kernel
theorem dX14_fileString_119 : decode cX14_fileString 119 = .ok (.putfield 341, 3) := by decide +kernel
theorem dX14_fileString_122 : decode cX14_fileString 122 = .ok (.aload_n 0, 1) := by decide +kernel
theorem dX14_fileString_123 : decode cX14_fileString 123 = .ok (.iload_n 1, 1) := by decide +kernel
theorem dX14_fileString_124 : decode cX14_fileString 124 = .ok (.putfield 344, 3) := by decide +kernel
theorem dX14_fileString_127 : decode cX14_fileString 127 = .ok (.aload_n 0, 1) := by decide +kernel
theorem dX14_fileString_128 : decode cX14_fileString 128 = .ok (.iload_n 1, 1) := by decide +kernel
theorem dX14_fileString_129 : decode cX14_fileString 129 = .ok (.iconst 1, 1) := by decide +kernel
theorem dX14_fileString_130 : decode cX14_fileString 130 = .ok (.iadd, 1) := by decide +kernel
theorem dX14_fileString_131 : decode cX14_fileString 131 = .ok (.putfield 274, 3) := by decide +kernel
theorem dX14_fileString_134 : decode cX14_fileString 134 = .ok (.return_, 1) := by decide +kernel
theorem dX14_fileString_58 : decode cX14_fileString 58 = .ok (.aload_n 0, 1) := by decide +kernel
theorem dX14_fileString_59 : decode cX14_fileString 59 = .ok (.getfield 263, 3) := by decide +kernel
theorem dX14_fileString_62 : decode cX14_fileString 62 = .ok (.iload_n 1, 1) := by decide +kernel
theorem dX14_fileString_63 : decode cX14_fileString 63 = .ok (.baload, 1) := by decide +kernel
theorem dX14_fileString_64 : decode cX14_fileString 64 = .ok (.bipush 34, 2) := by decide +kernel
theorem dX14_fileString_66 : decode cX14_fileString 66 = .ok (.if_icmp .eq 20, 3) := by decide +kernel
theorem dX14_fileString_69 : decode cX14_fileString 69 = .ok (.aload_n 0, 1) := by decide +kernel
theorem dX14_fileString_70 : decode cX14_fileString 70 = .ok (.getfield 263, 3) := by decide +kernel
theorem dX14_fileString_73 : decode cX14_fileString 73 = .ok (.iload_n 1, 1) := by decide +kernel
theorem dX14_fileString_74 : decode cX14_fileString 74 = .ok (.baload, 1) := by decide +kernel
theorem dX14_fileString_75 : decode cX14_fileString 75 = .ok (.bipush 10, 2) := by decide +kernel
theorem dX14_fileString_77 : decode cX14_fileString 77 = .ok (.if_icmp .eq 9, 3) := by decide +kernel
theorem dX14_fileString_80 : decode cX14_fileString 80 = .ok (.iinc 1 1, 3) := by decide +kernel
theorem dX14_fileString_83 : decode cX14_fileString 83 = .ok (.goto (-33), 3) := by decide +kernel
theorem dX14_fileString_25 : decode cX14_fileString 25 = .ok (.aload_n 0, 1) := by decide +kernel
theorem dX14_fileString_26 : decode cX14_fileString 26 = .ok (.iconst 1, 1) := by decide +kernel
theorem dX14_fileString_27 : decode cX14_fileString 27 = .ok (.aload_n 0, 1) := by decide +kernel
theorem dX14_fileString_28 : decode cX14_fileString 28 = .ok (.getfield 274, 3) := by decide +kernel
theorem dX14_fileString_31 : decode cX14_fileString 31 = .ok (.invokevirtual 280, 3) := by decide +kernel
theorem dX14_fileString_34 : decode cX14_fileString 34 = .ok (.return_, 1) := by decide +kernel
theorem dX14_fileString_11 : decode cX14_fileString 11 = .ok (.return_, 1) := by decide +kernel
theorem dX14_fileName_0 : decode cX14_fileName 0 = .ok (.aload_n 0, 1) := by decide +kernel
theorem dX14_fileName_1 : decode cX14_fileName 1 = .ok (.invokevirtual 308, 3) := by decide +kernel
theorem dX14_fileName_4 : decode cX14_fileName 4 = .ok (.aload_n 0, 1) := by decide +kernel
theorem dX14_fileName_5 : decode cX14_fileName 5 = .ok (.getfield 248, 3) := by decide +kernel
theorem dX14_fileName_8 : decode cX14_fileName 8 = .ok (.ifCond .eq 5, 3) := by decide +kernel
theorem dX14_fileName_13 : decode cX14_fileName 13 = .ok (.aload_n 0, 1) := by decide +kernel
theorem dX14_fileName_14 : decode cX14_fileName 14 = .ok (.getfield 263, 3) := by decide +kernel
theorem dX14_fileName_17 : decode cX14_fileName 17 = .ok (.aload_n 0, 1) := by decide +kernel
theorem dX14_fileName_18 : decode cX14_fileName 18 = .ok (.getfield 260, 3) := by decide +kernel
theorem dX14_fileName_21 : decode cX14_fileName 21 = .ok (.aload_n 0, 1) := by decide +kernel
theorem dX14_fileName_22 : decode cX14_fileName 22 = .ok (.getfield 274, 3) := by decide +kernel
theorem dX14_fileName_25 : decode cX14_fileName 25 = .ok (.invokestatic 300, 3) := by decide +kernel
theorem dX14_fileName_28 : decode cX14_fileName 28 = .ok (.istore_n 1, 1) := by decide +kernel
theorem dX14_fileName_29 : decode cX14_fileName 29 = .ok (.aload_n 0, 1) := by decide +kernel
theorem dX14_fileName_30 : decode cX14_fileName 30 = .ok (.aload_n 0, 1) := by decide +kernel
theorem dX14_fileName_31 : decode cX14_fileName 31 = .ok (.getfield 274, 3) := by decide +kernel
theorem dX14_fileName_34 : decode cX14_fileName 34 = .ok (.putfield 327, 3) := by decide +kernel
theorem dX14_fileName_37 : decode cX14_fileName 37 = .ok (.iload_n 1, 1) := by decide +kernel
theorem dX14_fileName_38 : decode cX14_fileName 38 = .ok (.aload_n 0, 1) := by decide +kernel
theorem dX14_fileName_39 : decode cX14_fileName 39 = .ok (.getfield 274, 3) := by decide +kernel
theorem dX14_fileName_42 : decode cX14_fileName 42 = .ok (.if_icmp .eq 10, 3) := by decide +kernel
theorem dX14_fileName_52 : decode cX14_fileName 52 = .ok (.aload_n 0, 1) := by decide +kernel
theorem dX14_fileName_53 : decode cX14_fileName 53 = .ok (.iconst 1, 1) := by decide +kernel
theorem dX14_fileName_54 : decode cX14_fileName 54 = .ok (.aload_n 0, 1) := by decide +kernel
theorem dX14_fileName_55 : decode cX14_fileName 55 = .ok (.getfield 274, 3) := by decide +kernel
theorem dX14_fileName_58 : decode cX14_fileName 58 = .ok (.invokevirtual 280, 3) := by decide +kernel
theorem dX14_fileName_61 : decode cX14_fileName 61 = .ok (.goto 23, 3) := by decide +kernel
theorem dX14_fileName_84 : decode cX14_fileName 84 = .ok (.aload_n 0, 1) := by decide +kernel
theorem dX14_fileName_85 : decode cX14_fileName 85 = .ok (.getfield 248, 3) := by decide +kernel
theorem dX14_fileName_88 : decode cX14_fileName 88 = .ok (.ifCond .eq 5, 3) := by decide +kernel
theorem dX14_fileName_93 : decode cX14_fileName 93 = .ok (.aload_n 0, 1) := by decide +kernel
theorem dX14_fileName_94 : decode cX14_fileName 94 = .ok (.getfield 334, 3) := by decide +kernel
theorem dX14_fileName_97 : decode cX14_fileName 97 = .ok (.aload_n 0, 1) := by decide +kernel
theorem dX14_fileName_98 : decode cX14_fileName 98 = .ok (.getfield 263, 3) := by decide +kernel
theorem dX14_fileName_101 : decode cX14_fileName 101 = .ok (.aload_n 0, 1) := by decide +kernel
theorem dX14_fileName_102 : decode cX14_fileName 102 = .ok (.getfield 274, 3) := by decide +kernel
theorem dX14_fileName_105 : decode cX14_fileName 105 = .ok (.iload_n 1, 1) := by decide +kernel
theorem dX14_fileName_106 : decode cX14_fileName 106 = .ok (.aload_n 0, 1) := by decide +kernel
theorem dX14_fileName_107 : decode cX14_fileName 107 = .ok (.getfield 274, 3) := by decide +kernel
theorem dX14_fileName_110 : decode cX14_fileName 110 = .ok (.isub, 1) := by decide +kernel
theorem dX14_fileName_111 : decode cX14_fileName 111 = .ok (.invokevirtual 338, 3) := by decide +kernel
theorem dX14_fileName_114 : decode cX14_fileName 114 = .ok (.istore_n 2, 1) := by decide +kernel
theorem dX14_fileName_115 : decode cX14_fileName 115 = .ok (.aload_n 0, 1) := by decide +kernel
theorem dX14_fileName_116 : decode cX14_fileName 116 = .ok (.iload_n 1, 1) := by decide +kernel
theorem dX14_fileName_117 : decode cX14_fileName 117 = .ok (.putfield 274, 3) := by decide +kernel
theorem dX14_fileName_120 : decode cX14_fileName 120 = .ok (.iload_n 2, 1) := by decide +kernel
theorem dX14_fileName_121 : decode cX14_fileName 121 = .ok (.ireturn, 1) := by decide +kernel
theorem dX14_fileName_91 : decode cX14_fileName 91 = .ok (.iconst 0, 1) := by decide +kernel
theorem dX14_fileName_92 : decode cX14_fileName 92 = .ok (.ireturn, 1) := by decide +kernel
theorem dX14_fileName_45 : decode cX14_fileName 45 = .ok (.aload_n 0, 1) := by decide +kernel
theorem dX14_fileName_46 : decode cX14_fileName 46 = .ok (.invokevirtual 330, 3) := by decide +kernel
theorem dX14_fileName_49 : decode cX14_fileName 49 = .ok (.ifCond .eq 15, 3) := by decide +kernel
theorem dX14_fileName_64 : decode cX14_fileName 64 = .ok (.iload_n 1, 1) := by decide +kernel
theorem dX14_fileName_65 : decode cX14_fileName 65 = .ok (.aload_n 0, 1) := by decide +kernel
theorem dX14_fileName_66 : decode cX14_fileName 66 = .ok (.getfield 274, 3) := by decide +kernel
theorem dX14_fileName_69 : decode cX14_fileName 69 = .ok (.isub, 1) := by decide +kernel
theorem dX14_fileName_70 : decode cX14_fileName 70 = .ok (.bipush 16, 2) := by decide +kernel
theorem dX14_fileName_72 : decode cX14_fileName 72 = .ok (.if_icmp .le 12, 3) := by decide +kernel
theorem dX14_fileName_75 : decode cX14_fileName 75 = .ok (.aload_n 0, 1) := by decide +kernel
theorem dX14_fileName_76 : decode cX14_fileName 76 = .ok (.iconst 2, 1) := by decide +kernel
theorem dX14_fileName_77 : decode cX14_fileName 77 = .ok (.aload_n 0, 1) := by decide +kernel
theorem dX14_fileName_78 : decode cX14_fileName 78 = .ok (.getfield 274, 3) := by decide +kernel
theorem dX14_fileName_81 : decode cX14_fileName 81 = .ok (.invokevirtual 280, 3) := by decide +kernel
theorem dX14_fileName_11 : decode cX14_fileName 11 = .ok (.iconst 0, 1) := by decide +kernel
theorem dX14_fileName_12 : decode cX14_fileName 12 = .ok (.ireturn, 1) := by decide +kernel
theorem dX14_tagName_0 : decode cX14_tagName 0 = .ok (.aload_n 0, 1) := by decide +kernel
theorem dX14_tagName_1 : decode cX14_tagName 1 = .ok (.invokevirtual 566, 3) := by decide +kernel
theorem dX14_tagName_4 : decode cX14_tagName 4 = .ok (.aload_n 0, 1) := by decide +kernel
theorem dX14_tagName_5 : decode cX14_tagName 5 = .ok (.getfield 248, 3) := by decide +kernel
theorem dX14_tagName_8 : decode cX14_tagName 8 = .ok (.ifCond .eq 5, 3) := by decide +kernel
theorem dX14_tagName_13 : decode cX14_tagName 13 = .ok (.aload_n 0, 1) := by decide +kernel
theorem dX14_tagName_14 : decode cX14_tagName 14 = .ok (.getfield 36, 3) := by decide +kernel
theorem dX14_tagName_17 : decode cX14_tagName 17 = .ok (.aload_n 0, 1) := by decide +kernel
theorem dX14_tagName_18 : decode cX14_tagName 18 = .ok (.getfield 533, 3) := by decide +kernel
theorem dX14_tagName_21 : decode cX14_tagName 21 = .ok (.aload_n 0, 1) := by decide +kernel
theorem dX14_tagName_22 : decode cX14_tagName 22 = .ok (.getfield 548, 3) := by decide +kernel
theorem dX14_tagName_25 : decode cX14_tagName 25 = .ok (.invokestatic 300, 3) := by decide +kernel
theorem dX14_tagName_28 : decode cX14_tagName 28 = .ok (.istore_n 1, 1) := by decide +kernel
theorem dX14_tagName_29 : decode cX14_tagName 29 = .ok (.aload_n 0, 1) := by decide +kernel
theorem dX14_tagName_30 : decode cX14_tagName 30 = .ok (.aload_n 0, 1) := by decide +kernel
theorem dX14_tagName_31 : decode cX14_tagName 31 = .ok (.invokevirtual 572, 3) := by decide +kernel
theorem dX14_tagName_34 : decode cX14_tagName 34 = .ok (.putfield 610, 3) := by decide +kernel
theorem dX14_tagName_37 : decode cX14_tagName 37 = .ok (.iload_n 1, 1) := by decide +kernel
theorem dX14_tagName_38 : decode cX14_tagName 38 = .ok (.aload_n 0, 1) := by decide +kernel
theorem dX14_tagName_39 : decode cX14_tagName 39 = .ok (.getfield 548, 3) := by decide +kernel
theorem dX14_tagName_42 : decode cX14_tagName 42 = .ok (.if_icmp .eq 10, 3) := by decide +kernel
theorem dX14_tagName_52 : decode cX14_tagName 52 = .ok (.aload_n 0, 1) := by decide +kernel
theorem dX14_tagName_53 : decode cX14_tagName 53 = .ok (.iconst 1, 1) := by decide +kernel
theorem dX14_tagName_54 : decode cX14_tagName 54 = .ok (.aload_n 0, 1) := by decide +kernel
theorem dX14_tagName_55 : decode cX14_tagName 55 = .ok (.invokevirtual 572, 3) := by decide +kernel
theorem dX14_tagName_58 : decode cX14_tagName 58 = .ok (.invokevirtual 280, 3) := by decide +kernel
theorem dX14_tagName_61 : decode cX14_tagName 61 = .ok (.goto 23, 3) := by decide +kernel
theorem dX14_tagName_84 : decode cX14_tagName 84 = .ok (.aload_n 0, 1) := by decide +kernel
theorem dX14_tagName_85 : decode cX14_tagName 85 = .ok (.getfield 248, 3) := by decide +kernel
theorem dX14_tagName_88 : decode cX14_tagName 88 = .ok (.ifCond .eq 5, 3) := by decide +kernel
theorem dX14_tagName_93 : decode cX14_tagName 93 = .ok (.aload_n 0, 1) := by decide +kernel
theorem dX14_tagName_94 : decode cX14_tagName 94 = .ok (.getfield 334, 3) := by decide +kernel
theorem dX14_tagName_97 : decode cX14_tagName 97 = .ok (.aload_n 0, 1) := by decide +kernel
theorem dX14_tagName_98 : decode cX14_tagName 98 = .ok (.getfield 36, 3) := by decide +kernel
theorem dX14_tagName_101 : decode cX14_tagName 101 = .ok (.aload_n 0, 1) := by decide +kernel
theorem dX14_tagName_102 : decode cX14_tagName 102 = .ok (.getfield 548, 3) := by decide +kernel
theorem dX14_tagName_105 : decode cX14_tagName 105 = .ok (.iload_n 1, 1) := by decide +kernel
theorem dX14_tagName_106 : decode cX14_tagName 106 = .ok (.aload_n 0, 1) := by decide +kernel
theorem dX14_tagName_107 : decode cX14_tagName 107 = .ok (.getfield 548, 3) := by decide +kernel
theorem dX14_tagName_110 : decode cX14_tagName 110 = .ok (.isub, 1) := by decide +kernel
theorem dX14_tagName_111 : decode cX14_tagName 111 = .ok (.invokevirtual 338, 3) := by decide +kernel
theorem dX14_tagName_114 : decode cX14_tagName 114 = .ok (.istore_n 2, 1) := by decide +kernel
theorem dX14_tagName_115 : decode cX14_tagName 115 = .ok (.aload_n 0, 1) := by decide +kernel
theorem dX14_tagName_116 : decode cX14_tagName 116 = .ok (.iload_n 1, 1) := by decide +kernel
theorem dX14_tagName_117 : decode cX14_tagName 117 = .ok (.putfield 548, 3) := by decide +kernel
theorem dX14_tagName_120 : decode cX14_tagName 120 = .ok (.iload_n 2, 1) := by decide +kernel
theorem dX14_tagName_121 : decode cX14_tagName 121 = .ok (.ireturn, 1) := by decide +kernel
theorem dX14_tagName_91 : decode cX14_tagName 91 = .ok (.iconst 0, 1) := by decide +kernel
theorem dX14_tagName_92 : decode cX14_tagName 92 = .ok (.ireturn, 1) := by decide +kernel
theorem dX14_tagName_45 : decode cX14_tagName 45 = .ok (.aload_n 0, 1) := by decide +kernel
theorem dX14_tagName_46 : decode cX14_tagName 46 = .ok (.invokevirtual 613, 3) := by decide +kernel
theorem dX14_tagName_49 : decode cX14_tagName 49 = .ok (.ifCond .eq 15, 3) := by decide +kernel
theorem dX14_tagName_64 : decode cX14_tagName 64 = .ok (.iload_n 1, 1) := by decide +kernel
theorem dX14_tagName_65 : decode cX14_tagName 65 = .ok (.aload_n 0, 1) := by decide +kernel
theorem dX14_tagName_66 : decode cX14_tagName 66 = .ok (.getfield 548, 3) := by decide +kernel
theorem dX14_tagName_69 : decode cX14_tagName 69 = .ok (.isub, 1) := by decide +kernel
theorem dX14_tagName_70 : decode cX14_tagName 70 = .ok (.bipush 16, 2) := by decide +kernel
theorem dX14_tagName_72 : decode cX14_tagName 72 = .ok (.if_icmp .le 12, 3) := by decide +kernel
theorem dX14_tagName_75 : decode cX14_tagName 75 = .ok (.aload_n 0, 1) := by decide +kernel
theorem dX14_tagName_76 : decode cX14_tagName 76 = .ok (.iconst 2, 1) := by decide +kernel
theorem dX14_tagName_77 : decode cX14_tagName 77 = .ok (.aload_n 0, 1) := by decide +kernel
theorem dX14_tagName_78 : decode cX14_tagName 78 = .ok (.invokevirtual 572, 3) := by decide +kernel
theorem dX14_tagName_81 : decode cX14_tagName 81 = .ok (.invokevirtual 280, 3) := by decide +kernel
theorem dX14_tagName_11 : decode cX14_tagName 11 = .ok (.iconst 0, 1) := by decide +kernel
theorem dX14_tagName_12 : decode cX14_tagName 12 = .ok (.ireturn, 1) := by decide +kernel
def pre_X13_isName (σ : rS) (k : Nat) (x1 : Int) (p2 n2 : Nat) (x3 : Int) (x4 : Int) : Prop := 0 ≤ x1 ∧ x1 < 17000 ∧ 0 ≤ x3 ∧ 0 ≤ x4 ∧ x3 + x4 ≤ n2 ∧ n2 ≤ 100000 ∧ 0 ≤ (rA σ (1000 * (k + 1) + 10) (x1)) ∧ (rA σ (1000 * (k + 1) + 10) (x1)) + (rA σ (1000 * (k + 1) + 11) (x1)) ≤ 60000
def post_X13_isName (σ : rS) (k : Nat) (x1 : Int) (p2 n2 : Nat) (x3 : Int) (x4 : Int) (r : Int) : Prop := r = 0 ∨ r = 1
def inv_X13_isName_21 (σ : rS) (k : Nat) (x1 : Int) (p2 n2 : Nat) (x3 : Int) (x4 : Int)  (s : rS) (b : Int) (i : Int) : Prop := 0 ≤ i ∧ (i ≤ x4) ∧ (b = 0 ∨ b = 1) ∧ (b = 1 → (rA σ (1000 * (k + 1) + 11) (x1)) = x4)
def mu_X13_isName_21 (σ : rS) (k : Nat) (x1 : Int) (p2 n2 : Nat) (x3 : Int) (x4 : Int) (s : rS) (b : Int) (i : Int) : Nat := (1 + (x4 - i).toNat)
def VC_X13_isName (σ : rS) (k : Nat) (x1 : Int) (p2 n2 : Nat) (x3 : Int) (x4 : Int) (Q : Int → Prop) : Prop := (0 ≤ x1 ∧ x1 < 17000) ∧ (rng (rA σ (1000 * (k + 1) + 11) x1) → ((¬ (rA σ (1000 * (k + 1) + 11) x1) = x4 → (inv_X13_isName_21 σ k x1 p2 n2 x3 x4 σ 0 0)) ∧ ((rA σ (1000 * (k + 1) + 11) x1) = x4 → (inv_X13_isName_21 σ k x1 p2 n2 x3 x4 σ 1 0))))
def VC_X13_isName_21 (σ : rS) (k : Nat) (x1 : Int) (p2 n2 : Nat) (x3 : Int) (x4 : Int) (Q : Int → Prop) : Prop := ∀ (y11 : Int) (y12 : Int), rng y11 → rng y12 → inv_X13_isName_21 σ k x1 p2 n2 x3 x4 σ y11 y12 → (((x4 ≤ y12 → (y11 = 0 ∨ y11 = 1) ∧ Q y11) ∧ (¬ x4 ≤ y12 → ((y11 = 0 → (y11 = 0 ∨ y11 = 1) ∧ Q y11) ∧ (¬ y11 = 0 → (0 ≤ x1 ∧ x1 < 17000) ∧ (rng (rA σ (1000 * (k + 1) + 10) x1) → (0 ≤ ((rA σ (1000 * (k + 1) + 10) x1) + y12) ∧ ((rA σ (1000 * (k + 1) + 10) x1) + y12) < 60000) ∧ (rng (rA σ (1000 * (k + 1) + 8) ((rA σ (1000 * (k + 1) + 10) x1) + y12)) → (0 ≤ (x3 + y12) ∧ (x3 + y12) < n2) ∧ (rng (rA σ p2 (x3 + y12)) → ((¬ (rA σ (1000 * (k + 1) + 8) ((rA σ (1000 * (k + 1) + 10) x1) + y12)) = (rA σ p2 (x3 + y12)) → rng (y12 + 1) ∧ (inv_X13_isName_21 σ k x1 p2 n2 x3 x4 σ 0 (y12 + 1) ∧ (mu_X13_isName_21 σ k x1 p2 n2 x3 x4 σ 0 (y12 + 1)) < (mu_X13_isName_21 σ k x1 p2 n2 x3 x4 σ y11 y12))) ∧ ((rA σ (1000 * (k + 1) + 8) ((rA σ (1000 * (k + 1) + 10) x1) + y12)) = (rA σ p2 (x3 + y12)) → rng (y12 + 1) ∧ (inv_X13_isName_21 σ k x1 p2 n2 x3 x4 σ 1 (y12 + 1) ∧ (mu_X13_isName_21 σ k x1 p2 n2 x3 x4 σ 1 (y12 + 1)) < (mu_X13_isName_21 σ k x1 p2 n2 x3 x4 σ y11 y12))))))))))))
def VC_X13_isName_21m (σ : rS) (k : Nat) (x1 : Int) (p2 n2 : Nat) (x3 : Int) (x4 : Int) : Prop := ∀ (y11 : Int) (y12 : Int), rng y11 → rng y12 → inv_X13_isName_21 σ k x1 p2 n2 x3 x4 σ y11 y12 → 0 < (mu_X13_isName_21 σ k x1 p2 n2 x3 x4 σ y11 y12)
set_option maxHeartbeats 400000 in
theorem vX13_isName (σ : rS) (k : Nat) (x1 : Int) (p2 n2 : Nat) (x3 : Int) (x4 : Int) (hwf : rWF σ) (hk : rgk k) (hx1 : rng x1) (ha2 : rAr 3 n2 p2) (hx3 : rng x3) (hx4 : rng x4) (hp : pre_X13_isName σ k x1 p2 n2 x3 x4) : VC_X13_isName σ k x1 p2 n2 x3 x4 (post_X13_isName σ k x1 p2 n2 x3 x4) := by
  simp only [VC_X13_isName, pre_X13_isName, post_X13_isName, inv_X13_isName_21, mu_X13_isName_21, rng, rfk, rNMp, rF_sF, rF_sA, rF_sL, rF_sR, rA_sA, rA_sF, rA_sL, rA_sR, rR_sF, rR_sA, rR_sL, rR_sR, reduceIte, and_true, true_and, and_false, false_and, and_self] at *
  (repeat' (first | with_reducible intro _ | with_reducible apply And.intro))
  all_goals (first | assumption | omega | grind (splits := 20) [rNM_sF0])
set_option maxHeartbeats 400000 in
theorem vX13_isName_21 (σ : rS) (k : Nat) (x1 : Int) (p2 n2 : Nat) (x3 : Int) (x4 : Int) (hwf : rWF σ) (hk : rgk k) (hx1 : rng x1) (ha2 : rAr 3 n2 p2) (hx3 : rng x3) (hx4 : rng x4) (hp : pre_X13_isName σ k x1 p2 n2 x3 x4) : VC_X13_isName_21 σ k x1 p2 n2 x3 x4 (post_X13_isName σ k x1 p2 n2 x3 x4) := by
  simp only [VC_X13_isName_21, pre_X13_isName, post_X13_isName, inv_X13_isName_21, mu_X13_isName_21, rng, rfk, rNMp, rF_sF, rF_sA, rF_sL, rF_sR, rA_sA, rA_sF, rA_sL, rA_sR, rR_sF, rR_sA, rR_sL, rR_sR, reduceIte, and_true, true_and, and_false, false_and, and_self] at *
  (repeat' (first | with_reducible intro _ | with_reducible apply And.intro))
  all_goals (first | assumption | omega | grind (splits := 20) [rNM_sF0])
set_option maxHeartbeats 400000 in
theorem vX13_isName_21m (σ : rS) (k : Nat) (x1 : Int) (p2 n2 : Nat) (x3 : Int) (x4 : Int) (hwf : rWF σ) (hk : rgk k) (hx1 : rng x1) (ha2 : rAr 3 n2 p2) (hx3 : rng x3) (hx4 : rng x4) (hp : pre_X13_isName σ k x1 p2 n2 x3 x4) : VC_X13_isName_21m σ k x1 p2 n2 x3 x4 := by
  simp only [VC_X13_isName_21m, pre_X13_isName, post_X13_isName, inv_X13_isName_21, mu_X13_isName_21, rng, rfk, rNMp, rF_sF, rF_sA, rF_sL, rF_sR, rA_sA, rA_sF, rA_sL, rA_sR, rR_sF, rR_sA, rR_sL, rR_sR, reduceIte, and_true, true_and, and_false, false_and, and_self] at *
  (repeat' (first | with_reducible intro _ | with_reducible apply And.intro))
  all_goals (first | assumption | omega | grind (splits := 20) [rNM_sF0])
theorem wX13_isName (l : Launch) (G : zG) (κ : Nat → Nat) (σ : rS) (k : Nat) (x1 : Int) (p2 n2 : Nat) (x3 : Int) (x4 : Int) (hwf : rWF σ) (hk : rgk k) (hx1 : rng x1) (ha2 : rAr 3 n2 p2) (hx3 : rng x3) (hx4 : rng x4) (Q : Int → Prop) (h : VC_X13_isName σ k x1 p2 n2 x3 x4 Q) (h_21 : VC_X13_isName_21 σ k x1 p2 n2 x3 x4 Q) (h_21m : VC_X13_isName_21m σ k x1 p2 n2 x3 x4) : rMi l G κ yX13_isName cX13_isName 7 .boolean 1 0 [.ref (κ k), iv x1, .ref (κ p2), iv x3, iv x4] σ (fun x s => s = σ ∧ Q x) := by
  refine zMi.intro (by decide +kernel) (Nat.le_of_ble_eq_true rfl) (fun X hC hR => ?_)
  refine z_aload_n hC (pc := 0) 0 dX13_isName_0 rfl rfl ?_
  refine y_get hC (pc := 1) zf13 (rOb_k hk) 11 (v := .ref (κ (1000 * (k + 1) + 11))) dX13_isName_1 zw2331 (rv_c rfl) (kk := ?_)
  refine z_iload_n hC (pc := 4) 1 dX13_isName_4 rfl rfl ?_
  obtain ⟨b10, h⟩ := h
  refine y_iald hC (pc := 5) (rAr_k hk rfl rfl) dX13_isName_5 b10 (v := (rA σ (1000 * (k + 1) + 11) x1)) rfl (kk := ?_)
  have h := h (hwf.a _ _)
  refine z_iload hC (pc := 6) 4 dX13_isName_6 rfl ?_
  obtain ⟨hT, hF⟩ := h
  refine y_icmp_ne hC (pc := 8) 15 (hwf.a _ _) hx4 dX13_isName_8 (by decide) (fun c => ?_) (fun c => ?_)
  · have h := hT c
    refine z_iconst hC (pc := 15) (v := Int32.ofInt 0) dX13_isName_15 (by decide) ?_
    refine z_istore hC (pc := 16) (lv' := [(5, iv 0), (0, .ref (κ k)), (1, iv x1), (2, .ref (κ p2)), (3, iv x3), (4, iv x4)]) dX13_isName_16 (by decide) rfl ?_
    refine z_iconst hC (pc := 18) (v := Int32.ofInt 0) dX13_isName_18 (by decide) ?_
    refine z_istore hC (pc := 19) (lv' := [(6, iv 0), (5, iv 0), (0, .ref (κ k)), (1, iv x1), (2, .ref (κ p2)), (3, iv x3), (4, iv x4)]) dX13_isName_19 (by decide) rfl ?_
    have j21 : ∀ (d21 : Nat), ∀ (y11 : Int) (y12 : Int), rng y11 → rng y12 → inv_X13_isName_21 σ k x1 p2 n2 x3 x4 σ y11 y12 → (mu_X13_isName_21 σ k x1 p2 n2 x3 x4 σ y11 y12) ≤ d21 → zS X G 7 (rW G κ σ) [(0, .ref (κ k)), (1, iv x1), (2, .ref (κ p2)), (3, iv x3), (4, iv x4), (5, iv y11), (6, iv y12)] 0 0 21 [] := by
      intro d21
      induction d21 with
      | zero =>
        intro y11 y12 hy11 hy12 hI hmu
        exact absurd hmu (by have := h_21m   y11 y12  hy11 hy12  hI; omega)
      | succ d21 ih21 =>
        intro y11 y12 hy11 hy12 hI hmu21
        have h := h_21   y11 y12  hy11 hy12  hI
        refine z_iload hC (pc := 21) 6 dX13_isName_21 rfl ?_
        refine z_iload hC (pc := 23) 4 dX13_isName_23 rfl ?_
        obtain ⟨hT, hF⟩ := h
        refine y_icmp_ge hC (pc := 25) 69 hy12 hx4 dX13_isName_25 (by decide) (fun c => ?_) (fun c => ?_)
        · have h := hT c
          refine z_iload hC (pc := 69) 5 dX13_isName_69 rfl ?_
          obtain ⟨z13, h⟩ := h
          exact y_reti hR dX13_isName_71 (r_nZ z13) hy11 hwf (Nat.le_of_ble_eq_true rfl) (Nat.le_of_ble_eq_true rfl) ⟨rfl, h⟩
        · have h := hF c
          refine z_iload hC (pc := 28) 5 dX13_isName_28 rfl ?_
          obtain ⟨hT, hF⟩ := h
          refine y_if_eq hC (pc := 30) 69 hy11 dX13_isName_30 (by decide) (fun c => ?_) (fun c => ?_)
          · have h := hT c
            refine z_iload hC (pc := 69) 5 dX13_isName_69 rfl ?_
            obtain ⟨z14, h⟩ := h
            exact y_reti hR dX13_isName_71 (r_nZ z14) hy11 hwf (Nat.le_of_ble_eq_true rfl) (Nat.le_of_ble_eq_true rfl) ⟨rfl, h⟩
          · have h := hF c
            refine z_aload_n hC (pc := 33) 0 dX13_isName_33 rfl rfl ?_
            refine y_get hC (pc := 34) zf13 (rOb_k hk) 8 (v := .ref (κ (1000 * (k + 1) + 8))) dX13_isName_34 zw2325 (rv_c rfl) (kk := ?_)
            refine z_aload_n hC (pc := 37) 0 dX13_isName_37 rfl rfl ?_
            refine y_get hC (pc := 38) zf13 (rOb_k hk) 10 (v := .ref (κ (1000 * (k + 1) + 10))) dX13_isName_38 zw2329 (rv_c rfl) (kk := ?_)
            refine z_iload_n hC (pc := 41) 1 dX13_isName_41 rfl rfl ?_
            obtain ⟨b15, h⟩ := h
            refine y_iald hC (pc := 42) (rAr_k hk rfl rfl) dX13_isName_42 b15 (v := (rA σ (1000 * (k + 1) + 10) x1)) rfl (kk := ?_)
            have h := h (hwf.a _ _)
            refine z_iload hC (pc := 43) 6 dX13_isName_43 rfl ?_
            refine y_iadd hC (pc := 45) (v := ((rA σ (1000 * (k + 1) + 10) x1) + y12)) dX13_isName_45 rfl ?_
            obtain ⟨b16, h⟩ := h
            refine y_bald hC (pc := 46) (rAr_k hk rfl rfl) dX13_isName_46 b16 (v := (rA σ (1000 * (k + 1) + 8) ((rA σ (1000 * (k + 1) + 10) x1) + y12))) rfl (kk := ?_)
            have h := h (hwf.a _ _)
            refine z_aload_n hC (pc := 47) 2 dX13_isName_47 rfl rfl ?_
            refine z_iload_n hC (pc := 48) 3 dX13_isName_48 rfl rfl ?_
            refine z_iload hC (pc := 49) 6 dX13_isName_49 rfl ?_
            refine y_iadd hC (pc := 51) (v := (x3 + y12)) dX13_isName_51 rfl ?_
            obtain ⟨b17, h⟩ := h
            refine y_bald hC (pc := 52) ha2 dX13_isName_52 b17 (v := (rA σ p2 (x3 + y12))) rfl (kk := ?_)
            have h := h (hwf.a _ _)
            obtain ⟨hT, hF⟩ := h
            refine y_icmp_ne hC (pc := 53) 60 (hwf.a _ _) (hwf.a _ _) dX13_isName_53 (by decide) (fun c => ?_) (fun c => ?_)
            · have h := hT c
              refine z_iconst hC (pc := 60) (v := Int32.ofInt 0) dX13_isName_60 (by decide) ?_
              refine z_istore hC (pc := 61) (lv' := [(5, iv 0), (0, .ref (κ k)), (1, iv x1), (2, .ref (κ p2)), (3, iv x3), (4, iv x4), (6, iv y12)]) dX13_isName_61 (by decide) rfl ?_
              refine y_iinc hC (pc := 63) (v := (y12 + 1)) (lv' := [(6, iv (y12 + 1)), (5, iv 0), (0, .ref (κ k)), (1, iv x1), (2, .ref (κ p2)), (3, iv x3), (4, iv x4)]) 6 dX13_isName_63 rfl rfl (by decide) rfl ?_
              refine z_goto hC (pc := 66) 21 dX13_isName_66 (by decide) ?_
              refine z_lvs [2, 3, 4, 5, 6, 1, 0] rfl ?_
              obtain ⟨r18, h⟩ := h
              obtain ⟨hI, hm⟩ := h
              exact ih21  0 (y12 + 1)  (r_lit rfl) r18  hI (by omega)
            · have h := hF c
              refine z_iconst hC (pc := 56) (v := Int32.ofInt 1) dX13_isName_56 (by decide) ?_
              refine z_goto hC (pc := 57) 61 dX13_isName_57 (by decide) ?_
              refine z_istore hC (pc := 61) (lv' := [(5, iv 1), (0, .ref (κ k)), (1, iv x1), (2, .ref (κ p2)), (3, iv x3), (4, iv x4), (6, iv y12)]) dX13_isName_61 (by decide) rfl ?_
              refine y_iinc hC (pc := 63) (v := (y12 + 1)) (lv' := [(6, iv (y12 + 1)), (5, iv 1), (0, .ref (κ k)), (1, iv x1), (2, .ref (κ p2)), (3, iv x3), (4, iv x4)]) 6 dX13_isName_63 rfl rfl (by decide) rfl ?_
              refine z_goto hC (pc := 66) 21 dX13_isName_66 (by decide) ?_
              refine z_lvs [2, 3, 4, 5, 6, 1, 0] rfl ?_
              obtain ⟨r19, h⟩ := h
              obtain ⟨hI, hm⟩ := h
              exact ih21  1 (y12 + 1)  (r_lit rfl) r19  hI (by omega)
    refine z_lvs [2, 3, 4, 5, 6, 1, 0] rfl ?_
    exact j21 _  0 0  (r_lit rfl) (r_lit rfl)  h (Nat.le_refl _)
  · have h := hF c
    refine z_iconst hC (pc := 11) (v := Int32.ofInt 1) dX13_isName_11 (by decide) ?_
    refine z_goto hC (pc := 12) 16 dX13_isName_12 (by decide) ?_
    refine z_istore hC (pc := 16) (lv' := [(5, iv 1), (0, .ref (κ k)), (1, iv x1), (2, .ref (κ p2)), (3, iv x3), (4, iv x4)]) dX13_isName_16 (by decide) rfl ?_
    refine z_iconst hC (pc := 18) (v := Int32.ofInt 0) dX13_isName_18 (by decide) ?_
    refine z_istore hC (pc := 19) (lv' := [(6, iv 0), (5, iv 1), (0, .ref (κ k)), (1, iv x1), (2, .ref (κ p2)), (3, iv x3), (4, iv x4)]) dX13_isName_19 (by decide) rfl ?_
    have j21 : ∀ (d21 : Nat), ∀ (y20 : Int) (y21 : Int), rng y20 → rng y21 → inv_X13_isName_21 σ k x1 p2 n2 x3 x4 σ y20 y21 → (mu_X13_isName_21 σ k x1 p2 n2 x3 x4 σ y20 y21) ≤ d21 → zS X G 7 (rW G κ σ) [(0, .ref (κ k)), (1, iv x1), (2, .ref (κ p2)), (3, iv x3), (4, iv x4), (5, iv y20), (6, iv y21)] 0 0 21 [] := by
      intro d21
      induction d21 with
      | zero =>
        intro y20 y21 hy20 hy21 hI hmu
        exact absurd hmu (by have := h_21m   y20 y21  hy20 hy21  hI; omega)
      | succ d21 ih21 =>
        intro y20 y21 hy20 hy21 hI hmu21
        have h := h_21   y20 y21  hy20 hy21  hI
        refine z_iload hC (pc := 21) 6 dX13_isName_21 rfl ?_
        refine z_iload hC (pc := 23) 4 dX13_isName_23 rfl ?_
        obtain ⟨hT, hF⟩ := h
        refine y_icmp_ge hC (pc := 25) 69 hy21 hx4 dX13_isName_25 (by decide) (fun c => ?_) (fun c => ?_)
        · have h := hT c
          refine z_iload hC (pc := 69) 5 dX13_isName_69 rfl ?_
          obtain ⟨z22, h⟩ := h
          exact y_reti hR dX13_isName_71 (r_nZ z22) hy20 hwf (Nat.le_of_ble_eq_true rfl) (Nat.le_of_ble_eq_true rfl) ⟨rfl, h⟩
        · have h := hF c
          refine z_iload hC (pc := 28) 5 dX13_isName_28 rfl ?_
          obtain ⟨hT, hF⟩ := h
          refine y_if_eq hC (pc := 30) 69 hy20 dX13_isName_30 (by decide) (fun c => ?_) (fun c => ?_)
          · have h := hT c
            refine z_iload hC (pc := 69) 5 dX13_isName_69 rfl ?_
            obtain ⟨z23, h⟩ := h
            exact y_reti hR dX13_isName_71 (r_nZ z23) hy20 hwf (Nat.le_of_ble_eq_true rfl) (Nat.le_of_ble_eq_true rfl) ⟨rfl, h⟩
          · have h := hF c
            refine z_aload_n hC (pc := 33) 0 dX13_isName_33 rfl rfl ?_
            refine y_get hC (pc := 34) zf13 (rOb_k hk) 8 (v := .ref (κ (1000 * (k + 1) + 8))) dX13_isName_34 zw2325 (rv_c rfl) (kk := ?_)
            refine z_aload_n hC (pc := 37) 0 dX13_isName_37 rfl rfl ?_
            refine y_get hC (pc := 38) zf13 (rOb_k hk) 10 (v := .ref (κ (1000 * (k + 1) + 10))) dX13_isName_38 zw2329 (rv_c rfl) (kk := ?_)
            refine z_iload_n hC (pc := 41) 1 dX13_isName_41 rfl rfl ?_
            obtain ⟨b24, h⟩ := h
            refine y_iald hC (pc := 42) (rAr_k hk rfl rfl) dX13_isName_42 b24 (v := (rA σ (1000 * (k + 1) + 10) x1)) rfl (kk := ?_)
            have h := h (hwf.a _ _)
            refine z_iload hC (pc := 43) 6 dX13_isName_43 rfl ?_
            refine y_iadd hC (pc := 45) (v := ((rA σ (1000 * (k + 1) + 10) x1) + y21)) dX13_isName_45 rfl ?_
            obtain ⟨b25, h⟩ := h
            refine y_bald hC (pc := 46) (rAr_k hk rfl rfl) dX13_isName_46 b25 (v := (rA σ (1000 * (k + 1) + 8) ((rA σ (1000 * (k + 1) + 10) x1) + y21))) rfl (kk := ?_)
            have h := h (hwf.a _ _)
            refine z_aload_n hC (pc := 47) 2 dX13_isName_47 rfl rfl ?_
            refine z_iload_n hC (pc := 48) 3 dX13_isName_48 rfl rfl ?_
            refine z_iload hC (pc := 49) 6 dX13_isName_49 rfl ?_
            refine y_iadd hC (pc := 51) (v := (x3 + y21)) dX13_isName_51 rfl ?_
            obtain ⟨b26, h⟩ := h
            refine y_bald hC (pc := 52) ha2 dX13_isName_52 b26 (v := (rA σ p2 (x3 + y21))) rfl (kk := ?_)
            have h := h (hwf.a _ _)
            obtain ⟨hT, hF⟩ := h
            refine y_icmp_ne hC (pc := 53) 60 (hwf.a _ _) (hwf.a _ _) dX13_isName_53 (by decide) (fun c => ?_) (fun c => ?_)
            · have h := hT c
              refine z_iconst hC (pc := 60) (v := Int32.ofInt 0) dX13_isName_60 (by decide) ?_
              refine z_istore hC (pc := 61) (lv' := [(5, iv 0), (0, .ref (κ k)), (1, iv x1), (2, .ref (κ p2)), (3, iv x3), (4, iv x4), (6, iv y21)]) dX13_isName_61 (by decide) rfl ?_
              refine y_iinc hC (pc := 63) (v := (y21 + 1)) (lv' := [(6, iv (y21 + 1)), (5, iv 0), (0, .ref (κ k)), (1, iv x1), (2, .ref (κ p2)), (3, iv x3), (4, iv x4)]) 6 dX13_isName_63 rfl rfl (by decide) rfl ?_
              refine z_goto hC (pc := 66) 21 dX13_isName_66 (by decide) ?_
              refine z_lvs [2, 3, 4, 5, 6, 1, 0] rfl ?_
              obtain ⟨r27, h⟩ := h
              obtain ⟨hI, hm⟩ := h
              exact ih21  0 (y21 + 1)  (r_lit rfl) r27  hI (by omega)
            · have h := hF c
              refine z_iconst hC (pc := 56) (v := Int32.ofInt 1) dX13_isName_56 (by decide) ?_
              refine z_goto hC (pc := 57) 61 dX13_isName_57 (by decide) ?_
              refine z_istore hC (pc := 61) (lv' := [(5, iv 1), (0, .ref (κ k)), (1, iv x1), (2, .ref (κ p2)), (3, iv x3), (4, iv x4), (6, iv y21)]) dX13_isName_61 (by decide) rfl ?_
              refine y_iinc hC (pc := 63) (v := (y21 + 1)) (lv' := [(6, iv (y21 + 1)), (5, iv 1), (0, .ref (κ k)), (1, iv x1), (2, .ref (κ p2)), (3, iv x3), (4, iv x4)]) 6 dX13_isName_63 rfl rfl (by decide) rfl ?_
              refine z_goto hC (pc := 66) 21 dX13_isName_66 (by decide) ?_
              refine z_lvs [2, 3, 4, 5, 6, 1, 0] rfl ?_
              obtain ⟨r28, h⟩ := h
              obtain ⟨hI, hm⟩ := h
              exact ih21  1 (y21 + 1)  (r_lit rfl) r28  hI (by omega)
    refine z_lvs [2, 3, 4, 5, 6, 1, 0] rfl ?_
    exact j21 _  1 0  (r_lit rfl) (r_lit rfl)  h (Nat.le_refl _)
theorem kX13_isName (l : Launch) (G : zG) (κ : Nat → Nat) (σ : rS) (k : Nat) (x1 : Int) (p2 n2 : Nat) (x3 : Int) (x4 : Int) (hwf : rWF σ) (hk : rgk k) (hx1 : rng x1) (ha2 : rAr 3 n2 p2) (hx3 : rng x3) (hx4 : rng x4) (hp : pre_X13_isName σ k x1 p2 n2 x3 x4) : rMi l G κ yX13_isName cX13_isName 7 .boolean 1 0 [.ref (κ k), iv x1, .ref (κ p2), iv x3, iv x4] σ (fun x s => s = σ ∧ post_X13_isName σ k x1 p2 n2 x3 x4 x) := wX13_isName l G κ σ k x1 p2 n2 x3 x4 hwf hk hx1 ha2 hx3 hx4 (post_X13_isName σ k x1 p2 n2 x3 x4) (vX13_isName σ k x1 p2 n2 x3 x4 hwf hk hx1 ha2 hx3 hx4 hp) (vX13_isName_21 σ k x1 p2 n2 x3 x4 hwf hk hx1 ha2 hx3 hx4 hp) (vX13_isName_21m σ k x1 p2 n2 x3 x4 hwf hk hx1 ha2 hx3 hx4 hp)
def pre_X13_name (σ : rS) (k : Nat) (p1 n1 : Nat) (x2 : Int) (x3 : Int) : Prop := rNM σ k ∧ (rF σ k 12) < 17000 ∧ (rF σ k 9) + x3 ≤ 60000 ∧ 0 ≤ x3 ∧ 0 ≤ x2 ∧ x2 + x3 ≤ n1 ∧ n1 ≤ 100000
def post_X13_name (σ : rS) (k : Nat) (p1 n1 : Nat) (x2 : Int) (x3 : Int) (r : Int) (σ' : rS) : Prop := rNM σ' k ∧ 0 ≤ r ∧ r < rF σ' k 12 ∧ rF σ k 12 ≤ rF σ' k 12 ∧ rF σ' k 12 ≤ rF σ k 12 + 1 ∧ rF σ k 9 ≤ rF σ' k 9 ∧ rF σ' k 9 ≤ rF σ k 9 + x3
def inv_X13_name_3 (σ : rS) (k : Nat) (p1 n1 : Nat) (x2 : Int) (x3 : Int)  (s : rS) (kk : Int) : Prop := 0 ≤ kk ∧ kk ≤ (rF σ k 12) ∧ rF s k 12 = rF σ k 12 ∧ rF s k 9 = rF σ k 9 ∧ (∀ j, rA s (1000 * (k + 1) + 10) j = rA σ (1000 * (k + 1) + 10) j ∧ rA s (1000 * (k + 1) + 11) j = rA σ (1000 * (k + 1) + 11) j)
def mu_X13_name_3 (σ : rS) (k : Nat) (p1 n1 : Nat) (x2 : Int) (x3 : Int) (s : rS) (kk : Int) : Nat := (1 + (17000 - kk).toNat)
def inv_X13_name_59 (σ : rS) (k : Nat) (p1 n1 : Nat) (x2 : Int) (x3 : Int)  (s : rS) (i : Int) : Prop := 0 ≤ i ∧ i ≤ x3 ∧ rF s k 12 = rF σ k 12 ∧ rF s k 9 = rF σ k 9 ∧ rA s (1000 * (k + 1) + 10) (rF σ k 12) = rF σ k 9 ∧ rA s (1000 * (k + 1) + 11) (rF σ k 12) = x3 ∧ (∀ j, j ≠ rF σ k 12 → rA s (1000 * (k + 1) + 10) j = rA σ (1000 * (k + 1) + 10) j ∧ rA s (1000 * (k + 1) + 11) j = rA σ (1000 * (k + 1) + 11) j)
def mu_X13_name_59 (σ : rS) (k : Nat) (p1 n1 : Nat) (x2 : Int) (x3 : Int) (s : rS) (i : Int) : Nat := (1 + (x3 - i).toNat)
def VC_X13_name (σ : rS) (k : Nat) (p1 n1 : Nat) (x2 : Int) (x3 : Int) (Q : Int → rS → Prop) : Prop := (inv_X13_name_3 σ k p1 n1 x2 x3 σ 0)
def VC_X13_name_59 (σ : rS) (k : Nat) (p1 n1 : Nat) (x2 : Int) (x3 : Int) (Q : Int → rS → Prop) : Prop := ∀ (s16 : rS) (y17 : Int), rWF s16 → rng y17 → inv_X13_name_59 σ k p1 n1 x2 x3 s16 y17 → (((x3 ≤ y17 → (rng (rF s16 k 9) → rng ((rF s16 k 9) + x3) ∧ (rng (rF s16 k 12) → rng ((rF s16 k 12) + 1) ∧ rng (((rF s16 k 12) + 1) - 1) ∧ Q (((rF s16 k 12) + 1) - 1) (sF (sF s16 k 9 ((rF s16 k 9) + x3)) k 12 ((rF s16 k 12) + 1))))) ∧ (¬ x3 ≤ y17 → (rng (rF s16 k 9) → (0 ≤ (x2 + y17) ∧ (x2 + y17) < n1) ∧ (rng (rA s16 p1 (x2 + y17)) → (0 ≤ ((rF s16 k 9) + y17) ∧ ((rF s16 k 9) + y17) < 60000) ∧ rng (y17 + 1) ∧ (inv_X13_name_59 σ k p1 n1 x2 x3 (sA s16 (1000 * (k + 1) + 8) ((rF s16 k 9) + y17) (inar .byte (rA s16 p1 (x2 + y17)))) (y17 + 1) ∧ (mu_X13_name_59 σ k p1 n1 x2 x3 (sA s16 (1000 * (k + 1) + 8) ((rF s16 k 9) + y17) (inar .byte (rA s16 p1 (x2 + y17)))) (y17 + 1)) < (mu_X13_name_59 σ k p1 n1 x2 x3 s16 y17)))))))
def VC_X13_name_59m (σ : rS) (k : Nat) (p1 n1 : Nat) (x2 : Int) (x3 : Int) : Prop := ∀ (s16 : rS) (y17 : Int), rWF s16 → rng y17 → inv_X13_name_59 σ k p1 n1 x2 x3 s16 y17 → 0 < (mu_X13_name_59 σ k p1 n1 x2 x3 s16 y17)
def VC_X13_name_3 (σ : rS) (k : Nat) (p1 n1 : Nat) (x2 : Int) (x3 : Int) (Q : Int → rS → Prop) : Prop := ∀ (s10 : rS) (y11 : Int), rWF s10 → rng y11 → inv_X13_name_3 σ k p1 n1 x2 x3 s10 y11 → ((rng (rF s10 k 12) → (((rF s10 k 12) ≤ y11 → (rng (rF s10 k 9) → (0 ≤ (rF s10 k 12) ∧ (rF s10 k 12) < 17000) ∧ (0 ≤ (rF s10 k 12) ∧ (rF s10 k 12) < 17000) ∧ (inv_X13_name_59 σ k p1 n1 x2 x3 (sA (sA s10 (1000 * (k + 1) + 10) (rF s10 k 12) (rF s10 k 9)) (1000 * (k + 1) + 11) (rF s10 k 12) x3) 0))) ∧ (¬ (rF s10 k 12) ≤ y11 → pre_X13_isName s10 k y11 p1 n1 x2 x3 ∧ (∀ (x29 : Int), rng x29 → post_X13_isName s10 k y11 p1 n1 x2 x3 x29 → ((x29 = 0 → rng (y11 + 1) ∧ (inv_X13_name_3 σ k p1 n1 x2 x3 s10 (y11 + 1) ∧ (mu_X13_name_3 σ k p1 n1 x2 x3 s10 (y11 + 1)) < (mu_X13_name_3 σ k p1 n1 x2 x3 s10 y11))) ∧ (¬ x29 = 0 → Q y11 s10)))))))
def VC_X13_name_3m (σ : rS) (k : Nat) (p1 n1 : Nat) (x2 : Int) (x3 : Int) : Prop := ∀ (s10 : rS) (y11 : Int), rWF s10 → rng y11 → inv_X13_name_3 σ k p1 n1 x2 x3 s10 y11 → 0 < (mu_X13_name_3 σ k p1 n1 x2 x3 s10 y11)
set_option maxHeartbeats 400000 in
theorem vX13_name (σ : rS) (k : Nat) (p1 n1 : Nat) (x2 : Int) (x3 : Int) (hwf : rWF σ) (hk : rgk k) (ha1 : rAr 3 n1 p1) (hx2 : rng x2) (hx3 : rng x3) (hp : pre_X13_name σ k p1 n1 x2 x3) : VC_X13_name σ k p1 n1 x2 x3 (post_X13_name σ k p1 n1 x2 x3) := by
  simp only [VC_X13_name, pre_X13_name, post_X13_name, inv_X13_name_3, inv_X13_name_59, mu_X13_name_3, mu_X13_name_59, pre_X13_isName, post_X13_isName, rNM, rng, rfk, rNMp, rF_sF, rF_sA, rF_sL, rF_sR, rA_sA, rA_sF, rA_sL, rA_sR, rR_sF, rR_sA, rR_sL, rR_sR, reduceIte, and_true, true_and, and_false, false_and, and_self] at *
  (repeat' (first | with_reducible intro _ | with_reducible apply And.intro))
  all_goals (first | assumption | omega | grind (splits := 20) [rNM_sF0])
set_option maxHeartbeats 400000 in
theorem vX13_name_59 (σ : rS) (k : Nat) (p1 n1 : Nat) (x2 : Int) (x3 : Int) (hwf : rWF σ) (hk : rgk k) (ha1 : rAr 3 n1 p1) (hx2 : rng x2) (hx3 : rng x3) (hp : pre_X13_name σ k p1 n1 x2 x3) : VC_X13_name_59 σ k p1 n1 x2 x3 (post_X13_name σ k p1 n1 x2 x3) := by
  simp only [VC_X13_name_59, pre_X13_name, post_X13_name, inv_X13_name_3, inv_X13_name_59, mu_X13_name_3, mu_X13_name_59, pre_X13_isName, post_X13_isName, rNM, rng, rfk, rNMp, rF_sF, rF_sA, rF_sL, rF_sR, rA_sA, rA_sF, rA_sL, rA_sR, rR_sF, rR_sA, rR_sL, rR_sR, reduceIte, and_true, true_and, and_false, false_and, and_self] at *
  (repeat' (first | with_reducible intro _ | with_reducible apply And.intro))
  all_goals (first | assumption | omega | grind (splits := 20) [rNM_sF0])
set_option maxHeartbeats 400000 in
theorem vX13_name_59m (σ : rS) (k : Nat) (p1 n1 : Nat) (x2 : Int) (x3 : Int) (hwf : rWF σ) (hk : rgk k) (ha1 : rAr 3 n1 p1) (hx2 : rng x2) (hx3 : rng x3) (hp : pre_X13_name σ k p1 n1 x2 x3) : VC_X13_name_59m σ k p1 n1 x2 x3 := by
  simp only [VC_X13_name_59m, pre_X13_name, post_X13_name, inv_X13_name_3, inv_X13_name_59, mu_X13_name_3, mu_X13_name_59, pre_X13_isName, post_X13_isName, rNM, rng, rfk, rNMp, rF_sF, rF_sA, rF_sL, rF_sR, rA_sA, rA_sF, rA_sL, rA_sR, rR_sF, rR_sA, rR_sL, rR_sR, reduceIte, and_true, true_and, and_false, false_and, and_self] at *
  (repeat' (first | with_reducible intro _ | with_reducible apply And.intro))
  all_goals (first | assumption | omega | grind (splits := 20) [rNM_sF0])
set_option maxHeartbeats 400000 in
theorem vX13_name_3 (σ : rS) (k : Nat) (p1 n1 : Nat) (x2 : Int) (x3 : Int) (hwf : rWF σ) (hk : rgk k) (ha1 : rAr 3 n1 p1) (hx2 : rng x2) (hx3 : rng x3) (hp : pre_X13_name σ k p1 n1 x2 x3) : VC_X13_name_3 σ k p1 n1 x2 x3 (post_X13_name σ k p1 n1 x2 x3) := by
  simp only [VC_X13_name_3, pre_X13_name, post_X13_name, inv_X13_name_3, inv_X13_name_59, mu_X13_name_3, mu_X13_name_59, pre_X13_isName, post_X13_isName, rNM, rng, rfk, rNMp, rF_sF, rF_sA, rF_sL, rF_sR, rA_sA, rA_sF, rA_sL, rA_sR, rR_sF, rR_sA, rR_sL, rR_sR, reduceIte, and_true, true_and, and_false, false_and, and_self] at *
  (repeat' (first | with_reducible intro _ | with_reducible apply And.intro))
  all_goals (first | assumption | omega | grind (splits := 20) [rNM_sF0])
set_option maxHeartbeats 400000 in
theorem vX13_name_3m (σ : rS) (k : Nat) (p1 n1 : Nat) (x2 : Int) (x3 : Int) (hwf : rWF σ) (hk : rgk k) (ha1 : rAr 3 n1 p1) (hx2 : rng x2) (hx3 : rng x3) (hp : pre_X13_name σ k p1 n1 x2 x3) : VC_X13_name_3m σ k p1 n1 x2 x3 := by
  simp only [VC_X13_name_3m, pre_X13_name, post_X13_name, inv_X13_name_3, inv_X13_name_59, mu_X13_name_3, mu_X13_name_59, pre_X13_isName, post_X13_isName, rNM, rng, rfk, rNMp, rF_sF, rF_sA, rF_sL, rF_sR, rA_sA, rA_sF, rA_sL, rA_sR, rR_sF, rR_sA, rR_sL, rR_sR, reduceIte, and_true, true_and, and_false, false_and, and_self] at *
  (repeat' (first | with_reducible intro _ | with_reducible apply And.intro))
  all_goals (first | assumption | omega | grind (splits := 20) [rNM_sF0])
theorem wX13_name (l : Launch) (G : zG) (κ : Nat → Nat) (σ : rS) (k : Nat) (p1 n1 : Nat) (x2 : Int) (x3 : Int) (hwf : rWF σ) (hk : rgk k) (ha1 : rAr 3 n1 p1) (hx2 : rng x2) (hx3 : rng x3) (Q : Int → rS → Prop) (h : VC_X13_name σ k p1 n1 x2 x3 Q) (h_59 : VC_X13_name_59 σ k p1 n1 x2 x3 Q) (h_59m : VC_X13_name_59m σ k p1 n1 x2 x3) (h_3 : VC_X13_name_3 σ k p1 n1 x2 x3 Q) (h_3m : VC_X13_name_3m σ k p1 n1 x2 x3) : rMi l G κ yX13_name cX13_name 5 .int 2 26 [.ref (κ k), .ref (κ p1), iv x2, iv x3] σ (fun x s => rKeep 0 0x1200 0 0xd00 0 σ s ∧ Q x s) := by
  refine zMi.intro (by decide +kernel) (Nat.le_of_ble_eq_true rfl) (fun X hC hR => ?_)
  refine z_iconst hC (pc := 0) (v := Int32.ofInt 0) dX13_name_0 (by decide) ?_
  refine z_istore hC (pc := 1) (lv' := [(4, iv 0), (0, .ref (κ k)), (1, .ref (κ p1)), (2, iv x2), (3, iv x3)]) dX13_name_1 (by decide) rfl ?_
  have j3 : ∀ (d3 : Nat), ∀ (s10 : rS) (y11 : Int), rWF s10 → rng y11 → rKeep 0 0x1200 0 0xd00 0 σ s10 → inv_X13_name_3 σ k p1 n1 x2 x3 s10 y11 → (mu_X13_name_3 σ k p1 n1 x2 x3 s10 y11) ≤ d3 → zS X G 5 (rW G κ s10) [(0, .ref (κ k)), (1, .ref (κ p1)), (2, iv x2), (3, iv x3), (4, iv y11)] 0 0 3 [] := by
    intro d3
    induction d3 with
    | zero =>
      intro s10 y11 Ws10 hy11 kJ hI hmu
      exact absurd hmu (by have := h_3m  s10 y11 Ws10 hy11  hI; omega)
    | succ d3 ih3 =>
      intro s10 y11 Ws10 hy11 kJ hI hmu3
      have h := h_3  s10 y11 Ws10 hy11  hI
      refine z_iload hC (pc := 3) 4 dX13_name_3 rfl ?_
      refine z_aload_n hC (pc := 5) 0 dX13_name_5 rfl rfl ?_
      refine y_get hC (pc := 6) zf13 (rOb_k hk) 12 (v := iv (rF s10 k 12)) dX13_name_6 zw2333 (rv_i (Or.inl rfl) rfl) (kk := ?_)
      have h := h (Ws10.f _ _)
      obtain ⟨hT, hF⟩ := h
      refine y_icmp_ge hC (pc := 9) 33 hy11 (Ws10.f _ _) dX13_name_9 (by decide) (fun c => ?_) (fun c => ?_)
      · have h := hT c
        refine z_aload_n hC (pc := 33) 0 dX13_name_33 rfl rfl ?_
        refine y_get hC (pc := 34) zf13 (rOb_k hk) 10 (v := .ref (κ (1000 * (k + 1) + 10))) dX13_name_34 zw2329 (rv_c rfl) (kk := ?_)
        refine z_aload_n hC (pc := 37) 0 dX13_name_37 rfl rfl ?_
        refine y_get hC (pc := 38) zf13 (rOb_k hk) 12 (v := iv (rF s10 k 12)) dX13_name_38 zw2333 (rv_i (Or.inl rfl) rfl) (kk := ?_)
        refine z_aload_n hC (pc := 41) 0 dX13_name_41 rfl rfl ?_
        refine y_get hC (pc := 42) zf13 (rOb_k hk) 9 (v := iv (rF s10 k 9)) dX13_name_42 zw2327 (rv_i (Or.inl rfl) rfl) (kk := ?_)
        have h := h (Ws10.f _ _)
        obtain ⟨b12, h⟩ := h
        refine y_iast hC (pc := 45) (rAr_k hk rfl rfl) dX13_name_45 b12 (v := (rF s10 k 9)) (kk := ?_)
        have W13 := Ws10.sA (p := (1000 * (k + 1) + 10)) (i := (rF s10 k 12)) (x := (rF s10 k 9)) (Ws10.f _ _)
        refine z_aload_n hC (pc := 46) 0 dX13_name_46 rfl rfl ?_
        refine y_get hC (pc := 47) zf13 (rOb_k hk) 11 (v := .ref (κ (1000 * (k + 1) + 11))) dX13_name_47 zw2331 (rv_c rfl) (kk := ?_)
        refine z_aload_n hC (pc := 50) 0 dX13_name_50 rfl rfl ?_
        refine y_get hC (pc := 51) zf13 (rOb_k hk) 12 (v := iv (rF s10 k 12)) dX13_name_51 zw2333 (rv_i (Or.inl rfl) rfl) (kk := ?_)
        refine z_iload_n hC (pc := 54) 3 dX13_name_54 rfl rfl ?_
        obtain ⟨b14, h⟩ := h
        refine y_iast hC (pc := 55) (rAr_k hk rfl rfl) dX13_name_55 b14 (v := x3) (kk := ?_)
        have W15 := W13.sA (p := (1000 * (k + 1) + 11)) (i := (rF s10 k 12)) (x := x3) hx3
        refine z_iconst hC (pc := 56) (v := Int32.ofInt 0) dX13_name_56 (by decide) ?_
        refine z_istore hC (pc := 57) (lv' := [(4, iv 0), (0, .ref (κ k)), (1, .ref (κ p1)), (2, iv x2), (3, iv x3)]) dX13_name_57 (by decide) rfl ?_
        have j59 : ∀ (d59 : Nat), ∀ (s16 : rS) (y17 : Int), rWF s16 → rng y17 → rKeep 0 0x1200 0 0xd00 0 σ s16 → inv_X13_name_59 σ k p1 n1 x2 x3 s16 y17 → (mu_X13_name_59 σ k p1 n1 x2 x3 s16 y17) ≤ d59 → zS X G 5 (rW G κ s16) [(0, .ref (κ k)), (1, .ref (κ p1)), (2, iv x2), (3, iv x3), (4, iv y17)] 0 0 59 [] := by
          intro d59
          induction d59 with
          | zero =>
            intro s16 y17 Ws16 hy17 kJ hI hmu
            exact absurd hmu (by have := h_59m  s16 y17 Ws16 hy17  hI; omega)
          | succ d59 ih59 =>
            intro s16 y17 Ws16 hy17 kJ hI hmu59
            have h := h_59  s16 y17 Ws16 hy17  hI
            refine z_iload hC (pc := 59) 4 dX13_name_59 rfl ?_
            refine z_iload_n hC (pc := 61) 3 dX13_name_61 rfl rfl ?_
            obtain ⟨hT, hF⟩ := h
            refine y_icmp_ge hC (pc := 62) 89 hy17 hx3 dX13_name_62 (by decide) (fun c => ?_) (fun c => ?_)
            · have h := hT c
              refine z_aload_n hC (pc := 89) 0 dX13_name_89 rfl rfl ?_
              refine z_dup hC (pc := 90) dX13_name_90 rfl ?_
              refine y_get hC (pc := 91) zf13 (rOb_k hk) 9 (v := iv (rF s16 k 9)) dX13_name_91 zw2327 (rv_i (Or.inl rfl) rfl) (kk := ?_)
              have h := h (Ws16.f _ _)
              refine z_iload_n hC (pc := 94) 3 dX13_name_94 rfl rfl ?_
              refine y_iadd hC (pc := 95) (v := ((rF s16 k 9) + x3)) dX13_name_95 rfl ?_
              obtain ⟨r18, h⟩ := h
              refine y_putI hC (pc := 96) zf13 (rOb_k hk) 9 (x := ((rF s16 k 9) + x3)) dX13_name_96 zw2327 (Or.inl rfl) rfl rfl (kk := ?_)
              have W19 := Ws16.sF (q := k) (f := 9) (x := ((rF s16 k 9) + x3)) r18
              refine z_aload_n hC (pc := 99) 0 dX13_name_99 rfl rfl ?_
              refine z_dup hC (pc := 100) dX13_name_100 rfl ?_
              refine y_get hC (pc := 101) zf13 (rOb_k hk) 12 (v := iv (rF s16 k 12)) dX13_name_101 zw2333 (rv_i (Or.inl rfl) ((F_sF_ne (by decide)).trans rfl)) (kk := ?_)
              have h := h (Ws16.f _ _)
              refine z_iconst hC (pc := 104) (v := Int32.ofInt 1) dX13_name_104 (by decide) ?_
              refine y_iadd hC (pc := 105) (v := ((rF s16 k 12) + 1)) dX13_name_105 rfl ?_
              obtain ⟨r20, h⟩ := h
              refine y_putI hC (pc := 106) zf13 (rOb_k hk) 12 (x := ((rF s16 k 12) + 1)) dX13_name_106 zw2333 (Or.inl rfl) rfl rfl (kk := ?_)
              have W21 := W19.sF (q := k) (f := 12) (x := ((rF s16 k 12) + 1)) r20
              refine z_aload_n hC (pc := 109) 0 dX13_name_109 rfl rfl ?_
              refine y_get hC (pc := 110) zf13 (rOb_k hk) 12 (v := iv ((rF s16 k 12) + 1)) dX13_name_110 zw2333 (rv_i (Or.inl rfl) (F_sF _ _ _ _)) (kk := ?_)
              refine z_iconst hC (pc := 113) (v := Int32.ofInt 1) dX13_name_113 (by decide) ?_
              refine y_isub hC (pc := 114) (v := (((rF s16 k 12) + 1) - 1)) dX13_name_114 rfl ?_
              obtain ⟨r22, h⟩ := h
              exact y_reti hR dX13_name_115 rfl r22 W21 (Nat.le_of_ble_eq_true rfl) (Nat.le_of_ble_eq_true rfl) ⟨(rKeep.tr (rKeep.tr (rKeep.tr rKeep.rf kJ rfl rfl rfl rfl rfl) (rKeep.sFk (f := 9) hk) rfl rfl rfl rfl rfl) (rKeep.sFk (f := 12) hk) rfl rfl rfl rfl rfl), h⟩
            · have h := hF c
              refine z_aload_n hC (pc := 65) 0 dX13_name_65 rfl rfl ?_
              refine y_get hC (pc := 66) zf13 (rOb_k hk) 8 (v := .ref (κ (1000 * (k + 1) + 8))) dX13_name_66 zw2325 (rv_c rfl) (kk := ?_)
              refine z_aload_n hC (pc := 69) 0 dX13_name_69 rfl rfl ?_
              refine y_get hC (pc := 70) zf13 (rOb_k hk) 9 (v := iv (rF s16 k 9)) dX13_name_70 zw2327 (rv_i (Or.inl rfl) rfl) (kk := ?_)
              have h := h (Ws16.f _ _)
              refine z_iload hC (pc := 73) 4 dX13_name_73 rfl ?_
              refine y_iadd hC (pc := 75) (v := ((rF s16 k 9) + y17)) dX13_name_75 rfl ?_
              refine z_aload_n hC (pc := 76) 1 dX13_name_76 rfl rfl ?_
              refine z_iload_n hC (pc := 77) 2 dX13_name_77 rfl rfl ?_
              refine z_iload hC (pc := 78) 4 dX13_name_78 rfl ?_
              refine y_iadd hC (pc := 80) (v := (x2 + y17)) dX13_name_80 rfl ?_
              obtain ⟨b23, h⟩ := h
              refine y_bald hC (pc := 81) ha1 dX13_name_81 b23 (v := (rA s16 p1 (x2 + y17))) rfl (kk := ?_)
              have h := h (Ws16.a _ _)
              obtain ⟨b24, h⟩ := h
              refine y_bast hC (pc := 82) (rAr_k hk rfl rfl) dX13_name_82 b24 (v := (rA s16 p1 (x2 + y17))) (kk := ?_)
              have W25 := Ws16.sA (p := (1000 * (k + 1) + 8)) (i := ((rF s16 k 9) + y17)) (x := (inar .byte (rA s16 p1 (x2 + y17)))) (inar_rng _ _)
              refine y_iinc hC (pc := 83) (v := (y17 + 1)) (lv' := [(4, iv (y17 + 1)), (0, .ref (κ k)), (1, .ref (κ p1)), (2, iv x2), (3, iv x3)]) 4 dX13_name_83 rfl rfl (by decide) rfl ?_
              refine z_goto hC (pc := 86) 59 dX13_name_86 (by decide) ?_
              refine z_lvs [1, 2, 3, 4, 0] rfl ?_
              obtain ⟨r26, h⟩ := h
              obtain ⟨hI, hm⟩ := h
              exact ih59 (sA s16 (1000 * (k + 1) + 8) ((rF s16 k 9) + y17) (inar .byte (rA s16 p1 (x2 + y17)))) (y17 + 1) W25 r26 (rKeep.tr (rKeep.tr rKeep.rf kJ rfl rfl rfl rfl rfl) (rKeep.sAk (f := 8) hk (by decide)) rfl rfl rfl rfl rfl) hI (by omega)
        refine z_lvs [1, 2, 3, 4, 0] rfl ?_
        exact j59 _ (sA (sA s10 (1000 * (k + 1) + 10) (rF s10 k 12) (rF s10 k 9)) (1000 * (k + 1) + 11) (rF s10 k 12) x3) 0 W15 (r_lit rfl) (rKeep.tr (rKeep.tr (rKeep.tr rKeep.rf kJ rfl rfl rfl rfl rfl) (rKeep.sAk (f := 10) hk (by decide)) rfl rfl rfl rfl rfl) (rKeep.sAk (f := 11) hk (by decide)) rfl rfl rfl rfl rfl) h (Nat.le_refl _)
      · have h := hF c
        refine z_aload_n hC (pc := 12) 0 dX13_name_12 rfl rfl ?_
        refine z_iload hC (pc := 13) 4 dX13_name_13 rfl ?_
        refine z_aload_n hC (pc := 15) 1 dX13_name_15 rfl rfl ?_
        refine z_iload_n hC (pc := 16) 2 dX13_name_16 rfl rfl ?_
        refine z_iload_n hC (pc := 17) 3 dX13_name_17 rfl rfl ?_
        obtain ⟨p27, h⟩ := h
        refine y_callVi hC (pc := 18) (As := [iv y11, .ref (κ p1), iv x2, iv x3]) (kX13_isName l G κ s10 k y11 p1 n1 x2 x3 Ws10 hk hy11 ha1 hx2 hx3 p27) dmX13_isName zf13 (rOb_k hk) dX13_name_18 zw3067 rfl rfl (Nat.le_of_ble_eq_true rfl) (Nat.le_of_ble_eq_true rfl) (Nat.le_of_ble_eq_true rfl) (Nat.le_of_ble_eq_true rfl) (Nat.le_of_ble_eq_true rfl) (kk := fun x29 s28 hx29 Ws28 qs28 => ?_)
        obtain ⟨es28, qs28⟩ := qs28
        have es28 := es28.symm
        subst es28
        have h := h x29 hx29 qs28
        obtain ⟨hT, hF⟩ := h
        refine y_if_eq hC (pc := 21) 27 hx29 dX13_name_21 (by decide) (fun c => ?_) (fun c => ?_)
        · have h := hT c
          refine y_iinc hC (pc := 27) (v := (y11 + 1)) (lv' := [(4, iv (y11 + 1)), (0, .ref (κ k)), (1, .ref (κ p1)), (2, iv x2), (3, iv x3)]) 4 dX13_name_27 rfl rfl (by decide) rfl ?_
          refine z_goto hC (pc := 30) 3 dX13_name_30 (by decide) ?_
          refine z_lvs [1, 2, 3, 4, 0] rfl ?_
          obtain ⟨r30, h⟩ := h
          obtain ⟨hI, hm⟩ := h
          exact ih3 s10 (y11 + 1) Ws10 r30 (rKeep.tr rKeep.rf kJ rfl rfl rfl rfl rfl) hI (by omega)
        · have h := hF c
          refine z_iload hC (pc := 24) 4 dX13_name_24 rfl ?_
          exact y_reti hR dX13_name_26 rfl hy11 Ws10 (Nat.le_of_ble_eq_true rfl) (Nat.le_of_ble_eq_true rfl) ⟨(rKeep.tr rKeep.rf kJ rfl rfl rfl rfl rfl), h⟩
  refine z_lvs [1, 2, 3, 4, 0] rfl ?_
  exact j3 _ σ 0 hwf (r_lit rfl) rKeep.rf h (Nat.le_refl _)
theorem kX13_name (l : Launch) (G : zG) (κ : Nat → Nat) (σ : rS) (k : Nat) (p1 n1 : Nat) (x2 : Int) (x3 : Int) (hwf : rWF σ) (hk : rgk k) (ha1 : rAr 3 n1 p1) (hx2 : rng x2) (hx3 : rng x3) (hp : pre_X13_name σ k p1 n1 x2 x3) : rMi l G κ yX13_name cX13_name 5 .int 2 26 [.ref (κ k), .ref (κ p1), iv x2, iv x3] σ (fun x s => rKeep 0 0x1200 0 0xd00 0 σ s ∧ post_X13_name σ k p1 n1 x2 x3 x s) := wX13_name l G κ σ k p1 n1 x2 x3 hwf hk ha1 hx2 hx3 (post_X13_name σ k p1 n1 x2 x3) (vX13_name σ k p1 n1 x2 x3 hwf hk ha1 hx2 hx3 hp) (vX13_name_59 σ k p1 n1 x2 x3 hwf hk ha1 hx2 hx3 hp) (vX13_name_59m σ k p1 n1 x2 x3 hwf hk ha1 hx2 hx3 hp) (vX13_name_3 σ k p1 n1 x2 x3 hwf hk ha1 hx2 hx3 hp) (vX13_name_3m σ k p1 n1 x2 x3 hwf hk ha1 hx2 hx3 hp)
def pre_X14_fileOf (σ : rS) (x1 : Int) : Prop := rgk (rR σ 7) ∧ 0 ≤ x1 ∧ x1 < 50000
def post_X14_fileOf (σ : rS) (x1 : Int) (r : Int) : Prop := True
def VC_X14_fileOf (σ : rS) (x1 : Int) (Q : Int → Prop) : Prop := rgk (rR σ 7) ∧ (0 ≤ x1 ∧ x1 < 50000) ∧ (rng (rA σ (1000 * ((rR σ 7) + 1) + 6) x1) → Q (f_iand (rA σ (1000 * ((rR σ 7) + 1) + 6) x1) 7))
set_option maxHeartbeats 400000 in
theorem vX14_fileOf (σ : rS) (x1 : Int) (hwf : rWF σ) (hx1 : rng x1) (hp : pre_X14_fileOf σ x1) : VC_X14_fileOf σ x1 (post_X14_fileOf σ x1) := by
  simp only [VC_X14_fileOf, pre_X14_fileOf, post_X14_fileOf, rng, rfk, rNMp, rF_sF, rF_sA, rF_sL, rF_sR, rA_sA, rA_sF, rA_sL, rA_sR, rR_sF, rR_sA, rR_sL, rR_sR, reduceIte, and_true, true_and, and_false, false_and, and_self] at *
  (repeat' (first | with_reducible intro _ | with_reducible apply And.intro))
  all_goals (first | assumption | omega | grind (splits := 20) [rNM_sF0])
theorem wX14_fileOf (l : Launch) (G : zG) (κ : Nat → Nat) (σ : rS) (x1 : Int) (hwf : rWF σ) (hx1 : rng x1) (Q : Int → Prop) (h : VC_X14_fileOf σ x1 Q) : rMi l G κ yX14_fileOf cX14_fileOf 2 .int 1 0 [.ref (κ 0), iv x1] σ (fun x s => s = σ ∧ Q x) := by
  refine zMi.intro (by decide +kernel) (Nat.le_of_ble_eq_true rfl) (fun X hC hR => ?_)
  obtain ⟨g0, h⟩ := h
  refine z_aload_n hC (pc := 0) 0 dX14_fileOf_0 rfl rfl ?_
  refine y_get hC (pc := 1) zf14 rOb_0 7 (v := .ref (κ (rR σ 7))) dX14_fileOf_1 zw2475 (rv_g rfl rfl g0) (kk := ?_)
  refine y_getN hC (pc := 4) zf13 (rOb_k g0) 6 (v := .ref (κ (1000 * ((rR σ 7) + 1) + 6))) dX14_fileOf_4 zw2322 (rv_c rfl) (kk := ?_)
  refine z_iload_n hC (pc := 7) 1 dX14_fileOf_7 rfl rfl ?_
  obtain ⟨b10, h⟩ := h
  refine y_iald hC (pc := 8) (rAr_k g0 rfl rfl) dX14_fileOf_8 b10 (v := (rA σ (1000 * ((rR σ 7) + 1) + 6) x1)) rfl (kk := ?_)
  have h := h (hwf.a _ _)
  refine z_bipush hC (pc := 9) (v := Int32.ofInt 7) dX14_fileOf_9 (by decide) ?_
  refine y_iand hC (pc := 11) dX14_fileOf_11 ?_
  exact y_reti hR dX14_fileOf_12 rfl (f_iand_rng _ _) hwf (Nat.le_of_ble_eq_true rfl) (Nat.le_of_ble_eq_true rfl) ⟨rfl, h⟩
theorem kX14_fileOf (l : Launch) (G : zG) (κ : Nat → Nat) (σ : rS) (x1 : Int) (hwf : rWF σ) (hx1 : rng x1) (hp : pre_X14_fileOf σ x1) : rMi l G κ yX14_fileOf cX14_fileOf 2 .int 1 0 [.ref (κ 0), iv x1] σ (fun x s => s = σ ∧ post_X14_fileOf σ x1 x) := wX14_fileOf l G κ σ x1 hwf hx1 (post_X14_fileOf σ x1) (vX14_fileOf σ x1 hwf hx1 hp) 
def pre_X14_isNext (σ : rS) (x1 : Int) : Prop := 0 ≤ (rF σ 0 17) ∧ 0 ≤ (rF σ 0 16) ∧ (rF σ 0 16) ≤ 4000 ∧ rfk (rR σ 15) ∧ (rF σ 0 17) ≤ (rF σ 0 16)
def post_X14_isNext (σ : rS) (x1 : Int) (r : Int) : Prop := (r = 0 ∨ r = 1)
def VC_X14_isNext (σ : rS) (x1 : Int) (Q : Int → Prop) : Prop := (rng (rF σ 0 17) → pre_X14_ahead σ (rF σ 0 17) ∧ (∀ (x12 : Int), rng x12 → post_X14_ahead σ (rF σ 0 17) x12 → ((x12 < 0 → Q 0) ∧ (¬ x12 < 0 → pre_X14_fc σ x12 ∧ (∀ (x15 : Int), rng x15 → post_X14_fc σ x12 x15 → ((¬ x15 = x1 → Q 0) ∧ (x15 = x1 → Q 1)))))))
set_option maxHeartbeats 400000 in
theorem vX14_isNext (σ : rS) (x1 : Int) (hwf : rWF σ) (hx1 : rng x1) (hp : pre_X14_isNext σ x1) : VC_X14_isNext σ x1 (post_X14_isNext σ x1) := by
  simp only [VC_X14_isNext, pre_X14_isNext, post_X14_isNext, pre_X14_ahead, pre_X14_fc, post_X14_ahead, post_X14_fc, rng, rfk, rNMp, rF_sF, rF_sA, rF_sL, rF_sR, rA_sA, rA_sF, rA_sL, rA_sR, rR_sF, rR_sA, rR_sL, rR_sR, reduceIte, and_true, true_and, and_false, false_and, and_self] at *
  (repeat' (first | with_reducible intro _ | with_reducible apply And.intro))
  all_goals (first | assumption | omega | grind (splits := 20) [rNM_sF0])
theorem wX14_isNext (l : Launch) (G : zG) (κ : Nat → Nat) (σ : rS) (x1 : Int) (hwf : rWF σ) (hx1 : rng x1) (Q : Int → Prop) (h : VC_X14_isNext σ x1 Q) : rMi l G κ yX14_isNext cX14_isNext 3 .boolean 3 44 [.ref (κ 0), iv x1] σ (fun x s => s = σ ∧ Q x) := by
  refine zMi.intro (by decide +kernel) (Nat.le_of_ble_eq_true rfl) (fun X hC hR => ?_)
  refine z_aload_n hC (pc := 0) 0 dX14_isNext_0 rfl rfl ?_
  refine z_aload_n hC (pc := 1) 0 dX14_isNext_1 rfl rfl ?_
  refine y_get hC (pc := 2) zf14 rOb_0 17 (v := iv (rF σ 0 17)) dX14_isNext_2 zw2484 (rv_i (Or.inl rfl) rfl) (kk := ?_)
  have h := h (hwf.f _ _)
  obtain ⟨p10, h⟩ := h
  refine y_callVi hC (pc := 5) (As := [iv (rF σ 0 17)]) (kX14_ahead l G κ σ (rF σ 0 17) hwf (hwf.f _ _) p10) dmX14_ahead zf14 rOb_0 dX14_isNext_5 zw2989 rfl rfl (Nat.le_of_ble_eq_true rfl) (Nat.le_of_ble_eq_true rfl) (Nat.le_of_ble_eq_true rfl) (Nat.le_of_ble_eq_true rfl) (Nat.le_of_ble_eq_true rfl) (kk := fun x12 s11 hx12 Ws11 qs11 => ?_)
  obtain ⟨es11, qs11⟩ := qs11
  have es11 := es11.symm
  subst es11
  have h := h x12 hx12 qs11
  refine z_istore_n hC (pc := 8) (lv' := [(2, iv x12), (0, .ref (κ 0)), (1, iv x1)]) dX14_isNext_8 rfl (by decide) rfl ?_
  refine z_iload_n hC (pc := 9) 0 dX14_isNext_9 rfl rfl ?_
  obtain ⟨hT, hF⟩ := h
  refine y_if_lt hC (pc := 10) 26 hx12 dX14_isNext_10 (by decide) (fun c => ?_) (fun c => ?_)
  · have h := hT c
    refine z_iconst hC (pc := 26) (v := Int32.ofInt 0) dX14_isNext_26 (by decide) ?_
    exact y_reti hR dX14_isNext_27 rfl (r_lit rfl) hwf (Nat.le_of_ble_eq_true rfl) (Nat.le_of_ble_eq_true rfl) ⟨rfl, h⟩
  · have h := hF c
    refine z_aload_n hC (pc := 13) 1 dX14_isNext_13 rfl rfl ?_
    refine z_iload_n hC (pc := 14) 0 dX14_isNext_14 rfl rfl ?_
    obtain ⟨p13, h⟩ := h
    refine y_callVi hC (pc := 15) (As := [iv x12]) (kX14_fc l G κ σ x12 hwf hx12 p13) dmX14_fc zf14 rOb_0 dX14_isNext_15 zw2993 rfl rfl (Nat.le_of_ble_eq_true rfl) (Nat.le_of_ble_eq_true rfl) (Nat.le_of_ble_eq_true rfl) (Nat.le_of_ble_eq_true rfl) (Nat.le_of_ble_eq_true rfl) (kk := fun x15 s14 hx15 Ws14 qs14 => ?_)
    obtain ⟨es14, qs14⟩ := qs14
    have es14 := es14.symm
    subst es14
    have h := h x15 hx15 qs14
    refine z_iload_n hC (pc := 18) 2 dX14_isNext_18 rfl rfl ?_
    obtain ⟨hT, hF⟩ := h
    refine y_icmp_ne hC (pc := 19) 26 hx15 hx1 dX14_isNext_19 (by decide) (fun c => ?_) (fun c => ?_)
    · have h := hT c
      refine z_iconst hC (pc := 26) (v := Int32.ofInt 0) dX14_isNext_26 (by decide) ?_
      exact y_reti hR dX14_isNext_27 rfl (r_lit rfl) hwf (Nat.le_of_ble_eq_true rfl) (Nat.le_of_ble_eq_true rfl) ⟨rfl, h⟩
    · have h := hF c
      refine z_iconst hC (pc := 22) (v := Int32.ofInt 1) dX14_isNext_22 (by decide) ?_
      refine z_goto hC (pc := 23) 27 dX14_isNext_23 (by decide) ?_
      exact y_reti hR dX14_isNext_27 rfl (r_lit rfl) hwf (Nat.le_of_ble_eq_true rfl) (Nat.le_of_ble_eq_true rfl) ⟨rfl, h⟩
theorem kX14_isNext (l : Launch) (G : zG) (κ : Nat → Nat) (σ : rS) (x1 : Int) (hwf : rWF σ) (hx1 : rng x1) (hp : pre_X14_isNext σ x1) : rMi l G κ yX14_isNext cX14_isNext 3 .boolean 3 44 [.ref (κ 0), iv x1] σ (fun x s => s = σ ∧ post_X14_isNext σ x1 x) := wX14_isNext l G κ σ x1 hwf hx1 (post_X14_isNext σ x1) (vX14_isNext σ x1 hwf hx1 hp) 
def pre_X14_isSpace (σ : rS) (x1 : Int) : Prop := 0 ≤ x1 ∧ x1 < 9000
def post_X14_isSpace (σ : rS) (x1 : Int) (r : Int) : Prop := (r = 0 ∨ r = 1) ∧ (r = 1 → (rA σ 1034 (x1)) = 1)
def VC_X14_isSpace (σ : rS) (x1 : Int) (Q : Int → Prop) : Prop := (0 ≤ x1 ∧ x1 < 9000) ∧ (rng (rA σ 1034 x1) → ((¬ (rA σ 1034 x1) = 1 → Q 0) ∧ ((rA σ 1034 x1) = 1 → (0 ≤ x1 ∧ x1 < 9000) ∧ (rng (rA σ 1035 x1) → (((rA σ 1035 x1) = 32 → Q 1) ∧ (¬ (rA σ 1035 x1) = 32 → (0 ≤ x1 ∧ x1 < 9000) ∧ ((¬ (rA σ 1035 x1) = 9 → Q 0) ∧ ((rA σ 1035 x1) = 9 → Q 1))))))))
set_option maxHeartbeats 400000 in
theorem vX14_isSpace (σ : rS) (x1 : Int) (hwf : rWF σ) (hx1 : rng x1) (hp : pre_X14_isSpace σ x1) : VC_X14_isSpace σ x1 (post_X14_isSpace σ x1) := by
  simp only [VC_X14_isSpace, pre_X14_isSpace, post_X14_isSpace, rng, rfk, rNMp, rF_sF, rF_sA, rF_sL, rF_sR, rA_sA, rA_sF, rA_sL, rA_sR, rR_sF, rR_sA, rR_sL, rR_sR, reduceIte, and_true, true_and, and_false, false_and, and_self] at *
  (repeat' (first | with_reducible intro _ | with_reducible apply And.intro))
  all_goals (first | assumption | omega | grind (splits := 20) [rNM_sF0])
theorem wX14_isSpace (l : Launch) (G : zG) (κ : Nat → Nat) (σ : rS) (x1 : Int) (hwf : rWF σ) (hx1 : rng x1) (Q : Int → Prop) (h : VC_X14_isSpace σ x1 Q) : rMi l G κ yX14_isSpace cX14_isSpace 2 .boolean 1 0 [.ref (κ 0), iv x1] σ (fun x s => s = σ ∧ Q x) := by
  refine zMi.intro (by decide +kernel) (Nat.le_of_ble_eq_true rfl) (fun X hC hR => ?_)
  refine z_aload_n hC (pc := 0) 0 dX14_isSpace_0 rfl rfl ?_
  refine y_get hC (pc := 1) zf14 rOb_0 34 (v := .ref (κ 1034)) dX14_isSpace_1 zw2501 (rv_c rfl) (kk := ?_)
  refine z_iload_n hC (pc := 4) 1 dX14_isSpace_4 rfl rfl ?_
  obtain ⟨b10, h⟩ := h
  refine y_iald hC (pc := 5) (rAr_m rfl) dX14_isSpace_5 b10 (v := (rA σ 1034 x1)) rfl (kk := ?_)
  have h := h (hwf.a _ _)
  refine z_iconst hC (pc := 6) (v := Int32.ofInt 1) dX14_isSpace_6 (by decide) ?_
  obtain ⟨hT, hF⟩ := h
  refine y_icmp_ne hC (pc := 7) 36 (hwf.a _ _) (r_lit rfl) dX14_isSpace_7 (by decide) (fun c => ?_) (fun c => ?_)
  · have h := hT c
    refine z_iconst hC (pc := 36) (v := Int32.ofInt 0) dX14_isSpace_36 (by decide) ?_
    exact y_reti hR dX14_isSpace_37 rfl (r_lit rfl) hwf (Nat.le_of_ble_eq_true rfl) (Nat.le_of_ble_eq_true rfl) ⟨rfl, h⟩
  · have h := hF c
    refine z_aload_n hC (pc := 10) 0 dX14_isSpace_10 rfl rfl ?_
    refine y_get hC (pc := 11) zf14 rOb_0 35 (v := .ref (κ 1035)) dX14_isSpace_11 zw2502 (rv_c rfl) (kk := ?_)
    refine z_iload_n hC (pc := 14) 1 dX14_isSpace_14 rfl rfl ?_
    obtain ⟨b11, h⟩ := h
    refine y_iald hC (pc := 15) (rAr_m rfl) dX14_isSpace_15 b11 (v := (rA σ 1035 x1)) rfl (kk := ?_)
    have h := h (hwf.a _ _)
    refine z_bipush hC (pc := 16) (v := Int32.ofInt 32) dX14_isSpace_16 (by decide) ?_
    obtain ⟨hT, hF⟩ := h
    refine y_icmp_eq hC (pc := 18) 32 (hwf.a _ _) (r_lit rfl) dX14_isSpace_18 (by decide) (fun c => ?_) (fun c => ?_)
    · have h := hT c
      refine z_iconst hC (pc := 32) (v := Int32.ofInt 1) dX14_isSpace_32 (by decide) ?_
      refine z_goto hC (pc := 33) 37 dX14_isSpace_33 (by decide) ?_
      exact y_reti hR dX14_isSpace_37 rfl (r_lit rfl) hwf (Nat.le_of_ble_eq_true rfl) (Nat.le_of_ble_eq_true rfl) ⟨rfl, h⟩
    · have h := hF c
      refine z_aload_n hC (pc := 21) 0 dX14_isSpace_21 rfl rfl ?_
      refine y_get hC (pc := 22) zf14 rOb_0 35 (v := .ref (κ 1035)) dX14_isSpace_22 zw2502 (rv_c rfl) (kk := ?_)
      refine z_iload_n hC (pc := 25) 1 dX14_isSpace_25 rfl rfl ?_
      obtain ⟨b12, h⟩ := h
      refine y_iald hC (pc := 26) (rAr_m rfl) dX14_isSpace_26 b12 (v := (rA σ 1035 x1)) rfl (kk := ?_)
      refine z_bipush hC (pc := 27) (v := Int32.ofInt 9) dX14_isSpace_27 (by decide) ?_
      obtain ⟨hT, hF⟩ := h
      refine y_icmp_ne hC (pc := 29) 36 (hwf.a _ _) (r_lit rfl) dX14_isSpace_29 (by decide) (fun c => ?_) (fun c => ?_)
      · have h := hT c
        refine z_iconst hC (pc := 36) (v := Int32.ofInt 0) dX14_isSpace_36 (by decide) ?_
        exact y_reti hR dX14_isSpace_37 rfl (r_lit rfl) hwf (Nat.le_of_ble_eq_true rfl) (Nat.le_of_ble_eq_true rfl) ⟨rfl, h⟩
      · have h := hF c
        refine z_iconst hC (pc := 32) (v := Int32.ofInt 1) dX14_isSpace_32 (by decide) ?_
        refine z_goto hC (pc := 33) 37 dX14_isSpace_33 (by decide) ?_
        exact y_reti hR dX14_isSpace_37 rfl (r_lit rfl) hwf (Nat.le_of_ble_eq_true rfl) (Nat.le_of_ble_eq_true rfl) ⟨rfl, h⟩
theorem kX14_isSpace (l : Launch) (G : zG) (κ : Nat → Nat) (σ : rS) (x1 : Int) (hwf : rWF σ) (hx1 : rng x1) (hp : pre_X14_isSpace σ x1) : rMi l G κ yX14_isSpace cX14_isSpace 2 .boolean 1 0 [.ref (κ 0), iv x1] σ (fun x s => s = σ ∧ post_X14_isSpace σ x1 x) := wX14_isSpace l G κ σ x1 hwf hx1 (post_X14_isSpace σ x1) (vX14_isSpace σ x1 hwf hx1 hp) 
def pre_X14_isLineTag (σ : rS) (x1 : Int) : Prop := 0 ≤ x1 ∧ x1 < 9000
def post_X14_isLineTag (σ : rS) (x1 : Int) (r : Int) : Prop := (r = 0 ∨ r = 1)
def VC_X14_isLineTag (σ : rS) (x1 : Int) (Q : Int → Prop) : Prop := (0 ≤ x1 ∧ x1 < 9000) ∧ (rng (rA σ 1034 x1) → (((rA σ 1034 x1) = 5 → Q 1) ∧ (¬ (rA σ 1034 x1) = 5 → (0 ≤ x1 ∧ x1 < 9000) ∧ (((rA σ 1034 x1) < 21 → Q 0) ∧ (¬ (rA σ 1034 x1) < 21 → (0 ≤ x1 ∧ x1 < 9000) ∧ ((26 < (rA σ 1034 x1) → Q 0) ∧ (¬ 26 < (rA σ 1034 x1) → Q 1)))))))
set_option maxHeartbeats 400000 in
theorem vX14_isLineTag (σ : rS) (x1 : Int) (hwf : rWF σ) (hx1 : rng x1) (hp : pre_X14_isLineTag σ x1) : VC_X14_isLineTag σ x1 (post_X14_isLineTag σ x1) := by
  simp only [VC_X14_isLineTag, pre_X14_isLineTag, post_X14_isLineTag, rng, rfk, rNMp, rF_sF, rF_sA, rF_sL, rF_sR, rA_sA, rA_sF, rA_sL, rA_sR, rR_sF, rR_sA, rR_sL, rR_sR, reduceIte, and_true, true_and, and_false, false_and, and_self] at *
  (repeat' (first | with_reducible intro _ | with_reducible apply And.intro))
  all_goals (first | assumption | omega | grind (splits := 20) [rNM_sF0])
theorem wX14_isLineTag (l : Launch) (G : zG) (κ : Nat → Nat) (σ : rS) (x1 : Int) (hwf : rWF σ) (hx1 : rng x1) (Q : Int → Prop) (h : VC_X14_isLineTag σ x1 Q) : rMi l G κ yX14_isLineTag cX14_isLineTag 2 .boolean 1 0 [.ref (κ 0), iv x1] σ (fun x s => s = σ ∧ Q x) := by
  refine zMi.intro (by decide +kernel) (Nat.le_of_ble_eq_true rfl) (fun X hC hR => ?_)
  refine z_aload_n hC (pc := 0) 0 dX14_isLineTag_0 rfl rfl ?_
  refine y_get hC (pc := 1) zf14 rOb_0 34 (v := .ref (κ 1034)) dX14_isLineTag_1 zw2501 (rv_c rfl) (kk := ?_)
  refine z_iload_n hC (pc := 4) 1 dX14_isLineTag_4 rfl rfl ?_
  obtain ⟨b10, h⟩ := h
  refine y_iald hC (pc := 5) (rAr_m rfl) dX14_isLineTag_5 b10 (v := (rA σ 1034 x1)) rfl (kk := ?_)
  have h := h (hwf.a _ _)
  refine z_iconst hC (pc := 6) (v := Int32.ofInt 5) dX14_isLineTag_6 (by decide) ?_
  obtain ⟨hT, hF⟩ := h
  refine y_icmp_eq hC (pc := 7) 32 (hwf.a _ _) (r_lit rfl) dX14_isLineTag_7 (by decide) (fun c => ?_) (fun c => ?_)
  · have h := hT c
    refine z_iconst hC (pc := 32) (v := Int32.ofInt 1) dX14_isLineTag_32 (by decide) ?_
    refine z_goto hC (pc := 33) 37 dX14_isLineTag_33 (by decide) ?_
    exact y_reti hR dX14_isLineTag_37 rfl (r_lit rfl) hwf (Nat.le_of_ble_eq_true rfl) (Nat.le_of_ble_eq_true rfl) ⟨rfl, h⟩
  · have h := hF c
    refine z_aload_n hC (pc := 10) 0 dX14_isLineTag_10 rfl rfl ?_
    refine y_get hC (pc := 11) zf14 rOb_0 34 (v := .ref (κ 1034)) dX14_isLineTag_11 zw2501 (rv_c rfl) (kk := ?_)
    refine z_iload_n hC (pc := 14) 1 dX14_isLineTag_14 rfl rfl ?_
    obtain ⟨b11, h⟩ := h
    refine y_iald hC (pc := 15) (rAr_m rfl) dX14_isLineTag_15 b11 (v := (rA σ 1034 x1)) rfl (kk := ?_)
    refine z_bipush hC (pc := 16) (v := Int32.ofInt 21) dX14_isLineTag_16 (by decide) ?_
    obtain ⟨hT, hF⟩ := h
    refine y_icmp_lt hC (pc := 18) 36 (hwf.a _ _) (r_lit rfl) dX14_isLineTag_18 (by decide) (fun c => ?_) (fun c => ?_)
    · have h := hT c
      refine z_iconst hC (pc := 36) (v := Int32.ofInt 0) dX14_isLineTag_36 (by decide) ?_
      exact y_reti hR dX14_isLineTag_37 rfl (r_lit rfl) hwf (Nat.le_of_ble_eq_true rfl) (Nat.le_of_ble_eq_true rfl) ⟨rfl, h⟩
    · have h := hF c
      refine z_aload_n hC (pc := 21) 0 dX14_isLineTag_21 rfl rfl ?_
      refine y_get hC (pc := 22) zf14 rOb_0 34 (v := .ref (κ 1034)) dX14_isLineTag_22 zw2501 (rv_c rfl) (kk := ?_)
      refine z_iload_n hC (pc := 25) 1 dX14_isLineTag_25 rfl rfl ?_
      obtain ⟨b12, h⟩ := h
      refine y_iald hC (pc := 26) (rAr_m rfl) dX14_isLineTag_26 b12 (v := (rA σ 1034 x1)) rfl (kk := ?_)
      refine z_bipush hC (pc := 27) (v := Int32.ofInt 26) dX14_isLineTag_27 (by decide) ?_
      obtain ⟨hT, hF⟩ := h
      refine y_icmp_gt hC (pc := 29) 36 (hwf.a _ _) (r_lit rfl) dX14_isLineTag_29 (by decide) (fun c => ?_) (fun c => ?_)
      · have h := hT c
        refine z_iconst hC (pc := 36) (v := Int32.ofInt 0) dX14_isLineTag_36 (by decide) ?_
        exact y_reti hR dX14_isLineTag_37 rfl (r_lit rfl) hwf (Nat.le_of_ble_eq_true rfl) (Nat.le_of_ble_eq_true rfl) ⟨rfl, h⟩
      · have h := hF c
        refine z_iconst hC (pc := 32) (v := Int32.ofInt 1) dX14_isLineTag_32 (by decide) ?_
        refine z_goto hC (pc := 33) 37 dX14_isLineTag_33 (by decide) ?_
        exact y_reti hR dX14_isLineTag_37 rfl (r_lit rfl) hwf (Nat.le_of_ble_eq_true rfl) (Nat.le_of_ble_eq_true rfl) ⟨rfl, h⟩
theorem kX14_isLineTag (l : Launch) (G : zG) (κ : Nat → Nat) (σ : rS) (x1 : Int) (hwf : rWF σ) (hx1 : rng x1) (hp : pre_X14_isLineTag σ x1) : rMi l G κ yX14_isLineTag cX14_isLineTag 2 .boolean 1 0 [.ref (κ 0), iv x1] σ (fun x s => s = σ ∧ post_X14_isLineTag σ x1 x) := wX14_isLineTag l G κ σ x1 hwf hx1 (post_X14_isLineTag σ x1) (vX14_isLineTag σ x1 hwf hx1 hp) 
def pre_X14_isTwice (σ : rS) (x1 : Int) : Prop := 0 ≤ (rF σ 0 29) ∧ (rF σ 0 29) ≤ 100000 ∧ (rF σ 0 28) ≤ 4001
def post_X14_isTwice (σ : rS) (x1 : Int) (r : Int) : Prop := (r = 0 ∨ r = 1) ∧ (r = 1 → (rF σ 0 29) + 1 < (rF σ 0 28))
def VC_X14_isTwice (σ : rS) (x1 : Int) (Q : Int → Prop) : Prop := pre_X14_here σ ∧ (∀ (x12 : Int), rng x12 → post_X14_here σ x12 → ((¬ x12 = x1 → Q 0) ∧ (x12 = x1 → (rng (rF σ 0 29) → (rng (rF σ 0 28) → rng ((rF σ 0 29) + 1) ∧ (((rF σ 0 28) ≤ ((rF σ 0 29) + 1) → Q 0) ∧ (¬ (rF σ 0 28) ≤ ((rF σ 0 29) + 1) → (0 ≤ ((rF σ 0 29) + 1) ∧ ((rF σ 0 29) + 1) < 4001) ∧ (rng (rA σ 1026 ((rF σ 0 29) + 1)) → ((¬ (rA σ 1026 ((rF σ 0 29) + 1)) = x1 → Q 0) ∧ ((rA σ 1026 ((rF σ 0 29) + 1)) = x1 → Q 1))))))))))
set_option maxHeartbeats 400000 in
theorem vX14_isTwice (σ : rS) (x1 : Int) (hwf : rWF σ) (hx1 : rng x1) (hp : pre_X14_isTwice σ x1) : VC_X14_isTwice σ x1 (post_X14_isTwice σ x1) := by
  simp only [VC_X14_isTwice, pre_X14_isTwice, post_X14_isTwice, pre_X14_here, post_X14_here, rng, rfk, rNMp, rF_sF, rF_sA, rF_sL, rF_sR, rA_sA, rA_sF, rA_sL, rA_sR, rR_sF, rR_sA, rR_sL, rR_sR, reduceIte, and_true, true_and, and_false, false_and, and_self] at *
  (repeat' (first | with_reducible intro _ | with_reducible apply And.intro))
  all_goals (first | assumption | omega | grind (splits := 20) [rNM_sF0])
theorem wX14_isTwice (l : Launch) (G : zG) (κ : Nat → Nat) (σ : rS) (x1 : Int) (hwf : rWF σ) (hx1 : rng x1) (Q : Int → Prop) (h : VC_X14_isTwice σ x1 Q) : rMi l G κ yX14_isTwice cX14_isTwice 2 .boolean 2 20 [.ref (κ 0), iv x1] σ (fun x s => s = σ ∧ Q x) := by
  refine zMi.intro (by decide +kernel) (Nat.le_of_ble_eq_true rfl) (fun X hC hR => ?_)
  refine z_aload_n hC (pc := 0) 0 dX14_isTwice_0 rfl rfl ?_
  obtain ⟨p10, h⟩ := h
  refine y_callVi hC (pc := 1) (As := []) (kX14_here l G κ σ  hwf  p10) dmX14_here zf14 rOb_0 dX14_isTwice_1 zw3099 rfl rfl (Nat.le_of_ble_eq_true rfl) (Nat.le_of_ble_eq_true rfl) (Nat.le_of_ble_eq_true rfl) (Nat.le_of_ble_eq_true rfl) (Nat.le_of_ble_eq_true rfl) (kk := fun x12 s11 hx12 Ws11 qs11 => ?_)
  obtain ⟨es11, qs11⟩ := qs11
  have es11 := es11.symm
  subst es11
  have h := h x12 hx12 qs11
  refine z_iload_n hC (pc := 4) 1 dX14_isTwice_4 rfl rfl ?_
  obtain ⟨hT, hF⟩ := h
  refine y_icmp_ne hC (pc := 5) 40 hx12 hx1 dX14_isTwice_5 (by decide) (fun c => ?_) (fun c => ?_)
  · have h := hT c
    refine z_iconst hC (pc := 40) (v := Int32.ofInt 0) dX14_isTwice_40 (by decide) ?_
    exact y_reti hR dX14_isTwice_41 rfl (r_lit rfl) hwf (Nat.le_of_ble_eq_true rfl) (Nat.le_of_ble_eq_true rfl) ⟨rfl, h⟩
  · have h := hF c
    refine z_aload_n hC (pc := 8) 0 dX14_isTwice_8 rfl rfl ?_
    refine y_get hC (pc := 9) zf14 rOb_0 29 (v := iv (rF σ 0 29)) dX14_isTwice_9 zw2496 (rv_i (Or.inl rfl) rfl) (kk := ?_)
    have h := h (hwf.f _ _)
    refine z_iconst hC (pc := 12) (v := Int32.ofInt 1) dX14_isTwice_12 (by decide) ?_
    refine y_iadd hC (pc := 13) (v := ((rF σ 0 29) + 1)) dX14_isTwice_13 rfl ?_
    refine z_aload_n hC (pc := 14) 0 dX14_isTwice_14 rfl rfl ?_
    refine y_get hC (pc := 15) zf14 rOb_0 28 (v := iv (rF σ 0 28)) dX14_isTwice_15 zw2495 (rv_i (Or.inl rfl) rfl) (kk := ?_)
    have h := h (hwf.f _ _)
    obtain ⟨r13, h⟩ := h
    obtain ⟨hT, hF⟩ := h
    refine y_icmp_ge hC (pc := 18) 40 r13 (hwf.f _ _) dX14_isTwice_18 (by decide) (fun c => ?_) (fun c => ?_)
    · have h := hT c
      refine z_iconst hC (pc := 40) (v := Int32.ofInt 0) dX14_isTwice_40 (by decide) ?_
      exact y_reti hR dX14_isTwice_41 rfl (r_lit rfl) hwf (Nat.le_of_ble_eq_true rfl) (Nat.le_of_ble_eq_true rfl) ⟨rfl, h⟩
    · have h := hF c
      refine z_aload_n hC (pc := 21) 0 dX14_isTwice_21 rfl rfl ?_
      refine y_get hC (pc := 22) zf14 rOb_0 26 (v := .ref (κ 1026)) dX14_isTwice_22 zw2493 (rv_c rfl) (kk := ?_)
      refine z_aload_n hC (pc := 25) 0 dX14_isTwice_25 rfl rfl ?_
      refine y_get hC (pc := 26) zf14 rOb_0 29 (v := iv (rF σ 0 29)) dX14_isTwice_26 zw2496 (rv_i (Or.inl rfl) rfl) (kk := ?_)
      refine z_iconst hC (pc := 29) (v := Int32.ofInt 1) dX14_isTwice_29 (by decide) ?_
      refine y_iadd hC (pc := 30) (v := ((rF σ 0 29) + 1)) dX14_isTwice_30 rfl ?_
      obtain ⟨b14, h⟩ := h
      refine y_bald hC (pc := 31) (rAr_m rfl) dX14_isTwice_31 b14 (v := (rA σ 1026 ((rF σ 0 29) + 1))) rfl (kk := ?_)
      have h := h (hwf.a _ _)
      refine z_iload_n hC (pc := 32) 1 dX14_isTwice_32 rfl rfl ?_
      obtain ⟨hT, hF⟩ := h
      refine y_icmp_ne hC (pc := 33) 40 (hwf.a _ _) hx1 dX14_isTwice_33 (by decide) (fun c => ?_) (fun c => ?_)
      · have h := hT c
        refine z_iconst hC (pc := 40) (v := Int32.ofInt 0) dX14_isTwice_40 (by decide) ?_
        exact y_reti hR dX14_isTwice_41 rfl (r_lit rfl) hwf (Nat.le_of_ble_eq_true rfl) (Nat.le_of_ble_eq_true rfl) ⟨rfl, h⟩
      · have h := hF c
        refine z_iconst hC (pc := 36) (v := Int32.ofInt 1) dX14_isTwice_36 (by decide) ?_
        refine z_goto hC (pc := 37) 41 dX14_isTwice_37 (by decide) ?_
        exact y_reti hR dX14_isTwice_41 rfl (r_lit rfl) hwf (Nat.le_of_ble_eq_true rfl) (Nat.le_of_ble_eq_true rfl) ⟨rfl, h⟩
theorem kX14_isTwice (l : Launch) (G : zG) (κ : Nat → Nat) (σ : rS) (x1 : Int) (hwf : rWF σ) (hx1 : rng x1) (hp : pre_X14_isTwice σ x1) : rMi l G κ yX14_isTwice cX14_isTwice 2 .boolean 2 20 [.ref (κ 0), iv x1] σ (fun x s => s = σ ∧ post_X14_isTwice σ x1 x) := wX14_isTwice l G κ σ x1 hwf hx1 (post_X14_isTwice σ x1) (vX14_isTwice σ x1 hwf hx1 hp) 
def pre_X14_isDots (σ : rS)  : Prop := 0 ≤ (rF σ 0 29) ∧ (rF σ 0 29) ≤ 100000 ∧ (rF σ 0 28) ≤ 4001
def post_X14_isDots (σ : rS)  (r : Int) : Prop := (r = 0 ∨ r = 1) ∧ (r = 1 → (rF σ 0 29) + 2 < (rF σ 0 28))
def VC_X14_isDots (σ : rS) (Q : Int → Prop) : Prop := (rng (rF σ 0 29) → (rng (rF σ 0 28) → rng ((rF σ 0 29) + 2) ∧ (((rF σ 0 28) ≤ ((rF σ 0 29) + 2) → Q 0) ∧ (¬ (rF σ 0 28) ≤ ((rF σ 0 29) + 2) → (0 ≤ (rF σ 0 29) ∧ (rF σ 0 29) < 4001) ∧ (rng (rA σ 1026 (rF σ 0 29)) → ((¬ (rA σ 1026 (rF σ 0 29)) = 46 → Q 0) ∧ ((rA σ 1026 (rF σ 0 29)) = 46 → (0 ≤ ((rF σ 0 29) + 1) ∧ ((rF σ 0 29) + 1) < 4001) ∧ (rng (rA σ 1026 ((rF σ 0 29) + 1)) → ((¬ (rA σ 1026 ((rF σ 0 29) + 1)) = 46 → Q 0) ∧ ((rA σ 1026 ((rF σ 0 29) + 1)) = 46 → (0 ≤ ((rF σ 0 29) + 2) ∧ ((rF σ 0 29) + 2) < 4001) ∧ (rng (rA σ 1026 ((rF σ 0 29) + 2)) → ((¬ (rA σ 1026 ((rF σ 0 29) + 2)) = 46 → Q 0) ∧ ((rA σ 1026 ((rF σ 0 29) + 2)) = 46 → Q 1)))))))))))))
set_option maxHeartbeats 400000 in
theorem vX14_isDots (σ : rS) (hwf : rWF σ) (hp : pre_X14_isDots σ ) : VC_X14_isDots σ (post_X14_isDots σ ) := by
  simp only [VC_X14_isDots, pre_X14_isDots, post_X14_isDots, rng, rfk, rNMp, rF_sF, rF_sA, rF_sL, rF_sR, rA_sA, rA_sF, rA_sL, rA_sR, rR_sF, rR_sA, rR_sL, rR_sR, reduceIte, and_true, true_and, and_false, false_and, and_self] at *
  (repeat' (first | with_reducible intro _ | with_reducible apply And.intro))
  all_goals (first | assumption | omega | grind (splits := 20) [rNM_sF0])
theorem wX14_isDots (l : Launch) (G : zG) (κ : Nat → Nat) (σ : rS) (hwf : rWF σ) (Q : Int → Prop) (h : VC_X14_isDots σ Q) : rMi l G κ yX14_isDots cX14_isDots 1 .boolean 1 0 [.ref (κ 0)] σ (fun x s => s = σ ∧ Q x) := by
  refine zMi.intro (by decide +kernel) (Nat.le_of_ble_eq_true rfl) (fun X hC hR => ?_)
  refine z_aload_n hC (pc := 0) 0 dX14_isDots_0 rfl rfl ?_
  refine y_get hC (pc := 1) zf14 rOb_0 29 (v := iv (rF σ 0 29)) dX14_isDots_1 zw2496 (rv_i (Or.inl rfl) rfl) (kk := ?_)
  have h := h (hwf.f _ _)
  refine z_iconst hC (pc := 4) (v := Int32.ofInt 2) dX14_isDots_4 (by decide) ?_
  refine y_iadd hC (pc := 5) (v := ((rF σ 0 29) + 2)) dX14_isDots_5 rfl ?_
  refine z_aload_n hC (pc := 6) 0 dX14_isDots_6 rfl rfl ?_
  refine y_get hC (pc := 7) zf14 rOb_0 28 (v := iv (rF σ 0 28)) dX14_isDots_7 zw2495 (rv_i (Or.inl rfl) rfl) (kk := ?_)
  have h := h (hwf.f _ _)
  obtain ⟨r10, h⟩ := h
  obtain ⟨hT, hF⟩ := h
  refine y_icmp_ge hC (pc := 10) 63 r10 (hwf.f _ _) dX14_isDots_10 (by decide) (fun c => ?_) (fun c => ?_)
  · have h := hT c
    refine z_iconst hC (pc := 63) (v := Int32.ofInt 0) dX14_isDots_63 (by decide) ?_
    exact y_reti hR dX14_isDots_64 rfl (r_lit rfl) hwf (Nat.le_of_ble_eq_true rfl) (Nat.le_of_ble_eq_true rfl) ⟨rfl, h⟩
  · have h := hF c
    refine z_aload_n hC (pc := 13) 0 dX14_isDots_13 rfl rfl ?_
    refine y_get hC (pc := 14) zf14 rOb_0 26 (v := .ref (κ 1026)) dX14_isDots_14 zw2493 (rv_c rfl) (kk := ?_)
    refine z_aload_n hC (pc := 17) 0 dX14_isDots_17 rfl rfl ?_
    refine y_get hC (pc := 18) zf14 rOb_0 29 (v := iv (rF σ 0 29)) dX14_isDots_18 zw2496 (rv_i (Or.inl rfl) rfl) (kk := ?_)
    obtain ⟨b11, h⟩ := h
    refine y_bald hC (pc := 21) (rAr_m rfl) dX14_isDots_21 b11 (v := (rA σ 1026 (rF σ 0 29))) rfl (kk := ?_)
    have h := h (hwf.a _ _)
    refine z_bipush hC (pc := 22) (v := Int32.ofInt 46) dX14_isDots_22 (by decide) ?_
    obtain ⟨hT, hF⟩ := h
    refine y_icmp_ne hC (pc := 24) 63 (hwf.a _ _) (r_lit rfl) dX14_isDots_24 (by decide) (fun c => ?_) (fun c => ?_)
    · have h := hT c
      refine z_iconst hC (pc := 63) (v := Int32.ofInt 0) dX14_isDots_63 (by decide) ?_
      exact y_reti hR dX14_isDots_64 rfl (r_lit rfl) hwf (Nat.le_of_ble_eq_true rfl) (Nat.le_of_ble_eq_true rfl) ⟨rfl, h⟩
    · have h := hF c
      refine z_aload_n hC (pc := 27) 0 dX14_isDots_27 rfl rfl ?_
      refine y_get hC (pc := 28) zf14 rOb_0 26 (v := .ref (κ 1026)) dX14_isDots_28 zw2493 (rv_c rfl) (kk := ?_)
      refine z_aload_n hC (pc := 31) 0 dX14_isDots_31 rfl rfl ?_
      refine y_get hC (pc := 32) zf14 rOb_0 29 (v := iv (rF σ 0 29)) dX14_isDots_32 zw2496 (rv_i (Or.inl rfl) rfl) (kk := ?_)
      refine z_iconst hC (pc := 35) (v := Int32.ofInt 1) dX14_isDots_35 (by decide) ?_
      refine y_iadd hC (pc := 36) (v := ((rF σ 0 29) + 1)) dX14_isDots_36 rfl ?_
      obtain ⟨b12, h⟩ := h
      refine y_bald hC (pc := 37) (rAr_m rfl) dX14_isDots_37 b12 (v := (rA σ 1026 ((rF σ 0 29) + 1))) rfl (kk := ?_)
      have h := h (hwf.a _ _)
      refine z_bipush hC (pc := 38) (v := Int32.ofInt 46) dX14_isDots_38 (by decide) ?_
      obtain ⟨hT, hF⟩ := h
      refine y_icmp_ne hC (pc := 40) 63 (hwf.a _ _) (r_lit rfl) dX14_isDots_40 (by decide) (fun c => ?_) (fun c => ?_)
      · have h := hT c
        refine z_iconst hC (pc := 63) (v := Int32.ofInt 0) dX14_isDots_63 (by decide) ?_
        exact y_reti hR dX14_isDots_64 rfl (r_lit rfl) hwf (Nat.le_of_ble_eq_true rfl) (Nat.le_of_ble_eq_true rfl) ⟨rfl, h⟩
      · have h := hF c
        refine z_aload_n hC (pc := 43) 0 dX14_isDots_43 rfl rfl ?_
        refine y_get hC (pc := 44) zf14 rOb_0 26 (v := .ref (κ 1026)) dX14_isDots_44 zw2493 (rv_c rfl) (kk := ?_)
        refine z_aload_n hC (pc := 47) 0 dX14_isDots_47 rfl rfl ?_
        refine y_get hC (pc := 48) zf14 rOb_0 29 (v := iv (rF σ 0 29)) dX14_isDots_48 zw2496 (rv_i (Or.inl rfl) rfl) (kk := ?_)
        refine z_iconst hC (pc := 51) (v := Int32.ofInt 2) dX14_isDots_51 (by decide) ?_
        refine y_iadd hC (pc := 52) (v := ((rF σ 0 29) + 2)) dX14_isDots_52 rfl ?_
        obtain ⟨b13, h⟩ := h
        refine y_bald hC (pc := 53) (rAr_m rfl) dX14_isDots_53 b13 (v := (rA σ 1026 ((rF σ 0 29) + 2))) rfl (kk := ?_)
        have h := h (hwf.a _ _)
        refine z_bipush hC (pc := 54) (v := Int32.ofInt 46) dX14_isDots_54 (by decide) ?_
        obtain ⟨hT, hF⟩ := h
        refine y_icmp_ne hC (pc := 56) 63 (hwf.a _ _) (r_lit rfl) dX14_isDots_56 (by decide) (fun c => ?_) (fun c => ?_)
        · have h := hT c
          refine z_iconst hC (pc := 63) (v := Int32.ofInt 0) dX14_isDots_63 (by decide) ?_
          exact y_reti hR dX14_isDots_64 rfl (r_lit rfl) hwf (Nat.le_of_ble_eq_true rfl) (Nat.le_of_ble_eq_true rfl) ⟨rfl, h⟩
        · have h := hF c
          refine z_iconst hC (pc := 59) (v := Int32.ofInt 1) dX14_isDots_59 (by decide) ?_
          refine z_goto hC (pc := 60) 64 dX14_isDots_60 (by decide) ?_
          exact y_reti hR dX14_isDots_64 rfl (r_lit rfl) hwf (Nat.le_of_ble_eq_true rfl) (Nat.le_of_ble_eq_true rfl) ⟨rfl, h⟩
theorem kX14_isDots (l : Launch) (G : zG) (κ : Nat → Nat) (σ : rS) (hwf : rWF σ) (hp : pre_X14_isDots σ ) : rMi l G κ yX14_isDots cX14_isDots 1 .boolean 1 0 [.ref (κ 0)] σ (fun x s => s = σ ∧ post_X14_isDots σ x) := wX14_isDots l G κ σ hwf (post_X14_isDots σ ) (vX14_isDots σ hwf hp) 
def pre_X14_isOpen (σ : rS) (x1 : Int) (x2 : Int) : Prop := 0 ≤ (rF σ 0 39) ∧ (rF σ 0 39) ≤ 64 ∧ 0 ≤ x2
def post_X14_isOpen (σ : rS) (x1 : Int) (x2 : Int) (r : Int) : Prop := (r = 0 ∨ r = 1) ∧ (r = 1 → x2 < (rF σ 0 39) ∧ (rA σ 1040 ((rF σ 0 39) - 1)) = x1)
def VC_X14_isOpen (σ : rS) (x1 : Int) (x2 : Int) (Q : Int → Prop) : Prop := (rng (rF σ 0 39) → (((rF σ 0 39) ≤ x2 → Q 0) ∧ (¬ (rF σ 0 39) ≤ x2 → (0 ≤ ((rF σ 0 39) - 1) ∧ ((rF σ 0 39) - 1) < 64) ∧ (rng (rA σ 1040 ((rF σ 0 39) - 1)) → ((¬ (rA σ 1040 ((rF σ 0 39) - 1)) = x1 → Q 0) ∧ ((rA σ 1040 ((rF σ 0 39) - 1)) = x1 → Q 1))))))
set_option maxHeartbeats 400000 in
theorem vX14_isOpen (σ : rS) (x1 : Int) (x2 : Int) (hwf : rWF σ) (hx1 : rng x1) (hx2 : rng x2) (hp : pre_X14_isOpen σ x1 x2) : VC_X14_isOpen σ x1 x2 (post_X14_isOpen σ x1 x2) := by
  simp only [VC_X14_isOpen, pre_X14_isOpen, post_X14_isOpen, rng, rfk, rNMp, rF_sF, rF_sA, rF_sL, rF_sR, rA_sA, rA_sF, rA_sL, rA_sR, rR_sF, rR_sA, rR_sL, rR_sR, reduceIte, and_true, true_and, and_false, false_and, and_self] at *
  (repeat' (first | with_reducible intro _ | with_reducible apply And.intro))
  all_goals (first | assumption | omega | grind (splits := 20) [rNM_sF0])
theorem wX14_isOpen (l : Launch) (G : zG) (κ : Nat → Nat) (σ : rS) (x1 : Int) (x2 : Int) (hwf : rWF σ) (hx1 : rng x1) (hx2 : rng x2) (Q : Int → Prop) (h : VC_X14_isOpen σ x1 x2 Q) : rMi l G κ yX14_isOpen cX14_isOpen 3 .boolean 1 0 [.ref (κ 0), iv x1, iv x2] σ (fun x s => s = σ ∧ Q x) := by
  refine zMi.intro (by decide +kernel) (Nat.le_of_ble_eq_true rfl) (fun X hC hR => ?_)
  refine z_aload_n hC (pc := 0) 0 dX14_isOpen_0 rfl rfl ?_
  refine y_get hC (pc := 1) zf14 rOb_0 39 (v := iv (rF σ 0 39)) dX14_isOpen_1 zw2506 (rv_i (Or.inl rfl) rfl) (kk := ?_)
  have h := h (hwf.f _ _)
  refine z_iload_n hC (pc := 4) 2 dX14_isOpen_4 rfl rfl ?_
  obtain ⟨hT, hF⟩ := h
  refine y_icmp_le hC (pc := 5) 27 (hwf.f _ _) hx2 dX14_isOpen_5 (by decide) (fun c => ?_) (fun c => ?_)
  · have h := hT c
    refine z_iconst hC (pc := 27) (v := Int32.ofInt 0) dX14_isOpen_27 (by decide) ?_
    exact y_reti hR dX14_isOpen_28 rfl (r_lit rfl) hwf (Nat.le_of_ble_eq_true rfl) (Nat.le_of_ble_eq_true rfl) ⟨rfl, h⟩
  · have h := hF c
    refine z_aload_n hC (pc := 8) 0 dX14_isOpen_8 rfl rfl ?_
    refine y_get hC (pc := 9) zf14 rOb_0 40 (v := .ref (κ 1040)) dX14_isOpen_9 zw2507 (rv_c rfl) (kk := ?_)
    refine z_aload_n hC (pc := 12) 0 dX14_isOpen_12 rfl rfl ?_
    refine y_get hC (pc := 13) zf14 rOb_0 39 (v := iv (rF σ 0 39)) dX14_isOpen_13 zw2506 (rv_i (Or.inl rfl) rfl) (kk := ?_)
    refine z_iconst hC (pc := 16) (v := Int32.ofInt 1) dX14_isOpen_16 (by decide) ?_
    refine y_isub hC (pc := 17) (v := ((rF σ 0 39) - 1)) dX14_isOpen_17 rfl ?_
    obtain ⟨b10, h⟩ := h
    refine y_iald hC (pc := 18) (rAr_m rfl) dX14_isOpen_18 b10 (v := (rA σ 1040 ((rF σ 0 39) - 1))) rfl (kk := ?_)
    have h := h (hwf.a _ _)
    refine z_iload_n hC (pc := 19) 1 dX14_isOpen_19 rfl rfl ?_
    obtain ⟨hT, hF⟩ := h
    refine y_icmp_ne hC (pc := 20) 27 (hwf.a _ _) hx1 dX14_isOpen_20 (by decide) (fun c => ?_) (fun c => ?_)
    · have h := hT c
      refine z_iconst hC (pc := 27) (v := Int32.ofInt 0) dX14_isOpen_27 (by decide) ?_
      exact y_reti hR dX14_isOpen_28 rfl (r_lit rfl) hwf (Nat.le_of_ble_eq_true rfl) (Nat.le_of_ble_eq_true rfl) ⟨rfl, h⟩
    · have h := hF c
      refine z_iconst hC (pc := 23) (v := Int32.ofInt 1) dX14_isOpen_23 (by decide) ?_
      refine z_goto hC (pc := 24) 28 dX14_isOpen_24 (by decide) ?_
      exact y_reti hR dX14_isOpen_28 rfl (r_lit rfl) hwf (Nat.le_of_ble_eq_true rfl) (Nat.le_of_ble_eq_true rfl) ⟨rfl, h⟩
theorem kX14_isOpen (l : Launch) (G : zG) (κ : Nat → Nat) (σ : rS) (x1 : Int) (x2 : Int) (hwf : rWF σ) (hx1 : rng x1) (hx2 : rng x2) (hp : pre_X14_isOpen σ x1 x2) : rMi l G κ yX14_isOpen cX14_isOpen 3 .boolean 1 0 [.ref (κ 0), iv x1, iv x2] σ (fun x s => s = σ ∧ post_X14_isOpen σ x1 x2 x) := wX14_isOpen l G κ σ x1 x2 hwf hx1 hx2 (post_X14_isOpen σ x1 x2) (vX14_isOpen σ x1 x2 hwf hx1 hx2 hp) 
def pre_X14_isNamed (σ : rS)  : Prop := 0 ≤ (rF σ 0 29) ∧ (rF σ 0 29) ≤ (rF σ 0 28) ∧ (rF σ 0 28) ≤ 4001
def post_X14_isNamed (σ : rS)  (r : Int) : Prop := (r = 0 ∨ r = 1)
def inv_X14_isNamed_26 (σ : rS)   (s : rS) (k : Int) : Prop := (rF σ 0 29) ≤ k ∧ k ≤ (rF σ 0 28)
def mu_X14_isNamed_26 (σ : rS)  (s : rS) (k : Int) : Nat := (1 + ((rF σ 0 28) - k).toNat)
def VC_X14_isNamed (σ : rS) (Q : Int → Prop) : Prop := (rng (rF σ 0 28) → (rng (rF σ 0 29) → pre_X14_wordEnd σ 1026 4001 (rF σ 0 28) (rF σ 0 29) ∧ (∀ (x12 : Int), rng x12 → post_X14_wordEnd σ 1026 4001 (rF σ 0 28) (rF σ 0 29) x12 → ((¬ x12 = (rF σ 0 29) → (inv_X14_isNamed_26 σ σ x12)) ∧ (x12 = (rF σ 0 29) → Q 0)))))
def VC_X14_isNamed_26 (σ : rS) (Q : Int → Prop) : Prop := ∀ (y13 : Int), rng y13 → inv_X14_isNamed_26 σ σ y13 → ((rng (rF σ 0 28) → (((rF σ 0 28) ≤ y13 → (((rF σ 0 28) ≤ y13 → Q 0) ∧ (¬ (rF σ 0 28) ≤ y13 → (0 ≤ y13 ∧ y13 < 4001) ∧ (rng (rA σ 1026 y13) → ((¬ (rA σ 1026 y13) = 61 → Q 0) ∧ ((rA σ 1026 y13) = 61 → Q 1)))))) ∧ (¬ (rF σ 0 28) ≤ y13 → (0 ≤ y13 ∧ y13 < 4001) ∧ (rng (rA σ 1026 y13) → pre_X14_isBlank σ (rA σ 1026 y13) ∧ (∀ (x18 : Int), rng x18 → post_X14_isBlank σ (rA σ 1026 y13) x18 → ((x18 = 0 → (((rF σ 0 28) ≤ y13 → Q 0) ∧ (¬ (rF σ 0 28) ≤ y13 → (0 ≤ y13 ∧ y13 < 4001) ∧ ((¬ (rA σ 1026 y13) = 61 → Q 0) ∧ ((rA σ 1026 y13) = 61 → Q 1))))) ∧ (¬ x18 = 0 → rng (y13 + 1) ∧ (inv_X14_isNamed_26 σ σ (y13 + 1) ∧ (mu_X14_isNamed_26 σ σ (y13 + 1)) < (mu_X14_isNamed_26 σ σ y13))))))))))
def VC_X14_isNamed_26m (σ : rS) : Prop := ∀ (y13 : Int), rng y13 → inv_X14_isNamed_26 σ σ y13 → 0 < (mu_X14_isNamed_26 σ σ y13)
set_option maxHeartbeats 400000 in
theorem vX14_isNamed (σ : rS) (hwf : rWF σ) (hp : pre_X14_isNamed σ ) : VC_X14_isNamed σ (post_X14_isNamed σ ) := by
  simp only [VC_X14_isNamed, pre_X14_isNamed, post_X14_isNamed, inv_X14_isNamed_26, mu_X14_isNamed_26, pre_X14_wordEnd, pre_X14_isBlank, post_X14_wordEnd, post_X14_isBlank, rng, rfk, rNMp, rF_sF, rF_sA, rF_sL, rF_sR, rA_sA, rA_sF, rA_sL, rA_sR, rR_sF, rR_sA, rR_sL, rR_sR, reduceIte, and_true, true_and, and_false, false_and, and_self] at *
  (repeat' (first | with_reducible intro _ | with_reducible apply And.intro))
  all_goals (first | assumption | omega | grind (splits := 20) [rNM_sF0])
set_option maxHeartbeats 400000 in
theorem vX14_isNamed_26 (σ : rS) (hwf : rWF σ) (hp : pre_X14_isNamed σ ) : VC_X14_isNamed_26 σ (post_X14_isNamed σ ) := by
  simp only [VC_X14_isNamed_26, pre_X14_isNamed, post_X14_isNamed, inv_X14_isNamed_26, mu_X14_isNamed_26, pre_X14_wordEnd, pre_X14_isBlank, post_X14_wordEnd, post_X14_isBlank, rng, rfk, rNMp, rF_sF, rF_sA, rF_sL, rF_sR, rA_sA, rA_sF, rA_sL, rA_sR, rR_sF, rR_sA, rR_sL, rR_sR, reduceIte, and_true, true_and, and_false, false_and, and_self] at *
  (repeat' (first | with_reducible intro _ | with_reducible apply And.intro))
  all_goals (first | assumption | omega | grind (splits := 20) [rNM_sF0])
set_option maxHeartbeats 400000 in
theorem vX14_isNamed_26m (σ : rS) (hwf : rWF σ) (hp : pre_X14_isNamed σ ) : VC_X14_isNamed_26m σ := by
  simp only [VC_X14_isNamed_26m, pre_X14_isNamed, post_X14_isNamed, inv_X14_isNamed_26, mu_X14_isNamed_26, pre_X14_wordEnd, pre_X14_isBlank, post_X14_wordEnd, post_X14_isBlank, rng, rfk, rNMp, rF_sF, rF_sA, rF_sL, rF_sR, rA_sA, rA_sF, rA_sL, rA_sR, rR_sF, rR_sA, rR_sL, rR_sR, reduceIte, and_true, true_and, and_false, false_and, and_self] at *
  (repeat' (first | with_reducible intro _ | with_reducible apply And.intro))
  all_goals (first | assumption | omega | grind (splits := 20) [rNM_sF0])
theorem wX14_isNamed (l : Launch) (G : zG) (κ : Nat → Nat) (σ : rS) (hwf : rWF σ) (Q : Int → Prop) (h : VC_X14_isNamed σ Q) (h_26 : VC_X14_isNamed_26 σ Q) (h_26m : VC_X14_isNamed_26m σ ) : rMi l G κ yX14_isNamed cX14_isNamed 2 .boolean 3 43 [.ref (κ 0)] σ (fun x s => s = σ ∧ Q x) := by
  refine zMi.intro (by decide +kernel) (Nat.le_of_ble_eq_true rfl) (fun X hC hR => ?_)
  refine z_aload_n hC (pc := 0) 0 dX14_isNamed_0 rfl rfl ?_
  refine y_get hC (pc := 1) zf14 rOb_0 26 (v := .ref (κ 1026)) dX14_isNamed_1 zw2493 (rv_c rfl) (kk := ?_)
  refine z_aload_n hC (pc := 4) 0 dX14_isNamed_4 rfl rfl ?_
  refine y_get hC (pc := 5) zf14 rOb_0 28 (v := iv (rF σ 0 28)) dX14_isNamed_5 zw2495 (rv_i (Or.inl rfl) rfl) (kk := ?_)
  have h := h (hwf.f _ _)
  refine z_aload_n hC (pc := 8) 0 dX14_isNamed_8 rfl rfl ?_
  refine y_get hC (pc := 9) zf14 rOb_0 29 (v := iv (rF σ 0 29)) dX14_isNamed_9 zw2496 (rv_i (Or.inl rfl) rfl) (kk := ?_)
  have h := h (hwf.f _ _)
  obtain ⟨p10, h⟩ := h
  refine y_callSi hC (pc := 12) (As := [.ref (κ 1026), iv (rF σ 0 28), iv (rF σ 0 29)]) (kX14_wordEnd l G κ σ 1026 4001 (rF σ 0 28) (rF σ 0 29) hwf (rAr_m rfl) (hwf.f _ _) (hwf.f _ _) p10) dmX14_wordEnd dX14_isNamed_12 zw3009 rfl rfl (Nat.le_of_ble_eq_true rfl) (Nat.le_of_ble_eq_true rfl) (Nat.le_of_ble_eq_true rfl) (Nat.le_of_ble_eq_true rfl) (Nat.le_of_ble_eq_true rfl) (kk := fun x12 s11 hx12 Ws11 qs11 => ?_)
  obtain ⟨es11, qs11⟩ := qs11
  have es11 := es11.symm
  subst es11
  have h := h x12 hx12 qs11
  refine z_istore_n hC (pc := 15) (lv' := [(1, iv x12), (0, .ref (κ 0))]) dX14_isNamed_15 rfl (by decide) rfl ?_
  refine z_iload_n hC (pc := 16) 0 dX14_isNamed_16 rfl rfl ?_
  refine z_aload_n hC (pc := 17) 1 dX14_isNamed_17 rfl rfl ?_
  refine y_get hC (pc := 18) zf14 rOb_0 29 (v := iv (rF σ 0 29)) dX14_isNamed_18 zw2496 (rv_i (Or.inl rfl) rfl) (kk := ?_)
  have j26 : ∀ (d26 : Nat), ∀ (y13 : Int), rng y13 → inv_X14_isNamed_26 σ σ y13 → (mu_X14_isNamed_26 σ  σ y13) ≤ d26 → zS X G 2 (rW G κ σ) [(0, .ref (κ 0)), (1, iv y13)] 0 0 26 [] := by
    intro d26
    induction d26 with
    | zero =>
      intro y13 hy13 hI hmu
      exact absurd hmu (by have := h_26m   y13  hy13  hI; omega)
    | succ d26 ih26 =>
      intro y13 hy13 hI hmu26
      have h := h_26   y13  hy13  hI
      refine z_iload_n hC (pc := 26) 1 dX14_isNamed_26 rfl rfl ?_
      refine z_aload_n hC (pc := 27) 0 dX14_isNamed_27 rfl rfl ?_
      refine y_get hC (pc := 28) zf14 rOb_0 28 (v := iv (rF σ 0 28)) dX14_isNamed_28 zw2495 (rv_i (Or.inl rfl) rfl) (kk := ?_)
      have h := h (hwf.f _ _)
      obtain ⟨hT, hF⟩ := h
      refine y_icmp_ge hC (pc := 31) 52 hy13 (hwf.f _ _) dX14_isNamed_31 (by decide) (fun c => ?_) (fun c => ?_)
      · have h := hT c
        refine z_iload_n hC (pc := 52) 1 dX14_isNamed_52 rfl rfl ?_
        refine z_aload_n hC (pc := 53) 0 dX14_isNamed_53 rfl rfl ?_
        refine y_get hC (pc := 54) zf14 rOb_0 28 (v := iv (rF σ 0 28)) dX14_isNamed_54 zw2495 (rv_i (Or.inl rfl) rfl) (kk := ?_)
        obtain ⟨hT, hF⟩ := h
        refine y_icmp_ge hC (pc := 57) 75 hy13 (hwf.f _ _) dX14_isNamed_57 (by decide) (fun c => ?_) (fun c => ?_)
        · have h := hT c
          refine z_iconst hC (pc := 75) (v := Int32.ofInt 0) dX14_isNamed_75 (by decide) ?_
          exact y_reti hR dX14_isNamed_76 rfl (r_lit rfl) hwf (Nat.le_of_ble_eq_true rfl) (Nat.le_of_ble_eq_true rfl) ⟨rfl, h⟩
        · have h := hF c
          refine z_aload_n hC (pc := 60) 0 dX14_isNamed_60 rfl rfl ?_
          refine y_get hC (pc := 61) zf14 rOb_0 26 (v := .ref (κ 1026)) dX14_isNamed_61 zw2493 (rv_c rfl) (kk := ?_)
          refine z_iload_n hC (pc := 64) 1 dX14_isNamed_64 rfl rfl ?_
          obtain ⟨b14, h⟩ := h
          refine y_bald hC (pc := 65) (rAr_m rfl) dX14_isNamed_65 b14 (v := (rA σ 1026 y13)) rfl (kk := ?_)
          have h := h (hwf.a _ _)
          refine z_bipush hC (pc := 66) (v := Int32.ofInt 61) dX14_isNamed_66 (by decide) ?_
          obtain ⟨hT, hF⟩ := h
          refine y_icmp_ne hC (pc := 68) 75 (hwf.a _ _) (r_lit rfl) dX14_isNamed_68 (by decide) (fun c => ?_) (fun c => ?_)
          · have h := hT c
            refine z_iconst hC (pc := 75) (v := Int32.ofInt 0) dX14_isNamed_75 (by decide) ?_
            exact y_reti hR dX14_isNamed_76 rfl (r_lit rfl) hwf (Nat.le_of_ble_eq_true rfl) (Nat.le_of_ble_eq_true rfl) ⟨rfl, h⟩
          · have h := hF c
            refine z_iconst hC (pc := 71) (v := Int32.ofInt 1) dX14_isNamed_71 (by decide) ?_
            refine z_goto hC (pc := 72) 76 dX14_isNamed_72 (by decide) ?_
            exact y_reti hR dX14_isNamed_76 rfl (r_lit rfl) hwf (Nat.le_of_ble_eq_true rfl) (Nat.le_of_ble_eq_true rfl) ⟨rfl, h⟩
      · have h := hF c
        refine z_aload_n hC (pc := 34) 0 dX14_isNamed_34 rfl rfl ?_
        refine y_get hC (pc := 35) zf14 rOb_0 26 (v := .ref (κ 1026)) dX14_isNamed_35 zw2493 (rv_c rfl) (kk := ?_)
        refine z_iload_n hC (pc := 38) 1 dX14_isNamed_38 rfl rfl ?_
        obtain ⟨b15, h⟩ := h
        refine y_bald hC (pc := 39) (rAr_m rfl) dX14_isNamed_39 b15 (v := (rA σ 1026 y13)) rfl (kk := ?_)
        have h := h (hwf.a _ _)
        obtain ⟨p16, h⟩ := h
        refine y_callSi hC (pc := 40) (As := [iv (rA σ 1026 y13)]) (kX14_isBlank l G κ σ (rA σ 1026 y13) hwf (hwf.a _ _) p16) dmX14_isBlank dX14_isNamed_40 zw2997 rfl rfl (Nat.le_of_ble_eq_true rfl) (Nat.le_of_ble_eq_true rfl) (Nat.le_of_ble_eq_true rfl) (Nat.le_of_ble_eq_true rfl) (Nat.le_of_ble_eq_true rfl) (kk := fun x18 s17 hx18 Ws17 qs17 => ?_)
        obtain ⟨es17, qs17⟩ := qs17
        have es17 := es17.symm
        subst es17
        have h := h x18 hx18 qs17
        obtain ⟨hT, hF⟩ := h
        refine y_if_eq hC (pc := 43) 52 hx18 dX14_isNamed_43 (by decide) (fun c => ?_) (fun c => ?_)
        · have h := hT c
          refine z_iload_n hC (pc := 52) 1 dX14_isNamed_52 rfl rfl ?_
          refine z_aload_n hC (pc := 53) 0 dX14_isNamed_53 rfl rfl ?_
          refine y_get hC (pc := 54) zf14 rOb_0 28 (v := iv (rF σ 0 28)) dX14_isNamed_54 zw2495 (rv_i (Or.inl rfl) rfl) (kk := ?_)
          obtain ⟨hT, hF⟩ := h
          refine y_icmp_ge hC (pc := 57) 75 hy13 (hwf.f _ _) dX14_isNamed_57 (by decide) (fun c => ?_) (fun c => ?_)
          · have h := hT c
            refine z_iconst hC (pc := 75) (v := Int32.ofInt 0) dX14_isNamed_75 (by decide) ?_
            exact y_reti hR dX14_isNamed_76 rfl (r_lit rfl) hwf (Nat.le_of_ble_eq_true rfl) (Nat.le_of_ble_eq_true rfl) ⟨rfl, h⟩
          · have h := hF c
            refine z_aload_n hC (pc := 60) 0 dX14_isNamed_60 rfl rfl ?_
            refine y_get hC (pc := 61) zf14 rOb_0 26 (v := .ref (κ 1026)) dX14_isNamed_61 zw2493 (rv_c rfl) (kk := ?_)
            refine z_iload_n hC (pc := 64) 1 dX14_isNamed_64 rfl rfl ?_
            obtain ⟨b19, h⟩ := h
            refine y_bald hC (pc := 65) (rAr_m rfl) dX14_isNamed_65 b19 (v := (rA σ 1026 y13)) rfl (kk := ?_)
            refine z_bipush hC (pc := 66) (v := Int32.ofInt 61) dX14_isNamed_66 (by decide) ?_
            obtain ⟨hT, hF⟩ := h
            refine y_icmp_ne hC (pc := 68) 75 (hwf.a _ _) (r_lit rfl) dX14_isNamed_68 (by decide) (fun c => ?_) (fun c => ?_)
            · have h := hT c
              refine z_iconst hC (pc := 75) (v := Int32.ofInt 0) dX14_isNamed_75 (by decide) ?_
              exact y_reti hR dX14_isNamed_76 rfl (r_lit rfl) hwf (Nat.le_of_ble_eq_true rfl) (Nat.le_of_ble_eq_true rfl) ⟨rfl, h⟩
            · have h := hF c
              refine z_iconst hC (pc := 71) (v := Int32.ofInt 1) dX14_isNamed_71 (by decide) ?_
              refine z_goto hC (pc := 72) 76 dX14_isNamed_72 (by decide) ?_
              exact y_reti hR dX14_isNamed_76 rfl (r_lit rfl) hwf (Nat.le_of_ble_eq_true rfl) (Nat.le_of_ble_eq_true rfl) ⟨rfl, h⟩
        · have h := hF c
          refine y_iinc hC (pc := 46) (v := (y13 + 1)) (lv' := [(1, iv (y13 + 1)), (0, .ref (κ 0))]) 1 dX14_isNamed_46 rfl rfl (by decide) rfl ?_
          refine z_goto hC (pc := 49) 26 dX14_isNamed_49 (by decide) ?_
          refine z_lvs [1, 0] rfl ?_
          obtain ⟨r20, h⟩ := h
          obtain ⟨hI, hm⟩ := h
          exact ih26  (y13 + 1)  r20  hI (by omega)
  obtain ⟨hT, hF⟩ := h
  refine y_icmp_ne hC (pc := 21) 26 hx12 (hwf.f _ _) dX14_isNamed_21 (by decide) (fun c => ?_) (fun c => ?_)
  · have h := hT c
    refine z_lvs [1, 0] rfl ?_
    exact j26 _  x12  hx12  h (Nat.le_refl _)
  · have h := hF c
    refine z_iconst hC (pc := 24) (v := Int32.ofInt 0) dX14_isNamed_24 (by decide) ?_
    exact y_reti hR dX14_isNamed_25 rfl (r_lit rfl) hwf (Nat.le_of_ble_eq_true rfl) (Nat.le_of_ble_eq_true rfl) ⟨rfl, h⟩
theorem kX14_isNamed (l : Launch) (G : zG) (κ : Nat → Nat) (σ : rS) (hwf : rWF σ) (hp : pre_X14_isNamed σ ) : rMi l G κ yX14_isNamed cX14_isNamed 2 .boolean 3 43 [.ref (κ 0)] σ (fun x s => s = σ ∧ post_X14_isNamed σ x) := wX14_isNamed l G κ σ hwf (post_X14_isNamed σ ) (vX14_isNamed σ hwf hp) (vX14_isNamed_26 σ hwf hp) (vX14_isNamed_26m σ hwf hp)
def pre_X14_bar (σ : rS)  : Prop := 0 ≤ (rF σ 0 29) ∧ (rF σ 0 29) ≤ (rF σ 0 28) ∧ (rF σ 0 28) ≤ 4001
def post_X14_bar (σ : rS)  (r : Int) : Prop := r = -1 ∨ ((rF σ 0 29) ≤ r ∧ r < (rF σ 0 28))
def inv_X14_bar_7 (σ : rS)   (s : rS) (k : Int) (more : Int) : Prop := (rF σ 0 29) ≤ k ∧ k ≤ (rF σ 0 28) ∧ (more = 0 ∨ more = 1)
def mu_X14_bar_7 (σ : rS)  (s : rS) (k : Int) (more : Int) : Nat := (1 + 2 * ((rF σ 0 28) - k).toNat + more.toNat)
def inv_X14_bar_11 (σ : rS)  (m7 : Nat) (s : rS) (k : Int) : Prop := (rF σ 0 29) ≤ k ∧ k ≤ (rF σ 0 28) ∧ 2 * ((rF σ 0 28) - k).toNat + 2 ≤ m7
def mu_X14_bar_11 (σ : rS)  (s : rS) (k : Int) : Nat := (1 + ((rF σ 0 28) - k).toNat)
def inv_X14_bar_59 (σ : rS)  (m7 : Nat) (s : rS) (k : Int) : Prop := (rF σ 0 29) ≤ k ∧ k ≤ (rF σ 0 28) ∧ 2 * ((rF σ 0 28) - k).toNat + 2 < m7
def mu_X14_bar_59 (σ : rS)  (s : rS) (k : Int) : Nat := (1 + ((rF σ 0 28) - k).toNat)
def VC_X14_bar (σ : rS) (Q : Int → Prop) : Prop := (rng (rF σ 0 29) → (inv_X14_bar_7 σ σ (rF σ 0 29) 1))
def VC_X14_bar_59 (σ : rS) (Q : Int → Prop) : Prop := ∀ (m7 : Nat) (y16 : Int), rng y16 → inv_X14_bar_59 σ m7 σ y16 → ((rng (rF σ 0 28) → (((rF σ 0 28) ≤ y16 → (((rF σ 0 28) ≤ y16 → (inv_X14_bar_7 σ σ y16 0 ∧ (mu_X14_bar_7 σ σ y16 0) < m7)) ∧ (¬ (rF σ 0 28) ≤ y16 → (0 ≤ y16 ∧ y16 < 4001) ∧ (rng (rA σ 1026 y16) → ((¬ (rA σ 1026 y16) = 44 → (inv_X14_bar_7 σ σ y16 0 ∧ (mu_X14_bar_7 σ σ y16 0) < m7)) ∧ ((rA σ 1026 y16) = 44 → rng (y16 + 1) ∧ (inv_X14_bar_7 σ σ (y16 + 1) 1 ∧ (mu_X14_bar_7 σ σ (y16 + 1) 1) < m7))))))) ∧ (¬ (rF σ 0 28) ≤ y16 → (0 ≤ y16 ∧ y16 < 4001) ∧ (rng (rA σ 1026 y16) → pre_X14_isBlank σ (rA σ 1026 y16) ∧ (∀ (x22 : Int), rng x22 → post_X14_isBlank σ (rA σ 1026 y16) x22 → ((x22 = 0 → (((rF σ 0 28) ≤ y16 → (inv_X14_bar_7 σ σ y16 0 ∧ (mu_X14_bar_7 σ σ y16 0) < m7)) ∧ (¬ (rF σ 0 28) ≤ y16 → (0 ≤ y16 ∧ y16 < 4001) ∧ ((¬ (rA σ 1026 y16) = 44 → (inv_X14_bar_7 σ σ y16 0 ∧ (mu_X14_bar_7 σ σ y16 0) < m7)) ∧ ((rA σ 1026 y16) = 44 → rng (y16 + 1) ∧ (inv_X14_bar_7 σ σ (y16 + 1) 1 ∧ (mu_X14_bar_7 σ σ (y16 + 1) 1) < m7)))))) ∧ (¬ x22 = 0 → rng (y16 + 1) ∧ (inv_X14_bar_59 σ m7 σ (y16 + 1) ∧ (mu_X14_bar_59 σ σ (y16 + 1)) < (mu_X14_bar_59 σ σ y16))))))))))
def VC_X14_bar_59m (σ : rS) : Prop := ∀ (m7 : Nat) (y16 : Int), rng y16 → inv_X14_bar_59 σ m7 σ y16 → 0 < (mu_X14_bar_59 σ σ y16)
def VC_X14_bar_11 (σ : rS) (Q : Int → Prop) : Prop := ∀ (m7 : Nat) (y12 : Int), rng y12 → inv_X14_bar_11 σ m7 σ y12 → ((rng (rF σ 0 28) → (((rF σ 0 28) ≤ y12 → pre_X14_wordEnd σ 1026 4001 (rF σ 0 28) y12 ∧ (∀ (x15 : Int), rng x15 → post_X14_wordEnd σ 1026 4001 (rF σ 0 28) y12 x15 → ((¬ x15 = y12 → (inv_X14_bar_59 σ m7 σ x15)) ∧ (x15 = y12 → Q (-1))))) ∧ (¬ (rF σ 0 28) ≤ y12 → (0 ≤ y12 ∧ y12 < 4001) ∧ (rng (rA σ 1026 y12) → pre_X14_isBlank σ (rA σ 1026 y12) ∧ (∀ (x29 : Int), rng x29 → post_X14_isBlank σ (rA σ 1026 y12) x29 → ((x29 = 0 → pre_X14_wordEnd σ 1026 4001 (rF σ 0 28) y12 ∧ (∀ (x32 : Int), rng x32 → post_X14_wordEnd σ 1026 4001 (rF σ 0 28) y12 x32 → ((¬ x32 = y12 → (inv_X14_bar_59 σ m7 σ x32)) ∧ (x32 = y12 → Q (-1))))) ∧ (¬ x29 = 0 → rng (y12 + 1) ∧ (inv_X14_bar_11 σ m7 σ (y12 + 1) ∧ (mu_X14_bar_11 σ σ (y12 + 1)) < (mu_X14_bar_11 σ σ y12))))))))))
def VC_X14_bar_11m (σ : rS) : Prop := ∀ (m7 : Nat) (y12 : Int), rng y12 → inv_X14_bar_11 σ m7 σ y12 → 0 < (mu_X14_bar_11 σ σ y12)
def VC_X14_bar_7 (σ : rS) (Q : Int → Prop) : Prop := ∀ (y10 : Int) (y11 : Int), rng y10 → rng y11 → inv_X14_bar_7 σ σ y10 y11 → (((y11 = 0 → (rng (rF σ 0 28) → (((rF σ 0 28) ≤ y10 → Q (-1)) ∧ (¬ (rF σ 0 28) ≤ y10 → (0 ≤ y10 ∧ y10 < 4001) ∧ (rng (rA σ 1026 y10) → ((¬ (rA σ 1026 y10) = 124 → Q (-1)) ∧ ((rA σ 1026 y10) = 124 → Q y10))))))) ∧ (¬ y11 = 0 → (inv_X14_bar_11 σ (mu_X14_bar_7 σ σ y10 y11) σ y10))))
def VC_X14_bar_7m (σ : rS) : Prop := ∀ (y10 : Int) (y11 : Int), rng y10 → rng y11 → inv_X14_bar_7 σ σ y10 y11 → 0 < (mu_X14_bar_7 σ σ y10 y11)
set_option maxHeartbeats 400000 in
theorem vX14_bar (σ : rS) (hwf : rWF σ) (hp : pre_X14_bar σ ) : VC_X14_bar σ (post_X14_bar σ ) := by
  simp only [VC_X14_bar, pre_X14_bar, post_X14_bar, inv_X14_bar_7, inv_X14_bar_11, inv_X14_bar_59, mu_X14_bar_7, mu_X14_bar_11, mu_X14_bar_59, pre_X14_wordEnd, pre_X14_isBlank, post_X14_wordEnd, post_X14_isBlank, rng, rfk, rNMp, rF_sF, rF_sA, rF_sL, rF_sR, rA_sA, rA_sF, rA_sL, rA_sR, rR_sF, rR_sA, rR_sL, rR_sR, reduceIte, and_true, true_and, and_false, false_and, and_self] at *
  (repeat' (first | with_reducible intro _ | with_reducible apply And.intro))
  all_goals (first | assumption | omega | grind (splits := 20) [rNM_sF0])
set_option maxHeartbeats 400000 in
theorem vX14_bar_59 (σ : rS) (hwf : rWF σ) (hp : pre_X14_bar σ ) : VC_X14_bar_59 σ (post_X14_bar σ ) := by
  simp only [VC_X14_bar_59, pre_X14_bar, post_X14_bar, inv_X14_bar_7, inv_X14_bar_11, inv_X14_bar_59, mu_X14_bar_7, mu_X14_bar_11, mu_X14_bar_59, pre_X14_wordEnd, pre_X14_isBlank, post_X14_wordEnd, post_X14_isBlank, rng, rfk, rNMp, rF_sF, rF_sA, rF_sL, rF_sR, rA_sA, rA_sF, rA_sL, rA_sR, rR_sF, rR_sA, rR_sL, rR_sR, reduceIte, and_true, true_and, and_false, false_and, and_self] at *
  (repeat' (first | with_reducible intro _ | with_reducible apply And.intro))
  all_goals (first | assumption | omega | grind (splits := 20) [rNM_sF0])
set_option maxHeartbeats 400000 in
theorem vX14_bar_59m (σ : rS) (hwf : rWF σ) (hp : pre_X14_bar σ ) : VC_X14_bar_59m σ := by
  simp only [VC_X14_bar_59m, pre_X14_bar, post_X14_bar, inv_X14_bar_7, inv_X14_bar_11, inv_X14_bar_59, mu_X14_bar_7, mu_X14_bar_11, mu_X14_bar_59, pre_X14_wordEnd, pre_X14_isBlank, post_X14_wordEnd, post_X14_isBlank, rng, rfk, rNMp, rF_sF, rF_sA, rF_sL, rF_sR, rA_sA, rA_sF, rA_sL, rA_sR, rR_sF, rR_sA, rR_sL, rR_sR, reduceIte, and_true, true_and, and_false, false_and, and_self] at *
  (repeat' (first | with_reducible intro _ | with_reducible apply And.intro))
  all_goals (first | assumption | omega | grind (splits := 20) [rNM_sF0])
set_option maxHeartbeats 400000 in
theorem vX14_bar_11 (σ : rS) (hwf : rWF σ) (hp : pre_X14_bar σ ) : VC_X14_bar_11 σ (post_X14_bar σ ) := by
  simp only [VC_X14_bar_11, pre_X14_bar, post_X14_bar, inv_X14_bar_7, inv_X14_bar_11, inv_X14_bar_59, mu_X14_bar_7, mu_X14_bar_11, mu_X14_bar_59, pre_X14_wordEnd, pre_X14_isBlank, post_X14_wordEnd, post_X14_isBlank, rng, rfk, rNMp, rF_sF, rF_sA, rF_sL, rF_sR, rA_sA, rA_sF, rA_sL, rA_sR, rR_sF, rR_sA, rR_sL, rR_sR, reduceIte, and_true, true_and, and_false, false_and, and_self] at *
  (repeat' (first | with_reducible intro _ | with_reducible apply And.intro))
  all_goals (first | assumption | omega | grind (splits := 20) [rNM_sF0])
set_option maxHeartbeats 400000 in
theorem vX14_bar_11m (σ : rS) (hwf : rWF σ) (hp : pre_X14_bar σ ) : VC_X14_bar_11m σ := by
  simp only [VC_X14_bar_11m, pre_X14_bar, post_X14_bar, inv_X14_bar_7, inv_X14_bar_11, inv_X14_bar_59, mu_X14_bar_7, mu_X14_bar_11, mu_X14_bar_59, pre_X14_wordEnd, pre_X14_isBlank, post_X14_wordEnd, post_X14_isBlank, rng, rfk, rNMp, rF_sF, rF_sA, rF_sL, rF_sR, rA_sA, rA_sF, rA_sL, rA_sR, rR_sF, rR_sA, rR_sL, rR_sR, reduceIte, and_true, true_and, and_false, false_and, and_self] at *
  (repeat' (first | with_reducible intro _ | with_reducible apply And.intro))
  all_goals (first | assumption | omega | grind (splits := 20) [rNM_sF0])
set_option maxHeartbeats 400000 in
theorem vX14_bar_7 (σ : rS) (hwf : rWF σ) (hp : pre_X14_bar σ ) : VC_X14_bar_7 σ (post_X14_bar σ ) := by
  simp only [VC_X14_bar_7, pre_X14_bar, post_X14_bar, inv_X14_bar_7, inv_X14_bar_11, inv_X14_bar_59, mu_X14_bar_7, mu_X14_bar_11, mu_X14_bar_59, pre_X14_wordEnd, pre_X14_isBlank, post_X14_wordEnd, post_X14_isBlank, rng, rfk, rNMp, rF_sF, rF_sA, rF_sL, rF_sR, rA_sA, rA_sF, rA_sL, rA_sR, rR_sF, rR_sA, rR_sL, rR_sR, reduceIte, and_true, true_and, and_false, false_and, and_self] at *
  (repeat' (first | with_reducible intro _ | with_reducible apply And.intro))
  all_goals (first | assumption | omega | grind (splits := 20) [rNM_sF0])
set_option maxHeartbeats 400000 in
theorem vX14_bar_7m (σ : rS) (hwf : rWF σ) (hp : pre_X14_bar σ ) : VC_X14_bar_7m σ := by
  simp only [VC_X14_bar_7m, pre_X14_bar, post_X14_bar, inv_X14_bar_7, inv_X14_bar_11, inv_X14_bar_59, mu_X14_bar_7, mu_X14_bar_11, mu_X14_bar_59, pre_X14_wordEnd, pre_X14_isBlank, post_X14_wordEnd, post_X14_isBlank, rng, rfk, rNMp, rF_sF, rF_sA, rF_sL, rF_sR, rA_sA, rA_sF, rA_sL, rA_sR, rR_sF, rR_sA, rR_sL, rR_sR, reduceIte, and_true, true_and, and_false, false_and, and_self] at *
  (repeat' (first | with_reducible intro _ | with_reducible apply And.intro))
  all_goals (first | assumption | omega | grind (splits := 20) [rNM_sF0])
theorem wX14_bar (l : Launch) (G : zG) (κ : Nat → Nat) (σ : rS) (hwf : rWF σ) (Q : Int → Prop) (h : VC_X14_bar σ Q) (h_59 : VC_X14_bar_59 σ Q) (h_59m : VC_X14_bar_59m σ ) (h_11 : VC_X14_bar_11 σ Q) (h_11m : VC_X14_bar_11m σ ) (h_7 : VC_X14_bar_7 σ Q) (h_7m : VC_X14_bar_7m σ ) : rMi l G κ yX14_bar cX14_bar 4 .int 3 43 [.ref (κ 0)] σ (fun x s => s = σ ∧ Q x) := by
  refine zMi.intro (by decide +kernel) (Nat.le_of_ble_eq_true rfl) (fun X hC hR => ?_)
  refine z_aload_n hC (pc := 0) 0 dX14_bar_0 rfl rfl ?_
  refine y_get hC (pc := 1) zf14 rOb_0 29 (v := iv (rF σ 0 29)) dX14_bar_1 zw2496 (rv_i (Or.inl rfl) rfl) (kk := ?_)
  have h := h (hwf.f _ _)
  refine z_istore_n hC (pc := 4) (lv' := [(1, iv (rF σ 0 29)), (0, .ref (κ 0))]) dX14_bar_4 rfl (by decide) rfl ?_
  refine z_iconst hC (pc := 5) (v := Int32.ofInt 1) dX14_bar_5 (by decide) ?_
  refine z_istore_n hC (pc := 6) (lv' := [(2, iv 1), (1, iv (rF σ 0 29)), (0, .ref (κ 0))]) dX14_bar_6 rfl (by decide) rfl ?_
  have j7 : ∀ (d7 : Nat), ∀ (y10 : Int) (y11 : Int), rng y10 → rng y11 → inv_X14_bar_7 σ σ y10 y11 → (mu_X14_bar_7 σ  σ y10 y11) ≤ d7 → zS X G 4 (rW G κ σ) [(0, .ref (κ 0)), (1, iv y10), (2, iv y11)] 0 0 7 [] := by
    intro d7
    induction d7 with
    | zero =>
      intro y10 y11 hy10 hy11 hI hmu
      exact absurd hmu (by have := h_7m   y10 y11  hy10 hy11  hI; omega)
    | succ d7 ih7 =>
      intro y10 y11 hy10 hy11 hI hmu7
      have h := h_7   y10 y11  hy10 hy11  hI
      refine z_iload_n hC (pc := 7) 2 dX14_bar_7 rfl rfl ?_
      have j11 : ∀ (d11 : Nat), ∀ (y12 : Int), rng y12 → inv_X14_bar_11 σ (mu_X14_bar_7 σ σ y10 y11) σ y12 → (mu_X14_bar_11 σ  σ y12) ≤ d11 → zS X G 4 (rW G κ σ) [(0, .ref (κ 0)), (1, iv y12)] 0 0 11 [] := by
        intro d11
        induction d11 with
        | zero =>
          intro y12 hy12 hI hmu
          exact absurd hmu (by have := h_11m (mu_X14_bar_7 σ  σ y10 y11)  y12  hy12  hI; omega)
        | succ d11 ih11 =>
          intro y12 hy12 hI hmu11
          have h := h_11 (mu_X14_bar_7 σ  σ y10 y11)  y12  hy12  hI
          refine z_iload_n hC (pc := 11) 1 dX14_bar_11 rfl rfl ?_
          refine z_aload_n hC (pc := 12) 0 dX14_bar_12 rfl rfl ?_
          refine y_get hC (pc := 13) zf14 rOb_0 28 (v := iv (rF σ 0 28)) dX14_bar_13 zw2495 (rv_i (Or.inl rfl) rfl) (kk := ?_)
          have h := h (hwf.f _ _)
          obtain ⟨hT, hF⟩ := h
          refine y_icmp_ge hC (pc := 16) 37 hy12 (hwf.f _ _) dX14_bar_16 (by decide) (fun c => ?_) (fun c => ?_)
          · have h := hT c
            refine z_aload_n hC (pc := 37) 0 dX14_bar_37 rfl rfl ?_
            refine y_get hC (pc := 38) zf14 rOb_0 26 (v := .ref (κ 1026)) dX14_bar_38 zw2493 (rv_c rfl) (kk := ?_)
            refine z_aload_n hC (pc := 41) 0 dX14_bar_41 rfl rfl ?_
            refine y_get hC (pc := 42) zf14 rOb_0 28 (v := iv (rF σ 0 28)) dX14_bar_42 zw2495 (rv_i (Or.inl rfl) rfl) (kk := ?_)
            refine z_iload_n hC (pc := 45) 1 dX14_bar_45 rfl rfl ?_
            obtain ⟨p13, h⟩ := h
            refine y_callSi hC (pc := 46) (As := [.ref (κ 1026), iv (rF σ 0 28), iv y12]) (kX14_wordEnd l G κ σ 1026 4001 (rF σ 0 28) y12 hwf (rAr_m rfl) (hwf.f _ _) hy12 p13) dmX14_wordEnd dX14_bar_46 zw3009 rfl rfl (Nat.le_of_ble_eq_true rfl) (Nat.le_of_ble_eq_true rfl) (Nat.le_of_ble_eq_true rfl) (Nat.le_of_ble_eq_true rfl) (Nat.le_of_ble_eq_true rfl) (kk := fun x15 s14 hx15 Ws14 qs14 => ?_)
            obtain ⟨es14, qs14⟩ := qs14
            have es14 := es14.symm
            subst es14
            have h := h x15 hx15 qs14
            refine z_istore_n hC (pc := 49) (lv' := [(3, iv x15), (0, .ref (κ 0)), (1, iv y12)]) dX14_bar_49 rfl (by decide) rfl ?_
            refine z_iload_n hC (pc := 50) 0 dX14_bar_50 rfl rfl ?_
            refine z_iload_n hC (pc := 51) 2 dX14_bar_51 rfl rfl ?_
            obtain ⟨hT, hF⟩ := h
            refine y_icmp_ne hC (pc := 52) 57 hx15 hy12 dX14_bar_52 (by decide) (fun c => ?_) (fun c => ?_)
            · have h := hT c
              refine z_iload_n hC (pc := 57) 0 dX14_bar_57 rfl rfl ?_
              refine z_istore_n hC (pc := 58) (lv' := [(1, iv x15), (3, iv x15), (0, .ref (κ 0))]) dX14_bar_58 rfl (by decide) rfl ?_
              have j59 : ∀ (d59 : Nat), ∀ (y16 : Int), rng y16 → inv_X14_bar_59 σ (mu_X14_bar_7 σ σ y10 y11) σ y16 → (mu_X14_bar_59 σ  σ y16) ≤ d59 → zS X G 4 (rW G κ σ) [(0, .ref (κ 0)), (1, iv y16)] 0 0 59 [] := by
                intro d59
                induction d59 with
                | zero =>
                  intro y16 hy16 hI hmu
                  exact absurd hmu (by have := h_59m (mu_X14_bar_7 σ  σ y10 y11)  y16  hy16  hI; omega)
                | succ d59 ih59 =>
                  intro y16 hy16 hI hmu59
                  have h := h_59 (mu_X14_bar_7 σ  σ y10 y11)  y16  hy16  hI
                  refine z_iload_n hC (pc := 59) 1 dX14_bar_59 rfl rfl ?_
                  refine z_aload_n hC (pc := 60) 0 dX14_bar_60 rfl rfl ?_
                  refine y_get hC (pc := 61) zf14 rOb_0 28 (v := iv (rF σ 0 28)) dX14_bar_61 zw2495 (rv_i (Or.inl rfl) rfl) (kk := ?_)
                  have h := h (hwf.f _ _)
                  obtain ⟨hT, hF⟩ := h
                  refine y_icmp_ge hC (pc := 64) 85 hy16 (hwf.f _ _) dX14_bar_64 (by decide) (fun c => ?_) (fun c => ?_)
                  · have h := hT c
                    refine z_iload_n hC (pc := 85) 1 dX14_bar_85 rfl rfl ?_
                    refine z_aload_n hC (pc := 86) 0 dX14_bar_86 rfl rfl ?_
                    refine y_get hC (pc := 87) zf14 rOb_0 28 (v := iv (rF σ 0 28)) dX14_bar_87 zw2495 (rv_i (Or.inl rfl) rfl) (kk := ?_)
                    obtain ⟨hT, hF⟩ := h
                    refine y_icmp_ge hC (pc := 90) 108 hy16 (hwf.f _ _) dX14_bar_90 (by decide) (fun c => ?_) (fun c => ?_)
                    · have h := hT c
                      refine z_iconst hC (pc := 108) (v := Int32.ofInt 0) dX14_bar_108 (by decide) ?_
                      refine z_istore_n hC (pc := 109) (lv' := [(2, iv 0), (0, .ref (κ 0)), (1, iv y16)]) dX14_bar_109 rfl (by decide) rfl ?_
                      refine z_iload_n hC (pc := 110) 0 dX14_bar_110 rfl rfl ?_
                      refine y_if_eq hC (pc := 111) 117 (r_lit rfl) dX14_bar_111 (by decide) (fun _ => ?_) (fun c => absurd c (by decide))
                      refine z_goto hC (pc := 117) 7 dX14_bar_117 (by decide) ?_
                      refine z_lvs [1, 2, 0] rfl ?_
                      obtain ⟨hI, hm⟩ := h
                      exact ih7  y16 0  hy16 (r_lit rfl)  hI (by omega)
                    · have h := hF c
                      refine z_aload_n hC (pc := 93) 0 dX14_bar_93 rfl rfl ?_
                      refine y_get hC (pc := 94) zf14 rOb_0 26 (v := .ref (κ 1026)) dX14_bar_94 zw2493 (rv_c rfl) (kk := ?_)
                      refine z_iload_n hC (pc := 97) 1 dX14_bar_97 rfl rfl ?_
                      obtain ⟨b17, h⟩ := h
                      refine y_bald hC (pc := 98) (rAr_m rfl) dX14_bar_98 b17 (v := (rA σ 1026 y16)) rfl (kk := ?_)
                      have h := h (hwf.a _ _)
                      refine z_bipush hC (pc := 99) (v := Int32.ofInt 44) dX14_bar_99 (by decide) ?_
                      obtain ⟨hT, hF⟩ := h
                      refine y_icmp_ne hC (pc := 101) 108 (hwf.a _ _) (r_lit rfl) dX14_bar_101 (by decide) (fun c => ?_) (fun c => ?_)
                      · have h := hT c
                        refine z_iconst hC (pc := 108) (v := Int32.ofInt 0) dX14_bar_108 (by decide) ?_
                        refine z_istore_n hC (pc := 109) (lv' := [(2, iv 0), (0, .ref (κ 0)), (1, iv y16)]) dX14_bar_109 rfl (by decide) rfl ?_
                        refine z_iload_n hC (pc := 110) 0 dX14_bar_110 rfl rfl ?_
                        refine y_if_eq hC (pc := 111) 117 (r_lit rfl) dX14_bar_111 (by decide) (fun _ => ?_) (fun c => absurd c (by decide))
                        refine z_goto hC (pc := 117) 7 dX14_bar_117 (by decide) ?_
                        refine z_lvs [1, 2, 0] rfl ?_
                        obtain ⟨hI, hm⟩ := h
                        exact ih7  y16 0  hy16 (r_lit rfl)  hI (by omega)
                      · have h := hF c
                        refine z_iconst hC (pc := 104) (v := Int32.ofInt 1) dX14_bar_104 (by decide) ?_
                        refine z_goto hC (pc := 105) 109 dX14_bar_105 (by decide) ?_
                        refine z_istore_n hC (pc := 109) (lv' := [(2, iv 1), (0, .ref (κ 0)), (1, iv y16)]) dX14_bar_109 rfl (by decide) rfl ?_
                        refine z_iload_n hC (pc := 110) 0 dX14_bar_110 rfl rfl ?_
                        refine y_if_eq hC (pc := 111) 117 (r_lit rfl) dX14_bar_111 (by decide) (fun c => absurd c (by decide)) (fun _ => ?_)
                        refine y_iinc hC (pc := 114) (v := (y16 + 1)) (lv' := [(1, iv (y16 + 1)), (2, iv 1), (0, .ref (κ 0))]) 2 dX14_bar_114 rfl rfl (by decide) rfl ?_
                        refine z_goto hC (pc := 117) 7 dX14_bar_117 (by decide) ?_
                        refine z_lvs [2, 0, 1] rfl ?_
                        obtain ⟨r18, h⟩ := h
                        obtain ⟨hI, hm⟩ := h
                        exact ih7  (y16 + 1) 1  r18 (r_lit rfl)  hI (by omega)
                  · have h := hF c
                    refine z_aload_n hC (pc := 67) 0 dX14_bar_67 rfl rfl ?_
                    refine y_get hC (pc := 68) zf14 rOb_0 26 (v := .ref (κ 1026)) dX14_bar_68 zw2493 (rv_c rfl) (kk := ?_)
                    refine z_iload_n hC (pc := 71) 1 dX14_bar_71 rfl rfl ?_
                    obtain ⟨b19, h⟩ := h
                    refine y_bald hC (pc := 72) (rAr_m rfl) dX14_bar_72 b19 (v := (rA σ 1026 y16)) rfl (kk := ?_)
                    have h := h (hwf.a _ _)
                    obtain ⟨p20, h⟩ := h
                    refine y_callSi hC (pc := 73) (As := [iv (rA σ 1026 y16)]) (kX14_isBlank l G κ σ (rA σ 1026 y16) hwf (hwf.a _ _) p20) dmX14_isBlank dX14_bar_73 zw2997 rfl rfl (Nat.le_of_ble_eq_true rfl) (Nat.le_of_ble_eq_true rfl) (Nat.le_of_ble_eq_true rfl) (Nat.le_of_ble_eq_true rfl) (Nat.le_of_ble_eq_true rfl) (kk := fun x22 s21 hx22 Ws21 qs21 => ?_)
                    obtain ⟨es21, qs21⟩ := qs21
                    have es21 := es21.symm
                    subst es21
                    have h := h x22 hx22 qs21
                    obtain ⟨hT, hF⟩ := h
                    refine y_if_eq hC (pc := 76) 85 hx22 dX14_bar_76 (by decide) (fun c => ?_) (fun c => ?_)
                    · have h := hT c
                      refine z_iload_n hC (pc := 85) 1 dX14_bar_85 rfl rfl ?_
                      refine z_aload_n hC (pc := 86) 0 dX14_bar_86 rfl rfl ?_
                      refine y_get hC (pc := 87) zf14 rOb_0 28 (v := iv (rF σ 0 28)) dX14_bar_87 zw2495 (rv_i (Or.inl rfl) rfl) (kk := ?_)
                      obtain ⟨hT, hF⟩ := h
                      refine y_icmp_ge hC (pc := 90) 108 hy16 (hwf.f _ _) dX14_bar_90 (by decide) (fun c => ?_) (fun c => ?_)
                      · have h := hT c
                        refine z_iconst hC (pc := 108) (v := Int32.ofInt 0) dX14_bar_108 (by decide) ?_
                        refine z_istore_n hC (pc := 109) (lv' := [(2, iv 0), (0, .ref (κ 0)), (1, iv y16)]) dX14_bar_109 rfl (by decide) rfl ?_
                        refine z_iload_n hC (pc := 110) 0 dX14_bar_110 rfl rfl ?_
                        refine y_if_eq hC (pc := 111) 117 (r_lit rfl) dX14_bar_111 (by decide) (fun _ => ?_) (fun c => absurd c (by decide))
                        refine z_goto hC (pc := 117) 7 dX14_bar_117 (by decide) ?_
                        refine z_lvs [1, 2, 0] rfl ?_
                        obtain ⟨hI, hm⟩ := h
                        exact ih7  y16 0  hy16 (r_lit rfl)  hI (by omega)
                      · have h := hF c
                        refine z_aload_n hC (pc := 93) 0 dX14_bar_93 rfl rfl ?_
                        refine y_get hC (pc := 94) zf14 rOb_0 26 (v := .ref (κ 1026)) dX14_bar_94 zw2493 (rv_c rfl) (kk := ?_)
                        refine z_iload_n hC (pc := 97) 1 dX14_bar_97 rfl rfl ?_
                        obtain ⟨b23, h⟩ := h
                        refine y_bald hC (pc := 98) (rAr_m rfl) dX14_bar_98 b23 (v := (rA σ 1026 y16)) rfl (kk := ?_)
                        refine z_bipush hC (pc := 99) (v := Int32.ofInt 44) dX14_bar_99 (by decide) ?_
                        obtain ⟨hT, hF⟩ := h
                        refine y_icmp_ne hC (pc := 101) 108 (hwf.a _ _) (r_lit rfl) dX14_bar_101 (by decide) (fun c => ?_) (fun c => ?_)
                        · have h := hT c
                          refine z_iconst hC (pc := 108) (v := Int32.ofInt 0) dX14_bar_108 (by decide) ?_
                          refine z_istore_n hC (pc := 109) (lv' := [(2, iv 0), (0, .ref (κ 0)), (1, iv y16)]) dX14_bar_109 rfl (by decide) rfl ?_
                          refine z_iload_n hC (pc := 110) 0 dX14_bar_110 rfl rfl ?_
                          refine y_if_eq hC (pc := 111) 117 (r_lit rfl) dX14_bar_111 (by decide) (fun _ => ?_) (fun c => absurd c (by decide))
                          refine z_goto hC (pc := 117) 7 dX14_bar_117 (by decide) ?_
                          refine z_lvs [1, 2, 0] rfl ?_
                          obtain ⟨hI, hm⟩ := h
                          exact ih7  y16 0  hy16 (r_lit rfl)  hI (by omega)
                        · have h := hF c
                          refine z_iconst hC (pc := 104) (v := Int32.ofInt 1) dX14_bar_104 (by decide) ?_
                          refine z_goto hC (pc := 105) 109 dX14_bar_105 (by decide) ?_
                          refine z_istore_n hC (pc := 109) (lv' := [(2, iv 1), (0, .ref (κ 0)), (1, iv y16)]) dX14_bar_109 rfl (by decide) rfl ?_
                          refine z_iload_n hC (pc := 110) 0 dX14_bar_110 rfl rfl ?_
                          refine y_if_eq hC (pc := 111) 117 (r_lit rfl) dX14_bar_111 (by decide) (fun c => absurd c (by decide)) (fun _ => ?_)
                          refine y_iinc hC (pc := 114) (v := (y16 + 1)) (lv' := [(1, iv (y16 + 1)), (2, iv 1), (0, .ref (κ 0))]) 2 dX14_bar_114 rfl rfl (by decide) rfl ?_
                          refine z_goto hC (pc := 117) 7 dX14_bar_117 (by decide) ?_
                          refine z_lvs [2, 0, 1] rfl ?_
                          obtain ⟨r24, h⟩ := h
                          obtain ⟨hI, hm⟩ := h
                          exact ih7  (y16 + 1) 1  r24 (r_lit rfl)  hI (by omega)
                    · have h := hF c
                      refine y_iinc hC (pc := 79) (v := (y16 + 1)) (lv' := [(1, iv (y16 + 1)), (0, .ref (κ 0))]) 1 dX14_bar_79 rfl rfl (by decide) rfl ?_
                      refine z_goto hC (pc := 82) 59 dX14_bar_82 (by decide) ?_
                      refine z_lvs [1, 0] rfl ?_
                      obtain ⟨r25, h⟩ := h
                      obtain ⟨hI, hm⟩ := h
                      exact ih59  (y16 + 1)  r25  hI (by omega)
              refine z_lvs [2, 0] rfl ?_
              exact j59 _  x15  hx15  h (Nat.le_refl _)
            · have h := hF c
              refine z_iconst hC (pc := 55) (v := Int32.ofInt (-1)) dX14_bar_55 (by decide) ?_
              exact y_reti hR dX14_bar_56 rfl (r_lit rfl) hwf (Nat.le_of_ble_eq_true rfl) (Nat.le_of_ble_eq_true rfl) ⟨rfl, h⟩
          · have h := hF c
            refine z_aload_n hC (pc := 19) 0 dX14_bar_19 rfl rfl ?_
            refine y_get hC (pc := 20) zf14 rOb_0 26 (v := .ref (κ 1026)) dX14_bar_20 zw2493 (rv_c rfl) (kk := ?_)
            refine z_iload_n hC (pc := 23) 1 dX14_bar_23 rfl rfl ?_
            obtain ⟨b26, h⟩ := h
            refine y_bald hC (pc := 24) (rAr_m rfl) dX14_bar_24 b26 (v := (rA σ 1026 y12)) rfl (kk := ?_)
            have h := h (hwf.a _ _)
            obtain ⟨p27, h⟩ := h
            refine y_callSi hC (pc := 25) (As := [iv (rA σ 1026 y12)]) (kX14_isBlank l G κ σ (rA σ 1026 y12) hwf (hwf.a _ _) p27) dmX14_isBlank dX14_bar_25 zw2997 rfl rfl (Nat.le_of_ble_eq_true rfl) (Nat.le_of_ble_eq_true rfl) (Nat.le_of_ble_eq_true rfl) (Nat.le_of_ble_eq_true rfl) (Nat.le_of_ble_eq_true rfl) (kk := fun x29 s28 hx29 Ws28 qs28 => ?_)
            obtain ⟨es28, qs28⟩ := qs28
            have es28 := es28.symm
            subst es28
            have h := h x29 hx29 qs28
            obtain ⟨hT, hF⟩ := h
            refine y_if_eq hC (pc := 28) 37 hx29 dX14_bar_28 (by decide) (fun c => ?_) (fun c => ?_)
            · have h := hT c
              refine z_aload_n hC (pc := 37) 0 dX14_bar_37 rfl rfl ?_
              refine y_get hC (pc := 38) zf14 rOb_0 26 (v := .ref (κ 1026)) dX14_bar_38 zw2493 (rv_c rfl) (kk := ?_)
              refine z_aload_n hC (pc := 41) 0 dX14_bar_41 rfl rfl ?_
              refine y_get hC (pc := 42) zf14 rOb_0 28 (v := iv (rF σ 0 28)) dX14_bar_42 zw2495 (rv_i (Or.inl rfl) rfl) (kk := ?_)
              refine z_iload_n hC (pc := 45) 1 dX14_bar_45 rfl rfl ?_
              obtain ⟨p30, h⟩ := h
              refine y_callSi hC (pc := 46) (As := [.ref (κ 1026), iv (rF σ 0 28), iv y12]) (kX14_wordEnd l G κ σ 1026 4001 (rF σ 0 28) y12 hwf (rAr_m rfl) (hwf.f _ _) hy12 p30) dmX14_wordEnd dX14_bar_46 zw3009 rfl rfl (Nat.le_of_ble_eq_true rfl) (Nat.le_of_ble_eq_true rfl) (Nat.le_of_ble_eq_true rfl) (Nat.le_of_ble_eq_true rfl) (Nat.le_of_ble_eq_true rfl) (kk := fun x32 s31 hx32 Ws31 qs31 => ?_)
              obtain ⟨es31, qs31⟩ := qs31
              have es31 := es31.symm
              subst es31
              have h := h x32 hx32 qs31
              refine z_istore_n hC (pc := 49) (lv' := [(3, iv x32), (0, .ref (κ 0)), (1, iv y12)]) dX14_bar_49 rfl (by decide) rfl ?_
              refine z_iload_n hC (pc := 50) 0 dX14_bar_50 rfl rfl ?_
              refine z_iload_n hC (pc := 51) 2 dX14_bar_51 rfl rfl ?_
              obtain ⟨hT, hF⟩ := h
              refine y_icmp_ne hC (pc := 52) 57 hx32 hy12 dX14_bar_52 (by decide) (fun c => ?_) (fun c => ?_)
              · have h := hT c
                refine z_iload_n hC (pc := 57) 0 dX14_bar_57 rfl rfl ?_
                refine z_istore_n hC (pc := 58) (lv' := [(1, iv x32), (3, iv x32), (0, .ref (κ 0))]) dX14_bar_58 rfl (by decide) rfl ?_
                have j59 : ∀ (d59 : Nat), ∀ (y33 : Int), rng y33 → inv_X14_bar_59 σ (mu_X14_bar_7 σ σ y10 y11) σ y33 → (mu_X14_bar_59 σ  σ y33) ≤ d59 → zS X G 4 (rW G κ σ) [(0, .ref (κ 0)), (1, iv y33)] 0 0 59 [] := by
                  intro d59
                  induction d59 with
                  | zero =>
                    intro y33 hy33 hI hmu
                    exact absurd hmu (by have := h_59m (mu_X14_bar_7 σ  σ y10 y11)  y33  hy33  hI; omega)
                  | succ d59 ih59 =>
                    intro y33 hy33 hI hmu59
                    have h := h_59 (mu_X14_bar_7 σ  σ y10 y11)  y33  hy33  hI
                    refine z_iload_n hC (pc := 59) 1 dX14_bar_59 rfl rfl ?_
                    refine z_aload_n hC (pc := 60) 0 dX14_bar_60 rfl rfl ?_
                    refine y_get hC (pc := 61) zf14 rOb_0 28 (v := iv (rF σ 0 28)) dX14_bar_61 zw2495 (rv_i (Or.inl rfl) rfl) (kk := ?_)
                    have h := h (hwf.f _ _)
                    obtain ⟨hT, hF⟩ := h
                    refine y_icmp_ge hC (pc := 64) 85 hy33 (hwf.f _ _) dX14_bar_64 (by decide) (fun c => ?_) (fun c => ?_)
                    · have h := hT c
                      refine z_iload_n hC (pc := 85) 1 dX14_bar_85 rfl rfl ?_
                      refine z_aload_n hC (pc := 86) 0 dX14_bar_86 rfl rfl ?_
                      refine y_get hC (pc := 87) zf14 rOb_0 28 (v := iv (rF σ 0 28)) dX14_bar_87 zw2495 (rv_i (Or.inl rfl) rfl) (kk := ?_)
                      obtain ⟨hT, hF⟩ := h
                      refine y_icmp_ge hC (pc := 90) 108 hy33 (hwf.f _ _) dX14_bar_90 (by decide) (fun c => ?_) (fun c => ?_)
                      · have h := hT c
                        refine z_iconst hC (pc := 108) (v := Int32.ofInt 0) dX14_bar_108 (by decide) ?_
                        refine z_istore_n hC (pc := 109) (lv' := [(2, iv 0), (0, .ref (κ 0)), (1, iv y33)]) dX14_bar_109 rfl (by decide) rfl ?_
                        refine z_iload_n hC (pc := 110) 0 dX14_bar_110 rfl rfl ?_
                        refine y_if_eq hC (pc := 111) 117 (r_lit rfl) dX14_bar_111 (by decide) (fun _ => ?_) (fun c => absurd c (by decide))
                        refine z_goto hC (pc := 117) 7 dX14_bar_117 (by decide) ?_
                        refine z_lvs [1, 2, 0] rfl ?_
                        obtain ⟨hI, hm⟩ := h
                        exact ih7  y33 0  hy33 (r_lit rfl)  hI (by omega)
                      · have h := hF c
                        refine z_aload_n hC (pc := 93) 0 dX14_bar_93 rfl rfl ?_
                        refine y_get hC (pc := 94) zf14 rOb_0 26 (v := .ref (κ 1026)) dX14_bar_94 zw2493 (rv_c rfl) (kk := ?_)
                        refine z_iload_n hC (pc := 97) 1 dX14_bar_97 rfl rfl ?_
                        obtain ⟨b34, h⟩ := h
                        refine y_bald hC (pc := 98) (rAr_m rfl) dX14_bar_98 b34 (v := (rA σ 1026 y33)) rfl (kk := ?_)
                        have h := h (hwf.a _ _)
                        refine z_bipush hC (pc := 99) (v := Int32.ofInt 44) dX14_bar_99 (by decide) ?_
                        obtain ⟨hT, hF⟩ := h
                        refine y_icmp_ne hC (pc := 101) 108 (hwf.a _ _) (r_lit rfl) dX14_bar_101 (by decide) (fun c => ?_) (fun c => ?_)
                        · have h := hT c
                          refine z_iconst hC (pc := 108) (v := Int32.ofInt 0) dX14_bar_108 (by decide) ?_
                          refine z_istore_n hC (pc := 109) (lv' := [(2, iv 0), (0, .ref (κ 0)), (1, iv y33)]) dX14_bar_109 rfl (by decide) rfl ?_
                          refine z_iload_n hC (pc := 110) 0 dX14_bar_110 rfl rfl ?_
                          refine y_if_eq hC (pc := 111) 117 (r_lit rfl) dX14_bar_111 (by decide) (fun _ => ?_) (fun c => absurd c (by decide))
                          refine z_goto hC (pc := 117) 7 dX14_bar_117 (by decide) ?_
                          refine z_lvs [1, 2, 0] rfl ?_
                          obtain ⟨hI, hm⟩ := h
                          exact ih7  y33 0  hy33 (r_lit rfl)  hI (by omega)
                        · have h := hF c
                          refine z_iconst hC (pc := 104) (v := Int32.ofInt 1) dX14_bar_104 (by decide) ?_
                          refine z_goto hC (pc := 105) 109 dX14_bar_105 (by decide) ?_
                          refine z_istore_n hC (pc := 109) (lv' := [(2, iv 1), (0, .ref (κ 0)), (1, iv y33)]) dX14_bar_109 rfl (by decide) rfl ?_
                          refine z_iload_n hC (pc := 110) 0 dX14_bar_110 rfl rfl ?_
                          refine y_if_eq hC (pc := 111) 117 (r_lit rfl) dX14_bar_111 (by decide) (fun c => absurd c (by decide)) (fun _ => ?_)
                          refine y_iinc hC (pc := 114) (v := (y33 + 1)) (lv' := [(1, iv (y33 + 1)), (2, iv 1), (0, .ref (κ 0))]) 2 dX14_bar_114 rfl rfl (by decide) rfl ?_
                          refine z_goto hC (pc := 117) 7 dX14_bar_117 (by decide) ?_
                          refine z_lvs [2, 0, 1] rfl ?_
                          obtain ⟨r35, h⟩ := h
                          obtain ⟨hI, hm⟩ := h
                          exact ih7  (y33 + 1) 1  r35 (r_lit rfl)  hI (by omega)
                    · have h := hF c
                      refine z_aload_n hC (pc := 67) 0 dX14_bar_67 rfl rfl ?_
                      refine y_get hC (pc := 68) zf14 rOb_0 26 (v := .ref (κ 1026)) dX14_bar_68 zw2493 (rv_c rfl) (kk := ?_)
                      refine z_iload_n hC (pc := 71) 1 dX14_bar_71 rfl rfl ?_
                      obtain ⟨b36, h⟩ := h
                      refine y_bald hC (pc := 72) (rAr_m rfl) dX14_bar_72 b36 (v := (rA σ 1026 y33)) rfl (kk := ?_)
                      have h := h (hwf.a _ _)
                      obtain ⟨p37, h⟩ := h
                      refine y_callSi hC (pc := 73) (As := [iv (rA σ 1026 y33)]) (kX14_isBlank l G κ σ (rA σ 1026 y33) hwf (hwf.a _ _) p37) dmX14_isBlank dX14_bar_73 zw2997 rfl rfl (Nat.le_of_ble_eq_true rfl) (Nat.le_of_ble_eq_true rfl) (Nat.le_of_ble_eq_true rfl) (Nat.le_of_ble_eq_true rfl) (Nat.le_of_ble_eq_true rfl) (kk := fun x39 s38 hx39 Ws38 qs38 => ?_)
                      obtain ⟨es38, qs38⟩ := qs38
                      have es38 := es38.symm
                      subst es38
                      have h := h x39 hx39 qs38
                      obtain ⟨hT, hF⟩ := h
                      refine y_if_eq hC (pc := 76) 85 hx39 dX14_bar_76 (by decide) (fun c => ?_) (fun c => ?_)
                      · have h := hT c
                        refine z_iload_n hC (pc := 85) 1 dX14_bar_85 rfl rfl ?_
                        refine z_aload_n hC (pc := 86) 0 dX14_bar_86 rfl rfl ?_
                        refine y_get hC (pc := 87) zf14 rOb_0 28 (v := iv (rF σ 0 28)) dX14_bar_87 zw2495 (rv_i (Or.inl rfl) rfl) (kk := ?_)
                        obtain ⟨hT, hF⟩ := h
                        refine y_icmp_ge hC (pc := 90) 108 hy33 (hwf.f _ _) dX14_bar_90 (by decide) (fun c => ?_) (fun c => ?_)
                        · have h := hT c
                          refine z_iconst hC (pc := 108) (v := Int32.ofInt 0) dX14_bar_108 (by decide) ?_
                          refine z_istore_n hC (pc := 109) (lv' := [(2, iv 0), (0, .ref (κ 0)), (1, iv y33)]) dX14_bar_109 rfl (by decide) rfl ?_
                          refine z_iload_n hC (pc := 110) 0 dX14_bar_110 rfl rfl ?_
                          refine y_if_eq hC (pc := 111) 117 (r_lit rfl) dX14_bar_111 (by decide) (fun _ => ?_) (fun c => absurd c (by decide))
                          refine z_goto hC (pc := 117) 7 dX14_bar_117 (by decide) ?_
                          refine z_lvs [1, 2, 0] rfl ?_
                          obtain ⟨hI, hm⟩ := h
                          exact ih7  y33 0  hy33 (r_lit rfl)  hI (by omega)
                        · have h := hF c
                          refine z_aload_n hC (pc := 93) 0 dX14_bar_93 rfl rfl ?_
                          refine y_get hC (pc := 94) zf14 rOb_0 26 (v := .ref (κ 1026)) dX14_bar_94 zw2493 (rv_c rfl) (kk := ?_)
                          refine z_iload_n hC (pc := 97) 1 dX14_bar_97 rfl rfl ?_
                          obtain ⟨b40, h⟩ := h
                          refine y_bald hC (pc := 98) (rAr_m rfl) dX14_bar_98 b40 (v := (rA σ 1026 y33)) rfl (kk := ?_)
                          refine z_bipush hC (pc := 99) (v := Int32.ofInt 44) dX14_bar_99 (by decide) ?_
                          obtain ⟨hT, hF⟩ := h
                          refine y_icmp_ne hC (pc := 101) 108 (hwf.a _ _) (r_lit rfl) dX14_bar_101 (by decide) (fun c => ?_) (fun c => ?_)
                          · have h := hT c
                            refine z_iconst hC (pc := 108) (v := Int32.ofInt 0) dX14_bar_108 (by decide) ?_
                            refine z_istore_n hC (pc := 109) (lv' := [(2, iv 0), (0, .ref (κ 0)), (1, iv y33)]) dX14_bar_109 rfl (by decide) rfl ?_
                            refine z_iload_n hC (pc := 110) 0 dX14_bar_110 rfl rfl ?_
                            refine y_if_eq hC (pc := 111) 117 (r_lit rfl) dX14_bar_111 (by decide) (fun _ => ?_) (fun c => absurd c (by decide))
                            refine z_goto hC (pc := 117) 7 dX14_bar_117 (by decide) ?_
                            refine z_lvs [1, 2, 0] rfl ?_
                            obtain ⟨hI, hm⟩ := h
                            exact ih7  y33 0  hy33 (r_lit rfl)  hI (by omega)
                          · have h := hF c
                            refine z_iconst hC (pc := 104) (v := Int32.ofInt 1) dX14_bar_104 (by decide) ?_
                            refine z_goto hC (pc := 105) 109 dX14_bar_105 (by decide) ?_
                            refine z_istore_n hC (pc := 109) (lv' := [(2, iv 1), (0, .ref (κ 0)), (1, iv y33)]) dX14_bar_109 rfl (by decide) rfl ?_
                            refine z_iload_n hC (pc := 110) 0 dX14_bar_110 rfl rfl ?_
                            refine y_if_eq hC (pc := 111) 117 (r_lit rfl) dX14_bar_111 (by decide) (fun c => absurd c (by decide)) (fun _ => ?_)
                            refine y_iinc hC (pc := 114) (v := (y33 + 1)) (lv' := [(1, iv (y33 + 1)), (2, iv 1), (0, .ref (κ 0))]) 2 dX14_bar_114 rfl rfl (by decide) rfl ?_
                            refine z_goto hC (pc := 117) 7 dX14_bar_117 (by decide) ?_
                            refine z_lvs [2, 0, 1] rfl ?_
                            obtain ⟨r41, h⟩ := h
                            obtain ⟨hI, hm⟩ := h
                            exact ih7  (y33 + 1) 1  r41 (r_lit rfl)  hI (by omega)
                      · have h := hF c
                        refine y_iinc hC (pc := 79) (v := (y33 + 1)) (lv' := [(1, iv (y33 + 1)), (0, .ref (κ 0))]) 1 dX14_bar_79 rfl rfl (by decide) rfl ?_
                        refine z_goto hC (pc := 82) 59 dX14_bar_82 (by decide) ?_
                        refine z_lvs [1, 0] rfl ?_
                        obtain ⟨r42, h⟩ := h
                        obtain ⟨hI, hm⟩ := h
                        exact ih59  (y33 + 1)  r42  hI (by omega)
                refine z_lvs [2, 0] rfl ?_
                exact j59 _  x32  hx32  h (Nat.le_refl _)
              · have h := hF c
                refine z_iconst hC (pc := 55) (v := Int32.ofInt (-1)) dX14_bar_55 (by decide) ?_
                exact y_reti hR dX14_bar_56 rfl (r_lit rfl) hwf (Nat.le_of_ble_eq_true rfl) (Nat.le_of_ble_eq_true rfl) ⟨rfl, h⟩
            · have h := hF c
              refine y_iinc hC (pc := 31) (v := (y12 + 1)) (lv' := [(1, iv (y12 + 1)), (0, .ref (κ 0))]) 1 dX14_bar_31 rfl rfl (by decide) rfl ?_
              refine z_goto hC (pc := 34) 11 dX14_bar_34 (by decide) ?_
              refine z_lvs [1, 0] rfl ?_
              obtain ⟨r43, h⟩ := h
              obtain ⟨hI, hm⟩ := h
              exact ih11  (y12 + 1)  r43  hI (by omega)
      obtain ⟨hT, hF⟩ := h
      refine y_if_eq hC (pc := 8) 120 hy11 dX14_bar_8 (by decide) (fun c => ?_) (fun c => ?_)
      · have h := hT c
        refine z_iload_n hC (pc := 120) 1 dX14_bar_120 rfl rfl ?_
        refine z_aload_n hC (pc := 121) 0 dX14_bar_121 rfl rfl ?_
        refine y_get hC (pc := 122) zf14 rOb_0 28 (v := iv (rF σ 0 28)) dX14_bar_122 zw2495 (rv_i (Or.inl rfl) rfl) (kk := ?_)
        have h := h (hwf.f _ _)
        obtain ⟨hT, hF⟩ := h
        refine y_icmp_ge hC (pc := 125) 143 hy10 (hwf.f _ _) dX14_bar_125 (by decide) (fun c => ?_) (fun c => ?_)
        · have h := hT c
          refine z_iconst hC (pc := 143) (v := Int32.ofInt (-1)) dX14_bar_143 (by decide) ?_
          exact y_reti hR dX14_bar_144 rfl (r_lit rfl) hwf (Nat.le_of_ble_eq_true rfl) (Nat.le_of_ble_eq_true rfl) ⟨rfl, h⟩
        · have h := hF c
          refine z_aload_n hC (pc := 128) 0 dX14_bar_128 rfl rfl ?_
          refine y_get hC (pc := 129) zf14 rOb_0 26 (v := .ref (κ 1026)) dX14_bar_129 zw2493 (rv_c rfl) (kk := ?_)
          refine z_iload_n hC (pc := 132) 1 dX14_bar_132 rfl rfl ?_
          obtain ⟨b44, h⟩ := h
          refine y_bald hC (pc := 133) (rAr_m rfl) dX14_bar_133 b44 (v := (rA σ 1026 y10)) rfl (kk := ?_)
          have h := h (hwf.a _ _)
          refine z_bipush hC (pc := 134) (v := Int32.ofInt 124) dX14_bar_134 (by decide) ?_
          obtain ⟨hT, hF⟩ := h
          refine y_icmp_ne hC (pc := 136) 143 (hwf.a _ _) (r_lit rfl) dX14_bar_136 (by decide) (fun c => ?_) (fun c => ?_)
          · have h := hT c
            refine z_iconst hC (pc := 143) (v := Int32.ofInt (-1)) dX14_bar_143 (by decide) ?_
            exact y_reti hR dX14_bar_144 rfl (r_lit rfl) hwf (Nat.le_of_ble_eq_true rfl) (Nat.le_of_ble_eq_true rfl) ⟨rfl, h⟩
          · have h := hF c
            refine z_iload_n hC (pc := 139) 1 dX14_bar_139 rfl rfl ?_
            refine z_goto hC (pc := 140) 144 dX14_bar_140 (by decide) ?_
            exact y_reti hR dX14_bar_144 rfl hy10 hwf (Nat.le_of_ble_eq_true rfl) (Nat.le_of_ble_eq_true rfl) ⟨rfl, h⟩
      · have h := hF c
        refine z_lvs [0, 1] rfl ?_
        exact j11 _  y10  hy10  h (Nat.le_refl _)
  refine z_lvs [2, 1, 0] rfl ?_
  exact j7 _  (rF σ 0 29) 1  (hwf.f _ _) (r_lit rfl)  h (Nat.le_refl _)
theorem kX14_bar (l : Launch) (G : zG) (κ : Nat → Nat) (σ : rS) (hwf : rWF σ) (hp : pre_X14_bar σ ) : rMi l G κ yX14_bar cX14_bar 4 .int 3 43 [.ref (κ 0)] σ (fun x s => s = σ ∧ post_X14_bar σ x) := wX14_bar l G κ σ hwf (post_X14_bar σ ) (vX14_bar σ hwf hp) (vX14_bar_59 σ hwf hp) (vX14_bar_59m σ hwf hp) (vX14_bar_11 σ hwf hp) (vX14_bar_11m σ hwf hp) (vX14_bar_7 σ hwf hp) (vX14_bar_7m σ hwf hp)
def pre_X14_lowest (σ : rS)  : Prop := 0 ≤ (rF σ 0 29) ∧ (rF σ 0 29) ≤ (rF σ 0 28) ∧ (rF σ 0 28) ≤ 4001
def post_X14_lowest (σ : rS)  (r : Int) : Prop := 1 ≤ r ∧ r ≤ 4
def VC_X14_lowest (σ : rS) (Q : Int → Prop) : Prop := pre_X14_here σ ∧ (∀ (x12 : Int), rng x12 → post_X14_here σ x12 → (rng (rF σ 0 28) → (rng (rF σ 0 29) → pre_X14_wordEnd σ 1026 4001 (rF σ 0 28) (rF σ 0 29) ∧ (∀ (x15 : Int), rng x15 → post_X14_wordEnd σ 1026 4001 (rF σ 0 28) (rF σ 0 29) x15 → ((x15 ≤ (rF σ 0 29) → ((x12 = 34 → Q 4) ∧ (¬ x12 = 34 → ((x12 = 39 → Q 4) ∧ (¬ x12 = 39 → ((x12 = 123 → Q 4) ∧ (¬ x12 = 123 → ((x12 = 91 → Q 4) ∧ (¬ x12 = 91 → ((¬ x12 = 40 → Q 1) ∧ (x12 = 40 → Q 4))))))))))) ∧ (¬ x15 ≤ (rF σ 0 29) → pre_X14_isSteering σ ∧ (∀ (x18 : Int), rng x18 → post_X14_isSteering σ x18 → ((x18 = 0 → pre_X14_isReserved σ ∧ (∀ (x21 : Int), rng x21 → post_X14_isReserved σ x21 → ((¬ x21 = 0 → Q 4) ∧ (x21 = 0 → rng (x15 - (rF σ 0 29)) ∧ (((x15 - (rF σ 0 29)) ≤ 16 → Q 4) ∧ (¬ (x15 - (rF σ 0 29)) ≤ 16 → Q 2)))))) ∧ (¬ x18 = 0 → Q 1)))))))))
set_option maxHeartbeats 400000 in
theorem vX14_lowest (σ : rS) (hwf : rWF σ) (hp : pre_X14_lowest σ ) : VC_X14_lowest σ (post_X14_lowest σ ) := by
  simp only [VC_X14_lowest, pre_X14_lowest, post_X14_lowest, pre_X14_isReserved, pre_X14_wordEnd, pre_X14_isSteering, pre_X14_here, post_X14_isReserved, post_X14_wordEnd, post_X14_isSteering, post_X14_here, rng, rfk, rNMp, rF_sF, rF_sA, rF_sL, rF_sR, rA_sA, rA_sF, rA_sL, rA_sR, rR_sF, rR_sA, rR_sL, rR_sR, reduceIte, and_true, true_and, and_false, false_and, and_self] at *
  (repeat' (first | with_reducible intro _ | with_reducible apply And.intro))
  all_goals (first | assumption | omega | grind (splits := 20) [rNM_sF0])
theorem wX14_lowest (l : Launch) (G : zG) (κ : Nat → Nat) (σ : rS) (hwf : rWF σ) (Q : Int → Prop) (h : VC_X14_lowest σ Q) : rMi l G κ yX14_lowest cX14_lowest 3 .int 8 207 [.ref (κ 0)] σ (fun x s => s = σ ∧ Q x) := by
  refine zMi.intro (by decide +kernel) (Nat.le_of_ble_eq_true rfl) (fun X hC hR => ?_)
  refine z_aload_n hC (pc := 0) 0 dX14_lowest_0 rfl rfl ?_
  obtain ⟨p10, h⟩ := h
  refine y_callVi hC (pc := 1) (As := []) (kX14_here l G κ σ  hwf  p10) dmX14_here zf14 rOb_0 dX14_lowest_1 zw3099 rfl rfl (Nat.le_of_ble_eq_true rfl) (Nat.le_of_ble_eq_true rfl) (Nat.le_of_ble_eq_true rfl) (Nat.le_of_ble_eq_true rfl) (Nat.le_of_ble_eq_true rfl) (kk := fun x12 s11 hx12 Ws11 qs11 => ?_)
  obtain ⟨es11, qs11⟩ := qs11
  have es11 := es11.symm
  subst es11
  have h := h x12 hx12 qs11
  refine z_istore_n hC (pc := 4) (lv' := [(1, iv x12), (0, .ref (κ 0))]) dX14_lowest_4 rfl (by decide) rfl ?_
  refine z_aload_n hC (pc := 5) 1 dX14_lowest_5 rfl rfl ?_
  refine y_get hC (pc := 6) zf14 rOb_0 26 (v := .ref (κ 1026)) dX14_lowest_6 zw2493 (rv_c rfl) (kk := ?_)
  refine z_aload_n hC (pc := 9) 1 dX14_lowest_9 rfl rfl ?_
  refine y_get hC (pc := 10) zf14 rOb_0 28 (v := iv (rF σ 0 28)) dX14_lowest_10 zw2495 (rv_i (Or.inl rfl) rfl) (kk := ?_)
  have h := h (hwf.f _ _)
  refine z_aload_n hC (pc := 13) 1 dX14_lowest_13 rfl rfl ?_
  refine y_get hC (pc := 14) zf14 rOb_0 29 (v := iv (rF σ 0 29)) dX14_lowest_14 zw2496 (rv_i (Or.inl rfl) rfl) (kk := ?_)
  have h := h (hwf.f _ _)
  obtain ⟨p13, h⟩ := h
  refine y_callSi hC (pc := 17) (As := [.ref (κ 1026), iv (rF σ 0 28), iv (rF σ 0 29)]) (kX14_wordEnd l G κ σ 1026 4001 (rF σ 0 28) (rF σ 0 29) hwf (rAr_m rfl) (hwf.f _ _) (hwf.f _ _) p13) dmX14_wordEnd dX14_lowest_17 zw3009 rfl rfl (Nat.le_of_ble_eq_true rfl) (Nat.le_of_ble_eq_true rfl) (Nat.le_of_ble_eq_true rfl) (Nat.le_of_ble_eq_true rfl) (Nat.le_of_ble_eq_true rfl) (kk := fun x15 s14 hx15 Ws14 qs14 => ?_)
  obtain ⟨es14, qs14⟩ := qs14
  have es14 := es14.symm
  subst es14
  have h := h x15 hx15 qs14
  refine z_istore_n hC (pc := 20) (lv' := [(2, iv x15), (1, iv x12), (0, .ref (κ 0))]) dX14_lowest_20 rfl (by decide) rfl ?_
  refine z_iload_n hC (pc := 21) 0 dX14_lowest_21 rfl rfl ?_
  refine z_aload_n hC (pc := 22) 2 dX14_lowest_22 rfl rfl ?_
  refine y_get hC (pc := 23) zf14 rOb_0 29 (v := iv (rF σ 0 29)) dX14_lowest_23 zw2496 (rv_i (Or.inl rfl) rfl) (kk := ?_)
  obtain ⟨hT, hF⟩ := h
  refine y_icmp_le hC (pc := 26) 64 hx15 (hwf.f _ _) dX14_lowest_26 (by decide) (fun c => ?_) (fun c => ?_)
  · have h := hT c
    refine z_iload_n hC (pc := 64) 1 dX14_lowest_64 rfl rfl ?_
    refine z_bipush hC (pc := 65) (v := Int32.ofInt 34) dX14_lowest_65 (by decide) ?_
    obtain ⟨hT, hF⟩ := h
    refine y_icmp_eq hC (pc := 67) 94 hx12 (r_lit rfl) dX14_lowest_67 (by decide) (fun c => ?_) (fun c => ?_)
    · have h := hT c
      refine z_iconst hC (pc := 94) (v := Int32.ofInt 4) dX14_lowest_94 (by decide) ?_
      refine z_goto hC (pc := 95) 99 dX14_lowest_95 (by decide) ?_
      exact y_reti hR dX14_lowest_99 rfl (r_lit rfl) hwf (Nat.le_of_ble_eq_true rfl) (Nat.le_of_ble_eq_true rfl) ⟨rfl, h⟩
    · have h := hF c
      refine z_iload_n hC (pc := 70) 1 dX14_lowest_70 rfl rfl ?_
      refine z_bipush hC (pc := 71) (v := Int32.ofInt 39) dX14_lowest_71 (by decide) ?_
      obtain ⟨hT, hF⟩ := h
      refine y_icmp_eq hC (pc := 73) 94 hx12 (r_lit rfl) dX14_lowest_73 (by decide) (fun c => ?_) (fun c => ?_)
      · have h := hT c
        refine z_iconst hC (pc := 94) (v := Int32.ofInt 4) dX14_lowest_94 (by decide) ?_
        refine z_goto hC (pc := 95) 99 dX14_lowest_95 (by decide) ?_
        exact y_reti hR dX14_lowest_99 rfl (r_lit rfl) hwf (Nat.le_of_ble_eq_true rfl) (Nat.le_of_ble_eq_true rfl) ⟨rfl, h⟩
      · have h := hF c
        refine z_iload_n hC (pc := 76) 1 dX14_lowest_76 rfl rfl ?_
        refine z_bipush hC (pc := 77) (v := Int32.ofInt 123) dX14_lowest_77 (by decide) ?_
        obtain ⟨hT, hF⟩ := h
        refine y_icmp_eq hC (pc := 79) 94 hx12 (r_lit rfl) dX14_lowest_79 (by decide) (fun c => ?_) (fun c => ?_)
        · have h := hT c
          refine z_iconst hC (pc := 94) (v := Int32.ofInt 4) dX14_lowest_94 (by decide) ?_
          refine z_goto hC (pc := 95) 99 dX14_lowest_95 (by decide) ?_
          exact y_reti hR dX14_lowest_99 rfl (r_lit rfl) hwf (Nat.le_of_ble_eq_true rfl) (Nat.le_of_ble_eq_true rfl) ⟨rfl, h⟩
        · have h := hF c
          refine z_iload_n hC (pc := 82) 1 dX14_lowest_82 rfl rfl ?_
          refine z_bipush hC (pc := 83) (v := Int32.ofInt 91) dX14_lowest_83 (by decide) ?_
          obtain ⟨hT, hF⟩ := h
          refine y_icmp_eq hC (pc := 85) 94 hx12 (r_lit rfl) dX14_lowest_85 (by decide) (fun c => ?_) (fun c => ?_)
          · have h := hT c
            refine z_iconst hC (pc := 94) (v := Int32.ofInt 4) dX14_lowest_94 (by decide) ?_
            refine z_goto hC (pc := 95) 99 dX14_lowest_95 (by decide) ?_
            exact y_reti hR dX14_lowest_99 rfl (r_lit rfl) hwf (Nat.le_of_ble_eq_true rfl) (Nat.le_of_ble_eq_true rfl) ⟨rfl, h⟩
          · have h := hF c
            refine z_iload_n hC (pc := 88) 1 dX14_lowest_88 rfl rfl ?_
            refine z_bipush hC (pc := 89) (v := Int32.ofInt 40) dX14_lowest_89 (by decide) ?_
            obtain ⟨hT, hF⟩ := h
            refine y_icmp_ne hC (pc := 91) 98 hx12 (r_lit rfl) dX14_lowest_91 (by decide) (fun c => ?_) (fun c => ?_)
            · have h := hT c
              refine z_iconst hC (pc := 98) (v := Int32.ofInt 1) dX14_lowest_98 (by decide) ?_
              exact y_reti hR dX14_lowest_99 rfl (r_lit rfl) hwf (Nat.le_of_ble_eq_true rfl) (Nat.le_of_ble_eq_true rfl) ⟨rfl, h⟩
            · have h := hF c
              refine z_iconst hC (pc := 94) (v := Int32.ofInt 4) dX14_lowest_94 (by decide) ?_
              refine z_goto hC (pc := 95) 99 dX14_lowest_95 (by decide) ?_
              exact y_reti hR dX14_lowest_99 rfl (r_lit rfl) hwf (Nat.le_of_ble_eq_true rfl) (Nat.le_of_ble_eq_true rfl) ⟨rfl, h⟩
  · have h := hF c
    refine z_aload_n hC (pc := 29) 2 dX14_lowest_29 rfl rfl ?_
    obtain ⟨p16, h⟩ := h
    refine y_callVi hC (pc := 30) (As := []) (kX14_isSteering l G κ σ  hwf  p16) dmX14_isSteering zf14 rOb_0 dX14_lowest_30 zw3158 rfl rfl (Nat.le_of_ble_eq_true rfl) (Nat.le_of_ble_eq_true rfl) (Nat.le_of_ble_eq_true rfl) (Nat.le_of_ble_eq_true rfl) (Nat.le_of_ble_eq_true rfl) (kk := fun x18 s17 hx18 Ws17 qs17 => ?_)
    obtain ⟨es17, qs17⟩ := qs17
    have es17 := es17.symm
    subst es17
    have h := h x18 hx18 qs17
    obtain ⟨hT, hF⟩ := h
    refine y_if_eq hC (pc := 33) 40 hx18 dX14_lowest_33 (by decide) (fun c => ?_) (fun c => ?_)
    · have h := hT c
      refine z_aload_n hC (pc := 40) 2 dX14_lowest_40 rfl rfl ?_
      obtain ⟨p19, h⟩ := h
      refine y_callVi hC (pc := 41) (As := []) (kX14_isReserved l G κ σ  hwf  p19) dmX14_isReserved zf14 rOb_0 dX14_lowest_41 zw3141 rfl rfl (Nat.le_of_ble_eq_true rfl) (Nat.le_of_ble_eq_true rfl) (Nat.le_of_ble_eq_true rfl) (Nat.le_of_ble_eq_true rfl) (Nat.le_of_ble_eq_true rfl) (kk := fun x21 s20 hx21 Ws20 qs20 => ?_)
      obtain ⟨es20, qs20⟩ := qs20
      have es20 := es20.symm
      subst es20
      have h := h x21 hx21 qs20
      obtain ⟨hT, hF⟩ := h
      refine y_if_ne hC (pc := 44) 62 hx21 dX14_lowest_44 (by decide) (fun c => ?_) (fun c => ?_)
      · have h := hT c
        refine z_iconst hC (pc := 62) (v := Int32.ofInt 4) dX14_lowest_62 (by decide) ?_
        exact y_reti hR dX14_lowest_63 rfl (r_lit rfl) hwf (Nat.le_of_ble_eq_true rfl) (Nat.le_of_ble_eq_true rfl) ⟨rfl, h⟩
      · have h := hF c
        refine z_iload_n hC (pc := 47) 0 dX14_lowest_47 rfl rfl ?_
        refine z_aload_n hC (pc := 48) 2 dX14_lowest_48 rfl rfl ?_
        refine y_get hC (pc := 49) zf14 rOb_0 29 (v := iv (rF σ 0 29)) dX14_lowest_49 zw2496 (rv_i (Or.inl rfl) rfl) (kk := ?_)
        refine y_isub hC (pc := 52) (v := (x15 - (rF σ 0 29))) dX14_lowest_52 rfl ?_
        refine z_bipush hC (pc := 53) (v := Int32.ofInt 16) dX14_lowest_53 (by decide) ?_
        obtain ⟨r22, h⟩ := h
        obtain ⟨hT, hF⟩ := h
        refine y_icmp_le hC (pc := 55) 62 r22 (r_lit rfl) dX14_lowest_55 (by decide) (fun c => ?_) (fun c => ?_)
        · have h := hT c
          refine z_iconst hC (pc := 62) (v := Int32.ofInt 4) dX14_lowest_62 (by decide) ?_
          exact y_reti hR dX14_lowest_63 rfl (r_lit rfl) hwf (Nat.le_of_ble_eq_true rfl) (Nat.le_of_ble_eq_true rfl) ⟨rfl, h⟩
        · have h := hF c
          refine z_iconst hC (pc := 58) (v := Int32.ofInt 2) dX14_lowest_58 (by decide) ?_
          refine z_goto hC (pc := 59) 63 dX14_lowest_59 (by decide) ?_
          exact y_reti hR dX14_lowest_63 rfl (r_lit rfl) hwf (Nat.le_of_ble_eq_true rfl) (Nat.le_of_ble_eq_true rfl) ⟨rfl, h⟩
    · have h := hF c
      refine z_iconst hC (pc := 36) (v := Int32.ofInt 1) dX14_lowest_36 (by decide) ?_
      refine z_goto hC (pc := 37) 63 dX14_lowest_37 (by decide) ?_
      exact y_reti hR dX14_lowest_63 rfl (r_lit rfl) hwf (Nat.le_of_ble_eq_true rfl) (Nat.le_of_ble_eq_true rfl) ⟨rfl, h⟩
theorem kX14_lowest (l : Launch) (G : zG) (κ : Nat → Nat) (σ : rS) (hwf : rWF σ) (hp : pre_X14_lowest σ ) : rMi l G κ yX14_lowest cX14_lowest 3 .int 8 207 [.ref (κ 0)] σ (fun x s => s = σ ∧ post_X14_lowest σ x) := wX14_lowest l G κ σ hwf (post_X14_lowest σ ) (vX14_lowest σ hwf hp) 
def pre_X14_keep (σ : rS) (p1 n1 : Nat) (x2 : Int) (x3 : Int) : Prop := rgk (rR σ 7) ∧ 0 ≤ x2 ∧ x2 ≤ x3 ∧ x3 ≤ n1 ∧ n1 ≤ 100000 ∧ 0 ≤ (rF σ (rR σ 7) 9) ∧ (rF σ (rR σ 7) 9) + (x3 - x2) ≤ 60000
def post_X14_keep (σ : rS) (p1 n1 : Nat) (x2 : Int) (x3 : Int) (σ' : rS) : Prop := (rF σ (rR σ 7) 9) ≤ rF σ' (rR σ 7) 9 ∧ rF σ' (rR σ 7) 9 ≤ (rF σ (rR σ 7) 9) + (x3 - x2) ∧ (rF σ' 0 24) = (rF σ (rR σ 7) 9) ∧ (rF σ' 0 25) = rF σ' (rR σ 7) 9 - (rF σ (rR σ 7) 9)
def inv_X14_keep_14 (σ : rS) (p1 n1 : Nat) (x2 : Int) (x3 : Int)  (s : rS) (k : Int) : Prop := x2 ≤ k ∧ k ≤ x3 ∧ (rF σ (rR σ 7) 9) ≤ rF s (rR σ 7) 9 ∧ rF s (rR σ 7) 9 + x2 ≤ (rF σ (rR σ 7) 9) + k ∧ (rF s 0 24) = (rF σ (rR σ 7) 9)
def mu_X14_keep_14 (σ : rS) (p1 n1 : Nat) (x2 : Int) (x3 : Int) (s : rS) (k : Int) : Nat := (1 + (x3 - k).toNat)
def VC_X14_keep (σ : rS) (p1 n1 : Nat) (x2 : Int) (x3 : Int) (Q : rS → Prop) : Prop := rgk (rR σ 7) ∧ (rng (rF σ (rR σ 7) 9) → (inv_X14_keep_14 σ p1 n1 x2 x3 (sF σ 0 24 (rF σ (rR σ 7) 9)) x2))
def VC_X14_keep_14 (σ : rS) (p1 n1 : Nat) (x2 : Int) (x3 : Int) (Q : rS → Prop) : Prop := ∀ (s11 : rS) (y12 : Int), rWF s11 → rng y12 → rR s11 7 = rR σ 7 → inv_X14_keep_14 σ p1 n1 x2 x3 s11 y12 → (((x3 ≤ y12 → (rng (rF s11 (rR σ 7) 9) → (rng (rF s11 0 24) → rng ((rF s11 (rR σ 7) 9) - (rF s11 0 24)) ∧ Q (sF s11 0 25 ((rF s11 (rR σ 7) 9) - (rF s11 0 24)))))) ∧ (¬ x3 ≤ y12 → (0 ≤ y12 ∧ y12 < n1) ∧ (rng (rA s11 p1 y12) → ((¬ (rA s11 p1 y12) = 92 → (rng (rF s11 (rR σ 7) 9) → (0 ≤ (rF s11 (rR σ 7) 9) ∧ (rF s11 (rR σ 7) 9) < 60000) ∧ rng ((rF s11 (rR σ 7) 9) + 1) ∧ rng (y12 + 1) ∧ (inv_X14_keep_14 σ p1 n1 x2 x3 (sF (sA s11 (1000 * ((rR σ 7) + 1) + 8) (rF s11 (rR σ 7) 9) (inar .byte (f_i2b (rA s11 p1 y12)))) (rR σ 7) 9 ((rF s11 (rR σ 7) 9) + 1)) (y12 + 1) ∧ (mu_X14_keep_14 σ p1 n1 x2 x3 (sF (sA s11 (1000 * ((rR σ 7) + 1) + 8) (rF s11 (rR σ 7) 9) (inar .byte (f_i2b (rA s11 p1 y12)))) (rR σ 7) 9 ((rF s11 (rR σ 7) 9) + 1)) (y12 + 1)) < (mu_X14_keep_14 σ p1 n1 x2 x3 s11 y12)))) ∧ ((rA s11 p1 y12) = 92 → rng (y12 + 1) ∧ ((x3 ≤ (y12 + 1) → (rng (rF s11 (rR σ 7) 9) → (0 ≤ (rF s11 (rR σ 7) 9) ∧ (rF s11 (rR σ 7) 9) < 60000) ∧ rng ((rF s11 (rR σ 7) 9) + 1) ∧ (inv_X14_keep_14 σ p1 n1 x2 x3 (sF (sA s11 (1000 * ((rR σ 7) + 1) + 8) (rF s11 (rR σ 7) 9) (inar .byte (f_i2b (rA s11 p1 y12)))) (rR σ 7) 9 ((rF s11 (rR σ 7) 9) + 1)) (y12 + 1) ∧ (mu_X14_keep_14 σ p1 n1 x2 x3 (sF (sA s11 (1000 * ((rR σ 7) + 1) + 8) (rF s11 (rR σ 7) 9) (inar .byte (f_i2b (rA s11 p1 y12)))) (rR σ 7) 9 ((rF s11 (rR σ 7) 9) + 1)) (y12 + 1)) < (mu_X14_keep_14 σ p1 n1 x2 x3 s11 y12)))) ∧ (¬ x3 ≤ (y12 + 1) → (0 ≤ (y12 + 1) ∧ (y12 + 1) < n1) ∧ (rng (rA s11 p1 (y12 + 1)) → ((¬ (rA s11 p1 (y12 + 1)) = 110 → (0 ≤ (y12 + 1) ∧ (y12 + 1) < n1) ∧ ((¬ (rA s11 p1 (y12 + 1)) = 116 → (0 ≤ (y12 + 1) ∧ (y12 + 1) < n1) ∧ (rng (rF s11 (rR σ 7) 9) → (0 ≤ (rF s11 (rR σ 7) 9) ∧ (rF s11 (rR σ 7) 9) < 60000) ∧ rng ((rF s11 (rR σ 7) 9) + 1) ∧ rng ((y12 + 1) + 1) ∧ (inv_X14_keep_14 σ p1 n1 x2 x3 (sF (sA s11 (1000 * ((rR σ 7) + 1) + 8) (rF s11 (rR σ 7) 9) (inar .byte (f_i2b (rA s11 p1 (y12 + 1))))) (rR σ 7) 9 ((rF s11 (rR σ 7) 9) + 1)) ((y12 + 1) + 1) ∧ (mu_X14_keep_14 σ p1 n1 x2 x3 (sF (sA s11 (1000 * ((rR σ 7) + 1) + 8) (rF s11 (rR σ 7) 9) (inar .byte (f_i2b (rA s11 p1 (y12 + 1))))) (rR σ 7) 9 ((rF s11 (rR σ 7) 9) + 1)) ((y12 + 1) + 1)) < (mu_X14_keep_14 σ p1 n1 x2 x3 s11 y12)))) ∧ ((rA s11 p1 (y12 + 1)) = 116 → (rng (rF s11 (rR σ 7) 9) → (0 ≤ (rF s11 (rR σ 7) 9) ∧ (rF s11 (rR σ 7) 9) < 60000) ∧ rng ((rF s11 (rR σ 7) 9) + 1) ∧ rng ((y12 + 1) + 1) ∧ (inv_X14_keep_14 σ p1 n1 x2 x3 (sF (sA s11 (1000 * ((rR σ 7) + 1) + 8) (rF s11 (rR σ 7) 9) (inar .byte (f_i2b 9))) (rR σ 7) 9 ((rF s11 (rR σ 7) 9) + 1)) ((y12 + 1) + 1) ∧ (mu_X14_keep_14 σ p1 n1 x2 x3 (sF (sA s11 (1000 * ((rR σ 7) + 1) + 8) (rF s11 (rR σ 7) 9) (inar .byte (f_i2b 9))) (rR σ 7) 9 ((rF s11 (rR σ 7) 9) + 1)) ((y12 + 1) + 1)) < (mu_X14_keep_14 σ p1 n1 x2 x3 s11 y12)))))) ∧ ((rA s11 p1 (y12 + 1)) = 110 → (rng (rF s11 (rR σ 7) 9) → (0 ≤ (rF s11 (rR σ 7) 9) ∧ (rF s11 (rR σ 7) 9) < 60000) ∧ rng ((rF s11 (rR σ 7) 9) + 1) ∧ rng ((y12 + 1) + 1) ∧ (inv_X14_keep_14 σ p1 n1 x2 x3 (sF (sA s11 (1000 * ((rR σ 7) + 1) + 8) (rF s11 (rR σ 7) 9) (inar .byte (f_i2b 10))) (rR σ 7) 9 ((rF s11 (rR σ 7) 9) + 1)) ((y12 + 1) + 1) ∧ (mu_X14_keep_14 σ p1 n1 x2 x3 (sF (sA s11 (1000 * ((rR σ 7) + 1) + 8) (rF s11 (rR σ 7) 9) (inar .byte (f_i2b 10))) (rR σ 7) 9 ((rF s11 (rR σ 7) 9) + 1)) ((y12 + 1) + 1)) < (mu_X14_keep_14 σ p1 n1 x2 x3 s11 y12))))))))))))))
def VC_X14_keep_14m (σ : rS) (p1 n1 : Nat) (x2 : Int) (x3 : Int) : Prop := ∀ (s11 : rS) (y12 : Int), rWF s11 → rng y12 → rR s11 7 = rR σ 7 → inv_X14_keep_14 σ p1 n1 x2 x3 s11 y12 → 0 < (mu_X14_keep_14 σ p1 n1 x2 x3 s11 y12)
set_option maxHeartbeats 400000 in
theorem vX14_keep (σ : rS) (p1 n1 : Nat) (x2 : Int) (x3 : Int) (hwf : rWF σ) (ha1 : rAr 3 n1 p1) (hx2 : rng x2) (hx3 : rng x3) (hp : pre_X14_keep σ p1 n1 x2 x3) : VC_X14_keep σ p1 n1 x2 x3 (post_X14_keep σ p1 n1 x2 x3) := by
  simp only [VC_X14_keep, pre_X14_keep, post_X14_keep, inv_X14_keep_14, mu_X14_keep_14, rng, rfk, rNMp, rF_sF, rF_sA, rF_sL, rF_sR, rA_sA, rA_sF, rA_sL, rA_sR, rR_sF, rR_sA, rR_sL, rR_sR, reduceIte, and_true, true_and, and_false, false_and, and_self] at *
  (repeat' (first | with_reducible intro _ | with_reducible apply And.intro))
  all_goals (first | assumption | omega | grind (splits := 20) [rNM_sF0])
set_option maxHeartbeats 400000 in
theorem vX14_keep_14 (σ : rS) (p1 n1 : Nat) (x2 : Int) (x3 : Int) (hwf : rWF σ) (ha1 : rAr 3 n1 p1) (hx2 : rng x2) (hx3 : rng x3) (hp : pre_X14_keep σ p1 n1 x2 x3) : VC_X14_keep_14 σ p1 n1 x2 x3 (post_X14_keep σ p1 n1 x2 x3) := by
  simp only [VC_X14_keep_14, pre_X14_keep, post_X14_keep, inv_X14_keep_14, mu_X14_keep_14, rng, rfk, rNMp, rF_sF, rF_sA, rF_sL, rF_sR, rA_sA, rA_sF, rA_sL, rA_sR, rR_sF, rR_sA, rR_sL, rR_sR, reduceIte, and_true, true_and, and_false, false_and, and_self] at *
  (repeat' (first | with_reducible intro _ | with_reducible apply And.intro))
  all_goals (first | assumption | omega | grind (splits := 20) [rNM_sF0])
set_option maxHeartbeats 400000 in
theorem vX14_keep_14m (σ : rS) (p1 n1 : Nat) (x2 : Int) (x3 : Int) (hwf : rWF σ) (ha1 : rAr 3 n1 p1) (hx2 : rng x2) (hx3 : rng x3) (hp : pre_X14_keep σ p1 n1 x2 x3) : VC_X14_keep_14m σ p1 n1 x2 x3 := by
  simp only [VC_X14_keep_14m, pre_X14_keep, post_X14_keep, inv_X14_keep_14, mu_X14_keep_14, rng, rfk, rNMp, rF_sF, rF_sA, rF_sL, rF_sR, rA_sA, rA_sF, rA_sL, rA_sR, rR_sF, rR_sA, rR_sL, rR_sR, reduceIte, and_true, true_and, and_false, false_and, and_self] at *
  (repeat' (first | with_reducible intro _ | with_reducible apply And.intro))
  all_goals (first | assumption | omega | grind (splits := 20) [rNM_sF0])
theorem wX14_keep (l : Launch) (G : zG) (κ : Nat → Nat) (σ : rS) (p1 n1 : Nat) (x2 : Int) (x3 : Int) (hwf : rWF σ) (ha1 : rAr 3 n1 p1) (hx2 : rng x2) (hx3 : rng x3) (Q : rS → Prop) (h : VC_X14_keep σ p1 n1 x2 x3 Q) (h_14 : VC_X14_keep_14 σ p1 n1 x2 x3 Q) (h_14m : VC_X14_keep_14m σ p1 n1 x2 x3) : rMv l G κ yX14_keep cX14_keep 6 1 0 [.ref (κ 0), .ref (κ p1), iv x2, iv x3] σ (fun s => rKeep 0x3000000 0x200 0 0x100 0 σ s ∧ Q s) := by
  refine zMv.intro (by decide +kernel) (Nat.le_of_ble_eq_true rfl) (fun X hC hR => ?_)
  obtain ⟨g0, h⟩ := h
  refine z_aload_n hC (pc := 0) 0 dX14_keep_0 rfl rfl ?_
  refine z_aload_n hC (pc := 1) 0 dX14_keep_1 rfl rfl ?_
  refine y_get hC (pc := 2) zf14 rOb_0 7 (v := .ref (κ (rR σ 7))) dX14_keep_2 zw2475 (rv_g rfl rfl g0) (kk := ?_)
  refine y_getN hC (pc := 5) zf13 (rOb_k g0) 9 (v := iv (rF σ (rR σ 7) 9)) dX14_keep_5 zw2328 (rv_i (Or.inl rfl) rfl) (kk := ?_)
  have h := h (hwf.f _ _)
  refine y_putI hC (pc := 8) zf14 rOb_0 24 (x := (rF σ (rR σ 7) 9)) dX14_keep_8 zw2491 (Or.inl rfl) rfl rfl (kk := ?_)
  have W10 := hwf.sF (q := 0) (f := 24) (x := (rF σ (rR σ 7) 9)) (hwf.f _ _)
  refine z_iload_n hC (pc := 11) 2 dX14_keep_11 rfl rfl ?_
  refine z_istore hC (pc := 12) (lv' := [(4, iv x2), (0, .ref (κ 0)), (1, .ref (κ p1)), (2, iv x2), (3, iv x3)]) dX14_keep_12 (by decide) rfl ?_
  have j14 : ∀ (d14 : Nat), ∀ (s11 : rS) (y12 : Int), rWF s11 → rng y12 → rKeep 0x3000000 0x200 0 0x100 0 σ s11 → inv_X14_keep_14 σ p1 n1 x2 x3 s11 y12 → (mu_X14_keep_14 σ p1 n1 x2 x3 s11 y12) ≤ d14 → zS X G 6 (rW G κ s11) [(0, .ref (κ 0)), (1, .ref (κ p1)), (3, iv x3), (4, iv y12)] 0 0 14 [] := by
    intro d14
    induction d14 with
    | zero =>
      intro s11 y12 Ws11 hy12 kJ hI hmu
      exact absurd hmu (by have := h_14m  s11 y12 Ws11 hy12 (kJ.R rfl) hI; omega)
    | succ d14 ih14 =>
      intro s11 y12 Ws11 hy12 kJ hI hmu14
      have h := h_14  s11 y12 Ws11 hy12 (kJ.R rfl) hI
      refine z_iload hC (pc := 14) 3 dX14_keep_14 rfl ?_
      refine z_iload_n hC (pc := 16) 2 dX14_keep_16 rfl rfl ?_
      obtain ⟨hT, hF⟩ := h
      refine y_icmp_ge hC (pc := 17) 115 hy12 hx3 dX14_keep_17 (by decide) (fun c => ?_) (fun c => ?_)
      · have h := hT c
        refine z_aload_n hC (pc := 115) 0 dX14_keep_115 rfl rfl ?_
        refine z_aload_n hC (pc := 116) 0 dX14_keep_116 rfl rfl ?_
        refine y_get hC (pc := 117) zf14 rOb_0 7 (v := .ref (κ (rR σ 7))) dX14_keep_117 zw2475 (rv_g rfl (kJ.R rfl) g0) (kk := ?_)
        refine y_getN hC (pc := 120) zf13 (rOb_k g0) 9 (v := iv (rF s11 (rR σ 7) 9)) dX14_keep_120 zw2328 (rv_i (Or.inl rfl) rfl) (kk := ?_)
        have h := h (Ws11.f _ _)
        refine z_aload_n hC (pc := 123) 0 dX14_keep_123 rfl rfl ?_
        refine y_get hC (pc := 124) zf14 rOb_0 24 (v := iv (rF s11 0 24)) dX14_keep_124 zw2491 (rv_i (Or.inl rfl) rfl) (kk := ?_)
        have h := h (Ws11.f _ _)
        refine y_isub hC (pc := 127) (v := ((rF s11 (rR σ 7) 9) - (rF s11 0 24))) dX14_keep_127 rfl ?_
        obtain ⟨r13, h⟩ := h
        refine y_putI hC (pc := 128) zf14 rOb_0 25 (x := ((rF s11 (rR σ 7) 9) - (rF s11 0 24))) dX14_keep_128 zw2492 (Or.inl rfl) rfl rfl (kk := ?_)
        have W14 := Ws11.sF (q := 0) (f := 25) (x := ((rF s11 (rR σ 7) 9) - (rF s11 0 24))) r13
        exact y_retv hR dX14_keep_131 W14 (Nat.le_of_ble_eq_true rfl) (Nat.le_of_ble_eq_true rfl) ⟨(rKeep.tr (rKeep.tr rKeep.rf kJ rfl rfl rfl rfl rfl) (rKeep.sF0 (f := 25)) rfl rfl rfl rfl rfl), h⟩
      · have h := hF c
        refine z_aload_n hC (pc := 20) 1 dX14_keep_20 rfl rfl ?_
        refine z_iload hC (pc := 21) 3 dX14_keep_21 rfl ?_
        obtain ⟨b15, h⟩ := h
        refine y_bald hC (pc := 23) ha1 dX14_keep_23 b15 (v := (rA s11 p1 y12)) rfl (kk := ?_)
        have h := h (Ws11.a _ _)
        refine z_istore hC (pc := 24) (lv' := [(5, iv (rA s11 p1 y12)), (0, .ref (κ 0)), (1, .ref (κ p1)), (3, iv x3), (4, iv y12)]) dX14_keep_24 (by decide) rfl ?_
        refine z_iload hC (pc := 26) 0 dX14_keep_26 rfl ?_
        refine z_bipush hC (pc := 28) (v := Int32.ofInt 92) dX14_keep_28 (by decide) ?_
        obtain ⟨hT, hF⟩ := h
        refine y_icmp_ne hC (pc := 30) 78 (Ws11.a _ _) (r_lit rfl) dX14_keep_30 (by decide) (fun c => ?_) (fun c => ?_)
        · have h := hT c
          refine z_aload_n hC (pc := 78) 1 dX14_keep_78 rfl rfl ?_
          refine y_get hC (pc := 79) zf14 rOb_0 7 (v := .ref (κ (rR σ 7))) dX14_keep_79 zw2475 (rv_g rfl (kJ.R rfl) g0) (kk := ?_)
          refine y_getN hC (pc := 82) zf13 (rOb_k g0) 8 (v := .ref (κ (1000 * ((rR σ 7) + 1) + 8))) dX14_keep_82 zw2326 (rv_c rfl) (kk := ?_)
          refine z_aload_n hC (pc := 85) 1 dX14_keep_85 rfl rfl ?_
          refine y_get hC (pc := 86) zf14 rOb_0 7 (v := .ref (κ (rR σ 7))) dX14_keep_86 zw2475 (rv_g rfl (kJ.R rfl) g0) (kk := ?_)
          refine y_getN hC (pc := 89) zf13 (rOb_k g0) 9 (v := iv (rF s11 (rR σ 7) 9)) dX14_keep_89 zw2328 (rv_i (Or.inl rfl) rfl) (kk := ?_)
          have h := h (Ws11.f _ _)
          refine z_iload hC (pc := 92) 0 dX14_keep_92 rfl ?_
          refine y_i2b hC (pc := 94) dX14_keep_94 ?_
          obtain ⟨b16, h⟩ := h
          refine y_bast hC (pc := 95) (rAr_k g0 rfl rfl) dX14_keep_95 b16 (v := (f_i2b (rA s11 p1 y12))) (kk := ?_)
          have W17 := Ws11.sA (p := (1000 * ((rR σ 7) + 1) + 8)) (i := (rF s11 (rR σ 7) 9)) (x := (inar .byte (f_i2b (rA s11 p1 y12)))) (inar_rng _ _)
          refine z_aload_n hC (pc := 96) 1 dX14_keep_96 rfl rfl ?_
          refine y_get hC (pc := 97) zf14 rOb_0 7 (v := .ref (κ (rR σ 7))) dX14_keep_97 zw2475 (rv_g rfl (kJ.R rfl) g0) (kk := ?_)
          refine z_dup hC (pc := 100) dX14_keep_100 rfl ?_
          refine y_getN hC (pc := 101) zf13 (rOb_k g0) 9 (v := iv (rF s11 (rR σ 7) 9)) dX14_keep_101 zw2328 (rv_i (Or.inl rfl) rfl) (kk := ?_)
          refine z_iconst hC (pc := 104) (v := Int32.ofInt 1) dX14_keep_104 (by decide) ?_
          refine y_iadd hC (pc := 105) (v := ((rF s11 (rR σ 7) 9) + 1)) dX14_keep_105 rfl ?_
          obtain ⟨r18, h⟩ := h
          refine y_putIN hC (pc := 106) zf13 (rOb_k g0) 9 (x := ((rF s11 (rR σ 7) 9) + 1)) dX14_keep_106 zw2328 (Or.inl rfl) rfl rfl (kk := ?_)
          have W19 := W17.sF (q := (rR σ 7)) (f := 9) (x := ((rF s11 (rR σ 7) 9) + 1)) r18
          refine y_iinc hC (pc := 109) (v := (y12 + 1)) (lv' := [(4, iv (y12 + 1)), (5, iv (rA s11 p1 y12)), (0, .ref (κ 0)), (1, .ref (κ p1)), (3, iv x3)]) 4 dX14_keep_109 rfl rfl (by decide) rfl ?_
          refine z_goto hC (pc := 112) 14 dX14_keep_112 (by decide) ?_
          refine z_lvs [2, 3, 4, 0] rfl ?_
          obtain ⟨r20, h⟩ := h
          obtain ⟨hI, hm⟩ := h
          exact ih14 (sF (sA s11 (1000 * ((rR σ 7) + 1) + 8) (rF s11 (rR σ 7) 9) (inar .byte (f_i2b (rA s11 p1 y12)))) (rR σ 7) 9 ((rF s11 (rR σ 7) 9) + 1)) (y12 + 1) W19 r20 (rKeep.tr (rKeep.tr (rKeep.tr rKeep.rf kJ rfl rfl rfl rfl rfl) (rKeep.sAk (f := 8) g0 (by decide)) rfl rfl rfl rfl rfl) (rKeep.sFk (f := 9) g0) rfl rfl rfl rfl rfl) hI (by omega)
        · have h := hF c
          refine z_iload hC (pc := 33) 4 dX14_keep_33 rfl ?_
          refine z_iconst hC (pc := 35) (v := Int32.ofInt 1) dX14_keep_35 (by decide) ?_
          refine y_iadd hC (pc := 36) (v := (y12 + 1)) dX14_keep_36 rfl ?_
          refine z_iload_n hC (pc := 37) 3 dX14_keep_37 rfl rfl ?_
          obtain ⟨r21, h⟩ := h
          obtain ⟨hT, hF⟩ := h
          refine y_icmp_ge hC (pc := 38) 78 r21 hx3 dX14_keep_38 (by decide) (fun c => ?_) (fun c => ?_)
          · have h := hT c
            refine z_aload_n hC (pc := 78) 1 dX14_keep_78 rfl rfl ?_
            refine y_get hC (pc := 79) zf14 rOb_0 7 (v := .ref (κ (rR σ 7))) dX14_keep_79 zw2475 (rv_g rfl (kJ.R rfl) g0) (kk := ?_)
            refine y_getN hC (pc := 82) zf13 (rOb_k g0) 8 (v := .ref (κ (1000 * ((rR σ 7) + 1) + 8))) dX14_keep_82 zw2326 (rv_c rfl) (kk := ?_)
            refine z_aload_n hC (pc := 85) 1 dX14_keep_85 rfl rfl ?_
            refine y_get hC (pc := 86) zf14 rOb_0 7 (v := .ref (κ (rR σ 7))) dX14_keep_86 zw2475 (rv_g rfl (kJ.R rfl) g0) (kk := ?_)
            refine y_getN hC (pc := 89) zf13 (rOb_k g0) 9 (v := iv (rF s11 (rR σ 7) 9)) dX14_keep_89 zw2328 (rv_i (Or.inl rfl) rfl) (kk := ?_)
            have h := h (Ws11.f _ _)
            refine z_iload hC (pc := 92) 0 dX14_keep_92 rfl ?_
            refine y_i2b hC (pc := 94) dX14_keep_94 ?_
            obtain ⟨b22, h⟩ := h
            refine y_bast hC (pc := 95) (rAr_k g0 rfl rfl) dX14_keep_95 b22 (v := (f_i2b (rA s11 p1 y12))) (kk := ?_)
            have W23 := Ws11.sA (p := (1000 * ((rR σ 7) + 1) + 8)) (i := (rF s11 (rR σ 7) 9)) (x := (inar .byte (f_i2b (rA s11 p1 y12)))) (inar_rng _ _)
            refine z_aload_n hC (pc := 96) 1 dX14_keep_96 rfl rfl ?_
            refine y_get hC (pc := 97) zf14 rOb_0 7 (v := .ref (κ (rR σ 7))) dX14_keep_97 zw2475 (rv_g rfl (kJ.R rfl) g0) (kk := ?_)
            refine z_dup hC (pc := 100) dX14_keep_100 rfl ?_
            refine y_getN hC (pc := 101) zf13 (rOb_k g0) 9 (v := iv (rF s11 (rR σ 7) 9)) dX14_keep_101 zw2328 (rv_i (Or.inl rfl) rfl) (kk := ?_)
            refine z_iconst hC (pc := 104) (v := Int32.ofInt 1) dX14_keep_104 (by decide) ?_
            refine y_iadd hC (pc := 105) (v := ((rF s11 (rR σ 7) 9) + 1)) dX14_keep_105 rfl ?_
            obtain ⟨r24, h⟩ := h
            refine y_putIN hC (pc := 106) zf13 (rOb_k g0) 9 (x := ((rF s11 (rR σ 7) 9) + 1)) dX14_keep_106 zw2328 (Or.inl rfl) rfl rfl (kk := ?_)
            have W25 := W23.sF (q := (rR σ 7)) (f := 9) (x := ((rF s11 (rR σ 7) 9) + 1)) r24
            refine y_iinc hC (pc := 109) (v := (y12 + 1)) (lv' := [(4, iv (y12 + 1)), (5, iv (rA s11 p1 y12)), (0, .ref (κ 0)), (1, .ref (κ p1)), (3, iv x3)]) 4 dX14_keep_109 rfl rfl (by decide) rfl ?_
            refine z_goto hC (pc := 112) 14 dX14_keep_112 (by decide) ?_
            refine z_lvs [2, 3, 4, 0] rfl ?_
            obtain ⟨hI, hm⟩ := h
            exact ih14 (sF (sA s11 (1000 * ((rR σ 7) + 1) + 8) (rF s11 (rR σ 7) 9) (inar .byte (f_i2b (rA s11 p1 y12)))) (rR σ 7) 9 ((rF s11 (rR σ 7) 9) + 1)) (y12 + 1) W25 r21 (rKeep.tr (rKeep.tr (rKeep.tr rKeep.rf kJ rfl rfl rfl rfl rfl) (rKeep.sAk (f := 8) g0 (by decide)) rfl rfl rfl rfl rfl) (rKeep.sFk (f := 9) g0) rfl rfl rfl rfl rfl) hI (by omega)
          · have h := hF c
            refine y_iinc hC (pc := 41) (v := (y12 + 1)) (lv' := [(4, iv (y12 + 1)), (5, iv (rA s11 p1 y12)), (0, .ref (κ 0)), (1, .ref (κ p1)), (3, iv x3)]) 4 dX14_keep_41 rfl rfl (by decide) rfl ?_
            refine z_aload_n hC (pc := 44) 3 dX14_keep_44 rfl rfl ?_
            refine z_iload hC (pc := 45) 0 dX14_keep_45 rfl ?_
            obtain ⟨b26, h⟩ := h
            refine y_bald hC (pc := 47) ha1 dX14_keep_47 b26 (v := (rA s11 p1 (y12 + 1))) rfl (kk := ?_)
            have h := h (Ws11.a _ _)
            refine z_bipush hC (pc := 48) (v := Int32.ofInt 110) dX14_keep_48 (by decide) ?_
            obtain ⟨hT, hF⟩ := h
            refine y_icmp_ne hC (pc := 50) 58 (Ws11.a _ _) (r_lit rfl) dX14_keep_50 (by decide) (fun c => ?_) (fun c => ?_)
            · have h := hT c
              refine z_aload_n hC (pc := 58) 3 dX14_keep_58 rfl rfl ?_
              refine z_iload hC (pc := 59) 0 dX14_keep_59 rfl ?_
              obtain ⟨b27, h⟩ := h
              refine y_bald hC (pc := 61) ha1 dX14_keep_61 b27 (v := (rA s11 p1 (y12 + 1))) rfl (kk := ?_)
              refine z_bipush hC (pc := 62) (v := Int32.ofInt 116) dX14_keep_62 (by decide) ?_
              obtain ⟨hT, hF⟩ := h
              refine y_icmp_ne hC (pc := 64) 72 (Ws11.a _ _) (r_lit rfl) dX14_keep_64 (by decide) (fun c => ?_) (fun c => ?_)
              · have h := hT c
                refine z_aload_n hC (pc := 72) 3 dX14_keep_72 rfl rfl ?_
                refine z_iload hC (pc := 73) 0 dX14_keep_73 rfl ?_
                obtain ⟨b28, h⟩ := h
                refine y_bald hC (pc := 75) ha1 dX14_keep_75 b28 (v := (rA s11 p1 (y12 + 1))) rfl (kk := ?_)
                refine z_istore hC (pc := 76) (lv' := [(5, iv (rA s11 p1 (y12 + 1))), (4, iv (y12 + 1)), (0, .ref (κ 0)), (1, .ref (κ p1)), (3, iv x3)]) dX14_keep_76 (by decide) rfl ?_
                refine z_aload_n hC (pc := 78) 2 dX14_keep_78 rfl rfl ?_
                refine y_get hC (pc := 79) zf14 rOb_0 7 (v := .ref (κ (rR σ 7))) dX14_keep_79 zw2475 (rv_g rfl (kJ.R rfl) g0) (kk := ?_)
                refine y_getN hC (pc := 82) zf13 (rOb_k g0) 8 (v := .ref (κ (1000 * ((rR σ 7) + 1) + 8))) dX14_keep_82 zw2326 (rv_c rfl) (kk := ?_)
                refine z_aload_n hC (pc := 85) 2 dX14_keep_85 rfl rfl ?_
                refine y_get hC (pc := 86) zf14 rOb_0 7 (v := .ref (κ (rR σ 7))) dX14_keep_86 zw2475 (rv_g rfl (kJ.R rfl) g0) (kk := ?_)
                refine y_getN hC (pc := 89) zf13 (rOb_k g0) 9 (v := iv (rF s11 (rR σ 7) 9)) dX14_keep_89 zw2328 (rv_i (Or.inl rfl) rfl) (kk := ?_)
                have h := h (Ws11.f _ _)
                refine z_iload hC (pc := 92) 0 dX14_keep_92 rfl ?_
                refine y_i2b hC (pc := 94) dX14_keep_94 ?_
                obtain ⟨b29, h⟩ := h
                refine y_bast hC (pc := 95) (rAr_k g0 rfl rfl) dX14_keep_95 b29 (v := (f_i2b (rA s11 p1 (y12 + 1)))) (kk := ?_)
                have W30 := Ws11.sA (p := (1000 * ((rR σ 7) + 1) + 8)) (i := (rF s11 (rR σ 7) 9)) (x := (inar .byte (f_i2b (rA s11 p1 (y12 + 1))))) (inar_rng _ _)
                refine z_aload_n hC (pc := 96) 2 dX14_keep_96 rfl rfl ?_
                refine y_get hC (pc := 97) zf14 rOb_0 7 (v := .ref (κ (rR σ 7))) dX14_keep_97 zw2475 (rv_g rfl (kJ.R rfl) g0) (kk := ?_)
                refine z_dup hC (pc := 100) dX14_keep_100 rfl ?_
                refine y_getN hC (pc := 101) zf13 (rOb_k g0) 9 (v := iv (rF s11 (rR σ 7) 9)) dX14_keep_101 zw2328 (rv_i (Or.inl rfl) rfl) (kk := ?_)
                refine z_iconst hC (pc := 104) (v := Int32.ofInt 1) dX14_keep_104 (by decide) ?_
                refine y_iadd hC (pc := 105) (v := ((rF s11 (rR σ 7) 9) + 1)) dX14_keep_105 rfl ?_
                obtain ⟨r31, h⟩ := h
                refine y_putIN hC (pc := 106) zf13 (rOb_k g0) 9 (x := ((rF s11 (rR σ 7) 9) + 1)) dX14_keep_106 zw2328 (Or.inl rfl) rfl rfl (kk := ?_)
                have W32 := W30.sF (q := (rR σ 7)) (f := 9) (x := ((rF s11 (rR σ 7) 9) + 1)) r31
                refine y_iinc hC (pc := 109) (v := ((y12 + 1) + 1)) (lv' := [(4, iv ((y12 + 1) + 1)), (5, iv (rA s11 p1 (y12 + 1))), (0, .ref (κ 0)), (1, .ref (κ p1)), (3, iv x3)]) 1 dX14_keep_109 rfl rfl (by decide) rfl ?_
                refine z_goto hC (pc := 112) 14 dX14_keep_112 (by decide) ?_
                refine z_lvs [2, 3, 4, 0] rfl ?_
                obtain ⟨r33, h⟩ := h
                obtain ⟨hI, hm⟩ := h
                exact ih14 (sF (sA s11 (1000 * ((rR σ 7) + 1) + 8) (rF s11 (rR σ 7) 9) (inar .byte (f_i2b (rA s11 p1 (y12 + 1))))) (rR σ 7) 9 ((rF s11 (rR σ 7) 9) + 1)) ((y12 + 1) + 1) W32 r33 (rKeep.tr (rKeep.tr (rKeep.tr rKeep.rf kJ rfl rfl rfl rfl rfl) (rKeep.sAk (f := 8) g0 (by decide)) rfl rfl rfl rfl rfl) (rKeep.sFk (f := 9) g0) rfl rfl rfl rfl rfl) hI (by omega)
              · have h := hF c
                refine z_bipush hC (pc := 67) (v := Int32.ofInt 9) dX14_keep_67 (by decide) ?_
                refine z_goto hC (pc := 69) 76 dX14_keep_69 (by decide) ?_
                refine z_istore hC (pc := 76) (lv' := [(5, iv 9), (4, iv (y12 + 1)), (0, .ref (κ 0)), (1, .ref (κ p1)), (3, iv x3)]) dX14_keep_76 (by decide) rfl ?_
                refine z_aload_n hC (pc := 78) 2 dX14_keep_78 rfl rfl ?_
                refine y_get hC (pc := 79) zf14 rOb_0 7 (v := .ref (κ (rR σ 7))) dX14_keep_79 zw2475 (rv_g rfl (kJ.R rfl) g0) (kk := ?_)
                refine y_getN hC (pc := 82) zf13 (rOb_k g0) 8 (v := .ref (κ (1000 * ((rR σ 7) + 1) + 8))) dX14_keep_82 zw2326 (rv_c rfl) (kk := ?_)
                refine z_aload_n hC (pc := 85) 2 dX14_keep_85 rfl rfl ?_
                refine y_get hC (pc := 86) zf14 rOb_0 7 (v := .ref (κ (rR σ 7))) dX14_keep_86 zw2475 (rv_g rfl (kJ.R rfl) g0) (kk := ?_)
                refine y_getN hC (pc := 89) zf13 (rOb_k g0) 9 (v := iv (rF s11 (rR σ 7) 9)) dX14_keep_89 zw2328 (rv_i (Or.inl rfl) rfl) (kk := ?_)
                have h := h (Ws11.f _ _)
                refine z_iload hC (pc := 92) 0 dX14_keep_92 rfl ?_
                refine y_i2b hC (pc := 94) dX14_keep_94 ?_
                obtain ⟨b34, h⟩ := h
                refine y_bast hC (pc := 95) (rAr_k g0 rfl rfl) dX14_keep_95 b34 (v := (f_i2b 9)) (kk := ?_)
                have W35 := Ws11.sA (p := (1000 * ((rR σ 7) + 1) + 8)) (i := (rF s11 (rR σ 7) 9)) (x := (inar .byte (f_i2b 9))) (inar_rng _ _)
                refine z_aload_n hC (pc := 96) 2 dX14_keep_96 rfl rfl ?_
                refine y_get hC (pc := 97) zf14 rOb_0 7 (v := .ref (κ (rR σ 7))) dX14_keep_97 zw2475 (rv_g rfl (kJ.R rfl) g0) (kk := ?_)
                refine z_dup hC (pc := 100) dX14_keep_100 rfl ?_
                refine y_getN hC (pc := 101) zf13 (rOb_k g0) 9 (v := iv (rF s11 (rR σ 7) 9)) dX14_keep_101 zw2328 (rv_i (Or.inl rfl) rfl) (kk := ?_)
                refine z_iconst hC (pc := 104) (v := Int32.ofInt 1) dX14_keep_104 (by decide) ?_
                refine y_iadd hC (pc := 105) (v := ((rF s11 (rR σ 7) 9) + 1)) dX14_keep_105 rfl ?_
                obtain ⟨r36, h⟩ := h
                refine y_putIN hC (pc := 106) zf13 (rOb_k g0) 9 (x := ((rF s11 (rR σ 7) 9) + 1)) dX14_keep_106 zw2328 (Or.inl rfl) rfl rfl (kk := ?_)
                have W37 := W35.sF (q := (rR σ 7)) (f := 9) (x := ((rF s11 (rR σ 7) 9) + 1)) r36
                refine y_iinc hC (pc := 109) (v := ((y12 + 1) + 1)) (lv' := [(4, iv ((y12 + 1) + 1)), (5, iv 9), (0, .ref (κ 0)), (1, .ref (κ p1)), (3, iv x3)]) 1 dX14_keep_109 rfl rfl (by decide) rfl ?_
                refine z_goto hC (pc := 112) 14 dX14_keep_112 (by decide) ?_
                refine z_lvs [2, 3, 4, 0] rfl ?_
                obtain ⟨r38, h⟩ := h
                obtain ⟨hI, hm⟩ := h
                exact ih14 (sF (sA s11 (1000 * ((rR σ 7) + 1) + 8) (rF s11 (rR σ 7) 9) (inar .byte (f_i2b 9))) (rR σ 7) 9 ((rF s11 (rR σ 7) 9) + 1)) ((y12 + 1) + 1) W37 r38 (rKeep.tr (rKeep.tr (rKeep.tr rKeep.rf kJ rfl rfl rfl rfl rfl) (rKeep.sAk (f := 8) g0 (by decide)) rfl rfl rfl rfl rfl) (rKeep.sFk (f := 9) g0) rfl rfl rfl rfl rfl) hI (by omega)
            · have h := hF c
              refine z_bipush hC (pc := 53) (v := Int32.ofInt 10) dX14_keep_53 (by decide) ?_
              refine z_goto hC (pc := 55) 76 dX14_keep_55 (by decide) ?_
              refine z_istore hC (pc := 76) (lv' := [(5, iv 10), (4, iv (y12 + 1)), (0, .ref (κ 0)), (1, .ref (κ p1)), (3, iv x3)]) dX14_keep_76 (by decide) rfl ?_
              refine z_aload_n hC (pc := 78) 2 dX14_keep_78 rfl rfl ?_
              refine y_get hC (pc := 79) zf14 rOb_0 7 (v := .ref (κ (rR σ 7))) dX14_keep_79 zw2475 (rv_g rfl (kJ.R rfl) g0) (kk := ?_)
              refine y_getN hC (pc := 82) zf13 (rOb_k g0) 8 (v := .ref (κ (1000 * ((rR σ 7) + 1) + 8))) dX14_keep_82 zw2326 (rv_c rfl) (kk := ?_)
              refine z_aload_n hC (pc := 85) 2 dX14_keep_85 rfl rfl ?_
              refine y_get hC (pc := 86) zf14 rOb_0 7 (v := .ref (κ (rR σ 7))) dX14_keep_86 zw2475 (rv_g rfl (kJ.R rfl) g0) (kk := ?_)
              refine y_getN hC (pc := 89) zf13 (rOb_k g0) 9 (v := iv (rF s11 (rR σ 7) 9)) dX14_keep_89 zw2328 (rv_i (Or.inl rfl) rfl) (kk := ?_)
              have h := h (Ws11.f _ _)
              refine z_iload hC (pc := 92) 0 dX14_keep_92 rfl ?_
              refine y_i2b hC (pc := 94) dX14_keep_94 ?_
              obtain ⟨b39, h⟩ := h
              refine y_bast hC (pc := 95) (rAr_k g0 rfl rfl) dX14_keep_95 b39 (v := (f_i2b 10)) (kk := ?_)
              have W40 := Ws11.sA (p := (1000 * ((rR σ 7) + 1) + 8)) (i := (rF s11 (rR σ 7) 9)) (x := (inar .byte (f_i2b 10))) (inar_rng _ _)
              refine z_aload_n hC (pc := 96) 2 dX14_keep_96 rfl rfl ?_
              refine y_get hC (pc := 97) zf14 rOb_0 7 (v := .ref (κ (rR σ 7))) dX14_keep_97 zw2475 (rv_g rfl (kJ.R rfl) g0) (kk := ?_)
              refine z_dup hC (pc := 100) dX14_keep_100 rfl ?_
              refine y_getN hC (pc := 101) zf13 (rOb_k g0) 9 (v := iv (rF s11 (rR σ 7) 9)) dX14_keep_101 zw2328 (rv_i (Or.inl rfl) rfl) (kk := ?_)
              refine z_iconst hC (pc := 104) (v := Int32.ofInt 1) dX14_keep_104 (by decide) ?_
              refine y_iadd hC (pc := 105) (v := ((rF s11 (rR σ 7) 9) + 1)) dX14_keep_105 rfl ?_
              obtain ⟨r41, h⟩ := h
              refine y_putIN hC (pc := 106) zf13 (rOb_k g0) 9 (x := ((rF s11 (rR σ 7) 9) + 1)) dX14_keep_106 zw2328 (Or.inl rfl) rfl rfl (kk := ?_)
              have W42 := W40.sF (q := (rR σ 7)) (f := 9) (x := ((rF s11 (rR σ 7) 9) + 1)) r41
              refine y_iinc hC (pc := 109) (v := ((y12 + 1) + 1)) (lv' := [(4, iv ((y12 + 1) + 1)), (5, iv 10), (0, .ref (κ 0)), (1, .ref (κ p1)), (3, iv x3)]) 1 dX14_keep_109 rfl rfl (by decide) rfl ?_
              refine z_goto hC (pc := 112) 14 dX14_keep_112 (by decide) ?_
              refine z_lvs [2, 3, 4, 0] rfl ?_
              obtain ⟨r43, h⟩ := h
              obtain ⟨hI, hm⟩ := h
              exact ih14 (sF (sA s11 (1000 * ((rR σ 7) + 1) + 8) (rF s11 (rR σ 7) 9) (inar .byte (f_i2b 10))) (rR σ 7) 9 ((rF s11 (rR σ 7) 9) + 1)) ((y12 + 1) + 1) W42 r43 (rKeep.tr (rKeep.tr (rKeep.tr rKeep.rf kJ rfl rfl rfl rfl rfl) (rKeep.sAk (f := 8) g0 (by decide)) rfl rfl rfl rfl rfl) (rKeep.sFk (f := 9) g0) rfl rfl rfl rfl rfl) hI (by omega)
  refine z_lvs [1, 2, 4, 0] rfl ?_
  exact j14 _ (sF σ 0 24 (rF σ (rR σ 7) 9)) x2 W10 hx2 (rKeep.tr rKeep.rf (rKeep.sF0 (f := 24)) rfl rfl rfl rfl rfl) h (Nat.le_refl _)
theorem kX14_keep (l : Launch) (G : zG) (κ : Nat → Nat) (σ : rS) (p1 n1 : Nat) (x2 : Int) (x3 : Int) (hwf : rWF σ) (ha1 : rAr 3 n1 p1) (hx2 : rng x2) (hx3 : rng x3) (hp : pre_X14_keep σ p1 n1 x2 x3) : rMv l G κ yX14_keep cX14_keep 6 1 0 [.ref (κ 0), .ref (κ p1), iv x2, iv x3] σ (fun s => rKeep 0x3000000 0x200 0 0x100 0 σ s ∧ post_X14_keep σ p1 n1 x2 x3 s) := wX14_keep l G κ σ p1 n1 x2 x3 hwf ha1 hx2 hx3 (post_X14_keep σ p1 n1 x2 x3) (vX14_keep σ p1 n1 x2 x3 hwf ha1 hx2 hx3 hp) (vX14_keep_14 σ p1 n1 x2 x3 hwf ha1 hx2 hx3 hp) (vX14_keep_14m σ p1 n1 x2 x3 hwf ha1 hx2 hx3 hp)
def pre_X14_fileString (σ : rS)  : Prop := 0 ≤ (rF σ 0 17) ∧ 0 ≤ (rF σ 0 16) ∧ (rF σ 0 16) ≤ 4000 ∧ rfk (rR σ 15) ∧ (rF σ 0 17) ≤ (rF σ 0 16)
def post_X14_fileString (σ : rS)  (σ' : rS) : Prop := (rF σ 0 17) ≤ (rF σ' 0 17) ∧ (rF σ' 0 17) ≤ (rF σ 0 16) ∧ ((rF σ 0 10) ≠ 0 → (rF σ' 0 10) = (rF σ 0 10)) ∧ ((rF σ' 0 10) = 0 → (rF σ 0 17) < (rF σ' 0 17) ∧ 0 ≤ (rF σ' 0 22) ∧ (rF σ' 0 22) ≤ (rF σ' 0 23) ∧ (rF σ' 0 23) ≤ (rF σ 0 16) ∧ (rF σ 0 17) ≤ (rF σ' 0 22) ∧ (rF σ' 0 23) < (rF σ' 0 17) ∧ 0 ≤ (rF σ' 0 21) ∧ (rF σ' 0 21) ≤ (rF σ 0 16))
def inv_X14_fileString_50 (σ : rS)   (s : rS) (k : Int) : Prop := (rF s 0 10) = 0 ∧ (rF σ 0 17) ≤ (rF s 0 17) ∧ (rF s 0 17) < k ∧ k ≤ (rF σ 0 16) ∧ (rF s 0 21) = (rF s 0 17) ∧ ((rF σ 0 10) ≠ 0 → (rF s 0 10) = (rF σ 0 10))
def mu_X14_fileString_50 (σ : rS)  (s : rS) (k : Int) : Nat := (1 + ((rF σ 0 16) - k).toNat)
def VC_X14_fileString (σ : rS) (Q : rS → Prop) : Prop := pre_X14_skip σ ∧ (∀ (s11 : rS), rWF s11 → rR s11 15 = rR σ 15 → rF s11 0 16 = rF σ 0 16 → rF s11 0 21 = rF σ 0 21 → rF s11 0 22 = rF σ 0 22 → rF s11 0 23 = rF σ 0 23 → post_X14_skip σ s11 → (rng (rF s11 0 10) → (((rF s11 0 10) = 0 → (rng (rF s11 0 17) → pre_X14_fc s11 (rF s11 0 17) ∧ (∀ (x15 : Int), rng x15 → post_X14_fc s11 (rF s11 0 17) x15 → ((x15 = 34 → rng ((rF s11 0 17) + 1) ∧ (inv_X14_fileString_50 σ (sF s11 0 21 (rF s11 0 17)) ((rF s11 0 17) + 1))) ∧ (¬ x15 = 34 → pre_X14_bad s11 1 (rF s11 0 17) ∧ (∀ (s62 : rS), rWF s62 → rR s62 15 = rR s11 15 → rF s62 0 16 = rF s11 0 16 → rF s62 0 17 = rF s11 0 17 → rF s62 0 21 = rF s11 0 21 → rF s62 0 22 = rF s11 0 22 → rF s62 0 23 = rF s11 0 23 → post_X14_bad s11 1 (rF s11 0 17) s62 → Q s62)))))) ∧ (¬ (rF s11 0 10) = 0 → Q s11))))
def VC_X14_fileString_50 (σ : rS) (Q : rS → Prop) : Prop := ∀ (s17 : rS) (y18 : Int), rWF s17 → rng y18 → rR s17 15 = rR σ 15 → rF s17 0 16 = rF σ 0 16 → inv_X14_fileString_50 σ s17 y18 → ((rng (rF s17 0 16) → (((rF s17 0 16) ≤ y18 → (((rF s17 0 16) ≤ y18 → pre_X14_bad s17 1 y18 ∧ (∀ (s20 : rS), rWF s20 → rR s20 15 = rR s17 15 → rF s20 0 16 = rF s17 0 16 → rF s20 0 17 = rF s17 0 17 → rF s20 0 21 = rF s17 0 21 → rF s20 0 22 = rF s17 0 22 → rF s20 0 23 = rF s17 0 23 → post_X14_bad s17 1 y18 s20 → Q s20)) ∧ (¬ (rF s17 0 16) ≤ y18 → rfk (rR s17 15) ∧ (0 ≤ y18 ∧ y18 < 4000) ∧ (rng (rA s17 (rR s17 15) y18) → ((¬ (rA s17 (rR s17 15) y18) = 10 → (rng (rF s17 0 17) → rng ((rF s17 0 17) + 1) ∧ rng (y18 + 1) ∧ Q (sF (sF (sF s17 0 22 ((rF s17 0 17) + 1)) 0 23 y18) 0 17 (y18 + 1)))) ∧ ((rA s17 (rR s17 15) y18) = 10 → pre_X14_bad s17 1 y18 ∧ (∀ (s30 : rS), rWF s30 → rR s30 15 = rR s17 15 → rF s30 0 16 = rF s17 0 16 → rF s30 0 17 = rF s17 0 17 → rF s30 0 21 = rF s17 0 21 → rF s30 0 22 = rF s17 0 22 → rF s30 0 23 = rF s17 0 23 → post_X14_bad s17 1 y18 s30 → Q s30))))))) ∧ (¬ (rF s17 0 16) ≤ y18 → rfk (rR s17 15) ∧ (0 ≤ y18 ∧ y18 < 4000) ∧ (rng (rA s17 (rR s17 15) y18) → (((rA s17 (rR s17 15) y18) = 34 → (((rF s17 0 16) ≤ y18 → pre_X14_bad s17 1 y18 ∧ (∀ (s35 : rS), rWF s35 → rR s35 15 = rR s17 15 → rF s35 0 16 = rF s17 0 16 → rF s35 0 17 = rF s17 0 17 → rF s35 0 21 = rF s17 0 21 → rF s35 0 22 = rF s17 0 22 → rF s35 0 23 = rF s17 0 23 → post_X14_bad s17 1 y18 s35 → Q s35)) ∧ (¬ (rF s17 0 16) ≤ y18 → (0 ≤ y18 ∧ y18 < 4000) ∧ ((¬ (rA s17 (rR s17 15) y18) = 10 → (rng (rF s17 0 17) → rng ((rF s17 0 17) + 1) ∧ rng (y18 + 1) ∧ Q (sF (sF (sF s17 0 22 ((rF s17 0 17) + 1)) 0 23 y18) 0 17 (y18 + 1)))) ∧ ((rA s17 (rR s17 15) y18) = 10 → pre_X14_bad s17 1 y18 ∧ (∀ (s44 : rS), rWF s44 → rR s44 15 = rR s17 15 → rF s44 0 16 = rF s17 0 16 → rF s44 0 17 = rF s17 0 17 → rF s44 0 21 = rF s17 0 21 → rF s44 0 22 = rF s17 0 22 → rF s44 0 23 = rF s17 0 23 → post_X14_bad s17 1 y18 s44 → Q s44)))))) ∧ (¬ (rA s17 (rR s17 15) y18) = 34 → (0 ≤ y18 ∧ y18 < 4000) ∧ (((rA s17 (rR s17 15) y18) = 10 → (((rF s17 0 16) ≤ y18 → pre_X14_bad s17 1 y18 ∧ (∀ (s48 : rS), rWF s48 → rR s48 15 = rR s17 15 → rF s48 0 16 = rF s17 0 16 → rF s48 0 17 = rF s17 0 17 → rF s48 0 21 = rF s17 0 21 → rF s48 0 22 = rF s17 0 22 → rF s48 0 23 = rF s17 0 23 → post_X14_bad s17 1 y18 s48 → Q s48)) ∧ (¬ (rF s17 0 16) ≤ y18 → (0 ≤ y18 ∧ y18 < 4000) ∧ ((¬ (rA s17 (rR s17 15) y18) = 10 → (rng (rF s17 0 17) → rng ((rF s17 0 17) + 1) ∧ rng (y18 + 1) ∧ Q (sF (sF (sF s17 0 22 ((rF s17 0 17) + 1)) 0 23 y18) 0 17 (y18 + 1)))) ∧ ((rA s17 (rR s17 15) y18) = 10 → pre_X14_bad s17 1 y18 ∧ (∀ (s57 : rS), rWF s57 → rR s57 15 = rR s17 15 → rF s57 0 16 = rF s17 0 16 → rF s57 0 17 = rF s17 0 17 → rF s57 0 21 = rF s17 0 21 → rF s57 0 22 = rF s17 0 22 → rF s57 0 23 = rF s17 0 23 → post_X14_bad s17 1 y18 s57 → Q s57)))))) ∧ (¬ (rA s17 (rR s17 15) y18) = 10 → rng (y18 + 1) ∧ (inv_X14_fileString_50 σ s17 (y18 + 1) ∧ (mu_X14_fileString_50 σ s17 (y18 + 1)) < (mu_X14_fileString_50 σ s17 y18)))))))))))
def VC_X14_fileString_50m (σ : rS) : Prop := ∀ (s17 : rS) (y18 : Int), rWF s17 → rng y18 → rR s17 15 = rR σ 15 → rF s17 0 16 = rF σ 0 16 → inv_X14_fileString_50 σ s17 y18 → 0 < (mu_X14_fileString_50 σ s17 y18)
set_option maxHeartbeats 400000 in
theorem vX14_fileString (σ : rS) (hwf : rWF σ) (hp : pre_X14_fileString σ ) : VC_X14_fileString σ (post_X14_fileString σ ) := by
  simp only [VC_X14_fileString, pre_X14_fileString, post_X14_fileString, inv_X14_fileString_50, mu_X14_fileString_50, pre_X14_skip, pre_X14_bad, pre_X14_fc, post_X14_skip, post_X14_bad, post_X14_fc, rng, rfk, rNMp, rF_sF, rF_sA, rF_sL, rF_sR, rA_sA, rA_sF, rA_sL, rA_sR, rR_sF, rR_sA, rR_sL, rR_sR, reduceIte, and_true, true_and, and_false, false_and, and_self] at *
  (repeat' (first | with_reducible intro _ | with_reducible apply And.intro))
  all_goals (first | assumption | omega | grind (splits := 20) [rNM_sF0])
set_option maxHeartbeats 400000 in
theorem vX14_fileString_50 (σ : rS) (hwf : rWF σ) (hp : pre_X14_fileString σ ) : VC_X14_fileString_50 σ (post_X14_fileString σ ) := by
  simp only [VC_X14_fileString_50, pre_X14_fileString, post_X14_fileString, inv_X14_fileString_50, mu_X14_fileString_50, pre_X14_skip, pre_X14_bad, pre_X14_fc, post_X14_skip, post_X14_bad, post_X14_fc, rng, rfk, rNMp, rF_sF, rF_sA, rF_sL, rF_sR, rA_sA, rA_sF, rA_sL, rA_sR, rR_sF, rR_sA, rR_sL, rR_sR, reduceIte, and_true, true_and, and_false, false_and, and_self] at *
  (repeat' (first | with_reducible intro _ | with_reducible apply And.intro))
  all_goals (first | assumption | omega | grind (splits := 20) [rNM_sF0])
set_option maxHeartbeats 400000 in
theorem vX14_fileString_50m (σ : rS) (hwf : rWF σ) (hp : pre_X14_fileString σ ) : VC_X14_fileString_50m σ := by
  simp only [VC_X14_fileString_50m, pre_X14_fileString, post_X14_fileString, inv_X14_fileString_50, mu_X14_fileString_50, pre_X14_skip, pre_X14_bad, pre_X14_fc, post_X14_skip, post_X14_bad, post_X14_fc, rng, rfk, rNMp, rF_sF, rF_sA, rF_sL, rF_sR, rA_sA, rA_sF, rA_sL, rA_sR, rR_sF, rR_sA, rR_sL, rR_sR, reduceIte, and_true, true_and, and_false, false_and, and_self] at *
  (repeat' (first | with_reducible intro _ | with_reducible apply And.intro))
  all_goals (first | assumption | omega | grind (splits := 20) [rNM_sF0])
theorem wX14_fileString (l : Launch) (G : zG) (κ : Nat → Nat) (σ : rS) (hwf : rWF σ) (Q : rS → Prop) (h : VC_X14_fileString σ Q) (h_50 : VC_X14_fileString_50 σ Q) (h_50m : VC_X14_fileString_50m σ ) : rMv l G κ yX14_fileString cX14_fileString 2 4 65 [.ref (κ 0)] σ (fun s => rKeep 0xe21c00 0 0 0 0 σ s ∧ Q s) := by
  refine zMv.intro (by decide +kernel) (Nat.le_of_ble_eq_true rfl) (fun X hC hR => ?_)
  refine z_aload_n hC (pc := 0) 0 dX14_fileString_0 rfl rfl ?_
  obtain ⟨p10, h⟩ := h
  refine y_callVv hC (pc := 1) (As := []) (kX14_skip l G κ σ  hwf  p10) dmX14_skip zf14 rOb_0 dX14_fileString_1 zw2985 rfl rfl (Nat.le_of_ble_eq_true rfl) (Nat.le_of_ble_eq_true rfl) (Nat.le_of_ble_eq_true rfl) (Nat.le_of_ble_eq_true rfl) (Nat.le_of_ble_eq_true rfl) (kk := fun s11 Ws11 qs11 => ?_)
  have h := h s11 Ws11 (qs11.1.R rfl) (qs11.1.F rfl) (qs11.1.F rfl) (qs11.1.F rfl) (qs11.1.F rfl) qs11.2
  refine z_aload_n hC (pc := 4) 0 dX14_fileString_4 rfl rfl ?_
  refine y_get hC (pc := 5) zf14 rOb_0 10 (v := iv (rF s11 0 10)) dX14_fileString_5 zw2478 (rv_i (Or.inl rfl) rfl) (kk := ?_)
  have h := h (Ws11.f _ _)
  obtain ⟨hT, hF⟩ := h
  refine y_if_eq hC (pc := 8) 12 (Ws11.f _ _) dX14_fileString_8 (by decide) (fun c => ?_) (fun c => ?_)
  · have h := hT c
    refine z_aload_n hC (pc := 12) 0 dX14_fileString_12 rfl rfl ?_
    refine z_aload_n hC (pc := 13) 0 dX14_fileString_13 rfl rfl ?_
    refine y_get hC (pc := 14) zf14 rOb_0 17 (v := iv (rF s11 0 17)) dX14_fileString_14 zw2484 (rv_i (Or.inl rfl) rfl) (kk := ?_)
    have h := h (Ws11.f _ _)
    obtain ⟨p13, h⟩ := h
    refine y_callVi hC (pc := 17) (As := [iv (rF s11 0 17)]) (kX14_fc l G κ s11 (rF s11 0 17) Ws11 (Ws11.f _ _) p13) dmX14_fc zf14 rOb_0 dX14_fileString_17 zw2993 rfl rfl (Nat.le_of_ble_eq_true rfl) (Nat.le_of_ble_eq_true rfl) (Nat.le_of_ble_eq_true rfl) (Nat.le_of_ble_eq_true rfl) (Nat.le_of_ble_eq_true rfl) (kk := fun x15 s14 hx15 Ws14 qs14 => ?_)
    obtain ⟨es14, qs14⟩ := qs14
    have es14 := es14.symm
    subst es14
    have h := h x15 hx15 qs14
    refine z_bipush hC (pc := 20) (v := Int32.ofInt 34) dX14_fileString_20 (by decide) ?_
    obtain ⟨hT, hF⟩ := h
    refine y_icmp_eq hC (pc := 22) 35 hx15 (r_lit rfl) dX14_fileString_22 (by decide) (fun c => ?_) (fun c => ?_)
    · have h := hT c
      refine z_aload_n hC (pc := 35) 0 dX14_fileString_35 rfl rfl ?_
      refine z_aload_n hC (pc := 36) 0 dX14_fileString_36 rfl rfl ?_
      refine y_get hC (pc := 37) zf14 rOb_0 17 (v := iv (rF s11 0 17)) dX14_fileString_37 zw2484 (rv_i (Or.inl rfl) rfl) (kk := ?_)
      refine y_putI hC (pc := 40) zf14 rOb_0 21 (x := (rF s11 0 17)) dX14_fileString_40 zw2488 (Or.inl rfl) rfl rfl (kk := ?_)
      have W16 := Ws11.sF (q := 0) (f := 21) (x := (rF s11 0 17)) (Ws11.f _ _)
      refine z_aload_n hC (pc := 43) 0 dX14_fileString_43 rfl rfl ?_
      refine y_get hC (pc := 44) zf14 rOb_0 17 (v := iv (rF s11 0 17)) dX14_fileString_44 zw2484 (rv_i (Or.inl rfl) ((F_sF_ne (by decide)).trans rfl)) (kk := ?_)
      refine z_iconst hC (pc := 47) (v := Int32.ofInt 1) dX14_fileString_47 (by decide) ?_
      refine y_iadd hC (pc := 48) (v := ((rF s11 0 17) + 1)) dX14_fileString_48 rfl ?_
      refine z_istore_n hC (pc := 49) (lv' := [(1, iv ((rF s11 0 17) + 1)), (0, .ref (κ 0))]) dX14_fileString_49 rfl (by decide) rfl ?_
      have j50 : ∀ (d50 : Nat), ∀ (s17 : rS) (y18 : Int), rWF s17 → rng y18 → rKeep 0xe21c00 0 0 0 0 σ s17 → inv_X14_fileString_50 σ s17 y18 → (mu_X14_fileString_50 σ  s17 y18) ≤ d50 → zS X G 2 (rW G κ s17) [(0, .ref (κ 0)), (1, iv y18)] 0 0 50 [] := by
        intro d50
        induction d50 with
        | zero =>
          intro s17 y18 Ws17 hy18 kJ hI hmu
          exact absurd hmu (by have := h_50m  s17 y18 Ws17 hy18 (kJ.R rfl) (kJ.F rfl) hI; omega)
        | succ d50 ih50 =>
          intro s17 y18 Ws17 hy18 kJ hI hmu50
          have h := h_50  s17 y18 Ws17 hy18 (kJ.R rfl) (kJ.F rfl) hI
          refine z_iload_n hC (pc := 50) 1 dX14_fileString_50 rfl rfl ?_
          refine z_aload_n hC (pc := 51) 0 dX14_fileString_51 rfl rfl ?_
          refine y_get hC (pc := 52) zf14 rOb_0 16 (v := iv (rF s17 0 16)) dX14_fileString_52 zw2483 (rv_i (Or.inl rfl) rfl) (kk := ?_)
          have h := h (Ws17.f _ _)
          obtain ⟨hT, hF⟩ := h
          refine y_icmp_ge hC (pc := 55) 86 hy18 (Ws17.f _ _) dX14_fileString_55 (by decide) (fun c => ?_) (fun c => ?_)
          · have h := hT c
            refine z_iload_n hC (pc := 86) 1 dX14_fileString_86 rfl rfl ?_
            refine z_aload_n hC (pc := 87) 0 dX14_fileString_87 rfl rfl ?_
            refine y_get hC (pc := 88) zf14 rOb_0 16 (v := iv (rF s17 0 16)) dX14_fileString_88 zw2483 (rv_i (Or.inl rfl) rfl) (kk := ?_)
            obtain ⟨hT, hF⟩ := h
            refine y_icmp_ge hC (pc := 91) 105 hy18 (Ws17.f _ _) dX14_fileString_91 (by decide) (fun c => ?_) (fun c => ?_)
            · have h := hT c
              refine z_aload_n hC (pc := 105) 0 dX14_fileString_105 rfl rfl ?_
              refine z_iconst hC (pc := 106) (v := Int32.ofInt 1) dX14_fileString_106 (by decide) ?_
              refine z_iload_n hC (pc := 107) 1 dX14_fileString_107 rfl rfl ?_
              obtain ⟨p19, h⟩ := h
              refine y_callVv hC (pc := 108) (As := [iv 1, iv y18]) (kX14_bad l G κ s17 1 y18 Ws17 (r_lit rfl) hy18 p19) dmX14_bad zf14 rOb_0 dX14_fileString_108 zw3000 rfl rfl (Nat.le_of_ble_eq_true rfl) (Nat.le_of_ble_eq_true rfl) (Nat.le_of_ble_eq_true rfl) (Nat.le_of_ble_eq_true rfl) (Nat.le_of_ble_eq_true rfl) (kk := fun s20 Ws20 qs20 => ?_)
              have h := h s20 Ws20 (qs20.1.R rfl) (qs20.1.F rfl) (qs20.1.F rfl) (qs20.1.F rfl) (qs20.1.F rfl) (qs20.1.F rfl) qs20.2
              exact y_retv hR dX14_fileString_111 Ws20 (Nat.le_of_ble_eq_true rfl) (Nat.le_of_ble_eq_true rfl) ⟨(rKeep.tr (rKeep.tr rKeep.rf kJ rfl rfl rfl rfl rfl) qs20.1 rfl rfl rfl rfl rfl), h⟩
            · have h := hF c
              refine z_aload_n hC (pc := 94) 0 dX14_fileString_94 rfl rfl ?_
              obtain ⟨g22, h⟩ := h
              refine y_get hC (pc := 95) zf14 rOb_0 15 (v := .ref (κ (rR s17 15))) dX14_fileString_95 zw2482 (rv_b rfl rfl g22) (kk := ?_)
              refine z_iload_n hC (pc := 98) 1 dX14_fileString_98 rfl rfl ?_
              obtain ⟨b23, h⟩ := h
              refine y_bald hC (pc := 99) (rAr_f g22) dX14_fileString_99 b23 (v := (rA s17 (rR s17 15) y18)) rfl (kk := ?_)
              have h := h (Ws17.a _ _)
              refine z_bipush hC (pc := 100) (v := Int32.ofInt 10) dX14_fileString_100 (by decide) ?_
              obtain ⟨hT, hF⟩ := h
              refine y_icmp_ne hC (pc := 102) 112 (Ws17.a _ _) (r_lit rfl) dX14_fileString_102 (by decide) (fun c => ?_) (fun c => ?_)
              · have h := hT c
                refine z_aload_n hC (pc := 112) 0 dX14_fileString_112 rfl rfl ?_
                refine z_aload_n hC (pc := 113) 0 dX14_fileString_113 rfl rfl ?_
                refine y_get hC (pc := 114) zf14 rOb_0 17 (v := iv (rF s17 0 17)) dX14_fileString_114 zw2484 (rv_i (Or.inl rfl) rfl) (kk := ?_)
                have h := h (Ws17.f _ _)
                refine z_iconst hC (pc := 117) (v := Int32.ofInt 1) dX14_fileString_117 (by decide) ?_
                refine y_iadd hC (pc := 118) (v := ((rF s17 0 17) + 1)) dX14_fileString_118 rfl ?_
                obtain ⟨r24, h⟩ := h
                refine y_putI hC (pc := 119) zf14 rOb_0 22 (x := ((rF s17 0 17) + 1)) dX14_fileString_119 zw2489 (Or.inl rfl) rfl rfl (kk := ?_)
                have W25 := Ws17.sF (q := 0) (f := 22) (x := ((rF s17 0 17) + 1)) r24
                refine z_aload_n hC (pc := 122) 0 dX14_fileString_122 rfl rfl ?_
                refine z_iload_n hC (pc := 123) 1 dX14_fileString_123 rfl rfl ?_
                refine y_putI hC (pc := 124) zf14 rOb_0 23 (x := y18) dX14_fileString_124 zw2490 (Or.inl rfl) rfl rfl (kk := ?_)
                have W26 := W25.sF (q := 0) (f := 23) (x := y18) hy18
                refine z_aload_n hC (pc := 127) 0 dX14_fileString_127 rfl rfl ?_
                refine z_iload_n hC (pc := 128) 1 dX14_fileString_128 rfl rfl ?_
                refine z_iconst hC (pc := 129) (v := Int32.ofInt 1) dX14_fileString_129 (by decide) ?_
                refine y_iadd hC (pc := 130) (v := (y18 + 1)) dX14_fileString_130 rfl ?_
                obtain ⟨r27, h⟩ := h
                refine y_putI hC (pc := 131) zf14 rOb_0 17 (x := (y18 + 1)) dX14_fileString_131 zw2484 (Or.inl rfl) rfl rfl (kk := ?_)
                have W28 := W26.sF (q := 0) (f := 17) (x := (y18 + 1)) r27
                exact y_retv hR dX14_fileString_134 W28 (Nat.le_of_ble_eq_true rfl) (Nat.le_of_ble_eq_true rfl) ⟨(rKeep.tr (rKeep.tr (rKeep.tr (rKeep.tr rKeep.rf kJ rfl rfl rfl rfl rfl) (rKeep.sF0 (f := 22)) rfl rfl rfl rfl rfl) (rKeep.sF0 (f := 23)) rfl rfl rfl rfl rfl) (rKeep.sF0 (f := 17)) rfl rfl rfl rfl rfl), h⟩
              · have h := hF c
                refine z_aload_n hC (pc := 105) 0 dX14_fileString_105 rfl rfl ?_
                refine z_iconst hC (pc := 106) (v := Int32.ofInt 1) dX14_fileString_106 (by decide) ?_
                refine z_iload_n hC (pc := 107) 1 dX14_fileString_107 rfl rfl ?_
                obtain ⟨p29, h⟩ := h
                refine y_callVv hC (pc := 108) (As := [iv 1, iv y18]) (kX14_bad l G κ s17 1 y18 Ws17 (r_lit rfl) hy18 p29) dmX14_bad zf14 rOb_0 dX14_fileString_108 zw3000 rfl rfl (Nat.le_of_ble_eq_true rfl) (Nat.le_of_ble_eq_true rfl) (Nat.le_of_ble_eq_true rfl) (Nat.le_of_ble_eq_true rfl) (Nat.le_of_ble_eq_true rfl) (kk := fun s30 Ws30 qs30 => ?_)
                have h := h s30 Ws30 (qs30.1.R rfl) (qs30.1.F rfl) (qs30.1.F rfl) (qs30.1.F rfl) (qs30.1.F rfl) (qs30.1.F rfl) qs30.2
                exact y_retv hR dX14_fileString_111 Ws30 (Nat.le_of_ble_eq_true rfl) (Nat.le_of_ble_eq_true rfl) ⟨(rKeep.tr (rKeep.tr rKeep.rf kJ rfl rfl rfl rfl rfl) qs30.1 rfl rfl rfl rfl rfl), h⟩
          · have h := hF c
            refine z_aload_n hC (pc := 58) 0 dX14_fileString_58 rfl rfl ?_
            obtain ⟨g32, h⟩ := h
            refine y_get hC (pc := 59) zf14 rOb_0 15 (v := .ref (κ (rR s17 15))) dX14_fileString_59 zw2482 (rv_b rfl rfl g32) (kk := ?_)
            refine z_iload_n hC (pc := 62) 1 dX14_fileString_62 rfl rfl ?_
            obtain ⟨b33, h⟩ := h
            refine y_bald hC (pc := 63) (rAr_f g32) dX14_fileString_63 b33 (v := (rA s17 (rR s17 15) y18)) rfl (kk := ?_)
            have h := h (Ws17.a _ _)
            refine z_bipush hC (pc := 64) (v := Int32.ofInt 34) dX14_fileString_64 (by decide) ?_
            obtain ⟨hT, hF⟩ := h
            refine y_icmp_eq hC (pc := 66) 86 (Ws17.a _ _) (r_lit rfl) dX14_fileString_66 (by decide) (fun c => ?_) (fun c => ?_)
            · have h := hT c
              refine z_iload_n hC (pc := 86) 1 dX14_fileString_86 rfl rfl ?_
              refine z_aload_n hC (pc := 87) 0 dX14_fileString_87 rfl rfl ?_
              refine y_get hC (pc := 88) zf14 rOb_0 16 (v := iv (rF s17 0 16)) dX14_fileString_88 zw2483 (rv_i (Or.inl rfl) rfl) (kk := ?_)
              obtain ⟨hT, hF⟩ := h
              refine y_icmp_ge hC (pc := 91) 105 hy18 (Ws17.f _ _) dX14_fileString_91 (by decide) (fun c => ?_) (fun c => ?_)
              · have h := hT c
                refine z_aload_n hC (pc := 105) 0 dX14_fileString_105 rfl rfl ?_
                refine z_iconst hC (pc := 106) (v := Int32.ofInt 1) dX14_fileString_106 (by decide) ?_
                refine z_iload_n hC (pc := 107) 1 dX14_fileString_107 rfl rfl ?_
                obtain ⟨p34, h⟩ := h
                refine y_callVv hC (pc := 108) (As := [iv 1, iv y18]) (kX14_bad l G κ s17 1 y18 Ws17 (r_lit rfl) hy18 p34) dmX14_bad zf14 rOb_0 dX14_fileString_108 zw3000 rfl rfl (Nat.le_of_ble_eq_true rfl) (Nat.le_of_ble_eq_true rfl) (Nat.le_of_ble_eq_true rfl) (Nat.le_of_ble_eq_true rfl) (Nat.le_of_ble_eq_true rfl) (kk := fun s35 Ws35 qs35 => ?_)
                have h := h s35 Ws35 (qs35.1.R rfl) (qs35.1.F rfl) (qs35.1.F rfl) (qs35.1.F rfl) (qs35.1.F rfl) (qs35.1.F rfl) qs35.2
                exact y_retv hR dX14_fileString_111 Ws35 (Nat.le_of_ble_eq_true rfl) (Nat.le_of_ble_eq_true rfl) ⟨(rKeep.tr (rKeep.tr rKeep.rf kJ rfl rfl rfl rfl rfl) qs35.1 rfl rfl rfl rfl rfl), h⟩
              · have h := hF c
                refine z_aload_n hC (pc := 94) 0 dX14_fileString_94 rfl rfl ?_
                refine y_get hC (pc := 95) zf14 rOb_0 15 (v := .ref (κ (rR s17 15))) dX14_fileString_95 zw2482 (rv_b rfl rfl g32) (kk := ?_)
                refine z_iload_n hC (pc := 98) 1 dX14_fileString_98 rfl rfl ?_
                obtain ⟨b37, h⟩ := h
                refine y_bald hC (pc := 99) (rAr_f g32) dX14_fileString_99 b37 (v := (rA s17 (rR s17 15) y18)) rfl (kk := ?_)
                refine z_bipush hC (pc := 100) (v := Int32.ofInt 10) dX14_fileString_100 (by decide) ?_
                obtain ⟨hT, hF⟩ := h
                refine y_icmp_ne hC (pc := 102) 112 (Ws17.a _ _) (r_lit rfl) dX14_fileString_102 (by decide) (fun c => ?_) (fun c => ?_)
                · have h := hT c
                  refine z_aload_n hC (pc := 112) 0 dX14_fileString_112 rfl rfl ?_
                  refine z_aload_n hC (pc := 113) 0 dX14_fileString_113 rfl rfl ?_
                  refine y_get hC (pc := 114) zf14 rOb_0 17 (v := iv (rF s17 0 17)) dX14_fileString_114 zw2484 (rv_i (Or.inl rfl) rfl) (kk := ?_)
                  have h := h (Ws17.f _ _)
                  refine z_iconst hC (pc := 117) (v := Int32.ofInt 1) dX14_fileString_117 (by decide) ?_
                  refine y_iadd hC (pc := 118) (v := ((rF s17 0 17) + 1)) dX14_fileString_118 rfl ?_
                  obtain ⟨r38, h⟩ := h
                  refine y_putI hC (pc := 119) zf14 rOb_0 22 (x := ((rF s17 0 17) + 1)) dX14_fileString_119 zw2489 (Or.inl rfl) rfl rfl (kk := ?_)
                  have W39 := Ws17.sF (q := 0) (f := 22) (x := ((rF s17 0 17) + 1)) r38
                  refine z_aload_n hC (pc := 122) 0 dX14_fileString_122 rfl rfl ?_
                  refine z_iload_n hC (pc := 123) 1 dX14_fileString_123 rfl rfl ?_
                  refine y_putI hC (pc := 124) zf14 rOb_0 23 (x := y18) dX14_fileString_124 zw2490 (Or.inl rfl) rfl rfl (kk := ?_)
                  have W40 := W39.sF (q := 0) (f := 23) (x := y18) hy18
                  refine z_aload_n hC (pc := 127) 0 dX14_fileString_127 rfl rfl ?_
                  refine z_iload_n hC (pc := 128) 1 dX14_fileString_128 rfl rfl ?_
                  refine z_iconst hC (pc := 129) (v := Int32.ofInt 1) dX14_fileString_129 (by decide) ?_
                  refine y_iadd hC (pc := 130) (v := (y18 + 1)) dX14_fileString_130 rfl ?_
                  obtain ⟨r41, h⟩ := h
                  refine y_putI hC (pc := 131) zf14 rOb_0 17 (x := (y18 + 1)) dX14_fileString_131 zw2484 (Or.inl rfl) rfl rfl (kk := ?_)
                  have W42 := W40.sF (q := 0) (f := 17) (x := (y18 + 1)) r41
                  exact y_retv hR dX14_fileString_134 W42 (Nat.le_of_ble_eq_true rfl) (Nat.le_of_ble_eq_true rfl) ⟨(rKeep.tr (rKeep.tr (rKeep.tr (rKeep.tr rKeep.rf kJ rfl rfl rfl rfl rfl) (rKeep.sF0 (f := 22)) rfl rfl rfl rfl rfl) (rKeep.sF0 (f := 23)) rfl rfl rfl rfl rfl) (rKeep.sF0 (f := 17)) rfl rfl rfl rfl rfl), h⟩
                · have h := hF c
                  refine z_aload_n hC (pc := 105) 0 dX14_fileString_105 rfl rfl ?_
                  refine z_iconst hC (pc := 106) (v := Int32.ofInt 1) dX14_fileString_106 (by decide) ?_
                  refine z_iload_n hC (pc := 107) 1 dX14_fileString_107 rfl rfl ?_
                  obtain ⟨p43, h⟩ := h
                  refine y_callVv hC (pc := 108) (As := [iv 1, iv y18]) (kX14_bad l G κ s17 1 y18 Ws17 (r_lit rfl) hy18 p43) dmX14_bad zf14 rOb_0 dX14_fileString_108 zw3000 rfl rfl (Nat.le_of_ble_eq_true rfl) (Nat.le_of_ble_eq_true rfl) (Nat.le_of_ble_eq_true rfl) (Nat.le_of_ble_eq_true rfl) (Nat.le_of_ble_eq_true rfl) (kk := fun s44 Ws44 qs44 => ?_)
                  have h := h s44 Ws44 (qs44.1.R rfl) (qs44.1.F rfl) (qs44.1.F rfl) (qs44.1.F rfl) (qs44.1.F rfl) (qs44.1.F rfl) qs44.2
                  exact y_retv hR dX14_fileString_111 Ws44 (Nat.le_of_ble_eq_true rfl) (Nat.le_of_ble_eq_true rfl) ⟨(rKeep.tr (rKeep.tr rKeep.rf kJ rfl rfl rfl rfl rfl) qs44.1 rfl rfl rfl rfl rfl), h⟩
            · have h := hF c
              refine z_aload_n hC (pc := 69) 0 dX14_fileString_69 rfl rfl ?_
              refine y_get hC (pc := 70) zf14 rOb_0 15 (v := .ref (κ (rR s17 15))) dX14_fileString_70 zw2482 (rv_b rfl rfl g32) (kk := ?_)
              refine z_iload_n hC (pc := 73) 1 dX14_fileString_73 rfl rfl ?_
              obtain ⟨b46, h⟩ := h
              refine y_bald hC (pc := 74) (rAr_f g32) dX14_fileString_74 b46 (v := (rA s17 (rR s17 15) y18)) rfl (kk := ?_)
              refine z_bipush hC (pc := 75) (v := Int32.ofInt 10) dX14_fileString_75 (by decide) ?_
              obtain ⟨hT, hF⟩ := h
              refine y_icmp_eq hC (pc := 77) 86 (Ws17.a _ _) (r_lit rfl) dX14_fileString_77 (by decide) (fun c => ?_) (fun c => ?_)
              · have h := hT c
                refine z_iload_n hC (pc := 86) 1 dX14_fileString_86 rfl rfl ?_
                refine z_aload_n hC (pc := 87) 0 dX14_fileString_87 rfl rfl ?_
                refine y_get hC (pc := 88) zf14 rOb_0 16 (v := iv (rF s17 0 16)) dX14_fileString_88 zw2483 (rv_i (Or.inl rfl) rfl) (kk := ?_)
                obtain ⟨hT, hF⟩ := h
                refine y_icmp_ge hC (pc := 91) 105 hy18 (Ws17.f _ _) dX14_fileString_91 (by decide) (fun c => ?_) (fun c => ?_)
                · have h := hT c
                  refine z_aload_n hC (pc := 105) 0 dX14_fileString_105 rfl rfl ?_
                  refine z_iconst hC (pc := 106) (v := Int32.ofInt 1) dX14_fileString_106 (by decide) ?_
                  refine z_iload_n hC (pc := 107) 1 dX14_fileString_107 rfl rfl ?_
                  obtain ⟨p47, h⟩ := h
                  refine y_callVv hC (pc := 108) (As := [iv 1, iv y18]) (kX14_bad l G κ s17 1 y18 Ws17 (r_lit rfl) hy18 p47) dmX14_bad zf14 rOb_0 dX14_fileString_108 zw3000 rfl rfl (Nat.le_of_ble_eq_true rfl) (Nat.le_of_ble_eq_true rfl) (Nat.le_of_ble_eq_true rfl) (Nat.le_of_ble_eq_true rfl) (Nat.le_of_ble_eq_true rfl) (kk := fun s48 Ws48 qs48 => ?_)
                  have h := h s48 Ws48 (qs48.1.R rfl) (qs48.1.F rfl) (qs48.1.F rfl) (qs48.1.F rfl) (qs48.1.F rfl) (qs48.1.F rfl) qs48.2
                  exact y_retv hR dX14_fileString_111 Ws48 (Nat.le_of_ble_eq_true rfl) (Nat.le_of_ble_eq_true rfl) ⟨(rKeep.tr (rKeep.tr rKeep.rf kJ rfl rfl rfl rfl rfl) qs48.1 rfl rfl rfl rfl rfl), h⟩
                · have h := hF c
                  refine z_aload_n hC (pc := 94) 0 dX14_fileString_94 rfl rfl ?_
                  refine y_get hC (pc := 95) zf14 rOb_0 15 (v := .ref (κ (rR s17 15))) dX14_fileString_95 zw2482 (rv_b rfl rfl g32) (kk := ?_)
                  refine z_iload_n hC (pc := 98) 1 dX14_fileString_98 rfl rfl ?_
                  obtain ⟨b50, h⟩ := h
                  refine y_bald hC (pc := 99) (rAr_f g32) dX14_fileString_99 b50 (v := (rA s17 (rR s17 15) y18)) rfl (kk := ?_)
                  refine z_bipush hC (pc := 100) (v := Int32.ofInt 10) dX14_fileString_100 (by decide) ?_
                  obtain ⟨hT, hF⟩ := h
                  refine y_icmp_ne hC (pc := 102) 112 (Ws17.a _ _) (r_lit rfl) dX14_fileString_102 (by decide) (fun c => ?_) (fun c => ?_)
                  · have h := hT c
                    refine z_aload_n hC (pc := 112) 0 dX14_fileString_112 rfl rfl ?_
                    refine z_aload_n hC (pc := 113) 0 dX14_fileString_113 rfl rfl ?_
                    refine y_get hC (pc := 114) zf14 rOb_0 17 (v := iv (rF s17 0 17)) dX14_fileString_114 zw2484 (rv_i (Or.inl rfl) rfl) (kk := ?_)
                    have h := h (Ws17.f _ _)
                    refine z_iconst hC (pc := 117) (v := Int32.ofInt 1) dX14_fileString_117 (by decide) ?_
                    refine y_iadd hC (pc := 118) (v := ((rF s17 0 17) + 1)) dX14_fileString_118 rfl ?_
                    obtain ⟨r51, h⟩ := h
                    refine y_putI hC (pc := 119) zf14 rOb_0 22 (x := ((rF s17 0 17) + 1)) dX14_fileString_119 zw2489 (Or.inl rfl) rfl rfl (kk := ?_)
                    have W52 := Ws17.sF (q := 0) (f := 22) (x := ((rF s17 0 17) + 1)) r51
                    refine z_aload_n hC (pc := 122) 0 dX14_fileString_122 rfl rfl ?_
                    refine z_iload_n hC (pc := 123) 1 dX14_fileString_123 rfl rfl ?_
                    refine y_putI hC (pc := 124) zf14 rOb_0 23 (x := y18) dX14_fileString_124 zw2490 (Or.inl rfl) rfl rfl (kk := ?_)
                    have W53 := W52.sF (q := 0) (f := 23) (x := y18) hy18
                    refine z_aload_n hC (pc := 127) 0 dX14_fileString_127 rfl rfl ?_
                    refine z_iload_n hC (pc := 128) 1 dX14_fileString_128 rfl rfl ?_
                    refine z_iconst hC (pc := 129) (v := Int32.ofInt 1) dX14_fileString_129 (by decide) ?_
                    refine y_iadd hC (pc := 130) (v := (y18 + 1)) dX14_fileString_130 rfl ?_
                    obtain ⟨r54, h⟩ := h
                    refine y_putI hC (pc := 131) zf14 rOb_0 17 (x := (y18 + 1)) dX14_fileString_131 zw2484 (Or.inl rfl) rfl rfl (kk := ?_)
                    have W55 := W53.sF (q := 0) (f := 17) (x := (y18 + 1)) r54
                    exact y_retv hR dX14_fileString_134 W55 (Nat.le_of_ble_eq_true rfl) (Nat.le_of_ble_eq_true rfl) ⟨(rKeep.tr (rKeep.tr (rKeep.tr (rKeep.tr rKeep.rf kJ rfl rfl rfl rfl rfl) (rKeep.sF0 (f := 22)) rfl rfl rfl rfl rfl) (rKeep.sF0 (f := 23)) rfl rfl rfl rfl rfl) (rKeep.sF0 (f := 17)) rfl rfl rfl rfl rfl), h⟩
                  · have h := hF c
                    refine z_aload_n hC (pc := 105) 0 dX14_fileString_105 rfl rfl ?_
                    refine z_iconst hC (pc := 106) (v := Int32.ofInt 1) dX14_fileString_106 (by decide) ?_
                    refine z_iload_n hC (pc := 107) 1 dX14_fileString_107 rfl rfl ?_
                    obtain ⟨p56, h⟩ := h
                    refine y_callVv hC (pc := 108) (As := [iv 1, iv y18]) (kX14_bad l G κ s17 1 y18 Ws17 (r_lit rfl) hy18 p56) dmX14_bad zf14 rOb_0 dX14_fileString_108 zw3000 rfl rfl (Nat.le_of_ble_eq_true rfl) (Nat.le_of_ble_eq_true rfl) (Nat.le_of_ble_eq_true rfl) (Nat.le_of_ble_eq_true rfl) (Nat.le_of_ble_eq_true rfl) (kk := fun s57 Ws57 qs57 => ?_)
                    have h := h s57 Ws57 (qs57.1.R rfl) (qs57.1.F rfl) (qs57.1.F rfl) (qs57.1.F rfl) (qs57.1.F rfl) (qs57.1.F rfl) qs57.2
                    exact y_retv hR dX14_fileString_111 Ws57 (Nat.le_of_ble_eq_true rfl) (Nat.le_of_ble_eq_true rfl) ⟨(rKeep.tr (rKeep.tr rKeep.rf kJ rfl rfl rfl rfl rfl) qs57.1 rfl rfl rfl rfl rfl), h⟩
              · have h := hF c
                refine y_iinc hC (pc := 80) (v := (y18 + 1)) (lv' := [(1, iv (y18 + 1)), (0, .ref (κ 0))]) 1 dX14_fileString_80 rfl rfl (by decide) rfl ?_
                refine z_goto hC (pc := 83) 50 dX14_fileString_83 (by decide) ?_
                refine z_lvs [1, 0] rfl ?_
                obtain ⟨r59, h⟩ := h
                obtain ⟨hI, hm⟩ := h
                exact ih50 s17 (y18 + 1) Ws17 r59 (rKeep.tr rKeep.rf kJ rfl rfl rfl rfl rfl) hI (by omega)
      refine z_lvs [1, 0] rfl ?_
      obtain ⟨r60, h⟩ := h
      exact j50 _ (sF s11 0 21 (rF s11 0 17)) ((rF s11 0 17) + 1) W16 r60 (rKeep.tr (rKeep.tr rKeep.rf qs11.1 rfl rfl rfl rfl rfl) (rKeep.sF0 (f := 21)) rfl rfl rfl rfl rfl) h (Nat.le_refl _)
    · have h := hF c
      refine z_aload_n hC (pc := 25) 0 dX14_fileString_25 rfl rfl ?_
      refine z_iconst hC (pc := 26) (v := Int32.ofInt 1) dX14_fileString_26 (by decide) ?_
      refine z_aload_n hC (pc := 27) 0 dX14_fileString_27 rfl rfl ?_
      refine y_get hC (pc := 28) zf14 rOb_0 17 (v := iv (rF s11 0 17)) dX14_fileString_28 zw2484 (rv_i (Or.inl rfl) rfl) (kk := ?_)
      obtain ⟨p61, h⟩ := h
      refine y_callVv hC (pc := 31) (As := [iv 1, iv (rF s11 0 17)]) (kX14_bad l G κ s11 1 (rF s11 0 17) Ws11 (r_lit rfl) (Ws11.f _ _) p61) dmX14_bad zf14 rOb_0 dX14_fileString_31 zw3000 rfl rfl (Nat.le_of_ble_eq_true rfl) (Nat.le_of_ble_eq_true rfl) (Nat.le_of_ble_eq_true rfl) (Nat.le_of_ble_eq_true rfl) (Nat.le_of_ble_eq_true rfl) (kk := fun s62 Ws62 qs62 => ?_)
      have h := h s62 Ws62 (qs62.1.R rfl) (qs62.1.F rfl) (qs62.1.F rfl) (qs62.1.F rfl) (qs62.1.F rfl) (qs62.1.F rfl) qs62.2
      exact y_retv hR dX14_fileString_34 Ws62 (Nat.le_of_ble_eq_true rfl) (Nat.le_of_ble_eq_true rfl) ⟨(rKeep.tr (rKeep.tr rKeep.rf qs11.1 rfl rfl rfl rfl rfl) qs62.1 rfl rfl rfl rfl rfl), h⟩
  · have h := hF c
    exact y_retv hR dX14_fileString_11 Ws11 (Nat.le_of_ble_eq_true rfl) (Nat.le_of_ble_eq_true rfl) ⟨(rKeep.tr rKeep.rf qs11.1 rfl rfl rfl rfl rfl), h⟩
theorem kX14_fileString (l : Launch) (G : zG) (κ : Nat → Nat) (σ : rS) (hwf : rWF σ) (hp : pre_X14_fileString σ ) : rMv l G κ yX14_fileString cX14_fileString 2 4 65 [.ref (κ 0)] σ (fun s => rKeep 0xe21c00 0 0 0 0 σ s ∧ post_X14_fileString σ s) := wX14_fileString l G κ σ hwf (post_X14_fileString σ ) (vX14_fileString σ hwf hp) (vX14_fileString_50 σ hwf hp) (vX14_fileString_50m σ hwf hp)
def pre_X14_fileName (σ : rS)  : Prop := 0 ≤ (rF σ 0 17) ∧ 0 ≤ (rF σ 0 16) ∧ (rF σ 0 16) ≤ 4000 ∧ rfk (rR σ 15) ∧ (rF σ 0 17) ≤ (rF σ 0 16) ∧ rNMp σ ∧ (rF σ (rR σ 7) 12) + ((rF σ 0 16) - (rF σ 0 17)) ≤ 16990 ∧ (rF σ (rR σ 7) 9) + ((rF σ 0 16) - (rF σ 0 17)) ≤ 59990
def post_X14_fileName (σ : rS)  (r : Int) (σ' : rS) : Prop := (rF σ 0 17) ≤ (rF σ' 0 17) ∧ (rF σ' 0 17) ≤ (rF σ 0 16) ∧ ((rF σ 0 10) ≠ 0 → (rF σ' 0 10) = (rF σ 0 10)) ∧ rNMp σ' ∧ (rF σ (rR σ 7) 12) ≤ rF σ' (rR σ 7) 12 ∧ (rF σ (rR σ 7) 9) ≤ rF σ' (rR σ 7) 9 ∧ rF σ' (rR σ 7) 12 + (rF σ 0 17) ≤ (rF σ (rR σ 7) 12) + (rF σ' 0 17) ∧ rF σ' (rR σ 7) 9 + (rF σ 0 17) ≤ (rF σ (rR σ 7) 9) + (rF σ' 0 17) ∧ ((rF σ' 0 10) = 0 → (rF σ 0 17) < (rF σ' 0 17) ∧ 0 ≤ r ∧ r < rF σ' (rR σ 7) 12 ∧ 0 ≤ (rF σ' 0 21) ∧ (rF σ' 0 21) ≤ (rF σ 0 16))
def VC_X14_fileName (σ : rS) (Q : Int → rS → Prop) : Prop := rgk (rR σ 7) ∧ pre_X14_skip σ ∧ (∀ (s11 : rS), rWF s11 → (rNMp σ → rNMp s11) → rR s11 7 = rR σ 7 → rR s11 15 = rR σ 15 → rF s11 0 16 = rF σ 0 16 → rF s11 0 21 = rF σ 0 21 → rF s11 (rR σ 7) 9 = rF σ (rR σ 7) 9 → rF s11 (rR σ 7) 12 = rF σ (rR σ 7) 12 → (∀ i, rA s11 (1000 * ((rR σ 7) + 1) + 10) i = rA σ (1000 * ((rR σ 7) + 1) + 10) i) → (∀ i, rA s11 (1000 * ((rR σ 7) + 1) + 11) i = rA σ (1000 * ((rR σ 7) + 1) + 11) i) → post_X14_skip σ s11 → (rng (rF s11 0 10) → (((rF s11 0 10) = 0 → rfk (rR σ 15) ∧ (rng (rF s11 0 16) → (rng (rF s11 0 17) → pre_X14_wordEnd s11 (rR σ 15) 4000 (rF s11 0 16) (rF s11 0 17) ∧ (∀ (x16 : Int), rng x16 → post_X14_wordEnd s11 (rR σ 15) 4000 (rF s11 0 16) (rF s11 0 17) x16 → ((x16 = (rF s11 0 17) → pre_X14_bad (sF s11 0 21 (rF s11 0 17)) 1 (rF s11 0 17) ∧ (∀ (s19 : rS), rWF s19 → (rNMp (sF s11 0 21 (rF s11 0 17)) → rNMp s19) → rR s19 7 = rR (sF s11 0 21 (rF s11 0 17)) 7 → rR s19 15 = rR (sF s11 0 21 (rF s11 0 17)) 15 → rF s19 0 16 = rF (sF s11 0 21 (rF s11 0 17)) 0 16 → rF s19 0 17 = rF (sF s11 0 21 (rF s11 0 17)) 0 17 → rF s19 0 21 = rF (sF s11 0 21 (rF s11 0 17)) 0 21 → rF s19 (rR σ 7) 9 = rF (sF s11 0 21 (rF s11 0 17)) (rR σ 7) 9 → rF s19 (rR σ 7) 12 = rF (sF s11 0 21 (rF s11 0 17)) (rR σ 7) 12 → (∀ i, rA s19 (1000 * ((rR σ 7) + 1) + 10) i = rA (sF s11 0 21 (rF s11 0 17)) (1000 * ((rR σ 7) + 1) + 10) i) → (∀ i, rA s19 (1000 * ((rR σ 7) + 1) + 11) i = rA (sF s11 0 21 (rF s11 0 17)) (1000 * ((rR σ 7) + 1) + 11) i) → post_X14_bad (sF s11 0 21 (rF s11 0 17)) 1 (rF s11 0 17) s19 → (rng (rF s19 0 10) → (((rF s19 0 10) = 0 → rng (x16 - (rF s11 0 17)) ∧ pre_X13_name s19 (rR σ 7) (rR σ 15) 4000 (rF s11 0 17) (x16 - (rF s11 0 17)) ∧ (∀ (x24 : Int) (s23 : rS), rng x24 → rWF s23 → rR s23 7 = rR s19 7 → rR s23 15 = rR s19 15 → rF s23 0 10 = rF s19 0 10 → rF s23 0 16 = rF s19 0 16 → rF s23 0 17 = rF s19 0 17 → rF s23 0 21 = rF s19 0 21 → post_X13_name s19 (rR σ 7) (rR σ 15) 4000 (rF s11 0 17) (x16 - (rF s11 0 17)) x24 s23 → Q x24 (sF s23 0 17 x16))) ∧ (¬ (rF s19 0 10) = 0 → Q 0 s19))))) ∧ (¬ x16 = (rF s11 0 17) → pre_X14_isFileReserved (sF s11 0 21 (rF s11 0 17)) ∧ (∀ (x28 : Int), rng x28 → post_X14_isFileReserved (sF s11 0 21 (rF s11 0 17)) x28 → ((x28 = 0 → rng (x16 - (rF s11 0 17)) ∧ (((x16 - (rF s11 0 17)) ≤ 16 → (((rF s11 0 10) = 0 → pre_X13_name (sF s11 0 21 (rF s11 0 17)) (rR σ 7) (rR σ 15) 4000 (rF s11 0 17) (x16 - (rF s11 0 17)) ∧ (∀ (x32 : Int) (s31 : rS), rng x32 → rWF s31 → rR s31 7 = rR (sF s11 0 21 (rF s11 0 17)) 7 → rR s31 15 = rR (sF s11 0 21 (rF s11 0 17)) 15 → rF s31 0 10 = rF (sF s11 0 21 (rF s11 0 17)) 0 10 → rF s31 0 16 = rF (sF s11 0 21 (rF s11 0 17)) 0 16 → rF s31 0 17 = rF (sF s11 0 21 (rF s11 0 17)) 0 17 → rF s31 0 21 = rF (sF s11 0 21 (rF s11 0 17)) 0 21 → post_X13_name (sF s11 0 21 (rF s11 0 17)) (rR σ 7) (rR σ 15) 4000 (rF s11 0 17) (x16 - (rF s11 0 17)) x32 s31 → Q x32 (sF s31 0 17 x16))) ∧ (¬ (rF s11 0 10) = 0 → Q 0 (sF s11 0 21 (rF s11 0 17))))) ∧ (¬ (x16 - (rF s11 0 17)) ≤ 16 → pre_X14_bad (sF s11 0 21 (rF s11 0 17)) 2 (rF s11 0 17) ∧ (∀ (s35 : rS), rWF s35 → (rNMp (sF s11 0 21 (rF s11 0 17)) → rNMp s35) → rR s35 7 = rR (sF s11 0 21 (rF s11 0 17)) 7 → rR s35 15 = rR (sF s11 0 21 (rF s11 0 17)) 15 → rF s35 0 16 = rF (sF s11 0 21 (rF s11 0 17)) 0 16 → rF s35 0 17 = rF (sF s11 0 21 (rF s11 0 17)) 0 17 → rF s35 0 21 = rF (sF s11 0 21 (rF s11 0 17)) 0 21 → rF s35 (rR σ 7) 9 = rF (sF s11 0 21 (rF s11 0 17)) (rR σ 7) 9 → rF s35 (rR σ 7) 12 = rF (sF s11 0 21 (rF s11 0 17)) (rR σ 7) 12 → (∀ i, rA s35 (1000 * ((rR σ 7) + 1) + 10) i = rA (sF s11 0 21 (rF s11 0 17)) (1000 * ((rR σ 7) + 1) + 10) i) → (∀ i, rA s35 (1000 * ((rR σ 7) + 1) + 11) i = rA (sF s11 0 21 (rF s11 0 17)) (1000 * ((rR σ 7) + 1) + 11) i) → post_X14_bad (sF s11 0 21 (rF s11 0 17)) 2 (rF s11 0 17) s35 → (rng (rF s35 0 10) → (((rF s35 0 10) = 0 → pre_X13_name s35 (rR σ 7) (rR σ 15) 4000 (rF s11 0 17) (x16 - (rF s11 0 17)) ∧ (∀ (x39 : Int) (s38 : rS), rng x39 → rWF s38 → rR s38 7 = rR s35 7 → rR s38 15 = rR s35 15 → rF s38 0 10 = rF s35 0 10 → rF s38 0 16 = rF s35 0 16 → rF s38 0 17 = rF s35 0 17 → rF s38 0 21 = rF s35 0 21 → post_X13_name s35 (rR σ 7) (rR σ 15) 4000 (rF s11 0 17) (x16 - (rF s11 0 17)) x39 s38 → Q x39 (sF s38 0 17 x16))) ∧ (¬ (rF s35 0 10) = 0 → Q 0 s35))))))) ∧ (¬ x28 = 0 → pre_X14_bad (sF s11 0 21 (rF s11 0 17)) 1 (rF s11 0 17) ∧ (∀ (s42 : rS), rWF s42 → (rNMp (sF s11 0 21 (rF s11 0 17)) → rNMp s42) → rR s42 7 = rR (sF s11 0 21 (rF s11 0 17)) 7 → rR s42 15 = rR (sF s11 0 21 (rF s11 0 17)) 15 → rF s42 0 16 = rF (sF s11 0 21 (rF s11 0 17)) 0 16 → rF s42 0 17 = rF (sF s11 0 21 (rF s11 0 17)) 0 17 → rF s42 0 21 = rF (sF s11 0 21 (rF s11 0 17)) 0 21 → rF s42 (rR σ 7) 9 = rF (sF s11 0 21 (rF s11 0 17)) (rR σ 7) 9 → rF s42 (rR σ 7) 12 = rF (sF s11 0 21 (rF s11 0 17)) (rR σ 7) 12 → (∀ i, rA s42 (1000 * ((rR σ 7) + 1) + 10) i = rA (sF s11 0 21 (rF s11 0 17)) (1000 * ((rR σ 7) + 1) + 10) i) → (∀ i, rA s42 (1000 * ((rR σ 7) + 1) + 11) i = rA (sF s11 0 21 (rF s11 0 17)) (1000 * ((rR σ 7) + 1) + 11) i) → post_X14_bad (sF s11 0 21 (rF s11 0 17)) 1 (rF s11 0 17) s42 → (rng (rF s42 0 10) → (((rF s42 0 10) = 0 → rng (x16 - (rF s11 0 17)) ∧ pre_X13_name s42 (rR σ 7) (rR σ 15) 4000 (rF s11 0 17) (x16 - (rF s11 0 17)) ∧ (∀ (x47 : Int) (s46 : rS), rng x47 → rWF s46 → rR s46 7 = rR s42 7 → rR s46 15 = rR s42 15 → rF s46 0 10 = rF s42 0 10 → rF s46 0 16 = rF s42 0 16 → rF s46 0 17 = rF s42 0 17 → rF s46 0 21 = rF s42 0 21 → post_X13_name s42 (rR σ 7) (rR σ 15) 4000 (rF s11 0 17) (x16 - (rF s11 0 17)) x47 s46 → Q x47 (sF s46 0 17 x16))) ∧ (¬ (rF s42 0 10) = 0 → Q 0 s42))))))))))))) ∧ (¬ (rF s11 0 10) = 0 → Q 0 s11))))
set_option maxHeartbeats 400000 in
theorem vX14_fileName (σ : rS) (hwf : rWF σ) (hp : pre_X14_fileName σ ) : VC_X14_fileName σ (post_X14_fileName σ ) := by
  simp only [VC_X14_fileName, pre_X14_fileName, post_X14_fileName, pre_X14_wordEnd, pre_X13_name, pre_X14_skip, pre_X14_bad, pre_X14_isFileReserved, post_X14_wordEnd, post_X13_name, post_X14_skip, post_X14_bad, post_X14_isFileReserved, rng, rfk, rNMp, rF_sF, rF_sA, rF_sL, rF_sR, rA_sA, rA_sF, rA_sL, rA_sR, rR_sF, rR_sA, rR_sL, rR_sR, reduceIte, and_true, true_and, and_false, false_and, and_self] at *
  (repeat' (first | with_reducible intro _ | with_reducible apply And.intro))
  all_goals (first | assumption | omega | grind (splits := 20) [rNM_sF0])
theorem wX14_fileName (l : Launch) (G : zG) (κ : Nat → Nat) (σ : rS) (hwf : rWF σ) (Q : Int → rS → Prop) (h : VC_X14_fileName σ Q) : rMi l G κ yX14_fileName cX14_fileName 3 .int 7 187 [.ref (κ 0)] σ (fun x s => rKeep 0x221c00 0x1200 0 0xd00 0 σ s ∧ Q x s) := by
  refine zMi.intro (by decide +kernel) (Nat.le_of_ble_eq_true rfl) (fun X hC hR => ?_)
  obtain ⟨g0, h⟩ := h
  refine z_aload_n hC (pc := 0) 0 dX14_fileName_0 rfl rfl ?_
  obtain ⟨p10, h⟩ := h
  refine y_callVv hC (pc := 1) (As := []) (kX14_skip l G κ σ  hwf  p10) dmX14_skip zf14 rOb_0 dX14_fileName_1 zw2985 rfl rfl (Nat.le_of_ble_eq_true rfl) (Nat.le_of_ble_eq_true rfl) (Nat.le_of_ble_eq_true rfl) (Nat.le_of_ble_eq_true rfl) (Nat.le_of_ble_eq_true rfl) (kk := fun s11 Ws11 qs11 => ?_)
  have h := h s11 Ws11 (rNMp.keep qs11.1 rfl rfl rfl rfl rfl) (qs11.1.R rfl) (qs11.1.R rfl) (qs11.1.F rfl) (qs11.1.F rfl) (qs11.1.FG g0 rfl) (qs11.1.FG g0 rfl) (fun i => qs11.1.AG (f := 10) g0 (by decide) rfl) (fun i => qs11.1.AG (f := 11) g0 (by decide) rfl) qs11.2
  refine z_aload_n hC (pc := 4) 0 dX14_fileName_4 rfl rfl ?_
  refine y_get hC (pc := 5) zf14 rOb_0 10 (v := iv (rF s11 0 10)) dX14_fileName_5 zw2478 (rv_i (Or.inl rfl) rfl) (kk := ?_)
  have h := h (Ws11.f _ _)
  obtain ⟨hT, hF⟩ := h
  refine y_if_eq hC (pc := 8) 13 (Ws11.f _ _) dX14_fileName_8 (by decide) (fun c => ?_) (fun c => ?_)
  · have h := hT c
    refine z_aload_n hC (pc := 13) 0 dX14_fileName_13 rfl rfl ?_
    obtain ⟨g13, h⟩ := h
    refine y_get hC (pc := 14) zf14 rOb_0 15 (v := .ref (κ (rR σ 15))) dX14_fileName_14 zw2482 (rv_b rfl ((qs11.1.R rfl).trans rfl) g13) (kk := ?_)
    refine z_aload_n hC (pc := 17) 0 dX14_fileName_17 rfl rfl ?_
    refine y_get hC (pc := 18) zf14 rOb_0 16 (v := iv (rF s11 0 16)) dX14_fileName_18 zw2483 (rv_i (Or.inl rfl) rfl) (kk := ?_)
    have h := h (Ws11.f _ _)
    refine z_aload_n hC (pc := 21) 0 dX14_fileName_21 rfl rfl ?_
    refine y_get hC (pc := 22) zf14 rOb_0 17 (v := iv (rF s11 0 17)) dX14_fileName_22 zw2484 (rv_i (Or.inl rfl) rfl) (kk := ?_)
    have h := h (Ws11.f _ _)
    obtain ⟨p14, h⟩ := h
    refine y_callSi hC (pc := 25) (As := [.ref (κ (rR σ 15)), iv (rF s11 0 16), iv (rF s11 0 17)]) (kX14_wordEnd l G κ s11 (rR σ 15) 4000 (rF s11 0 16) (rF s11 0 17) Ws11 (rAr_f g13) (Ws11.f _ _) (Ws11.f _ _) p14) dmX14_wordEnd dX14_fileName_25 zw3009 rfl rfl (Nat.le_of_ble_eq_true rfl) (Nat.le_of_ble_eq_true rfl) (Nat.le_of_ble_eq_true rfl) (Nat.le_of_ble_eq_true rfl) (Nat.le_of_ble_eq_true rfl) (kk := fun x16 s15 hx16 Ws15 qs15 => ?_)
    obtain ⟨es15, qs15⟩ := qs15
    have es15 := es15.symm
    subst es15
    have h := h x16 hx16 qs15
    refine z_istore_n hC (pc := 28) (lv' := [(1, iv x16), (0, .ref (κ 0))]) dX14_fileName_28 rfl (by decide) rfl ?_
    refine z_aload_n hC (pc := 29) 1 dX14_fileName_29 rfl rfl ?_
    refine z_aload_n hC (pc := 30) 1 dX14_fileName_30 rfl rfl ?_
    refine y_get hC (pc := 31) zf14 rOb_0 17 (v := iv (rF s11 0 17)) dX14_fileName_31 zw2484 (rv_i (Or.inl rfl) rfl) (kk := ?_)
    refine y_putI hC (pc := 34) zf14 rOb_0 21 (x := (rF s11 0 17)) dX14_fileName_34 zw2488 (Or.inl rfl) rfl rfl (kk := ?_)
    have W17 := Ws11.sF (q := 0) (f := 21) (x := (rF s11 0 17)) (Ws11.f _ _)
    refine z_iload_n hC (pc := 37) 0 dX14_fileName_37 rfl rfl ?_
    refine z_aload_n hC (pc := 38) 1 dX14_fileName_38 rfl rfl ?_
    refine y_get hC (pc := 39) zf14 rOb_0 17 (v := iv (rF s11 0 17)) dX14_fileName_39 zw2484 (rv_i (Or.inl rfl) ((F_sF_ne (by decide)).trans rfl)) (kk := ?_)
    obtain ⟨hT, hF⟩ := h
    refine y_icmp_eq hC (pc := 42) 52 hx16 (Ws11.f _ _) dX14_fileName_42 (by decide) (fun c => ?_) (fun c => ?_)
    · have h := hT c
      refine z_aload_n hC (pc := 52) 1 dX14_fileName_52 rfl rfl ?_
      refine z_iconst hC (pc := 53) (v := Int32.ofInt 1) dX14_fileName_53 (by decide) ?_
      refine z_aload_n hC (pc := 54) 1 dX14_fileName_54 rfl rfl ?_
      refine y_get hC (pc := 55) zf14 rOb_0 17 (v := iv (rF s11 0 17)) dX14_fileName_55 zw2484 (rv_i (Or.inl rfl) ((F_sF_ne (by decide)).trans rfl)) (kk := ?_)
      obtain ⟨p18, h⟩ := h
      refine y_callVv hC (pc := 58) (As := [iv 1, iv (rF s11 0 17)]) (kX14_bad l G κ (sF s11 0 21 (rF s11 0 17)) 1 (rF s11 0 17) W17 (r_lit rfl) (Ws11.f _ _) p18) dmX14_bad zf14 rOb_0 dX14_fileName_58 zw3000 rfl rfl (Nat.le_of_ble_eq_true rfl) (Nat.le_of_ble_eq_true rfl) (Nat.le_of_ble_eq_true rfl) (Nat.le_of_ble_eq_true rfl) (Nat.le_of_ble_eq_true rfl) (kk := fun s19 Ws19 qs19 => ?_)
      have h := h s19 Ws19 (rNMp.keep qs19.1 rfl rfl rfl rfl rfl) (qs19.1.R rfl) (qs19.1.R rfl) (qs19.1.F rfl) (qs19.1.F rfl) (qs19.1.F rfl) (qs19.1.FG g0 rfl) (qs19.1.FG g0 rfl) (fun i => qs19.1.AG (f := 10) g0 (by decide) rfl) (fun i => qs19.1.AG (f := 11) g0 (by decide) rfl) qs19.2
      refine z_goto hC (pc := 61) 84 dX14_fileName_61 (by decide) ?_
      refine z_aload_n hC (pc := 84) 1 dX14_fileName_84 rfl rfl ?_
      refine y_get hC (pc := 85) zf14 rOb_0 10 (v := iv (rF s19 0 10)) dX14_fileName_85 zw2478 (rv_i (Or.inl rfl) rfl) (kk := ?_)
      have h := h (Ws19.f _ _)
      obtain ⟨hT, hF⟩ := h
      refine y_if_eq hC (pc := 88) 93 (Ws19.f _ _) dX14_fileName_88 (by decide) (fun c => ?_) (fun c => ?_)
      · have h := hT c
        refine z_aload_n hC (pc := 93) 1 dX14_fileName_93 rfl rfl ?_
        refine y_get hC (pc := 94) zf14 rOb_0 7 (v := .ref (κ (rR σ 7))) dX14_fileName_94 zw2475 (rv_g rfl ((qs19.1.R rfl).trans ((qs11.1.R rfl).trans rfl)) g0) (kk := ?_)
        refine z_aload_n hC (pc := 97) 1 dX14_fileName_97 rfl rfl ?_
        refine y_get hC (pc := 98) zf14 rOb_0 15 (v := .ref (κ (rR σ 15))) dX14_fileName_98 zw2482 (rv_b rfl ((qs19.1.R rfl).trans ((qs11.1.R rfl).trans rfl)) g13) (kk := ?_)
        refine z_aload_n hC (pc := 101) 1 dX14_fileName_101 rfl rfl ?_
        refine y_get hC (pc := 102) zf14 rOb_0 17 (v := iv (rF s11 0 17)) dX14_fileName_102 zw2484 (rv_i (Or.inl rfl) ((qs19.1.F rfl).trans ((F_sF_ne (by decide)).trans rfl))) (kk := ?_)
        refine z_iload_n hC (pc := 105) 0 dX14_fileName_105 rfl rfl ?_
        refine z_aload_n hC (pc := 106) 1 dX14_fileName_106 rfl rfl ?_
        refine y_get hC (pc := 107) zf14 rOb_0 17 (v := iv (rF s11 0 17)) dX14_fileName_107 zw2484 (rv_i (Or.inl rfl) ((qs19.1.F rfl).trans ((F_sF_ne (by decide)).trans rfl))) (kk := ?_)
        refine y_isub hC (pc := 110) (v := (x16 - (rF s11 0 17))) dX14_fileName_110 rfl ?_
        obtain ⟨r21, h⟩ := h
        obtain ⟨p22, h⟩ := h
        refine y_callVi hC (pc := 111) (As := [.ref (κ (rR σ 15)), iv (rF s11 0 17), iv (x16 - (rF s11 0 17))]) (kX13_name l G κ s19 (rR σ 7) (rR σ 15) 4000 (rF s11 0 17) (x16 - (rF s11 0 17)) Ws19 g0 (rAr_f g13) (Ws11.f _ _) r21 p22) dmX13_name zf13 (rOb_k g0) dX14_fileName_111 zw3063 rfl rfl (Nat.le_of_ble_eq_true rfl) (Nat.le_of_ble_eq_true rfl) (Nat.le_of_ble_eq_true rfl) (Nat.le_of_ble_eq_true rfl) (Nat.le_of_ble_eq_true rfl) (kk := fun x24 s23 hx24 Ws23 qs23 => ?_)
        have h := h x24 s23 hx24 Ws23 (qs23.1.R rfl) (qs23.1.R rfl) (qs23.1.F rfl) (qs23.1.F rfl) (qs23.1.F rfl) (qs23.1.F rfl) qs23.2
        refine z_istore_n hC (pc := 114) (lv' := [(2, iv x24), (1, iv x16), (0, .ref (κ 0))]) dX14_fileName_114 rfl (by decide) rfl ?_
        refine z_aload_n hC (pc := 115) 2 dX14_fileName_115 rfl rfl ?_
        refine z_iload_n hC (pc := 116) 1 dX14_fileName_116 rfl rfl ?_
        refine y_putI hC (pc := 117) zf14 rOb_0 17 (x := x16) dX14_fileName_117 zw2484 (Or.inl rfl) rfl rfl (kk := ?_)
        have W25 := Ws23.sF (q := 0) (f := 17) (x := x16) hx16
        refine z_iload_n hC (pc := 120) 0 dX14_fileName_120 rfl rfl ?_
        exact y_reti hR dX14_fileName_121 rfl hx24 W25 (Nat.le_of_ble_eq_true rfl) (Nat.le_of_ble_eq_true rfl) ⟨(rKeep.tr (rKeep.tr (rKeep.tr (rKeep.tr (rKeep.tr rKeep.rf qs11.1 rfl rfl rfl rfl rfl) (rKeep.sF0 (f := 21)) rfl rfl rfl rfl rfl) qs19.1 rfl rfl rfl rfl rfl) qs23.1 rfl rfl rfl rfl rfl) (rKeep.sF0 (f := 17)) rfl rfl rfl rfl rfl), h⟩
      · have h := hF c
        refine z_iconst hC (pc := 91) (v := Int32.ofInt 0) dX14_fileName_91 (by decide) ?_
        exact y_reti hR dX14_fileName_92 rfl (r_lit rfl) Ws19 (Nat.le_of_ble_eq_true rfl) (Nat.le_of_ble_eq_true rfl) ⟨(rKeep.tr (rKeep.tr (rKeep.tr rKeep.rf qs11.1 rfl rfl rfl rfl rfl) (rKeep.sF0 (f := 21)) rfl rfl rfl rfl rfl) qs19.1 rfl rfl rfl rfl rfl), h⟩
    · have h := hF c
      refine z_aload_n hC (pc := 45) 1 dX14_fileName_45 rfl rfl ?_
      obtain ⟨p26, h⟩ := h
      refine y_callVi hC (pc := 46) (As := []) (kX14_isFileReserved l G κ (sF s11 0 21 (rF s11 0 17))  W17  p26) dmX14_isFileReserved zf14 rOb_0 dX14_fileName_46 zw3055 rfl rfl (Nat.le_of_ble_eq_true rfl) (Nat.le_of_ble_eq_true rfl) (Nat.le_of_ble_eq_true rfl) (Nat.le_of_ble_eq_true rfl) (Nat.le_of_ble_eq_true rfl) (kk := fun x28 s27 hx28 Ws27 qs27 => ?_)
      obtain ⟨es27, qs27⟩ := qs27
      have es27 := es27.symm
      subst es27
      have h := h x28 hx28 qs27
      obtain ⟨hT, hF⟩ := h
      refine y_if_eq hC (pc := 49) 64 hx28 dX14_fileName_49 (by decide) (fun c => ?_) (fun c => ?_)
      · have h := hT c
        refine z_iload_n hC (pc := 64) 0 dX14_fileName_64 rfl rfl ?_
        refine z_aload_n hC (pc := 65) 1 dX14_fileName_65 rfl rfl ?_
        refine y_get hC (pc := 66) zf14 rOb_0 17 (v := iv (rF s11 0 17)) dX14_fileName_66 zw2484 (rv_i (Or.inl rfl) ((F_sF_ne (by decide)).trans rfl)) (kk := ?_)
        refine y_isub hC (pc := 69) (v := (x16 - (rF s11 0 17))) dX14_fileName_69 rfl ?_
        refine z_bipush hC (pc := 70) (v := Int32.ofInt 16) dX14_fileName_70 (by decide) ?_
        obtain ⟨r29, h⟩ := h
        obtain ⟨hT, hF⟩ := h
        refine y_icmp_le hC (pc := 72) 84 r29 (r_lit rfl) dX14_fileName_72 (by decide) (fun c => ?_) (fun c => ?_)
        · have h := hT c
          refine z_aload_n hC (pc := 84) 1 dX14_fileName_84 rfl rfl ?_
          refine y_get hC (pc := 85) zf14 rOb_0 10 (v := iv (rF s11 0 10)) dX14_fileName_85 zw2478 (rv_i (Or.inl rfl) ((F_sF_ne (by decide)).trans rfl)) (kk := ?_)
          obtain ⟨hT, hF⟩ := h
          refine y_if_eq hC (pc := 88) 93 (Ws11.f _ _) dX14_fileName_88 (by decide) (fun c => ?_) (fun c => ?_)
          · have h := hT c
            refine z_aload_n hC (pc := 93) 1 dX14_fileName_93 rfl rfl ?_
            refine y_get hC (pc := 94) zf14 rOb_0 7 (v := .ref (κ (rR σ 7))) dX14_fileName_94 zw2475 (rv_g rfl ((qs11.1.R rfl).trans rfl) g0) (kk := ?_)
            refine z_aload_n hC (pc := 97) 1 dX14_fileName_97 rfl rfl ?_
            refine y_get hC (pc := 98) zf14 rOb_0 15 (v := .ref (κ (rR σ 15))) dX14_fileName_98 zw2482 (rv_b rfl ((qs11.1.R rfl).trans rfl) g13) (kk := ?_)
            refine z_aload_n hC (pc := 101) 1 dX14_fileName_101 rfl rfl ?_
            refine y_get hC (pc := 102) zf14 rOb_0 17 (v := iv (rF s11 0 17)) dX14_fileName_102 zw2484 (rv_i (Or.inl rfl) ((F_sF_ne (by decide)).trans rfl)) (kk := ?_)
            refine z_iload_n hC (pc := 105) 0 dX14_fileName_105 rfl rfl ?_
            refine z_aload_n hC (pc := 106) 1 dX14_fileName_106 rfl rfl ?_
            refine y_get hC (pc := 107) zf14 rOb_0 17 (v := iv (rF s11 0 17)) dX14_fileName_107 zw2484 (rv_i (Or.inl rfl) ((F_sF_ne (by decide)).trans rfl)) (kk := ?_)
            refine y_isub hC (pc := 110) (v := (x16 - (rF s11 0 17))) dX14_fileName_110 rfl ?_
            obtain ⟨p30, h⟩ := h
            refine y_callVi hC (pc := 111) (As := [.ref (κ (rR σ 15)), iv (rF s11 0 17), iv (x16 - (rF s11 0 17))]) (kX13_name l G κ (sF s11 0 21 (rF s11 0 17)) (rR σ 7) (rR σ 15) 4000 (rF s11 0 17) (x16 - (rF s11 0 17)) W17 g0 (rAr_f g13) (Ws11.f _ _) r29 p30) dmX13_name zf13 (rOb_k g0) dX14_fileName_111 zw3063 rfl rfl (Nat.le_of_ble_eq_true rfl) (Nat.le_of_ble_eq_true rfl) (Nat.le_of_ble_eq_true rfl) (Nat.le_of_ble_eq_true rfl) (Nat.le_of_ble_eq_true rfl) (kk := fun x32 s31 hx32 Ws31 qs31 => ?_)
            have h := h x32 s31 hx32 Ws31 (qs31.1.R rfl) (qs31.1.R rfl) (qs31.1.F rfl) (qs31.1.F rfl) (qs31.1.F rfl) (qs31.1.F rfl) qs31.2
            refine z_istore_n hC (pc := 114) (lv' := [(2, iv x32), (1, iv x16), (0, .ref (κ 0))]) dX14_fileName_114 rfl (by decide) rfl ?_
            refine z_aload_n hC (pc := 115) 2 dX14_fileName_115 rfl rfl ?_
            refine z_iload_n hC (pc := 116) 1 dX14_fileName_116 rfl rfl ?_
            refine y_putI hC (pc := 117) zf14 rOb_0 17 (x := x16) dX14_fileName_117 zw2484 (Or.inl rfl) rfl rfl (kk := ?_)
            have W33 := Ws31.sF (q := 0) (f := 17) (x := x16) hx16
            refine z_iload_n hC (pc := 120) 0 dX14_fileName_120 rfl rfl ?_
            exact y_reti hR dX14_fileName_121 rfl hx32 W33 (Nat.le_of_ble_eq_true rfl) (Nat.le_of_ble_eq_true rfl) ⟨(rKeep.tr (rKeep.tr (rKeep.tr (rKeep.tr rKeep.rf qs11.1 rfl rfl rfl rfl rfl) (rKeep.sF0 (f := 21)) rfl rfl rfl rfl rfl) qs31.1 rfl rfl rfl rfl rfl) (rKeep.sF0 (f := 17)) rfl rfl rfl rfl rfl), h⟩
          · have h := hF c
            refine z_iconst hC (pc := 91) (v := Int32.ofInt 0) dX14_fileName_91 (by decide) ?_
            exact y_reti hR dX14_fileName_92 rfl (r_lit rfl) W17 (Nat.le_of_ble_eq_true rfl) (Nat.le_of_ble_eq_true rfl) ⟨(rKeep.tr (rKeep.tr rKeep.rf qs11.1 rfl rfl rfl rfl rfl) (rKeep.sF0 (f := 21)) rfl rfl rfl rfl rfl), h⟩
        · have h := hF c
          refine z_aload_n hC (pc := 75) 1 dX14_fileName_75 rfl rfl ?_
          refine z_iconst hC (pc := 76) (v := Int32.ofInt 2) dX14_fileName_76 (by decide) ?_
          refine z_aload_n hC (pc := 77) 1 dX14_fileName_77 rfl rfl ?_
          refine y_get hC (pc := 78) zf14 rOb_0 17 (v := iv (rF s11 0 17)) dX14_fileName_78 zw2484 (rv_i (Or.inl rfl) ((F_sF_ne (by decide)).trans rfl)) (kk := ?_)
          obtain ⟨p34, h⟩ := h
          refine y_callVv hC (pc := 81) (As := [iv 2, iv (rF s11 0 17)]) (kX14_bad l G κ (sF s11 0 21 (rF s11 0 17)) 2 (rF s11 0 17) W17 (r_lit rfl) (Ws11.f _ _) p34) dmX14_bad zf14 rOb_0 dX14_fileName_81 zw3000 rfl rfl (Nat.le_of_ble_eq_true rfl) (Nat.le_of_ble_eq_true rfl) (Nat.le_of_ble_eq_true rfl) (Nat.le_of_ble_eq_true rfl) (Nat.le_of_ble_eq_true rfl) (kk := fun s35 Ws35 qs35 => ?_)
          have h := h s35 Ws35 (rNMp.keep qs35.1 rfl rfl rfl rfl rfl) (qs35.1.R rfl) (qs35.1.R rfl) (qs35.1.F rfl) (qs35.1.F rfl) (qs35.1.F rfl) (qs35.1.FG g0 rfl) (qs35.1.FG g0 rfl) (fun i => qs35.1.AG (f := 10) g0 (by decide) rfl) (fun i => qs35.1.AG (f := 11) g0 (by decide) rfl) qs35.2
          refine z_aload_n hC (pc := 84) 1 dX14_fileName_84 rfl rfl ?_
          refine y_get hC (pc := 85) zf14 rOb_0 10 (v := iv (rF s35 0 10)) dX14_fileName_85 zw2478 (rv_i (Or.inl rfl) rfl) (kk := ?_)
          have h := h (Ws35.f _ _)
          obtain ⟨hT, hF⟩ := h
          refine y_if_eq hC (pc := 88) 93 (Ws35.f _ _) dX14_fileName_88 (by decide) (fun c => ?_) (fun c => ?_)
          · have h := hT c
            refine z_aload_n hC (pc := 93) 1 dX14_fileName_93 rfl rfl ?_
            refine y_get hC (pc := 94) zf14 rOb_0 7 (v := .ref (κ (rR σ 7))) dX14_fileName_94 zw2475 (rv_g rfl ((qs35.1.R rfl).trans ((qs11.1.R rfl).trans rfl)) g0) (kk := ?_)
            refine z_aload_n hC (pc := 97) 1 dX14_fileName_97 rfl rfl ?_
            refine y_get hC (pc := 98) zf14 rOb_0 15 (v := .ref (κ (rR σ 15))) dX14_fileName_98 zw2482 (rv_b rfl ((qs35.1.R rfl).trans ((qs11.1.R rfl).trans rfl)) g13) (kk := ?_)
            refine z_aload_n hC (pc := 101) 1 dX14_fileName_101 rfl rfl ?_
            refine y_get hC (pc := 102) zf14 rOb_0 17 (v := iv (rF s11 0 17)) dX14_fileName_102 zw2484 (rv_i (Or.inl rfl) ((qs35.1.F rfl).trans ((F_sF_ne (by decide)).trans rfl))) (kk := ?_)
            refine z_iload_n hC (pc := 105) 0 dX14_fileName_105 rfl rfl ?_
            refine z_aload_n hC (pc := 106) 1 dX14_fileName_106 rfl rfl ?_
            refine y_get hC (pc := 107) zf14 rOb_0 17 (v := iv (rF s11 0 17)) dX14_fileName_107 zw2484 (rv_i (Or.inl rfl) ((qs35.1.F rfl).trans ((F_sF_ne (by decide)).trans rfl))) (kk := ?_)
            refine y_isub hC (pc := 110) (v := (x16 - (rF s11 0 17))) dX14_fileName_110 rfl ?_
            obtain ⟨p37, h⟩ := h
            refine y_callVi hC (pc := 111) (As := [.ref (κ (rR σ 15)), iv (rF s11 0 17), iv (x16 - (rF s11 0 17))]) (kX13_name l G κ s35 (rR σ 7) (rR σ 15) 4000 (rF s11 0 17) (x16 - (rF s11 0 17)) Ws35 g0 (rAr_f g13) (Ws11.f _ _) r29 p37) dmX13_name zf13 (rOb_k g0) dX14_fileName_111 zw3063 rfl rfl (Nat.le_of_ble_eq_true rfl) (Nat.le_of_ble_eq_true rfl) (Nat.le_of_ble_eq_true rfl) (Nat.le_of_ble_eq_true rfl) (Nat.le_of_ble_eq_true rfl) (kk := fun x39 s38 hx39 Ws38 qs38 => ?_)
            have h := h x39 s38 hx39 Ws38 (qs38.1.R rfl) (qs38.1.R rfl) (qs38.1.F rfl) (qs38.1.F rfl) (qs38.1.F rfl) (qs38.1.F rfl) qs38.2
            refine z_istore_n hC (pc := 114) (lv' := [(2, iv x39), (1, iv x16), (0, .ref (κ 0))]) dX14_fileName_114 rfl (by decide) rfl ?_
            refine z_aload_n hC (pc := 115) 2 dX14_fileName_115 rfl rfl ?_
            refine z_iload_n hC (pc := 116) 1 dX14_fileName_116 rfl rfl ?_
            refine y_putI hC (pc := 117) zf14 rOb_0 17 (x := x16) dX14_fileName_117 zw2484 (Or.inl rfl) rfl rfl (kk := ?_)
            have W40 := Ws38.sF (q := 0) (f := 17) (x := x16) hx16
            refine z_iload_n hC (pc := 120) 0 dX14_fileName_120 rfl rfl ?_
            exact y_reti hR dX14_fileName_121 rfl hx39 W40 (Nat.le_of_ble_eq_true rfl) (Nat.le_of_ble_eq_true rfl) ⟨(rKeep.tr (rKeep.tr (rKeep.tr (rKeep.tr (rKeep.tr rKeep.rf qs11.1 rfl rfl rfl rfl rfl) (rKeep.sF0 (f := 21)) rfl rfl rfl rfl rfl) qs35.1 rfl rfl rfl rfl rfl) qs38.1 rfl rfl rfl rfl rfl) (rKeep.sF0 (f := 17)) rfl rfl rfl rfl rfl), h⟩
          · have h := hF c
            refine z_iconst hC (pc := 91) (v := Int32.ofInt 0) dX14_fileName_91 (by decide) ?_
            exact y_reti hR dX14_fileName_92 rfl (r_lit rfl) Ws35 (Nat.le_of_ble_eq_true rfl) (Nat.le_of_ble_eq_true rfl) ⟨(rKeep.tr (rKeep.tr (rKeep.tr rKeep.rf qs11.1 rfl rfl rfl rfl rfl) (rKeep.sF0 (f := 21)) rfl rfl rfl rfl rfl) qs35.1 rfl rfl rfl rfl rfl), h⟩
      · have h := hF c
        refine z_aload_n hC (pc := 52) 1 dX14_fileName_52 rfl rfl ?_
        refine z_iconst hC (pc := 53) (v := Int32.ofInt 1) dX14_fileName_53 (by decide) ?_
        refine z_aload_n hC (pc := 54) 1 dX14_fileName_54 rfl rfl ?_
        refine y_get hC (pc := 55) zf14 rOb_0 17 (v := iv (rF s11 0 17)) dX14_fileName_55 zw2484 (rv_i (Or.inl rfl) ((F_sF_ne (by decide)).trans rfl)) (kk := ?_)
        obtain ⟨p41, h⟩ := h
        refine y_callVv hC (pc := 58) (As := [iv 1, iv (rF s11 0 17)]) (kX14_bad l G κ (sF s11 0 21 (rF s11 0 17)) 1 (rF s11 0 17) W17 (r_lit rfl) (Ws11.f _ _) p41) dmX14_bad zf14 rOb_0 dX14_fileName_58 zw3000 rfl rfl (Nat.le_of_ble_eq_true rfl) (Nat.le_of_ble_eq_true rfl) (Nat.le_of_ble_eq_true rfl) (Nat.le_of_ble_eq_true rfl) (Nat.le_of_ble_eq_true rfl) (kk := fun s42 Ws42 qs42 => ?_)
        have h := h s42 Ws42 (rNMp.keep qs42.1 rfl rfl rfl rfl rfl) (qs42.1.R rfl) (qs42.1.R rfl) (qs42.1.F rfl) (qs42.1.F rfl) (qs42.1.F rfl) (qs42.1.FG g0 rfl) (qs42.1.FG g0 rfl) (fun i => qs42.1.AG (f := 10) g0 (by decide) rfl) (fun i => qs42.1.AG (f := 11) g0 (by decide) rfl) qs42.2
        refine z_goto hC (pc := 61) 84 dX14_fileName_61 (by decide) ?_
        refine z_aload_n hC (pc := 84) 1 dX14_fileName_84 rfl rfl ?_
        refine y_get hC (pc := 85) zf14 rOb_0 10 (v := iv (rF s42 0 10)) dX14_fileName_85 zw2478 (rv_i (Or.inl rfl) rfl) (kk := ?_)
        have h := h (Ws42.f _ _)
        obtain ⟨hT, hF⟩ := h
        refine y_if_eq hC (pc := 88) 93 (Ws42.f _ _) dX14_fileName_88 (by decide) (fun c => ?_) (fun c => ?_)
        · have h := hT c
          refine z_aload_n hC (pc := 93) 1 dX14_fileName_93 rfl rfl ?_
          refine y_get hC (pc := 94) zf14 rOb_0 7 (v := .ref (κ (rR σ 7))) dX14_fileName_94 zw2475 (rv_g rfl ((qs42.1.R rfl).trans ((qs11.1.R rfl).trans rfl)) g0) (kk := ?_)
          refine z_aload_n hC (pc := 97) 1 dX14_fileName_97 rfl rfl ?_
          refine y_get hC (pc := 98) zf14 rOb_0 15 (v := .ref (κ (rR σ 15))) dX14_fileName_98 zw2482 (rv_b rfl ((qs42.1.R rfl).trans ((qs11.1.R rfl).trans rfl)) g13) (kk := ?_)
          refine z_aload_n hC (pc := 101) 1 dX14_fileName_101 rfl rfl ?_
          refine y_get hC (pc := 102) zf14 rOb_0 17 (v := iv (rF s11 0 17)) dX14_fileName_102 zw2484 (rv_i (Or.inl rfl) ((qs42.1.F rfl).trans ((F_sF_ne (by decide)).trans rfl))) (kk := ?_)
          refine z_iload_n hC (pc := 105) 0 dX14_fileName_105 rfl rfl ?_
          refine z_aload_n hC (pc := 106) 1 dX14_fileName_106 rfl rfl ?_
          refine y_get hC (pc := 107) zf14 rOb_0 17 (v := iv (rF s11 0 17)) dX14_fileName_107 zw2484 (rv_i (Or.inl rfl) ((qs42.1.F rfl).trans ((F_sF_ne (by decide)).trans rfl))) (kk := ?_)
          refine y_isub hC (pc := 110) (v := (x16 - (rF s11 0 17))) dX14_fileName_110 rfl ?_
          obtain ⟨r44, h⟩ := h
          obtain ⟨p45, h⟩ := h
          refine y_callVi hC (pc := 111) (As := [.ref (κ (rR σ 15)), iv (rF s11 0 17), iv (x16 - (rF s11 0 17))]) (kX13_name l G κ s42 (rR σ 7) (rR σ 15) 4000 (rF s11 0 17) (x16 - (rF s11 0 17)) Ws42 g0 (rAr_f g13) (Ws11.f _ _) r44 p45) dmX13_name zf13 (rOb_k g0) dX14_fileName_111 zw3063 rfl rfl (Nat.le_of_ble_eq_true rfl) (Nat.le_of_ble_eq_true rfl) (Nat.le_of_ble_eq_true rfl) (Nat.le_of_ble_eq_true rfl) (Nat.le_of_ble_eq_true rfl) (kk := fun x47 s46 hx47 Ws46 qs46 => ?_)
          have h := h x47 s46 hx47 Ws46 (qs46.1.R rfl) (qs46.1.R rfl) (qs46.1.F rfl) (qs46.1.F rfl) (qs46.1.F rfl) (qs46.1.F rfl) qs46.2
          refine z_istore_n hC (pc := 114) (lv' := [(2, iv x47), (1, iv x16), (0, .ref (κ 0))]) dX14_fileName_114 rfl (by decide) rfl ?_
          refine z_aload_n hC (pc := 115) 2 dX14_fileName_115 rfl rfl ?_
          refine z_iload_n hC (pc := 116) 1 dX14_fileName_116 rfl rfl ?_
          refine y_putI hC (pc := 117) zf14 rOb_0 17 (x := x16) dX14_fileName_117 zw2484 (Or.inl rfl) rfl rfl (kk := ?_)
          have W48 := Ws46.sF (q := 0) (f := 17) (x := x16) hx16
          refine z_iload_n hC (pc := 120) 0 dX14_fileName_120 rfl rfl ?_
          exact y_reti hR dX14_fileName_121 rfl hx47 W48 (Nat.le_of_ble_eq_true rfl) (Nat.le_of_ble_eq_true rfl) ⟨(rKeep.tr (rKeep.tr (rKeep.tr (rKeep.tr (rKeep.tr rKeep.rf qs11.1 rfl rfl rfl rfl rfl) (rKeep.sF0 (f := 21)) rfl rfl rfl rfl rfl) qs42.1 rfl rfl rfl rfl rfl) qs46.1 rfl rfl rfl rfl rfl) (rKeep.sF0 (f := 17)) rfl rfl rfl rfl rfl), h⟩
        · have h := hF c
          refine z_iconst hC (pc := 91) (v := Int32.ofInt 0) dX14_fileName_91 (by decide) ?_
          exact y_reti hR dX14_fileName_92 rfl (r_lit rfl) Ws42 (Nat.le_of_ble_eq_true rfl) (Nat.le_of_ble_eq_true rfl) ⟨(rKeep.tr (rKeep.tr (rKeep.tr rKeep.rf qs11.1 rfl rfl rfl rfl rfl) (rKeep.sF0 (f := 21)) rfl rfl rfl rfl rfl) qs42.1 rfl rfl rfl rfl rfl), h⟩
  · have h := hF c
    refine z_iconst hC (pc := 11) (v := Int32.ofInt 0) dX14_fileName_11 (by decide) ?_
    exact y_reti hR dX14_fileName_12 rfl (r_lit rfl) Ws11 (Nat.le_of_ble_eq_true rfl) (Nat.le_of_ble_eq_true rfl) ⟨(rKeep.tr rKeep.rf qs11.1 rfl rfl rfl rfl rfl), h⟩
theorem kX14_fileName (l : Launch) (G : zG) (κ : Nat → Nat) (σ : rS) (hwf : rWF σ) (hp : pre_X14_fileName σ ) : rMi l G κ yX14_fileName cX14_fileName 3 .int 7 187 [.ref (κ 0)] σ (fun x s => rKeep 0x221c00 0x1200 0 0xd00 0 σ s ∧ post_X14_fileName σ x s) := wX14_fileName l G κ σ hwf (post_X14_fileName σ ) (vX14_fileName σ hwf hp) 
def pre_X14_tagName (σ : rS)  : Prop := 0 ≤ (rF σ 0 29) ∧ (rF σ 0 29) ≤ (rF σ 0 28) + 3 ∧ ((rF σ 0 10) = 0 → (rF σ 0 29) ≤ (rF σ 0 28)) ∧ 0 ≤ (rF σ 0 28) ∧ (rF σ 0 28) ≤ 4001 ∧ TPRp σ ∧ rNMp σ ∧ (rF σ (rR σ 7) 12) + ((rF σ 0 28) + 3 - (rF σ 0 29)) ≤ 16990 ∧ (rF σ (rR σ 7) 9) + ((rF σ 0 28) + 3 - (rF σ 0 29)) ≤ 59990
def post_X14_tagName (σ : rS)  (r : Int) (σ' : rS) : Prop := (rF σ 0 29) ≤ (rF σ' 0 29) ∧ (rF σ' 0 29) ≤ (rF σ 0 28) + 3 ∧ ((rF σ' 0 10) = 0 → (rF σ' 0 29) ≤ (rF σ 0 28)) ∧ ((rF σ 0 10) ≠ 0 → (rF σ' 0 10) = (rF σ 0 10)) ∧ rNMp σ' ∧ (rF σ (rR σ 7) 12) ≤ rF σ' (rR σ 7) 12 ∧ (rF σ (rR σ 7) 9) ≤ rF σ' (rR σ 7) 9 ∧ rF σ' (rR σ 7) 12 + (rF σ 0 29) ≤ (rF σ (rR σ 7) 12) + (rF σ' 0 29) ∧ rF σ' (rR σ 7) 9 + (rF σ 0 29) ≤ (rF σ (rR σ 7) 9) + (rF σ' 0 29) ∧ ((rF σ' 0 10) = 0 → (rF σ 0 29) < (rF σ' 0 29) ∧ 0 ≤ r ∧ r < rF σ' (rR σ 7) 12 ∧ 0 ≤ (rF σ' 0 41) ∧ (rF σ' 0 41) ≤ 4000)
def VC_X14_tagName (σ : rS) (Q : Int → rS → Prop) : Prop := rgk (rR σ 7) ∧ pre_X14_blanks σ ∧ (∀ (s11 : rS), rWF s11 → (rNMp σ → rNMp s11) → (TPRp σ → TPRp s11) → rR s11 7 = rR σ 7 → rF s11 0 10 = rF σ 0 10 → rF s11 0 28 = rF σ 0 28 → rF s11 0 41 = rF σ 0 41 → rF s11 (rR σ 7) 9 = rF σ (rR σ 7) 9 → rF s11 (rR σ 7) 12 = rF σ (rR σ 7) 12 → (∀ i, rA s11 (1000 * ((rR σ 7) + 1) + 10) i = rA σ (1000 * ((rR σ 7) + 1) + 10) i) → (∀ i, rA s11 (1000 * ((rR σ 7) + 1) + 11) i = rA σ (1000 * ((rR σ 7) + 1) + 11) i) → post_X14_blanks σ s11 → (rng (rF s11 0 10) → (((rF s11 0 10) = 0 → (rng (rF s11 0 28) → (rng (rF s11 0 29) → pre_X14_wordEnd s11 1026 4001 (rF s11 0 28) (rF s11 0 29) ∧ (∀ (x15 : Int), rng x15 → post_X14_wordEnd s11 1026 4001 (rF s11 0 28) (rF s11 0 29) x15 → pre_X14_place s11 ∧ (∀ (x18 : Int), rng x18 → post_X14_place s11 x18 → ((x15 = (rF s11 0 29) → pre_X14_place (sF s11 0 41 x18) ∧ (∀ (x22 : Int), rng x22 → post_X14_place (sF s11 0 41 x18) x22 → pre_X14_bad (sF s11 0 41 x18) 1 x22 ∧ (∀ (s24 : rS), rWF s24 → (rNMp (sF s11 0 41 x18) → rNMp s24) → (TPRp (sF s11 0 41 x18) → TPRp s24) → rR s24 7 = rR (sF s11 0 41 x18) 7 → rF s24 0 28 = rF (sF s11 0 41 x18) 0 28 → rF s24 0 29 = rF (sF s11 0 41 x18) 0 29 → rF s24 0 41 = rF (sF s11 0 41 x18) 0 41 → rF s24 (rR σ 7) 9 = rF (sF s11 0 41 x18) (rR σ 7) 9 → rF s24 (rR σ 7) 12 = rF (sF s11 0 41 x18) (rR σ 7) 12 → (∀ i, rA s24 (1000 * ((rR σ 7) + 1) + 10) i = rA (sF s11 0 41 x18) (1000 * ((rR σ 7) + 1) + 10) i) → (∀ i, rA s24 (1000 * ((rR σ 7) + 1) + 11) i = rA (sF s11 0 41 x18) (1000 * ((rR σ 7) + 1) + 11) i) → post_X14_bad (sF s11 0 41 x18) 1 x22 s24 → (rng (rF s24 0 10) → (((rF s24 0 10) = 0 → rng (x15 - (rF s11 0 29)) ∧ pre_X13_name s24 (rR σ 7) 1026 4001 (rF s11 0 29) (x15 - (rF s11 0 29)) ∧ (∀ (x29 : Int) (s28 : rS), rng x29 → rWF s28 → (TPRp s24 → TPRp s28) → rR s28 7 = rR s24 7 → rF s28 0 10 = rF s24 0 10 → rF s28 0 28 = rF s24 0 28 → rF s28 0 29 = rF s24 0 29 → rF s28 0 41 = rF s24 0 41 → post_X13_name s24 (rR σ 7) 1026 4001 (rF s11 0 29) (x15 - (rF s11 0 29)) x29 s28 → Q x29 (sF s28 0 29 x15))) ∧ (¬ (rF s24 0 10) = 0 → Q 0 s24)))))) ∧ (¬ x15 = (rF s11 0 29) → pre_X14_isReserved (sF s11 0 41 x18) ∧ (∀ (x33 : Int), rng x33 → post_X14_isReserved (sF s11 0 41 x18) x33 → ((x33 = 0 → rng (x15 - (rF s11 0 29)) ∧ (((x15 - (rF s11 0 29)) ≤ 16 → (((rF s11 0 10) = 0 → pre_X13_name (sF s11 0 41 x18) (rR σ 7) 1026 4001 (rF s11 0 29) (x15 - (rF s11 0 29)) ∧ (∀ (x37 : Int) (s36 : rS), rng x37 → rWF s36 → (TPRp (sF s11 0 41 x18) → TPRp s36) → rR s36 7 = rR (sF s11 0 41 x18) 7 → rF s36 0 10 = rF (sF s11 0 41 x18) 0 10 → rF s36 0 28 = rF (sF s11 0 41 x18) 0 28 → rF s36 0 29 = rF (sF s11 0 41 x18) 0 29 → rF s36 0 41 = rF (sF s11 0 41 x18) 0 41 → post_X13_name (sF s11 0 41 x18) (rR σ 7) 1026 4001 (rF s11 0 29) (x15 - (rF s11 0 29)) x37 s36 → Q x37 (sF s36 0 29 x15))) ∧ (¬ (rF s11 0 10) = 0 → Q 0 (sF s11 0 41 x18)))) ∧ (¬ (x15 - (rF s11 0 29)) ≤ 16 → pre_X14_place (sF s11 0 41 x18) ∧ (∀ (x41 : Int), rng x41 → post_X14_place (sF s11 0 41 x18) x41 → pre_X14_bad (sF s11 0 41 x18) 2 x41 ∧ (∀ (s43 : rS), rWF s43 → (rNMp (sF s11 0 41 x18) → rNMp s43) → (TPRp (sF s11 0 41 x18) → TPRp s43) → rR s43 7 = rR (sF s11 0 41 x18) 7 → rF s43 0 28 = rF (sF s11 0 41 x18) 0 28 → rF s43 0 29 = rF (sF s11 0 41 x18) 0 29 → rF s43 0 41 = rF (sF s11 0 41 x18) 0 41 → rF s43 (rR σ 7) 9 = rF (sF s11 0 41 x18) (rR σ 7) 9 → rF s43 (rR σ 7) 12 = rF (sF s11 0 41 x18) (rR σ 7) 12 → (∀ i, rA s43 (1000 * ((rR σ 7) + 1) + 10) i = rA (sF s11 0 41 x18) (1000 * ((rR σ 7) + 1) + 10) i) → (∀ i, rA s43 (1000 * ((rR σ 7) + 1) + 11) i = rA (sF s11 0 41 x18) (1000 * ((rR σ 7) + 1) + 11) i) → post_X14_bad (sF s11 0 41 x18) 2 x41 s43 → (rng (rF s43 0 10) → (((rF s43 0 10) = 0 → pre_X13_name s43 (rR σ 7) 1026 4001 (rF s11 0 29) (x15 - (rF s11 0 29)) ∧ (∀ (x47 : Int) (s46 : rS), rng x47 → rWF s46 → (TPRp s43 → TPRp s46) → rR s46 7 = rR s43 7 → rF s46 0 10 = rF s43 0 10 → rF s46 0 28 = rF s43 0 28 → rF s46 0 29 = rF s43 0 29 → rF s46 0 41 = rF s43 0 41 → post_X13_name s43 (rR σ 7) 1026 4001 (rF s11 0 29) (x15 - (rF s11 0 29)) x47 s46 → Q x47 (sF s46 0 29 x15))) ∧ (¬ (rF s43 0 10) = 0 → Q 0 s43)))))))) ∧ (¬ x33 = 0 → pre_X14_place (sF s11 0 41 x18) ∧ (∀ (x51 : Int), rng x51 → post_X14_place (sF s11 0 41 x18) x51 → pre_X14_bad (sF s11 0 41 x18) 1 x51 ∧ (∀ (s53 : rS), rWF s53 → (rNMp (sF s11 0 41 x18) → rNMp s53) → (TPRp (sF s11 0 41 x18) → TPRp s53) → rR s53 7 = rR (sF s11 0 41 x18) 7 → rF s53 0 28 = rF (sF s11 0 41 x18) 0 28 → rF s53 0 29 = rF (sF s11 0 41 x18) 0 29 → rF s53 0 41 = rF (sF s11 0 41 x18) 0 41 → rF s53 (rR σ 7) 9 = rF (sF s11 0 41 x18) (rR σ 7) 9 → rF s53 (rR σ 7) 12 = rF (sF s11 0 41 x18) (rR σ 7) 12 → (∀ i, rA s53 (1000 * ((rR σ 7) + 1) + 10) i = rA (sF s11 0 41 x18) (1000 * ((rR σ 7) + 1) + 10) i) → (∀ i, rA s53 (1000 * ((rR σ 7) + 1) + 11) i = rA (sF s11 0 41 x18) (1000 * ((rR σ 7) + 1) + 11) i) → post_X14_bad (sF s11 0 41 x18) 1 x51 s53 → (rng (rF s53 0 10) → (((rF s53 0 10) = 0 → rng (x15 - (rF s11 0 29)) ∧ pre_X13_name s53 (rR σ 7) 1026 4001 (rF s11 0 29) (x15 - (rF s11 0 29)) ∧ (∀ (x58 : Int) (s57 : rS), rng x58 → rWF s57 → (TPRp s53 → TPRp s57) → rR s57 7 = rR s53 7 → rF s57 0 10 = rF s53 0 10 → rF s57 0 28 = rF s53 0 28 → rF s57 0 29 = rF s53 0 29 → rF s57 0 41 = rF s53 0 41 → post_X13_name s53 (rR σ 7) 1026 4001 (rF s11 0 29) (x15 - (rF s11 0 29)) x58 s57 → Q x58 (sF s57 0 29 x15))) ∧ (¬ (rF s53 0 10) = 0 → Q 0 s53))))))))))))))) ∧ (¬ (rF s11 0 10) = 0 → Q 0 s11))))
set_option maxHeartbeats 400000 in
theorem vX14_tagName (σ : rS) (hwf : rWF σ) (hp : pre_X14_tagName σ ) : VC_X14_tagName σ (post_X14_tagName σ ) := by
  simp only [VC_X14_tagName, pre_X14_tagName, post_X14_tagName, pre_X14_wordEnd, pre_X13_name, pre_X14_bad, pre_X14_isReserved, pre_X14_place, pre_X14_blanks, post_X14_wordEnd, post_X13_name, post_X14_bad, post_X14_isReserved, post_X14_place, post_X14_blanks, rng, rfk, rNMp, rF_sF, rF_sA, rF_sL, rF_sR, rA_sA, rA_sF, rA_sL, rA_sR, rR_sF, rR_sA, rR_sL, rR_sR, reduceIte, and_true, true_and, and_false, false_and, and_self, TPRp_sL, TPRp_sF0, TPRp_sF3, TPRp_sF10, TPRp_sF11, TPRp_sF12, TPRp_sF13, TPRp_sF14, TPRp_sF16, TPRp_sF17, TPRp_sF18, TPRp_sF19, TPRp_sF21, TPRp_sF22, TPRp_sF23, TPRp_sF24, TPRp_sF25, TPRp_sF29, TPRp_sF31, TPRp_sF32, TPRp_sF33, TPRp_sF38, TPRp_sF39, TPRp_sF41, TPRp_sF42, TPRp_sF43, TPRp_sF44, TPRp_sF45, TPRp_sF60, TPRp_sF65, TPRp_sF66, TPRp_sF67, TPRp_sF68, TPRp_sF70, TPRp_sF71, TPRp_sF72, TPRp_sF73, TPRp_sF74, TPRp_sF80, TPRp_sF81, TPRp_sF82, TPRp_sF83, TPRp_sF88, TPRp_sF92, TPRp_sF94, TPRp_sF96, TPRp_sF97, TPRp_sF98, TPRp_sF99, TPRp_sF100, TPRp_sF101, TPRp_sF103, TPRp_sF104, TPRp_sF112, TPRp_sF113, TPRp_sF118, TPRp_sF119, TPRp_sF122, TPRp_sF123, TPRp_sF135, TPRp_sF137, TPRp_sA1, TPRp_sA2, TPRp_sA5, TPRp_sA20, TPRp_sA26, TPRp_sA34, TPRp_sA35, TPRp_sA36, TPRp_sA37, TPRp_sA40, TPRp_sA46, TPRp_sA47, TPRp_sA48, TPRp_sA49, TPRp_sA50, TPRp_sA51, TPRp_sA52, TPRp_sA53, TPRp_sA54, TPRp_sA55, TPRp_sA56, TPRp_sA57, TPRp_sA58, TPRp_sA59, TPRp_sA61, TPRp_sA62, TPRp_sA63, TPRp_sA64, TPRp_sA69, TPRp_sA75, TPRp_sA76, TPRp_sA77, TPRp_sA78, TPRp_sA79, TPRp_sA84, TPRp_sA85, TPRp_sA86, TPRp_sA87, TPRp_sA89, TPRp_sA90, TPRp_sA91, TPRp_sA93, TPRp_sA102, TPRp_sA105, TPRp_sA106, TPRp_sA107, TPRp_sA108, TPRp_sA109, TPRp_sA110, TPRp_sA111, TPRp_sA114, TPRp_sA115, TPRp_sA116, TPRp_sA117, TPRp_sA120, TPRp_sA121, TPRp_sA124, TPRp_sA125, TPRp_sA126, TPRp_sA127, TPRp_sA128, TPRp_sA129, TPRp_sA136, TPRp_sA138, TPRp_gA0, TPRp_gA1, TPRp_gA2, TPRp_gA3, TPRp_gA4, TPRp_gA5, TPRp_gA6, TPRp_gA8, TPRp_gA10, TPRp_gA11, TPRp_gA15, TPRp_gA16, TPRp_gA17, TPRp_gA18, TPRp_gA19, TPRp_gA20, TPRp_gA21, TPRp_gA22, TPRp_gA23, TPRp_gA24, TPRp_gA25, TPRp_gA26, TPRp_gA29, TPRp_gA30, TPRp_gA31, TPRp_gA33, TPRp_gA34, TPRp_gA35, TPRp_gA36, TPRp_gA37, TPRp_sF7, TPRp_sF9] at *
  (repeat' (first | with_reducible intro _ | with_reducible apply And.intro))
  all_goals (first | assumption | omega | grind (splits := 20) [rNM_sF0])
theorem wX14_tagName (l : Launch) (G : zG) (κ : Nat → Nat) (σ : rS) (hwf : rWF σ) (Q : Int → rS → Prop) (h : VC_X14_tagName σ Q) : rMi l G κ yX14_tagName cX14_tagName 3 .int 8 207 [.ref (κ 0)] σ (fun x s => rKeep 0x20020001c00 0x1200 0 0xd00 0 σ s ∧ Q x s) := by
  refine zMi.intro (by decide +kernel) (Nat.le_of_ble_eq_true rfl) (fun X hC hR => ?_)
  obtain ⟨g0, h⟩ := h
  refine z_aload_n hC (pc := 0) 0 dX14_tagName_0 rfl rfl ?_
  obtain ⟨p10, h⟩ := h
  refine y_callVv hC (pc := 1) (As := []) (kX14_blanks l G κ σ  hwf  p10) dmX14_blanks zf14 rOb_0 dX14_tagName_1 zw3119 rfl rfl (Nat.le_of_ble_eq_true rfl) (Nat.le_of_ble_eq_true rfl) (Nat.le_of_ble_eq_true rfl) (Nat.le_of_ble_eq_true rfl) (Nat.le_of_ble_eq_true rfl) (kk := fun s11 Ws11 qs11 => ?_)
  have h := h s11 Ws11 (rNMp.keep qs11.1 rfl rfl rfl rfl rfl) (TPRp.keep qs11.1 rfl rfl rfl) (qs11.1.R rfl) (qs11.1.F rfl) (qs11.1.F rfl) (qs11.1.F rfl) (qs11.1.FG g0 rfl) (qs11.1.FG g0 rfl) (fun i => qs11.1.AG (f := 10) g0 (by decide) rfl) (fun i => qs11.1.AG (f := 11) g0 (by decide) rfl) qs11.2
  refine z_aload_n hC (pc := 4) 0 dX14_tagName_4 rfl rfl ?_
  refine y_get hC (pc := 5) zf14 rOb_0 10 (v := iv (rF s11 0 10)) dX14_tagName_5 zw2478 (rv_i (Or.inl rfl) rfl) (kk := ?_)
  have h := h (Ws11.f _ _)
  obtain ⟨hT, hF⟩ := h
  refine y_if_eq hC (pc := 8) 13 (Ws11.f _ _) dX14_tagName_8 (by decide) (fun c => ?_) (fun c => ?_)
  · have h := hT c
    refine z_aload_n hC (pc := 13) 0 dX14_tagName_13 rfl rfl ?_
    refine y_get hC (pc := 14) zf14 rOb_0 26 (v := .ref (κ 1026)) dX14_tagName_14 zw2493 (rv_c rfl) (kk := ?_)
    refine z_aload_n hC (pc := 17) 0 dX14_tagName_17 rfl rfl ?_
    refine y_get hC (pc := 18) zf14 rOb_0 28 (v := iv (rF s11 0 28)) dX14_tagName_18 zw2495 (rv_i (Or.inl rfl) rfl) (kk := ?_)
    have h := h (Ws11.f _ _)
    refine z_aload_n hC (pc := 21) 0 dX14_tagName_21 rfl rfl ?_
    refine y_get hC (pc := 22) zf14 rOb_0 29 (v := iv (rF s11 0 29)) dX14_tagName_22 zw2496 (rv_i (Or.inl rfl) rfl) (kk := ?_)
    have h := h (Ws11.f _ _)
    obtain ⟨p13, h⟩ := h
    refine y_callSi hC (pc := 25) (As := [.ref (κ 1026), iv (rF s11 0 28), iv (rF s11 0 29)]) (kX14_wordEnd l G κ s11 1026 4001 (rF s11 0 28) (rF s11 0 29) Ws11 (rAr_m rfl) (Ws11.f _ _) (Ws11.f _ _) p13) dmX14_wordEnd dX14_tagName_25 zw3009 rfl rfl (Nat.le_of_ble_eq_true rfl) (Nat.le_of_ble_eq_true rfl) (Nat.le_of_ble_eq_true rfl) (Nat.le_of_ble_eq_true rfl) (Nat.le_of_ble_eq_true rfl) (kk := fun x15 s14 hx15 Ws14 qs14 => ?_)
    obtain ⟨es14, qs14⟩ := qs14
    have es14 := es14.symm
    subst es14
    have h := h x15 hx15 qs14
    refine z_istore_n hC (pc := 28) (lv' := [(1, iv x15), (0, .ref (κ 0))]) dX14_tagName_28 rfl (by decide) rfl ?_
    refine z_aload_n hC (pc := 29) 1 dX14_tagName_29 rfl rfl ?_
    refine z_aload_n hC (pc := 30) 1 dX14_tagName_30 rfl rfl ?_
    obtain ⟨p16, h⟩ := h
    refine y_callVi hC (pc := 31) (As := []) (kX14_place l G κ s11  Ws11  p16) dmX14_place zf14 rOb_0 dX14_tagName_31 zw3103 rfl rfl (Nat.le_of_ble_eq_true rfl) (Nat.le_of_ble_eq_true rfl) (Nat.le_of_ble_eq_true rfl) (Nat.le_of_ble_eq_true rfl) (Nat.le_of_ble_eq_true rfl) (kk := fun x18 s17 hx18 Ws17 qs17 => ?_)
    obtain ⟨es17, qs17⟩ := qs17
    have es17 := es17.symm
    subst es17
    have h := h x18 hx18 qs17
    refine y_putI hC (pc := 34) zf14 rOb_0 41 (x := x18) dX14_tagName_34 zw2508 (Or.inl rfl) rfl rfl (kk := ?_)
    have W19 := Ws11.sF (q := 0) (f := 41) (x := x18) hx18
    refine z_iload_n hC (pc := 37) 0 dX14_tagName_37 rfl rfl ?_
    refine z_aload_n hC (pc := 38) 1 dX14_tagName_38 rfl rfl ?_
    refine y_get hC (pc := 39) zf14 rOb_0 29 (v := iv (rF s11 0 29)) dX14_tagName_39 zw2496 (rv_i (Or.inl rfl) ((F_sF_ne (by decide)).trans rfl)) (kk := ?_)
    obtain ⟨hT, hF⟩ := h
    refine y_icmp_eq hC (pc := 42) 52 hx15 (Ws11.f _ _) dX14_tagName_42 (by decide) (fun c => ?_) (fun c => ?_)
    · have h := hT c
      refine z_aload_n hC (pc := 52) 1 dX14_tagName_52 rfl rfl ?_
      refine z_iconst hC (pc := 53) (v := Int32.ofInt 1) dX14_tagName_53 (by decide) ?_
      refine z_aload_n hC (pc := 54) 1 dX14_tagName_54 rfl rfl ?_
      obtain ⟨p20, h⟩ := h
      refine y_callVi hC (pc := 55) (As := []) (kX14_place l G κ (sF s11 0 41 x18)  W19  p20) dmX14_place zf14 rOb_0 dX14_tagName_55 zw3103 rfl rfl (Nat.le_of_ble_eq_true rfl) (Nat.le_of_ble_eq_true rfl) (Nat.le_of_ble_eq_true rfl) (Nat.le_of_ble_eq_true rfl) (Nat.le_of_ble_eq_true rfl) (kk := fun x22 s21 hx22 Ws21 qs21 => ?_)
      obtain ⟨es21, qs21⟩ := qs21
      have es21 := es21.symm
      subst es21
      have h := h x22 hx22 qs21
      obtain ⟨p23, h⟩ := h
      refine y_callVv hC (pc := 58) (As := [iv 1, iv x22]) (kX14_bad l G κ (sF s11 0 41 x18) 1 x22 W19 (r_lit rfl) hx22 p23) dmX14_bad zf14 rOb_0 dX14_tagName_58 zw3000 rfl rfl (Nat.le_of_ble_eq_true rfl) (Nat.le_of_ble_eq_true rfl) (Nat.le_of_ble_eq_true rfl) (Nat.le_of_ble_eq_true rfl) (Nat.le_of_ble_eq_true rfl) (kk := fun s24 Ws24 qs24 => ?_)
      have h := h s24 Ws24 (rNMp.keep qs24.1 rfl rfl rfl rfl rfl) (TPRp.keep qs24.1 rfl rfl rfl) (qs24.1.R rfl) (qs24.1.F rfl) (qs24.1.F rfl) (qs24.1.F rfl) (qs24.1.FG g0 rfl) (qs24.1.FG g0 rfl) (fun i => qs24.1.AG (f := 10) g0 (by decide) rfl) (fun i => qs24.1.AG (f := 11) g0 (by decide) rfl) qs24.2
      refine z_goto hC (pc := 61) 84 dX14_tagName_61 (by decide) ?_
      refine z_aload_n hC (pc := 84) 1 dX14_tagName_84 rfl rfl ?_
      refine y_get hC (pc := 85) zf14 rOb_0 10 (v := iv (rF s24 0 10)) dX14_tagName_85 zw2478 (rv_i (Or.inl rfl) rfl) (kk := ?_)
      have h := h (Ws24.f _ _)
      obtain ⟨hT, hF⟩ := h
      refine y_if_eq hC (pc := 88) 93 (Ws24.f _ _) dX14_tagName_88 (by decide) (fun c => ?_) (fun c => ?_)
      · have h := hT c
        refine z_aload_n hC (pc := 93) 1 dX14_tagName_93 rfl rfl ?_
        refine y_get hC (pc := 94) zf14 rOb_0 7 (v := .ref (κ (rR σ 7))) dX14_tagName_94 zw2475 (rv_g rfl ((qs24.1.R rfl).trans ((qs11.1.R rfl).trans rfl)) g0) (kk := ?_)
        refine z_aload_n hC (pc := 97) 1 dX14_tagName_97 rfl rfl ?_
        refine y_get hC (pc := 98) zf14 rOb_0 26 (v := .ref (κ 1026)) dX14_tagName_98 zw2493 (rv_c rfl) (kk := ?_)
        refine z_aload_n hC (pc := 101) 1 dX14_tagName_101 rfl rfl ?_
        refine y_get hC (pc := 102) zf14 rOb_0 29 (v := iv (rF s11 0 29)) dX14_tagName_102 zw2496 (rv_i (Or.inl rfl) ((qs24.1.F rfl).trans ((F_sF_ne (by decide)).trans rfl))) (kk := ?_)
        refine z_iload_n hC (pc := 105) 0 dX14_tagName_105 rfl rfl ?_
        refine z_aload_n hC (pc := 106) 1 dX14_tagName_106 rfl rfl ?_
        refine y_get hC (pc := 107) zf14 rOb_0 29 (v := iv (rF s11 0 29)) dX14_tagName_107 zw2496 (rv_i (Or.inl rfl) ((qs24.1.F rfl).trans ((F_sF_ne (by decide)).trans rfl))) (kk := ?_)
        refine y_isub hC (pc := 110) (v := (x15 - (rF s11 0 29))) dX14_tagName_110 rfl ?_
        obtain ⟨r26, h⟩ := h
        obtain ⟨p27, h⟩ := h
        refine y_callVi hC (pc := 111) (As := [.ref (κ 1026), iv (rF s11 0 29), iv (x15 - (rF s11 0 29))]) (kX13_name l G κ s24 (rR σ 7) 1026 4001 (rF s11 0 29) (x15 - (rF s11 0 29)) Ws24 g0 (rAr_m rfl) (Ws11.f _ _) r26 p27) dmX13_name zf13 (rOb_k g0) dX14_tagName_111 zw3063 rfl rfl (Nat.le_of_ble_eq_true rfl) (Nat.le_of_ble_eq_true rfl) (Nat.le_of_ble_eq_true rfl) (Nat.le_of_ble_eq_true rfl) (Nat.le_of_ble_eq_true rfl) (kk := fun x29 s28 hx29 Ws28 qs28 => ?_)
        have h := h x29 s28 hx29 Ws28 (TPRp.keep qs28.1 rfl rfl rfl) (qs28.1.R rfl) (qs28.1.F rfl) (qs28.1.F rfl) (qs28.1.F rfl) (qs28.1.F rfl) qs28.2
        refine z_istore_n hC (pc := 114) (lv' := [(2, iv x29), (1, iv x15), (0, .ref (κ 0))]) dX14_tagName_114 rfl (by decide) rfl ?_
        refine z_aload_n hC (pc := 115) 2 dX14_tagName_115 rfl rfl ?_
        refine z_iload_n hC (pc := 116) 1 dX14_tagName_116 rfl rfl ?_
        refine y_putI hC (pc := 117) zf14 rOb_0 29 (x := x15) dX14_tagName_117 zw2496 (Or.inl rfl) rfl rfl (kk := ?_)
        have W30 := Ws28.sF (q := 0) (f := 29) (x := x15) hx15
        refine z_iload_n hC (pc := 120) 0 dX14_tagName_120 rfl rfl ?_
        exact y_reti hR dX14_tagName_121 rfl hx29 W30 (Nat.le_of_ble_eq_true rfl) (Nat.le_of_ble_eq_true rfl) ⟨(rKeep.tr (rKeep.tr (rKeep.tr (rKeep.tr (rKeep.tr rKeep.rf qs11.1 rfl rfl rfl rfl rfl) (rKeep.sF0 (f := 41)) rfl rfl rfl rfl rfl) qs24.1 rfl rfl rfl rfl rfl) qs28.1 rfl rfl rfl rfl rfl) (rKeep.sF0 (f := 29)) rfl rfl rfl rfl rfl), h⟩
      · have h := hF c
        refine z_iconst hC (pc := 91) (v := Int32.ofInt 0) dX14_tagName_91 (by decide) ?_
        exact y_reti hR dX14_tagName_92 rfl (r_lit rfl) Ws24 (Nat.le_of_ble_eq_true rfl) (Nat.le_of_ble_eq_true rfl) ⟨(rKeep.tr (rKeep.tr (rKeep.tr rKeep.rf qs11.1 rfl rfl rfl rfl rfl) (rKeep.sF0 (f := 41)) rfl rfl rfl rfl rfl) qs24.1 rfl rfl rfl rfl rfl), h⟩
    · have h := hF c
      refine z_aload_n hC (pc := 45) 1 dX14_tagName_45 rfl rfl ?_
      obtain ⟨p31, h⟩ := h
      refine y_callVi hC (pc := 46) (As := []) (kX14_isReserved l G κ (sF s11 0 41 x18)  W19  p31) dmX14_isReserved zf14 rOb_0 dX14_tagName_46 zw3141 rfl rfl (Nat.le_of_ble_eq_true rfl) (Nat.le_of_ble_eq_true rfl) (Nat.le_of_ble_eq_true rfl) (Nat.le_of_ble_eq_true rfl) (Nat.le_of_ble_eq_true rfl) (kk := fun x33 s32 hx33 Ws32 qs32 => ?_)
      obtain ⟨es32, qs32⟩ := qs32
      have es32 := es32.symm
      subst es32
      have h := h x33 hx33 qs32
      obtain ⟨hT, hF⟩ := h
      refine y_if_eq hC (pc := 49) 64 hx33 dX14_tagName_49 (by decide) (fun c => ?_) (fun c => ?_)
      · have h := hT c
        refine z_iload_n hC (pc := 64) 0 dX14_tagName_64 rfl rfl ?_
        refine z_aload_n hC (pc := 65) 1 dX14_tagName_65 rfl rfl ?_
        refine y_get hC (pc := 66) zf14 rOb_0 29 (v := iv (rF s11 0 29)) dX14_tagName_66 zw2496 (rv_i (Or.inl rfl) ((F_sF_ne (by decide)).trans rfl)) (kk := ?_)
        refine y_isub hC (pc := 69) (v := (x15 - (rF s11 0 29))) dX14_tagName_69 rfl ?_
        refine z_bipush hC (pc := 70) (v := Int32.ofInt 16) dX14_tagName_70 (by decide) ?_
        obtain ⟨r34, h⟩ := h
        obtain ⟨hT, hF⟩ := h
        refine y_icmp_le hC (pc := 72) 84 r34 (r_lit rfl) dX14_tagName_72 (by decide) (fun c => ?_) (fun c => ?_)
        · have h := hT c
          refine z_aload_n hC (pc := 84) 1 dX14_tagName_84 rfl rfl ?_
          refine y_get hC (pc := 85) zf14 rOb_0 10 (v := iv (rF s11 0 10)) dX14_tagName_85 zw2478 (rv_i (Or.inl rfl) ((F_sF_ne (by decide)).trans rfl)) (kk := ?_)
          obtain ⟨hT, hF⟩ := h
          refine y_if_eq hC (pc := 88) 93 (Ws11.f _ _) dX14_tagName_88 (by decide) (fun c => ?_) (fun c => ?_)
          · have h := hT c
            refine z_aload_n hC (pc := 93) 1 dX14_tagName_93 rfl rfl ?_
            refine y_get hC (pc := 94) zf14 rOb_0 7 (v := .ref (κ (rR σ 7))) dX14_tagName_94 zw2475 (rv_g rfl ((qs11.1.R rfl).trans rfl) g0) (kk := ?_)
            refine z_aload_n hC (pc := 97) 1 dX14_tagName_97 rfl rfl ?_
            refine y_get hC (pc := 98) zf14 rOb_0 26 (v := .ref (κ 1026)) dX14_tagName_98 zw2493 (rv_c rfl) (kk := ?_)
            refine z_aload_n hC (pc := 101) 1 dX14_tagName_101 rfl rfl ?_
            refine y_get hC (pc := 102) zf14 rOb_0 29 (v := iv (rF s11 0 29)) dX14_tagName_102 zw2496 (rv_i (Or.inl rfl) ((F_sF_ne (by decide)).trans rfl)) (kk := ?_)
            refine z_iload_n hC (pc := 105) 0 dX14_tagName_105 rfl rfl ?_
            refine z_aload_n hC (pc := 106) 1 dX14_tagName_106 rfl rfl ?_
            refine y_get hC (pc := 107) zf14 rOb_0 29 (v := iv (rF s11 0 29)) dX14_tagName_107 zw2496 (rv_i (Or.inl rfl) ((F_sF_ne (by decide)).trans rfl)) (kk := ?_)
            refine y_isub hC (pc := 110) (v := (x15 - (rF s11 0 29))) dX14_tagName_110 rfl ?_
            obtain ⟨p35, h⟩ := h
            refine y_callVi hC (pc := 111) (As := [.ref (κ 1026), iv (rF s11 0 29), iv (x15 - (rF s11 0 29))]) (kX13_name l G κ (sF s11 0 41 x18) (rR σ 7) 1026 4001 (rF s11 0 29) (x15 - (rF s11 0 29)) W19 g0 (rAr_m rfl) (Ws11.f _ _) r34 p35) dmX13_name zf13 (rOb_k g0) dX14_tagName_111 zw3063 rfl rfl (Nat.le_of_ble_eq_true rfl) (Nat.le_of_ble_eq_true rfl) (Nat.le_of_ble_eq_true rfl) (Nat.le_of_ble_eq_true rfl) (Nat.le_of_ble_eq_true rfl) (kk := fun x37 s36 hx37 Ws36 qs36 => ?_)
            have h := h x37 s36 hx37 Ws36 (TPRp.keep qs36.1 rfl rfl rfl) (qs36.1.R rfl) (qs36.1.F rfl) (qs36.1.F rfl) (qs36.1.F rfl) (qs36.1.F rfl) qs36.2
            refine z_istore_n hC (pc := 114) (lv' := [(2, iv x37), (1, iv x15), (0, .ref (κ 0))]) dX14_tagName_114 rfl (by decide) rfl ?_
            refine z_aload_n hC (pc := 115) 2 dX14_tagName_115 rfl rfl ?_
            refine z_iload_n hC (pc := 116) 1 dX14_tagName_116 rfl rfl ?_
            refine y_putI hC (pc := 117) zf14 rOb_0 29 (x := x15) dX14_tagName_117 zw2496 (Or.inl rfl) rfl rfl (kk := ?_)
            have W38 := Ws36.sF (q := 0) (f := 29) (x := x15) hx15
            refine z_iload_n hC (pc := 120) 0 dX14_tagName_120 rfl rfl ?_
            exact y_reti hR dX14_tagName_121 rfl hx37 W38 (Nat.le_of_ble_eq_true rfl) (Nat.le_of_ble_eq_true rfl) ⟨(rKeep.tr (rKeep.tr (rKeep.tr (rKeep.tr rKeep.rf qs11.1 rfl rfl rfl rfl rfl) (rKeep.sF0 (f := 41)) rfl rfl rfl rfl rfl) qs36.1 rfl rfl rfl rfl rfl) (rKeep.sF0 (f := 29)) rfl rfl rfl rfl rfl), h⟩
          · have h := hF c
            refine z_iconst hC (pc := 91) (v := Int32.ofInt 0) dX14_tagName_91 (by decide) ?_
            exact y_reti hR dX14_tagName_92 rfl (r_lit rfl) W19 (Nat.le_of_ble_eq_true rfl) (Nat.le_of_ble_eq_true rfl) ⟨(rKeep.tr (rKeep.tr rKeep.rf qs11.1 rfl rfl rfl rfl rfl) (rKeep.sF0 (f := 41)) rfl rfl rfl rfl rfl), h⟩
        · have h := hF c
          refine z_aload_n hC (pc := 75) 1 dX14_tagName_75 rfl rfl ?_
          refine z_iconst hC (pc := 76) (v := Int32.ofInt 2) dX14_tagName_76 (by decide) ?_
          refine z_aload_n hC (pc := 77) 1 dX14_tagName_77 rfl rfl ?_
          obtain ⟨p39, h⟩ := h
          refine y_callVi hC (pc := 78) (As := []) (kX14_place l G κ (sF s11 0 41 x18)  W19  p39) dmX14_place zf14 rOb_0 dX14_tagName_78 zw3103 rfl rfl (Nat.le_of_ble_eq_true rfl) (Nat.le_of_ble_eq_true rfl) (Nat.le_of_ble_eq_true rfl) (Nat.le_of_ble_eq_true rfl) (Nat.le_of_ble_eq_true rfl) (kk := fun x41 s40 hx41 Ws40 qs40 => ?_)
          obtain ⟨es40, qs40⟩ := qs40
          have es40 := es40.symm
          subst es40
          have h := h x41 hx41 qs40
          obtain ⟨p42, h⟩ := h
          refine y_callVv hC (pc := 81) (As := [iv 2, iv x41]) (kX14_bad l G κ (sF s11 0 41 x18) 2 x41 W19 (r_lit rfl) hx41 p42) dmX14_bad zf14 rOb_0 dX14_tagName_81 zw3000 rfl rfl (Nat.le_of_ble_eq_true rfl) (Nat.le_of_ble_eq_true rfl) (Nat.le_of_ble_eq_true rfl) (Nat.le_of_ble_eq_true rfl) (Nat.le_of_ble_eq_true rfl) (kk := fun s43 Ws43 qs43 => ?_)
          have h := h s43 Ws43 (rNMp.keep qs43.1 rfl rfl rfl rfl rfl) (TPRp.keep qs43.1 rfl rfl rfl) (qs43.1.R rfl) (qs43.1.F rfl) (qs43.1.F rfl) (qs43.1.F rfl) (qs43.1.FG g0 rfl) (qs43.1.FG g0 rfl) (fun i => qs43.1.AG (f := 10) g0 (by decide) rfl) (fun i => qs43.1.AG (f := 11) g0 (by decide) rfl) qs43.2
          refine z_aload_n hC (pc := 84) 1 dX14_tagName_84 rfl rfl ?_
          refine y_get hC (pc := 85) zf14 rOb_0 10 (v := iv (rF s43 0 10)) dX14_tagName_85 zw2478 (rv_i (Or.inl rfl) rfl) (kk := ?_)
          have h := h (Ws43.f _ _)
          obtain ⟨hT, hF⟩ := h
          refine y_if_eq hC (pc := 88) 93 (Ws43.f _ _) dX14_tagName_88 (by decide) (fun c => ?_) (fun c => ?_)
          · have h := hT c
            refine z_aload_n hC (pc := 93) 1 dX14_tagName_93 rfl rfl ?_
            refine y_get hC (pc := 94) zf14 rOb_0 7 (v := .ref (κ (rR σ 7))) dX14_tagName_94 zw2475 (rv_g rfl ((qs43.1.R rfl).trans ((qs11.1.R rfl).trans rfl)) g0) (kk := ?_)
            refine z_aload_n hC (pc := 97) 1 dX14_tagName_97 rfl rfl ?_
            refine y_get hC (pc := 98) zf14 rOb_0 26 (v := .ref (κ 1026)) dX14_tagName_98 zw2493 (rv_c rfl) (kk := ?_)
            refine z_aload_n hC (pc := 101) 1 dX14_tagName_101 rfl rfl ?_
            refine y_get hC (pc := 102) zf14 rOb_0 29 (v := iv (rF s11 0 29)) dX14_tagName_102 zw2496 (rv_i (Or.inl rfl) ((qs43.1.F rfl).trans ((F_sF_ne (by decide)).trans rfl))) (kk := ?_)
            refine z_iload_n hC (pc := 105) 0 dX14_tagName_105 rfl rfl ?_
            refine z_aload_n hC (pc := 106) 1 dX14_tagName_106 rfl rfl ?_
            refine y_get hC (pc := 107) zf14 rOb_0 29 (v := iv (rF s11 0 29)) dX14_tagName_107 zw2496 (rv_i (Or.inl rfl) ((qs43.1.F rfl).trans ((F_sF_ne (by decide)).trans rfl))) (kk := ?_)
            refine y_isub hC (pc := 110) (v := (x15 - (rF s11 0 29))) dX14_tagName_110 rfl ?_
            obtain ⟨p45, h⟩ := h
            refine y_callVi hC (pc := 111) (As := [.ref (κ 1026), iv (rF s11 0 29), iv (x15 - (rF s11 0 29))]) (kX13_name l G κ s43 (rR σ 7) 1026 4001 (rF s11 0 29) (x15 - (rF s11 0 29)) Ws43 g0 (rAr_m rfl) (Ws11.f _ _) r34 p45) dmX13_name zf13 (rOb_k g0) dX14_tagName_111 zw3063 rfl rfl (Nat.le_of_ble_eq_true rfl) (Nat.le_of_ble_eq_true rfl) (Nat.le_of_ble_eq_true rfl) (Nat.le_of_ble_eq_true rfl) (Nat.le_of_ble_eq_true rfl) (kk := fun x47 s46 hx47 Ws46 qs46 => ?_)
            have h := h x47 s46 hx47 Ws46 (TPRp.keep qs46.1 rfl rfl rfl) (qs46.1.R rfl) (qs46.1.F rfl) (qs46.1.F rfl) (qs46.1.F rfl) (qs46.1.F rfl) qs46.2
            refine z_istore_n hC (pc := 114) (lv' := [(2, iv x47), (1, iv x15), (0, .ref (κ 0))]) dX14_tagName_114 rfl (by decide) rfl ?_
            refine z_aload_n hC (pc := 115) 2 dX14_tagName_115 rfl rfl ?_
            refine z_iload_n hC (pc := 116) 1 dX14_tagName_116 rfl rfl ?_
            refine y_putI hC (pc := 117) zf14 rOb_0 29 (x := x15) dX14_tagName_117 zw2496 (Or.inl rfl) rfl rfl (kk := ?_)
            have W48 := Ws46.sF (q := 0) (f := 29) (x := x15) hx15
            refine z_iload_n hC (pc := 120) 0 dX14_tagName_120 rfl rfl ?_
            exact y_reti hR dX14_tagName_121 rfl hx47 W48 (Nat.le_of_ble_eq_true rfl) (Nat.le_of_ble_eq_true rfl) ⟨(rKeep.tr (rKeep.tr (rKeep.tr (rKeep.tr (rKeep.tr rKeep.rf qs11.1 rfl rfl rfl rfl rfl) (rKeep.sF0 (f := 41)) rfl rfl rfl rfl rfl) qs43.1 rfl rfl rfl rfl rfl) qs46.1 rfl rfl rfl rfl rfl) (rKeep.sF0 (f := 29)) rfl rfl rfl rfl rfl), h⟩
          · have h := hF c
            refine z_iconst hC (pc := 91) (v := Int32.ofInt 0) dX14_tagName_91 (by decide) ?_
            exact y_reti hR dX14_tagName_92 rfl (r_lit rfl) Ws43 (Nat.le_of_ble_eq_true rfl) (Nat.le_of_ble_eq_true rfl) ⟨(rKeep.tr (rKeep.tr (rKeep.tr rKeep.rf qs11.1 rfl rfl rfl rfl rfl) (rKeep.sF0 (f := 41)) rfl rfl rfl rfl rfl) qs43.1 rfl rfl rfl rfl rfl), h⟩
      · have h := hF c
        refine z_aload_n hC (pc := 52) 1 dX14_tagName_52 rfl rfl ?_
        refine z_iconst hC (pc := 53) (v := Int32.ofInt 1) dX14_tagName_53 (by decide) ?_
        refine z_aload_n hC (pc := 54) 1 dX14_tagName_54 rfl rfl ?_
        obtain ⟨p49, h⟩ := h
        refine y_callVi hC (pc := 55) (As := []) (kX14_place l G κ (sF s11 0 41 x18)  W19  p49) dmX14_place zf14 rOb_0 dX14_tagName_55 zw3103 rfl rfl (Nat.le_of_ble_eq_true rfl) (Nat.le_of_ble_eq_true rfl) (Nat.le_of_ble_eq_true rfl) (Nat.le_of_ble_eq_true rfl) (Nat.le_of_ble_eq_true rfl) (kk := fun x51 s50 hx51 Ws50 qs50 => ?_)
        obtain ⟨es50, qs50⟩ := qs50
        have es50 := es50.symm
        subst es50
        have h := h x51 hx51 qs50
        obtain ⟨p52, h⟩ := h
        refine y_callVv hC (pc := 58) (As := [iv 1, iv x51]) (kX14_bad l G κ (sF s11 0 41 x18) 1 x51 W19 (r_lit rfl) hx51 p52) dmX14_bad zf14 rOb_0 dX14_tagName_58 zw3000 rfl rfl (Nat.le_of_ble_eq_true rfl) (Nat.le_of_ble_eq_true rfl) (Nat.le_of_ble_eq_true rfl) (Nat.le_of_ble_eq_true rfl) (Nat.le_of_ble_eq_true rfl) (kk := fun s53 Ws53 qs53 => ?_)
        have h := h s53 Ws53 (rNMp.keep qs53.1 rfl rfl rfl rfl rfl) (TPRp.keep qs53.1 rfl rfl rfl) (qs53.1.R rfl) (qs53.1.F rfl) (qs53.1.F rfl) (qs53.1.F rfl) (qs53.1.FG g0 rfl) (qs53.1.FG g0 rfl) (fun i => qs53.1.AG (f := 10) g0 (by decide) rfl) (fun i => qs53.1.AG (f := 11) g0 (by decide) rfl) qs53.2
        refine z_goto hC (pc := 61) 84 dX14_tagName_61 (by decide) ?_
        refine z_aload_n hC (pc := 84) 1 dX14_tagName_84 rfl rfl ?_
        refine y_get hC (pc := 85) zf14 rOb_0 10 (v := iv (rF s53 0 10)) dX14_tagName_85 zw2478 (rv_i (Or.inl rfl) rfl) (kk := ?_)
        have h := h (Ws53.f _ _)
        obtain ⟨hT, hF⟩ := h
        refine y_if_eq hC (pc := 88) 93 (Ws53.f _ _) dX14_tagName_88 (by decide) (fun c => ?_) (fun c => ?_)
        · have h := hT c
          refine z_aload_n hC (pc := 93) 1 dX14_tagName_93 rfl rfl ?_
          refine y_get hC (pc := 94) zf14 rOb_0 7 (v := .ref (κ (rR σ 7))) dX14_tagName_94 zw2475 (rv_g rfl ((qs53.1.R rfl).trans ((qs11.1.R rfl).trans rfl)) g0) (kk := ?_)
          refine z_aload_n hC (pc := 97) 1 dX14_tagName_97 rfl rfl ?_
          refine y_get hC (pc := 98) zf14 rOb_0 26 (v := .ref (κ 1026)) dX14_tagName_98 zw2493 (rv_c rfl) (kk := ?_)
          refine z_aload_n hC (pc := 101) 1 dX14_tagName_101 rfl rfl ?_
          refine y_get hC (pc := 102) zf14 rOb_0 29 (v := iv (rF s11 0 29)) dX14_tagName_102 zw2496 (rv_i (Or.inl rfl) ((qs53.1.F rfl).trans ((F_sF_ne (by decide)).trans rfl))) (kk := ?_)
          refine z_iload_n hC (pc := 105) 0 dX14_tagName_105 rfl rfl ?_
          refine z_aload_n hC (pc := 106) 1 dX14_tagName_106 rfl rfl ?_
          refine y_get hC (pc := 107) zf14 rOb_0 29 (v := iv (rF s11 0 29)) dX14_tagName_107 zw2496 (rv_i (Or.inl rfl) ((qs53.1.F rfl).trans ((F_sF_ne (by decide)).trans rfl))) (kk := ?_)
          refine y_isub hC (pc := 110) (v := (x15 - (rF s11 0 29))) dX14_tagName_110 rfl ?_
          obtain ⟨r55, h⟩ := h
          obtain ⟨p56, h⟩ := h
          refine y_callVi hC (pc := 111) (As := [.ref (κ 1026), iv (rF s11 0 29), iv (x15 - (rF s11 0 29))]) (kX13_name l G κ s53 (rR σ 7) 1026 4001 (rF s11 0 29) (x15 - (rF s11 0 29)) Ws53 g0 (rAr_m rfl) (Ws11.f _ _) r55 p56) dmX13_name zf13 (rOb_k g0) dX14_tagName_111 zw3063 rfl rfl (Nat.le_of_ble_eq_true rfl) (Nat.le_of_ble_eq_true rfl) (Nat.le_of_ble_eq_true rfl) (Nat.le_of_ble_eq_true rfl) (Nat.le_of_ble_eq_true rfl) (kk := fun x58 s57 hx58 Ws57 qs57 => ?_)
          have h := h x58 s57 hx58 Ws57 (TPRp.keep qs57.1 rfl rfl rfl) (qs57.1.R rfl) (qs57.1.F rfl) (qs57.1.F rfl) (qs57.1.F rfl) (qs57.1.F rfl) qs57.2
          refine z_istore_n hC (pc := 114) (lv' := [(2, iv x58), (1, iv x15), (0, .ref (κ 0))]) dX14_tagName_114 rfl (by decide) rfl ?_
          refine z_aload_n hC (pc := 115) 2 dX14_tagName_115 rfl rfl ?_
          refine z_iload_n hC (pc := 116) 1 dX14_tagName_116 rfl rfl ?_
          refine y_putI hC (pc := 117) zf14 rOb_0 29 (x := x15) dX14_tagName_117 zw2496 (Or.inl rfl) rfl rfl (kk := ?_)
          have W59 := Ws57.sF (q := 0) (f := 29) (x := x15) hx15
          refine z_iload_n hC (pc := 120) 0 dX14_tagName_120 rfl rfl ?_
          exact y_reti hR dX14_tagName_121 rfl hx58 W59 (Nat.le_of_ble_eq_true rfl) (Nat.le_of_ble_eq_true rfl) ⟨(rKeep.tr (rKeep.tr (rKeep.tr (rKeep.tr (rKeep.tr rKeep.rf qs11.1 rfl rfl rfl rfl rfl) (rKeep.sF0 (f := 41)) rfl rfl rfl rfl rfl) qs53.1 rfl rfl rfl rfl rfl) qs57.1 rfl rfl rfl rfl rfl) (rKeep.sF0 (f := 29)) rfl rfl rfl rfl rfl), h⟩
        · have h := hF c
          refine z_iconst hC (pc := 91) (v := Int32.ofInt 0) dX14_tagName_91 (by decide) ?_
          exact y_reti hR dX14_tagName_92 rfl (r_lit rfl) Ws53 (Nat.le_of_ble_eq_true rfl) (Nat.le_of_ble_eq_true rfl) ⟨(rKeep.tr (rKeep.tr (rKeep.tr rKeep.rf qs11.1 rfl rfl rfl rfl rfl) (rKeep.sF0 (f := 41)) rfl rfl rfl rfl rfl) qs53.1 rfl rfl rfl rfl rfl), h⟩
  · have h := hF c
    refine z_iconst hC (pc := 11) (v := Int32.ofInt 0) dX14_tagName_11 (by decide) ?_
    exact y_reti hR dX14_tagName_12 rfl (r_lit rfl) Ws11 (Nat.le_of_ble_eq_true rfl) (Nat.le_of_ble_eq_true rfl) ⟨(rKeep.tr rKeep.rf qs11.1 rfl rfl rfl rfl rfl), h⟩
theorem kX14_tagName (l : Launch) (G : zG) (κ : Nat → Nat) (σ : rS) (hwf : rWF σ) (hp : pre_X14_tagName σ ) : rMi l G κ yX14_tagName cX14_tagName 3 .int 8 207 [.ref (κ 0)] σ (fun x s => rKeep 0x20020001c00 0x1200 0 0xd00 0 σ s ∧ post_X14_tagName σ x s) := wX14_tagName l G κ σ hwf (post_X14_tagName σ ) (vX14_tagName σ hwf hp) 
