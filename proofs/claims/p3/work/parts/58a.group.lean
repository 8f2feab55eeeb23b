theorem zw3206 : Cond.methodLink "TemplateHouseModel" 717 ⟨"TemplateHouseModel", "readPrimary", "()I"⟩ ∈ zT := zsub14 86 (by decide +kernel) (by decide +kernel)
theorem zw3166 : Cond.methodLink "TemplateHouseModel" 658 ⟨"TemplateHouseModel", "tagName", "()I"⟩ ∈ zT := zsub14 46 (by decide +kernel) (by decide +kernel)
theorem zw3234 : Cond.methodLink "TemplateHouseModel" 711 ⟨"TemplateHouseModel", "readArg", "()I"⟩ ∈ zT := zsub14 114 (by decide +kernel) (by decide +kernel)
theorem zw3202 : Cond.methodLink "TemplateHouseModel" 692 ⟨"TemplateHouseModel", "readMember", "()I"⟩ ∈ zT := zsub14 82 (by decide +kernel) (by decide +kernel)
theorem zw3242 : Cond.methodLink "TemplateHouseModel" 695 ⟨"TemplateHouseModel", "readApplied", "()I"⟩ ∈ zT := zsub14 122 (by decide +kernel) (by decide +kernel)
theorem zw3238 : Cond.methodLink "TemplateHouseModel" 714 ⟨"TemplateHouseModel", "lowest", "()I"⟩ ∈ zT := zsub14 118 (by decide +kernel) (by decide +kernel)
theorem zw3250 : Cond.methodLink "TemplateHouseModel" 733 ⟨"TemplateHouseModel", "isDots", "()Z"⟩ ∈ zT := zsub14 130 (by decide +kernel) (by decide +kernel)
theorem zw3258 : Cond.methodLink "TemplateHouseModel" 739 ⟨"TemplateHouseModel", "isNamed", "()Z"⟩ ∈ zT := zsub14 138 (by decide +kernel) (by decide +kernel)
theorem zw3254 : Cond.methodLink "TemplateHouseModel" 736 ⟨"TemplateHouseModel", "dots", "(I)V"⟩ ∈ zT := zsub14 134 (by decide +kernel) (by decide +kernel)
theorem zw3262 : Cond.methodLink "TemplateHouseModel" 742 ⟨"TemplateHouseModel", "readNamed", "(I)I"⟩ ∈ zT := zsub14 142 (by decide +kernel) (by decide +kernel)
theorem zw3075 : Cond.methodLink "TemplateHouseModel" 479 ⟨"TemplateHouseModel", "check", "(IIII)V"⟩ ∈ zT := zsub13 195 (by decide +kernel) (by decide +kernel)
theorem zw3246 : Cond.methodLink "TemplateHouseModel" 726 ⟨"TemplateHouseModel", "readArgs", "(I)V"⟩ ∈ zT := zsub14 126 (by decide +kernel) (by decide +kernel)
theorem zw3266 : Cond.methodLink "TemplateHouseModel" 729 ⟨"TemplateHouseModel", "readCall", "(IZ)I"⟩ ∈ zT := zsub14 146 (by decide +kernel) (by decide +kernel)
theorem zw3222 : Cond.methodLink "TemplateHouseModel" 563 ⟨"TemplateHouseModel", "readSub", "()I"⟩ ∈ zT := zsub14 102 (by decide +kernel) (by decide +kernel)
theorem zw3210 : Cond.methodLink "TemplateHouseModel" 720 ⟨"TemplateHouseModel", "readString", "(I)I"⟩ ∈ zT := zsub14 90 (by decide +kernel) (by decide +kernel)
theorem zw3230 : Cond.methodLink "TemplateHouseModel" 723 ⟨"TemplateHouseModel", "readRow", "()I"⟩ ∈ zT := zsub14 110 (by decide +kernel) (by decide +kernel)
theorem zw3178 : Cond.methodLink "TemplateHouseModel" 677 ⟨"TemplateHouseModel", "deeper", "(I)V"⟩ ∈ zT := zsub14 58 (by decide +kernel) (by decide +kernel)
theorem zw3190 : Cond.methodLink "TemplateHouseModel" 653 ⟨"TemplateHouseModel", "readCond", "()I"⟩ ∈ zT := zsub14 70 (by decide +kernel) (by decide +kernel)
theorem zw3198 : Cond.methodLink "TemplateHouseModel" 754 ⟨"TemplateHouseModel", "readNot", "()I"⟩ ∈ zT := zsub14 78 (by decide +kernel) (by decide +kernel)
theorem zw3270 : Cond.methodLink "TemplateHouseModel" 751 ⟨"TemplateHouseModel", "isTwice", "(I)Z"⟩ ∈ zT := zsub14 150 (by decide +kernel) (by decide +kernel)
theorem zw3194 : Cond.methodLink "TemplateHouseModel" 748 ⟨"TemplateHouseModel", "readBoth", "()I"⟩ ∈ zT := zsub14 74 (by decide +kernel) (by decide +kernel)
theorem zw3278 : Cond.methodLink "TemplateHouseModel" 698 ⟨"TemplateHouseModel", "readOptions", "(I)V"⟩ ∈ zT := zsub14 158 (by decide +kernel) (by decide +kernel)
theorem zw3226 : Cond.methodLink "TemplateHouseModel" 745 ⟨"TemplateHouseModel", "bar", "()I"⟩ ∈ zT := zsub14 106 (by decide +kernel) (by decide +kernel)
theorem zw3095 : Cond.methodLink "TemplateHouseModel" 560 ⟨"TemplateHouseModel", "readText", "(Z)I"⟩ ∈ zT := zsub13 215 (by decide +kernel) (by decide +kernel)
theorem zw3132 : Cond.methodLink "TemplateHouseModel" 647 ⟨"TemplateHouseModel", "isOpen", "(II)Z"⟩ ∈ zT := zsub14 12 (by decide +kernel) (by decide +kernel)
theorem zw3186 : Cond.methodLink "TemplateHouseModel" 644 ⟨"TemplateHouseModel", "condition", "()I"⟩ ∈ zT := zsub14 66 (by decide +kernel) (by decide +kernel)
theorem zw3274 : Cond.methodLink "TemplateHouseModel" 641 ⟨"TemplateHouseModel", "readExpr", "(I)V"⟩ ∈ zT := zsub14 154 (by decide +kernel) (by decide +kernel)
theorem zw3182 : Cond.methodLink "TemplateHouseModel" 638 ⟨"TemplateHouseModel", "readSteering", "(II)V"⟩ ∈ zT := zsub14 62 (by decide +kernel) (by decide +kernel)
theorem zw3123 : Cond.methodLink "TemplateHouseModel" 635 ⟨"TemplateHouseModel", "readAt", "(II)V"⟩ ∈ zT := zsub14 3 (by decide +kernel) (by decide +kernel)
theorem zw3115 : Cond.methodLink "TemplateHouseModel" 632 ⟨"TemplateHouseModel", "readBytes", "(I)V"⟩ ∈ zT := zsub13 235 (by decide +kernel) (by decide +kernel)
theorem zw2499 : Cond.fieldLink "TemplateHouseModel" 42 "TemplateHouseModel" "inTemplate" "I" ∈ zT := zsub11 99 (by decide +kernel) (by decide +kernel)
theorem zw3174 : Cond.methodLink "TemplateHouseModel" 661 ⟨"TemplateHouseModel$Group", "partOf", "(II)I"⟩ ∈ zT := zsub14 54 (by decide +kernel) (by decide +kernel)
theorem zw2366 : Cond.fieldLinkNest "TemplateHouseModel" 665 "TemplateHouseModel$Group" "partDef" "[I" "TemplateHouseModel" ∈ zNest := zsubN10 206 (by decide +kernel) (by decide +kernel)
theorem zw2372 : Cond.fieldLinkNest "TemplateHouseModel" 668 "TemplateHouseModel$Group" "parts" "I" "TemplateHouseModel" ∈ zNest := zsubN10 212 (by decide +kernel) (by decide +kernel)
theorem zw2368 : Cond.fieldLinkNest "TemplateHouseModel" 671 "TemplateHouseModel$Group" "partName" "[I" "TemplateHouseModel" ∈ zNest := zsubN10 208 (by decide +kernel) (by decide +kernel)
theorem zw2370 : Cond.fieldLinkNest "TemplateHouseModel" 674 "TemplateHouseModel$Group" "partNode" "[I" "TemplateHouseModel" ∈ zNest := zsubN10 210 (by decide +kernel) (by decide +kernel)
theorem zw2500 : Cond.fieldLink "TemplateHouseModel" 46 "TemplateHouseModel" "inRegion" "I" ∈ zT := zsub11 100 (by decide +kernel) (by decide +kernel)
theorem zw2342 : Cond.fieldLinkNest "TemplateHouseModel" 473 "TemplateHouseModel$Group" "defOther" "[I" "TemplateHouseModel" ∈ zNest := zsubN10 182 (by decide +kernel) (by decide +kernel)
theorem zw3287 : Cond.methodLink "TemplateHouseModel" 623 ⟨"TemplateHouseModel", "lines", "(I)V"⟩ ∈ zT := zsub14 167 (by decide +kernel) (by decide +kernel)
theorem zw2485 : Cond.fieldLink "TemplateHouseModel" 391 "TemplateHouseModel" "open" "I" ∈ zT := zsub11 85 (by decide +kernel) (by decide +kernel)
theorem zw3107 : Cond.methodLink "TemplateHouseModel" 616 ⟨"TemplateHouseModel", "readTag", "(I)V"⟩ ∈ zT := zsub13 227 (by decide +kernel) (by decide +kernel)
theorem zw3205 : Cond.code ⟨"TemplateHouseModel", "readMember", "()I"⟩ prog_15_method_64_code 5 (Option.some Jvm.ClassFile.FieldType.int) ∈ zT := zsub14 85 rfl rfl
theorem zw3204 : Cond.instanceMethod ⟨"TemplateHouseModel", "readMember", "()I"⟩ ∈ zT := zsub14 84 (by decide +kernel) (by decide +kernel)
theorem zwp262 : Cond.selects "TemplateHouseModel" ⟨"TemplateHouseModel", "readMember", "()I"⟩ ⟨"TemplateHouseModel", "readMember", "()I"⟩ ∈ zT := zin 262 (by decide +kernel) (by decide +kernel)
theorem zw3209 : Cond.code ⟨"TemplateHouseModel", "readPrimary", "()I"⟩ prog_15_method_65_code 5 (Option.some Jvm.ClassFile.FieldType.int) ∈ zT := zsub14 89 rfl rfl
theorem zw3208 : Cond.instanceMethod ⟨"TemplateHouseModel", "readPrimary", "()I"⟩ ∈ zT := zsub14 88 (by decide +kernel) (by decide +kernel)
theorem zwp267 : Cond.selects "TemplateHouseModel" ⟨"TemplateHouseModel", "readPrimary", "()I"⟩ ⟨"TemplateHouseModel", "readPrimary", "()I"⟩ ∈ zT := zin 267 (by decide +kernel) (by decide +kernel)
theorem zw3237 : Cond.code ⟨"TemplateHouseModel", "readArg", "()I"⟩ prog_15_method_63_code 4 (Option.some Jvm.ClassFile.FieldType.int) ∈ zT := zsub14 117 rfl rfl
theorem zw3236 : Cond.instanceMethod ⟨"TemplateHouseModel", "readArg", "()I"⟩ ∈ zT := zsub14 116 (by decide +kernel) (by decide +kernel)
theorem zwp248 : Cond.selects "TemplateHouseModel" ⟨"TemplateHouseModel", "readArg", "()I"⟩ ⟨"TemplateHouseModel", "readArg", "()I"⟩ ∈ zT := zin 248 (by decide +kernel) (by decide +kernel)
theorem zw3245 : Cond.code ⟨"TemplateHouseModel", "readApplied", "()I"⟩ prog_15_method_72_code 4 (Option.some Jvm.ClassFile.FieldType.int) ∈ zT := zsub14 125 rfl rfl
theorem zw3244 : Cond.instanceMethod ⟨"TemplateHouseModel", "readApplied", "()I"⟩ ∈ zT := zsub14 124 (by decide +kernel) (by decide +kernel)
theorem zwp247 : Cond.selects "TemplateHouseModel" ⟨"TemplateHouseModel", "readApplied", "()I"⟩ ⟨"TemplateHouseModel", "readApplied", "()I"⟩ ∈ zT := zin 247 (by decide +kernel) (by decide +kernel)
theorem zw3233 : Cond.code ⟨"TemplateHouseModel", "readRow", "()I"⟩ prog_15_method_74_code 5 (Option.some Jvm.ClassFile.FieldType.int) ∈ zT := zsub14 113 rfl rfl
theorem zw3232 : Cond.instanceMethod ⟨"TemplateHouseModel", "readRow", "()I"⟩ ∈ zT := zsub14 112 (by decide +kernel) (by decide +kernel)
theorem zwp269 : Cond.selects "TemplateHouseModel" ⟨"TemplateHouseModel", "readRow", "()I"⟩ ⟨"TemplateHouseModel", "readRow", "()I"⟩ ∈ zT := zin 269 (by decide +kernel) (by decide +kernel)
theorem zw3249 : Cond.code ⟨"TemplateHouseModel", "readArgs", "(I)V"⟩ prog_15_method_70_code 6 (Option.none : Option Jvm.ClassFile.FieldType) ∈ zT := zsub14 129 rfl rfl
theorem zw3248 : Cond.instanceMethod ⟨"TemplateHouseModel", "readArgs", "(I)V"⟩ ∈ zT := zsub14 128 (by decide +kernel) (by decide +kernel)
theorem zwp249 : Cond.selects "TemplateHouseModel" ⟨"TemplateHouseModel", "readArgs", "(I)V"⟩ ⟨"TemplateHouseModel", "readArgs", "(I)V"⟩ ∈ zT := zin 249 (by decide +kernel) (by decide +kernel)
theorem zw3265 : Cond.code ⟨"TemplateHouseModel", "readNamed", "(I)I"⟩ prog_15_method_71_code 5 (Option.some Jvm.ClassFile.FieldType.int) ∈ zT := zsub14 145 rfl rfl
theorem zw3264 : Cond.instanceMethod ⟨"TemplateHouseModel", "readNamed", "(I)I"⟩ ∈ zT := zsub14 144 (by decide +kernel) (by decide +kernel)
theorem zwp263 : Cond.selects "TemplateHouseModel" ⟨"TemplateHouseModel", "readNamed", "(I)I"⟩ ⟨"TemplateHouseModel", "readNamed", "(I)I"⟩ ∈ zT := zin 263 (by decide +kernel) (by decide +kernel)
theorem zw3269 : Cond.code ⟨"TemplateHouseModel", "readCall", "(IZ)I"⟩ prog_15_method_66_code 7 (Option.some Jvm.ClassFile.FieldType.int) ∈ zT := zsub14 149 rfl rfl
theorem zw3268 : Cond.instanceMethod ⟨"TemplateHouseModel", "readCall", "(IZ)I"⟩ ∈ zT := zsub14 148 (by decide +kernel) (by decide +kernel)
theorem zwp254 : Cond.selects "TemplateHouseModel" ⟨"TemplateHouseModel", "readCall", "(IZ)I"⟩ ⟨"TemplateHouseModel", "readCall", "(IZ)I"⟩ ∈ zT := zin 254 (by decide +kernel) (by decide +kernel)
theorem zw3225 : Cond.code ⟨"TemplateHouseModel", "readSub", "()I"⟩ prog_15_method_76_code 8 (Option.some Jvm.ClassFile.FieldType.int) ∈ zT := zsub14 105 rfl rfl
theorem zw3224 : Cond.instanceMethod ⟨"TemplateHouseModel", "readSub", "()I"⟩ ∈ zT := zsub14 104 (by decide +kernel) (by decide +kernel)
theorem zwp272 : Cond.selects "TemplateHouseModel" ⟨"TemplateHouseModel", "readSub", "()I"⟩ ⟨"TemplateHouseModel", "readSub", "()I"⟩ ∈ zT := zin 272 (by decide +kernel) (by decide +kernel)
theorem zw3201 : Cond.code ⟨"TemplateHouseModel", "readNot", "()I"⟩ prog_15_method_80_code 3 (Option.some Jvm.ClassFile.FieldType.int) ∈ zT := zsub14 81 rfl rfl
theorem zw3200 : Cond.instanceMethod ⟨"TemplateHouseModel", "readNot", "()I"⟩ ∈ zT := zsub14 80 (by decide +kernel) (by decide +kernel)
theorem zwp264 : Cond.selects "TemplateHouseModel" ⟨"TemplateHouseModel", "readNot", "()I"⟩ ⟨"TemplateHouseModel", "readNot", "()I"⟩ ∈ zT := zin 264 (by decide +kernel) (by decide +kernel)
theorem zw3193 : Cond.code ⟨"TemplateHouseModel", "readCond", "()I"⟩ prog_15_method_78_code 5 (Option.some Jvm.ClassFile.FieldType.int) ∈ zT := zsub14 73 rfl rfl
theorem zw3192 : Cond.instanceMethod ⟨"TemplateHouseModel", "readCond", "()I"⟩ ∈ zT := zsub14 72 (by decide +kernel) (by decide +kernel)
theorem zwp255 : Cond.selects "TemplateHouseModel" ⟨"TemplateHouseModel", "readCond", "()I"⟩ ⟨"TemplateHouseModel", "readCond", "()I"⟩ ∈ zT := zin 255 (by decide +kernel) (by decide +kernel)
theorem zw3197 : Cond.code ⟨"TemplateHouseModel", "readBoth", "()I"⟩ prog_15_method_79_code 5 (Option.some Jvm.ClassFile.FieldType.int) ∈ zT := zsub14 77 rfl rfl
theorem zw3196 : Cond.instanceMethod ⟨"TemplateHouseModel", "readBoth", "()I"⟩ ∈ zT := zsub14 76 (by decide +kernel) (by decide +kernel)
theorem zwp252 : Cond.selects "TemplateHouseModel" ⟨"TemplateHouseModel", "readBoth", "()I"⟩ ⟨"TemplateHouseModel", "readBoth", "()I"⟩ ∈ zT := zin 252 (by decide +kernel) (by decide +kernel)
theorem zw3189 : Cond.code ⟨"TemplateHouseModel", "condition", "()I"⟩ prog_15_method_52_code 2 (Option.some Jvm.ClassFile.FieldType.int) ∈ zT := zsub14 69 rfl rfl
theorem zw3188 : Cond.instanceMethod ⟨"TemplateHouseModel", "condition", "()I"⟩ ∈ zT := zsub14 68 (by decide +kernel) (by decide +kernel)
theorem zwp163 : Cond.selects "TemplateHouseModel" ⟨"TemplateHouseModel", "condition", "()I"⟩ ⟨"TemplateHouseModel", "condition", "()I"⟩ ∈ zT := zin 163 (by decide +kernel) (by decide +kernel)
theorem zw3281 : Cond.code ⟨"TemplateHouseModel", "readOptions", "(I)V"⟩ prog_15_method_61_code 6 (Option.none : Option Jvm.ClassFile.FieldType) ∈ zT := zsub14 161 rfl rfl
theorem zw3280 : Cond.instanceMethod ⟨"TemplateHouseModel", "readOptions", "(I)V"⟩ ∈ zT := zsub14 160 (by decide +kernel) (by decide +kernel)
theorem zwp265 : Cond.selects "TemplateHouseModel" ⟨"TemplateHouseModel", "readOptions", "(I)V"⟩ ⟨"TemplateHouseModel", "readOptions", "(I)V"⟩ ∈ zT := zin 265 (by decide +kernel) (by decide +kernel)
theorem zw3277 : Cond.code ⟨"TemplateHouseModel", "readExpr", "(I)V"⟩ prog_15_method_60_code 9 (Option.none : Option Jvm.ClassFile.FieldType) ∈ zT := zsub14 157 rfl rfl
theorem zw3276 : Cond.instanceMethod ⟨"TemplateHouseModel", "readExpr", "(I)V"⟩ ∈ zT := zsub14 156 (by decide +kernel) (by decide +kernel)
theorem zwp258 : Cond.selects "TemplateHouseModel" ⟨"TemplateHouseModel", "readExpr", "(I)V"⟩ ⟨"TemplateHouseModel", "readExpr", "(I)V"⟩ ∈ zT := zin 258 (by decide +kernel) (by decide +kernel)
theorem zw3098 : Cond.code ⟨"TemplateHouseModel", "readText", "(Z)I"⟩ prog_15_method_47_code 6 (Option.some Jvm.ClassFile.FieldType.int) ∈ zT := zsub13 218 rfl rfl
theorem zw3097 : Cond.instanceMethod ⟨"TemplateHouseModel", "readText", "(Z)I"⟩ ∈ zT := zsub13 217 (by decide +kernel) (by decide +kernel)
theorem zwp274 : Cond.selects "TemplateHouseModel" ⟨"TemplateHouseModel", "readText", "(Z)I"⟩ ⟨"TemplateHouseModel", "readText", "(Z)I"⟩ ∈ zT := zin 274 (by decide +kernel) (by decide +kernel)
theorem zw3185 : Cond.code ⟨"TemplateHouseModel", "readSteering", "(II)V"⟩ prog_15_method_51_code 5 (Option.none : Option Jvm.ClassFile.FieldType) ∈ zT := zsub14 65 rfl rfl
theorem zw3184 : Cond.instanceMethod ⟨"TemplateHouseModel", "readSteering", "(II)V"⟩ ∈ zT := zsub14 64 (by decide +kernel) (by decide +kernel)
theorem zwp270 : Cond.selects "TemplateHouseModel" ⟨"TemplateHouseModel", "readSteering", "(II)V"⟩ ⟨"TemplateHouseModel", "readSteering", "(II)V"⟩ ∈ zT := zin 270 (by decide +kernel) (by decide +kernel)
theorem zw3110 : Cond.code ⟨"TemplateHouseModel", "readTag", "(I)V"⟩ prog_15_method_48_code 4 (Option.none : Option Jvm.ClassFile.FieldType) ∈ zT := zsub13 230 rfl rfl
theorem zw3109 : Cond.instanceMethod ⟨"TemplateHouseModel", "readTag", "(I)V"⟩ ∈ zT := zsub13 229 (by decide +kernel) (by decide +kernel)
theorem zwp273 : Cond.selects "TemplateHouseModel" ⟨"TemplateHouseModel", "readTag", "(I)V"⟩ ⟨"TemplateHouseModel", "readTag", "(I)V"⟩ ∈ zT := zin 273 (by decide +kernel) (by decide +kernel)
theorem zw3126 : Cond.code ⟨"TemplateHouseModel", "readAt", "(II)V"⟩ prog_15_method_53_code 6 (Option.none : Option Jvm.ClassFile.FieldType) ∈ zT := zsub14 6 rfl rfl
theorem zw3125 : Cond.instanceMethod ⟨"TemplateHouseModel", "readAt", "(II)V"⟩ ∈ zT := zsub14 5 (by decide +kernel) (by decide +kernel)
theorem zwp250 : Cond.selects "TemplateHouseModel" ⟨"TemplateHouseModel", "readAt", "(II)V"⟩ ⟨"TemplateHouseModel", "readAt", "(II)V"⟩ ∈ zT := zin 250 (by decide +kernel) (by decide +kernel)
abbrev cX14_readMember : ByteArray := prog_15_method_64_code
abbrev yX14_readMember : MethodName := ⟨"TemplateHouseModel", "readMember", "()I"⟩
theorem dmX14_readMember : zDv yX14_readMember cX14_readMember 5 (some .int) 0 := ⟨⟨⟨by decide +kernel, by decide +kernel, by decide +kernel⟩, zw3205, zw14⟩, zw3204, zwp262⟩
abbrev cX14_readPrimary : ByteArray := prog_15_method_65_code
abbrev yX14_readPrimary : MethodName := ⟨"TemplateHouseModel", "readPrimary", "()I"⟩
theorem dmX14_readPrimary : zDv yX14_readPrimary cX14_readPrimary 5 (some .int) 0 := ⟨⟨⟨by decide +kernel, by decide +kernel, by decide +kernel⟩, zw3209, zw14⟩, zw3208, zwp267⟩
abbrev cX14_readArg : ByteArray := prog_15_method_63_code
abbrev yX14_readArg : MethodName := ⟨"TemplateHouseModel", "readArg", "()I"⟩
theorem dmX14_readArg : zDv yX14_readArg cX14_readArg 4 (some .int) 0 := ⟨⟨⟨by decide +kernel, by decide +kernel, by decide +kernel⟩, zw3237, zw14⟩, zw3236, zwp248⟩
abbrev cX14_readApplied : ByteArray := prog_15_method_72_code
abbrev yX14_readApplied : MethodName := ⟨"TemplateHouseModel", "readApplied", "()I"⟩
theorem dmX14_readApplied : zDv yX14_readApplied cX14_readApplied 4 (some .int) 0 := ⟨⟨⟨by decide +kernel, by decide +kernel, by decide +kernel⟩, zw3245, zw14⟩, zw3244, zwp247⟩
abbrev cX14_readRow : ByteArray := prog_15_method_74_code
abbrev yX14_readRow : MethodName := ⟨"TemplateHouseModel", "readRow", "()I"⟩
theorem dmX14_readRow : zDv yX14_readRow cX14_readRow 5 (some .int) 0 := ⟨⟨⟨by decide +kernel, by decide +kernel, by decide +kernel⟩, zw3233, zw14⟩, zw3232, zwp269⟩
abbrev cX14_readArgs : ByteArray := prog_15_method_70_code
abbrev yX14_readArgs : MethodName := ⟨"TemplateHouseModel", "readArgs", "(I)V"⟩
theorem dmX14_readArgs : zDv yX14_readArgs cX14_readArgs 6 none 1 := ⟨⟨⟨by decide +kernel, by decide +kernel, by decide +kernel⟩, zw3249, zw14⟩, zw3248, zwp249⟩
abbrev cX14_readNamed : ByteArray := prog_15_method_71_code
abbrev yX14_readNamed : MethodName := ⟨"TemplateHouseModel", "readNamed", "(I)I"⟩
theorem dmX14_readNamed : zDv yX14_readNamed cX14_readNamed 5 (some .int) 1 := ⟨⟨⟨by decide +kernel, by decide +kernel, by decide +kernel⟩, zw3265, zw14⟩, zw3264, zwp263⟩
abbrev cX14_readCall : ByteArray := prog_15_method_66_code
abbrev yX14_readCall : MethodName := ⟨"TemplateHouseModel", "readCall", "(IZ)I"⟩
theorem dmX14_readCall : zDv yX14_readCall cX14_readCall 7 (some .int) 2 := ⟨⟨⟨by decide +kernel, by decide +kernel, by decide +kernel⟩, zw3269, zw14⟩, zw3268, zwp254⟩
abbrev cX14_readSub : ByteArray := prog_15_method_76_code
abbrev yX14_readSub : MethodName := ⟨"TemplateHouseModel", "readSub", "()I"⟩
theorem dmX14_readSub : zDv yX14_readSub cX14_readSub 8 (some .int) 0 := ⟨⟨⟨by decide +kernel, by decide +kernel, by decide +kernel⟩, zw3225, zw14⟩, zw3224, zwp272⟩
abbrev cX14_readNot : ByteArray := prog_15_method_80_code
abbrev yX14_readNot : MethodName := ⟨"TemplateHouseModel", "readNot", "()I"⟩
theorem dmX14_readNot : zDv yX14_readNot cX14_readNot 3 (some .int) 0 := ⟨⟨⟨by decide +kernel, by decide +kernel, by decide +kernel⟩, zw3201, zw14⟩, zw3200, zwp264⟩
abbrev cX14_readCond : ByteArray := prog_15_method_78_code
abbrev yX14_readCond : MethodName := ⟨"TemplateHouseModel", "readCond", "()I"⟩
theorem dmX14_readCond : zDv yX14_readCond cX14_readCond 5 (some .int) 0 := ⟨⟨⟨by decide +kernel, by decide +kernel, by decide +kernel⟩, zw3193, zw14⟩, zw3192, zwp255⟩
abbrev cX14_readBoth : ByteArray := prog_15_method_79_code
abbrev yX14_readBoth : MethodName := ⟨"TemplateHouseModel", "readBoth", "()I"⟩
theorem dmX14_readBoth : zDv yX14_readBoth cX14_readBoth 5 (some .int) 0 := ⟨⟨⟨by decide +kernel, by decide +kernel, by decide +kernel⟩, zw3197, zw14⟩, zw3196, zwp252⟩
abbrev cX14_condition : ByteArray := prog_15_method_52_code
abbrev yX14_condition : MethodName := ⟨"TemplateHouseModel", "condition", "()I"⟩
theorem dmX14_condition : zDv yX14_condition cX14_condition 2 (some .int) 0 := ⟨⟨⟨by decide +kernel, by decide +kernel, by decide +kernel⟩, zw3189, zw14⟩, zw3188, zwp163⟩
abbrev cX14_readOptions : ByteArray := prog_15_method_61_code
abbrev yX14_readOptions : MethodName := ⟨"TemplateHouseModel", "readOptions", "(I)V"⟩
theorem dmX14_readOptions : zDv yX14_readOptions cX14_readOptions 6 none 1 := ⟨⟨⟨by decide +kernel, by decide +kernel, by decide +kernel⟩, zw3281, zw14⟩, zw3280, zwp265⟩
abbrev cX14_readExpr : ByteArray := prog_15_method_60_code
abbrev yX14_readExpr : MethodName := ⟨"TemplateHouseModel", "readExpr", "(I)V"⟩
theorem dmX14_readExpr : zDv yX14_readExpr cX14_readExpr 9 none 1 := ⟨⟨⟨by decide +kernel, by decide +kernel, by decide +kernel⟩, zw3277, zw14⟩, zw3276, zwp258⟩
abbrev cX14_readText : ByteArray := prog_15_method_47_code
abbrev yX14_readText : MethodName := ⟨"TemplateHouseModel", "readText", "(Z)I"⟩
theorem dmX14_readText : zDv yX14_readText cX14_readText 6 (some .int) 1 := ⟨⟨⟨by decide +kernel, by decide +kernel, by decide +kernel⟩, zw3098, zw14⟩, zw3097, zwp274⟩
abbrev cX14_readSteering : ByteArray := prog_15_method_51_code
abbrev yX14_readSteering : MethodName := ⟨"TemplateHouseModel", "readSteering", "(II)V"⟩
theorem dmX14_readSteering : zDv yX14_readSteering cX14_readSteering 5 none 2 := ⟨⟨⟨by decide +kernel, by decide +kernel, by decide +kernel⟩, zw3185, zw14⟩, zw3184, zwp270⟩
abbrev cX14_readTag : ByteArray := prog_15_method_48_code
abbrev yX14_readTag : MethodName := ⟨"TemplateHouseModel", "readTag", "(I)V"⟩
theorem dmX14_readTag : zDv yX14_readTag cX14_readTag 4 none 1 := ⟨⟨⟨by decide +kernel, by decide +kernel, by decide +kernel⟩, zw3110, zw14⟩, zw3109, zwp273⟩
abbrev cX14_readAt : ByteArray := prog_15_method_53_code
abbrev yX14_readAt : MethodName := ⟨"TemplateHouseModel", "readAt", "(II)V"⟩
theorem dmX14_readAt : zDv yX14_readAt cX14_readAt 6 none 2 := ⟨⟨⟨by decide +kernel, by decide +kernel, by decide +kernel⟩, zw3126, zw14⟩, zw3125, zwp250⟩
theorem dX14_readMember_0 : decode cX14_readMember 0 = .ok (.aload_n 0, 1) := by decide +kernel
theorem dX14_readMember_1 : decode cX14_readMember 1 = .ok (.invokevirtual 566, 3) := by decide +kernel
theorem dX14_readMember_4 : decode cX14_readMember 4 = .ok (.aload_n 0, 1) := by decide +kernel
theorem dX14_readMember_5 : decode cX14_readMember 5 = .ok (.getfield 248, 3) := by decide +kernel
theorem dX14_readMember_8 : decode cX14_readMember 8 = .ok (.ifCond .eq 5, 3) := by decide +kernel
theorem dX14_readMember_13 : decode cX14_readMember 13 = .ok (.aload_n 0, 1) := by decide +kernel
theorem dX14_readMember_14 : decode cX14_readMember 14 = .ok (.bipush 41, 2) := by decide +kernel
theorem dX14_readMember_16 : decode cX14_readMember 16 = .ok (.iconst 0, 1) := by decide +kernel
theorem dX14_readMember_17 : decode cX14_readMember 17 = .ok (.iconst 0, 1) := by decide +kernel
theorem dX14_readMember_18 : decode cX14_readMember 18 = .ok (.aload_n 0, 1) := by decide +kernel
theorem dX14_readMember_19 : decode cX14_readMember 19 = .ok (.invokevirtual 572, 3) := by decide +kernel
theorem dX14_readMember_22 : decode cX14_readMember 22 = .ok (.invokevirtual 387, 3) := by decide +kernel
theorem dX14_readMember_25 : decode cX14_readMember 25 = .ok (.istore_n 1, 1) := by decide +kernel
theorem dX14_readMember_26 : decode cX14_readMember 26 = .ok (.aload_n 0, 1) := by decide +kernel
theorem dX14_readMember_27 : decode cX14_readMember 27 = .ok (.getfield 334, 3) := by decide +kernel
theorem dX14_readMember_30 : decode cX14_readMember 30 = .ok (.getfield 353, 3) := by decide +kernel
theorem dX14_readMember_33 : decode cX14_readMember 33 = .ok (.iload_n 1, 1) := by decide +kernel
theorem dX14_readMember_34 : decode cX14_readMember 34 = .ok (.aload_n 0, 1) := by decide +kernel
theorem dX14_readMember_35 : decode cX14_readMember 35 = .ok (.invokevirtual 717, 3) := by decide +kernel
theorem dX14_readMember_38 : decode cX14_readMember 38 = .ok (.iastore, 1) := by decide +kernel
theorem dX14_readMember_39 : decode cX14_readMember 39 = .ok (.iconst 0, 1) := by decide +kernel
theorem dX14_readMember_40 : decode cX14_readMember 40 = .ok (.istore_n 2, 1) := by decide +kernel
theorem dX14_readMember_41 : decode cX14_readMember 41 = .ok (.aload_n 0, 1) := by decide +kernel
theorem dX14_readMember_42 : decode cX14_readMember 42 = .ok (.invokevirtual 566, 3) := by decide +kernel
theorem dX14_readMember_45 : decode cX14_readMember 45 = .ok (.aload_n 0, 1) := by decide +kernel
theorem dX14_readMember_46 : decode cX14_readMember 46 = .ok (.invokevirtual 569, 3) := by decide +kernel
theorem dX14_readMember_49 : decode cX14_readMember 49 = .ok (.bipush 46, 2) := by decide +kernel
theorem dX14_readMember_51 : decode cX14_readMember 51 = .ok (.if_icmp .ne 135, 3) := by decide +kernel
theorem dX14_readMember_186 : decode cX14_readMember 186 = .ok (.iload_n 1, 1) := by decide +kernel
theorem dX14_readMember_187 : decode cX14_readMember 187 = .ok (.ireturn, 1) := by decide +kernel
theorem dX14_readMember_54 : decode cX14_readMember 54 = .ok (.aload_n 0, 1) := by decide +kernel
theorem dX14_readMember_55 : decode cX14_readMember 55 = .ok (.getfield 248, 3) := by decide +kernel
theorem dX14_readMember_58 : decode cX14_readMember 58 = .ok (.ifCond .ne 128, 3) := by decide +kernel
theorem dX14_readMember_61 : decode cX14_readMember 61 = .ok (.aload_n 0, 1) := by decide +kernel
theorem dX14_readMember_62 : decode cX14_readMember 62 = .ok (.invokevirtual 572, 3) := by decide +kernel
theorem dX14_readMember_65 : decode cX14_readMember 65 = .ok (.istore_n 3, 1) := by decide +kernel
theorem dX14_readMember_66 : decode cX14_readMember 66 = .ok (.aload_n 0, 1) := by decide +kernel
theorem dX14_readMember_67 : decode cX14_readMember 67 = .ok (.dup, 1) := by decide +kernel
theorem dX14_readMember_68 : decode cX14_readMember 68 = .ok (.getfield 548, 3) := by decide +kernel
theorem dX14_readMember_71 : decode cX14_readMember 71 = .ok (.iconst 1, 1) := by decide +kernel
theorem dX14_readMember_72 : decode cX14_readMember 72 = .ok (.iadd, 1) := by decide +kernel
theorem dX14_readMember_73 : decode cX14_readMember 73 = .ok (.putfield 548, 3) := by decide +kernel
theorem dX14_readMember_76 : decode cX14_readMember 76 = .ok (.aload_n 0, 1) := by decide +kernel
theorem dX14_readMember_77 : decode cX14_readMember 77 = .ok (.invokevirtual 566, 3) := by decide +kernel
theorem dX14_readMember_80 : decode cX14_readMember 80 = .ok (.aload_n 0, 1) := by decide +kernel
theorem dX14_readMember_81 : decode cX14_readMember 81 = .ok (.invokevirtual 569, 3) := by decide +kernel
theorem dX14_readMember_84 : decode cX14_readMember 84 = .ok (.bipush 40, 2) := by decide +kernel
theorem dX14_readMember_86 : decode cX14_readMember 86 = .ok (.if_icmp .ne 47, 3) := by decide +kernel
theorem dX14_readMember_133 : decode cX14_readMember 133 = .ok (.aload_n 0, 1) := by decide +kernel
theorem dX14_readMember_134 : decode cX14_readMember 134 = .ok (.bipush 42, 2) := by decide +kernel
theorem dX14_readMember_136 : decode cX14_readMember 136 = .ok (.aload_n 0, 1) := by decide +kernel
theorem dX14_readMember_137 : decode cX14_readMember 137 = .ok (.invokevirtual 658, 3) := by decide +kernel
theorem dX14_readMember_140 : decode cX14_readMember 140 = .ok (.iconst 0, 1) := by decide +kernel
theorem dX14_readMember_141 : decode cX14_readMember 141 = .ok (.iload_n 3, 1) := by decide +kernel
theorem dX14_readMember_142 : decode cX14_readMember 142 = .ok (.invokevirtual 387, 3) := by decide +kernel
theorem dX14_readMember_145 : decode cX14_readMember 145 = .ok (.istore 4, 2) := by decide +kernel
theorem dX14_readMember_147 : decode cX14_readMember 147 = .ok (.iload_n 2, 1) := by decide +kernel
theorem dX14_readMember_148 : decode cX14_readMember 148 = .ok (.ifCond .ne 17, 3) := by decide +kernel
theorem dX14_readMember_165 : decode cX14_readMember 165 = .ok (.aload_n 0, 1) := by decide +kernel
theorem dX14_readMember_166 : decode cX14_readMember 166 = .ok (.getfield 334, 3) := by decide +kernel
theorem dX14_readMember_169 : decode cX14_readMember 169 = .ok (.getfield 365, 3) := by decide +kernel
theorem dX14_readMember_172 : decode cX14_readMember 172 = .ok (.iload_n 2, 1) := by decide +kernel
theorem dX14_readMember_173 : decode cX14_readMember 173 = .ok (.iload 4, 2) := by decide +kernel
theorem dX14_readMember_175 : decode cX14_readMember 175 = .ok (.iastore, 1) := by decide +kernel
theorem dX14_readMember_176 : decode cX14_readMember 176 = .ok (.iload 4, 2) := by decide +kernel
theorem dX14_readMember_178 : decode cX14_readMember 178 = .ok (.istore_n 2, 1) := by decide +kernel
theorem dX14_readMember_179 : decode cX14_readMember 179 = .ok (.aload_n 0, 1) := by decide +kernel
theorem dX14_readMember_180 : decode cX14_readMember 180 = .ok (.invokevirtual 566, 3) := by decide +kernel
theorem dX14_readMember_183 : decode cX14_readMember 183 = .ok (.goto (-138), 3) := by decide +kernel
theorem dX14_readMember_151 : decode cX14_readMember 151 = .ok (.aload_n 0, 1) := by decide +kernel
theorem dX14_readMember_152 : decode cX14_readMember 152 = .ok (.getfield 334, 3) := by decide +kernel
theorem dX14_readMember_155 : decode cX14_readMember 155 = .ok (.getfield 356, 3) := by decide +kernel
theorem dX14_readMember_158 : decode cX14_readMember 158 = .ok (.iload_n 1, 1) := by decide +kernel
theorem dX14_readMember_159 : decode cX14_readMember 159 = .ok (.iload 4, 2) := by decide +kernel
theorem dX14_readMember_161 : decode cX14_readMember 161 = .ok (.iastore, 1) := by decide +kernel
theorem dX14_readMember_162 : decode cX14_readMember 162 = .ok (.goto 14, 3) := by decide +kernel
theorem dX14_readMember_89 : decode cX14_readMember 89 = .ok (.aload_n 0, 1) := by decide +kernel
theorem dX14_readMember_90 : decode cX14_readMember 90 = .ok (.dup, 1) := by decide +kernel
theorem dX14_readMember_91 : decode cX14_readMember 91 = .ok (.getfield 548, 3) := by decide +kernel
theorem dX14_readMember_94 : decode cX14_readMember 94 = .ok (.iconst 1, 1) := by decide +kernel
theorem dX14_readMember_95 : decode cX14_readMember 95 = .ok (.iadd, 1) := by decide +kernel
theorem dX14_readMember_96 : decode cX14_readMember 96 = .ok (.putfield 548, 3) := by decide +kernel
theorem dX14_readMember_99 : decode cX14_readMember 99 = .ok (.aload_n 0, 1) := by decide +kernel
theorem dX14_readMember_100 : decode cX14_readMember 100 = .ok (.bipush 43, 2) := by decide +kernel
theorem dX14_readMember_102 : decode cX14_readMember 102 = .ok (.iconst 0, 1) := by decide +kernel
theorem dX14_readMember_103 : decode cX14_readMember 103 = .ok (.iconst 0, 1) := by decide +kernel
theorem dX14_readMember_104 : decode cX14_readMember 104 = .ok (.iload_n 3, 1) := by decide +kernel
theorem dX14_readMember_105 : decode cX14_readMember 105 = .ok (.invokevirtual 387, 3) := by decide +kernel
theorem dX14_readMember_108 : decode cX14_readMember 108 = .ok (.istore 4, 2) := by decide +kernel
theorem dX14_readMember_110 : decode cX14_readMember 110 = .ok (.aload_n 0, 1) := by decide +kernel
theorem dX14_readMember_111 : decode cX14_readMember 111 = .ok (.getfield 334, 3) := by decide +kernel
theorem dX14_readMember_114 : decode cX14_readMember 114 = .ok (.getfield 353, 3) := by decide +kernel
theorem dX14_readMember_117 : decode cX14_readMember 117 = .ok (.iload 4, 2) := by decide +kernel
theorem dX14_readMember_119 : decode cX14_readMember 119 = .ok (.aload_n 0, 1) := by decide +kernel
theorem dX14_readMember_120 : decode cX14_readMember 120 = .ok (.invokevirtual 711, 3) := by decide +kernel
theorem dX14_readMember_123 : decode cX14_readMember 123 = .ok (.iastore, 1) := by decide +kernel
theorem dX14_readMember_124 : decode cX14_readMember 124 = .ok (.aload_n 0, 1) := by decide +kernel
theorem dX14_readMember_125 : decode cX14_readMember 125 = .ok (.bipush 41, 2) := by decide +kernel
theorem dX14_readMember_127 : decode cX14_readMember 127 = .ok (.invokevirtual 650, 3) := by decide +kernel
theorem dX14_readMember_130 : decode cX14_readMember 130 = .ok (.goto 17, 3) := by decide +kernel
theorem dX14_readMember_11 : decode cX14_readMember 11 = .ok (.iconst 0, 1) := by decide +kernel
theorem dX14_readMember_12 : decode cX14_readMember 12 = .ok (.ireturn, 1) := by decide +kernel
theorem dX14_readArg_0 : decode cX14_readArg 0 = .ok (.aload_n 0, 1) := by decide +kernel
theorem dX14_readArg_1 : decode cX14_readArg 1 = .ok (.invokevirtual 566, 3) := by decide +kernel
theorem dX14_readArg_4 : decode cX14_readArg 4 = .ok (.aload_n 0, 1) := by decide +kernel
theorem dX14_readArg_5 : decode cX14_readArg 5 = .ok (.getfield 248, 3) := by decide +kernel
theorem dX14_readArg_8 : decode cX14_readArg 8 = .ok (.ifCond .eq 5, 3) := by decide +kernel
theorem dX14_readArg_13 : decode cX14_readArg 13 = .ok (.aload_n 0, 1) := by decide +kernel
theorem dX14_readArg_14 : decode cX14_readArg 14 = .ok (.getfield 551, 3) := by decide +kernel
theorem dX14_readArg_17 : decode cX14_readArg 17 = .ok (.bipush 20, 2) := by decide +kernel
theorem dX14_readArg_19 : decode cX14_readArg 19 = .ok (.if_icmp .ne 15, 3) := by decide +kernel
theorem dX14_readArg_34 : decode cX14_readArg 34 = .ok (.aload_n 0, 1) := by decide +kernel
theorem dX14_readArg_35 : decode cX14_readArg 35 = .ok (.dup, 1) := by decide +kernel
theorem dX14_readArg_36 : decode cX14_readArg 36 = .ok (.getfield 551, 3) := by decide +kernel
theorem dX14_readArg_39 : decode cX14_readArg 39 = .ok (.iconst 1, 1) := by decide +kernel
theorem dX14_readArg_40 : decode cX14_readArg 40 = .ok (.iadd, 1) := by decide +kernel
theorem dX14_readArg_41 : decode cX14_readArg 41 = .ok (.putfield 551, 3) := by decide +kernel
theorem dX14_readArg_44 : decode cX14_readArg 44 = .ok (.aload_n 0, 1) := by decide +kernel
theorem dX14_readArg_45 : decode cX14_readArg 45 = .ok (.invokevirtual 692, 3) := by decide +kernel
theorem dX14_readArg_48 : decode cX14_readArg 48 = .ok (.istore_n 1, 1) := by decide +kernel
theorem dX14_readArg_49 : decode cX14_readArg 49 = .ok (.iconst 0, 1) := by decide +kernel
theorem dX14_readArg_50 : decode cX14_readArg 50 = .ok (.istore_n 2, 1) := by decide +kernel
theorem dX14_readArg_51 : decode cX14_readArg 51 = .ok (.aload_n 0, 1) := by decide +kernel
theorem dX14_readArg_52 : decode cX14_readArg 52 = .ok (.invokevirtual 566, 3) := by decide +kernel
theorem dX14_readArg_55 : decode cX14_readArg 55 = .ok (.aload_n 0, 1) := by decide +kernel
theorem dX14_readArg_56 : decode cX14_readArg 56 = .ok (.invokevirtual 569, 3) := by decide +kernel
theorem dX14_readArg_59 : decode cX14_readArg 59 = .ok (.bipush 58, 2) := by decide +kernel
theorem dX14_readArg_61 : decode cX14_readArg 61 = .ok (.if_icmp .ne 72, 3) := by decide +kernel
theorem dX14_readArg_133 : decode cX14_readArg 133 = .ok (.aload_n 0, 1) := by decide +kernel
theorem dX14_readArg_134 : decode cX14_readArg 134 = .ok (.dup, 1) := by decide +kernel
theorem dX14_readArg_135 : decode cX14_readArg 135 = .ok (.getfield 551, 3) := by decide +kernel
theorem dX14_readArg_138 : decode cX14_readArg 138 = .ok (.iconst 1, 1) := by decide +kernel
theorem dX14_readArg_139 : decode cX14_readArg 139 = .ok (.isub, 1) := by decide +kernel
theorem dX14_readArg_140 : decode cX14_readArg 140 = .ok (.putfield 551, 3) := by decide +kernel
theorem dX14_readArg_143 : decode cX14_readArg 143 = .ok (.iload_n 1, 1) := by decide +kernel
theorem dX14_readArg_144 : decode cX14_readArg 144 = .ok (.ireturn, 1) := by decide +kernel
theorem dX14_readArg_64 : decode cX14_readArg 64 = .ok (.aload_n 0, 1) := by decide +kernel
theorem dX14_readArg_65 : decode cX14_readArg 65 = .ok (.getfield 248, 3) := by decide +kernel
theorem dX14_readArg_68 : decode cX14_readArg 68 = .ok (.ifCond .ne 65, 3) := by decide +kernel
theorem dX14_readArg_71 : decode cX14_readArg 71 = .ok (.aload_n 0, 1) := by decide +kernel
theorem dX14_readArg_72 : decode cX14_readArg 72 = .ok (.dup, 1) := by decide +kernel
theorem dX14_readArg_73 : decode cX14_readArg 73 = .ok (.getfield 548, 3) := by decide +kernel
theorem dX14_readArg_76 : decode cX14_readArg 76 = .ok (.iconst 1, 1) := by decide +kernel
theorem dX14_readArg_77 : decode cX14_readArg 77 = .ok (.iadd, 1) := by decide +kernel
theorem dX14_readArg_78 : decode cX14_readArg 78 = .ok (.putfield 548, 3) := by decide +kernel
theorem dX14_readArg_81 : decode cX14_readArg 81 = .ok (.aload_n 0, 1) := by decide +kernel
theorem dX14_readArg_82 : decode cX14_readArg 82 = .ok (.bipush 44, 2) := by decide +kernel
theorem dX14_readArg_84 : decode cX14_readArg 84 = .ok (.aload_n 0, 1) := by decide +kernel
theorem dX14_readArg_85 : decode cX14_readArg 85 = .ok (.invokevirtual 695, 3) := by decide +kernel
theorem dX14_readArg_88 : decode cX14_readArg 88 = .ok (.iconst 0, 1) := by decide +kernel
theorem dX14_readArg_89 : decode cX14_readArg 89 = .ok (.aload_n 0, 1) := by decide +kernel
theorem dX14_readArg_90 : decode cX14_readArg 90 = .ok (.invokevirtual 572, 3) := by decide +kernel
theorem dX14_readArg_93 : decode cX14_readArg 93 = .ok (.invokevirtual 387, 3) := by decide +kernel
theorem dX14_readArg_96 : decode cX14_readArg 96 = .ok (.istore_n 3, 1) := by decide +kernel
theorem dX14_readArg_97 : decode cX14_readArg 97 = .ok (.iload_n 2, 1) := by decide +kernel
theorem dX14_readArg_98 : decode cX14_readArg 98 = .ok (.ifCond .ne 16, 3) := by decide +kernel
theorem dX14_readArg_114 : decode cX14_readArg 114 = .ok (.aload_n 0, 1) := by decide +kernel
theorem dX14_readArg_115 : decode cX14_readArg 115 = .ok (.getfield 334, 3) := by decide +kernel
theorem dX14_readArg_118 : decode cX14_readArg 118 = .ok (.getfield 365, 3) := by decide +kernel
theorem dX14_readArg_121 : decode cX14_readArg 121 = .ok (.iload_n 2, 1) := by decide +kernel
theorem dX14_readArg_122 : decode cX14_readArg 122 = .ok (.iload_n 3, 1) := by decide +kernel
theorem dX14_readArg_123 : decode cX14_readArg 123 = .ok (.iastore, 1) := by decide +kernel
theorem dX14_readArg_124 : decode cX14_readArg 124 = .ok (.iload_n 3, 1) := by decide +kernel
theorem dX14_readArg_125 : decode cX14_readArg 125 = .ok (.istore_n 2, 1) := by decide +kernel
theorem dX14_readArg_126 : decode cX14_readArg 126 = .ok (.aload_n 0, 1) := by decide +kernel
theorem dX14_readArg_127 : decode cX14_readArg 127 = .ok (.invokevirtual 566, 3) := by decide +kernel
theorem dX14_readArg_130 : decode cX14_readArg 130 = .ok (.goto (-75), 3) := by decide +kernel
theorem dX14_readArg_101 : decode cX14_readArg 101 = .ok (.aload_n 0, 1) := by decide +kernel
theorem dX14_readArg_102 : decode cX14_readArg 102 = .ok (.getfield 334, 3) := by decide +kernel
theorem dX14_readArg_105 : decode cX14_readArg 105 = .ok (.getfield 359, 3) := by decide +kernel
theorem dX14_readArg_108 : decode cX14_readArg 108 = .ok (.iload_n 1, 1) := by decide +kernel
theorem dX14_readArg_109 : decode cX14_readArg 109 = .ok (.iload_n 3, 1) := by decide +kernel
theorem dX14_readArg_110 : decode cX14_readArg 110 = .ok (.iastore, 1) := by decide +kernel
theorem dX14_readArg_111 : decode cX14_readArg 111 = .ok (.goto 13, 3) := by decide +kernel
theorem dX14_readArg_22 : decode cX14_readArg 22 = .ok (.aload_n 0, 1) := by decide +kernel
theorem dX14_readArg_23 : decode cX14_readArg 23 = .ok (.aload_n 0, 1) := by decide +kernel
theorem dX14_readArg_24 : decode cX14_readArg 24 = .ok (.invokevirtual 714, 3) := by decide +kernel
theorem dX14_readArg_27 : decode cX14_readArg 27 = .ok (.aload_n 0, 1) := by decide +kernel
theorem dX14_readArg_28 : decode cX14_readArg 28 = .ok (.invokevirtual 572, 3) := by decide +kernel
theorem dX14_readArg_31 : decode cX14_readArg 31 = .ok (.invokevirtual 280, 3) := by decide +kernel
theorem dX14_readArg_11 : decode cX14_readArg 11 = .ok (.iconst 0, 1) := by decide +kernel
theorem dX14_readArg_12 : decode cX14_readArg 12 = .ok (.ireturn, 1) := by decide +kernel
theorem dX14_readRow_0 : decode cX14_readRow 0 = .ok (.aload_n 0, 1) := by decide +kernel
theorem dX14_readRow_1 : decode cX14_readRow 1 = .ok (.bipush 34, 2) := by decide +kernel
theorem dX14_readRow_3 : decode cX14_readRow 3 = .ok (.iconst 0, 1) := by decide +kernel
theorem dX14_readRow_4 : decode cX14_readRow 4 = .ok (.iconst 0, 1) := by decide +kernel
theorem dX14_readRow_5 : decode cX14_readRow 5 = .ok (.aload_n 0, 1) := by decide +kernel
theorem dX14_readRow_6 : decode cX14_readRow 6 = .ok (.invokevirtual 572, 3) := by decide +kernel
theorem dX14_readRow_9 : decode cX14_readRow 9 = .ok (.invokevirtual 387, 3) := by decide +kernel
theorem dX14_readRow_12 : decode cX14_readRow 12 = .ok (.istore_n 1, 1) := by decide +kernel
theorem dX14_readRow_13 : decode cX14_readRow 13 = .ok (.aload_n 0, 1) := by decide +kernel
theorem dX14_readRow_14 : decode cX14_readRow 14 = .ok (.dup, 1) := by decide +kernel
theorem dX14_readRow_15 : decode cX14_readRow 15 = .ok (.getfield 548, 3) := by decide +kernel
theorem dX14_readRow_18 : decode cX14_readRow 18 = .ok (.iconst 1, 1) := by decide +kernel
theorem dX14_readRow_19 : decode cX14_readRow 19 = .ok (.iadd, 1) := by decide +kernel
theorem dX14_readRow_20 : decode cX14_readRow 20 = .ok (.putfield 548, 3) := by decide +kernel
theorem dX14_readRow_23 : decode cX14_readRow 23 = .ok (.aload_n 0, 1) := by decide +kernel
theorem dX14_readRow_24 : decode cX14_readRow 24 = .ok (.invokevirtual 566, 3) := by decide +kernel
theorem dX14_readRow_27 : decode cX14_readRow 27 = .ok (.aload_n 0, 1) := by decide +kernel
theorem dX14_readRow_28 : decode cX14_readRow 28 = .ok (.invokevirtual 569, 3) := by decide +kernel
theorem dX14_readRow_31 : decode cX14_readRow 31 = .ok (.bipush 93, 2) := by decide +kernel
theorem dX14_readRow_33 : decode cX14_readRow 33 = .ok (.if_icmp .ne 15, 3) := by decide +kernel
theorem dX14_readRow_48 : decode cX14_readRow 48 = .ok (.iconst 0, 1) := by decide +kernel
theorem dX14_readRow_49 : decode cX14_readRow 49 = .ok (.istore_n 2, 1) := by decide +kernel
theorem dX14_readRow_50 : decode cX14_readRow 50 = .ok (.iconst 1, 1) := by decide +kernel
theorem dX14_readRow_51 : decode cX14_readRow 51 = .ok (.istore_n 3, 1) := by decide +kernel
theorem dX14_readRow_52 : decode cX14_readRow 52 = .ok (.iload_n 3, 1) := by decide +kernel
theorem dX14_readRow_53 : decode cX14_readRow 53 = .ok (.ifCond .eq 118, 3) := by decide +kernel
theorem dX14_readRow_171 : decode cX14_readRow 171 = .ok (.aload_n 0, 1) := by decide +kernel
theorem dX14_readRow_172 : decode cX14_readRow 172 = .ok (.bipush 93, 2) := by decide +kernel
theorem dX14_readRow_174 : decode cX14_readRow 174 = .ok (.invokevirtual 650, 3) := by decide +kernel
theorem dX14_readRow_177 : decode cX14_readRow 177 = .ok (.iload_n 1, 1) := by decide +kernel
theorem dX14_readRow_178 : decode cX14_readRow 178 = .ok (.ireturn, 1) := by decide +kernel
theorem dX14_readRow_56 : decode cX14_readRow 56 = .ok (.aload_n 0, 1) := by decide +kernel
theorem dX14_readRow_57 : decode cX14_readRow 57 = .ok (.getfield 248, 3) := by decide +kernel
theorem dX14_readRow_60 : decode cX14_readRow 60 = .ok (.ifCond .ne 111, 3) := by decide +kernel
theorem dX14_readRow_63 : decode cX14_readRow 63 = .ok (.aload_n 0, 1) := by decide +kernel
theorem dX14_readRow_64 : decode cX14_readRow 64 = .ok (.invokevirtual 566, 3) := by decide +kernel
theorem dX14_readRow_67 : decode cX14_readRow 67 = .ok (.aload_n 0, 1) := by decide +kernel
theorem dX14_readRow_68 : decode cX14_readRow 68 = .ok (.bipush 59, 2) := by decide +kernel
theorem dX14_readRow_70 : decode cX14_readRow 70 = .ok (.aload_n 0, 1) := by decide +kernel
theorem dX14_readRow_71 : decode cX14_readRow 71 = .ok (.invokevirtual 569, 3) := by decide +kernel
theorem dX14_readRow_74 : decode cX14_readRow 74 = .ok (.bipush 44, 2) := by decide +kernel
theorem dX14_readRow_76 : decode cX14_readRow 76 = .ok (.if_icmp .eq 12, 3) := by decide +kernel
theorem dX14_readRow_88 : decode cX14_readRow 88 = .ok (.iconst 0, 1) := by decide +kernel
theorem dX14_readRow_89 : decode cX14_readRow 89 = .ok (.goto 7, 3) := by decide +kernel
theorem dX14_readRow_96 : decode cX14_readRow 96 = .ok (.iconst 0, 1) := by decide +kernel
theorem dX14_readRow_97 : decode cX14_readRow 97 = .ok (.iconst 0, 1) := by decide +kernel
theorem dX14_readRow_98 : decode cX14_readRow 98 = .ok (.invokevirtual 387, 3) := by decide +kernel
theorem dX14_readRow_101 : decode cX14_readRow 101 = .ok (.istore 4, 2) := by decide +kernel
theorem dX14_readRow_103 : decode cX14_readRow 103 = .ok (.iload_n 2, 1) := by decide +kernel
theorem dX14_readRow_104 : decode cX14_readRow 104 = .ok (.ifCond .ne 17, 3) := by decide +kernel
theorem dX14_readRow_132 : decode cX14_readRow 132 = .ok (.iload 4, 2) := by decide +kernel
theorem dX14_readRow_134 : decode cX14_readRow 134 = .ok (.istore_n 2, 1) := by decide +kernel
theorem dX14_readRow_135 : decode cX14_readRow 135 = .ok (.aload_n 0, 1) := by decide +kernel
theorem dX14_readRow_136 : decode cX14_readRow 136 = .ok (.invokevirtual 566, 3) := by decide +kernel
theorem dX14_readRow_139 : decode cX14_readRow 139 = .ok (.aload_n 0, 1) := by decide +kernel
theorem dX14_readRow_140 : decode cX14_readRow 140 = .ok (.invokevirtual 569, 3) := by decide +kernel
theorem dX14_readRow_143 : decode cX14_readRow 143 = .ok (.bipush 44, 2) := by decide +kernel
theorem dX14_readRow_145 : decode cX14_readRow 145 = .ok (.if_icmp .ne 7, 3) := by decide +kernel
theorem dX14_readRow_152 : decode cX14_readRow 152 = .ok (.iconst 0, 1) := by decide +kernel
theorem dX14_readRow_153 : decode cX14_readRow 153 = .ok (.istore_n 3, 1) := by decide +kernel
theorem dX14_readRow_154 : decode cX14_readRow 154 = .ok (.iload_n 3, 1) := by decide +kernel
theorem dX14_readRow_155 : decode cX14_readRow 155 = .ok (.ifCond .eq 13, 3) := by decide +kernel
theorem dX14_readRow_168 : decode cX14_readRow 168 = .ok (.goto (-116), 3) := by decide +kernel
theorem dX14_readRow_148 : decode cX14_readRow 148 = .ok (.iconst 1, 1) := by decide +kernel
theorem dX14_readRow_149 : decode cX14_readRow 149 = .ok (.goto 4, 3) := by decide +kernel
theorem dX14_readRow_158 : decode cX14_readRow 158 = .ok (.aload_n 0, 1) := by decide +kernel
theorem dX14_readRow_159 : decode cX14_readRow 159 = .ok (.dup, 1) := by decide +kernel
theorem dX14_readRow_160 : decode cX14_readRow 160 = .ok (.getfield 548, 3) := by decide +kernel
theorem dX14_readRow_163 : decode cX14_readRow 163 = .ok (.iconst 1, 1) := by decide +kernel
theorem dX14_readRow_164 : decode cX14_readRow 164 = .ok (.iadd, 1) := by decide +kernel
theorem dX14_readRow_165 : decode cX14_readRow 165 = .ok (.putfield 548, 3) := by decide +kernel
theorem dX14_readRow_121 : decode cX14_readRow 121 = .ok (.aload_n 0, 1) := by decide +kernel
theorem dX14_readRow_122 : decode cX14_readRow 122 = .ok (.getfield 334, 3) := by decide +kernel
theorem dX14_readRow_125 : decode cX14_readRow 125 = .ok (.getfield 365, 3) := by decide +kernel
theorem dX14_readRow_128 : decode cX14_readRow 128 = .ok (.iload_n 2, 1) := by decide +kernel
theorem dX14_readRow_129 : decode cX14_readRow 129 = .ok (.iload 4, 2) := by decide +kernel
theorem dX14_readRow_131 : decode cX14_readRow 131 = .ok (.iastore, 1) := by decide +kernel
theorem dX14_readRow_107 : decode cX14_readRow 107 = .ok (.aload_n 0, 1) := by decide +kernel
theorem dX14_readRow_108 : decode cX14_readRow 108 = .ok (.getfield 334, 3) := by decide +kernel
theorem dX14_readRow_111 : decode cX14_readRow 111 = .ok (.getfield 353, 3) := by decide +kernel
theorem dX14_readRow_114 : decode cX14_readRow 114 = .ok (.iload_n 1, 1) := by decide +kernel
theorem dX14_readRow_115 : decode cX14_readRow 115 = .ok (.iload 4, 2) := by decide +kernel
theorem dX14_readRow_117 : decode cX14_readRow 117 = .ok (.iastore, 1) := by decide +kernel
theorem dX14_readRow_118 : decode cX14_readRow 118 = .ok (.goto 14, 3) := by decide +kernel
theorem dX14_readRow_79 : decode cX14_readRow 79 = .ok (.aload_n 0, 1) := by decide +kernel
theorem dX14_readRow_80 : decode cX14_readRow 80 = .ok (.invokevirtual 569, 3) := by decide +kernel
theorem dX14_readRow_83 : decode cX14_readRow 83 = .ok (.bipush 93, 2) := by decide +kernel
theorem dX14_readRow_85 : decode cX14_readRow 85 = .ok (.if_icmp .ne 7, 3) := by decide +kernel
theorem dX14_readRow_92 : decode cX14_readRow 92 = .ok (.aload_n 0, 1) := by decide +kernel
theorem dX14_readRow_93 : decode cX14_readRow 93 = .ok (.invokevirtual 711, 3) := by decide +kernel
theorem dX14_readRow_36 : decode cX14_readRow 36 = .ok (.aload_n 0, 1) := by decide +kernel
theorem dX14_readRow_37 : decode cX14_readRow 37 = .ok (.dup, 1) := by decide +kernel
theorem dX14_readRow_38 : decode cX14_readRow 38 = .ok (.getfield 548, 3) := by decide +kernel
theorem dX14_readRow_41 : decode cX14_readRow 41 = .ok (.iconst 1, 1) := by decide +kernel
theorem dX14_readRow_42 : decode cX14_readRow 42 = .ok (.iadd, 1) := by decide +kernel
theorem dX14_readRow_43 : decode cX14_readRow 43 = .ok (.putfield 548, 3) := by decide +kernel
theorem dX14_readRow_46 : decode cX14_readRow 46 = .ok (.iload_n 1, 1) := by decide +kernel
theorem dX14_readRow_47 : decode cX14_readRow 47 = .ok (.ireturn, 1) := by decide +kernel
theorem dX14_readArgs_0 : decode cX14_readArgs 0 = .ok (.aload_n 0, 1) := by decide +kernel
theorem dX14_readArgs_1 : decode cX14_readArgs 1 = .ok (.invokevirtual 566, 3) := by decide +kernel
theorem dX14_readArgs_4 : decode cX14_readArgs 4 = .ok (.aload_n 0, 1) := by decide +kernel
theorem dX14_readArgs_5 : decode cX14_readArgs 5 = .ok (.getfield 248, 3) := by decide +kernel
theorem dX14_readArgs_8 : decode cX14_readArgs 8 = .ok (.ifCond .eq 4, 3) := by decide +kernel
theorem dX14_readArgs_12 : decode cX14_readArgs 12 = .ok (.aload_n 0, 1) := by decide +kernel
theorem dX14_readArgs_13 : decode cX14_readArgs 13 = .ok (.invokevirtual 569, 3) := by decide +kernel
theorem dX14_readArgs_16 : decode cX14_readArgs 16 = .ok (.bipush 41, 2) := by decide +kernel
theorem dX14_readArgs_18 : decode cX14_readArgs 18 = .ok (.if_icmp .ne 14, 3) := by decide +kernel
theorem dX14_readArgs_32 : decode cX14_readArgs 32 = .ok (.aload_n 0, 1) := by decide +kernel
theorem dX14_readArgs_33 : decode cX14_readArgs 33 = .ok (.invokevirtual 733, 3) := by decide +kernel
theorem dX14_readArgs_36 : decode cX14_readArgs 36 = .ok (.ifCond .eq 9, 3) := by decide +kernel
theorem dX14_readArgs_45 : decode cX14_readArgs 45 = .ok (.aload_n 0, 1) := by decide +kernel
theorem dX14_readArgs_46 : decode cX14_readArgs 46 = .ok (.invokevirtual 739, 3) := by decide +kernel
theorem dX14_readArgs_49 : decode cX14_readArgs 49 = .ok (.istore_n 2, 1) := by decide +kernel
theorem dX14_readArgs_50 : decode cX14_readArgs 50 = .ok (.iconst 0, 1) := by decide +kernel
theorem dX14_readArgs_51 : decode cX14_readArgs 51 = .ok (.istore_n 3, 1) := by decide +kernel
theorem dX14_readArgs_52 : decode cX14_readArgs 52 = .ok (.iconst 1, 1) := by decide +kernel
theorem dX14_readArgs_53 : decode cX14_readArgs 53 = .ok (.istore 4, 2) := by decide +kernel
theorem dX14_readArgs_55 : decode cX14_readArgs 55 = .ok (.iload 4, 2) := by decide +kernel
theorem dX14_readArgs_57 : decode cX14_readArgs 57 = .ok (.ifCond .eq 135, 3) := by decide +kernel
theorem dX14_readArgs_192 : decode cX14_readArgs 192 = .ok (.aload_n 0, 1) := by decide +kernel
theorem dX14_readArgs_193 : decode cX14_readArgs 193 = .ok (.bipush 41, 2) := by decide +kernel
theorem dX14_readArgs_195 : decode cX14_readArgs 195 = .ok (.invokevirtual 650, 3) := by decide +kernel
theorem dX14_readArgs_198 : decode cX14_readArgs 198 = .ok (.return_, 1) := by decide +kernel
theorem dX14_readArgs_60 : decode cX14_readArgs 60 = .ok (.aload_n 0, 1) := by decide +kernel
theorem dX14_readArgs_61 : decode cX14_readArgs 61 = .ok (.getfield 248, 3) := by decide +kernel
theorem dX14_readArgs_64 : decode cX14_readArgs 64 = .ok (.ifCond .ne 128, 3) := by decide +kernel
theorem dX14_readArgs_67 : decode cX14_readArgs 67 = .ok (.iload_n 2, 1) := by decide +kernel
theorem dX14_readArgs_68 : decode cX14_readArgs 68 = .ok (.ifCond .eq 11, 3) := by decide +kernel
theorem dX14_readArgs_79 : decode cX14_readArgs 79 = .ok (.aload_n 0, 1) := by decide +kernel
theorem dX14_readArgs_80 : decode cX14_readArgs 80 = .ok (.bipush 50, 2) := by decide +kernel
theorem dX14_readArgs_82 : decode cX14_readArgs 82 = .ok (.aload_n 0, 1) := by decide +kernel
theorem dX14_readArgs_83 : decode cX14_readArgs 83 = .ok (.invokevirtual 711, 3) := by decide +kernel
theorem dX14_readArgs_86 : decode cX14_readArgs 86 = .ok (.iconst 0, 1) := by decide +kernel
theorem dX14_readArgs_87 : decode cX14_readArgs 87 = .ok (.iconst 0, 1) := by decide +kernel
theorem dX14_readArgs_88 : decode cX14_readArgs 88 = .ok (.invokevirtual 387, 3) := by decide +kernel
theorem dX14_readArgs_91 : decode cX14_readArgs 91 = .ok (.istore 5, 2) := by decide +kernel
theorem dX14_readArgs_93 : decode cX14_readArgs 93 = .ok (.aload_n 0, 1) := by decide +kernel
theorem dX14_readArgs_94 : decode cX14_readArgs 94 = .ok (.getfield 248, 3) := by decide +kernel
theorem dX14_readArgs_97 : decode cX14_readArgs 97 = .ok (.ifCond .eq 4, 3) := by decide +kernel
theorem dX14_readArgs_101 : decode cX14_readArgs 101 = .ok (.iload_n 3, 1) := by decide +kernel
theorem dX14_readArgs_102 : decode cX14_readArgs 102 = .ok (.ifCond .ne 17, 3) := by decide +kernel
theorem dX14_readArgs_119 : decode cX14_readArgs 119 = .ok (.aload_n 0, 1) := by decide +kernel
theorem dX14_readArgs_120 : decode cX14_readArgs 120 = .ok (.getfield 334, 3) := by decide +kernel
theorem dX14_readArgs_123 : decode cX14_readArgs 123 = .ok (.getfield 365, 3) := by decide +kernel
theorem dX14_readArgs_126 : decode cX14_readArgs 126 = .ok (.iload_n 3, 1) := by decide +kernel
theorem dX14_readArgs_127 : decode cX14_readArgs 127 = .ok (.iload 5, 2) := by decide +kernel
theorem dX14_readArgs_129 : decode cX14_readArgs 129 = .ok (.iastore, 1) := by decide +kernel
theorem dX14_readArgs_130 : decode cX14_readArgs 130 = .ok (.iload 5, 2) := by decide +kernel
theorem dX14_readArgs_132 : decode cX14_readArgs 132 = .ok (.istore_n 3, 1) := by decide +kernel
theorem dX14_readArgs_133 : decode cX14_readArgs 133 = .ok (.aload_n 0, 1) := by decide +kernel
theorem dX14_readArgs_134 : decode cX14_readArgs 134 = .ok (.invokevirtual 566, 3) := by decide +kernel
theorem dX14_readArgs_137 : decode cX14_readArgs 137 = .ok (.aload_n 0, 1) := by decide +kernel
theorem dX14_readArgs_138 : decode cX14_readArgs 138 = .ok (.invokevirtual 569, 3) := by decide +kernel
theorem dX14_readArgs_141 : decode cX14_readArgs 141 = .ok (.bipush 44, 2) := by decide +kernel
theorem dX14_readArgs_143 : decode cX14_readArgs 143 = .ok (.if_icmp .ne 7, 3) := by decide +kernel
theorem dX14_readArgs_150 : decode cX14_readArgs 150 = .ok (.iconst 0, 1) := by decide +kernel
theorem dX14_readArgs_151 : decode cX14_readArgs 151 = .ok (.istore 4, 2) := by decide +kernel
theorem dX14_readArgs_153 : decode cX14_readArgs 153 = .ok (.iload 4, 2) := by decide +kernel
theorem dX14_readArgs_155 : decode cX14_readArgs 155 = .ok (.ifCond .eq 34, 3) := by decide +kernel
theorem dX14_readArgs_189 : decode cX14_readArgs 189 = .ok (.goto (-134), 3) := by decide +kernel
theorem dX14_readArgs_146 : decode cX14_readArgs 146 = .ok (.iconst 1, 1) := by decide +kernel
theorem dX14_readArgs_147 : decode cX14_readArgs 147 = .ok (.goto 4, 3) := by decide +kernel
theorem dX14_readArgs_158 : decode cX14_readArgs 158 = .ok (.aload_n 0, 1) := by decide +kernel
theorem dX14_readArgs_159 : decode cX14_readArgs 159 = .ok (.dup, 1) := by decide +kernel
theorem dX14_readArgs_160 : decode cX14_readArgs 160 = .ok (.getfield 548, 3) := by decide +kernel
theorem dX14_readArgs_163 : decode cX14_readArgs 163 = .ok (.iconst 1, 1) := by decide +kernel
theorem dX14_readArgs_164 : decode cX14_readArgs 164 = .ok (.iadd, 1) := by decide +kernel
theorem dX14_readArgs_165 : decode cX14_readArgs 165 = .ok (.putfield 548, 3) := by decide +kernel
theorem dX14_readArgs_168 : decode cX14_readArgs 168 = .ok (.aload_n 0, 1) := by decide +kernel
theorem dX14_readArgs_169 : decode cX14_readArgs 169 = .ok (.invokevirtual 566, 3) := by decide +kernel
theorem dX14_readArgs_172 : decode cX14_readArgs 172 = .ok (.iload_n 2, 1) := by decide +kernel
theorem dX14_readArgs_173 : decode cX14_readArgs 173 = .ok (.ifCond .eq 16, 3) := by decide +kernel
theorem dX14_readArgs_176 : decode cX14_readArgs 176 = .ok (.aload_n 0, 1) := by decide +kernel
theorem dX14_readArgs_177 : decode cX14_readArgs 177 = .ok (.invokevirtual 733, 3) := by decide +kernel
theorem dX14_readArgs_180 : decode cX14_readArgs 180 = .ok (.ifCond .eq 9, 3) := by decide +kernel
theorem dX14_readArgs_183 : decode cX14_readArgs 183 = .ok (.aload_n 0, 1) := by decide +kernel
theorem dX14_readArgs_184 : decode cX14_readArgs 184 = .ok (.iload_n 1, 1) := by decide +kernel
theorem dX14_readArgs_185 : decode cX14_readArgs 185 = .ok (.invokevirtual 736, 3) := by decide +kernel
theorem dX14_readArgs_188 : decode cX14_readArgs 188 = .ok (.return_, 1) := by decide +kernel
theorem dX14_readArgs_105 : decode cX14_readArgs 105 = .ok (.aload_n 0, 1) := by decide +kernel
theorem dX14_readArgs_106 : decode cX14_readArgs 106 = .ok (.getfield 334, 3) := by decide +kernel
theorem dX14_readArgs_109 : decode cX14_readArgs 109 = .ok (.getfield 356, 3) := by decide +kernel
theorem dX14_readArgs_112 : decode cX14_readArgs 112 = .ok (.iload_n 1, 1) := by decide +kernel
theorem dX14_readArgs_113 : decode cX14_readArgs 113 = .ok (.iload 5, 2) := by decide +kernel
theorem dX14_readArgs_115 : decode cX14_readArgs 115 = .ok (.iastore, 1) := by decide +kernel
theorem dX14_readArgs_116 : decode cX14_readArgs 116 = .ok (.goto 14, 3) := by decide +kernel
theorem dX14_readArgs_100 : decode cX14_readArgs 100 = .ok (.return_, 1) := by decide +kernel
theorem dX14_readArgs_71 : decode cX14_readArgs 71 = .ok (.aload_n 0, 1) := by decide +kernel
theorem dX14_readArgs_72 : decode cX14_readArgs 72 = .ok (.iload_n 1, 1) := by decide +kernel
theorem dX14_readArgs_73 : decode cX14_readArgs 73 = .ok (.invokevirtual 742, 3) := by decide +kernel
theorem dX14_readArgs_76 : decode cX14_readArgs 76 = .ok (.goto 15, 3) := by decide +kernel
theorem dX14_readArgs_39 : decode cX14_readArgs 39 = .ok (.aload_n 0, 1) := by decide +kernel
theorem dX14_readArgs_40 : decode cX14_readArgs 40 = .ok (.iload_n 1, 1) := by decide +kernel
theorem dX14_readArgs_41 : decode cX14_readArgs 41 = .ok (.invokevirtual 736, 3) := by decide +kernel
theorem dX14_readArgs_44 : decode cX14_readArgs 44 = .ok (.return_, 1) := by decide +kernel
theorem dX14_readArgs_21 : decode cX14_readArgs 21 = .ok (.aload_n 0, 1) := by decide +kernel
theorem dX14_readArgs_22 : decode cX14_readArgs 22 = .ok (.dup, 1) := by decide +kernel
theorem dX14_readArgs_23 : decode cX14_readArgs 23 = .ok (.getfield 548, 3) := by decide +kernel
theorem dX14_readArgs_26 : decode cX14_readArgs 26 = .ok (.iconst 1, 1) := by decide +kernel
theorem dX14_readArgs_27 : decode cX14_readArgs 27 = .ok (.iadd, 1) := by decide +kernel
theorem dX14_readArgs_28 : decode cX14_readArgs 28 = .ok (.putfield 548, 3) := by decide +kernel
theorem dX14_readArgs_31 : decode cX14_readArgs 31 = .ok (.return_, 1) := by decide +kernel
theorem dX14_readArgs_11 : decode cX14_readArgs 11 = .ok (.return_, 1) := by decide +kernel
theorem dX14_readNamed_0 : decode cX14_readNamed 0 = .ok (.aload_n 0, 1) := by decide +kernel
theorem dX14_readNamed_1 : decode cX14_readNamed 1 = .ok (.invokevirtual 658, 3) := by decide +kernel
theorem dX14_readNamed_4 : decode cX14_readNamed 4 = .ok (.istore_n 2, 1) := by decide +kernel
theorem dX14_readNamed_5 : decode cX14_readNamed 5 = .ok (.aload_n 0, 1) := by decide +kernel
theorem dX14_readNamed_6 : decode cX14_readNamed 6 = .ok (.getfield 248, 3) := by decide +kernel
theorem dX14_readNamed_9 : decode cX14_readNamed 9 = .ok (.ifCond .eq 5, 3) := by decide +kernel
theorem dX14_readNamed_14 : decode cX14_readNamed 14 = .ok (.aload_n 0, 1) := by decide +kernel
theorem dX14_readNamed_15 : decode cX14_readNamed 15 = .ok (.getfield 610, 3) := by decide +kernel
theorem dX14_readNamed_18 : decode cX14_readNamed 18 = .ok (.istore_n 3, 1) := by decide +kernel
theorem dX14_readNamed_19 : decode cX14_readNamed 19 = .ok (.aload_n 0, 1) := by decide +kernel
theorem dX14_readNamed_20 : decode cX14_readNamed 20 = .ok (.getfield 334, 3) := by decide +kernel
theorem dX14_readNamed_23 : decode cX14_readNamed 23 = .ok (.getfield 356, 3) := by decide +kernel
theorem dX14_readNamed_26 : decode cX14_readNamed 26 = .ok (.iload_n 1, 1) := by decide +kernel
theorem dX14_readNamed_27 : decode cX14_readNamed 27 = .ok (.iaload, 1) := by decide +kernel
theorem dX14_readNamed_28 : decode cX14_readNamed 28 = .ok (.istore 4, 2) := by decide +kernel
theorem dX14_readNamed_30 : decode cX14_readNamed 30 = .ok (.iload 4, 2) := by decide +kernel
theorem dX14_readNamed_32 : decode cX14_readNamed 32 = .ok (.ifCond .eq 38, 3) := by decide +kernel
theorem dX14_readNamed_70 : decode cX14_readNamed 70 = .ok (.aload_n 0, 1) := by decide +kernel
theorem dX14_readNamed_71 : decode cX14_readNamed 71 = .ok (.bipush 61, 2) := by decide +kernel
theorem dX14_readNamed_73 : decode cX14_readNamed 73 = .ok (.invokevirtual 650, 3) := by decide +kernel
theorem dX14_readNamed_76 : decode cX14_readNamed 76 = .ok (.aload_n 0, 1) := by decide +kernel
theorem dX14_readNamed_77 : decode cX14_readNamed 77 = .ok (.getfield 248, 3) := by decide +kernel
theorem dX14_readNamed_80 : decode cX14_readNamed 80 = .ok (.ifCond .eq 5, 3) := by decide +kernel
theorem dX14_readNamed_85 : decode cX14_readNamed 85 = .ok (.aload_n 0, 1) := by decide +kernel
theorem dX14_readNamed_86 : decode cX14_readNamed 86 = .ok (.bipush 51, 2) := by decide +kernel
theorem dX14_readNamed_88 : decode cX14_readNamed 88 = .ok (.iconst 0, 1) := by decide +kernel
theorem dX14_readNamed_89 : decode cX14_readNamed 89 = .ok (.iload_n 2, 1) := by decide +kernel
theorem dX14_readNamed_90 : decode cX14_readNamed 90 = .ok (.iload_n 3, 1) := by decide +kernel
theorem dX14_readNamed_91 : decode cX14_readNamed 91 = .ok (.invokevirtual 387, 3) := by decide +kernel
theorem dX14_readNamed_94 : decode cX14_readNamed 94 = .ok (.istore 4, 2) := by decide +kernel
theorem dX14_readNamed_96 : decode cX14_readNamed 96 = .ok (.aload_n 0, 1) := by decide +kernel
theorem dX14_readNamed_97 : decode cX14_readNamed 97 = .ok (.bipush 51, 2) := by decide +kernel
theorem dX14_readNamed_99 : decode cX14_readNamed 99 = .ok (.iload 4, 2) := by decide +kernel
theorem dX14_readNamed_101 : decode cX14_readNamed 101 = .ok (.iload_n 1, 1) := by decide +kernel
theorem dX14_readNamed_102 : decode cX14_readNamed 102 = .ok (.iload_n 3, 1) := by decide +kernel
theorem dX14_readNamed_103 : decode cX14_readNamed 103 = .ok (.invokevirtual 479, 3) := by decide +kernel
theorem dX14_readNamed_106 : decode cX14_readNamed 106 = .ok (.aload_n 0, 1) := by decide +kernel
theorem dX14_readNamed_107 : decode cX14_readNamed 107 = .ok (.getfield 334, 3) := by decide +kernel
theorem dX14_readNamed_110 : decode cX14_readNamed 110 = .ok (.getfield 353, 3) := by decide +kernel
theorem dX14_readNamed_113 : decode cX14_readNamed 113 = .ok (.iload 4, 2) := by decide +kernel
theorem dX14_readNamed_115 : decode cX14_readNamed 115 = .ok (.aload_n 0, 1) := by decide +kernel
theorem dX14_readNamed_116 : decode cX14_readNamed 116 = .ok (.invokevirtual 711, 3) := by decide +kernel
theorem dX14_readNamed_119 : decode cX14_readNamed 119 = .ok (.iastore, 1) := by decide +kernel
theorem dX14_readNamed_120 : decode cX14_readNamed 120 = .ok (.iload 4, 2) := by decide +kernel
theorem dX14_readNamed_122 : decode cX14_readNamed 122 = .ok (.ireturn, 1) := by decide +kernel
theorem dX14_readNamed_83 : decode cX14_readNamed 83 = .ok (.iconst 0, 1) := by decide +kernel
theorem dX14_readNamed_84 : decode cX14_readNamed 84 = .ok (.ireturn, 1) := by decide +kernel
theorem dX14_readNamed_35 : decode cX14_readNamed 35 = .ok (.aload_n 0, 1) := by decide +kernel
theorem dX14_readNamed_36 : decode cX14_readNamed 36 = .ok (.getfield 334, 3) := by decide +kernel
theorem dX14_readNamed_39 : decode cX14_readNamed 39 = .ok (.getfield 356, 3) := by decide +kernel
theorem dX14_readNamed_42 : decode cX14_readNamed 42 = .ok (.iload 4, 2) := by decide +kernel
theorem dX14_readNamed_44 : decode cX14_readNamed 44 = .ok (.iaload, 1) := by decide +kernel
theorem dX14_readNamed_45 : decode cX14_readNamed 45 = .ok (.iload_n 2, 1) := by decide +kernel
theorem dX14_readNamed_46 : decode cX14_readNamed 46 = .ok (.if_icmp .ne 9, 3) := by decide +kernel
theorem dX14_readNamed_55 : decode cX14_readNamed 55 = .ok (.aload_n 0, 1) := by decide +kernel
theorem dX14_readNamed_56 : decode cX14_readNamed 56 = .ok (.getfield 334, 3) := by decide +kernel
theorem dX14_readNamed_59 : decode cX14_readNamed 59 = .ok (.getfield 365, 3) := by decide +kernel
theorem dX14_readNamed_62 : decode cX14_readNamed 62 = .ok (.iload 4, 2) := by decide +kernel
theorem dX14_readNamed_64 : decode cX14_readNamed 64 = .ok (.iaload, 1) := by decide +kernel
theorem dX14_readNamed_65 : decode cX14_readNamed 65 = .ok (.istore 4, 2) := by decide +kernel
theorem dX14_readNamed_67 : decode cX14_readNamed 67 = .ok (.goto (-37), 3) := by decide +kernel
theorem dX14_readNamed_49 : decode cX14_readNamed 49 = .ok (.aload_n 0, 1) := by decide +kernel
theorem dX14_readNamed_50 : decode cX14_readNamed 50 = .ok (.iconst 3, 1) := by decide +kernel
theorem dX14_readNamed_51 : decode cX14_readNamed 51 = .ok (.iload_n 3, 1) := by decide +kernel
theorem dX14_readNamed_52 : decode cX14_readNamed 52 = .ok (.invokevirtual 280, 3) := by decide +kernel
theorem dX14_readNamed_12 : decode cX14_readNamed 12 = .ok (.iconst 0, 1) := by decide +kernel
theorem dX14_readNamed_13 : decode cX14_readNamed 13 = .ok (.ireturn, 1) := by decide +kernel
theorem dX14_readCall_0 : decode cX14_readCall 0 = .ok (.aload_n 0, 1) := by decide +kernel
theorem dX14_readCall_1 : decode cX14_readCall 1 = .ok (.invokevirtual 572, 3) := by decide +kernel
theorem dX14_readCall_4 : decode cX14_readCall 4 = .ok (.istore_n 3, 1) := by decide +kernel
theorem dX14_readCall_5 : decode cX14_readCall 5 = .ok (.iload_n 2, 1) := by decide +kernel
theorem dX14_readCall_6 : decode cX14_readCall 6 = .ok (.ifCond .eq 19, 3) := by decide +kernel
theorem dX14_readCall_25 : decode cX14_readCall 25 = .ok (.aload_n 0, 1) := by decide +kernel
theorem dX14_readCall_26 : decode cX14_readCall 26 = .ok (.invokevirtual 658, 3) := by decide +kernel
theorem dX14_readCall_29 : decode cX14_readCall 29 = .ok (.istore 4, 2) := by decide +kernel
theorem dX14_readCall_31 : decode cX14_readCall 31 = .ok (.aload_n 0, 1) := by decide +kernel
theorem dX14_readCall_32 : decode cX14_readCall 32 = .ok (.getfield 248, 3) := by decide +kernel
theorem dX14_readCall_35 : decode cX14_readCall 35 = .ok (.ifCond .eq 5, 3) := by decide +kernel
theorem dX14_readCall_40 : decode cX14_readCall 40 = .ok (.aload_n 0, 1) := by decide +kernel
theorem dX14_readCall_41 : decode cX14_readCall 41 = .ok (.getfield 610, 3) := by decide +kernel
theorem dX14_readCall_44 : decode cX14_readCall 44 = .ok (.istore 5, 2) := by decide +kernel
theorem dX14_readCall_46 : decode cX14_readCall 46 = .ok (.aload_n 0, 1) := by decide +kernel
theorem dX14_readCall_47 : decode cX14_readCall 47 = .ok (.invokevirtual 566, 3) := by decide +kernel
theorem dX14_readCall_50 : decode cX14_readCall 50 = .ok (.aload_n 0, 1) := by decide +kernel
theorem dX14_readCall_51 : decode cX14_readCall 51 = .ok (.invokevirtual 569, 3) := by decide +kernel
theorem dX14_readCall_54 : decode cX14_readCall 54 = .ok (.bipush 40, 2) := by decide +kernel
theorem dX14_readCall_56 : decode cX14_readCall 56 = .ok (.if_icmp .eq 34, 3) := by decide +kernel
theorem dX14_readCall_90 : decode cX14_readCall 90 = .ok (.aload_n 0, 1) := by decide +kernel
theorem dX14_readCall_91 : decode cX14_readCall 91 = .ok (.dup, 1) := by decide +kernel
theorem dX14_readCall_92 : decode cX14_readCall 92 = .ok (.getfield 548, 3) := by decide +kernel
theorem dX14_readCall_95 : decode cX14_readCall 95 = .ok (.iconst 1, 1) := by decide +kernel
theorem dX14_readCall_96 : decode cX14_readCall 96 = .ok (.iadd, 1) := by decide +kernel
theorem dX14_readCall_97 : decode cX14_readCall 97 = .ok (.putfield 548, 3) := by decide +kernel
theorem dX14_readCall_100 : decode cX14_readCall 100 = .ok (.aload_n 0, 1) := by decide +kernel
theorem dX14_readCall_101 : decode cX14_readCall 101 = .ok (.iload_n 1, 1) := by decide +kernel
theorem dX14_readCall_102 : decode cX14_readCall 102 = .ok (.iload 4, 2) := by decide +kernel
theorem dX14_readCall_104 : decode cX14_readCall 104 = .ok (.iconst 0, 1) := by decide +kernel
theorem dX14_readCall_105 : decode cX14_readCall 105 = .ok (.iload 5, 2) := by decide +kernel
theorem dX14_readCall_107 : decode cX14_readCall 107 = .ok (.invokevirtual 387, 3) := by decide +kernel
theorem dX14_readCall_110 : decode cX14_readCall 110 = .ok (.istore 6, 2) := by decide +kernel
theorem dX14_readCall_112 : decode cX14_readCall 112 = .ok (.aload_n 0, 1) := by decide +kernel
theorem dX14_readCall_113 : decode cX14_readCall 113 = .ok (.getfield 334, 3) := by decide +kernel
theorem dX14_readCall_116 : decode cX14_readCall 116 = .ok (.getfield 362, 3) := by decide +kernel
theorem dX14_readCall_119 : decode cX14_readCall 119 = .ok (.iload 6, 2) := by decide +kernel
theorem dX14_readCall_121 : decode cX14_readCall 121 = .ok (.iload_n 2, 1) := by decide +kernel
theorem dX14_readCall_122 : decode cX14_readCall 122 = .ok (.ifCond .eq 7, 3) := by decide +kernel
theorem dX14_readCall_129 : decode cX14_readCall 129 = .ok (.iconst 0, 1) := by decide +kernel
theorem dX14_readCall_130 : decode cX14_readCall 130 = .ok (.iastore, 1) := by decide +kernel
theorem dX14_readCall_131 : decode cX14_readCall 131 = .ok (.aload_n 0, 1) := by decide +kernel
theorem dX14_readCall_132 : decode cX14_readCall 132 = .ok (.iload_n 1, 1) := by decide +kernel
theorem dX14_readCall_133 : decode cX14_readCall 133 = .ok (.iload 6, 2) := by decide +kernel
theorem dX14_readCall_135 : decode cX14_readCall 135 = .ok (.iconst 0, 1) := by decide +kernel
theorem dX14_readCall_136 : decode cX14_readCall 136 = .ok (.iload 5, 2) := by decide +kernel
theorem dX14_readCall_138 : decode cX14_readCall 138 = .ok (.invokevirtual 479, 3) := by decide +kernel
theorem dX14_readCall_141 : decode cX14_readCall 141 = .ok (.aload_n 0, 1) := by decide +kernel
theorem dX14_readCall_142 : decode cX14_readCall 142 = .ok (.iload 6, 2) := by decide +kernel
theorem dX14_readCall_144 : decode cX14_readCall 144 = .ok (.invokevirtual 726, 3) := by decide +kernel
theorem dX14_readCall_147 : decode cX14_readCall 147 = .ok (.iload 6, 2) := by decide +kernel
theorem dX14_readCall_149 : decode cX14_readCall 149 = .ok (.ireturn, 1) := by decide +kernel
theorem dX14_readCall_125 : decode cX14_readCall 125 = .ok (.iconst 1, 1) := by decide +kernel
theorem dX14_readCall_126 : decode cX14_readCall 126 = .ok (.goto 4, 3) := by decide +kernel
theorem dX14_readCall_59 : decode cX14_readCall 59 = .ok (.iload_n 2, 1) := by decide +kernel
theorem dX14_readCall_60 : decode cX14_readCall 60 = .ok (.ifCond .ne 9, 3) := by decide +kernel
theorem dX14_readCall_69 : decode cX14_readCall 69 = .ok (.aload_n 0, 1) := by decide +kernel
theorem dX14_readCall_70 : decode cX14_readCall 70 = .ok (.iconst 1, 1) := by decide +kernel
theorem dX14_readCall_71 : decode cX14_readCall 71 = .ok (.aload_n 0, 1) := by decide +kernel
theorem dX14_readCall_72 : decode cX14_readCall 72 = .ok (.invokevirtual 572, 3) := by decide +kernel
theorem dX14_readCall_75 : decode cX14_readCall 75 = .ok (.invokevirtual 280, 3) := by decide +kernel
theorem dX14_readCall_78 : decode cX14_readCall 78 = .ok (.aload_n 0, 1) := by decide +kernel
theorem dX14_readCall_79 : decode cX14_readCall 79 = .ok (.bipush 35, 2) := by decide +kernel
theorem dX14_readCall_81 : decode cX14_readCall 81 = .ok (.iload 4, 2) := by decide +kernel
theorem dX14_readCall_83 : decode cX14_readCall 83 = .ok (.iconst 0, 1) := by decide +kernel
theorem dX14_readCall_84 : decode cX14_readCall 84 = .ok (.iload 5, 2) := by decide +kernel
theorem dX14_readCall_86 : decode cX14_readCall 86 = .ok (.invokevirtual 387, 3) := by decide +kernel
theorem dX14_readCall_89 : decode cX14_readCall 89 = .ok (.ireturn, 1) := by decide +kernel
theorem dX14_readCall_63 : decode cX14_readCall 63 = .ok (.iload_n 1, 1) := by decide +kernel
theorem dX14_readCall_64 : decode cX14_readCall 64 = .ok (.bipush 45, 2) := by decide +kernel
theorem dX14_readCall_66 : decode cX14_readCall 66 = .ok (.if_icmp .ne 12, 3) := by decide +kernel
theorem dX14_readCall_38 : decode cX14_readCall 38 = .ok (.iconst 0, 1) := by decide +kernel
theorem dX14_readCall_39 : decode cX14_readCall 39 = .ok (.ireturn, 1) := by decide +kernel
theorem dX14_readCall_9 : decode cX14_readCall 9 = .ok (.aload_n 0, 1) := by decide +kernel
theorem dX14_readCall_10 : decode cX14_readCall 10 = .ok (.dup, 1) := by decide +kernel
theorem dX14_readCall_11 : decode cX14_readCall 11 = .ok (.getfield 548, 3) := by decide +kernel
theorem dX14_readCall_14 : decode cX14_readCall 14 = .ok (.iconst 5, 1) := by decide +kernel
theorem dX14_readCall_15 : decode cX14_readCall 15 = .ok (.iadd, 1) := by decide +kernel
theorem dX14_readCall_16 : decode cX14_readCall 16 = .ok (.putfield 548, 3) := by decide +kernel
theorem dX14_readCall_19 : decode cX14_readCall 19 = .ok (.aload_n 0, 1) := by decide +kernel
theorem dX14_readCall_20 : decode cX14_readCall 20 = .ok (.bipush 46, 2) := by decide +kernel
theorem dX14_readCall_22 : decode cX14_readCall 22 = .ok (.invokevirtual 650, 3) := by decide +kernel
theorem dX14_readApplied_0 : decode cX14_readApplied 0 = .ok (.aload_n 0, 1) := by decide +kernel
theorem dX14_readApplied_1 : decode cX14_readApplied 1 = .ok (.invokevirtual 566, 3) := by decide +kernel
theorem dX14_readApplied_4 : decode cX14_readApplied 4 = .ok (.aload_n 0, 1) := by decide +kernel
theorem dX14_readApplied_5 : decode cX14_readApplied 5 = .ok (.getfield 248, 3) := by decide +kernel
theorem dX14_readApplied_8 : decode cX14_readApplied 8 = .ok (.ifCond .eq 5, 3) := by decide +kernel
theorem dX14_readApplied_13 : decode cX14_readApplied 13 = .ok (.aload_n 0, 1) := by decide +kernel
theorem dX14_readApplied_14 : decode cX14_readApplied 14 = .ok (.invokevirtual 572, 3) := by decide +kernel
theorem dX14_readApplied_17 : decode cX14_readApplied 17 = .ok (.istore_n 1, 1) := by decide +kernel
theorem dX14_readApplied_18 : decode cX14_readApplied 18 = .ok (.aload_n 0, 1) := by decide +kernel
theorem dX14_readApplied_19 : decode cX14_readApplied 19 = .ok (.invokevirtual 569, 3) := by decide +kernel
theorem dX14_readApplied_22 : decode cX14_readApplied 22 = .ok (.bipush 123, 2) := by decide +kernel
theorem dX14_readApplied_24 : decode cX14_readApplied 24 = .ok (.if_icmp .ne 45, 3) := by decide +kernel
theorem dX14_readApplied_69 : decode cX14_readApplied 69 = .ok (.aload_n 0, 1) := by decide +kernel
theorem dX14_readApplied_70 : decode cX14_readApplied 70 = .ok (.invokevirtual 569, 3) := by decide +kernel
theorem dX14_readApplied_73 : decode cX14_readApplied 73 = .ok (.bipush 40, 2) := by decide +kernel
theorem dX14_readApplied_75 : decode cX14_readApplied 75 = .ok (.if_icmp .ne 47, 3) := by decide +kernel
theorem dX14_readApplied_122 : decode cX14_readApplied 122 = .ok (.aload_n 0, 1) := by decide +kernel
theorem dX14_readApplied_123 : decode cX14_readApplied 123 = .ok (.bipush 45, 2) := by decide +kernel
theorem dX14_readApplied_125 : decode cX14_readApplied 125 = .ok (.aload_n 0, 1) := by decide +kernel
theorem dX14_readApplied_126 : decode cX14_readApplied 126 = .ok (.ldc_w 608, 3) := by decide +kernel
theorem dX14_readApplied_129 : decode cX14_readApplied 129 = .ok (.invokevirtual 576, 3) := by decide +kernel
theorem dX14_readApplied_132 : decode cX14_readApplied 132 = .ok (.invokevirtual 729, 3) := by decide +kernel
theorem dX14_readApplied_135 : decode cX14_readApplied 135 = .ok (.ireturn, 1) := by decide +kernel
theorem dX14_readApplied_78 : decode cX14_readApplied 78 = .ok (.aload_n 0, 1) := by decide +kernel
theorem dX14_readApplied_79 : decode cX14_readApplied 79 = .ok (.dup, 1) := by decide +kernel
theorem dX14_readApplied_80 : decode cX14_readApplied 80 = .ok (.getfield 548, 3) := by decide +kernel
theorem dX14_readApplied_83 : decode cX14_readApplied 83 = .ok (.iconst 1, 1) := by decide +kernel
theorem dX14_readApplied_84 : decode cX14_readApplied 84 = .ok (.iadd, 1) := by decide +kernel
theorem dX14_readApplied_85 : decode cX14_readApplied 85 = .ok (.putfield 548, 3) := by decide +kernel
theorem dX14_readApplied_88 : decode cX14_readApplied 88 = .ok (.aload_n 0, 1) := by decide +kernel
theorem dX14_readApplied_89 : decode cX14_readApplied 89 = .ok (.invokevirtual 711, 3) := by decide +kernel
theorem dX14_readApplied_92 : decode cX14_readApplied 92 = .ok (.istore_n 2, 1) := by decide +kernel
theorem dX14_readApplied_93 : decode cX14_readApplied 93 = .ok (.aload_n 0, 1) := by decide +kernel
theorem dX14_readApplied_94 : decode cX14_readApplied 94 = .ok (.bipush 41, 2) := by decide +kernel
theorem dX14_readApplied_96 : decode cX14_readApplied 96 = .ok (.invokevirtual 650, 3) := by decide +kernel
theorem dX14_readApplied_99 : decode cX14_readApplied 99 = .ok (.aload_n 0, 1) := by decide +kernel
theorem dX14_readApplied_100 : decode cX14_readApplied 100 = .ok (.bipush 40, 2) := by decide +kernel
theorem dX14_readApplied_102 : decode cX14_readApplied 102 = .ok (.invokevirtual 650, 3) := by decide +kernel
theorem dX14_readApplied_105 : decode cX14_readApplied 105 = .ok (.aload_n 0, 1) := by decide +kernel
theorem dX14_readApplied_106 : decode cX14_readApplied 106 = .ok (.bipush 46, 2) := by decide +kernel
theorem dX14_readApplied_108 : decode cX14_readApplied 108 = .ok (.iload_n 2, 1) := by decide +kernel
theorem dX14_readApplied_109 : decode cX14_readApplied 109 = .ok (.iconst 0, 1) := by decide +kernel
theorem dX14_readApplied_110 : decode cX14_readApplied 110 = .ok (.iload_n 1, 1) := by decide +kernel
theorem dX14_readApplied_111 : decode cX14_readApplied 111 = .ok (.invokevirtual 387, 3) := by decide +kernel
theorem dX14_readApplied_114 : decode cX14_readApplied 114 = .ok (.istore_n 3, 1) := by decide +kernel
theorem dX14_readApplied_115 : decode cX14_readApplied 115 = .ok (.aload_n 0, 1) := by decide +kernel
theorem dX14_readApplied_116 : decode cX14_readApplied 116 = .ok (.iload_n 3, 1) := by decide +kernel
theorem dX14_readApplied_117 : decode cX14_readApplied 117 = .ok (.invokevirtual 726, 3) := by decide +kernel
theorem dX14_readApplied_120 : decode cX14_readApplied 120 = .ok (.iload_n 3, 1) := by decide +kernel
theorem dX14_readApplied_121 : decode cX14_readApplied 121 = .ok (.ireturn, 1) := by decide +kernel
theorem dX14_readApplied_27 : decode cX14_readApplied 27 = .ok (.aload_n 0, 1) := by decide +kernel
theorem dX14_readApplied_28 : decode cX14_readApplied 28 = .ok (.getfield 334, 3) := by decide +kernel
theorem dX14_readApplied_31 : decode cX14_readApplied 31 = .ok (.getfield 486, 3) := by decide +kernel
theorem dX14_readApplied_34 : decode cX14_readApplied 34 = .ok (.istore_n 2, 1) := by decide +kernel
theorem dX14_readApplied_35 : decode cX14_readApplied 35 = .ok (.aload_n 0, 1) := by decide +kernel
theorem dX14_readApplied_36 : decode cX14_readApplied 36 = .ok (.bipush 33, 2) := by decide +kernel
theorem dX14_readApplied_38 : decode cX14_readApplied 38 = .ok (.iconst 0, 1) := by decide +kernel
theorem dX14_readApplied_39 : decode cX14_readApplied 39 = .ok (.iconst 1, 1) := by decide +kernel
theorem dX14_readApplied_40 : decode cX14_readApplied 40 = .ok (.iload_n 1, 1) := by decide +kernel
theorem dX14_readApplied_41 : decode cX14_readApplied 41 = .ok (.invokevirtual 479, 3) := by decide +kernel
theorem dX14_readApplied_44 : decode cX14_readApplied 44 = .ok (.aload_n 0, 1) := by decide +kernel
theorem dX14_readApplied_45 : decode cX14_readApplied 45 = .ok (.invokevirtual 563, 3) := by decide +kernel
theorem dX14_readApplied_48 : decode cX14_readApplied 48 = .ok (.istore_n 3, 1) := by decide +kernel
theorem dX14_readApplied_49 : decode cX14_readApplied 49 = .ok (.aload_n 0, 1) := by decide +kernel
theorem dX14_readApplied_50 : decode cX14_readApplied 50 = .ok (.getfield 334, 3) := by decide +kernel
theorem dX14_readApplied_53 : decode cX14_readApplied 53 = .ok (.getfield 489, 3) := by decide +kernel
theorem dX14_readApplied_56 : decode cX14_readApplied 56 = .ok (.iload_n 2, 1) := by decide +kernel
theorem dX14_readApplied_57 : decode cX14_readApplied 57 = .ok (.iload_n 3, 1) := by decide +kernel
theorem dX14_readApplied_58 : decode cX14_readApplied 58 = .ok (.iastore, 1) := by decide +kernel
theorem dX14_readApplied_59 : decode cX14_readApplied 59 = .ok (.aload_n 0, 1) := by decide +kernel
theorem dX14_readApplied_60 : decode cX14_readApplied 60 = .ok (.bipush 47, 2) := by decide +kernel
theorem dX14_readApplied_62 : decode cX14_readApplied 62 = .ok (.iload_n 3, 1) := by decide +kernel
theorem dX14_readApplied_63 : decode cX14_readApplied 63 = .ok (.iconst 0, 1) := by decide +kernel
theorem dX14_readApplied_64 : decode cX14_readApplied 64 = .ok (.iload_n 1, 1) := by decide +kernel
theorem dX14_readApplied_65 : decode cX14_readApplied 65 = .ok (.invokevirtual 387, 3) := by decide +kernel
theorem dX14_readApplied_68 : decode cX14_readApplied 68 = .ok (.ireturn, 1) := by decide +kernel
theorem dX14_readApplied_11 : decode cX14_readApplied 11 = .ok (.iconst 0, 1) := by decide +kernel
theorem dX14_readApplied_12 : decode cX14_readApplied 12 = .ok (.ireturn, 1) := by decide +kernel
theorem dX14_readPrimary_0 : decode cX14_readPrimary 0 = .ok (.aload_n 0, 1) := by decide +kernel
theorem dX14_readPrimary_1 : decode cX14_readPrimary 1 = .ok (.invokevirtual 572, 3) := by decide +kernel
theorem dX14_readPrimary_4 : decode cX14_readPrimary 4 = .ok (.istore_n 1, 1) := by decide +kernel
theorem dX14_readPrimary_5 : decode cX14_readPrimary 5 = .ok (.aload_n 0, 1) := by decide +kernel
theorem dX14_readPrimary_6 : decode cX14_readPrimary 6 = .ok (.invokevirtual 569, 3) := by decide +kernel
theorem dX14_readPrimary_9 : decode cX14_readPrimary 9 = .ok (.istore_n 2, 1) := by decide +kernel
theorem dX14_readPrimary_10 : decode cX14_readPrimary 10 = .ok (.iload_n 2, 1) := by decide +kernel
theorem dX14_readPrimary_11 : decode cX14_readPrimary 11 = .ok (.bipush 34, 2) := by decide +kernel
theorem dX14_readPrimary_13 : decode cX14_readPrimary 13 = .ok (.if_icmp .eq 9, 3) := by decide +kernel
theorem dX14_readPrimary_22 : decode cX14_readPrimary 22 = .ok (.aload_n 0, 1) := by decide +kernel
theorem dX14_readPrimary_23 : decode cX14_readPrimary 23 = .ok (.iload_n 2, 1) := by decide +kernel
theorem dX14_readPrimary_24 : decode cX14_readPrimary 24 = .ok (.invokevirtual 720, 3) := by decide +kernel
theorem dX14_readPrimary_27 : decode cX14_readPrimary 27 = .ok (.ireturn, 1) := by decide +kernel
theorem dX14_readPrimary_16 : decode cX14_readPrimary 16 = .ok (.iload_n 2, 1) := by decide +kernel
theorem dX14_readPrimary_17 : decode cX14_readPrimary 17 = .ok (.bipush 39, 2) := by decide +kernel
theorem dX14_readPrimary_19 : decode cX14_readPrimary 19 = .ok (.if_icmp .ne 9, 3) := by decide +kernel
theorem dX14_readPrimary_28 : decode cX14_readPrimary 28 = .ok (.iload_n 2, 1) := by decide +kernel
theorem dX14_readPrimary_29 : decode cX14_readPrimary 29 = .ok (.bipush 123, 2) := by decide +kernel
theorem dX14_readPrimary_31 : decode cX14_readPrimary 31 = .ok (.if_icmp .ne 8, 3) := by decide +kernel
theorem dX14_readPrimary_39 : decode cX14_readPrimary 39 = .ok (.iload_n 2, 1) := by decide +kernel
theorem dX14_readPrimary_40 : decode cX14_readPrimary 40 = .ok (.bipush 91, 2) := by decide +kernel
theorem dX14_readPrimary_42 : decode cX14_readPrimary 42 = .ok (.if_icmp .ne 8, 3) := by decide +kernel
theorem dX14_readPrimary_50 : decode cX14_readPrimary 50 = .ok (.iload_n 2, 1) := by decide +kernel
theorem dX14_readPrimary_51 : decode cX14_readPrimary 51 = .ok (.bipush 40, 2) := by decide +kernel
theorem dX14_readPrimary_53 : decode cX14_readPrimary 53 = .ok (.if_icmp .ne 84, 3) := by decide +kernel
theorem dX14_readPrimary_137 : decode cX14_readPrimary 137 = .ok (.aload_n 0, 1) := by decide +kernel
theorem dX14_readPrimary_138 : decode cX14_readPrimary 138 = .ok (.ldc_w 323, 3) := by decide +kernel
theorem dX14_readPrimary_141 : decode cX14_readPrimary 141 = .ok (.invokevirtual 576, 3) := by decide +kernel
theorem dX14_readPrimary_144 : decode cX14_readPrimary 144 = .ok (.ifCond .ne 13, 3) := by decide +kernel
theorem dX14_readPrimary_157 : decode cX14_readPrimary 157 = .ok (.aload_n 0, 1) := by decide +kernel
theorem dX14_readPrimary_158 : decode cX14_readPrimary 158 = .ok (.aload_n 0, 1) := by decide +kernel
theorem dX14_readPrimary_159 : decode cX14_readPrimary 159 = .ok (.ldc_w 323, 3) := by decide +kernel
theorem dX14_readPrimary_162 : decode cX14_readPrimary 162 = .ok (.invokevirtual 576, 3) := by decide +kernel
theorem dX14_readPrimary_165 : decode cX14_readPrimary 165 = .ok (.ifCond .eq 8, 3) := by decide +kernel
theorem dX14_readPrimary_173 : decode cX14_readPrimary 173 = .ok (.bipush 32, 2) := by decide +kernel
theorem dX14_readPrimary_175 : decode cX14_readPrimary 175 = .ok (.iconst 0, 1) := by decide +kernel
theorem dX14_readPrimary_176 : decode cX14_readPrimary 176 = .ok (.iconst 0, 1) := by decide +kernel
theorem dX14_readPrimary_177 : decode cX14_readPrimary 177 = .ok (.iload_n 1, 1) := by decide +kernel
theorem dX14_readPrimary_178 : decode cX14_readPrimary 178 = .ok (.invokevirtual 387, 3) := by decide +kernel
theorem dX14_readPrimary_181 : decode cX14_readPrimary 181 = .ok (.istore_n 3, 1) := by decide +kernel
theorem dX14_readPrimary_182 : decode cX14_readPrimary 182 = .ok (.aload_n 0, 1) := by decide +kernel
theorem dX14_readPrimary_183 : decode cX14_readPrimary 183 = .ok (.aload_n 0, 1) := by decide +kernel
theorem dX14_readPrimary_184 : decode cX14_readPrimary 184 = .ok (.getfield 36, 3) := by decide +kernel
theorem dX14_readPrimary_187 : decode cX14_readPrimary 187 = .ok (.aload_n 0, 1) := by decide +kernel
theorem dX14_readPrimary_188 : decode cX14_readPrimary 188 = .ok (.getfield 533, 3) := by decide +kernel
theorem dX14_readPrimary_191 : decode cX14_readPrimary 191 = .ok (.aload_n 0, 1) := by decide +kernel
theorem dX14_readPrimary_192 : decode cX14_readPrimary 192 = .ok (.getfield 548, 3) := by decide +kernel
theorem dX14_readPrimary_195 : decode cX14_readPrimary 195 = .ok (.invokestatic 300, 3) := by decide +kernel
theorem dX14_readPrimary_198 : decode cX14_readPrimary 198 = .ok (.putfield 548, 3) := by decide +kernel
theorem dX14_readPrimary_201 : decode cX14_readPrimary 201 = .ok (.iload_n 3, 1) := by decide +kernel
theorem dX14_readPrimary_202 : decode cX14_readPrimary 202 = .ok (.ireturn, 1) := by decide +kernel
theorem dX14_readPrimary_168 : decode cX14_readPrimary 168 = .ok (.bipush 31, 2) := by decide +kernel
theorem dX14_readPrimary_170 : decode cX14_readPrimary 170 = .ok (.goto 5, 3) := by decide +kernel
theorem dX14_readPrimary_147 : decode cX14_readPrimary 147 = .ok (.aload_n 0, 1) := by decide +kernel
theorem dX14_readPrimary_148 : decode cX14_readPrimary 148 = .ok (.ldc_w 325, 3) := by decide +kernel
theorem dX14_readPrimary_151 : decode cX14_readPrimary 151 = .ok (.invokevirtual 576, 3) := by decide +kernel
theorem dX14_readPrimary_154 : decode cX14_readPrimary 154 = .ok (.ifCond .eq 49, 3) := by decide +kernel
theorem dX14_readPrimary_203 : decode cX14_readPrimary 203 = .ok (.aload_n 0, 1) := by decide +kernel
theorem dX14_readPrimary_204 : decode cX14_readPrimary 204 = .ok (.invokevirtual 602, 3) := by decide +kernel
theorem dX14_readPrimary_207 : decode cX14_readPrimary 207 = .ok (.ifCond .lt 62, 3) := by decide +kernel
theorem dX14_readPrimary_269 : decode cX14_readPrimary 269 = .ok (.aload_n 0, 1) := by decide +kernel
theorem dX14_readPrimary_270 : decode cX14_readPrimary 270 = .ok (.ldc_w 608, 3) := by decide +kernel
theorem dX14_readPrimary_273 : decode cX14_readPrimary 273 = .ok (.invokevirtual 576, 3) := by decide +kernel
theorem dX14_readPrimary_276 : decode cX14_readPrimary 276 = .ok (.ifCond .eq 13, 3) := by decide +kernel
theorem dX14_readPrimary_289 : decode cX14_readPrimary 289 = .ok (.aload_n 0, 1) := by decide +kernel
theorem dX14_readPrimary_290 : decode cX14_readPrimary 290 = .ok (.bipush 36, 2) := by decide +kernel
theorem dX14_readPrimary_292 : decode cX14_readPrimary 292 = .ok (.iconst 0, 1) := by decide +kernel
theorem dX14_readPrimary_293 : decode cX14_readPrimary 293 = .ok (.invokevirtual 729, 3) := by decide +kernel
theorem dX14_readPrimary_296 : decode cX14_readPrimary 296 = .ok (.ireturn, 1) := by decide +kernel
theorem dX14_readPrimary_279 : decode cX14_readPrimary 279 = .ok (.aload_n 0, 1) := by decide +kernel
theorem dX14_readPrimary_280 : decode cX14_readPrimary 280 = .ok (.bipush 36, 2) := by decide +kernel
theorem dX14_readPrimary_282 : decode cX14_readPrimary 282 = .ok (.iconst 1, 1) := by decide +kernel
theorem dX14_readPrimary_283 : decode cX14_readPrimary 283 = .ok (.invokevirtual 729, 3) := by decide +kernel
theorem dX14_readPrimary_286 : decode cX14_readPrimary 286 = .ok (.goto 10, 3) := by decide +kernel
theorem dX14_readPrimary_210 : decode cX14_readPrimary 210 = .ok (.aload_n 0, 1) := by decide +kernel
theorem dX14_readPrimary_211 : decode cX14_readPrimary 211 = .ok (.bipush 38, 2) := by decide +kernel
theorem dX14_readPrimary_213 : decode cX14_readPrimary 213 = .ok (.aload_n 0, 1) := by decide +kernel
theorem dX14_readPrimary_214 : decode cX14_readPrimary 214 = .ok (.invokevirtual 602, 3) := by decide +kernel
theorem dX14_readPrimary_217 : decode cX14_readPrimary 217 = .ok (.iconst 0, 1) := by decide +kernel
theorem dX14_readPrimary_218 : decode cX14_readPrimary 218 = .ok (.iload_n 1, 1) := by decide +kernel
theorem dX14_readPrimary_219 : decode cX14_readPrimary 219 = .ok (.invokevirtual 387, 3) := by decide +kernel
theorem dX14_readPrimary_222 : decode cX14_readPrimary 222 = .ok (.istore_n 3, 1) := by decide +kernel
theorem dX14_readPrimary_223 : decode cX14_readPrimary 223 = .ok (.aload_n 0, 1) := by decide +kernel
theorem dX14_readPrimary_224 : decode cX14_readPrimary 224 = .ok (.aload_n 0, 1) := by decide +kernel
theorem dX14_readPrimary_225 : decode cX14_readPrimary 225 = .ok (.getfield 36, 3) := by decide +kernel
theorem dX14_readPrimary_228 : decode cX14_readPrimary 228 = .ok (.aload_n 0, 1) := by decide +kernel
theorem dX14_readPrimary_229 : decode cX14_readPrimary 229 = .ok (.getfield 533, 3) := by decide +kernel
theorem dX14_readPrimary_232 : decode cX14_readPrimary 232 = .ok (.aload_n 0, 1) := by decide +kernel
theorem dX14_readPrimary_233 : decode cX14_readPrimary 233 = .ok (.getfield 548, 3) := by decide +kernel
theorem dX14_readPrimary_236 : decode cX14_readPrimary 236 = .ok (.invokestatic 300, 3) := by decide +kernel
theorem dX14_readPrimary_239 : decode cX14_readPrimary 239 = .ok (.putfield 548, 3) := by decide +kernel
theorem dX14_readPrimary_242 : decode cX14_readPrimary 242 = .ok (.aload_n 0, 1) := by decide +kernel
theorem dX14_readPrimary_243 : decode cX14_readPrimary 243 = .ok (.bipush 40, 2) := by decide +kernel
theorem dX14_readPrimary_245 : decode cX14_readPrimary 245 = .ok (.invokevirtual 650, 3) := by decide +kernel
theorem dX14_readPrimary_248 : decode cX14_readPrimary 248 = .ok (.aload_n 0, 1) := by decide +kernel
theorem dX14_readPrimary_249 : decode cX14_readPrimary 249 = .ok (.getfield 334, 3) := by decide +kernel
theorem dX14_readPrimary_252 : decode cX14_readPrimary 252 = .ok (.getfield 356, 3) := by decide +kernel
theorem dX14_readPrimary_255 : decode cX14_readPrimary 255 = .ok (.iload_n 3, 1) := by decide +kernel
theorem dX14_readPrimary_256 : decode cX14_readPrimary 256 = .ok (.aload_n 0, 1) := by decide +kernel
theorem dX14_readPrimary_257 : decode cX14_readPrimary 257 = .ok (.invokevirtual 711, 3) := by decide +kernel
theorem dX14_readPrimary_260 : decode cX14_readPrimary 260 = .ok (.iastore, 1) := by decide +kernel
theorem dX14_readPrimary_261 : decode cX14_readPrimary 261 = .ok (.aload_n 0, 1) := by decide +kernel
theorem dX14_readPrimary_262 : decode cX14_readPrimary 262 = .ok (.bipush 41, 2) := by decide +kernel
theorem dX14_readPrimary_264 : decode cX14_readPrimary 264 = .ok (.invokevirtual 650, 3) := by decide +kernel
theorem dX14_readPrimary_267 : decode cX14_readPrimary 267 = .ok (.iload_n 3, 1) := by decide +kernel
theorem dX14_readPrimary_268 : decode cX14_readPrimary 268 = .ok (.ireturn, 1) := by decide +kernel
theorem dX14_readPrimary_56 : decode cX14_readPrimary 56 = .ok (.aload_n 0, 1) := by decide +kernel
theorem dX14_readPrimary_57 : decode cX14_readPrimary 57 = .ok (.dup, 1) := by decide +kernel
theorem dX14_readPrimary_58 : decode cX14_readPrimary 58 = .ok (.getfield 548, 3) := by decide +kernel
theorem dX14_readPrimary_61 : decode cX14_readPrimary 61 = .ok (.iconst 1, 1) := by decide +kernel
theorem dX14_readPrimary_62 : decode cX14_readPrimary 62 = .ok (.iadd, 1) := by decide +kernel
theorem dX14_readPrimary_63 : decode cX14_readPrimary 63 = .ok (.putfield 548, 3) := by decide +kernel
theorem dX14_readPrimary_66 : decode cX14_readPrimary 66 = .ok (.aload_n 0, 1) := by decide +kernel
theorem dX14_readPrimary_67 : decode cX14_readPrimary 67 = .ok (.invokevirtual 711, 3) := by decide +kernel
theorem dX14_readPrimary_70 : decode cX14_readPrimary 70 = .ok (.istore_n 3, 1) := by decide +kernel
theorem dX14_readPrimary_71 : decode cX14_readPrimary 71 = .ok (.aload_n 0, 1) := by decide +kernel
theorem dX14_readPrimary_72 : decode cX14_readPrimary 72 = .ok (.bipush 41, 2) := by decide +kernel
theorem dX14_readPrimary_74 : decode cX14_readPrimary 74 = .ok (.invokevirtual 650, 3) := by decide +kernel
theorem dX14_readPrimary_77 : decode cX14_readPrimary 77 = .ok (.aload_n 0, 1) := by decide +kernel
theorem dX14_readPrimary_78 : decode cX14_readPrimary 78 = .ok (.invokevirtual 566, 3) := by decide +kernel
theorem dX14_readPrimary_81 : decode cX14_readPrimary 81 = .ok (.aload_n 0, 1) := by decide +kernel
theorem dX14_readPrimary_82 : decode cX14_readPrimary 82 = .ok (.invokevirtual 569, 3) := by decide +kernel
theorem dX14_readPrimary_85 : decode cX14_readPrimary 85 = .ok (.bipush 40, 2) := by decide +kernel
theorem dX14_readPrimary_87 : decode cX14_readPrimary 87 = .ok (.if_icmp .ne 10, 3) := by decide +kernel
theorem dX14_readPrimary_97 : decode cX14_readPrimary 97 = .ok (.aload_n 0, 1) := by decide +kernel
theorem dX14_readPrimary_98 : decode cX14_readPrimary 98 = .ok (.bipush 39, 2) := by decide +kernel
theorem dX14_readPrimary_100 : decode cX14_readPrimary 100 = .ok (.iload_n 3, 1) := by decide +kernel
theorem dX14_readPrimary_101 : decode cX14_readPrimary 101 = .ok (.iconst 0, 1) := by decide +kernel
theorem dX14_readPrimary_102 : decode cX14_readPrimary 102 = .ok (.iload_n 1, 1) := by decide +kernel
theorem dX14_readPrimary_103 : decode cX14_readPrimary 103 = .ok (.invokevirtual 387, 3) := by decide +kernel
theorem dX14_readPrimary_106 : decode cX14_readPrimary 106 = .ok (.ireturn, 1) := by decide +kernel
theorem dX14_readPrimary_90 : decode cX14_readPrimary 90 = .ok (.aload_n 0, 1) := by decide +kernel
theorem dX14_readPrimary_91 : decode cX14_readPrimary 91 = .ok (.getfield 248, 3) := by decide +kernel
theorem dX14_readPrimary_94 : decode cX14_readPrimary 94 = .ok (.ifCond .eq 13, 3) := by decide +kernel
theorem dX14_readPrimary_107 : decode cX14_readPrimary 107 = .ok (.aload_n 0, 1) := by decide +kernel
theorem dX14_readPrimary_108 : decode cX14_readPrimary 108 = .ok (.dup, 1) := by decide +kernel
theorem dX14_readPrimary_109 : decode cX14_readPrimary 109 = .ok (.getfield 548, 3) := by decide +kernel
theorem dX14_readPrimary_112 : decode cX14_readPrimary 112 = .ok (.iconst 1, 1) := by decide +kernel
theorem dX14_readPrimary_113 : decode cX14_readPrimary 113 = .ok (.iadd, 1) := by decide +kernel
theorem dX14_readPrimary_114 : decode cX14_readPrimary 114 = .ok (.putfield 548, 3) := by decide +kernel
theorem dX14_readPrimary_117 : decode cX14_readPrimary 117 = .ok (.aload_n 0, 1) := by decide +kernel
theorem dX14_readPrimary_118 : decode cX14_readPrimary 118 = .ok (.bipush 37, 2) := by decide +kernel
theorem dX14_readPrimary_120 : decode cX14_readPrimary 120 = .ok (.iload_n 3, 1) := by decide +kernel
theorem dX14_readPrimary_121 : decode cX14_readPrimary 121 = .ok (.iconst 0, 1) := by decide +kernel
theorem dX14_readPrimary_122 : decode cX14_readPrimary 122 = .ok (.iload_n 1, 1) := by decide +kernel
theorem dX14_readPrimary_123 : decode cX14_readPrimary 123 = .ok (.invokevirtual 387, 3) := by decide +kernel
theorem dX14_readPrimary_126 : decode cX14_readPrimary 126 = .ok (.istore 4, 2) := by decide +kernel
theorem dX14_readPrimary_128 : decode cX14_readPrimary 128 = .ok (.aload_n 0, 1) := by decide +kernel
theorem dX14_readPrimary_129 : decode cX14_readPrimary 129 = .ok (.iload 4, 2) := by decide +kernel
theorem dX14_readPrimary_131 : decode cX14_readPrimary 131 = .ok (.invokevirtual 726, 3) := by decide +kernel
theorem dX14_readPrimary_134 : decode cX14_readPrimary 134 = .ok (.iload 4, 2) := by decide +kernel
theorem dX14_readPrimary_136 : decode cX14_readPrimary 136 = .ok (.ireturn, 1) := by decide +kernel
theorem dX14_readPrimary_45 : decode cX14_readPrimary 45 = .ok (.aload_n 0, 1) := by decide +kernel
theorem dX14_readPrimary_46 : decode cX14_readPrimary 46 = .ok (.invokevirtual 723, 3) := by decide +kernel
theorem dX14_readPrimary_49 : decode cX14_readPrimary 49 = .ok (.ireturn, 1) := by decide +kernel
theorem dX14_readPrimary_34 : decode cX14_readPrimary 34 = .ok (.aload_n 0, 1) := by decide +kernel
theorem dX14_readPrimary_35 : decode cX14_readPrimary 35 = .ok (.invokevirtual 563, 3) := by decide +kernel
theorem dX14_readPrimary_38 : decode cX14_readPrimary 38 = .ok (.ireturn, 1) := by decide +kernel
theorem dX14_readNot_0 : decode cX14_readNot 0 = .ok (.aload_n 0, 1) := by decide +kernel
theorem dX14_readNot_1 : decode cX14_readNot 1 = .ok (.invokevirtual 566, 3) := by decide +kernel
theorem dX14_readNot_4 : decode cX14_readNot 4 = .ok (.aload_n 0, 1) := by decide +kernel
theorem dX14_readNot_5 : decode cX14_readNot 5 = .ok (.getfield 248, 3) := by decide +kernel
theorem dX14_readNot_8 : decode cX14_readNot 8 = .ok (.ifCond .eq 5, 3) := by decide +kernel
theorem dX14_readNot_13 : decode cX14_readNot 13 = .ok (.aload_n 0, 1) := by decide +kernel
theorem dX14_readNot_14 : decode cX14_readNot 14 = .ok (.invokevirtual 572, 3) := by decide +kernel
theorem dX14_readNot_17 : decode cX14_readNot 17 = .ok (.istore_n 1, 1) := by decide +kernel
theorem dX14_readNot_18 : decode cX14_readNot 18 = .ok (.aload_n 0, 1) := by decide +kernel
theorem dX14_readNot_19 : decode cX14_readNot 19 = .ok (.invokevirtual 569, 3) := by decide +kernel
theorem dX14_readNot_22 : decode cX14_readNot 22 = .ok (.bipush 33, 2) := by decide +kernel
theorem dX14_readNot_24 : decode cX14_readNot 24 = .ok (.if_icmp .ne 43, 3) := by decide +kernel
theorem dX14_readNot_67 : decode cX14_readNot 67 = .ok (.aload_n 0, 1) := by decide +kernel
theorem dX14_readNot_68 : decode cX14_readNot 68 = .ok (.invokevirtual 569, 3) := by decide +kernel
theorem dX14_readNot_71 : decode cX14_readNot 71 = .ok (.bipush 40, 2) := by decide +kernel
theorem dX14_readNot_73 : decode cX14_readNot 73 = .ok (.if_icmp .ne 49, 3) := by decide +kernel
theorem dX14_readNot_122 : decode cX14_readNot 122 = .ok (.aload_n 0, 1) := by decide +kernel
theorem dX14_readNot_123 : decode cX14_readNot 123 = .ok (.bipush 58, 2) := by decide +kernel
theorem dX14_readNot_125 : decode cX14_readNot 125 = .ok (.aload_n 0, 1) := by decide +kernel
theorem dX14_readNot_126 : decode cX14_readNot 126 = .ok (.invokevirtual 692, 3) := by decide +kernel
theorem dX14_readNot_129 : decode cX14_readNot 129 = .ok (.iconst 0, 1) := by decide +kernel
theorem dX14_readNot_130 : decode cX14_readNot 130 = .ok (.iload_n 1, 1) := by decide +kernel
theorem dX14_readNot_131 : decode cX14_readNot 131 = .ok (.invokevirtual 387, 3) := by decide +kernel
theorem dX14_readNot_134 : decode cX14_readNot 134 = .ok (.ireturn, 1) := by decide +kernel
theorem dX14_readNot_76 : decode cX14_readNot 76 = .ok (.aload_n 0, 1) := by decide +kernel
theorem dX14_readNot_77 : decode cX14_readNot 77 = .ok (.iload_n 1, 1) := by decide +kernel
theorem dX14_readNot_78 : decode cX14_readNot 78 = .ok (.invokevirtual 677, 3) := by decide +kernel
theorem dX14_readNot_81 : decode cX14_readNot 81 = .ok (.aload_n 0, 1) := by decide +kernel
theorem dX14_readNot_82 : decode cX14_readNot 82 = .ok (.dup, 1) := by decide +kernel
theorem dX14_readNot_83 : decode cX14_readNot 83 = .ok (.getfield 548, 3) := by decide +kernel
theorem dX14_readNot_86 : decode cX14_readNot 86 = .ok (.iconst 1, 1) := by decide +kernel
theorem dX14_readNot_87 : decode cX14_readNot 87 = .ok (.iadd, 1) := by decide +kernel
theorem dX14_readNot_88 : decode cX14_readNot 88 = .ok (.putfield 548, 3) := by decide +kernel
theorem dX14_readNot_91 : decode cX14_readNot 91 = .ok (.aload_n 0, 1) := by decide +kernel
theorem dX14_readNot_92 : decode cX14_readNot 92 = .ok (.bipush 59, 2) := by decide +kernel
theorem dX14_readNot_94 : decode cX14_readNot 94 = .ok (.aload_n 0, 1) := by decide +kernel
theorem dX14_readNot_95 : decode cX14_readNot 95 = .ok (.invokevirtual 653, 3) := by decide +kernel
theorem dX14_readNot_98 : decode cX14_readNot 98 = .ok (.iconst 0, 1) := by decide +kernel
theorem dX14_readNot_99 : decode cX14_readNot 99 = .ok (.iload_n 1, 1) := by decide +kernel
theorem dX14_readNot_100 : decode cX14_readNot 100 = .ok (.invokevirtual 387, 3) := by decide +kernel
theorem dX14_readNot_103 : decode cX14_readNot 103 = .ok (.istore_n 2, 1) := by decide +kernel
theorem dX14_readNot_104 : decode cX14_readNot 104 = .ok (.aload_n 0, 1) := by decide +kernel
theorem dX14_readNot_105 : decode cX14_readNot 105 = .ok (.bipush 41, 2) := by decide +kernel
theorem dX14_readNot_107 : decode cX14_readNot 107 = .ok (.invokevirtual 650, 3) := by decide +kernel
theorem dX14_readNot_110 : decode cX14_readNot 110 = .ok (.aload_n 0, 1) := by decide +kernel
theorem dX14_readNot_111 : decode cX14_readNot 111 = .ok (.dup, 1) := by decide +kernel
theorem dX14_readNot_112 : decode cX14_readNot 112 = .ok (.getfield 551, 3) := by decide +kernel
theorem dX14_readNot_115 : decode cX14_readNot 115 = .ok (.iconst 1, 1) := by decide +kernel
theorem dX14_readNot_116 : decode cX14_readNot 116 = .ok (.isub, 1) := by decide +kernel
theorem dX14_readNot_117 : decode cX14_readNot 117 = .ok (.putfield 551, 3) := by decide +kernel
theorem dX14_readNot_120 : decode cX14_readNot 120 = .ok (.iload_n 2, 1) := by decide +kernel
theorem dX14_readNot_121 : decode cX14_readNot 121 = .ok (.ireturn, 1) := by decide +kernel
theorem dX14_readNot_27 : decode cX14_readNot 27 = .ok (.aload_n 0, 1) := by decide +kernel
theorem dX14_readNot_28 : decode cX14_readNot 28 = .ok (.iload_n 1, 1) := by decide +kernel
theorem dX14_readNot_29 : decode cX14_readNot 29 = .ok (.invokevirtual 677, 3) := by decide +kernel
theorem dX14_readNot_32 : decode cX14_readNot 32 = .ok (.aload_n 0, 1) := by decide +kernel
theorem dX14_readNot_33 : decode cX14_readNot 33 = .ok (.dup, 1) := by decide +kernel
theorem dX14_readNot_34 : decode cX14_readNot 34 = .ok (.getfield 548, 3) := by decide +kernel
theorem dX14_readNot_37 : decode cX14_readNot 37 = .ok (.iconst 1, 1) := by decide +kernel
theorem dX14_readNot_38 : decode cX14_readNot 38 = .ok (.iadd, 1) := by decide +kernel
theorem dX14_readNot_39 : decode cX14_readNot 39 = .ok (.putfield 548, 3) := by decide +kernel
theorem dX14_readNot_42 : decode cX14_readNot 42 = .ok (.aload_n 0, 1) := by decide +kernel
theorem dX14_readNot_43 : decode cX14_readNot 43 = .ok (.bipush 57, 2) := by decide +kernel
theorem dX14_readNot_45 : decode cX14_readNot 45 = .ok (.aload_n 0, 1) := by decide +kernel
theorem dX14_readNot_46 : decode cX14_readNot 46 = .ok (.invokevirtual 754, 3) := by decide +kernel
theorem dX14_readNot_49 : decode cX14_readNot 49 = .ok (.iconst 0, 1) := by decide +kernel
theorem dX14_readNot_50 : decode cX14_readNot 50 = .ok (.iload_n 1, 1) := by decide +kernel
theorem dX14_readNot_51 : decode cX14_readNot 51 = .ok (.invokevirtual 387, 3) := by decide +kernel
theorem dX14_readNot_54 : decode cX14_readNot 54 = .ok (.istore_n 2, 1) := by decide +kernel
theorem dX14_readNot_55 : decode cX14_readNot 55 = .ok (.aload_n 0, 1) := by decide +kernel
theorem dX14_readNot_56 : decode cX14_readNot 56 = .ok (.dup, 1) := by decide +kernel
theorem dX14_readNot_57 : decode cX14_readNot 57 = .ok (.getfield 551, 3) := by decide +kernel
theorem dX14_readNot_60 : decode cX14_readNot 60 = .ok (.iconst 1, 1) := by decide +kernel
theorem dX14_readNot_61 : decode cX14_readNot 61 = .ok (.isub, 1) := by decide +kernel
theorem dX14_readNot_62 : decode cX14_readNot 62 = .ok (.putfield 551, 3) := by decide +kernel
theorem dX14_readNot_65 : decode cX14_readNot 65 = .ok (.iload_n 2, 1) := by decide +kernel
theorem dX14_readNot_66 : decode cX14_readNot 66 = .ok (.ireturn, 1) := by decide +kernel
theorem dX14_readNot_11 : decode cX14_readNot 11 = .ok (.iconst 0, 1) := by decide +kernel
theorem dX14_readNot_12 : decode cX14_readNot 12 = .ok (.ireturn, 1) := by decide +kernel
theorem dX14_readBoth_0 : decode cX14_readBoth 0 = .ok (.aload_n 0, 1) := by decide +kernel
theorem dX14_readBoth_1 : decode cX14_readBoth 1 = .ok (.invokevirtual 754, 3) := by decide +kernel
theorem dX14_readBoth_4 : decode cX14_readBoth 4 = .ok (.istore_n 1, 1) := by decide +kernel
theorem dX14_readBoth_5 : decode cX14_readBoth 5 = .ok (.aload_n 0, 1) := by decide +kernel
theorem dX14_readBoth_6 : decode cX14_readBoth 6 = .ok (.invokevirtual 566, 3) := by decide +kernel
theorem dX14_readBoth_9 : decode cX14_readBoth 9 = .ok (.aload_n 0, 1) := by decide +kernel
theorem dX14_readBoth_10 : decode cX14_readBoth 10 = .ok (.getfield 248, 3) := by decide +kernel
theorem dX14_readBoth_13 : decode cX14_readBoth 13 = .ok (.ifCond .ne 12, 3) := by decide +kernel
theorem dX14_readBoth_25 : decode cX14_readBoth 25 = .ok (.iload_n 1, 1) := by decide +kernel
theorem dX14_readBoth_26 : decode cX14_readBoth 26 = .ok (.ireturn, 1) := by decide +kernel
theorem dX14_readBoth_16 : decode cX14_readBoth 16 = .ok (.aload_n 0, 1) := by decide +kernel
theorem dX14_readBoth_17 : decode cX14_readBoth 17 = .ok (.bipush 38, 2) := by decide +kernel
theorem dX14_readBoth_19 : decode cX14_readBoth 19 = .ok (.invokevirtual 751, 3) := by decide +kernel
theorem dX14_readBoth_22 : decode cX14_readBoth 22 = .ok (.ifCond .ne 5, 3) := by decide +kernel
theorem dX14_readBoth_27 : decode cX14_readBoth 27 = .ok (.aload_n 0, 1) := by decide +kernel
theorem dX14_readBoth_28 : decode cX14_readBoth 28 = .ok (.bipush 56, 2) := by decide +kernel
theorem dX14_readBoth_30 : decode cX14_readBoth 30 = .ok (.iload_n 1, 1) := by decide +kernel
theorem dX14_readBoth_31 : decode cX14_readBoth 31 = .ok (.iconst 0, 1) := by decide +kernel
theorem dX14_readBoth_32 : decode cX14_readBoth 32 = .ok (.iconst 0, 1) := by decide +kernel
theorem dX14_readBoth_33 : decode cX14_readBoth 33 = .ok (.invokevirtual 387, 3) := by decide +kernel
theorem dX14_readBoth_36 : decode cX14_readBoth 36 = .ok (.istore_n 2, 1) := by decide +kernel
theorem dX14_readBoth_37 : decode cX14_readBoth 37 = .ok (.iload_n 1, 1) := by decide +kernel
theorem dX14_readBoth_38 : decode cX14_readBoth 38 = .ok (.istore_n 3, 1) := by decide +kernel
theorem dX14_readBoth_39 : decode cX14_readBoth 39 = .ok (.aload_n 0, 1) := by decide +kernel
theorem dX14_readBoth_40 : decode cX14_readBoth 40 = .ok (.getfield 248, 3) := by decide +kernel
theorem dX14_readBoth_43 : decode cX14_readBoth 43 = .ok (.ifCond .ne 58, 3) := by decide +kernel
theorem dX14_readBoth_101 : decode cX14_readBoth 101 = .ok (.iload_n 2, 1) := by decide +kernel
theorem dX14_readBoth_102 : decode cX14_readBoth 102 = .ok (.ireturn, 1) := by decide +kernel
theorem dX14_readBoth_46 : decode cX14_readBoth 46 = .ok (.aload_n 0, 1) := by decide +kernel
theorem dX14_readBoth_47 : decode cX14_readBoth 47 = .ok (.bipush 38, 2) := by decide +kernel
theorem dX14_readBoth_49 : decode cX14_readBoth 49 = .ok (.invokevirtual 751, 3) := by decide +kernel
theorem dX14_readBoth_52 : decode cX14_readBoth 52 = .ok (.ifCond .eq 49, 3) := by decide +kernel
theorem dX14_readBoth_55 : decode cX14_readBoth 55 = .ok (.aload_n 0, 1) := by decide +kernel
theorem dX14_readBoth_56 : decode cX14_readBoth 56 = .ok (.dup, 1) := by decide +kernel
theorem dX14_readBoth_57 : decode cX14_readBoth 57 = .ok (.getfield 548, 3) := by decide +kernel
theorem dX14_readBoth_60 : decode cX14_readBoth 60 = .ok (.iconst 2, 1) := by decide +kernel
theorem dX14_readBoth_61 : decode cX14_readBoth 61 = .ok (.iadd, 1) := by decide +kernel
theorem dX14_readBoth_62 : decode cX14_readBoth 62 = .ok (.putfield 548, 3) := by decide +kernel
theorem dX14_readBoth_65 : decode cX14_readBoth 65 = .ok (.aload_n 0, 1) := by decide +kernel
theorem dX14_readBoth_66 : decode cX14_readBoth 66 = .ok (.invokevirtual 754, 3) := by decide +kernel
theorem dX14_readBoth_69 : decode cX14_readBoth 69 = .ok (.istore 4, 2) := by decide +kernel
theorem dX14_readBoth_71 : decode cX14_readBoth 71 = .ok (.aload_n 0, 1) := by decide +kernel
theorem dX14_readBoth_72 : decode cX14_readBoth 72 = .ok (.getfield 248, 3) := by decide +kernel
theorem dX14_readBoth_75 : decode cX14_readBoth 75 = .ok (.ifCond .eq 5, 3) := by decide +kernel
theorem dX14_readBoth_80 : decode cX14_readBoth 80 = .ok (.aload_n 0, 1) := by decide +kernel
theorem dX14_readBoth_81 : decode cX14_readBoth 81 = .ok (.getfield 334, 3) := by decide +kernel
theorem dX14_readBoth_84 : decode cX14_readBoth 84 = .ok (.getfield 365, 3) := by decide +kernel
theorem dX14_readBoth_87 : decode cX14_readBoth 87 = .ok (.iload_n 3, 1) := by decide +kernel
theorem dX14_readBoth_88 : decode cX14_readBoth 88 = .ok (.iload 4, 2) := by decide +kernel
theorem dX14_readBoth_90 : decode cX14_readBoth 90 = .ok (.iastore, 1) := by decide +kernel
theorem dX14_readBoth_91 : decode cX14_readBoth 91 = .ok (.iload 4, 2) := by decide +kernel
theorem dX14_readBoth_93 : decode cX14_readBoth 93 = .ok (.istore_n 3, 1) := by decide +kernel
theorem dX14_readBoth_94 : decode cX14_readBoth 94 = .ok (.aload_n 0, 1) := by decide +kernel
theorem dX14_readBoth_95 : decode cX14_readBoth 95 = .ok (.invokevirtual 566, 3) := by decide +kernel
theorem dX14_readBoth_98 : decode cX14_readBoth 98 = .ok (.goto (-59), 3) := by decide +kernel
theorem dX14_readBoth_78 : decode cX14_readBoth 78 = .ok (.iconst 0, 1) := by decide +kernel
theorem dX14_readBoth_79 : decode cX14_readBoth 79 = .ok (.ireturn, 1) := by decide +kernel
theorem dX14_readCond_0 : decode cX14_readCond 0 = .ok (.aload_n 0, 1) := by decide +kernel
theorem dX14_readCond_1 : decode cX14_readCond 1 = .ok (.invokevirtual 748, 3) := by decide +kernel
theorem dX14_readCond_4 : decode cX14_readCond 4 = .ok (.istore_n 1, 1) := by decide +kernel
theorem dX14_readCond_5 : decode cX14_readCond 5 = .ok (.aload_n 0, 1) := by decide +kernel
theorem dX14_readCond_6 : decode cX14_readCond 6 = .ok (.invokevirtual 566, 3) := by decide +kernel
theorem dX14_readCond_9 : decode cX14_readCond 9 = .ok (.aload_n 0, 1) := by decide +kernel
theorem dX14_readCond_10 : decode cX14_readCond 10 = .ok (.getfield 248, 3) := by decide +kernel
theorem dX14_readCond_13 : decode cX14_readCond 13 = .ok (.ifCond .ne 12, 3) := by decide +kernel
theorem dX14_readCond_25 : decode cX14_readCond 25 = .ok (.iload_n 1, 1) := by decide +kernel
theorem dX14_readCond_26 : decode cX14_readCond 26 = .ok (.ireturn, 1) := by decide +kernel
theorem dX14_readCond_16 : decode cX14_readCond 16 = .ok (.aload_n 0, 1) := by decide +kernel
theorem dX14_readCond_17 : decode cX14_readCond 17 = .ok (.bipush 124, 2) := by decide +kernel
theorem dX14_readCond_19 : decode cX14_readCond 19 = .ok (.invokevirtual 751, 3) := by decide +kernel
theorem dX14_readCond_22 : decode cX14_readCond 22 = .ok (.ifCond .ne 5, 3) := by decide +kernel
theorem dX14_readCond_27 : decode cX14_readCond 27 = .ok (.aload_n 0, 1) := by decide +kernel
theorem dX14_readCond_28 : decode cX14_readCond 28 = .ok (.bipush 55, 2) := by decide +kernel
theorem dX14_readCond_30 : decode cX14_readCond 30 = .ok (.iload_n 1, 1) := by decide +kernel
theorem dX14_readCond_31 : decode cX14_readCond 31 = .ok (.iconst 0, 1) := by decide +kernel
theorem dX14_readCond_32 : decode cX14_readCond 32 = .ok (.iconst 0, 1) := by decide +kernel
theorem dX14_readCond_33 : decode cX14_readCond 33 = .ok (.invokevirtual 387, 3) := by decide +kernel
theorem dX14_readCond_36 : decode cX14_readCond 36 = .ok (.istore_n 2, 1) := by decide +kernel
theorem dX14_readCond_37 : decode cX14_readCond 37 = .ok (.iload_n 1, 1) := by decide +kernel
theorem dX14_readCond_38 : decode cX14_readCond 38 = .ok (.istore_n 3, 1) := by decide +kernel
theorem dX14_readCond_39 : decode cX14_readCond 39 = .ok (.aload_n 0, 1) := by decide +kernel
theorem dX14_readCond_40 : decode cX14_readCond 40 = .ok (.getfield 248, 3) := by decide +kernel
theorem dX14_readCond_43 : decode cX14_readCond 43 = .ok (.ifCond .ne 58, 3) := by decide +kernel
theorem dX14_readCond_101 : decode cX14_readCond 101 = .ok (.iload_n 2, 1) := by decide +kernel
theorem dX14_readCond_102 : decode cX14_readCond 102 = .ok (.ireturn, 1) := by decide +kernel
theorem dX14_readCond_46 : decode cX14_readCond 46 = .ok (.aload_n 0, 1) := by decide +kernel
theorem dX14_readCond_47 : decode cX14_readCond 47 = .ok (.bipush 124, 2) := by decide +kernel
theorem dX14_readCond_49 : decode cX14_readCond 49 = .ok (.invokevirtual 751, 3) := by decide +kernel
theorem dX14_readCond_52 : decode cX14_readCond 52 = .ok (.ifCond .eq 49, 3) := by decide +kernel
theorem dX14_readCond_55 : decode cX14_readCond 55 = .ok (.aload_n 0, 1) := by decide +kernel
theorem dX14_readCond_56 : decode cX14_readCond 56 = .ok (.dup, 1) := by decide +kernel
theorem dX14_readCond_57 : decode cX14_readCond 57 = .ok (.getfield 548, 3) := by decide +kernel
theorem dX14_readCond_60 : decode cX14_readCond 60 = .ok (.iconst 2, 1) := by decide +kernel
theorem dX14_readCond_61 : decode cX14_readCond 61 = .ok (.iadd, 1) := by decide +kernel
theorem dX14_readCond_62 : decode cX14_readCond 62 = .ok (.putfield 548, 3) := by decide +kernel
theorem dX14_readCond_65 : decode cX14_readCond 65 = .ok (.aload_n 0, 1) := by decide +kernel
theorem dX14_readCond_66 : decode cX14_readCond 66 = .ok (.invokevirtual 748, 3) := by decide +kernel
theorem dX14_readCond_69 : decode cX14_readCond 69 = .ok (.istore 4, 2) := by decide +kernel
theorem dX14_readCond_71 : decode cX14_readCond 71 = .ok (.aload_n 0, 1) := by decide +kernel
theorem dX14_readCond_72 : decode cX14_readCond 72 = .ok (.getfield 248, 3) := by decide +kernel
theorem dX14_readCond_75 : decode cX14_readCond 75 = .ok (.ifCond .eq 5, 3) := by decide +kernel
theorem dX14_readCond_80 : decode cX14_readCond 80 = .ok (.aload_n 0, 1) := by decide +kernel
theorem dX14_readCond_81 : decode cX14_readCond 81 = .ok (.getfield 334, 3) := by decide +kernel
theorem dX14_readCond_84 : decode cX14_readCond 84 = .ok (.getfield 365, 3) := by decide +kernel
theorem dX14_readCond_87 : decode cX14_readCond 87 = .ok (.iload_n 3, 1) := by decide +kernel
theorem dX14_readCond_88 : decode cX14_readCond 88 = .ok (.iload 4, 2) := by decide +kernel
theorem dX14_readCond_90 : decode cX14_readCond 90 = .ok (.iastore, 1) := by decide +kernel
theorem dX14_readCond_91 : decode cX14_readCond 91 = .ok (.iload 4, 2) := by decide +kernel
theorem dX14_readCond_93 : decode cX14_readCond 93 = .ok (.istore_n 3, 1) := by decide +kernel
theorem dX14_readCond_94 : decode cX14_readCond 94 = .ok (.aload_n 0, 1) := by decide +kernel
theorem dX14_readCond_95 : decode cX14_readCond 95 = .ok (.invokevirtual 566, 3) := by decide +kernel
theorem dX14_readCond_98 : decode cX14_readCond 98 = .ok (.goto (-59), 3) := by decide +kernel
theorem dX14_readCond_78 : decode cX14_readCond 78 = .ok (.iconst 0, 1) := by decide +kernel
theorem dX14_readCond_79 : decode cX14_readCond 79 = .ok (.ireturn, 1) := by decide +kernel
theorem dX14_condition_0 : decode cX14_condition 0 = .ok (.aload_n 0, 1) := by decide +kernel
theorem dX14_condition_1 : decode cX14_condition 1 = .ok (.getfield 248, 3) := by decide +kernel
theorem dX14_condition_4 : decode cX14_condition 4 = .ok (.ifCond .eq 5, 3) := by decide +kernel
theorem dX14_condition_9 : decode cX14_condition 9 = .ok (.aload_n 0, 1) := by decide +kernel
theorem dX14_condition_10 : decode cX14_condition 10 = .ok (.bipush 40, 2) := by decide +kernel
theorem dX14_condition_12 : decode cX14_condition 12 = .ok (.invokevirtual 650, 3) := by decide +kernel
theorem dX14_condition_15 : decode cX14_condition 15 = .ok (.aload_n 0, 1) := by decide +kernel
theorem dX14_condition_16 : decode cX14_condition 16 = .ok (.invokevirtual 653, 3) := by decide +kernel
theorem dX14_condition_19 : decode cX14_condition 19 = .ok (.istore_n 1, 1) := by decide +kernel
theorem dX14_condition_20 : decode cX14_condition 20 = .ok (.aload_n 0, 1) := by decide +kernel
theorem dX14_condition_21 : decode cX14_condition 21 = .ok (.bipush 41, 2) := by decide +kernel
theorem dX14_condition_23 : decode cX14_condition 23 = .ok (.invokevirtual 650, 3) := by decide +kernel
theorem dX14_condition_26 : decode cX14_condition 26 = .ok (.aload_n 0, 1) := by decide +kernel
theorem dX14_condition_27 : decode cX14_condition 27 = .ok (.aload_n 0, 1) := by decide +kernel
theorem dX14_condition_28 : decode cX14_condition 28 = .ok (.getfield 394, 3) := by decide +kernel
theorem dX14_condition_31 : decode cX14_condition 31 = .ok (.invokevirtual 650, 3) := by decide +kernel
theorem dX14_condition_34 : decode cX14_condition 34 = .ok (.iload_n 1, 1) := by decide +kernel
theorem dX14_condition_35 : decode cX14_condition 35 = .ok (.ireturn, 1) := by decide +kernel
theorem dX14_condition_7 : decode cX14_condition 7 = .ok (.iconst 0, 1) := by decide +kernel
theorem dX14_condition_8 : decode cX14_condition 8 = .ok (.ireturn, 1) := by decide +kernel
theorem dX14_readOptions_0 : decode cX14_readOptions 0 = .ok (.aload_n 0, 1) := by decide +kernel
theorem dX14_readOptions_1 : decode cX14_readOptions 1 = .ok (.invokevirtual 566, 3) := by decide +kernel
theorem dX14_readOptions_4 : decode cX14_readOptions 4 = .ok (.aload_n 0, 1) := by decide +kernel
theorem dX14_readOptions_5 : decode cX14_readOptions 5 = .ok (.invokevirtual 569, 3) := by decide +kernel
theorem dX14_readOptions_8 : decode cX14_readOptions 8 = .ok (.bipush 59, 2) := by decide +kernel
theorem dX14_readOptions_10 : decode cX14_readOptions 10 = .ok (.if_icmp .ne 10, 3) := by decide +kernel
theorem dX14_readOptions_20 : decode cX14_readOptions 20 = .ok (.return_, 1) := by decide +kernel
theorem dX14_readOptions_13 : decode cX14_readOptions 13 = .ok (.aload_n 0, 1) := by decide +kernel
theorem dX14_readOptions_14 : decode cX14_readOptions 14 = .ok (.getfield 248, 3) := by decide +kernel
theorem dX14_readOptions_17 : decode cX14_readOptions 17 = .ok (.ifCond .eq 4, 3) := by decide +kernel
theorem dX14_readOptions_21 : decode cX14_readOptions 21 = .ok (.iconst 0, 1) := by decide +kernel
theorem dX14_readOptions_22 : decode cX14_readOptions 22 = .ok (.istore_n 2, 1) := by decide +kernel
theorem dX14_readOptions_23 : decode cX14_readOptions 23 = .ok (.iconst 1, 1) := by decide +kernel
theorem dX14_readOptions_24 : decode cX14_readOptions 24 = .ok (.istore_n 3, 1) := by decide +kernel
theorem dX14_readOptions_25 : decode cX14_readOptions 25 = .ok (.iload_n 3, 1) := by decide +kernel
theorem dX14_readOptions_26 : decode cX14_readOptions 26 = .ok (.ifCond .eq 324, 3) := by decide +kernel
theorem dX14_readOptions_350 : decode cX14_readOptions 350 = .ok (.return_, 1) := by decide +kernel
theorem dX14_readOptions_29 : decode cX14_readOptions 29 = .ok (.aload_n 0, 1) := by decide +kernel
theorem dX14_readOptions_30 : decode cX14_readOptions 30 = .ok (.getfield 248, 3) := by decide +kernel
theorem dX14_readOptions_33 : decode cX14_readOptions 33 = .ok (.ifCond .ne 317, 3) := by decide +kernel
theorem dX14_readOptions_36 : decode cX14_readOptions 36 = .ok (.aload_n 0, 1) := by decide +kernel
theorem dX14_readOptions_37 : decode cX14_readOptions 37 = .ok (.dup, 1) := by decide +kernel
theorem dX14_readOptions_38 : decode cX14_readOptions 38 = .ok (.getfield 548, 3) := by decide +kernel
theorem dX14_readOptions_41 : decode cX14_readOptions 41 = .ok (.iconst 1, 1) := by decide +kernel
theorem dX14_readOptions_42 : decode cX14_readOptions 42 = .ok (.iadd, 1) := by decide +kernel
theorem dX14_readOptions_43 : decode cX14_readOptions 43 = .ok (.putfield 548, 3) := by decide +kernel
theorem dX14_readOptions_46 : decode cX14_readOptions 46 = .ok (.aload_n 0, 1) := by decide +kernel
theorem dX14_readOptions_47 : decode cX14_readOptions 47 = .ok (.invokevirtual 566, 3) := by decide +kernel
theorem dX14_readOptions_50 : decode cX14_readOptions 50 = .ok (.aload_n 0, 1) := by decide +kernel
theorem dX14_readOptions_51 : decode cX14_readOptions 51 = .ok (.ldc_w 701, 3) := by decide +kernel
theorem dX14_readOptions_54 : decode cX14_readOptions 54 = .ok (.invokevirtual 576, 3) := by decide +kernel
theorem dX14_readOptions_57 : decode cX14_readOptions 57 = .ok (.ifCond .eq 7, 3) := by decide +kernel
theorem dX14_readOptions_64 : decode cX14_readOptions 64 = .ok (.aload_n 0, 1) := by decide +kernel
theorem dX14_readOptions_65 : decode cX14_readOptions 65 = .ok (.ldc_w 703, 3) := by decide +kernel
theorem dX14_readOptions_68 : decode cX14_readOptions 68 = .ok (.invokevirtual 576, 3) := by decide +kernel
theorem dX14_readOptions_71 : decode cX14_readOptions 71 = .ok (.ifCond .eq 7, 3) := by decide +kernel
theorem dX14_readOptions_78 : decode cX14_readOptions 78 = .ok (.aload_n 0, 1) := by decide +kernel
theorem dX14_readOptions_79 : decode cX14_readOptions 79 = .ok (.ldc_w 705, 3) := by decide +kernel
theorem dX14_readOptions_82 : decode cX14_readOptions 82 = .ok (.invokevirtual 576, 3) := by decide +kernel
theorem dX14_readOptions_85 : decode cX14_readOptions 85 = .ok (.ifCond .eq 7, 3) := by decide +kernel
theorem dX14_readOptions_92 : decode cX14_readOptions 92 = .ok (.aload_n 0, 1) := by decide +kernel
theorem dX14_readOptions_93 : decode cX14_readOptions 93 = .ok (.ldc_w 707, 3) := by decide +kernel
theorem dX14_readOptions_96 : decode cX14_readOptions 96 = .ok (.invokevirtual 576, 3) := by decide +kernel
theorem dX14_readOptions_99 : decode cX14_readOptions 99 = .ok (.ifCond .eq 7, 3) := by decide +kernel
theorem dX14_readOptions_106 : decode cX14_readOptions 106 = .ok (.aload_n 0, 1) := by decide +kernel
theorem dX14_readOptions_107 : decode cX14_readOptions 107 = .ok (.ldc_w 709, 3) := by decide +kernel
theorem dX14_readOptions_110 : decode cX14_readOptions 110 = .ok (.invokevirtual 576, 3) := by decide +kernel
theorem dX14_readOptions_113 : decode cX14_readOptions 113 = .ok (.ifCond .eq 7, 3) := by decide +kernel
theorem dX14_readOptions_120 : decode cX14_readOptions 120 = .ok (.iconst (-1), 1) := by decide +kernel
theorem dX14_readOptions_121 : decode cX14_readOptions 121 = .ok (.istore 4, 2) := by decide +kernel
theorem dX14_readOptions_123 : decode cX14_readOptions 123 = .ok (.iload 4, 2) := by decide +kernel
theorem dX14_readOptions_125 : decode cX14_readOptions 125 = .ok (.ifCond .ge 12, 3) := by decide +kernel
theorem dX14_readOptions_128 : decode cX14_readOptions 128 = .ok (.aload_n 0, 1) := by decide +kernel
theorem dX14_readOptions_129 : decode cX14_readOptions 129 = .ok (.iconst 1, 1) := by decide +kernel
theorem dX14_readOptions_130 : decode cX14_readOptions 130 = .ok (.aload_n 0, 1) := by decide +kernel
theorem dX14_readOptions_131 : decode cX14_readOptions 131 = .ok (.invokevirtual 572, 3) := by decide +kernel
theorem dX14_readOptions_134 : decode cX14_readOptions 134 = .ok (.invokevirtual 280, 3) := by decide +kernel
theorem dX14_readOptions_137 : decode cX14_readOptions 137 = .ok (.aload_n 0, 1) := by decide +kernel
theorem dX14_readOptions_138 : decode cX14_readOptions 138 = .ok (.getfield 334, 3) := by decide +kernel
theorem dX14_readOptions_141 : decode cX14_readOptions 141 = .ok (.getfield 356, 3) := by decide +kernel
theorem dX14_readOptions_144 : decode cX14_readOptions 144 = .ok (.iload_n 1, 1) := by decide +kernel
theorem dX14_readOptions_145 : decode cX14_readOptions 145 = .ok (.iaload, 1) := by decide +kernel
theorem dX14_readOptions_146 : decode cX14_readOptions 146 = .ok (.istore 5, 2) := by decide +kernel
theorem dX14_readOptions_148 : decode cX14_readOptions 148 = .ok (.iload 5, 2) := by decide +kernel
theorem dX14_readOptions_150 : decode cX14_readOptions 150 = .ok (.ifCond .eq 49, 3) := by decide +kernel
theorem dX14_readOptions_199 : decode cX14_readOptions 199 = .ok (.aload_n 0, 1) := by decide +kernel
theorem dX14_readOptions_200 : decode cX14_readOptions 200 = .ok (.getfield 248, 3) := by decide +kernel
theorem dX14_readOptions_203 : decode cX14_readOptions 203 = .ok (.ifCond .eq 4, 3) := by decide +kernel
theorem dX14_readOptions_207 : decode cX14_readOptions 207 = .ok (.aload_n 0, 1) := by decide +kernel
theorem dX14_readOptions_208 : decode cX14_readOptions 208 = .ok (.bipush 53, 2) := by decide +kernel
theorem dX14_readOptions_210 : decode cX14_readOptions 210 = .ok (.iload 4, 2) := by decide +kernel
theorem dX14_readOptions_212 : decode cX14_readOptions 212 = .ok (.iconst 0, 1) := by decide +kernel
theorem dX14_readOptions_213 : decode cX14_readOptions 213 = .ok (.aload_n 0, 1) := by decide +kernel
theorem dX14_readOptions_214 : decode cX14_readOptions 214 = .ok (.invokevirtual 572, 3) := by decide +kernel
theorem dX14_readOptions_217 : decode cX14_readOptions 217 = .ok (.invokevirtual 387, 3) := by decide +kernel
theorem dX14_readOptions_220 : decode cX14_readOptions 220 = .ok (.istore 5, 2) := by decide +kernel
theorem dX14_readOptions_222 : decode cX14_readOptions 222 = .ok (.aload_n 0, 1) := by decide +kernel
theorem dX14_readOptions_223 : decode cX14_readOptions 223 = .ok (.aload_n 0, 1) := by decide +kernel
theorem dX14_readOptions_224 : decode cX14_readOptions 224 = .ok (.getfield 36, 3) := by decide +kernel
theorem dX14_readOptions_227 : decode cX14_readOptions 227 = .ok (.aload_n 0, 1) := by decide +kernel
theorem dX14_readOptions_228 : decode cX14_readOptions 228 = .ok (.getfield 533, 3) := by decide +kernel
theorem dX14_readOptions_231 : decode cX14_readOptions 231 = .ok (.aload_n 0, 1) := by decide +kernel
theorem dX14_readOptions_232 : decode cX14_readOptions 232 = .ok (.getfield 548, 3) := by decide +kernel
theorem dX14_readOptions_235 : decode cX14_readOptions 235 = .ok (.invokestatic 300, 3) := by decide +kernel
theorem dX14_readOptions_238 : decode cX14_readOptions 238 = .ok (.putfield 548, 3) := by decide +kernel
theorem dX14_readOptions_241 : decode cX14_readOptions 241 = .ok (.aload_n 0, 1) := by decide +kernel
theorem dX14_readOptions_242 : decode cX14_readOptions 242 = .ok (.invokevirtual 566, 3) := by decide +kernel
theorem dX14_readOptions_245 : decode cX14_readOptions 245 = .ok (.aload_n 0, 1) := by decide +kernel
theorem dX14_readOptions_246 : decode cX14_readOptions 246 = .ok (.invokevirtual 569, 3) := by decide +kernel
theorem dX14_readOptions_249 : decode cX14_readOptions 249 = .ok (.bipush 61, 2) := by decide +kernel
theorem dX14_readOptions_251 : decode cX14_readOptions 251 = .ok (.if_icmp .ne 30, 3) := by decide +kernel
theorem dX14_readOptions_281 : decode cX14_readOptions 281 = .ok (.iload 4, 2) := by decide +kernel
theorem dX14_readOptions_283 : decode cX14_readOptions 283 = .ok (.iconst 3, 1) := by decide +kernel
theorem dX14_readOptions_284 : decode cX14_readOptions 284 = .ok (.if_icmp .ge 12, 3) := by decide +kernel
theorem dX14_readOptions_296 : decode cX14_readOptions 296 = .ok (.iload_n 2, 1) := by decide +kernel
theorem dX14_readOptions_297 : decode cX14_readOptions 297 = .ok (.ifCond .ne 17, 3) := by decide +kernel
theorem dX14_readOptions_325 : decode cX14_readOptions 325 = .ok (.iload 5, 2) := by decide +kernel
theorem dX14_readOptions_327 : decode cX14_readOptions 327 = .ok (.istore_n 2, 1) := by decide +kernel
theorem dX14_readOptions_328 : decode cX14_readOptions 328 = .ok (.aload_n 0, 1) := by decide +kernel
theorem dX14_readOptions_329 : decode cX14_readOptions 329 = .ok (.invokevirtual 566, 3) := by decide +kernel
theorem dX14_readOptions_332 : decode cX14_readOptions 332 = .ok (.aload_n 0, 1) := by decide +kernel
theorem dX14_readOptions_333 : decode cX14_readOptions 333 = .ok (.invokevirtual 569, 3) := by decide +kernel
theorem dX14_readOptions_336 : decode cX14_readOptions 336 = .ok (.bipush 44, 2) := by decide +kernel
theorem dX14_readOptions_338 : decode cX14_readOptions 338 = .ok (.if_icmp .ne 7, 3) := by decide +kernel
theorem dX14_readOptions_345 : decode cX14_readOptions 345 = .ok (.iconst 0, 1) := by decide +kernel
theorem dX14_readOptions_346 : decode cX14_readOptions 346 = .ok (.istore_n 3, 1) := by decide +kernel
theorem dX14_readOptions_347 : decode cX14_readOptions 347 = .ok (.goto (-322), 3) := by decide +kernel
theorem dX14_readOptions_341 : decode cX14_readOptions 341 = .ok (.iconst 1, 1) := by decide +kernel
theorem dX14_readOptions_342 : decode cX14_readOptions 342 = .ok (.goto 4, 3) := by decide +kernel
theorem dX14_readOptions_314 : decode cX14_readOptions 314 = .ok (.aload_n 0, 1) := by decide +kernel
theorem dX14_readOptions_315 : decode cX14_readOptions 315 = .ok (.getfield 334, 3) := by decide +kernel
theorem dX14_readOptions_318 : decode cX14_readOptions 318 = .ok (.getfield 365, 3) := by decide +kernel
theorem dX14_readOptions_321 : decode cX14_readOptions 321 = .ok (.iload_n 2, 1) := by decide +kernel
theorem dX14_readOptions_322 : decode cX14_readOptions 322 = .ok (.iload 5, 2) := by decide +kernel
theorem dX14_readOptions_324 : decode cX14_readOptions 324 = .ok (.iastore, 1) := by decide +kernel
theorem dX14_readOptions_300 : decode cX14_readOptions 300 = .ok (.aload_n 0, 1) := by decide +kernel
theorem dX14_readOptions_301 : decode cX14_readOptions 301 = .ok (.getfield 334, 3) := by decide +kernel
theorem dX14_readOptions_304 : decode cX14_readOptions 304 = .ok (.getfield 356, 3) := by decide +kernel
theorem dX14_readOptions_307 : decode cX14_readOptions 307 = .ok (.iload_n 1, 1) := by decide +kernel
theorem dX14_readOptions_308 : decode cX14_readOptions 308 = .ok (.iload 5, 2) := by decide +kernel
theorem dX14_readOptions_310 : decode cX14_readOptions 310 = .ok (.iastore, 1) := by decide +kernel
theorem dX14_readOptions_311 : decode cX14_readOptions 311 = .ok (.goto 14, 3) := by decide +kernel
theorem dX14_readOptions_287 : decode cX14_readOptions 287 = .ok (.aload_n 0, 1) := by decide +kernel
theorem dX14_readOptions_288 : decode cX14_readOptions 288 = .ok (.iconst 1, 1) := by decide +kernel
theorem dX14_readOptions_289 : decode cX14_readOptions 289 = .ok (.aload_n 0, 1) := by decide +kernel
theorem dX14_readOptions_290 : decode cX14_readOptions 290 = .ok (.invokevirtual 572, 3) := by decide +kernel
theorem dX14_readOptions_293 : decode cX14_readOptions 293 = .ok (.invokevirtual 280, 3) := by decide +kernel
theorem dX14_readOptions_254 : decode cX14_readOptions 254 = .ok (.aload_n 0, 1) := by decide +kernel
theorem dX14_readOptions_255 : decode cX14_readOptions 255 = .ok (.dup, 1) := by decide +kernel
theorem dX14_readOptions_256 : decode cX14_readOptions 256 = .ok (.getfield 548, 3) := by decide +kernel
theorem dX14_readOptions_259 : decode cX14_readOptions 259 = .ok (.iconst 1, 1) := by decide +kernel
theorem dX14_readOptions_260 : decode cX14_readOptions 260 = .ok (.iadd, 1) := by decide +kernel
theorem dX14_readOptions_261 : decode cX14_readOptions 261 = .ok (.putfield 548, 3) := by decide +kernel
theorem dX14_readOptions_264 : decode cX14_readOptions 264 = .ok (.aload_n 0, 1) := by decide +kernel
theorem dX14_readOptions_265 : decode cX14_readOptions 265 = .ok (.getfield 334, 3) := by decide +kernel
theorem dX14_readOptions_268 : decode cX14_readOptions 268 = .ok (.getfield 356, 3) := by decide +kernel
theorem dX14_readOptions_271 : decode cX14_readOptions 271 = .ok (.iload 5, 2) := by decide +kernel
theorem dX14_readOptions_273 : decode cX14_readOptions 273 = .ok (.aload_n 0, 1) := by decide +kernel
theorem dX14_readOptions_274 : decode cX14_readOptions 274 = .ok (.invokevirtual 711, 3) := by decide +kernel
theorem dX14_readOptions_277 : decode cX14_readOptions 277 = .ok (.iastore, 1) := by decide +kernel
theorem dX14_readOptions_278 : decode cX14_readOptions 278 = .ok (.goto 18, 3) := by decide +kernel
theorem dX14_readOptions_206 : decode cX14_readOptions 206 = .ok (.return_, 1) := by decide +kernel
theorem dX14_readOptions_153 : decode cX14_readOptions 153 = .ok (.aload_n 0, 1) := by decide +kernel
theorem dX14_readOptions_154 : decode cX14_readOptions 154 = .ok (.getfield 248, 3) := by decide +kernel
theorem dX14_readOptions_157 : decode cX14_readOptions 157 = .ok (.ifCond .ne 42, 3) := by decide +kernel
theorem dX14_readOptions_160 : decode cX14_readOptions 160 = .ok (.aload_n 0, 1) := by decide +kernel
theorem dX14_readOptions_161 : decode cX14_readOptions 161 = .ok (.getfield 334, 3) := by decide +kernel
theorem dX14_readOptions_164 : decode cX14_readOptions 164 = .ok (.getfield 353, 3) := by decide +kernel
theorem dX14_readOptions_167 : decode cX14_readOptions 167 = .ok (.iload 5, 2) := by decide +kernel
theorem dX14_readOptions_169 : decode cX14_readOptions 169 = .ok (.iaload, 1) := by decide +kernel
theorem dX14_readOptions_170 : decode cX14_readOptions 170 = .ok (.iload 4, 2) := by decide +kernel
theorem dX14_readOptions_172 : decode cX14_readOptions 172 = .ok (.if_icmp .ne 12, 3) := by decide +kernel
theorem dX14_readOptions_184 : decode cX14_readOptions 184 = .ok (.aload_n 0, 1) := by decide +kernel
theorem dX14_readOptions_185 : decode cX14_readOptions 185 = .ok (.getfield 334, 3) := by decide +kernel
theorem dX14_readOptions_188 : decode cX14_readOptions 188 = .ok (.getfield 365, 3) := by decide +kernel
theorem dX14_readOptions_191 : decode cX14_readOptions 191 = .ok (.iload 5, 2) := by decide +kernel
theorem dX14_readOptions_193 : decode cX14_readOptions 193 = .ok (.iaload, 1) := by decide +kernel
theorem dX14_readOptions_194 : decode cX14_readOptions 194 = .ok (.istore 5, 2) := by decide +kernel
theorem dX14_readOptions_196 : decode cX14_readOptions 196 = .ok (.goto (-48), 3) := by decide +kernel
theorem dX14_readOptions_175 : decode cX14_readOptions 175 = .ok (.aload_n 0, 1) := by decide +kernel
theorem dX14_readOptions_176 : decode cX14_readOptions 176 = .ok (.iconst 3, 1) := by decide +kernel
theorem dX14_readOptions_177 : decode cX14_readOptions 177 = .ok (.aload_n 0, 1) := by decide +kernel
theorem dX14_readOptions_178 : decode cX14_readOptions 178 = .ok (.invokevirtual 572, 3) := by decide +kernel
theorem dX14_readOptions_181 : decode cX14_readOptions 181 = .ok (.invokevirtual 280, 3) := by decide +kernel
theorem dX14_readOptions_116 : decode cX14_readOptions 116 = .ok (.iconst 4, 1) := by decide +kernel
theorem dX14_readOptions_117 : decode cX14_readOptions 117 = .ok (.goto 4, 3) := by decide +kernel
theorem dX14_readOptions_102 : decode cX14_readOptions 102 = .ok (.iconst 3, 1) := by decide +kernel
theorem dX14_readOptions_103 : decode cX14_readOptions 103 = .ok (.goto 18, 3) := by decide +kernel
theorem dX14_readOptions_88 : decode cX14_readOptions 88 = .ok (.iconst 2, 1) := by decide +kernel
theorem dX14_readOptions_89 : decode cX14_readOptions 89 = .ok (.goto 32, 3) := by decide +kernel
theorem dX14_readOptions_74 : decode cX14_readOptions 74 = .ok (.iconst 1, 1) := by decide +kernel
theorem dX14_readOptions_75 : decode cX14_readOptions 75 = .ok (.goto 46, 3) := by decide +kernel
theorem dX14_readOptions_60 : decode cX14_readOptions 60 = .ok (.iconst 0, 1) := by decide +kernel
theorem dX14_readOptions_61 : decode cX14_readOptions 61 = .ok (.goto 60, 3) := by decide +kernel
theorem dX14_readExpr_0 : decode cX14_readExpr 0 = .ok (.aload_n 0, 1) := by decide +kernel
theorem dX14_readExpr_1 : decode cX14_readExpr 1 = .ok (.iconst 4, 1) := by decide +kernel
theorem dX14_readExpr_2 : decode cX14_readExpr 2 = .ok (.iconst 0, 1) := by decide +kernel
theorem dX14_readExpr_3 : decode cX14_readExpr 3 = .ok (.iconst 0, 1) := by decide +kernel
theorem dX14_readExpr_4 : decode cX14_readExpr 4 = .ok (.iload_n 1, 1) := by decide +kernel
theorem dX14_readExpr_5 : decode cX14_readExpr 5 = .ok (.invokevirtual 387, 3) := by decide +kernel
theorem dX14_readExpr_8 : decode cX14_readExpr 8 = .ok (.istore_n 2, 1) := by decide +kernel
theorem dX14_readExpr_9 : decode cX14_readExpr 9 = .ok (.aload_n 0, 1) := by decide +kernel
theorem dX14_readExpr_10 : decode cX14_readExpr 10 = .ok (.invokevirtual 692, 3) := by decide +kernel
theorem dX14_readExpr_13 : decode cX14_readExpr 13 = .ok (.istore_n 3, 1) := by decide +kernel
theorem dX14_readExpr_14 : decode cX14_readExpr 14 = .ok (.aload_n 0, 1) := by decide +kernel
theorem dX14_readExpr_15 : decode cX14_readExpr 15 = .ok (.invokevirtual 566, 3) := by decide +kernel
theorem dX14_readExpr_18 : decode cX14_readExpr 18 = .ok (.aload_n 0, 1) := by decide +kernel
theorem dX14_readExpr_19 : decode cX14_readExpr 19 = .ok (.invokevirtual 569, 3) := by decide +kernel
theorem dX14_readExpr_22 : decode cX14_readExpr 22 = .ok (.bipush 44, 2) := by decide +kernel
theorem dX14_readExpr_24 : decode cX14_readExpr 24 = .ok (.if_icmp .ne 197, 3) := by decide +kernel
theorem dX14_readExpr_394 : decode cX14_readExpr 394 = .ok (.aload_n 0, 1) := by decide +kernel
theorem dX14_readExpr_395 : decode cX14_readExpr 395 = .ok (.iload_n 2, 1) := by decide +kernel
theorem dX14_readExpr_396 : decode cX14_readExpr 396 = .ok (.invokevirtual 698, 3) := by decide +kernel
theorem dX14_readExpr_399 : decode cX14_readExpr 399 = .ok (.aload_n 0, 1) := by decide +kernel
theorem dX14_readExpr_400 : decode cX14_readExpr 400 = .ok (.aload_n 0, 1) := by decide +kernel
theorem dX14_readExpr_401 : decode cX14_readExpr 401 = .ok (.getfield 394, 3) := by decide +kernel
theorem dX14_readExpr_404 : decode cX14_readExpr 404 = .ok (.invokevirtual 650, 3) := by decide +kernel
theorem dX14_readExpr_407 : decode cX14_readExpr 407 = .ok (.aload_n 0, 1) := by decide +kernel
theorem dX14_readExpr_408 : decode cX14_readExpr 408 = .ok (.iconst 4, 1) := by decide +kernel
theorem dX14_readExpr_409 : decode cX14_readExpr 409 = .ok (.iload_n 2, 1) := by decide +kernel
theorem dX14_readExpr_410 : decode cX14_readExpr 410 = .ok (.iload_n 1, 1) := by decide +kernel
theorem dX14_readExpr_411 : decode cX14_readExpr 411 = .ok (.invokevirtual 619, 3) := by decide +kernel
theorem dX14_readExpr_414 : decode cX14_readExpr 414 = .ok (.return_, 1) := by decide +kernel
theorem dX14_readExpr_221 : decode cX14_readExpr 221 = .ok (.iconst 0, 1) := by decide +kernel
theorem dX14_readExpr_222 : decode cX14_readExpr 222 = .ok (.istore 4, 2) := by decide +kernel
theorem dX14_readExpr_224 : decode cX14_readExpr 224 = .ok (.aload_n 0, 1) := by decide +kernel
theorem dX14_readExpr_225 : decode cX14_readExpr 225 = .ok (.invokevirtual 569, 3) := by decide +kernel
theorem dX14_readExpr_228 : decode cX14_readExpr 228 = .ok (.bipush 58, 2) := by decide +kernel
theorem dX14_readExpr_230 : decode cX14_readExpr 230 = .ok (.if_icmp .ne 154, 3) := by decide +kernel
theorem dX14_readExpr_384 : decode cX14_readExpr 384 = .ok (.aload_n 0, 1) := by decide +kernel
theorem dX14_readExpr_385 : decode cX14_readExpr 385 = .ok (.getfield 334, 3) := by decide +kernel
theorem dX14_readExpr_388 : decode cX14_readExpr 388 = .ok (.getfield 353, 3) := by decide +kernel
theorem dX14_readExpr_391 : decode cX14_readExpr 391 = .ok (.iload_n 2, 1) := by decide +kernel
theorem dX14_readExpr_392 : decode cX14_readExpr 392 = .ok (.iload_n 3, 1) := by decide +kernel
theorem dX14_readExpr_393 : decode cX14_readExpr 393 = .ok (.iastore, 1) := by decide +kernel
theorem dX14_readExpr_233 : decode cX14_readExpr 233 = .ok (.aload_n 0, 1) := by decide +kernel
theorem dX14_readExpr_234 : decode cX14_readExpr 234 = .ok (.getfield 248, 3) := by decide +kernel
theorem dX14_readExpr_237 : decode cX14_readExpr 237 = .ok (.ifCond .ne 147, 3) := by decide +kernel
theorem dX14_readExpr_240 : decode cX14_readExpr 240 = .ok (.aload_n 0, 1) := by decide +kernel
theorem dX14_readExpr_241 : decode cX14_readExpr 241 = .ok (.dup, 1) := by decide +kernel
theorem dX14_readExpr_242 : decode cX14_readExpr 242 = .ok (.getfield 548, 3) := by decide +kernel
theorem dX14_readExpr_245 : decode cX14_readExpr 245 = .ok (.iconst 1, 1) := by decide +kernel
theorem dX14_readExpr_246 : decode cX14_readExpr 246 = .ok (.iadd, 1) := by decide +kernel
theorem dX14_readExpr_247 : decode cX14_readExpr 247 = .ok (.putfield 548, 3) := by decide +kernel
theorem dX14_readExpr_250 : decode cX14_readExpr 250 = .ok (.aload_n 0, 1) := by decide +kernel
theorem dX14_readExpr_251 : decode cX14_readExpr 251 = .ok (.bipush 44, 2) := by decide +kernel
theorem dX14_readExpr_253 : decode cX14_readExpr 253 = .ok (.aload_n 0, 1) := by decide +kernel
theorem dX14_readExpr_254 : decode cX14_readExpr 254 = .ok (.invokevirtual 695, 3) := by decide +kernel
theorem dX14_readExpr_257 : decode cX14_readExpr 257 = .ok (.iconst 0, 1) := by decide +kernel
theorem dX14_readExpr_258 : decode cX14_readExpr 258 = .ok (.aload_n 0, 1) := by decide +kernel
theorem dX14_readExpr_259 : decode cX14_readExpr 259 = .ok (.invokevirtual 572, 3) := by decide +kernel
theorem dX14_readExpr_262 : decode cX14_readExpr 262 = .ok (.invokevirtual 387, 3) := by decide +kernel
theorem dX14_readExpr_265 : decode cX14_readExpr 265 = .ok (.istore 5, 2) := by decide +kernel
theorem dX14_readExpr_267 : decode cX14_readExpr 267 = .ok (.aload_n 0, 1) := by decide +kernel
theorem dX14_readExpr_268 : decode cX14_readExpr 268 = .ok (.getfield 334, 3) := by decide +kernel
theorem dX14_readExpr_271 : decode cX14_readExpr 271 = .ok (.getfield 353, 3) := by decide +kernel
theorem dX14_readExpr_274 : decode cX14_readExpr 274 = .ok (.iload 5, 2) := by decide +kernel
theorem dX14_readExpr_276 : decode cX14_readExpr 276 = .ok (.iaload, 1) := by decide +kernel
theorem dX14_readExpr_277 : decode cX14_readExpr 277 = .ok (.istore 6, 2) := by decide +kernel
theorem dX14_readExpr_279 : decode cX14_readExpr 279 = .ok (.aload_n 0, 1) := by decide +kernel
theorem dX14_readExpr_280 : decode cX14_readExpr 280 = .ok (.invokevirtual 566, 3) := by decide +kernel
theorem dX14_readExpr_283 : decode cX14_readExpr 283 = .ok (.aload_n 0, 1) := by decide +kernel
theorem dX14_readExpr_284 : decode cX14_readExpr 284 = .ok (.invokevirtual 569, 3) := by decide +kernel
theorem dX14_readExpr_287 : decode cX14_readExpr 287 = .ok (.bipush 44, 2) := by decide +kernel
theorem dX14_readExpr_289 : decode cX14_readExpr 289 = .ok (.if_icmp .ne 57, 3) := by decide +kernel
theorem dX14_readExpr_346 : decode cX14_readExpr 346 = .ok (.iload 4, 2) := by decide +kernel
theorem dX14_readExpr_348 : decode cX14_readExpr 348 = .ok (.ifCond .ne 17, 3) := by decide +kernel
theorem dX14_readExpr_365 : decode cX14_readExpr 365 = .ok (.aload_n 0, 1) := by decide +kernel
theorem dX14_readExpr_366 : decode cX14_readExpr 366 = .ok (.getfield 334, 3) := by decide +kernel
theorem dX14_readExpr_369 : decode cX14_readExpr 369 = .ok (.getfield 365, 3) := by decide +kernel
theorem dX14_readExpr_372 : decode cX14_readExpr 372 = .ok (.iload 4, 2) := by decide +kernel
theorem dX14_readExpr_374 : decode cX14_readExpr 374 = .ok (.iload 5, 2) := by decide +kernel
theorem dX14_readExpr_376 : decode cX14_readExpr 376 = .ok (.iastore, 1) := by decide +kernel
theorem dX14_readExpr_377 : decode cX14_readExpr 377 = .ok (.iload 5, 2) := by decide +kernel
theorem dX14_readExpr_379 : decode cX14_readExpr 379 = .ok (.istore 4, 2) := by decide +kernel
theorem dX14_readExpr_381 : decode cX14_readExpr 381 = .ok (.goto (-157), 3) := by decide +kernel
theorem dX14_readExpr_351 : decode cX14_readExpr 351 = .ok (.aload_n 0, 1) := by decide +kernel
theorem dX14_readExpr_352 : decode cX14_readExpr 352 = .ok (.getfield 334, 3) := by decide +kernel
theorem dX14_readExpr_355 : decode cX14_readExpr 355 = .ok (.getfield 359, 3) := by decide +kernel
theorem dX14_readExpr_358 : decode cX14_readExpr 358 = .ok (.iload_n 3, 1) := by decide +kernel
theorem dX14_readExpr_359 : decode cX14_readExpr 359 = .ok (.iload 5, 2) := by decide +kernel
theorem dX14_readExpr_361 : decode cX14_readExpr 361 = .ok (.iastore, 1) := by decide +kernel
theorem dX14_readExpr_362 : decode cX14_readExpr 362 = .ok (.goto 15, 3) := by decide +kernel
theorem dX14_readExpr_292 : decode cX14_readExpr 292 = .ok (.aload_n 0, 1) := by decide +kernel
theorem dX14_readExpr_293 : decode cX14_readExpr 293 = .ok (.getfield 248, 3) := by decide +kernel
theorem dX14_readExpr_296 : decode cX14_readExpr 296 = .ok (.ifCond .ne 50, 3) := by decide +kernel
theorem dX14_readExpr_299 : decode cX14_readExpr 299 = .ok (.aload_n 0, 1) := by decide +kernel
theorem dX14_readExpr_300 : decode cX14_readExpr 300 = .ok (.dup, 1) := by decide +kernel
theorem dX14_readExpr_301 : decode cX14_readExpr 301 = .ok (.getfield 548, 3) := by decide +kernel
theorem dX14_readExpr_304 : decode cX14_readExpr 304 = .ok (.iconst 1, 1) := by decide +kernel
theorem dX14_readExpr_305 : decode cX14_readExpr 305 = .ok (.iadd, 1) := by decide +kernel
theorem dX14_readExpr_306 : decode cX14_readExpr 306 = .ok (.putfield 548, 3) := by decide +kernel
theorem dX14_readExpr_309 : decode cX14_readExpr 309 = .ok (.aload_n 0, 1) := by decide +kernel
theorem dX14_readExpr_310 : decode cX14_readExpr 310 = .ok (.invokevirtual 695, 3) := by decide +kernel
theorem dX14_readExpr_313 : decode cX14_readExpr 313 = .ok (.istore 7, 2) := by decide +kernel
theorem dX14_readExpr_315 : decode cX14_readExpr 315 = .ok (.aload_n 0, 1) := by decide +kernel
theorem dX14_readExpr_316 : decode cX14_readExpr 316 = .ok (.getfield 248, 3) := by decide +kernel
theorem dX14_readExpr_319 : decode cX14_readExpr 319 = .ok (.ifCond .eq 4, 3) := by decide +kernel
theorem dX14_readExpr_323 : decode cX14_readExpr 323 = .ok (.aload_n 0, 1) := by decide +kernel
theorem dX14_readExpr_324 : decode cX14_readExpr 324 = .ok (.getfield 334, 3) := by decide +kernel
theorem dX14_readExpr_327 : decode cX14_readExpr 327 = .ok (.getfield 365, 3) := by decide +kernel
theorem dX14_readExpr_330 : decode cX14_readExpr 330 = .ok (.iload 6, 2) := by decide +kernel
theorem dX14_readExpr_332 : decode cX14_readExpr 332 = .ok (.iload 7, 2) := by decide +kernel
theorem dX14_readExpr_334 : decode cX14_readExpr 334 = .ok (.iastore, 1) := by decide +kernel
theorem dX14_readExpr_335 : decode cX14_readExpr 335 = .ok (.iload 7, 2) := by decide +kernel
theorem dX14_readExpr_337 : decode cX14_readExpr 337 = .ok (.istore 6, 2) := by decide +kernel
theorem dX14_readExpr_339 : decode cX14_readExpr 339 = .ok (.aload_n 0, 1) := by decide +kernel
theorem dX14_readExpr_340 : decode cX14_readExpr 340 = .ok (.invokevirtual 566, 3) := by decide +kernel
theorem dX14_readExpr_343 : decode cX14_readExpr 343 = .ok (.goto (-60), 3) := by decide +kernel
theorem dX14_readExpr_322 : decode cX14_readExpr 322 = .ok (.return_, 1) := by decide +kernel
theorem dX14_readExpr_27 : decode cX14_readExpr 27 = .ok (.iconst 1, 1) := by decide +kernel
theorem dX14_readExpr_28 : decode cX14_readExpr 28 = .ok (.istore 4, 2) := by decide +kernel
theorem dX14_readExpr_30 : decode cX14_readExpr 30 = .ok (.iload_n 3, 1) := by decide +kernel
theorem dX14_readExpr_31 : decode cX14_readExpr 31 = .ok (.istore 5, 2) := by decide +kernel
theorem dX14_readExpr_33 : decode cX14_readExpr 33 = .ok (.aload_n 0, 1) := by decide +kernel
theorem dX14_readExpr_34 : decode cX14_readExpr 34 = .ok (.invokevirtual 569, 3) := by decide +kernel
theorem dX14_readExpr_37 : decode cX14_readExpr 37 = .ok (.bipush 44, 2) := by decide +kernel
theorem dX14_readExpr_39 : decode cX14_readExpr 39 = .ok (.if_icmp .ne 60, 3) := by decide +kernel
theorem dX14_readExpr_99 : decode cX14_readExpr 99 = .ok (.aload_n 0, 1) := by decide +kernel
theorem dX14_readExpr_100 : decode cX14_readExpr 100 = .ok (.bipush 58, 2) := by decide +kernel
theorem dX14_readExpr_102 : decode cX14_readExpr 102 = .ok (.invokevirtual 650, 3) := by decide +kernel
theorem dX14_readExpr_105 : decode cX14_readExpr 105 = .ok (.aload_n 0, 1) := by decide +kernel
theorem dX14_readExpr_106 : decode cX14_readExpr 106 = .ok (.invokevirtual 566, 3) := by decide +kernel
theorem dX14_readExpr_109 : decode cX14_readExpr 109 = .ok (.aload_n 0, 1) := by decide +kernel
theorem dX14_readExpr_110 : decode cX14_readExpr 110 = .ok (.getfield 248, 3) := by decide +kernel
theorem dX14_readExpr_113 : decode cX14_readExpr 113 = .ok (.ifCond .eq 4, 3) := by decide +kernel
theorem dX14_readExpr_117 : decode cX14_readExpr 117 = .ok (.aload_n 0, 1) := by decide +kernel
theorem dX14_readExpr_118 : decode cX14_readExpr 118 = .ok (.invokevirtual 569, 3) := by decide +kernel
theorem dX14_readExpr_121 : decode cX14_readExpr 121 = .ok (.bipush 123, 2) := by decide +kernel
theorem dX14_readExpr_123 : decode cX14_readExpr 123 = .ok (.if_icmp .eq 13, 3) := by decide +kernel
theorem dX14_readExpr_136 : decode cX14_readExpr 136 = .ok (.aload_n 0, 1) := by decide +kernel
theorem dX14_readExpr_137 : decode cX14_readExpr 137 = .ok (.bipush 40, 2) := by decide +kernel
theorem dX14_readExpr_139 : decode cX14_readExpr 139 = .ok (.iload_n 3, 1) := by decide +kernel
theorem dX14_readExpr_140 : decode cX14_readExpr 140 = .ok (.iconst 0, 1) := by decide +kernel
theorem dX14_readExpr_141 : decode cX14_readExpr 141 = .ok (.iload_n 1, 1) := by decide +kernel
theorem dX14_readExpr_142 : decode cX14_readExpr 142 = .ok (.invokevirtual 387, 3) := by decide +kernel
theorem dX14_readExpr_145 : decode cX14_readExpr 145 = .ok (.istore 6, 2) := by decide +kernel
theorem dX14_readExpr_147 : decode cX14_readExpr 147 = .ok (.aload_n 0, 1) := by decide +kernel
theorem dX14_readExpr_148 : decode cX14_readExpr 148 = .ok (.getfield 334, 3) := by decide +kernel
theorem dX14_readExpr_151 : decode cX14_readExpr 151 = .ok (.getfield 486, 3) := by decide +kernel
theorem dX14_readExpr_154 : decode cX14_readExpr 154 = .ok (.istore 7, 2) := by decide +kernel
theorem dX14_readExpr_156 : decode cX14_readExpr 156 = .ok (.aload_n 0, 1) := by decide +kernel
theorem dX14_readExpr_157 : decode cX14_readExpr 157 = .ok (.bipush 33, 2) := by decide +kernel
theorem dX14_readExpr_159 : decode cX14_readExpr 159 = .ok (.iconst 0, 1) := by decide +kernel
theorem dX14_readExpr_160 : decode cX14_readExpr 160 = .ok (.iload 4, 2) := by decide +kernel
theorem dX14_readExpr_162 : decode cX14_readExpr 162 = .ok (.aload_n 0, 1) := by decide +kernel
theorem dX14_readExpr_163 : decode cX14_readExpr 163 = .ok (.invokevirtual 572, 3) := by decide +kernel
theorem dX14_readExpr_166 : decode cX14_readExpr 166 = .ok (.invokevirtual 479, 3) := by decide +kernel
theorem dX14_readExpr_169 : decode cX14_readExpr 169 = .ok (.aload_n 0, 1) := by decide +kernel
theorem dX14_readExpr_170 : decode cX14_readExpr 170 = .ok (.invokevirtual 563, 3) := by decide +kernel
theorem dX14_readExpr_173 : decode cX14_readExpr 173 = .ok (.istore 8, 2) := by decide +kernel
theorem dX14_readExpr_175 : decode cX14_readExpr 175 = .ok (.aload_n 0, 1) := by decide +kernel
theorem dX14_readExpr_176 : decode cX14_readExpr 176 = .ok (.getfield 334, 3) := by decide +kernel
theorem dX14_readExpr_179 : decode cX14_readExpr 179 = .ok (.getfield 489, 3) := by decide +kernel
theorem dX14_readExpr_182 : decode cX14_readExpr 182 = .ok (.iload 7, 2) := by decide +kernel
theorem dX14_readExpr_184 : decode cX14_readExpr 184 = .ok (.iload 8, 2) := by decide +kernel
theorem dX14_readExpr_186 : decode cX14_readExpr 186 = .ok (.iastore, 1) := by decide +kernel
theorem dX14_readExpr_187 : decode cX14_readExpr 187 = .ok (.aload_n 0, 1) := by decide +kernel
theorem dX14_readExpr_188 : decode cX14_readExpr 188 = .ok (.getfield 334, 3) := by decide +kernel
theorem dX14_readExpr_191 : decode cX14_readExpr 191 = .ok (.getfield 356, 3) := by decide +kernel
theorem dX14_readExpr_194 : decode cX14_readExpr 194 = .ok (.iload 6, 2) := by decide +kernel
theorem dX14_readExpr_196 : decode cX14_readExpr 196 = .ok (.iload 8, 2) := by decide +kernel
theorem dX14_readExpr_198 : decode cX14_readExpr 198 = .ok (.iastore, 1) := by decide +kernel
theorem dX14_readExpr_199 : decode cX14_readExpr 199 = .ok (.aload_n 0, 1) := by decide +kernel
theorem dX14_readExpr_200 : decode cX14_readExpr 200 = .ok (.getfield 334, 3) := by decide +kernel
theorem dX14_readExpr_203 : decode cX14_readExpr 203 = .ok (.getfield 353, 3) := by decide +kernel
theorem dX14_readExpr_206 : decode cX14_readExpr 206 = .ok (.iload_n 2, 1) := by decide +kernel
theorem dX14_readExpr_207 : decode cX14_readExpr 207 = .ok (.aload_n 0, 1) := by decide +kernel
theorem dX14_readExpr_208 : decode cX14_readExpr 208 = .ok (.bipush 41, 2) := by decide +kernel
theorem dX14_readExpr_210 : decode cX14_readExpr 210 = .ok (.iload 6, 2) := by decide +kernel
theorem dX14_readExpr_212 : decode cX14_readExpr 212 = .ok (.iconst 0, 1) := by decide +kernel
theorem dX14_readExpr_213 : decode cX14_readExpr 213 = .ok (.iload_n 1, 1) := by decide +kernel
theorem dX14_readExpr_214 : decode cX14_readExpr 214 = .ok (.invokevirtual 387, 3) := by decide +kernel
theorem dX14_readExpr_217 : decode cX14_readExpr 217 = .ok (.iastore, 1) := by decide +kernel
theorem dX14_readExpr_218 : decode cX14_readExpr 218 = .ok (.goto 176, 3) := by decide +kernel
theorem dX14_readExpr_126 : decode cX14_readExpr 126 = .ok (.aload_n 0, 1) := by decide +kernel
theorem dX14_readExpr_127 : decode cX14_readExpr 127 = .ok (.iconst 1, 1) := by decide +kernel
theorem dX14_readExpr_128 : decode cX14_readExpr 128 = .ok (.aload_n 0, 1) := by decide +kernel
theorem dX14_readExpr_129 : decode cX14_readExpr 129 = .ok (.invokevirtual 572, 3) := by decide +kernel
theorem dX14_readExpr_132 : decode cX14_readExpr 132 = .ok (.invokevirtual 280, 3) := by decide +kernel
theorem dX14_readExpr_135 : decode cX14_readExpr 135 = .ok (.return_, 1) := by decide +kernel
theorem dX14_readExpr_116 : decode cX14_readExpr 116 = .ok (.return_, 1) := by decide +kernel
theorem dX14_readExpr_42 : decode cX14_readExpr 42 = .ok (.aload_n 0, 1) := by decide +kernel
theorem dX14_readExpr_43 : decode cX14_readExpr 43 = .ok (.getfield 248, 3) := by decide +kernel
theorem dX14_readExpr_46 : decode cX14_readExpr 46 = .ok (.ifCond .ne 53, 3) := by decide +kernel
theorem dX14_readExpr_49 : decode cX14_readExpr 49 = .ok (.aload_n 0, 1) := by decide +kernel
theorem dX14_readExpr_50 : decode cX14_readExpr 50 = .ok (.dup, 1) := by decide +kernel
theorem dX14_readExpr_51 : decode cX14_readExpr 51 = .ok (.getfield 548, 3) := by decide +kernel
theorem dX14_readExpr_54 : decode cX14_readExpr 54 = .ok (.iconst 1, 1) := by decide +kernel
theorem dX14_readExpr_55 : decode cX14_readExpr 55 = .ok (.iadd, 1) := by decide +kernel
theorem dX14_readExpr_56 : decode cX14_readExpr 56 = .ok (.putfield 548, 3) := by decide +kernel
theorem dX14_readExpr_59 : decode cX14_readExpr 59 = .ok (.aload_n 0, 1) := by decide +kernel
theorem dX14_readExpr_60 : decode cX14_readExpr 60 = .ok (.invokevirtual 692, 3) := by decide +kernel
theorem dX14_readExpr_63 : decode cX14_readExpr 63 = .ok (.istore 6, 2) := by decide +kernel
theorem dX14_readExpr_65 : decode cX14_readExpr 65 = .ok (.aload_n 0, 1) := by decide +kernel
theorem dX14_readExpr_66 : decode cX14_readExpr 66 = .ok (.getfield 248, 3) := by decide +kernel
theorem dX14_readExpr_69 : decode cX14_readExpr 69 = .ok (.ifCond .eq 4, 3) := by decide +kernel
theorem dX14_readExpr_73 : decode cX14_readExpr 73 = .ok (.aload_n 0, 1) := by decide +kernel
theorem dX14_readExpr_74 : decode cX14_readExpr 74 = .ok (.getfield 334, 3) := by decide +kernel
theorem dX14_readExpr_77 : decode cX14_readExpr 77 = .ok (.getfield 365, 3) := by decide +kernel
theorem dX14_readExpr_80 : decode cX14_readExpr 80 = .ok (.iload 5, 2) := by decide +kernel
theorem dX14_readExpr_82 : decode cX14_readExpr 82 = .ok (.iload 6, 2) := by decide +kernel
theorem dX14_readExpr_84 : decode cX14_readExpr 84 = .ok (.iastore, 1) := by decide +kernel
theorem dX14_readExpr_85 : decode cX14_readExpr 85 = .ok (.iload 6, 2) := by decide +kernel
theorem dX14_readExpr_87 : decode cX14_readExpr 87 = .ok (.istore 5, 2) := by decide +kernel
theorem dX14_readExpr_89 : decode cX14_readExpr 89 = .ok (.iinc 4 1, 3) := by decide +kernel
theorem dX14_readExpr_92 : decode cX14_readExpr 92 = .ok (.aload_n 0, 1) := by decide +kernel
theorem dX14_readExpr_93 : decode cX14_readExpr 93 = .ok (.invokevirtual 566, 3) := by decide +kernel
theorem dX14_readExpr_96 : decode cX14_readExpr 96 = .ok (.goto (-63), 3) := by decide +kernel
theorem dX14_readExpr_72 : decode cX14_readExpr 72 = .ok (.return_, 1) := by decide +kernel
theorem dX14_readSub_0 : decode cX14_readSub 0 = .ok (.aload_n 0, 1) := by decide +kernel
theorem dX14_readSub_1 : decode cX14_readSub 1 = .ok (.invokevirtual 572, 3) := by decide +kernel
theorem dX14_readSub_4 : decode cX14_readSub 4 = .ok (.istore_n 1, 1) := by decide +kernel
theorem dX14_readSub_5 : decode cX14_readSub 5 = .ok (.aload_n 0, 1) := by decide +kernel
theorem dX14_readSub_6 : decode cX14_readSub 6 = .ok (.iload_n 1, 1) := by decide +kernel
theorem dX14_readSub_7 : decode cX14_readSub 7 = .ok (.invokevirtual 677, 3) := by decide +kernel
theorem dX14_readSub_10 : decode cX14_readSub 10 = .ok (.aload_n 0, 1) := by decide +kernel
theorem dX14_readSub_11 : decode cX14_readSub 11 = .ok (.getfield 248, 3) := by decide +kernel
theorem dX14_readSub_14 : decode cX14_readSub 14 = .ok (.ifCond .eq 5, 3) := by decide +kernel
theorem dX14_readSub_19 : decode cX14_readSub 19 = .ok (.aload_n 0, 1) := by decide +kernel
theorem dX14_readSub_20 : decode cX14_readSub 20 = .ok (.dup, 1) := by decide +kernel
theorem dX14_readSub_21 : decode cX14_readSub 21 = .ok (.getfield 548, 3) := by decide +kernel
theorem dX14_readSub_24 : decode cX14_readSub 24 = .ok (.iconst 1, 1) := by decide +kernel
theorem dX14_readSub_25 : decode cX14_readSub 25 = .ok (.iadd, 1) := by decide +kernel
theorem dX14_readSub_26 : decode cX14_readSub 26 = .ok (.putfield 548, 3) := by decide +kernel
theorem dX14_readSub_29 : decode cX14_readSub 29 = .ok (.aload_n 0, 1) := by decide +kernel
theorem dX14_readSub_30 : decode cX14_readSub 30 = .ok (.bipush 33, 2) := by decide +kernel
theorem dX14_readSub_32 : decode cX14_readSub 32 = .ok (.iconst 0, 1) := by decide +kernel
theorem dX14_readSub_33 : decode cX14_readSub 33 = .ok (.iconst 0, 1) := by decide +kernel
theorem dX14_readSub_34 : decode cX14_readSub 34 = .ok (.iload_n 1, 1) := by decide +kernel
theorem dX14_readSub_35 : decode cX14_readSub 35 = .ok (.invokevirtual 387, 3) := by decide +kernel
theorem dX14_readSub_38 : decode cX14_readSub 38 = .ok (.istore_n 2, 1) := by decide +kernel
theorem dX14_readSub_39 : decode cX14_readSub 39 = .ok (.aload_n 0, 1) := by decide +kernel
theorem dX14_readSub_40 : decode cX14_readSub 40 = .ok (.invokevirtual 745, 3) := by decide +kernel
theorem dX14_readSub_43 : decode cX14_readSub 43 = .ok (.istore_n 3, 1) := by decide +kernel
theorem dX14_readSub_44 : decode cX14_readSub 44 = .ok (.iconst 0, 1) := by decide +kernel
theorem dX14_readSub_45 : decode cX14_readSub 45 = .ok (.istore 4, 2) := by decide +kernel
theorem dX14_readSub_47 : decode cX14_readSub 47 = .ok (.iload_n 3, 1) := by decide +kernel
theorem dX14_readSub_48 : decode cX14_readSub 48 = .ok (.ifCond .lt 266, 3) := by decide +kernel
theorem dX14_readSub_314 : decode cX14_readSub 314 = .ok (.iload_n 3, 1) := by decide +kernel
theorem dX14_readSub_315 : decode cX14_readSub 315 = .ok (.ifCond .lt 10, 3) := by decide +kernel
theorem dX14_readSub_325 : decode cX14_readSub 325 = .ok (.aload_n 0, 1) := by decide +kernel
theorem dX14_readSub_326 : decode cX14_readSub 326 = .ok (.getfield 334, 3) := by decide +kernel
theorem dX14_readSub_329 : decode cX14_readSub 329 = .ok (.getfield 353, 3) := by decide +kernel
theorem dX14_readSub_332 : decode cX14_readSub 332 = .ok (.iload_n 2, 1) := by decide +kernel
theorem dX14_readSub_333 : decode cX14_readSub 333 = .ok (.aload_n 0, 1) := by decide +kernel
theorem dX14_readSub_334 : decode cX14_readSub 334 = .ok (.iconst 1, 1) := by decide +kernel
theorem dX14_readSub_335 : decode cX14_readSub 335 = .ok (.invokevirtual 560, 3) := by decide +kernel
theorem dX14_readSub_338 : decode cX14_readSub 338 = .ok (.iastore, 1) := by decide +kernel
theorem dX14_readSub_339 : decode cX14_readSub 339 = .ok (.aload_n 0, 1) := by decide +kernel
theorem dX14_readSub_340 : decode cX14_readSub 340 = .ok (.dup, 1) := by decide +kernel
theorem dX14_readSub_341 : decode cX14_readSub 341 = .ok (.getfield 551, 3) := by decide +kernel
theorem dX14_readSub_344 : decode cX14_readSub 344 = .ok (.iconst 1, 1) := by decide +kernel
theorem dX14_readSub_345 : decode cX14_readSub 345 = .ok (.isub, 1) := by decide +kernel
theorem dX14_readSub_346 : decode cX14_readSub 346 = .ok (.putfield 551, 3) := by decide +kernel
theorem dX14_readSub_349 : decode cX14_readSub 349 = .ok (.iload_n 2, 1) := by decide +kernel
theorem dX14_readSub_350 : decode cX14_readSub 350 = .ok (.ireturn, 1) := by decide +kernel
theorem dX14_readSub_318 : decode cX14_readSub 318 = .ok (.aload_n 0, 1) := by decide +kernel
theorem dX14_readSub_319 : decode cX14_readSub 319 = .ok (.iload_n 3, 1) := by decide +kernel
theorem dX14_readSub_320 : decode cX14_readSub 320 = .ok (.iconst 1, 1) := by decide +kernel
theorem dX14_readSub_321 : decode cX14_readSub 321 = .ok (.iadd, 1) := by decide +kernel
theorem dX14_readSub_322 : decode cX14_readSub 322 = .ok (.putfield 548, 3) := by decide +kernel
theorem dX14_readSub_51 : decode cX14_readSub 51 = .ok (.aload_n 0, 1) := by decide +kernel
theorem dX14_readSub_52 : decode cX14_readSub 52 = .ok (.getfield 548, 3) := by decide +kernel
theorem dX14_readSub_55 : decode cX14_readSub 55 = .ok (.iload_n 3, 1) := by decide +kernel
theorem dX14_readSub_56 : decode cX14_readSub 56 = .ok (.if_icmp .ge 258, 3) := by decide +kernel
theorem dX14_readSub_59 : decode cX14_readSub 59 = .ok (.aload_n 0, 1) := by decide +kernel
theorem dX14_readSub_60 : decode cX14_readSub 60 = .ok (.getfield 248, 3) := by decide +kernel
theorem dX14_readSub_63 : decode cX14_readSub 63 = .ok (.ifCond .ne 251, 3) := by decide +kernel
theorem dX14_readSub_66 : decode cX14_readSub 66 = .ok (.aload_n 0, 1) := by decide +kernel
theorem dX14_readSub_67 : decode cX14_readSub 67 = .ok (.invokevirtual 566, 3) := by decide +kernel
theorem dX14_readSub_70 : decode cX14_readSub 70 = .ok (.aload_n 0, 1) := by decide +kernel
theorem dX14_readSub_71 : decode cX14_readSub 71 = .ok (.getfield 36, 3) := by decide +kernel
theorem dX14_readSub_74 : decode cX14_readSub 74 = .ok (.aload_n 0, 1) := by decide +kernel
theorem dX14_readSub_75 : decode cX14_readSub 75 = .ok (.getfield 533, 3) := by decide +kernel
theorem dX14_readSub_78 : decode cX14_readSub 78 = .ok (.aload_n 0, 1) := by decide +kernel
theorem dX14_readSub_79 : decode cX14_readSub 79 = .ok (.getfield 548, 3) := by decide +kernel
theorem dX14_readSub_82 : decode cX14_readSub 82 = .ok (.invokestatic 300, 3) := by decide +kernel
theorem dX14_readSub_85 : decode cX14_readSub 85 = .ok (.istore 5, 2) := by decide +kernel
theorem dX14_readSub_87 : decode cX14_readSub 87 = .ok (.iload 5, 2) := by decide +kernel
theorem dX14_readSub_89 : decode cX14_readSub 89 = .ok (.aload_n 0, 1) := by decide +kernel
theorem dX14_readSub_90 : decode cX14_readSub 90 = .ok (.getfield 548, 3) := by decide +kernel
theorem dX14_readSub_93 : decode cX14_readSub 93 = .ok (.isub, 1) := by decide +kernel
theorem dX14_readSub_94 : decode cX14_readSub 94 = .ok (.bipush 16, 2) := by decide +kernel
theorem dX14_readSub_96 : decode cX14_readSub 96 = .ok (.if_icmp .le 12, 3) := by decide +kernel
theorem dX14_readSub_108 : decode cX14_readSub 108 = .ok (.aload_n 0, 1) := by decide +kernel
theorem dX14_readSub_109 : decode cX14_readSub 109 = .ok (.getfield 248, 3) := by decide +kernel
theorem dX14_readSub_112 : decode cX14_readSub 112 = .ok (.ifCond .eq 5, 3) := by decide +kernel
theorem dX14_readSub_117 : decode cX14_readSub 117 = .ok (.aload_n 0, 1) := by decide +kernel
theorem dX14_readSub_118 : decode cX14_readSub 118 = .ok (.getfield 334, 3) := by decide +kernel
theorem dX14_readSub_121 : decode cX14_readSub 121 = .ok (.aload_n 0, 1) := by decide +kernel
theorem dX14_readSub_122 : decode cX14_readSub 122 = .ok (.getfield 36, 3) := by decide +kernel
theorem dX14_readSub_125 : decode cX14_readSub 125 = .ok (.aload_n 0, 1) := by decide +kernel
theorem dX14_readSub_126 : decode cX14_readSub 126 = .ok (.getfield 548, 3) := by decide +kernel
theorem dX14_readSub_129 : decode cX14_readSub 129 = .ok (.iload 5, 2) := by decide +kernel
theorem dX14_readSub_131 : decode cX14_readSub 131 = .ok (.aload_n 0, 1) := by decide +kernel
theorem dX14_readSub_132 : decode cX14_readSub 132 = .ok (.getfield 548, 3) := by decide +kernel
theorem dX14_readSub_135 : decode cX14_readSub 135 = .ok (.isub, 1) := by decide +kernel
theorem dX14_readSub_136 : decode cX14_readSub 136 = .ok (.invokevirtual 338, 3) := by decide +kernel
theorem dX14_readSub_139 : decode cX14_readSub 139 = .ok (.istore 6, 2) := by decide +kernel
theorem dX14_readSub_141 : decode cX14_readSub 141 = .ok (.aload_n 0, 1) := by decide +kernel
theorem dX14_readSub_142 : decode cX14_readSub 142 = .ok (.getfield 334, 3) := by decide +kernel
theorem dX14_readSub_145 : decode cX14_readSub 145 = .ok (.getfield 356, 3) := by decide +kernel
theorem dX14_readSub_148 : decode cX14_readSub 148 = .ok (.iload_n 2, 1) := by decide +kernel
theorem dX14_readSub_149 : decode cX14_readSub 149 = .ok (.iaload, 1) := by decide +kernel
theorem dX14_readSub_150 : decode cX14_readSub 150 = .ok (.istore 7, 2) := by decide +kernel
theorem dX14_readSub_152 : decode cX14_readSub 152 = .ok (.iload 7, 2) := by decide +kernel
theorem dX14_readSub_154 : decode cX14_readSub 154 = .ok (.ifCond .eq 42, 3) := by decide +kernel
theorem dX14_readSub_196 : decode cX14_readSub 196 = .ok (.aload_n 0, 1) := by decide +kernel
theorem dX14_readSub_197 : decode cX14_readSub 197 = .ok (.getfield 334, 3) := by decide +kernel
theorem dX14_readSub_200 : decode cX14_readSub 200 = .ok (.getfield 359, 3) := by decide +kernel
theorem dX14_readSub_203 : decode cX14_readSub 203 = .ok (.iload_n 2, 1) := by decide +kernel
theorem dX14_readSub_204 : decode cX14_readSub 204 = .ok (.iaload, 1) := by decide +kernel
theorem dX14_readSub_205 : decode cX14_readSub 205 = .ok (.bipush 12, 2) := by decide +kernel
theorem dX14_readSub_207 : decode cX14_readSub 207 = .ok (.if_icmp .ne 12, 3) := by decide +kernel
theorem dX14_readSub_219 : decode cX14_readSub 219 = .ok (.aload_n 0, 1) := by decide +kernel
theorem dX14_readSub_220 : decode cX14_readSub 220 = .ok (.bipush 52, 2) := by decide +kernel
theorem dX14_readSub_222 : decode cX14_readSub 222 = .ok (.iload 6, 2) := by decide +kernel
theorem dX14_readSub_224 : decode cX14_readSub 224 = .ok (.iconst 0, 1) := by decide +kernel
theorem dX14_readSub_225 : decode cX14_readSub 225 = .ok (.aload_n 0, 1) := by decide +kernel
theorem dX14_readSub_226 : decode cX14_readSub 226 = .ok (.invokevirtual 572, 3) := by decide +kernel
theorem dX14_readSub_229 : decode cX14_readSub 229 = .ok (.invokevirtual 387, 3) := by decide +kernel
theorem dX14_readSub_232 : decode cX14_readSub 232 = .ok (.istore 7, 2) := by decide +kernel
theorem dX14_readSub_234 : decode cX14_readSub 234 = .ok (.iload 4, 2) := by decide +kernel
theorem dX14_readSub_236 : decode cX14_readSub 236 = .ok (.ifCond .ne 17, 3) := by decide +kernel
theorem dX14_readSub_253 : decode cX14_readSub 253 = .ok (.aload_n 0, 1) := by decide +kernel
theorem dX14_readSub_254 : decode cX14_readSub 254 = .ok (.getfield 334, 3) := by decide +kernel
theorem dX14_readSub_257 : decode cX14_readSub 257 = .ok (.getfield 365, 3) := by decide +kernel
theorem dX14_readSub_260 : decode cX14_readSub 260 = .ok (.iload 4, 2) := by decide +kernel
theorem dX14_readSub_262 : decode cX14_readSub 262 = .ok (.iload 7, 2) := by decide +kernel
theorem dX14_readSub_264 : decode cX14_readSub 264 = .ok (.iastore, 1) := by decide +kernel
theorem dX14_readSub_265 : decode cX14_readSub 265 = .ok (.iload 7, 2) := by decide +kernel
theorem dX14_readSub_267 : decode cX14_readSub 267 = .ok (.istore 4, 2) := by decide +kernel
theorem dX14_readSub_269 : decode cX14_readSub 269 = .ok (.aload_n 0, 1) := by decide +kernel
theorem dX14_readSub_270 : decode cX14_readSub 270 = .ok (.getfield 334, 3) := by decide +kernel
theorem dX14_readSub_273 : decode cX14_readSub 273 = .ok (.getfield 359, 3) := by decide +kernel
theorem dX14_readSub_276 : decode cX14_readSub 276 = .ok (.iload_n 2, 1) := by decide +kernel
theorem dX14_readSub_277 : decode cX14_readSub 277 = .ok (.dup2, 1) := by decide +kernel
theorem dX14_readSub_278 : decode cX14_readSub 278 = .ok (.iaload, 1) := by decide +kernel
theorem dX14_readSub_279 : decode cX14_readSub 279 = .ok (.iconst 1, 1) := by decide +kernel
theorem dX14_readSub_280 : decode cX14_readSub 280 = .ok (.iadd, 1) := by decide +kernel
theorem dX14_readSub_281 : decode cX14_readSub 281 = .ok (.iastore, 1) := by decide +kernel
theorem dX14_readSub_282 : decode cX14_readSub 282 = .ok (.aload_n 0, 1) := by decide +kernel
theorem dX14_readSub_283 : decode cX14_readSub 283 = .ok (.iload 5, 2) := by decide +kernel
theorem dX14_readSub_285 : decode cX14_readSub 285 = .ok (.putfield 548, 3) := by decide +kernel
theorem dX14_readSub_288 : decode cX14_readSub 288 = .ok (.aload_n 0, 1) := by decide +kernel
theorem dX14_readSub_289 : decode cX14_readSub 289 = .ok (.invokevirtual 566, 3) := by decide +kernel
theorem dX14_readSub_292 : decode cX14_readSub 292 = .ok (.aload_n 0, 1) := by decide +kernel
theorem dX14_readSub_293 : decode cX14_readSub 293 = .ok (.invokevirtual 569, 3) := by decide +kernel
theorem dX14_readSub_296 : decode cX14_readSub 296 = .ok (.bipush 44, 2) := by decide +kernel
theorem dX14_readSub_298 : decode cX14_readSub 298 = .ok (.if_icmp .ne 13, 3) := by decide +kernel
theorem dX14_readSub_311 : decode cX14_readSub 311 = .ok (.goto (-264), 3) := by decide +kernel
theorem dX14_readSub_301 : decode cX14_readSub 301 = .ok (.aload_n 0, 1) := by decide +kernel
theorem dX14_readSub_302 : decode cX14_readSub 302 = .ok (.dup, 1) := by decide +kernel
theorem dX14_readSub_303 : decode cX14_readSub 303 = .ok (.getfield 548, 3) := by decide +kernel
theorem dX14_readSub_306 : decode cX14_readSub 306 = .ok (.iconst 1, 1) := by decide +kernel
theorem dX14_readSub_307 : decode cX14_readSub 307 = .ok (.iadd, 1) := by decide +kernel
theorem dX14_readSub_308 : decode cX14_readSub 308 = .ok (.putfield 548, 3) := by decide +kernel
theorem dX14_readSub_239 : decode cX14_readSub 239 = .ok (.aload_n 0, 1) := by decide +kernel
theorem dX14_readSub_240 : decode cX14_readSub 240 = .ok (.getfield 334, 3) := by decide +kernel
theorem dX14_readSub_243 : decode cX14_readSub 243 = .ok (.getfield 356, 3) := by decide +kernel
theorem dX14_readSub_246 : decode cX14_readSub 246 = .ok (.iload_n 2, 1) := by decide +kernel
theorem dX14_readSub_247 : decode cX14_readSub 247 = .ok (.iload 7, 2) := by decide +kernel
theorem dX14_readSub_249 : decode cX14_readSub 249 = .ok (.iastore, 1) := by decide +kernel
theorem dX14_readSub_250 : decode cX14_readSub 250 = .ok (.goto 15, 3) := by decide +kernel
theorem dX14_readSub_210 : decode cX14_readSub 210 = .ok (.aload_n 0, 1) := by decide +kernel
theorem dX14_readSub_211 : decode cX14_readSub 211 = .ok (.iconst 4, 1) := by decide +kernel
theorem dX14_readSub_212 : decode cX14_readSub 212 = .ok (.aload_n 0, 1) := by decide +kernel
theorem dX14_readSub_213 : decode cX14_readSub 213 = .ok (.invokevirtual 572, 3) := by decide +kernel
theorem dX14_readSub_216 : decode cX14_readSub 216 = .ok (.invokevirtual 280, 3) := by decide +kernel
theorem dX14_readSub_157 : decode cX14_readSub 157 = .ok (.aload_n 0, 1) := by decide +kernel
theorem dX14_readSub_158 : decode cX14_readSub 158 = .ok (.getfield 334, 3) := by decide +kernel
theorem dX14_readSub_161 : decode cX14_readSub 161 = .ok (.getfield 353, 3) := by decide +kernel
theorem dX14_readSub_164 : decode cX14_readSub 164 = .ok (.iload 7, 2) := by decide +kernel
theorem dX14_readSub_166 : decode cX14_readSub 166 = .ok (.iaload, 1) := by decide +kernel
theorem dX14_readSub_167 : decode cX14_readSub 167 = .ok (.iload 6, 2) := by decide +kernel
theorem dX14_readSub_169 : decode cX14_readSub 169 = .ok (.if_icmp .ne 12, 3) := by decide +kernel
theorem dX14_readSub_181 : decode cX14_readSub 181 = .ok (.aload_n 0, 1) := by decide +kernel
theorem dX14_readSub_182 : decode cX14_readSub 182 = .ok (.getfield 334, 3) := by decide +kernel
theorem dX14_readSub_185 : decode cX14_readSub 185 = .ok (.getfield 365, 3) := by decide +kernel
theorem dX14_readSub_188 : decode cX14_readSub 188 = .ok (.iload 7, 2) := by decide +kernel
theorem dX14_readSub_190 : decode cX14_readSub 190 = .ok (.iaload, 1) := by decide +kernel
theorem dX14_readSub_191 : decode cX14_readSub 191 = .ok (.istore 7, 2) := by decide +kernel
theorem dX14_readSub_193 : decode cX14_readSub 193 = .ok (.goto (-41), 3) := by decide +kernel
theorem dX14_readSub_172 : decode cX14_readSub 172 = .ok (.aload_n 0, 1) := by decide +kernel
theorem dX14_readSub_173 : decode cX14_readSub 173 = .ok (.iconst 3, 1) := by decide +kernel
theorem dX14_readSub_174 : decode cX14_readSub 174 = .ok (.aload_n 0, 1) := by decide +kernel
theorem dX14_readSub_175 : decode cX14_readSub 175 = .ok (.invokevirtual 572, 3) := by decide +kernel
theorem dX14_readSub_178 : decode cX14_readSub 178 = .ok (.invokevirtual 280, 3) := by decide +kernel
theorem dX14_readSub_115 : decode cX14_readSub 115 = .ok (.iconst 0, 1) := by decide +kernel
theorem dX14_readSub_116 : decode cX14_readSub 116 = .ok (.ireturn, 1) := by decide +kernel
theorem dX14_readSub_99 : decode cX14_readSub 99 = .ok (.aload_n 0, 1) := by decide +kernel
theorem dX14_readSub_100 : decode cX14_readSub 100 = .ok (.iconst 2, 1) := by decide +kernel
theorem dX14_readSub_101 : decode cX14_readSub 101 = .ok (.aload_n 0, 1) := by decide +kernel
theorem dX14_readSub_102 : decode cX14_readSub 102 = .ok (.invokevirtual 572, 3) := by decide +kernel
theorem dX14_readSub_105 : decode cX14_readSub 105 = .ok (.invokevirtual 280, 3) := by decide +kernel
theorem dX14_readSub_17 : decode cX14_readSub 17 = .ok (.iconst 0, 1) := by decide +kernel
theorem dX14_readSub_18 : decode cX14_readSub 18 = .ok (.ireturn, 1) := by decide +kernel
theorem dX14_readSteering_0 : decode cX14_readSteering 0 = .ok (.aload_n 0, 1) := by decide +kernel
theorem dX14_readSteering_1 : decode cX14_readSteering 1 = .ok (.invokevirtual 572, 3) := by decide +kernel
theorem dX14_readSteering_4 : decode cX14_readSteering 4 = .ok (.istore_n 3, 1) := by decide +kernel
theorem dX14_readSteering_5 : decode cX14_readSteering 5 = .ok (.aload_n 0, 1) := by decide +kernel
theorem dX14_readSteering_6 : decode cX14_readSteering 6 = .ok (.ldc_w 594, 3) := by decide +kernel
theorem dX14_readSteering_9 : decode cX14_readSteering 9 = .ok (.invokevirtual 576, 3) := by decide +kernel
theorem dX14_readSteering_12 : decode cX14_readSteering 12 = .ok (.ifCond .eq 83, 3) := by decide +kernel
theorem dX14_readSteering_95 : decode cX14_readSteering 95 = .ok (.aload_n 0, 1) := by decide +kernel
theorem dX14_readSteering_96 : decode cX14_readSteering 96 = .ok (.ldc_w 596, 3) := by decide +kernel
theorem dX14_readSteering_99 : decode cX14_readSteering 99 = .ok (.invokevirtual 576, 3) := by decide +kernel
theorem dX14_readSteering_102 : decode cX14_readSteering 102 = .ok (.ifCond .eq 83, 3) := by decide +kernel
theorem dX14_readSteering_185 : decode cX14_readSteering 185 = .ok (.aload_n 0, 1) := by decide +kernel
theorem dX14_readSteering_186 : decode cX14_readSteering 186 = .ok (.ldc_w 598, 3) := by decide +kernel
theorem dX14_readSteering_189 : decode cX14_readSteering 189 = .ok (.invokevirtual 576, 3) := by decide +kernel
theorem dX14_readSteering_192 : decode cX14_readSteering 192 = .ok (.ifCond .eq 68, 3) := by decide +kernel
theorem dX14_readSteering_260 : decode cX14_readSteering 260 = .ok (.aload_n 0, 1) := by decide +kernel
theorem dX14_readSteering_261 : decode cX14_readSteering 261 = .ok (.iconst 5, 1) := by decide +kernel
theorem dX14_readSteering_262 : decode cX14_readSteering 262 = .ok (.iload_n 2, 1) := by decide +kernel
theorem dX14_readSteering_263 : decode cX14_readSteering 263 = .ok (.invokevirtual 647, 3) := by decide +kernel
theorem dX14_readSteering_266 : decode cX14_readSteering 266 = .ok (.ifCond .ne 19, 3) := by decide +kernel
theorem dX14_readSteering_285 : decode cX14_readSteering 285 = .ok (.aload_n 0, 1) := by decide +kernel
theorem dX14_readSteering_286 : decode cX14_readSteering 286 = .ok (.dup, 1) := by decide +kernel
theorem dX14_readSteering_287 : decode cX14_readSteering 287 = .ok (.getfield 548, 3) := by decide +kernel
theorem dX14_readSteering_290 : decode cX14_readSteering 290 = .ok (.iconst 5, 1) := by decide +kernel
theorem dX14_readSteering_291 : decode cX14_readSteering 291 = .ok (.iadd, 1) := by decide +kernel
theorem dX14_readSteering_292 : decode cX14_readSteering 292 = .ok (.putfield 548, 3) := by decide +kernel
theorem dX14_readSteering_295 : decode cX14_readSteering 295 = .ok (.aload_n 0, 1) := by decide +kernel
theorem dX14_readSteering_296 : decode cX14_readSteering 296 = .ok (.aload_n 0, 1) := by decide +kernel
theorem dX14_readSteering_297 : decode cX14_readSteering 297 = .ok (.getfield 394, 3) := by decide +kernel
theorem dX14_readSteering_300 : decode cX14_readSteering 300 = .ok (.invokevirtual 650, 3) := by decide +kernel
theorem dX14_readSteering_303 : decode cX14_readSteering 303 = .ok (.aload_n 0, 1) := by decide +kernel
theorem dX14_readSteering_304 : decode cX14_readSteering 304 = .ok (.getfield 248, 3) := by decide +kernel
theorem dX14_readSteering_307 : decode cX14_readSteering 307 = .ok (.ifCond .eq 4, 3) := by decide +kernel
theorem dX14_readSteering_311 : decode cX14_readSteering 311 = .ok (.aload_n 0, 1) := by decide +kernel
theorem dX14_readSteering_312 : decode cX14_readSteering 312 = .ok (.dup, 1) := by decide +kernel
theorem dX14_readSteering_313 : decode cX14_readSteering 313 = .ok (.getfield 557, 3) := by decide +kernel
theorem dX14_readSteering_316 : decode cX14_readSteering 316 = .ok (.iconst 1, 1) := by decide +kernel
theorem dX14_readSteering_317 : decode cX14_readSteering 317 = .ok (.isub, 1) := by decide +kernel
theorem dX14_readSteering_318 : decode cX14_readSteering 318 = .ok (.putfield 557, 3) := by decide +kernel
theorem dX14_readSteering_321 : decode cX14_readSteering 321 = .ok (.aload_n 0, 1) := by decide +kernel
theorem dX14_readSteering_322 : decode cX14_readSteering 322 = .ok (.dup, 1) := by decide +kernel
theorem dX14_readSteering_323 : decode cX14_readSteering 323 = .ok (.getfield 551, 3) := by decide +kernel
theorem dX14_readSteering_326 : decode cX14_readSteering 326 = .ok (.iconst 1, 1) := by decide +kernel
theorem dX14_readSteering_327 : decode cX14_readSteering 327 = .ok (.isub, 1) := by decide +kernel
theorem dX14_readSteering_328 : decode cX14_readSteering 328 = .ok (.putfield 551, 3) := by decide +kernel
theorem dX14_readSteering_331 : decode cX14_readSteering 331 = .ok (.aload_n 0, 1) := by decide +kernel
theorem dX14_readSteering_332 : decode cX14_readSteering 332 = .ok (.bipush 24, 2) := by decide +kernel
theorem dX14_readSteering_334 : decode cX14_readSteering 334 = .ok (.iconst 0, 1) := by decide +kernel
theorem dX14_readSteering_335 : decode cX14_readSteering 335 = .ok (.iload_n 1, 1) := by decide +kernel
theorem dX14_readSteering_336 : decode cX14_readSteering 336 = .ok (.invokevirtual 619, 3) := by decide +kernel
theorem dX14_readSteering_339 : decode cX14_readSteering 339 = .ok (.return_, 1) := by decide +kernel
theorem dX14_readSteering_310 : decode cX14_readSteering 310 = .ok (.return_, 1) := by decide +kernel
theorem dX14_readSteering_269 : decode cX14_readSteering 269 = .ok (.aload_n 0, 1) := by decide +kernel
theorem dX14_readSteering_270 : decode cX14_readSteering 270 = .ok (.bipush 23, 2) := by decide +kernel
theorem dX14_readSteering_272 : decode cX14_readSteering 272 = .ok (.iload_n 2, 1) := by decide +kernel
theorem dX14_readSteering_273 : decode cX14_readSteering 273 = .ok (.invokevirtual 647, 3) := by decide +kernel
theorem dX14_readSteering_276 : decode cX14_readSteering 276 = .ok (.ifCond .ne 9, 3) := by decide +kernel
theorem dX14_readSteering_279 : decode cX14_readSteering 279 = .ok (.aload_n 0, 1) := by decide +kernel
theorem dX14_readSteering_280 : decode cX14_readSteering 280 = .ok (.iconst 1, 1) := by decide +kernel
theorem dX14_readSteering_281 : decode cX14_readSteering 281 = .ok (.iload_n 3, 1) := by decide +kernel
theorem dX14_readSteering_282 : decode cX14_readSteering 282 = .ok (.invokevirtual 280, 3) := by decide +kernel
theorem dX14_readSteering_195 : decode cX14_readSteering 195 = .ok (.aload_n 0, 1) := by decide +kernel
theorem dX14_readSteering_196 : decode cX14_readSteering 196 = .ok (.iconst 5, 1) := by decide +kernel
theorem dX14_readSteering_197 : decode cX14_readSteering 197 = .ok (.iload_n 2, 1) := by decide +kernel
theorem dX14_readSteering_198 : decode cX14_readSteering 198 = .ok (.invokevirtual 647, 3) := by decide +kernel
theorem dX14_readSteering_201 : decode cX14_readSteering 201 = .ok (.ifCond .ne 9, 3) := by decide +kernel
theorem dX14_readSteering_210 : decode cX14_readSteering 210 = .ok (.aload_n 0, 1) := by decide +kernel
theorem dX14_readSteering_211 : decode cX14_readSteering 211 = .ok (.dup, 1) := by decide +kernel
theorem dX14_readSteering_212 : decode cX14_readSteering 212 = .ok (.getfield 548, 3) := by decide +kernel
theorem dX14_readSteering_215 : decode cX14_readSteering 215 = .ok (.iconst 4, 1) := by decide +kernel
theorem dX14_readSteering_216 : decode cX14_readSteering 216 = .ok (.iadd, 1) := by decide +kernel
theorem dX14_readSteering_217 : decode cX14_readSteering 217 = .ok (.putfield 548, 3) := by decide +kernel
theorem dX14_readSteering_220 : decode cX14_readSteering 220 = .ok (.aload_n 0, 1) := by decide +kernel
theorem dX14_readSteering_221 : decode cX14_readSteering 221 = .ok (.aload_n 0, 1) := by decide +kernel
theorem dX14_readSteering_222 : decode cX14_readSteering 222 = .ok (.getfield 394, 3) := by decide +kernel
theorem dX14_readSteering_225 : decode cX14_readSteering 225 = .ok (.invokevirtual 650, 3) := by decide +kernel
theorem dX14_readSteering_228 : decode cX14_readSteering 228 = .ok (.aload_n 0, 1) := by decide +kernel
theorem dX14_readSteering_229 : decode cX14_readSteering 229 = .ok (.getfield 248, 3) := by decide +kernel
theorem dX14_readSteering_232 : decode cX14_readSteering 232 = .ok (.ifCond .eq 4, 3) := by decide +kernel
theorem dX14_readSteering_236 : decode cX14_readSteering 236 = .ok (.aload_n 0, 1) := by decide +kernel
theorem dX14_readSteering_237 : decode cX14_readSteering 237 = .ok (.getfield 61, 3) := by decide +kernel
theorem dX14_readSteering_240 : decode cX14_readSteering 240 = .ok (.aload_n 0, 1) := by decide +kernel
theorem dX14_readSteering_241 : decode cX14_readSteering 241 = .ok (.getfield 557, 3) := by decide +kernel
theorem dX14_readSteering_244 : decode cX14_readSteering 244 = .ok (.iconst 1, 1) := by decide +kernel
theorem dX14_readSteering_245 : decode cX14_readSteering 245 = .ok (.isub, 1) := by decide +kernel
theorem dX14_readSteering_246 : decode cX14_readSteering 246 = .ok (.bipush 23, 2) := by decide +kernel
theorem dX14_readSteering_248 : decode cX14_readSteering 248 = .ok (.iastore, 1) := by decide +kernel
theorem dX14_readSteering_249 : decode cX14_readSteering 249 = .ok (.aload_n 0, 1) := by decide +kernel
theorem dX14_readSteering_250 : decode cX14_readSteering 250 = .ok (.bipush 23, 2) := by decide +kernel
theorem dX14_readSteering_252 : decode cX14_readSteering 252 = .ok (.iconst 0, 1) := by decide +kernel
theorem dX14_readSteering_253 : decode cX14_readSteering 253 = .ok (.iload_n 1, 1) := by decide +kernel
theorem dX14_readSteering_254 : decode cX14_readSteering 254 = .ok (.invokevirtual 619, 3) := by decide +kernel
theorem dX14_readSteering_257 : decode cX14_readSteering 257 = .ok (.goto 82, 3) := by decide +kernel
theorem dX14_readSteering_235 : decode cX14_readSteering 235 = .ok (.return_, 1) := by decide +kernel
theorem dX14_readSteering_204 : decode cX14_readSteering 204 = .ok (.aload_n 0, 1) := by decide +kernel
theorem dX14_readSteering_205 : decode cX14_readSteering 205 = .ok (.iconst 1, 1) := by decide +kernel
theorem dX14_readSteering_206 : decode cX14_readSteering 206 = .ok (.iload_n 3, 1) := by decide +kernel
theorem dX14_readSteering_207 : decode cX14_readSteering 207 = .ok (.invokevirtual 280, 3) := by decide +kernel
theorem dX14_readSteering_105 : decode cX14_readSteering 105 = .ok (.aload_n 0, 1) := by decide +kernel
theorem dX14_readSteering_106 : decode cX14_readSteering 106 = .ok (.iconst 5, 1) := by decide +kernel
theorem dX14_readSteering_107 : decode cX14_readSteering 107 = .ok (.iload_n 2, 1) := by decide +kernel
theorem dX14_readSteering_108 : decode cX14_readSteering 108 = .ok (.invokevirtual 647, 3) := by decide +kernel
theorem dX14_readSteering_111 : decode cX14_readSteering 111 = .ok (.ifCond .ne 9, 3) := by decide +kernel
theorem dX14_readSteering_120 : decode cX14_readSteering 120 = .ok (.aload_n 0, 1) := by decide +kernel
theorem dX14_readSteering_121 : decode cX14_readSteering 121 = .ok (.getfield 248, 3) := by decide +kernel
theorem dX14_readSteering_124 : decode cX14_readSteering 124 = .ok (.ifCond .eq 4, 3) := by decide +kernel
theorem dX14_readSteering_128 : decode cX14_readSteering 128 = .ok (.aload_n 0, 1) := by decide +kernel
theorem dX14_readSteering_129 : decode cX14_readSteering 129 = .ok (.dup, 1) := by decide +kernel
theorem dX14_readSteering_130 : decode cX14_readSteering 130 = .ok (.getfield 548, 3) := by decide +kernel
theorem dX14_readSteering_133 : decode cX14_readSteering 133 = .ok (.bipush 6, 2) := by decide +kernel
theorem dX14_readSteering_135 : decode cX14_readSteering 135 = .ok (.iadd, 1) := by decide +kernel
theorem dX14_readSteering_136 : decode cX14_readSteering 136 = .ok (.putfield 548, 3) := by decide +kernel
theorem dX14_readSteering_139 : decode cX14_readSteering 139 = .ok (.aload_n 0, 1) := by decide +kernel
theorem dX14_readSteering_140 : decode cX14_readSteering 140 = .ok (.dup, 1) := by decide +kernel
theorem dX14_readSteering_141 : decode cX14_readSteering 141 = .ok (.getfield 551, 3) := by decide +kernel
theorem dX14_readSteering_144 : decode cX14_readSteering 144 = .ok (.iconst 1, 1) := by decide +kernel
theorem dX14_readSteering_145 : decode cX14_readSteering 145 = .ok (.isub, 1) := by decide +kernel
theorem dX14_readSteering_146 : decode cX14_readSteering 146 = .ok (.putfield 551, 3) := by decide +kernel
theorem dX14_readSteering_149 : decode cX14_readSteering 149 = .ok (.aload_n 0, 1) := by decide +kernel
theorem dX14_readSteering_150 : decode cX14_readSteering 150 = .ok (.invokevirtual 644, 3) := by decide +kernel
theorem dX14_readSteering_153 : decode cX14_readSteering 153 = .ok (.istore 4, 2) := by decide +kernel
theorem dX14_readSteering_155 : decode cX14_readSteering 155 = .ok (.aload_n 0, 1) := by decide +kernel
theorem dX14_readSteering_156 : decode cX14_readSteering 156 = .ok (.getfield 248, 3) := by decide +kernel
theorem dX14_readSteering_159 : decode cX14_readSteering 159 = .ok (.ifCond .eq 4, 3) := by decide +kernel
theorem dX14_readSteering_163 : decode cX14_readSteering 163 = .ok (.aload_n 0, 1) := by decide +kernel
theorem dX14_readSteering_164 : decode cX14_readSteering 164 = .ok (.dup, 1) := by decide +kernel
theorem dX14_readSteering_165 : decode cX14_readSteering 165 = .ok (.getfield 551, 3) := by decide +kernel
theorem dX14_readSteering_168 : decode cX14_readSteering 168 = .ok (.iconst 1, 1) := by decide +kernel
theorem dX14_readSteering_169 : decode cX14_readSteering 169 = .ok (.iadd, 1) := by decide +kernel
theorem dX14_readSteering_170 : decode cX14_readSteering 170 = .ok (.putfield 551, 3) := by decide +kernel
theorem dX14_readSteering_173 : decode cX14_readSteering 173 = .ok (.aload_n 0, 1) := by decide +kernel
theorem dX14_readSteering_174 : decode cX14_readSteering 174 = .ok (.bipush 22, 2) := by decide +kernel
theorem dX14_readSteering_176 : decode cX14_readSteering 176 = .ok (.iload 4, 2) := by decide +kernel
theorem dX14_readSteering_178 : decode cX14_readSteering 178 = .ok (.iload_n 1, 1) := by decide +kernel
theorem dX14_readSteering_179 : decode cX14_readSteering 179 = .ok (.invokevirtual 619, 3) := by decide +kernel
theorem dX14_readSteering_182 : decode cX14_readSteering 182 = .ok (.goto 157, 3) := by decide +kernel
theorem dX14_readSteering_162 : decode cX14_readSteering 162 = .ok (.return_, 1) := by decide +kernel
theorem dX14_readSteering_127 : decode cX14_readSteering 127 = .ok (.return_, 1) := by decide +kernel
theorem dX14_readSteering_114 : decode cX14_readSteering 114 = .ok (.aload_n 0, 1) := by decide +kernel
theorem dX14_readSteering_115 : decode cX14_readSteering 115 = .ok (.iconst 1, 1) := by decide +kernel
theorem dX14_readSteering_116 : decode cX14_readSteering 116 = .ok (.iload_n 3, 1) := by decide +kernel
theorem dX14_readSteering_117 : decode cX14_readSteering 117 = .ok (.invokevirtual 280, 3) := by decide +kernel
theorem dX14_readSteering_15 : decode cX14_readSteering 15 = .ok (.aload_n 0, 1) := by decide +kernel
theorem dX14_readSteering_16 : decode cX14_readSteering 16 = .ok (.dup, 1) := by decide +kernel
theorem dX14_readSteering_17 : decode cX14_readSteering 17 = .ok (.getfield 548, 3) := by decide +kernel
theorem dX14_readSteering_20 : decode cX14_readSteering 20 = .ok (.iconst 2, 1) := by decide +kernel
theorem dX14_readSteering_21 : decode cX14_readSteering 21 = .ok (.iadd, 1) := by decide +kernel
theorem dX14_readSteering_22 : decode cX14_readSteering 22 = .ok (.putfield 548, 3) := by decide +kernel
theorem dX14_readSteering_25 : decode cX14_readSteering 25 = .ok (.aload_n 0, 1) := by decide +kernel
theorem dX14_readSteering_26 : decode cX14_readSteering 26 = .ok (.getfield 551, 3) := by decide +kernel
theorem dX14_readSteering_29 : decode cX14_readSteering 29 = .ok (.bipush 20, 2) := by decide +kernel
theorem dX14_readSteering_31 : decode cX14_readSteering 31 = .ok (.if_icmp .ne 9, 3) := by decide +kernel
theorem dX14_readSteering_40 : decode cX14_readSteering 40 = .ok (.aload_n 0, 1) := by decide +kernel
theorem dX14_readSteering_41 : decode cX14_readSteering 41 = .ok (.invokevirtual 644, 3) := by decide +kernel
theorem dX14_readSteering_44 : decode cX14_readSteering 44 = .ok (.istore 4, 2) := by decide +kernel
theorem dX14_readSteering_46 : decode cX14_readSteering 46 = .ok (.aload_n 0, 1) := by decide +kernel
theorem dX14_readSteering_47 : decode cX14_readSteering 47 = .ok (.getfield 248, 3) := by decide +kernel
theorem dX14_readSteering_50 : decode cX14_readSteering 50 = .ok (.ifCond .eq 4, 3) := by decide +kernel
theorem dX14_readSteering_54 : decode cX14_readSteering 54 = .ok (.aload_n 0, 1) := by decide +kernel
theorem dX14_readSteering_55 : decode cX14_readSteering 55 = .ok (.dup, 1) := by decide +kernel
theorem dX14_readSteering_56 : decode cX14_readSteering 56 = .ok (.getfield 551, 3) := by decide +kernel
theorem dX14_readSteering_59 : decode cX14_readSteering 59 = .ok (.iconst 1, 1) := by decide +kernel
theorem dX14_readSteering_60 : decode cX14_readSteering 60 = .ok (.iadd, 1) := by decide +kernel
theorem dX14_readSteering_61 : decode cX14_readSteering 61 = .ok (.putfield 551, 3) := by decide +kernel
theorem dX14_readSteering_64 : decode cX14_readSteering 64 = .ok (.aload_n 0, 1) := by decide +kernel
theorem dX14_readSteering_65 : decode cX14_readSteering 65 = .ok (.getfield 61, 3) := by decide +kernel
theorem dX14_readSteering_68 : decode cX14_readSteering 68 = .ok (.aload_n 0, 1) := by decide +kernel
theorem dX14_readSteering_69 : decode cX14_readSteering 69 = .ok (.getfield 557, 3) := by decide +kernel
theorem dX14_readSteering_72 : decode cX14_readSteering 72 = .ok (.iconst 5, 1) := by decide +kernel
theorem dX14_readSteering_73 : decode cX14_readSteering 73 = .ok (.iastore, 1) := by decide +kernel
theorem dX14_readSteering_74 : decode cX14_readSteering 74 = .ok (.aload_n 0, 1) := by decide +kernel
theorem dX14_readSteering_75 : decode cX14_readSteering 75 = .ok (.dup, 1) := by decide +kernel
theorem dX14_readSteering_76 : decode cX14_readSteering 76 = .ok (.getfield 557, 3) := by decide +kernel
theorem dX14_readSteering_79 : decode cX14_readSteering 79 = .ok (.iconst 1, 1) := by decide +kernel
theorem dX14_readSteering_80 : decode cX14_readSteering 80 = .ok (.iadd, 1) := by decide +kernel
theorem dX14_readSteering_81 : decode cX14_readSteering 81 = .ok (.putfield 557, 3) := by decide +kernel
theorem dX14_readSteering_84 : decode cX14_readSteering 84 = .ok (.aload_n 0, 1) := by decide +kernel
theorem dX14_readSteering_85 : decode cX14_readSteering 85 = .ok (.iconst 5, 1) := by decide +kernel
theorem dX14_readSteering_86 : decode cX14_readSteering 86 = .ok (.iload 4, 2) := by decide +kernel
theorem dX14_readSteering_88 : decode cX14_readSteering 88 = .ok (.iload_n 1, 1) := by decide +kernel
theorem dX14_readSteering_89 : decode cX14_readSteering 89 = .ok (.invokevirtual 619, 3) := by decide +kernel
theorem dX14_readSteering_92 : decode cX14_readSteering 92 = .ok (.goto 247, 3) := by decide +kernel
theorem dX14_readSteering_53 : decode cX14_readSteering 53 = .ok (.return_, 1) := by decide +kernel
theorem dX14_readSteering_34 : decode cX14_readSteering 34 = .ok (.aload_n 0, 1) := by decide +kernel
theorem dX14_readSteering_35 : decode cX14_readSteering 35 = .ok (.iconst 4, 1) := by decide +kernel
theorem dX14_readSteering_36 : decode cX14_readSteering 36 = .ok (.iload_n 3, 1) := by decide +kernel
theorem dX14_readSteering_37 : decode cX14_readSteering 37 = .ok (.invokevirtual 280, 3) := by decide +kernel
theorem dX14_readTag_0 : decode cX14_readTag 0 = .ok (.aload_n 0, 1) := by decide +kernel
theorem dX14_readTag_1 : decode cX14_readTag 1 = .ok (.invokevirtual 572, 3) := by decide +kernel
theorem dX14_readTag_4 : decode cX14_readTag 4 = .ok (.istore_n 2, 1) := by decide +kernel
theorem dX14_readTag_5 : decode cX14_readTag 5 = .ok (.aload_n 0, 1) := by decide +kernel
theorem dX14_readTag_6 : decode cX14_readTag 6 = .ok (.dup, 1) := by decide +kernel
theorem dX14_readTag_7 : decode cX14_readTag 7 = .ok (.getfield 548, 3) := by decide +kernel
theorem dX14_readTag_10 : decode cX14_readTag 10 = .ok (.iconst 1, 1) := by decide +kernel
theorem dX14_readTag_11 : decode cX14_readTag 11 = .ok (.iadd, 1) := by decide +kernel
theorem dX14_readTag_12 : decode cX14_readTag 12 = .ok (.putfield 548, 3) := by decide +kernel
theorem dX14_readTag_15 : decode cX14_readTag 15 = .ok (.aload_n 0, 1) := by decide +kernel
theorem dX14_readTag_16 : decode cX14_readTag 16 = .ok (.invokevirtual 569, 3) := by decide +kernel
theorem dX14_readTag_19 : decode cX14_readTag 19 = .ok (.bipush 33, 2) := by decide +kernel
theorem dX14_readTag_21 : decode cX14_readTag 21 = .ok (.if_icmp .ne 87, 3) := by decide +kernel
theorem dX14_readTag_108 : decode cX14_readTag 108 = .ok (.aload_n 0, 1) := by decide +kernel
theorem dX14_readTag_109 : decode cX14_readTag 109 = .ok (.invokevirtual 569, 3) := by decide +kernel
theorem dX14_readTag_112 : decode cX14_readTag 112 = .ok (.bipush 92, 2) := by decide +kernel
theorem dX14_readTag_114 : decode cX14_readTag 114 = .ok (.if_icmp .ne 9, 3) := by decide +kernel
theorem dX14_readTag_123 : decode cX14_readTag 123 = .ok (.aload_n 0, 1) := by decide +kernel
theorem dX14_readTag_124 : decode cX14_readTag 124 = .ok (.invokevirtual 566, 3) := by decide +kernel
theorem dX14_readTag_127 : decode cX14_readTag 127 = .ok (.aload_n 0, 1) := by decide +kernel
theorem dX14_readTag_128 : decode cX14_readTag 128 = .ok (.invokevirtual 569, 3) := by decide +kernel
theorem dX14_readTag_131 : decode cX14_readTag 131 = .ok (.bipush 64, 2) := by decide +kernel
theorem dX14_readTag_133 : decode cX14_readTag 133 = .ok (.if_icmp .ne 12, 3) := by decide +kernel
theorem dX14_readTag_145 : decode cX14_readTag 145 = .ok (.aload_n 0, 1) := by decide +kernel
theorem dX14_readTag_146 : decode cX14_readTag 146 = .ok (.invokevirtual 605, 3) := by decide +kernel
theorem dX14_readTag_149 : decode cX14_readTag 149 = .ok (.ifCond .eq 12, 3) := by decide +kernel
theorem dX14_readTag_161 : decode cX14_readTag 161 = .ok (.aload_n 0, 1) := by decide +kernel
theorem dX14_readTag_162 : decode cX14_readTag 162 = .ok (.iload_n 2, 1) := by decide +kernel
theorem dX14_readTag_163 : decode cX14_readTag 163 = .ok (.invokevirtual 641, 3) := by decide +kernel
theorem dX14_readTag_166 : decode cX14_readTag 166 = .ok (.return_, 1) := by decide +kernel
theorem dX14_readTag_152 : decode cX14_readTag 152 = .ok (.aload_n 0, 1) := by decide +kernel
theorem dX14_readTag_153 : decode cX14_readTag 153 = .ok (.iload_n 2, 1) := by decide +kernel
theorem dX14_readTag_154 : decode cX14_readTag 154 = .ok (.iload_n 1, 1) := by decide +kernel
theorem dX14_readTag_155 : decode cX14_readTag 155 = .ok (.invokevirtual 638, 3) := by decide +kernel
theorem dX14_readTag_158 : decode cX14_readTag 158 = .ok (.goto 8, 3) := by decide +kernel
theorem dX14_readTag_136 : decode cX14_readTag 136 = .ok (.aload_n 0, 1) := by decide +kernel
theorem dX14_readTag_137 : decode cX14_readTag 137 = .ok (.iload_n 2, 1) := by decide +kernel
theorem dX14_readTag_138 : decode cX14_readTag 138 = .ok (.iload_n 1, 1) := by decide +kernel
theorem dX14_readTag_139 : decode cX14_readTag 139 = .ok (.invokevirtual 635, 3) := by decide +kernel
theorem dX14_readTag_142 : decode cX14_readTag 142 = .ok (.goto 24, 3) := by decide +kernel
theorem dX14_readTag_117 : decode cX14_readTag 117 = .ok (.aload_n 0, 1) := by decide +kernel
theorem dX14_readTag_118 : decode cX14_readTag 118 = .ok (.iload_n 2, 1) := by decide +kernel
theorem dX14_readTag_119 : decode cX14_readTag 119 = .ok (.invokevirtual 632, 3) := by decide +kernel
theorem dX14_readTag_122 : decode cX14_readTag 122 = .ok (.return_, 1) := by decide +kernel
theorem dX14_readTag_24 : decode cX14_readTag 24 = .ok (.aload_n 0, 1) := by decide +kernel
theorem dX14_readTag_25 : decode cX14_readTag 25 = .ok (.getfield 548, 3) := by decide +kernel
theorem dX14_readTag_28 : decode cX14_readTag 28 = .ok (.iconst 1, 1) := by decide +kernel
theorem dX14_readTag_29 : decode cX14_readTag 29 = .ok (.iadd, 1) := by decide +kernel
theorem dX14_readTag_30 : decode cX14_readTag 30 = .ok (.istore_n 3, 1) := by decide +kernel
theorem dX14_readTag_31 : decode cX14_readTag 31 = .ok (.iload_n 3, 1) := by decide +kernel
theorem dX14_readTag_32 : decode cX14_readTag 32 = .ok (.iconst 1, 1) := by decide +kernel
theorem dX14_readTag_33 : decode cX14_readTag 33 = .ok (.iadd, 1) := by decide +kernel
theorem dX14_readTag_34 : decode cX14_readTag 34 = .ok (.aload_n 0, 1) := by decide +kernel
theorem dX14_readTag_35 : decode cX14_readTag 35 = .ok (.getfield 533, 3) := by decide +kernel
theorem dX14_readTag_38 : decode cX14_readTag 38 = .ok (.if_icmp .ge 35, 3) := by decide +kernel
theorem dX14_readTag_73 : decode cX14_readTag 73 = .ok (.iload_n 3, 1) := by decide +kernel
theorem dX14_readTag_74 : decode cX14_readTag 74 = .ok (.iconst 1, 1) := by decide +kernel
theorem dX14_readTag_75 : decode cX14_readTag 75 = .ok (.iadd, 1) := by decide +kernel
theorem dX14_readTag_76 : decode cX14_readTag 76 = .ok (.aload_n 0, 1) := by decide +kernel
theorem dX14_readTag_77 : decode cX14_readTag 77 = .ok (.getfield 533, 3) := by decide +kernel
theorem dX14_readTag_80 : decode cX14_readTag 80 = .ok (.if_icmp .lt 12, 3) := by decide +kernel
theorem dX14_readTag_92 : decode cX14_readTag 92 = .ok (.aload_n 0, 1) := by decide +kernel
theorem dX14_readTag_93 : decode cX14_readTag 93 = .ok (.iload_n 3, 1) := by decide +kernel
theorem dX14_readTag_94 : decode cX14_readTag 94 = .ok (.iconst 2, 1) := by decide +kernel
theorem dX14_readTag_95 : decode cX14_readTag 95 = .ok (.iadd, 1) := by decide +kernel
theorem dX14_readTag_96 : decode cX14_readTag 96 = .ok (.putfield 548, 3) := by decide +kernel
theorem dX14_readTag_99 : decode cX14_readTag 99 = .ok (.aload_n 0, 1) := by decide +kernel
theorem dX14_readTag_100 : decode cX14_readTag 100 = .ok (.bipush 21, 2) := by decide +kernel
theorem dX14_readTag_102 : decode cX14_readTag 102 = .ok (.iconst 0, 1) := by decide +kernel
theorem dX14_readTag_103 : decode cX14_readTag 103 = .ok (.iload_n 2, 1) := by decide +kernel
theorem dX14_readTag_104 : decode cX14_readTag 104 = .ok (.invokevirtual 619, 3) := by decide +kernel
theorem dX14_readTag_107 : decode cX14_readTag 107 = .ok (.return_, 1) := by decide +kernel
theorem dX14_readTag_83 : decode cX14_readTag 83 = .ok (.aload_n 0, 1) := by decide +kernel
theorem dX14_readTag_84 : decode cX14_readTag 84 = .ok (.iconst 1, 1) := by decide +kernel
theorem dX14_readTag_85 : decode cX14_readTag 85 = .ok (.aload_n 0, 1) := by decide +kernel
theorem dX14_readTag_86 : decode cX14_readTag 86 = .ok (.getfield 536, 3) := by decide +kernel
theorem dX14_readTag_89 : decode cX14_readTag 89 = .ok (.invokevirtual 280, 3) := by decide +kernel
theorem dX14_readTag_41 : decode cX14_readTag 41 = .ok (.aload_n 0, 1) := by decide +kernel
theorem dX14_readTag_42 : decode cX14_readTag 42 = .ok (.getfield 36, 3) := by decide +kernel
theorem dX14_readTag_45 : decode cX14_readTag 45 = .ok (.iload_n 3, 1) := by decide +kernel
theorem dX14_readTag_46 : decode cX14_readTag 46 = .ok (.baload, 1) := by decide +kernel
theorem dX14_readTag_47 : decode cX14_readTag 47 = .ok (.bipush 33, 2) := by decide +kernel
theorem dX14_readTag_49 : decode cX14_readTag 49 = .ok (.if_icmp .ne 18, 3) := by decide +kernel
theorem dX14_readTag_67 : decode cX14_readTag 67 = .ok (.iinc 3 1, 3) := by decide +kernel
theorem dX14_readTag_70 : decode cX14_readTag 70 = .ok (.goto (-39), 3) := by decide +kernel
theorem dX14_readTag_52 : decode cX14_readTag 52 = .ok (.aload_n 0, 1) := by decide +kernel
theorem dX14_readTag_53 : decode cX14_readTag 53 = .ok (.getfield 36, 3) := by decide +kernel
theorem dX14_readTag_56 : decode cX14_readTag 56 = .ok (.iload_n 3, 1) := by decide +kernel
theorem dX14_readTag_57 : decode cX14_readTag 57 = .ok (.iconst 1, 1) := by decide +kernel
theorem dX14_readTag_58 : decode cX14_readTag 58 = .ok (.iadd, 1) := by decide +kernel
theorem dX14_readTag_59 : decode cX14_readTag 59 = .ok (.baload, 1) := by decide +kernel
theorem dX14_readTag_60 : decode cX14_readTag 60 = .ok (.aload_n 0, 1) := by decide +kernel
theorem dX14_readTag_61 : decode cX14_readTag 61 = .ok (.getfield 394, 3) := by decide +kernel
theorem dX14_readTag_64 : decode cX14_readTag 64 = .ok (.if_icmp .eq 9, 3) := by decide +kernel
theorem dX14_readAt_0 : decode cX14_readAt 0 = .ok (.aload_n 0, 1) := by decide +kernel
theorem dX14_readAt_1 : decode cX14_readAt 1 = .ok (.invokevirtual 572, 3) := by decide +kernel
theorem dX14_readAt_4 : decode cX14_readAt 4 = .ok (.istore_n 3, 1) := by decide +kernel
theorem dX14_readAt_5 : decode cX14_readAt 5 = .ok (.aload_n 0, 1) := by decide +kernel
theorem dX14_readAt_6 : decode cX14_readAt 6 = .ok (.dup, 1) := by decide +kernel
theorem dX14_readAt_7 : decode cX14_readAt 7 = .ok (.getfield 548, 3) := by decide +kernel
theorem dX14_readAt_10 : decode cX14_readAt 10 = .ok (.iconst 1, 1) := by decide +kernel
theorem dX14_readAt_11 : decode cX14_readAt 11 = .ok (.iadd, 1) := by decide +kernel
theorem dX14_readAt_12 : decode cX14_readAt 12 = .ok (.putfield 548, 3) := by decide +kernel
theorem dX14_readAt_15 : decode cX14_readAt 15 = .ok (.aload_n 0, 1) := by decide +kernel
theorem dX14_readAt_16 : decode cX14_readAt 16 = .ok (.invokevirtual 566, 3) := by decide +kernel
theorem dX14_readAt_19 : decode cX14_readAt 19 = .ok (.aload_n 0, 1) := by decide +kernel
theorem dX14_readAt_20 : decode cX14_readAt 20 = .ok (.ldc_w 656, 3) := by decide +kernel
theorem dX14_readAt_23 : decode cX14_readAt 23 = .ok (.invokevirtual 576, 3) := by decide +kernel
theorem dX14_readAt_26 : decode cX14_readAt 26 = .ok (.ifCond .eq 77, 3) := by decide +kernel
theorem dX14_readAt_103 : decode cX14_readAt 103 = .ok (.aload_n 0, 1) := by decide +kernel
theorem dX14_readAt_104 : decode cX14_readAt 104 = .ok (.ldc_w 608, 3) := by decide +kernel
theorem dX14_readAt_107 : decode cX14_readAt 107 = .ok (.invokevirtual 576, 3) := by decide +kernel
theorem dX14_readAt_110 : decode cX14_readAt 110 = .ok (.ifCond .eq 197, 3) := by decide +kernel
theorem dX14_readAt_307 : decode cX14_readAt 307 = .ok (.aload_n 0, 1) := by decide +kernel
theorem dX14_readAt_308 : decode cX14_readAt 308 = .ok (.getfield 42, 3) := by decide +kernel
theorem dX14_readAt_311 : decode cX14_readAt 311 = .ok (.ifCond .ge 38, 3) := by decide +kernel
theorem dX14_readAt_349 : decode cX14_readAt 349 = .ok (.aload_n 0, 1) := by decide +kernel
theorem dX14_readAt_350 : decode cX14_readAt 350 = .ok (.invokevirtual 658, 3) := by decide +kernel
theorem dX14_readAt_353 : decode cX14_readAt 353 = .ok (.istore 4, 2) := by decide +kernel
theorem dX14_readAt_355 : decode cX14_readAt 355 = .ok (.aload_n 0, 1) := by decide +kernel
theorem dX14_readAt_356 : decode cX14_readAt 356 = .ok (.getfield 248, 3) := by decide +kernel
theorem dX14_readAt_359 : decode cX14_readAt 359 = .ok (.ifCond .eq 4, 3) := by decide +kernel
theorem dX14_readAt_363 : decode cX14_readAt 363 = .ok (.aload_n 0, 1) := by decide +kernel
theorem dX14_readAt_364 : decode cX14_readAt 364 = .ok (.getfield 334, 3) := by decide +kernel
theorem dX14_readAt_367 : decode cX14_readAt 367 = .ok (.aload_n 0, 1) := by decide +kernel
theorem dX14_readAt_368 : decode cX14_readAt 368 = .ok (.getfield 42, 3) := by decide +kernel
theorem dX14_readAt_371 : decode cX14_readAt 371 = .ok (.iload 4, 2) := by decide +kernel
theorem dX14_readAt_373 : decode cX14_readAt 373 = .ok (.invokevirtual 661, 3) := by decide +kernel
theorem dX14_readAt_376 : decode cX14_readAt 376 = .ok (.ifCond .lt 12, 3) := by decide +kernel
theorem dX14_readAt_388 : decode cX14_readAt 388 = .ok (.aload_n 0, 1) := by decide +kernel
theorem dX14_readAt_389 : decode cX14_readAt 389 = .ok (.bipush 6, 2) := by decide +kernel
theorem dX14_readAt_391 : decode cX14_readAt 391 = .ok (.iload 4, 2) := by decide +kernel
theorem dX14_readAt_393 : decode cX14_readAt 393 = .ok (.iconst 0, 1) := by decide +kernel
theorem dX14_readAt_394 : decode cX14_readAt 394 = .ok (.iload_n 1, 1) := by decide +kernel
theorem dX14_readAt_395 : decode cX14_readAt 395 = .ok (.invokevirtual 387, 3) := by decide +kernel
theorem dX14_readAt_398 : decode cX14_readAt 398 = .ok (.istore 5, 2) := by decide +kernel
theorem dX14_readAt_400 : decode cX14_readAt 400 = .ok (.aload_n 0, 1) := by decide +kernel
theorem dX14_readAt_401 : decode cX14_readAt 401 = .ok (.getfield 334, 3) := by decide +kernel
theorem dX14_readAt_404 : decode cX14_readAt 404 = .ok (.getfield 359, 3) := by decide +kernel
theorem dX14_readAt_407 : decode cX14_readAt 407 = .ok (.iload 5, 2) := by decide +kernel
theorem dX14_readAt_409 : decode cX14_readAt 409 = .ok (.aload_n 0, 1) := by decide +kernel
theorem dX14_readAt_410 : decode cX14_readAt 410 = .ok (.getfield 42, 3) := by decide +kernel
theorem dX14_readAt_413 : decode cX14_readAt 413 = .ok (.iastore, 1) := by decide +kernel
theorem dX14_readAt_414 : decode cX14_readAt 414 = .ok (.aload_n 0, 1) := by decide +kernel
theorem dX14_readAt_415 : decode cX14_readAt 415 = .ok (.getfield 334, 3) := by decide +kernel
theorem dX14_readAt_418 : decode cX14_readAt 418 = .ok (.getfield 665, 3) := by decide +kernel
theorem dX14_readAt_421 : decode cX14_readAt 421 = .ok (.aload_n 0, 1) := by decide +kernel
theorem dX14_readAt_422 : decode cX14_readAt 422 = .ok (.getfield 334, 3) := by decide +kernel
theorem dX14_readAt_425 : decode cX14_readAt 425 = .ok (.getfield 668, 3) := by decide +kernel
theorem dX14_readAt_428 : decode cX14_readAt 428 = .ok (.aload_n 0, 1) := by decide +kernel
theorem dX14_readAt_429 : decode cX14_readAt 429 = .ok (.getfield 42, 3) := by decide +kernel
theorem dX14_readAt_432 : decode cX14_readAt 432 = .ok (.iastore, 1) := by decide +kernel
theorem dX14_readAt_433 : decode cX14_readAt 433 = .ok (.aload_n 0, 1) := by decide +kernel
theorem dX14_readAt_434 : decode cX14_readAt 434 = .ok (.getfield 334, 3) := by decide +kernel
theorem dX14_readAt_437 : decode cX14_readAt 437 = .ok (.getfield 671, 3) := by decide +kernel
theorem dX14_readAt_440 : decode cX14_readAt 440 = .ok (.aload_n 0, 1) := by decide +kernel
theorem dX14_readAt_441 : decode cX14_readAt 441 = .ok (.getfield 334, 3) := by decide +kernel
theorem dX14_readAt_444 : decode cX14_readAt 444 = .ok (.getfield 668, 3) := by decide +kernel
theorem dX14_readAt_447 : decode cX14_readAt 447 = .ok (.iload 4, 2) := by decide +kernel
theorem dX14_readAt_449 : decode cX14_readAt 449 = .ok (.iastore, 1) := by decide +kernel
theorem dX14_readAt_450 : decode cX14_readAt 450 = .ok (.aload_n 0, 1) := by decide +kernel
theorem dX14_readAt_451 : decode cX14_readAt 451 = .ok (.getfield 334, 3) := by decide +kernel
theorem dX14_readAt_454 : decode cX14_readAt 454 = .ok (.getfield 674, 3) := by decide +kernel
theorem dX14_readAt_457 : decode cX14_readAt 457 = .ok (.aload_n 0, 1) := by decide +kernel
theorem dX14_readAt_458 : decode cX14_readAt 458 = .ok (.getfield 334, 3) := by decide +kernel
theorem dX14_readAt_461 : decode cX14_readAt 461 = .ok (.getfield 668, 3) := by decide +kernel
theorem dX14_readAt_464 : decode cX14_readAt 464 = .ok (.iload 5, 2) := by decide +kernel
theorem dX14_readAt_466 : decode cX14_readAt 466 = .ok (.iastore, 1) := by decide +kernel
theorem dX14_readAt_467 : decode cX14_readAt 467 = .ok (.aload_n 0, 1) := by decide +kernel
theorem dX14_readAt_468 : decode cX14_readAt 468 = .ok (.getfield 334, 3) := by decide +kernel
theorem dX14_readAt_471 : decode cX14_readAt 471 = .ok (.dup, 1) := by decide +kernel
theorem dX14_readAt_472 : decode cX14_readAt 472 = .ok (.getfield 668, 3) := by decide +kernel
theorem dX14_readAt_475 : decode cX14_readAt 475 = .ok (.iconst 1, 1) := by decide +kernel
theorem dX14_readAt_476 : decode cX14_readAt 476 = .ok (.iadd, 1) := by decide +kernel
theorem dX14_readAt_477 : decode cX14_readAt 477 = .ok (.putfield 668, 3) := by decide +kernel
theorem dX14_readAt_480 : decode cX14_readAt 480 = .ok (.aload_n 0, 1) := by decide +kernel
theorem dX14_readAt_481 : decode cX14_readAt 481 = .ok (.invokevirtual 566, 3) := by decide +kernel
theorem dX14_readAt_484 : decode cX14_readAt 484 = .ok (.aload_n 0, 1) := by decide +kernel
theorem dX14_readAt_485 : decode cX14_readAt 485 = .ok (.invokevirtual 569, 3) := by decide +kernel
theorem dX14_readAt_488 : decode cX14_readAt 488 = .ok (.bipush 40, 2) := by decide +kernel
theorem dX14_readAt_490 : decode cX14_readAt 490 = .ok (.if_icmp .ne 56, 3) := by decide +kernel
theorem dX14_readAt_546 : decode cX14_readAt 546 = .ok (.aload_n 0, 1) := by decide +kernel
theorem dX14_readAt_547 : decode cX14_readAt 547 = .ok (.aload_n 0, 1) := by decide +kernel
theorem dX14_readAt_548 : decode cX14_readAt 548 = .ok (.getfield 394, 3) := by decide +kernel
theorem dX14_readAt_551 : decode cX14_readAt 551 = .ok (.invokevirtual 650, 3) := by decide +kernel
theorem dX14_readAt_554 : decode cX14_readAt 554 = .ok (.aload_n 0, 1) := by decide +kernel
theorem dX14_readAt_555 : decode cX14_readAt 555 = .ok (.getfield 248, 3) := by decide +kernel
theorem dX14_readAt_558 : decode cX14_readAt 558 = .ok (.ifCond .eq 4, 3) := by decide +kernel
theorem dX14_readAt_562 : decode cX14_readAt 562 = .ok (.aload_n 0, 1) := by decide +kernel
theorem dX14_readAt_563 : decode cX14_readAt 563 = .ok (.iload_n 3, 1) := by decide +kernel
theorem dX14_readAt_564 : decode cX14_readAt 564 = .ok (.invokevirtual 677, 3) := by decide +kernel
theorem dX14_readAt_567 : decode cX14_readAt 567 = .ok (.aload_n 0, 1) := by decide +kernel
theorem dX14_readAt_568 : decode cX14_readAt 568 = .ok (.getfield 61, 3) := by decide +kernel
theorem dX14_readAt_571 : decode cX14_readAt 571 = .ok (.aload_n 0, 1) := by decide +kernel
theorem dX14_readAt_572 : decode cX14_readAt 572 = .ok (.getfield 557, 3) := by decide +kernel
theorem dX14_readAt_575 : decode cX14_readAt 575 = .ok (.bipush 25, 2) := by decide +kernel
theorem dX14_readAt_577 : decode cX14_readAt 577 = .ok (.iastore, 1) := by decide +kernel
theorem dX14_readAt_578 : decode cX14_readAt 578 = .ok (.aload_n 0, 1) := by decide +kernel
theorem dX14_readAt_579 : decode cX14_readAt 579 = .ok (.dup, 1) := by decide +kernel
theorem dX14_readAt_580 : decode cX14_readAt 580 = .ok (.getfield 557, 3) := by decide +kernel
theorem dX14_readAt_583 : decode cX14_readAt 583 = .ok (.iconst 1, 1) := by decide +kernel
theorem dX14_readAt_584 : decode cX14_readAt 584 = .ok (.iadd, 1) := by decide +kernel
theorem dX14_readAt_585 : decode cX14_readAt 585 = .ok (.putfield 557, 3) := by decide +kernel
theorem dX14_readAt_588 : decode cX14_readAt 588 = .ok (.aload_n 0, 1) := by decide +kernel
theorem dX14_readAt_589 : decode cX14_readAt 589 = .ok (.bipush 25, 2) := by decide +kernel
theorem dX14_readAt_591 : decode cX14_readAt 591 = .ok (.iload 5, 2) := by decide +kernel
theorem dX14_readAt_593 : decode cX14_readAt 593 = .ok (.iload_n 1, 1) := by decide +kernel
theorem dX14_readAt_594 : decode cX14_readAt 594 = .ok (.invokevirtual 619, 3) := by decide +kernel
theorem dX14_readAt_597 : decode cX14_readAt 597 = .ok (.return_, 1) := by decide +kernel
theorem dX14_readAt_561 : decode cX14_readAt 561 = .ok (.return_, 1) := by decide +kernel
theorem dX14_readAt_493 : decode cX14_readAt 493 = .ok (.aload_n 0, 1) := by decide +kernel
theorem dX14_readAt_494 : decode cX14_readAt 494 = .ok (.dup, 1) := by decide +kernel
theorem dX14_readAt_495 : decode cX14_readAt 495 = .ok (.getfield 548, 3) := by decide +kernel
theorem dX14_readAt_498 : decode cX14_readAt 498 = .ok (.iconst 1, 1) := by decide +kernel
theorem dX14_readAt_499 : decode cX14_readAt 499 = .ok (.iadd, 1) := by decide +kernel
theorem dX14_readAt_500 : decode cX14_readAt 500 = .ok (.putfield 548, 3) := by decide +kernel
theorem dX14_readAt_503 : decode cX14_readAt 503 = .ok (.aload_n 0, 1) := by decide +kernel
theorem dX14_readAt_504 : decode cX14_readAt 504 = .ok (.bipush 41, 2) := by decide +kernel
theorem dX14_readAt_506 : decode cX14_readAt 506 = .ok (.invokevirtual 650, 3) := by decide +kernel
theorem dX14_readAt_509 : decode cX14_readAt 509 = .ok (.aload_n 0, 1) := by decide +kernel
theorem dX14_readAt_510 : decode cX14_readAt 510 = .ok (.aload_n 0, 1) := by decide +kernel
theorem dX14_readAt_511 : decode cX14_readAt 511 = .ok (.getfield 394, 3) := by decide +kernel
theorem dX14_readAt_514 : decode cX14_readAt 514 = .ok (.invokevirtual 650, 3) := by decide +kernel
theorem dX14_readAt_517 : decode cX14_readAt 517 = .ok (.aload_n 0, 1) := by decide +kernel
theorem dX14_readAt_518 : decode cX14_readAt 518 = .ok (.getfield 334, 3) := by decide +kernel
theorem dX14_readAt_521 : decode cX14_readAt 521 = .ok (.getfield 356, 3) := by decide +kernel
theorem dX14_readAt_524 : decode cX14_readAt 524 = .ok (.iload 5, 2) := by decide +kernel
theorem dX14_readAt_526 : decode cX14_readAt 526 = .ok (.aload_n 0, 1) := by decide +kernel
theorem dX14_readAt_527 : decode cX14_readAt 527 = .ok (.bipush 9, 2) := by decide +kernel
theorem dX14_readAt_529 : decode cX14_readAt 529 = .ok (.iconst 0, 1) := by decide +kernel
theorem dX14_readAt_530 : decode cX14_readAt 530 = .ok (.iconst 0, 1) := by decide +kernel
theorem dX14_readAt_531 : decode cX14_readAt 531 = .ok (.iload_n 1, 1) := by decide +kernel
theorem dX14_readAt_532 : decode cX14_readAt 532 = .ok (.invokevirtual 387, 3) := by decide +kernel
theorem dX14_readAt_535 : decode cX14_readAt 535 = .ok (.iastore, 1) := by decide +kernel
theorem dX14_readAt_536 : decode cX14_readAt 536 = .ok (.aload_n 0, 1) := by decide +kernel
theorem dX14_readAt_537 : decode cX14_readAt 537 = .ok (.bipush 6, 2) := by decide +kernel
theorem dX14_readAt_539 : decode cX14_readAt 539 = .ok (.iload 5, 2) := by decide +kernel
theorem dX14_readAt_541 : decode cX14_readAt 541 = .ok (.iload_n 1, 1) := by decide +kernel
theorem dX14_readAt_542 : decode cX14_readAt 542 = .ok (.invokevirtual 619, 3) := by decide +kernel
theorem dX14_readAt_545 : decode cX14_readAt 545 = .ok (.return_, 1) := by decide +kernel
theorem dX14_readAt_379 : decode cX14_readAt 379 = .ok (.aload_n 0, 1) := by decide +kernel
theorem dX14_readAt_380 : decode cX14_readAt 380 = .ok (.iconst 3, 1) := by decide +kernel
theorem dX14_readAt_381 : decode cX14_readAt 381 = .ok (.aload_n 0, 1) := by decide +kernel
theorem dX14_readAt_382 : decode cX14_readAt 382 = .ok (.getfield 610, 3) := by decide +kernel
theorem dX14_readAt_385 : decode cX14_readAt 385 = .ok (.invokevirtual 280, 3) := by decide +kernel
theorem dX14_readAt_362 : decode cX14_readAt 362 = .ok (.return_, 1) := by decide +kernel
theorem dX14_readAt_314 : decode cX14_readAt 314 = .ok (.aload_n 0, 1) := by decide +kernel
theorem dX14_readAt_315 : decode cX14_readAt 315 = .ok (.iconst 1, 1) := by decide +kernel
theorem dX14_readAt_316 : decode cX14_readAt 316 = .ok (.aload_n 0, 1) := by decide +kernel
theorem dX14_readAt_317 : decode cX14_readAt 317 = .ok (.getfield 36, 3) := by decide +kernel
theorem dX14_readAt_320 : decode cX14_readAt 320 = .ok (.aload_n 0, 1) := by decide +kernel
theorem dX14_readAt_321 : decode cX14_readAt 321 = .ok (.getfield 533, 3) := by decide +kernel
theorem dX14_readAt_324 : decode cX14_readAt 324 = .ok (.aload_n 0, 1) := by decide +kernel
theorem dX14_readAt_325 : decode cX14_readAt 325 = .ok (.getfield 548, 3) := by decide +kernel
theorem dX14_readAt_328 : decode cX14_readAt 328 = .ok (.invokestatic 300, 3) := by decide +kernel
theorem dX14_readAt_331 : decode cX14_readAt 331 = .ok (.aload_n 0, 1) := by decide +kernel
theorem dX14_readAt_332 : decode cX14_readAt 332 = .ok (.getfield 548, 3) := by decide +kernel
theorem dX14_readAt_335 : decode cX14_readAt 335 = .ok (.if_icmp .le 7, 3) := by decide +kernel
theorem dX14_readAt_342 : decode cX14_readAt 342 = .ok (.aload_n 0, 1) := by decide +kernel
theorem dX14_readAt_343 : decode cX14_readAt 343 = .ok (.invokevirtual 572, 3) := by decide +kernel
theorem dX14_readAt_346 : decode cX14_readAt 346 = .ok (.invokevirtual 280, 3) := by decide +kernel
theorem dX14_readAt_338 : decode cX14_readAt 338 = .ok (.iload_n 3, 1) := by decide +kernel
theorem dX14_readAt_339 : decode cX14_readAt 339 = .ok (.goto 7, 3) := by decide +kernel
theorem dX14_readAt_113 : decode cX14_readAt 113 = .ok (.aload_n 0, 1) := by decide +kernel
theorem dX14_readAt_114 : decode cX14_readAt 114 = .ok (.getfield 46, 3) := by decide +kernel
theorem dX14_readAt_117 : decode cX14_readAt 117 = .ok (.ifCond .ge 9, 3) := by decide +kernel
theorem dX14_readAt_126 : decode cX14_readAt 126 = .ok (.aload_n 0, 1) := by decide +kernel
theorem dX14_readAt_127 : decode cX14_readAt 127 = .ok (.dup, 1) := by decide +kernel
theorem dX14_readAt_128 : decode cX14_readAt 128 = .ok (.getfield 548, 3) := by decide +kernel
theorem dX14_readAt_131 : decode cX14_readAt 131 = .ok (.iconst 5, 1) := by decide +kernel
theorem dX14_readAt_132 : decode cX14_readAt 132 = .ok (.iadd, 1) := by decide +kernel
theorem dX14_readAt_133 : decode cX14_readAt 133 = .ok (.putfield 548, 3) := by decide +kernel
theorem dX14_readAt_136 : decode cX14_readAt 136 = .ok (.aload_n 0, 1) := by decide +kernel
theorem dX14_readAt_137 : decode cX14_readAt 137 = .ok (.bipush 46, 2) := by decide +kernel
theorem dX14_readAt_139 : decode cX14_readAt 139 = .ok (.invokevirtual 650, 3) := by decide +kernel
theorem dX14_readAt_142 : decode cX14_readAt 142 = .ok (.aload_n 0, 1) := by decide +kernel
theorem dX14_readAt_143 : decode cX14_readAt 143 = .ok (.invokevirtual 566, 3) := by decide +kernel
theorem dX14_readAt_146 : decode cX14_readAt 146 = .ok (.aload_n 0, 1) := by decide +kernel
theorem dX14_readAt_147 : decode cX14_readAt 147 = .ok (.getfield 248, 3) := by decide +kernel
theorem dX14_readAt_150 : decode cX14_readAt 150 = .ok (.ifCond .ne 41, 3) := by decide +kernel
theorem dX14_readAt_191 : decode cX14_readAt 191 = .ok (.aload_n 0, 1) := by decide +kernel
theorem dX14_readAt_192 : decode cX14_readAt 192 = .ok (.invokevirtual 658, 3) := by decide +kernel
theorem dX14_readAt_195 : decode cX14_readAt 195 = .ok (.istore 4, 2) := by decide +kernel
theorem dX14_readAt_197 : decode cX14_readAt 197 = .ok (.aload_n 0, 1) := by decide +kernel
theorem dX14_readAt_198 : decode cX14_readAt 198 = .ok (.getfield 248, 3) := by decide +kernel
theorem dX14_readAt_201 : decode cX14_readAt 201 = .ok (.ifCond .ne 26, 3) := by decide +kernel
theorem dX14_readAt_227 : decode cX14_readAt 227 = .ok (.aload_n 0, 1) := by decide +kernel
theorem dX14_readAt_228 : decode cX14_readAt 228 = .ok (.getfield 248, 3) := by decide +kernel
theorem dX14_readAt_231 : decode cX14_readAt 231 = .ok (.ifCond .eq 4, 3) := by decide +kernel
theorem dX14_readAt_235 : decode cX14_readAt 235 = .ok (.aload_n 0, 1) := by decide +kernel
theorem dX14_readAt_236 : decode cX14_readAt 236 = .ok (.bipush 7, 2) := by decide +kernel
theorem dX14_readAt_238 : decode cX14_readAt 238 = .ok (.iload 4, 2) := by decide +kernel
theorem dX14_readAt_240 : decode cX14_readAt 240 = .ok (.iconst 0, 1) := by decide +kernel
theorem dX14_readAt_241 : decode cX14_readAt 241 = .ok (.iload_n 1, 1) := by decide +kernel
theorem dX14_readAt_242 : decode cX14_readAt 242 = .ok (.invokevirtual 387, 3) := by decide +kernel
theorem dX14_readAt_245 : decode cX14_readAt 245 = .ok (.istore 5, 2) := by decide +kernel
theorem dX14_readAt_247 : decode cX14_readAt 247 = .ok (.aload_n 0, 1) := by decide +kernel
theorem dX14_readAt_248 : decode cX14_readAt 248 = .ok (.getfield 334, 3) := by decide +kernel
theorem dX14_readAt_251 : decode cX14_readAt 251 = .ok (.getfield 359, 3) := by decide +kernel
theorem dX14_readAt_254 : decode cX14_readAt 254 = .ok (.iload 5, 2) := by decide +kernel
theorem dX14_readAt_256 : decode cX14_readAt 256 = .ok (.aload_n 0, 1) := by decide +kernel
theorem dX14_readAt_257 : decode cX14_readAt 257 = .ok (.getfield 46, 3) := by decide +kernel
theorem dX14_readAt_260 : decode cX14_readAt 260 = .ok (.iastore, 1) := by decide +kernel
theorem dX14_readAt_261 : decode cX14_readAt 261 = .ok (.aload_n 0, 1) := by decide +kernel
theorem dX14_readAt_262 : decode cX14_readAt 262 = .ok (.bipush 7, 2) := by decide +kernel
theorem dX14_readAt_264 : decode cX14_readAt 264 = .ok (.iload 5, 2) := by decide +kernel
theorem dX14_readAt_266 : decode cX14_readAt 266 = .ok (.aload_n 0, 1) := by decide +kernel
theorem dX14_readAt_267 : decode cX14_readAt 267 = .ok (.getfield 46, 3) := by decide +kernel
theorem dX14_readAt_270 : decode cX14_readAt 270 = .ok (.aload_n 0, 1) := by decide +kernel
theorem dX14_readAt_271 : decode cX14_readAt 271 = .ok (.getfield 610, 3) := by decide +kernel
theorem dX14_readAt_274 : decode cX14_readAt 274 = .ok (.invokevirtual 479, 3) := by decide +kernel
theorem dX14_readAt_277 : decode cX14_readAt 277 = .ok (.aload_n 0, 1) := by decide +kernel
theorem dX14_readAt_278 : decode cX14_readAt 278 = .ok (.bipush 40, 2) := by decide +kernel
theorem dX14_readAt_280 : decode cX14_readAt 280 = .ok (.invokevirtual 650, 3) := by decide +kernel
theorem dX14_readAt_283 : decode cX14_readAt 283 = .ok (.aload_n 0, 1) := by decide +kernel
theorem dX14_readAt_284 : decode cX14_readAt 284 = .ok (.bipush 41, 2) := by decide +kernel
theorem dX14_readAt_286 : decode cX14_readAt 286 = .ok (.invokevirtual 650, 3) := by decide +kernel
theorem dX14_readAt_289 : decode cX14_readAt 289 = .ok (.aload_n 0, 1) := by decide +kernel
theorem dX14_readAt_290 : decode cX14_readAt 290 = .ok (.aload_n 0, 1) := by decide +kernel
theorem dX14_readAt_291 : decode cX14_readAt 291 = .ok (.getfield 394, 3) := by decide +kernel
theorem dX14_readAt_294 : decode cX14_readAt 294 = .ok (.invokevirtual 650, 3) := by decide +kernel
theorem dX14_readAt_297 : decode cX14_readAt 297 = .ok (.aload_n 0, 1) := by decide +kernel
theorem dX14_readAt_298 : decode cX14_readAt 298 = .ok (.bipush 7, 2) := by decide +kernel
theorem dX14_readAt_300 : decode cX14_readAt 300 = .ok (.iload 5, 2) := by decide +kernel
theorem dX14_readAt_302 : decode cX14_readAt 302 = .ok (.iload_n 1, 1) := by decide +kernel
theorem dX14_readAt_303 : decode cX14_readAt 303 = .ok (.invokevirtual 619, 3) := by decide +kernel
theorem dX14_readAt_306 : decode cX14_readAt 306 = .ok (.return_, 1) := by decide +kernel
theorem dX14_readAt_234 : decode cX14_readAt 234 = .ok (.return_, 1) := by decide +kernel
theorem dX14_readAt_204 : decode cX14_readAt 204 = .ok (.aload_n 0, 1) := by decide +kernel
theorem dX14_readAt_205 : decode cX14_readAt 205 = .ok (.getfield 334, 3) := by decide +kernel
theorem dX14_readAt_208 : decode cX14_readAt 208 = .ok (.getfield 473, 3) := by decide +kernel
theorem dX14_readAt_211 : decode cX14_readAt 211 = .ok (.aload_n 0, 1) := by decide +kernel
theorem dX14_readAt_212 : decode cX14_readAt 212 = .ok (.getfield 46, 3) := by decide +kernel
theorem dX14_readAt_215 : decode cX14_readAt 215 = .ok (.iaload, 1) := by decide +kernel
theorem dX14_readAt_216 : decode cX14_readAt 216 = .ok (.iload 4, 2) := by decide +kernel
theorem dX14_readAt_218 : decode cX14_readAt 218 = .ok (.if_icmp .eq 9, 3) := by decide +kernel
theorem dX14_readAt_221 : decode cX14_readAt 221 = .ok (.aload_n 0, 1) := by decide +kernel
theorem dX14_readAt_222 : decode cX14_readAt 222 = .ok (.iconst 1, 1) := by decide +kernel
theorem dX14_readAt_223 : decode cX14_readAt 223 = .ok (.iload_n 3, 1) := by decide +kernel
theorem dX14_readAt_224 : decode cX14_readAt 224 = .ok (.invokevirtual 280, 3) := by decide +kernel
theorem dX14_readAt_153 : decode cX14_readAt 153 = .ok (.aload_n 0, 1) := by decide +kernel
theorem dX14_readAt_154 : decode cX14_readAt 154 = .ok (.invokevirtual 613, 3) := by decide +kernel
theorem dX14_readAt_157 : decode cX14_readAt 157 = .ok (.ifCond .ne 34, 3) := by decide +kernel
theorem dX14_readAt_160 : decode cX14_readAt 160 = .ok (.aload_n 0, 1) := by decide +kernel
theorem dX14_readAt_161 : decode cX14_readAt 161 = .ok (.getfield 36, 3) := by decide +kernel
theorem dX14_readAt_164 : decode cX14_readAt 164 = .ok (.aload_n 0, 1) := by decide +kernel
theorem dX14_readAt_165 : decode cX14_readAt 165 = .ok (.getfield 533, 3) := by decide +kernel
theorem dX14_readAt_168 : decode cX14_readAt 168 = .ok (.aload_n 0, 1) := by decide +kernel
theorem dX14_readAt_169 : decode cX14_readAt 169 = .ok (.getfield 548, 3) := by decide +kernel
theorem dX14_readAt_172 : decode cX14_readAt 172 = .ok (.invokestatic 300, 3) := by decide +kernel
theorem dX14_readAt_175 : decode cX14_readAt 175 = .ok (.aload_n 0, 1) := by decide +kernel
theorem dX14_readAt_176 : decode cX14_readAt 176 = .ok (.getfield 548, 3) := by decide +kernel
theorem dX14_readAt_179 : decode cX14_readAt 179 = .ok (.isub, 1) := by decide +kernel
theorem dX14_readAt_180 : decode cX14_readAt 180 = .ok (.bipush 16, 2) := by decide +kernel
theorem dX14_readAt_182 : decode cX14_readAt 182 = .ok (.if_icmp .le 9, 3) := by decide +kernel
theorem dX14_readAt_185 : decode cX14_readAt 185 = .ok (.aload_n 0, 1) := by decide +kernel
theorem dX14_readAt_186 : decode cX14_readAt 186 = .ok (.iconst 1, 1) := by decide +kernel
theorem dX14_readAt_187 : decode cX14_readAt 187 = .ok (.iload_n 3, 1) := by decide +kernel
theorem dX14_readAt_188 : decode cX14_readAt 188 = .ok (.invokevirtual 280, 3) := by decide +kernel
theorem dX14_readAt_120 : decode cX14_readAt 120 = .ok (.aload_n 0, 1) := by decide +kernel
theorem dX14_readAt_121 : decode cX14_readAt 121 = .ok (.iconst 1, 1) := by decide +kernel
theorem dX14_readAt_122 : decode cX14_readAt 122 = .ok (.iload_n 3, 1) := by decide +kernel
theorem dX14_readAt_123 : decode cX14_readAt 123 = .ok (.invokevirtual 280, 3) := by decide +kernel
theorem dX14_readAt_29 : decode cX14_readAt 29 = .ok (.aload_n 0, 1) := by decide +kernel
theorem dX14_readAt_30 : decode cX14_readAt 30 = .ok (.bipush 25, 2) := by decide +kernel
theorem dX14_readAt_32 : decode cX14_readAt 32 = .ok (.iload_n 2, 1) := by decide +kernel
theorem dX14_readAt_33 : decode cX14_readAt 33 = .ok (.invokevirtual 647, 3) := by decide +kernel
theorem dX14_readAt_36 : decode cX14_readAt 36 = .ok (.ifCond .ne 12, 3) := by decide +kernel
theorem dX14_readAt_48 : decode cX14_readAt 48 = .ok (.aload_n 0, 1) := by decide +kernel
theorem dX14_readAt_49 : decode cX14_readAt 49 = .ok (.dup, 1) := by decide +kernel
theorem dX14_readAt_50 : decode cX14_readAt 50 = .ok (.getfield 548, 3) := by decide +kernel
theorem dX14_readAt_53 : decode cX14_readAt 53 = .ok (.iconst 3, 1) := by decide +kernel
theorem dX14_readAt_54 : decode cX14_readAt 54 = .ok (.iadd, 1) := by decide +kernel
theorem dX14_readAt_55 : decode cX14_readAt 55 = .ok (.putfield 548, 3) := by decide +kernel
theorem dX14_readAt_58 : decode cX14_readAt 58 = .ok (.aload_n 0, 1) := by decide +kernel
theorem dX14_readAt_59 : decode cX14_readAt 59 = .ok (.aload_n 0, 1) := by decide +kernel
theorem dX14_readAt_60 : decode cX14_readAt 60 = .ok (.getfield 394, 3) := by decide +kernel
theorem dX14_readAt_63 : decode cX14_readAt 63 = .ok (.invokevirtual 650, 3) := by decide +kernel
theorem dX14_readAt_66 : decode cX14_readAt 66 = .ok (.aload_n 0, 1) := by decide +kernel
theorem dX14_readAt_67 : decode cX14_readAt 67 = .ok (.getfield 248, 3) := by decide +kernel
theorem dX14_readAt_70 : decode cX14_readAt 70 = .ok (.ifCond .eq 4, 3) := by decide +kernel
theorem dX14_readAt_74 : decode cX14_readAt 74 = .ok (.aload_n 0, 1) := by decide +kernel
theorem dX14_readAt_75 : decode cX14_readAt 75 = .ok (.dup, 1) := by decide +kernel
theorem dX14_readAt_76 : decode cX14_readAt 76 = .ok (.getfield 557, 3) := by decide +kernel
theorem dX14_readAt_79 : decode cX14_readAt 79 = .ok (.iconst 1, 1) := by decide +kernel
theorem dX14_readAt_80 : decode cX14_readAt 80 = .ok (.isub, 1) := by decide +kernel
theorem dX14_readAt_81 : decode cX14_readAt 81 = .ok (.putfield 557, 3) := by decide +kernel
theorem dX14_readAt_84 : decode cX14_readAt 84 = .ok (.aload_n 0, 1) := by decide +kernel
theorem dX14_readAt_85 : decode cX14_readAt 85 = .ok (.dup, 1) := by decide +kernel
theorem dX14_readAt_86 : decode cX14_readAt 86 = .ok (.getfield 551, 3) := by decide +kernel
theorem dX14_readAt_89 : decode cX14_readAt 89 = .ok (.iconst 1, 1) := by decide +kernel
theorem dX14_readAt_90 : decode cX14_readAt 90 = .ok (.isub, 1) := by decide +kernel
theorem dX14_readAt_91 : decode cX14_readAt 91 = .ok (.putfield 551, 3) := by decide +kernel
theorem dX14_readAt_94 : decode cX14_readAt 94 = .ok (.aload_n 0, 1) := by decide +kernel
theorem dX14_readAt_95 : decode cX14_readAt 95 = .ok (.bipush 26, 2) := by decide +kernel
theorem dX14_readAt_97 : decode cX14_readAt 97 = .ok (.iconst 0, 1) := by decide +kernel
theorem dX14_readAt_98 : decode cX14_readAt 98 = .ok (.iload_n 1, 1) := by decide +kernel
theorem dX14_readAt_99 : decode cX14_readAt 99 = .ok (.invokevirtual 619, 3) := by decide +kernel
theorem dX14_readAt_102 : decode cX14_readAt 102 = .ok (.return_, 1) := by decide +kernel
theorem dX14_readAt_73 : decode cX14_readAt 73 = .ok (.return_, 1) := by decide +kernel
theorem dX14_readAt_39 : decode cX14_readAt 39 = .ok (.aload_n 0, 1) := by decide +kernel
theorem dX14_readAt_40 : decode cX14_readAt 40 = .ok (.iconst 1, 1) := by decide +kernel
theorem dX14_readAt_41 : decode cX14_readAt 41 = .ok (.aload_n 0, 1) := by decide +kernel
theorem dX14_readAt_42 : decode cX14_readAt 42 = .ok (.invokevirtual 572, 3) := by decide +kernel
theorem dX14_readAt_45 : decode cX14_readAt 45 = .ok (.invokevirtual 280, 3) := by decide +kernel
theorem dX14_readText_0 : decode cX14_readText 0 = .ok (.aload_n 0, 1) := by decide +kernel
theorem dX14_readText_1 : decode cX14_readText 1 = .ok (.getfield 554, 3) := by decide +kernel
theorem dX14_readText_4 : decode cX14_readText 4 = .ok (.istore_n 2, 1) := by decide +kernel
theorem dX14_readText_5 : decode cX14_readText 5 = .ok (.aload_n 0, 1) := by decide +kernel
theorem dX14_readText_6 : decode cX14_readText 6 = .ok (.getfield 557, 3) := by decide +kernel
theorem dX14_readText_9 : decode cX14_readText 9 = .ok (.istore_n 3, 1) := by decide +kernel
theorem dX14_readText_10 : decode cX14_readText 10 = .ok (.iconst 1, 1) := by decide +kernel
theorem dX14_readText_11 : decode cX14_readText 11 = .ok (.istore 4, 2) := by decide +kernel
theorem dX14_readText_13 : decode cX14_readText 13 = .ok (.iload 4, 2) := by decide +kernel
theorem dX14_readText_15 : decode cX14_readText 15 = .ok (.ifCond .eq 238, 3) := by decide +kernel
theorem dX14_readText_253 : decode cX14_readText 253 = .ok (.aload_n 0, 1) := by decide +kernel
theorem dX14_readText_254 : decode cX14_readText 254 = .ok (.getfield 248, 3) := by decide +kernel
theorem dX14_readText_257 : decode cX14_readText 257 = .ok (.ifCond .eq 5, 3) := by decide +kernel
theorem dX14_readText_262 : decode cX14_readText 262 = .ok (.aload_n 0, 1) := by decide +kernel
theorem dX14_readText_263 : decode cX14_readText 263 = .ok (.iload_n 2, 1) := by decide +kernel
theorem dX14_readText_264 : decode cX14_readText 264 = .ok (.invokevirtual 623, 3) := by decide +kernel
theorem dX14_readText_267 : decode cX14_readText 267 = .ok (.aload_n 0, 1) := by decide +kernel
theorem dX14_readText_268 : decode cX14_readText 268 = .ok (.iload_n 2, 1) := by decide +kernel
theorem dX14_readText_269 : decode cX14_readText 269 = .ok (.putfield 626, 3) := by decide +kernel
theorem dX14_readText_272 : decode cX14_readText 272 = .ok (.aload_n 0, 1) := by decide +kernel
theorem dX14_readText_273 : decode cX14_readText 273 = .ok (.invokevirtual 629, 3) := by decide +kernel
theorem dX14_readText_276 : decode cX14_readText 276 = .ok (.istore 5, 2) := by decide +kernel
theorem dX14_readText_278 : decode cX14_readText 278 = .ok (.aload_n 0, 1) := by decide +kernel
theorem dX14_readText_279 : decode cX14_readText 279 = .ok (.iload_n 2, 1) := by decide +kernel
theorem dX14_readText_280 : decode cX14_readText 280 = .ok (.putfield 554, 3) := by decide +kernel
theorem dX14_readText_283 : decode cX14_readText 283 = .ok (.iload 5, 2) := by decide +kernel
theorem dX14_readText_285 : decode cX14_readText 285 = .ok (.ireturn, 1) := by decide +kernel
theorem dX14_readText_260 : decode cX14_readText 260 = .ok (.iconst 0, 1) := by decide +kernel
theorem dX14_readText_261 : decode cX14_readText 261 = .ok (.ireturn, 1) := by decide +kernel
theorem dX14_readText_18 : decode cX14_readText 18 = .ok (.aload_n 0, 1) := by decide +kernel
theorem dX14_readText_19 : decode cX14_readText 19 = .ok (.getfield 248, 3) := by decide +kernel
theorem dX14_readText_22 : decode cX14_readText 22 = .ok (.ifCond .ne 231, 3) := by decide +kernel
theorem dX14_readText_25 : decode cX14_readText 25 = .ok (.aload_n 0, 1) := by decide +kernel
theorem dX14_readText_26 : decode cX14_readText 26 = .ok (.invokevirtual 569, 3) := by decide +kernel
theorem dX14_readText_29 : decode cX14_readText 29 = .ok (.istore 5, 2) := by decide +kernel
theorem dX14_readText_31 : decode cX14_readText 31 = .ok (.iload 5, 2) := by decide +kernel
theorem dX14_readText_33 : decode cX14_readText 33 = .ok (.ifCond .lt 14, 3) := by decide +kernel
theorem dX14_readText_47 : decode cX14_readText 47 = .ok (.aload_n 0, 1) := by decide +kernel
theorem dX14_readText_48 : decode cX14_readText 48 = .ok (.getfield 557, 3) := by decide +kernel
theorem dX14_readText_51 : decode cX14_readText 51 = .ok (.iload_n 3, 1) := by decide +kernel
theorem dX14_readText_52 : decode cX14_readText 52 = .ok (.if_icmp .gt 12, 3) := by decide +kernel
theorem dX14_readText_64 : decode cX14_readText 64 = .ok (.aload_n 0, 1) := by decide +kernel
theorem dX14_readText_65 : decode cX14_readText 65 = .ok (.iconst 1, 1) := by decide +kernel
theorem dX14_readText_66 : decode cX14_readText 66 = .ok (.aload_n 0, 1) := by decide +kernel
theorem dX14_readText_67 : decode cX14_readText 67 = .ok (.invokevirtual 572, 3) := by decide +kernel
theorem dX14_readText_70 : decode cX14_readText 70 = .ok (.invokevirtual 280, 3) := by decide +kernel
theorem dX14_readText_73 : decode cX14_readText 73 = .ok (.aload_n 0, 1) := by decide +kernel
theorem dX14_readText_74 : decode cX14_readText 74 = .ok (.dup, 1) := by decide +kernel
theorem dX14_readText_75 : decode cX14_readText 75 = .ok (.getfield 548, 3) := by decide +kernel
theorem dX14_readText_78 : decode cX14_readText 78 = .ok (.iload 5, 2) := by decide +kernel
theorem dX14_readText_80 : decode cX14_readText 80 = .ok (.ifCond .ge 7, 3) := by decide +kernel
theorem dX14_readText_87 : decode cX14_readText 87 = .ok (.iconst 1, 1) := by decide +kernel
theorem dX14_readText_88 : decode cX14_readText 88 = .ok (.iadd, 1) := by decide +kernel
theorem dX14_readText_89 : decode cX14_readText 89 = .ok (.putfield 548, 3) := by decide +kernel
theorem dX14_readText_92 : decode cX14_readText 92 = .ok (.iconst 0, 1) := by decide +kernel
theorem dX14_readText_93 : decode cX14_readText 93 = .ok (.istore 4, 2) := by decide +kernel
theorem dX14_readText_95 : decode cX14_readText 95 = .ok (.goto 155, 3) := by decide +kernel
theorem dX14_readText_250 : decode cX14_readText 250 = .ok (.goto (-237), 3) := by decide +kernel
theorem dX14_readText_83 : decode cX14_readText 83 = .ok (.iconst 0, 1) := by decide +kernel
theorem dX14_readText_84 : decode cX14_readText 84 = .ok (.goto 4, 3) := by decide +kernel
theorem dX14_readText_55 : decode cX14_readText 55 = .ok (.iload_n 1, 1) := by decide +kernel
theorem dX14_readText_56 : decode cX14_readText 56 = .ok (.ifCond .eq 17, 3) := by decide +kernel
theorem dX14_readText_59 : decode cX14_readText 59 = .ok (.iload 5, 2) := by decide +kernel
theorem dX14_readText_61 : decode cX14_readText 61 = .ok (.ifCond .ge 12, 3) := by decide +kernel
theorem dX14_readText_36 : decode cX14_readText 36 = .ok (.iload_n 1, 1) := by decide +kernel
theorem dX14_readText_37 : decode cX14_readText 37 = .ok (.ifCond .eq 61, 3) := by decide +kernel
theorem dX14_readText_98 : decode cX14_readText 98 = .ok (.iload 5, 2) := by decide +kernel
theorem dX14_readText_100 : decode cX14_readText 100 = .ok (.aload_n 0, 1) := by decide +kernel
theorem dX14_readText_101 : decode cX14_readText 101 = .ok (.getfield 391, 3) := by decide +kernel
theorem dX14_readText_104 : decode cX14_readText 104 = .ok (.if_icmp .ne 11, 3) := by decide +kernel
theorem dX14_readText_115 : decode cX14_readText 115 = .ok (.iload 5, 2) := by decide +kernel
theorem dX14_readText_117 : decode cX14_readText 117 = .ok (.bipush 92, 2) := by decide +kernel
theorem dX14_readText_119 : decode cX14_readText 119 = .ok (.if_icmp .ne 99, 3) := by decide +kernel
theorem dX14_readText_218 : decode cX14_readText 218 = .ok (.aload_n 0, 1) := by decide +kernel
theorem dX14_readText_219 : decode cX14_readText 219 = .ok (.iload 5, 2) := by decide +kernel
theorem dX14_readText_221 : decode cX14_readText 221 = .ok (.bipush 10, 2) := by decide +kernel
theorem dX14_readText_223 : decode cX14_readText 223 = .ok (.if_icmp .ne 7, 3) := by decide +kernel
theorem dX14_readText_230 : decode cX14_readText 230 = .ok (.iconst 1, 1) := by decide +kernel
theorem dX14_readText_231 : decode cX14_readText 231 = .ok (.iload 5, 2) := by decide +kernel
theorem dX14_readText_233 : decode cX14_readText 233 = .ok (.aload_n 0, 1) := by decide +kernel
theorem dX14_readText_234 : decode cX14_readText 234 = .ok (.invokevirtual 572, 3) := by decide +kernel
theorem dX14_readText_237 : decode cX14_readText 237 = .ok (.invokevirtual 619, 3) := by decide +kernel
theorem dX14_readText_240 : decode cX14_readText 240 = .ok (.aload_n 0, 1) := by decide +kernel
theorem dX14_readText_241 : decode cX14_readText 241 = .ok (.dup, 1) := by decide +kernel
theorem dX14_readText_242 : decode cX14_readText 242 = .ok (.getfield 548, 3) := by decide +kernel
theorem dX14_readText_245 : decode cX14_readText 245 = .ok (.iconst 1, 1) := by decide +kernel
theorem dX14_readText_246 : decode cX14_readText 246 = .ok (.iadd, 1) := by decide +kernel
theorem dX14_readText_247 : decode cX14_readText 247 = .ok (.putfield 548, 3) := by decide +kernel
theorem dX14_readText_226 : decode cX14_readText 226 = .ok (.iconst 2, 1) := by decide +kernel
theorem dX14_readText_227 : decode cX14_readText 227 = .ok (.goto 4, 3) := by decide +kernel
theorem dX14_readText_122 : decode cX14_readText 122 = .ok (.aload_n 0, 1) := by decide +kernel
theorem dX14_readText_123 : decode cX14_readText 123 = .ok (.getfield 548, 3) := by decide +kernel
theorem dX14_readText_126 : decode cX14_readText 126 = .ok (.iconst 1, 1) := by decide +kernel
theorem dX14_readText_127 : decode cX14_readText 127 = .ok (.iadd, 1) := by decide +kernel
theorem dX14_readText_128 : decode cX14_readText 128 = .ok (.aload_n 0, 1) := by decide +kernel
theorem dX14_readText_129 : decode cX14_readText 129 = .ok (.getfield 533, 3) := by decide +kernel
theorem dX14_readText_132 : decode cX14_readText 132 = .ok (.if_icmp .ge 86, 3) := by decide +kernel
theorem dX14_readText_135 : decode cX14_readText 135 = .ok (.aload_n 0, 1) := by decide +kernel
theorem dX14_readText_136 : decode cX14_readText 136 = .ok (.getfield 36, 3) := by decide +kernel
theorem dX14_readText_139 : decode cX14_readText 139 = .ok (.aload_n 0, 1) := by decide +kernel
theorem dX14_readText_140 : decode cX14_readText 140 = .ok (.getfield 548, 3) := by decide +kernel
theorem dX14_readText_143 : decode cX14_readText 143 = .ok (.iconst 1, 1) := by decide +kernel
theorem dX14_readText_144 : decode cX14_readText 144 = .ok (.iadd, 1) := by decide +kernel
theorem dX14_readText_145 : decode cX14_readText 145 = .ok (.baload, 1) := by decide +kernel
theorem dX14_readText_146 : decode cX14_readText 146 = .ok (.aload_n 0, 1) := by decide +kernel
theorem dX14_readText_147 : decode cX14_readText 147 = .ok (.getfield 391, 3) := by decide +kernel
theorem dX14_readText_150 : decode cX14_readText 150 = .ok (.if_icmp .eq 35, 3) := by decide +kernel
theorem dX14_readText_185 : decode cX14_readText 185 = .ok (.aload_n 0, 1) := by decide +kernel
theorem dX14_readText_186 : decode cX14_readText 186 = .ok (.iconst 1, 1) := by decide +kernel
theorem dX14_readText_187 : decode cX14_readText 187 = .ok (.aload_n 0, 1) := by decide +kernel
theorem dX14_readText_188 : decode cX14_readText 188 = .ok (.getfield 36, 3) := by decide +kernel
theorem dX14_readText_191 : decode cX14_readText 191 = .ok (.aload_n 0, 1) := by decide +kernel
theorem dX14_readText_192 : decode cX14_readText 192 = .ok (.getfield 548, 3) := by decide +kernel
theorem dX14_readText_195 : decode cX14_readText 195 = .ok (.iconst 1, 1) := by decide +kernel
theorem dX14_readText_196 : decode cX14_readText 196 = .ok (.iadd, 1) := by decide +kernel
theorem dX14_readText_197 : decode cX14_readText 197 = .ok (.baload, 1) := by decide +kernel
theorem dX14_readText_198 : decode cX14_readText 198 = .ok (.aload_n 0, 1) := by decide +kernel
theorem dX14_readText_199 : decode cX14_readText 199 = .ok (.invokevirtual 572, 3) := by decide +kernel
theorem dX14_readText_202 : decode cX14_readText 202 = .ok (.invokevirtual 619, 3) := by decide +kernel
theorem dX14_readText_205 : decode cX14_readText 205 = .ok (.aload_n 0, 1) := by decide +kernel
theorem dX14_readText_206 : decode cX14_readText 206 = .ok (.dup, 1) := by decide +kernel
theorem dX14_readText_207 : decode cX14_readText 207 = .ok (.getfield 548, 3) := by decide +kernel
theorem dX14_readText_210 : decode cX14_readText 210 = .ok (.iconst 2, 1) := by decide +kernel
theorem dX14_readText_211 : decode cX14_readText 211 = .ok (.iadd, 1) := by decide +kernel
theorem dX14_readText_212 : decode cX14_readText 212 = .ok (.putfield 548, 3) := by decide +kernel
theorem dX14_readText_215 : decode cX14_readText 215 = .ok (.goto 35, 3) := by decide +kernel
theorem dX14_readText_153 : decode cX14_readText 153 = .ok (.aload_n 0, 1) := by decide +kernel
theorem dX14_readText_154 : decode cX14_readText 154 = .ok (.getfield 36, 3) := by decide +kernel
theorem dX14_readText_157 : decode cX14_readText 157 = .ok (.aload_n 0, 1) := by decide +kernel
theorem dX14_readText_158 : decode cX14_readText 158 = .ok (.getfield 548, 3) := by decide +kernel
theorem dX14_readText_161 : decode cX14_readText 161 = .ok (.iconst 1, 1) := by decide +kernel
theorem dX14_readText_162 : decode cX14_readText 162 = .ok (.iadd, 1) := by decide +kernel
theorem dX14_readText_163 : decode cX14_readText 163 = .ok (.baload, 1) := by decide +kernel
theorem dX14_readText_164 : decode cX14_readText 164 = .ok (.bipush 92, 2) := by decide +kernel
theorem dX14_readText_166 : decode cX14_readText 166 = .ok (.if_icmp .eq 19, 3) := by decide +kernel
theorem dX14_readText_169 : decode cX14_readText 169 = .ok (.aload_n 0, 1) := by decide +kernel
theorem dX14_readText_170 : decode cX14_readText 170 = .ok (.getfield 36, 3) := by decide +kernel
theorem dX14_readText_173 : decode cX14_readText 173 = .ok (.aload_n 0, 1) := by decide +kernel
theorem dX14_readText_174 : decode cX14_readText 174 = .ok (.getfield 548, 3) := by decide +kernel
theorem dX14_readText_177 : decode cX14_readText 177 = .ok (.iconst 1, 1) := by decide +kernel
theorem dX14_readText_178 : decode cX14_readText 178 = .ok (.iadd, 1) := by decide +kernel
theorem dX14_readText_179 : decode cX14_readText 179 = .ok (.baload, 1) := by decide +kernel
theorem dX14_readText_180 : decode cX14_readText 180 = .ok (.bipush 125, 2) := by decide +kernel
theorem dX14_readText_182 : decode cX14_readText 182 = .ok (.if_icmp .ne 36, 3) := by decide +kernel
theorem dX14_readText_107 : decode cX14_readText 107 = .ok (.aload_n 0, 1) := by decide +kernel
theorem dX14_readText_108 : decode cX14_readText 108 = .ok (.iload_n 3, 1) := by decide +kernel
theorem dX14_readText_109 : decode cX14_readText 109 = .ok (.invokevirtual 616, 3) := by decide +kernel
theorem dX14_readText_112 : decode cX14_readText 112 = .ok (.goto 138, 3) := by decide +kernel
theorem dX14_readText_40 : decode cX14_readText 40 = .ok (.iload 5, 2) := by decide +kernel
theorem dX14_readText_42 : decode cX14_readText 42 = .ok (.bipush 125, 2) := by decide +kernel
theorem dX14_readText_44 : decode cX14_readText 44 = .ok (.if_icmp .ne 54, 3) := by decide +kernel
def Q_rd (l : Launch) (G : zG) (κ : Nat → Nat) (n : Nat) : Prop := (∀ (σ : rS) (gg : Nat) (g : Nat → Int → Int), rWF σ → pre_X14_readMember σ gg g → rk_X14_readMember σ gg g ≤ n → rMi l G κ yX14_readMember cX14_readMember 5 .int (n + 100) (n * 40 + 3600) [.ref (κ 0)] σ (fun x s => rKeep 0x6c0a3001c00 0x4100001280 0x13c00000000 0x3ee0000d7f 0 σ s ∧ post_X14_readMember σ gg g x s)) ∧ (∀ (σ : rS) (gg : Nat) (g : Nat → Int → Int), rWF σ → pre_X14_readArg σ gg g → rk_X14_readArg σ gg g ≤ n → rMi l G κ yX14_readArg cX14_readArg 4 .int (n + 100) (n * 40 + 3600) [.ref (κ 0)] σ (fun x s => rKeep 0x6c0a3001c00 0x4100001280 0x13c00000000 0x3ee0000d7f 0 σ s ∧ post_X14_readArg σ gg g x s)) ∧ (∀ (σ : rS) (gg : Nat) (g : Nat → Int → Int), rWF σ → pre_X14_readRow σ gg g → rk_X14_readRow σ gg g ≤ n → rMi l G κ yX14_readRow cX14_readRow 5 .int (n + 100) (n * 40 + 3600) [.ref (κ 0)] σ (fun x s => rKeep 0x6c0a3001c00 0x4100001280 0x13c00000000 0x3ee0000d7f 0 σ s ∧ post_X14_readRow σ gg g x s)) ∧ (∀ (σ : rS) (x1 : Int) (gg : Nat) (g : Nat → Int → Int) (K : Nat), rWF σ → rng x1 → pre_X14_readArgs σ x1 gg g K → rk_X14_readArgs σ x1 gg g K ≤ n → rMv l G κ yX14_readArgs cX14_readArgs 6 (n + 100) (n * 40 + 3600) [.ref (κ 0), iv x1] σ (fun s => rKeep 0x6c0a3001c00 0x4100001280 0x13c00000000 0x3ee0000d7f 0 σ s ∧ post_X14_readArgs σ x1 gg g K s)) ∧ (∀ (σ : rS) (x1 : Int) (gg : Nat) (g : Nat → Int → Int) (K : Nat), rWF σ → rng x1 → pre_X14_readNamed σ x1 gg g K → rk_X14_readNamed σ x1 gg g K ≤ n → rMi l G κ yX14_readNamed cX14_readNamed 5 .int (n + 100) (n * 40 + 3600) [.ref (κ 0), iv x1] σ (fun x s => rKeep 0x6c0a3001c00 0x4100001280 0x13c00000000 0x3ee0000d7f 0 σ s ∧ post_X14_readNamed σ x1 gg g K x s)) ∧ (∀ (σ : rS) (x1 : Int) (x2 : Int) (gg : Nat) (g : Nat → Int → Int) (K : Nat), rWF σ → rng x1 → rng x2 → pre_X14_readCall σ x1 x2 gg g K → rk_X14_readCall σ x1 x2 gg g K ≤ n → rMi l G κ yX14_readCall cX14_readCall 7 .int (n + 100) (n * 40 + 3600) [.ref (κ 0), iv x1, iv x2] σ (fun x s => rKeep 0x6c0a3001c00 0x4100001280 0x13c00000000 0x3ee0000d7f 0 σ s ∧ post_X14_readCall σ x1 x2 gg g K x s)) ∧ (∀ (σ : rS) (gg : Nat) (g : Nat → Int → Int), rWF σ → pre_X14_readApplied σ gg g → rk_X14_readApplied σ gg g ≤ n → rMi l G κ yX14_readApplied cX14_readApplied 4 .int (n + 100) (n * 40 + 3600) [.ref (κ 0)] σ (fun x s => rKeep 0x6c0a3001c00 0x4100001280 0x13c00000000 0x3ee0000d7f 0 σ s ∧ post_X14_readApplied σ gg g x s)) ∧ (∀ (σ : rS) (gg : Nat) (g : Nat → Int → Int), rWF σ → pre_X14_readPrimary σ gg g → rk_X14_readPrimary σ gg g ≤ n → rMi l G κ yX14_readPrimary cX14_readPrimary 5 .int (n + 100) (n * 40 + 3600) [.ref (κ 0)] σ (fun x s => rKeep 0x6c0a3001c00 0x4100001280 0x13c00000000 0x3ee0000d7f 0 σ s ∧ post_X14_readPrimary σ gg g x s)) ∧ (∀ (σ : rS) (gg : Nat) (g : Nat → Int → Int), rWF σ → pre_X14_readNot σ gg g → rk_X14_readNot σ gg g ≤ n → rMi l G κ yX14_readNot cX14_readNot 3 .int (n + 100) (n * 40 + 3600) [.ref (κ 0)] σ (fun x s => rKeep 0x6c0a3001c00 0x4100001280 0x13c00000000 0x3ee0000d7f 0 σ s ∧ post_X14_readNot σ gg g x s)) ∧ (∀ (σ : rS) (gg : Nat) (g : Nat → Int → Int), rWF σ → pre_X14_readBoth σ gg g → rk_X14_readBoth σ gg g ≤ n → rMi l G κ yX14_readBoth cX14_readBoth 5 .int (n + 100) (n * 40 + 3600) [.ref (κ 0)] σ (fun x s => rKeep 0x6c0a3001c00 0x4100001280 0x13c00000000 0x3ee0000d7f 0 σ s ∧ post_X14_readBoth σ gg g x s)) ∧ (∀ (σ : rS) (gg : Nat) (g : Nat → Int → Int), rWF σ → pre_X14_readCond σ gg g → rk_X14_readCond σ gg g ≤ n → rMi l G κ yX14_readCond cX14_readCond 5 .int (n + 100) (n * 40 + 3600) [.ref (κ 0)] σ (fun x s => rKeep 0x6c0a3001c00 0x4100001280 0x13c00000000 0x3ee0000d7f 0 σ s ∧ post_X14_readCond σ gg g x s)) ∧ (∀ (σ : rS) (gg : Nat) (g : Nat → Int → Int), rWF σ → pre_X14_condition σ gg g → rk_X14_condition σ gg g ≤ n → rMi l G κ yX14_condition cX14_condition 2 .int (n + 100) (n * 40 + 3600) [.ref (κ 0)] σ (fun x s => rKeep 0x6c0a3001c00 0x4100001280 0x13c00000000 0x3ee0000d7f 0 σ s ∧ post_X14_condition σ gg g x s)) ∧ (∀ (σ : rS) (x1 : Int) (gg : Nat) (g : Nat → Int → Int), rWF σ → rng x1 → pre_X14_readOptions σ x1 gg g → rk_X14_readOptions σ x1 gg g ≤ n → rMv l G κ yX14_readOptions cX14_readOptions 6 (n + 100) (n * 40 + 3600) [.ref (κ 0), iv x1] σ (fun s => rKeep 0x6c0a3001c00 0x4100001280 0x13c00000000 0x3ee0000d7f 0 σ s ∧ post_X14_readOptions σ x1 gg g s)) ∧ (∀ (σ : rS) (x1 : Int) (gg : Nat) (g : Nat → Int → Int), rWF σ → rng x1 → pre_X14_readExpre σ x1 gg g → rk_X14_readExpre σ x1 gg g ≤ n → rMv l G κ yX14_readExpr cX14_readExpr 9 (n + 100) (n * 40 + 3600) [.ref (κ 0), iv x1] σ (fun s => rKeep 0x6c0a3001c00 0x4100001280 0x13c00000000 0x3ee0000d7f 0 σ s ∧ post_X14_readExpre σ x1 gg g s)) ∧ (∀ (σ : rS) (gg : Nat) (g : Nat → Int → Int), rWF σ → pre_X14_readSub σ gg g → rk_X14_readSub σ gg g ≤ n → rMi l G κ yX14_readSub cX14_readSub 8 .int (n + 100) (n * 40 + 3600) [.ref (κ 0)] σ (fun x s => rKeep 0x6c0a3001c00 0x4100001280 0x13c00000000 0x3ee0000d7f 0 σ s ∧ post_X14_readSub σ gg g x s)) ∧ (∀ (σ : rS) (x1 : Int) (x2 : Int) (gg : Nat) (g : Nat → Int → Int) (L : List Int), rWF σ → rng x1 → rng x2 → pre_X14_readSteering σ x1 x2 gg g L → rk_X14_readSteering σ x1 x2 gg g L ≤ n → rMv l G κ yX14_readSteering cX14_readSteering 5 (n + 100) (n * 40 + 3600) [.ref (κ 0), iv x1, iv x2] σ (fun s => rKeep 0x6c0a3001c00 0x4100001280 0x13c00000000 0x3ee0000d7f 0 σ s ∧ post_X14_readSteering σ x1 x2 gg g L s)) ∧ (∀ (σ : rS) (x1 : Int) (gg : Nat) (g : Nat → Int → Int) (L : List Int), rWF σ → rng x1 → pre_X14_readTag σ x1 gg g L → rk_X14_readTag σ x1 gg g L ≤ n → rMv l G κ yX14_readTag cX14_readTag 4 (n + 100) (n * 40 + 3600) [.ref (κ 0), iv x1] σ (fun s => rKeep 0x6c0a3001c00 0x4100001280 0x13c00000000 0x3ee0000d7f 0 σ s ∧ post_X14_readTag σ x1 gg g L s)) ∧ (∀ (σ : rS) (x1 : Int) (x2 : Int) (gg : Nat) (g : Nat → Int → Int) (L : List Int), rWF σ → rng x1 → rng x2 → pre_X14_readAt σ x1 x2 gg g L → rk_X14_readAt σ x1 x2 gg g L ≤ n → rMv l G κ yX14_readAt cX14_readAt 6 (n + 100) (n * 40 + 3600) [.ref (κ 0), iv x1, iv x2] σ (fun s => rKeep 0x2c0a0001c00 0x4100001280 0x13c00000000 0x3ee0000d7f 0 σ s ∧ post_X14_readAt σ x1 x2 gg g L s)) ∧ (∀ (σ : rS) (x1 : Int) (gg : Nat) (g : Nat → Int → Int), rWF σ → rng x1 → pre_X14_readText σ x1 gg g → rk_X14_readText σ x1 gg g ≤ n → rMi l G κ yX14_readText cX14_readText 6 .int (n + 100) (n * 40 + 3600) [.ref (κ 0), iv x1] σ (fun x s => rKeep 0x6c0a3001c00 0x4100001280 0x13c00000000 0x3ee0000d7f 0 σ s ∧ post_X14_readText σ x1 gg g x s))
theorem qX14_readMember {l : Launch} {G : zG} {κ : Nat → Nat} {n : Nat} (h : Q_rd l G κ n) : (∀ (σ : rS) (gg : Nat) (g : Nat → Int → Int), rWF σ → pre_X14_readMember σ gg g → rk_X14_readMember σ gg g ≤ n → rMi l G κ yX14_readMember cX14_readMember 5 .int (n + 100) (n * 40 + 3600) [.ref (κ 0)] σ (fun x s => rKeep 0x6c0a3001c00 0x4100001280 0x13c00000000 0x3ee0000d7f 0 σ s ∧ post_X14_readMember σ gg g x s)) := h.1
theorem qX14_readArg {l : Launch} {G : zG} {κ : Nat → Nat} {n : Nat} (h : Q_rd l G κ n) : (∀ (σ : rS) (gg : Nat) (g : Nat → Int → Int), rWF σ → pre_X14_readArg σ gg g → rk_X14_readArg σ gg g ≤ n → rMi l G κ yX14_readArg cX14_readArg 4 .int (n + 100) (n * 40 + 3600) [.ref (κ 0)] σ (fun x s => rKeep 0x6c0a3001c00 0x4100001280 0x13c00000000 0x3ee0000d7f 0 σ s ∧ post_X14_readArg σ gg g x s)) := h.2.1
theorem qX14_readRow {l : Launch} {G : zG} {κ : Nat → Nat} {n : Nat} (h : Q_rd l G κ n) : (∀ (σ : rS) (gg : Nat) (g : Nat → Int → Int), rWF σ → pre_X14_readRow σ gg g → rk_X14_readRow σ gg g ≤ n → rMi l G κ yX14_readRow cX14_readRow 5 .int (n + 100) (n * 40 + 3600) [.ref (κ 0)] σ (fun x s => rKeep 0x6c0a3001c00 0x4100001280 0x13c00000000 0x3ee0000d7f 0 σ s ∧ post_X14_readRow σ gg g x s)) := h.2.2.1
theorem qX14_readArgs {l : Launch} {G : zG} {κ : Nat → Nat} {n : Nat} (h : Q_rd l G κ n) : (∀ (σ : rS) (x1 : Int) (gg : Nat) (g : Nat → Int → Int) (K : Nat), rWF σ → rng x1 → pre_X14_readArgs σ x1 gg g K → rk_X14_readArgs σ x1 gg g K ≤ n → rMv l G κ yX14_readArgs cX14_readArgs 6 (n + 100) (n * 40 + 3600) [.ref (κ 0), iv x1] σ (fun s => rKeep 0x6c0a3001c00 0x4100001280 0x13c00000000 0x3ee0000d7f 0 σ s ∧ post_X14_readArgs σ x1 gg g K s)) := h.2.2.2.1
theorem qX14_readNamed {l : Launch} {G : zG} {κ : Nat → Nat} {n : Nat} (h : Q_rd l G κ n) : (∀ (σ : rS) (x1 : Int) (gg : Nat) (g : Nat → Int → Int) (K : Nat), rWF σ → rng x1 → pre_X14_readNamed σ x1 gg g K → rk_X14_readNamed σ x1 gg g K ≤ n → rMi l G κ yX14_readNamed cX14_readNamed 5 .int (n + 100) (n * 40 + 3600) [.ref (κ 0), iv x1] σ (fun x s => rKeep 0x6c0a3001c00 0x4100001280 0x13c00000000 0x3ee0000d7f 0 σ s ∧ post_X14_readNamed σ x1 gg g K x s)) := h.2.2.2.2.1
theorem qX14_readCall {l : Launch} {G : zG} {κ : Nat → Nat} {n : Nat} (h : Q_rd l G κ n) : (∀ (σ : rS) (x1 : Int) (x2 : Int) (gg : Nat) (g : Nat → Int → Int) (K : Nat), rWF σ → rng x1 → rng x2 → pre_X14_readCall σ x1 x2 gg g K → rk_X14_readCall σ x1 x2 gg g K ≤ n → rMi l G κ yX14_readCall cX14_readCall 7 .int (n + 100) (n * 40 + 3600) [.ref (κ 0), iv x1, iv x2] σ (fun x s => rKeep 0x6c0a3001c00 0x4100001280 0x13c00000000 0x3ee0000d7f 0 σ s ∧ post_X14_readCall σ x1 x2 gg g K x s)) := h.2.2.2.2.2.1
theorem qX14_readApplied {l : Launch} {G : zG} {κ : Nat → Nat} {n : Nat} (h : Q_rd l G κ n) : (∀ (σ : rS) (gg : Nat) (g : Nat → Int → Int), rWF σ → pre_X14_readApplied σ gg g → rk_X14_readApplied σ gg g ≤ n → rMi l G κ yX14_readApplied cX14_readApplied 4 .int (n + 100) (n * 40 + 3600) [.ref (κ 0)] σ (fun x s => rKeep 0x6c0a3001c00 0x4100001280 0x13c00000000 0x3ee0000d7f 0 σ s ∧ post_X14_readApplied σ gg g x s)) := h.2.2.2.2.2.2.1
theorem qX14_readPrimary {l : Launch} {G : zG} {κ : Nat → Nat} {n : Nat} (h : Q_rd l G κ n) : (∀ (σ : rS) (gg : Nat) (g : Nat → Int → Int), rWF σ → pre_X14_readPrimary σ gg g → rk_X14_readPrimary σ gg g ≤ n → rMi l G κ yX14_readPrimary cX14_readPrimary 5 .int (n + 100) (n * 40 + 3600) [.ref (κ 0)] σ (fun x s => rKeep 0x6c0a3001c00 0x4100001280 0x13c00000000 0x3ee0000d7f 0 σ s ∧ post_X14_readPrimary σ gg g x s)) := h.2.2.2.2.2.2.2.1
theorem qX14_readNot {l : Launch} {G : zG} {κ : Nat → Nat} {n : Nat} (h : Q_rd l G κ n) : (∀ (σ : rS) (gg : Nat) (g : Nat → Int → Int), rWF σ → pre_X14_readNot σ gg g → rk_X14_readNot σ gg g ≤ n → rMi l G κ yX14_readNot cX14_readNot 3 .int (n + 100) (n * 40 + 3600) [.ref (κ 0)] σ (fun x s => rKeep 0x6c0a3001c00 0x4100001280 0x13c00000000 0x3ee0000d7f 0 σ s ∧ post_X14_readNot σ gg g x s)) := h.2.2.2.2.2.2.2.2.1
theorem qX14_readBoth {l : Launch} {G : zG} {κ : Nat → Nat} {n : Nat} (h : Q_rd l G κ n) : (∀ (σ : rS) (gg : Nat) (g : Nat → Int → Int), rWF σ → pre_X14_readBoth σ gg g → rk_X14_readBoth σ gg g ≤ n → rMi l G κ yX14_readBoth cX14_readBoth 5 .int (n + 100) (n * 40 + 3600) [.ref (κ 0)] σ (fun x s => rKeep 0x6c0a3001c00 0x4100001280 0x13c00000000 0x3ee0000d7f 0 σ s ∧ post_X14_readBoth σ gg g x s)) := h.2.2.2.2.2.2.2.2.2.1
theorem qX14_readCond {l : Launch} {G : zG} {κ : Nat → Nat} {n : Nat} (h : Q_rd l G κ n) : (∀ (σ : rS) (gg : Nat) (g : Nat → Int → Int), rWF σ → pre_X14_readCond σ gg g → rk_X14_readCond σ gg g ≤ n → rMi l G κ yX14_readCond cX14_readCond 5 .int (n + 100) (n * 40 + 3600) [.ref (κ 0)] σ (fun x s => rKeep 0x6c0a3001c00 0x4100001280 0x13c00000000 0x3ee0000d7f 0 σ s ∧ post_X14_readCond σ gg g x s)) := h.2.2.2.2.2.2.2.2.2.2.1
theorem qX14_condition {l : Launch} {G : zG} {κ : Nat → Nat} {n : Nat} (h : Q_rd l G κ n) : (∀ (σ : rS) (gg : Nat) (g : Nat → Int → Int), rWF σ → pre_X14_condition σ gg g → rk_X14_condition σ gg g ≤ n → rMi l G κ yX14_condition cX14_condition 2 .int (n + 100) (n * 40 + 3600) [.ref (κ 0)] σ (fun x s => rKeep 0x6c0a3001c00 0x4100001280 0x13c00000000 0x3ee0000d7f 0 σ s ∧ post_X14_condition σ gg g x s)) := h.2.2.2.2.2.2.2.2.2.2.2.1
theorem qX14_readOptions {l : Launch} {G : zG} {κ : Nat → Nat} {n : Nat} (h : Q_rd l G κ n) : (∀ (σ : rS) (x1 : Int) (gg : Nat) (g : Nat → Int → Int), rWF σ → rng x1 → pre_X14_readOptions σ x1 gg g → rk_X14_readOptions σ x1 gg g ≤ n → rMv l G κ yX14_readOptions cX14_readOptions 6 (n + 100) (n * 40 + 3600) [.ref (κ 0), iv x1] σ (fun s => rKeep 0x6c0a3001c00 0x4100001280 0x13c00000000 0x3ee0000d7f 0 σ s ∧ post_X14_readOptions σ x1 gg g s)) := h.2.2.2.2.2.2.2.2.2.2.2.2.1
theorem qX14_readExpre {l : Launch} {G : zG} {κ : Nat → Nat} {n : Nat} (h : Q_rd l G κ n) : (∀ (σ : rS) (x1 : Int) (gg : Nat) (g : Nat → Int → Int), rWF σ → rng x1 → pre_X14_readExpre σ x1 gg g → rk_X14_readExpre σ x1 gg g ≤ n → rMv l G κ yX14_readExpr cX14_readExpr 9 (n + 100) (n * 40 + 3600) [.ref (κ 0), iv x1] σ (fun s => rKeep 0x6c0a3001c00 0x4100001280 0x13c00000000 0x3ee0000d7f 0 σ s ∧ post_X14_readExpre σ x1 gg g s)) := h.2.2.2.2.2.2.2.2.2.2.2.2.2.1
theorem qX14_readSub {l : Launch} {G : zG} {κ : Nat → Nat} {n : Nat} (h : Q_rd l G κ n) : (∀ (σ : rS) (gg : Nat) (g : Nat → Int → Int), rWF σ → pre_X14_readSub σ gg g → rk_X14_readSub σ gg g ≤ n → rMi l G κ yX14_readSub cX14_readSub 8 .int (n + 100) (n * 40 + 3600) [.ref (κ 0)] σ (fun x s => rKeep 0x6c0a3001c00 0x4100001280 0x13c00000000 0x3ee0000d7f 0 σ s ∧ post_X14_readSub σ gg g x s)) := h.2.2.2.2.2.2.2.2.2.2.2.2.2.2.1
theorem qX14_readSteering {l : Launch} {G : zG} {κ : Nat → Nat} {n : Nat} (h : Q_rd l G κ n) : (∀ (σ : rS) (x1 : Int) (x2 : Int) (gg : Nat) (g : Nat → Int → Int) (L : List Int), rWF σ → rng x1 → rng x2 → pre_X14_readSteering σ x1 x2 gg g L → rk_X14_readSteering σ x1 x2 gg g L ≤ n → rMv l G κ yX14_readSteering cX14_readSteering 5 (n + 100) (n * 40 + 3600) [.ref (κ 0), iv x1, iv x2] σ (fun s => rKeep 0x6c0a3001c00 0x4100001280 0x13c00000000 0x3ee0000d7f 0 σ s ∧ post_X14_readSteering σ x1 x2 gg g L s)) := h.2.2.2.2.2.2.2.2.2.2.2.2.2.2.2.1
theorem qX14_readTag {l : Launch} {G : zG} {κ : Nat → Nat} {n : Nat} (h : Q_rd l G κ n) : (∀ (σ : rS) (x1 : Int) (gg : Nat) (g : Nat → Int → Int) (L : List Int), rWF σ → rng x1 → pre_X14_readTag σ x1 gg g L → rk_X14_readTag σ x1 gg g L ≤ n → rMv l G κ yX14_readTag cX14_readTag 4 (n + 100) (n * 40 + 3600) [.ref (κ 0), iv x1] σ (fun s => rKeep 0x6c0a3001c00 0x4100001280 0x13c00000000 0x3ee0000d7f 0 σ s ∧ post_X14_readTag σ x1 gg g L s)) := h.2.2.2.2.2.2.2.2.2.2.2.2.2.2.2.2.1
theorem qX14_readAt {l : Launch} {G : zG} {κ : Nat → Nat} {n : Nat} (h : Q_rd l G κ n) : (∀ (σ : rS) (x1 : Int) (x2 : Int) (gg : Nat) (g : Nat → Int → Int) (L : List Int), rWF σ → rng x1 → rng x2 → pre_X14_readAt σ x1 x2 gg g L → rk_X14_readAt σ x1 x2 gg g L ≤ n → rMv l G κ yX14_readAt cX14_readAt 6 (n + 100) (n * 40 + 3600) [.ref (κ 0), iv x1, iv x2] σ (fun s => rKeep 0x2c0a0001c00 0x4100001280 0x13c00000000 0x3ee0000d7f 0 σ s ∧ post_X14_readAt σ x1 x2 gg g L s)) := h.2.2.2.2.2.2.2.2.2.2.2.2.2.2.2.2.2.1
theorem qX14_readText {l : Launch} {G : zG} {κ : Nat → Nat} {n : Nat} (h : Q_rd l G κ n) : (∀ (σ : rS) (x1 : Int) (gg : Nat) (g : Nat → Int → Int), rWF σ → rng x1 → pre_X14_readText σ x1 gg g → rk_X14_readText σ x1 gg g ≤ n → rMi l G κ yX14_readText cX14_readText 6 .int (n + 100) (n * 40 + 3600) [.ref (κ 0), iv x1] σ (fun x s => rKeep 0x6c0a3001c00 0x4100001280 0x13c00000000 0x3ee0000d7f 0 σ s ∧ post_X14_readText σ x1 gg g x s)) := h.2.2.2.2.2.2.2.2.2.2.2.2.2.2.2.2.2.2
