theorem zw2225 : Cond.constant "TemplateHouse$Maker" 559 (536870912 : Int32) ∈ zT := zsub10 65 (by decide +kernel) (by decide +kernel)
theorem zw2222 : Cond.methodLink "TemplateHouse$Maker" 556 ⟨"TemplateHouse$Maker", "isBlank", "(I)Z"⟩ ∈ zT := zsub10 62 (by decide +kernel) (by decide +kernel)
theorem zw655 : Cond.fieldLink "TemplateHouse$Maker" 42 "TemplateHouse$Maker" "loop" "I" ∈ zT := zsub3 175 (by decide +kernel) (by decide +kernel)
theorem zw2250 : Cond.methodLink "TemplateHouse$Maker" 569 ⟨"TemplateHouse$Heap", "counted", "(I)V"⟩ ∈ zT := zsub10 90 (by decide +kernel) (by decide +kernel)
theorem zw510 : Cond.fieldLink "TemplateHouse$Maker" 566 "TemplateHouse$Heap" "turn" "[I" ∈ zT := zsub3 30 (by decide +kernel) (by decide +kernel)
theorem zw1882 : Cond.methodLinkNest "TemplateHouse$Maker" 192 ⟨"TemplateHouse", "set", "([III)V"⟩ "TemplateHouse" ∈ zNest := zsubN8 202 (by decide +kernel) (by decide +kernel)
theorem zw2255 : Cond.methodLink "TemplateHouse$Maker" 563 ⟨"TemplateHouse$Heap", "room", "(I)I"⟩ ∈ zT := zsub10 95 (by decide +kernel) (by decide +kernel)
theorem zw2251 : Cond.methodLink "TemplateHouse$Maker" 560 ⟨"TemplateHouse$Maker", "leaveLoop", "(II)V"⟩ ∈ zT := zsub10 91 (by decide +kernel) (by decide +kernel)
theorem zw2246 : Cond.methodLink "TemplateHouse$Maker" 468 ⟨"TemplateHouse$Maker", "collect", "(I)V"⟩ ∈ zT := zsub10 86 (by decide +kernel) (by decide +kernel)
theorem zw1945 : Cond.methodLink "TemplateHouse$Maker" 343 ⟨"TemplateHouse$Heap", "opened", "(I)I"⟩ ∈ zT := zsub9 25 (by decide +kernel) (by decide +kernel)
theorem zw1816 : Cond.methodLink "TemplateHouse$Maker" 151 ⟨"TemplateHouse$Heap", "make", "(III)I"⟩ ∈ zT := zsub8 136 (by decide +kernel) (by decide +kernel)
theorem zw512 : Cond.fieldLink "TemplateHouse$Maker" 189 "TemplateHouse$Heap" "attrs" "[I" ∈ zT := zsub3 32 (by decide +kernel) (by decide +kernel)
theorem zw2260 : Cond.methodLink "TemplateHouse$Maker" 465 ⟨"TemplateHouse$Maker", "current", "()I"⟩ ∈ zT := zsub10 100 (by decide +kernel) (by decide +kernel)
theorem zw1740 : Cond.classLink "TemplateHouse" 123 "java/lang/IllegalArgumentException" ∈ zT := zsub8 60 (by decide +kernel) (by decide +kernel)
theorem zw27 : Cond.initialized "java/lang/IllegalArgumentException" ∈ zT := zsub1 27 (by decide +kernel) (by decide +kernel)
theorem zw719 : Cond.fieldLink "TemplateHouse" 97 "TemplateHouse" "maker" "LTemplateHouse$Maker;" ∈ zT := zsub3 239 (by decide +kernel) (by decide +kernel)
theorem zw643 : Cond.fieldLink "TemplateHouse" 207 "TemplateHouse$Maker" "writer" "LTemplateHouse$Writer;" ∈ zT := zsub3 163 (by decide +kernel) (by decide +kernel)
theorem zw585 : Cond.fieldLink "TemplateHouse" 211 "TemplateHouse$Writer" "length" "I" ∈ zT := zsub3 105 (by decide +kernel) (by decide +kernel)
theorem zw726 : Cond.fieldLink "TemplateHouse" 38 "TemplateHouse" "shown" "I" ∈ zT := zsub4 6 (by decide +kernel) (by decide +kernel)
theorem zw662 : Cond.fieldLink "TemplateHouse" 216 "TemplateHouse$Maker" "ended" "Z" ∈ zT := zsub3 182 (by decide +kernel) (by decide +kernel)
theorem zw936 : Cond.classLink "TemplateHouse" 154 "java/lang/IllegalStateException" ∈ zT := zsub4 216 (by decide +kernel) (by decide +kernel)
theorem zw581 : Cond.fieldLink "TemplateHouse" 220 "TemplateHouse$Writer" "text" "[B" ∈ zT := zsub3 101 (by decide +kernel) (by decide +kernel)
theorem zw641 : Cond.fieldLink "TemplateHouse" 226 "TemplateHouse$Maker" "teller" "LTemplateHouse$Teller;" ∈ zT := zsub3 161 (by decide +kernel) (by decide +kernel)
theorem zw486 : Cond.fieldLink "TemplateHouse" 248 "TemplateHouse$Teller" "counts" "[I" ∈ zT := zsub3 6 (by decide +kernel) (by decide +kernel)
theorem zw915 : Cond.methodLink "TemplateHouse" 235 ⟨"TemplateHouse", "get", "([II)I"⟩ ∈ zT := zsub4 195 (by decide +kernel) (by decide +kernel)
theorem zw583 : Cond.fieldLink "TemplateHouse" 254 "TemplateHouse$Writer" "noted" "[I" ∈ zT := zsub3 103 (by decide +kernel) (by decide +kernel)
theorem zw664 : Cond.fieldLink "TemplateHouse" 251 "TemplateHouse$Maker" "atFirst" "I" ∈ zT := zsub3 184 (by decide +kernel) (by decide +kernel)
theorem zw911 : Cond.methodLink "TemplateHouse" 223 ⟨"TemplateHouse", "told", "(I)I"⟩ ∈ zT := zsub4 191 (by decide +kernel) (by decide +kernel)
theorem zw479 : Cond.fieldLink "TemplateHouse" 230 "TemplateHouse$Teller" "errors" "[I" ∈ zT := zsub2 239 (by decide +kernel) (by decide +kernel)
theorem zw481 : Cond.fieldLink "TemplateHouse" 239 "TemplateHouse$Teller" "looks" "[I" ∈ zT := zsub3 1 (by decide +kernel) (by decide +kernel)
theorem zw720 : Cond.fieldLink "TemplateHouse" 20 "TemplateHouse" "generations" "I" ∈ zT := zsub4 0 (by decide +kernel) (by decide +kernel)
theorem zw64 : Cond.fieldLink "TemplateHouse" 242 "TemplateHouse$Store" "count" "I" ∈ zT := zsub1 64 (by decide +kernel) (by decide +kernel)
theorem zw66 : Cond.fieldLink "TemplateHouse" 245 "TemplateHouse$Store" "used" "I" ∈ zT := zsub1 66 (by decide +kernel) (by decide +kernel)
theorem zw2224 : Cond.code ⟨"TemplateHouse$Maker", "isBlank", "(I)Z"⟩ prog_7_method_56_code 1 (Option.some Jvm.ClassFile.FieldType.boolean) ∈ zT := zsub10 64 rfl rfl
theorem zw2223 : Cond.static ⟨"TemplateHouse$Maker", "isBlank", "(I)Z"⟩ ∈ zT := zsub10 63 (by decide +kernel) (by decide +kernel)
theorem zw2221 : Cond.code ⟨"TemplateHouse$Maker", "trimmed", "(I)I"⟩ prog_7_method_55_code 4 (Option.some Jvm.ClassFile.FieldType.int) ∈ zT := zsub10 61 rfl rfl
theorem zw2220 : Cond.instanceMethod ⟨"TemplateHouse$Maker", "trimmed", "(I)I"⟩ ∈ zT := zsub10 60 (by decide +kernel) (by decide +kernel)
theorem zwp90 : Cond.selects "TemplateHouse$Maker" ⟨"TemplateHouse$Maker", "trimmed", "(I)I"⟩ ⟨"TemplateHouse$Maker", "trimmed", "(I)I"⟩ ∈ zT := zin 90 (by decide +kernel) (by decide +kernel)
theorem zw2233 : Cond.code ⟨"TemplateHouse$Maker", "shortcut", "(I)V"⟩ prog_7_method_36_code 2 (Option.none : Option Jvm.ClassFile.FieldType) ∈ zT := zsub10 73 rfl rfl
theorem zw2232 : Cond.instanceMethod ⟨"TemplateHouse$Maker", "shortcut", "(I)V"⟩ ∈ zT := zsub10 72 (by decide +kernel) (by decide +kernel)
theorem zwp78 : Cond.selects "TemplateHouse$Maker" ⟨"TemplateHouse$Maker", "shortcut", "(I)V"⟩ ⟨"TemplateHouse$Maker", "shortcut", "(I)V"⟩ ∈ zT := zin 78 (by decide +kernel) (by decide +kernel)
theorem zw2237 : Cond.code ⟨"TemplateHouse$Maker", "apply", "()V"⟩ prog_7_method_57_code 4 (Option.none : Option Jvm.ClassFile.FieldType) ∈ zT := zsub10 77 rfl rfl
theorem zw2236 : Cond.instanceMethod ⟨"TemplateHouse$Maker", "apply", "()V"⟩ ∈ zT := zsub10 76 (by decide +kernel) (by decide +kernel)
theorem zwp35 : Cond.selects "TemplateHouse$Maker" ⟨"TemplateHouse$Maker", "apply", "()V"⟩ ⟨"TemplateHouse$Maker", "apply", "()V"⟩ ∈ zT := zin 35 (by decide +kernel) (by decide +kernel)
theorem zw2249 : Cond.code ⟨"TemplateHouse$Maker", "collect", "(I)V"⟩ prog_7_method_62_code 2 (Option.none : Option Jvm.ClassFile.FieldType) ∈ zT := zsub10 89 rfl rfl
theorem zw2248 : Cond.instanceMethod ⟨"TemplateHouse$Maker", "collect", "(I)V"⟩ ∈ zT := zsub10 88 (by decide +kernel) (by decide +kernel)
theorem zwp39 : Cond.selects "TemplateHouse$Maker" ⟨"TemplateHouse$Maker", "collect", "(I)V"⟩ ⟨"TemplateHouse$Maker", "collect", "(I)V"⟩ ∈ zT := zin 39 (by decide +kernel) (by decide +kernel)
theorem zw2254 : Cond.code ⟨"TemplateHouse$Maker", "leaveLoop", "(II)V"⟩ prog_7_method_60_code 5 (Option.none : Option Jvm.ClassFile.FieldType) ∈ zT := zsub10 94 rfl rfl
theorem zw2253 : Cond.instanceMethod ⟨"TemplateHouse$Maker", "leaveLoop", "(II)V"⟩ ∈ zT := zsub10 93 (by decide +kernel) (by decide +kernel)
theorem zwp56 : Cond.selects "TemplateHouse$Maker" ⟨"TemplateHouse$Maker", "leaveLoop", "(II)V"⟩ ⟨"TemplateHouse$Maker", "leaveLoop", "(II)V"⟩ ∈ zT := zin 56 (by decide +kernel) (by decide +kernel)
theorem zw2245 : Cond.code ⟨"TemplateHouse$Maker", "next", "()V"⟩ prog_7_method_59_code 7 (Option.none : Option Jvm.ClassFile.FieldType) ∈ zT := zsub10 85 rfl rfl
theorem zw2244 : Cond.instanceMethod ⟨"TemplateHouse$Maker", "next", "()V"⟩ ∈ zT := zsub10 84 (by decide +kernel) (by decide +kernel)
theorem zwp61 : Cond.selects "TemplateHouse$Maker" ⟨"TemplateHouse$Maker", "next", "()V"⟩ ⟨"TemplateHouse$Maker", "next", "()V"⟩ ∈ zT := zin 61 (by decide +kernel) (by decide +kernel)
theorem zw2263 : Cond.code ⟨"TemplateHouse$Maker", "current", "()I"⟩ prog_7_method_61_code 1 (Option.some Jvm.ClassFile.FieldType.int) ∈ zT := zsub10 103 rfl rfl
theorem zw2262 : Cond.instanceMethod ⟨"TemplateHouse$Maker", "current", "()I"⟩ ∈ zT := zsub10 102 (by decide +kernel) (by decide +kernel)
theorem zwp41 : Cond.selects "TemplateHouse$Maker" ⟨"TemplateHouse$Maker", "current", "()I"⟩ ⟨"TemplateHouse$Maker", "current", "()I"⟩ ∈ zT := zin 41 (by decide +kernel) (by decide +kernel)
theorem zw2259 : Cond.code ⟨"TemplateHouse$Maker", "eachSub", "()V"⟩ prog_7_method_63_code 3 (Option.none : Option Jvm.ClassFile.FieldType) ∈ zT := zsub10 99 rfl rfl
theorem zw2258 : Cond.instanceMethod ⟨"TemplateHouse$Maker", "eachSub", "()V"⟩ ∈ zT := zsub10 98 (by decide +kernel) (by decide +kernel)
theorem zwp46 : Cond.selects "TemplateHouse$Maker" ⟨"TemplateHouse$Maker", "eachSub", "()V"⟩ ⟨"TemplateHouse$Maker", "eachSub", "()V"⟩ ∈ zT := zin 46 (by decide +kernel) (by decide +kernel)
theorem zw2267 : Cond.code ⟨"TemplateHouse$Maker", "eachText", "()I"⟩ prog_7_method_64_code 1 (Option.some Jvm.ClassFile.FieldType.int) ∈ zT := zsub10 107 rfl rfl
theorem zw2266 : Cond.instanceMethod ⟨"TemplateHouse$Maker", "eachText", "()I"⟩ ∈ zT := zsub10 106 (by decide +kernel) (by decide +kernel)
theorem zwp47 : Cond.selects "TemplateHouse$Maker" ⟨"TemplateHouse$Maker", "eachText", "()I"⟩ ⟨"TemplateHouse$Maker", "eachText", "()I"⟩ ∈ zT := zin 47 (by decide +kernel) (by decide +kernel)
theorem zw2276 : Cond.code ⟨"TemplateHouse$Maker", "option", "()V"⟩ prog_7_method_66_code 2 (Option.none : Option Jvm.ClassFile.FieldType) ∈ zT := zsub10 116 rfl rfl
theorem zw2275 : Cond.instanceMethod ⟨"TemplateHouse$Maker", "option", "()V"⟩ ∈ zT := zsub10 115 (by decide +kernel) (by decide +kernel)
theorem zwp65 : Cond.selects "TemplateHouse$Maker" ⟨"TemplateHouse$Maker", "option", "()V"⟩ ⟨"TemplateHouse$Maker", "option", "()V"⟩ ∈ zT := zin 65 (by decide +kernel) (by decide +kernel)
theorem zw2292 : Cond.code ⟨"TemplateHouse", "run", "(I)I"⟩ prog_1_method_23_code 3 (Option.some Jvm.ClassFile.FieldType.int) ∈ zT := zsub10 132 rfl rfl
theorem zw2290 : Cond.instanceMethod ⟨"TemplateHouse", "run", "(I)I"⟩ ∈ zT := zsub10 130 (by decide +kernel) (by decide +kernel)
theorem zw2291 : Cond.selects "TemplateHouse" ⟨"TemplateHouse", "run", "(I)I"⟩ ⟨"TemplateHouse", "run", "(I)I"⟩ ∈ zT := zsub10 131 (by decide +kernel) (by decide +kernel)
theorem zw902 : Cond.code ⟨"TemplateHouse", "stop", "()Z"⟩ prog_1_method_24_code 1 (Option.some Jvm.ClassFile.FieldType.boolean) ∈ zT := zsub4 182 rfl rfl
theorem zw900 : Cond.instanceMethod ⟨"TemplateHouse", "stop", "()Z"⟩ ∈ zT := zsub4 180 (by decide +kernel) (by decide +kernel)
theorem zw901 : Cond.selects "TemplateHouse" ⟨"TemplateHouse", "stop", "()Z"⟩ ⟨"TemplateHouse", "stop", "()Z"⟩ ∈ zT := zsub4 181 (by decide +kernel) (by decide +kernel)
theorem zw906 : Cond.code ⟨"TemplateHouse", "byteOf", "(I)I"⟩ prog_1_method_25_code 2 (Option.some Jvm.ClassFile.FieldType.int) ∈ zT := zsub4 186 rfl rfl
theorem zw904 : Cond.instanceMethod ⟨"TemplateHouse", "byteOf", "(I)I"⟩ ∈ zT := zsub4 184 (by decide +kernel) (by decide +kernel)
theorem zw905 : Cond.selects "TemplateHouse" ⟨"TemplateHouse", "byteOf", "(I)I"⟩ ⟨"TemplateHouse", "byteOf", "(I)I"⟩ ∈ zT := zsub4 185 (by decide +kernel) (by decide +kernel)
theorem zw914 : Cond.code ⟨"TemplateHouse", "told", "(I)I"⟩ prog_1_method_29_code 2 (Option.some Jvm.ClassFile.FieldType.int) ∈ zT := zsub4 194 rfl rfl
theorem zw913 : Cond.instanceMethod ⟨"TemplateHouse", "told", "(I)I"⟩ ∈ zT := zsub4 193 (by decide +kernel) (by decide +kernel)
theorem zwp3 : Cond.selects "TemplateHouse" ⟨"TemplateHouse", "told", "(I)I"⟩ ⟨"TemplateHouse", "told", "(I)I"⟩ ∈ zT := zin 3 (by decide +kernel) (by decide +kernel)
theorem zw910 : Cond.code ⟨"TemplateHouse", "error", "(II)I"⟩ prog_1_method_26_code 3 (Option.some Jvm.ClassFile.FieldType.int) ∈ zT := zsub4 190 rfl rfl
theorem zw908 : Cond.instanceMethod ⟨"TemplateHouse", "error", "(II)I"⟩ ∈ zT := zsub4 188 (by decide +kernel) (by decide +kernel)
theorem zw909 : Cond.selects "TemplateHouse" ⟨"TemplateHouse", "error", "(II)I"⟩ ⟨"TemplateHouse", "error", "(II)I"⟩ ∈ zT := zsub4 189 (by decide +kernel) (by decide +kernel)
theorem zw919 : Cond.code ⟨"TemplateHouse", "looked", "(II)I"⟩ prog_1_method_27_code 3 (Option.some Jvm.ClassFile.FieldType.int) ∈ zT := zsub4 199 rfl rfl
theorem zw917 : Cond.instanceMethod ⟨"TemplateHouse", "looked", "(II)I"⟩ ∈ zT := zsub4 197 (by decide +kernel) (by decide +kernel)
theorem zw918 : Cond.selects "TemplateHouse" ⟨"TemplateHouse", "looked", "(II)I"⟩ ⟨"TemplateHouse", "looked", "(II)I"⟩ ∈ zT := zsub4 198 (by decide +kernel) (by decide +kernel)
theorem zw923 : Cond.code ⟨"TemplateHouse", "look", "(I)I"⟩ prog_1_method_28_code 2 (Option.some Jvm.ClassFile.FieldType.int) ∈ zT := zsub4 203 rfl rfl
theorem zw921 : Cond.instanceMethod ⟨"TemplateHouse", "look", "(I)I"⟩ ∈ zT := zsub4 201 (by decide +kernel) (by decide +kernel)
theorem zw922 : Cond.selects "TemplateHouse" ⟨"TemplateHouse", "look", "(I)I"⟩ ⟨"TemplateHouse", "look", "(I)I"⟩ ∈ zT := zsub4 202 (by decide +kernel) (by decide +kernel)
abbrev cX5_isBlank : ByteArray := prog_7_method_56_code
abbrev yX5_isBlank : MethodName := ⟨"TemplateHouse$Maker", "isBlank", "(I)Z"⟩
theorem dmX5_isBlank : zDs yX5_isBlank cX5_isBlank 1 (some .boolean) 1 := ⟨⟨⟨by decide +kernel, by decide +kernel, by decide +kernel⟩, zw2224, zw10⟩, zw2223⟩
abbrev cX5_trimmed : ByteArray := prog_7_method_55_code
abbrev yX5_trimmed : MethodName := ⟨"TemplateHouse$Maker", "trimmed", "(I)I"⟩
theorem dmX5_trimmed : zDv yX5_trimmed cX5_trimmed 4 (some .int) 1 := ⟨⟨⟨by decide +kernel, by decide +kernel, by decide +kernel⟩, zw2221, zw10⟩, zw2220, zwp90⟩
abbrev cX5_shortcut : ByteArray := prog_7_method_36_code
abbrev yX5_shortcut : MethodName := ⟨"TemplateHouse$Maker", "shortcut", "(I)V"⟩
theorem dmX5_shortcut : zDv yX5_shortcut cX5_shortcut 2 none 1 := ⟨⟨⟨by decide +kernel, by decide +kernel, by decide +kernel⟩, zw2233, zw10⟩, zw2232, zwp78⟩
abbrev cX5_apply : ByteArray := prog_7_method_57_code
abbrev yX5_apply : MethodName := ⟨"TemplateHouse$Maker", "apply", "()V"⟩
theorem dmX5_apply : zDv yX5_apply cX5_apply 4 none 0 := ⟨⟨⟨by decide +kernel, by decide +kernel, by decide +kernel⟩, zw2237, zw10⟩, zw2236, zwp35⟩
abbrev cX5_collect : ByteArray := prog_7_method_62_code
abbrev yX5_collect : MethodName := ⟨"TemplateHouse$Maker", "collect", "(I)V"⟩
theorem dmX5_collect : zDv yX5_collect cX5_collect 2 none 1 := ⟨⟨⟨by decide +kernel, by decide +kernel, by decide +kernel⟩, zw2249, zw10⟩, zw2248, zwp39⟩
abbrev cX5_leaveLoop : ByteArray := prog_7_method_60_code
abbrev yX5_leaveLoop : MethodName := ⟨"TemplateHouse$Maker", "leaveLoop", "(II)V"⟩
theorem dmX5_leaveLoop : zDv yX5_leaveLoop cX5_leaveLoop 5 none 2 := ⟨⟨⟨by decide +kernel, by decide +kernel, by decide +kernel⟩, zw2254, zw10⟩, zw2253, zwp56⟩
abbrev cX5_next : ByteArray := prog_7_method_59_code
abbrev yX5_next : MethodName := ⟨"TemplateHouse$Maker", "next", "()V"⟩
theorem dmX5_next : zDv yX5_next cX5_next 7 none 0 := ⟨⟨⟨by decide +kernel, by decide +kernel, by decide +kernel⟩, zw2245, zw10⟩, zw2244, zwp61⟩
abbrev cX5_current : ByteArray := prog_7_method_61_code
abbrev yX5_current : MethodName := ⟨"TemplateHouse$Maker", "current", "()I"⟩
theorem dmX5_current : zDv yX5_current cX5_current 1 (some .int) 0 := ⟨⟨⟨by decide +kernel, by decide +kernel, by decide +kernel⟩, zw2263, zw10⟩, zw2262, zwp41⟩
abbrev cX5_eachSub : ByteArray := prog_7_method_63_code
abbrev yX5_eachSub : MethodName := ⟨"TemplateHouse$Maker", "eachSub", "()V"⟩
theorem dmX5_eachSub : zDv yX5_eachSub cX5_eachSub 3 none 0 := ⟨⟨⟨by decide +kernel, by decide +kernel, by decide +kernel⟩, zw2259, zw10⟩, zw2258, zwp46⟩
abbrev cX5_eachText : ByteArray := prog_7_method_64_code
abbrev yX5_eachText : MethodName := ⟨"TemplateHouse$Maker", "eachText", "()I"⟩
theorem dmX5_eachText : zDv yX5_eachText cX5_eachText 1 (some .int) 0 := ⟨⟨⟨by decide +kernel, by decide +kernel, by decide +kernel⟩, zw2267, zw10⟩, zw2266, zwp47⟩
abbrev cX5_option : ByteArray := prog_7_method_66_code
abbrev yX5_option : MethodName := ⟨"TemplateHouse$Maker", "option", "()V"⟩
theorem dmX5_option : zDv yX5_option cX5_option 2 none 0 := ⟨⟨⟨by decide +kernel, by decide +kernel, by decide +kernel⟩, zw2276, zw10⟩, zw2275, zwp65⟩
abbrev cX12_run : ByteArray := prog_1_method_23_code
abbrev yX12_run : MethodName := ⟨"TemplateHouse", "run", "(I)I"⟩
theorem dmX12_run : zDv yX12_run cX12_run 3 (some .int) 1 := ⟨⟨⟨by decide +kernel, by decide +kernel, by decide +kernel⟩, zw2292, zw1⟩, zw2290, zw2291⟩
abbrev cX12_stop : ByteArray := prog_1_method_24_code
abbrev yX12_stop : MethodName := ⟨"TemplateHouse", "stop", "()Z"⟩
theorem dmX12_stop : zDv yX12_stop cX12_stop 1 (some .boolean) 0 := ⟨⟨⟨by decide +kernel, by decide +kernel, by decide +kernel⟩, zw902, zw1⟩, zw900, zw901⟩
abbrev cX12_byteOf : ByteArray := prog_1_method_25_code
abbrev yX12_byteOf : MethodName := ⟨"TemplateHouse", "byteOf", "(I)I"⟩
theorem dmX12_byteOf : zDv yX12_byteOf cX12_byteOf 2 (some .int) 1 := ⟨⟨⟨by decide +kernel, by decide +kernel, by decide +kernel⟩, zw906, zw1⟩, zw904, zw905⟩
abbrev cX12_told : ByteArray := prog_1_method_29_code
abbrev yX12_told : MethodName := ⟨"TemplateHouse", "told", "(I)I"⟩
theorem dmX12_told : zDv yX12_told cX12_told 2 (some .int) 1 := ⟨⟨⟨by decide +kernel, by decide +kernel, by decide +kernel⟩, zw914, zw1⟩, zw913, zwp3⟩
abbrev cX12_error : ByteArray := prog_1_method_26_code
abbrev yX12_error : MethodName := ⟨"TemplateHouse", "error", "(II)I"⟩
theorem dmX12_error : zDv yX12_error cX12_error 3 (some .int) 2 := ⟨⟨⟨by decide +kernel, by decide +kernel, by decide +kernel⟩, zw910, zw1⟩, zw908, zw909⟩
abbrev cX12_looked : ByteArray := prog_1_method_27_code
abbrev yX12_looked : MethodName := ⟨"TemplateHouse", "looked", "(II)I"⟩
theorem dmX12_looked : zDv yX12_looked cX12_looked 3 (some .int) 2 := ⟨⟨⟨by decide +kernel, by decide +kernel, by decide +kernel⟩, zw919, zw1⟩, zw917, zw918⟩
abbrev cX12_look : ByteArray := prog_1_method_28_code
abbrev yX12_look : MethodName := ⟨"TemplateHouse", "look", "(I)I"⟩
theorem dmX12_look : zDv yX12_look cX12_look 2 (some .int) 1 := ⟨⟨⟨by decide +kernel, by decide +kernel, by decide +kernel⟩, zw923, zw1⟩, zw921, zw922⟩
theorem dX5_isBlank_0 : decode cX5_isBlank 0 = .ok (.iload_n 0, 1) := by decide +kernel
theorem dX5_isBlank_1 : decode cX5_isBlank 1 = .ok (.bipush 32, 2) := by decide +kernel
theorem dX5_isBlank_3 : decode cX5_isBlank 3 = .ok (.if_icmp .eq 15, 3) := by decide +kernel
theorem dX5_isBlank_23 : decode cX5_isBlank 23 = .ok (.ireturn, 1) := by decide +kernel
theorem dX5_isBlank_18 : decode cX5_isBlank 18 = .ok (.iconst 1, 1) := by decide +kernel
theorem dX5_isBlank_19 : decode cX5_isBlank 19 = .ok (.goto 4, 3) := by decide +kernel
theorem dX5_isBlank_6 : decode cX5_isBlank 6 = .ok (.iload_n 0, 1) := by decide +kernel
theorem dX5_isBlank_7 : decode cX5_isBlank 7 = .ok (.bipush 9, 2) := by decide +kernel
theorem dX5_isBlank_9 : decode cX5_isBlank 9 = .ok (.if_icmp .eq 9, 3) := by decide +kernel
theorem dX5_isBlank_12 : decode cX5_isBlank 12 = .ok (.iload_n 0, 1) := by decide +kernel
theorem dX5_isBlank_13 : decode cX5_isBlank 13 = .ok (.bipush 10, 2) := by decide +kernel
theorem dX5_isBlank_15 : decode cX5_isBlank 15 = .ok (.if_icmp .ne 7, 3) := by decide +kernel
theorem dX5_isBlank_22 : decode cX5_isBlank 22 = .ok (.iconst 0, 1) := by decide +kernel
theorem dX5_trimmed_0 : decode cX5_trimmed 0 = .ok (.iload_n 1, 1) := by decide +kernel
theorem dX5_trimmed_1 : decode cX5_trimmed 1 = .ok (.ldc_w 350, 3) := by decide +kernel
theorem dX5_trimmed_4 : decode cX5_trimmed 4 = .ok (.iand, 1) := by decide +kernel
theorem dX5_trimmed_5 : decode cX5_trimmed 5 = .ok (.bipush 10, 2) := by decide +kernel
theorem dX5_trimmed_7 : decode cX5_trimmed 7 = .ok (.iushr, 1) := by decide +kernel
theorem dX5_trimmed_8 : decode cX5_trimmed 8 = .ok (.istore_n 2, 1) := by decide +kernel
theorem dX5_trimmed_9 : decode cX5_trimmed 9 = .ok (.iload_n 1, 1) := by decide +kernel
theorem dX5_trimmed_10 : decode cX5_trimmed 10 = .ok (.sipush 1023, 3) := by decide +kernel
theorem dX5_trimmed_13 : decode cX5_trimmed 13 = .ok (.iand, 1) := by decide +kernel
theorem dX5_trimmed_14 : decode cX5_trimmed 14 = .ok (.istore_n 3, 1) := by decide +kernel
theorem dX5_trimmed_15 : decode cX5_trimmed 15 = .ok (.iload_n 3, 1) := by decide +kernel
theorem dX5_trimmed_16 : decode cX5_trimmed 16 = .ok (.ifCond .le 30, 3) := by decide +kernel
theorem dX5_trimmed_46 : decode cX5_trimmed 46 = .ok (.iload_n 3, 1) := by decide +kernel
theorem dX5_trimmed_47 : decode cX5_trimmed 47 = .ok (.ifCond .le 29, 3) := by decide +kernel
theorem dX5_trimmed_76 : decode cX5_trimmed 76 = .ok (.ldc_w 559, 3) := by decide +kernel
theorem dX5_trimmed_79 : decode cX5_trimmed 79 = .ok (.iload_n 2, 1) := by decide +kernel
theorem dX5_trimmed_80 : decode cX5_trimmed 80 = .ok (.bipush 10, 2) := by decide +kernel
theorem dX5_trimmed_82 : decode cX5_trimmed 82 = .ok (.ishl, 1) := by decide +kernel
theorem dX5_trimmed_83 : decode cX5_trimmed 83 = .ok (.ior, 1) := by decide +kernel
theorem dX5_trimmed_84 : decode cX5_trimmed 84 = .ok (.iload_n 3, 1) := by decide +kernel
theorem dX5_trimmed_85 : decode cX5_trimmed 85 = .ok (.ior, 1) := by decide +kernel
theorem dX5_trimmed_86 : decode cX5_trimmed 86 = .ok (.ireturn, 1) := by decide +kernel
theorem dX5_trimmed_50 : decode cX5_trimmed 50 = .ok (.aload_n 0, 1) := by decide +kernel
theorem dX5_trimmed_51 : decode cX5_trimmed 51 = .ok (.getfield 83, 3) := by decide +kernel
theorem dX5_trimmed_54 : decode cX5_trimmed 54 = .ok (.getfield 351, 3) := by decide +kernel
theorem dX5_trimmed_57 : decode cX5_trimmed 57 = .ok (.iload_n 2, 1) := by decide +kernel
theorem dX5_trimmed_58 : decode cX5_trimmed 58 = .ok (.invokestatic 277, 3) := by decide +kernel
theorem dX5_trimmed_61 : decode cX5_trimmed 61 = .ok (.invokestatic 556, 3) := by decide +kernel
theorem dX5_trimmed_64 : decode cX5_trimmed 64 = .ok (.ifCond .eq 12, 3) := by decide +kernel
theorem dX5_trimmed_67 : decode cX5_trimmed 67 = .ok (.iinc 2 1, 3) := by decide +kernel
theorem dX5_trimmed_70 : decode cX5_trimmed 70 = .ok (.iinc 3 (-1), 3) := by decide +kernel
theorem dX5_trimmed_73 : decode cX5_trimmed 73 = .ok (.goto (-27), 3) := by decide +kernel
theorem dX5_trimmed_19 : decode cX5_trimmed 19 = .ok (.aload_n 0, 1) := by decide +kernel
theorem dX5_trimmed_20 : decode cX5_trimmed 20 = .ok (.getfield 83, 3) := by decide +kernel
theorem dX5_trimmed_23 : decode cX5_trimmed 23 = .ok (.getfield 351, 3) := by decide +kernel
theorem dX5_trimmed_26 : decode cX5_trimmed 26 = .ok (.iload_n 2, 1) := by decide +kernel
theorem dX5_trimmed_27 : decode cX5_trimmed 27 = .ok (.iload_n 3, 1) := by decide +kernel
theorem dX5_trimmed_28 : decode cX5_trimmed 28 = .ok (.iadd, 1) := by decide +kernel
theorem dX5_trimmed_29 : decode cX5_trimmed 29 = .ok (.iconst 1, 1) := by decide +kernel
theorem dX5_trimmed_30 : decode cX5_trimmed 30 = .ok (.isub, 1) := by decide +kernel
theorem dX5_trimmed_31 : decode cX5_trimmed 31 = .ok (.invokestatic 277, 3) := by decide +kernel
theorem dX5_trimmed_34 : decode cX5_trimmed 34 = .ok (.invokestatic 556, 3) := by decide +kernel
theorem dX5_trimmed_37 : decode cX5_trimmed 37 = .ok (.ifCond .eq 9, 3) := by decide +kernel
theorem dX5_trimmed_40 : decode cX5_trimmed 40 = .ok (.iinc 3 (-1), 3) := by decide +kernel
theorem dX5_trimmed_43 : decode cX5_trimmed 43 = .ok (.goto (-28), 3) := by decide +kernel
theorem dX5_shortcut_0 : decode cX5_shortcut 0 = .ok (.aload_n 0, 1) := by decide +kernel
theorem dX5_shortcut_1 : decode cX5_shortcut 1 = .ok (.getfield 10, 3) := by decide +kernel
theorem dX5_shortcut_4 : decode cX5_shortcut 4 = .ok (.aload_n 0, 1) := by decide +kernel
theorem dX5_shortcut_5 : decode cX5_shortcut 5 = .ok (.getfield 16, 3) := by decide +kernel
theorem dX5_shortcut_8 : decode cX5_shortcut 8 = .ok (.iconst 1, 1) := by decide +kernel
theorem dX5_shortcut_9 : decode cX5_shortcut 9 = .ok (.isub, 1) := by decide +kernel
theorem dX5_shortcut_10 : decode cX5_shortcut 10 = .ok (.invokestatic 113, 3) := by decide +kernel
theorem dX5_shortcut_13 : decode cX5_shortcut 13 = .ok (.iload_n 1, 1) := by decide +kernel
theorem dX5_shortcut_14 : decode cX5_shortcut 14 = .ok (.if_icmp .ne 15, 3) := by decide +kernel
theorem dX5_shortcut_44 : decode cX5_shortcut 44 = .ok (.return_, 1) := by decide +kernel
theorem dX5_shortcut_29 : decode cX5_shortcut 29 = .ok (.aload_n 0, 1) := by decide +kernel
theorem dX5_shortcut_30 : decode cX5_shortcut 30 = .ok (.invokevirtual 254, 3) := by decide +kernel
theorem dX5_shortcut_33 : decode cX5_shortcut 33 = .ok (.pop, 1) := by decide +kernel
theorem dX5_shortcut_34 : decode cX5_shortcut 34 = .ok (.aload_n 0, 1) := by decide +kernel
theorem dX5_shortcut_35 : decode cX5_shortcut 35 = .ok (.dup, 1) := by decide +kernel
theorem dX5_shortcut_36 : decode cX5_shortcut 36 = .ok (.getfield 27, 3) := by decide +kernel
theorem dX5_shortcut_39 : decode cX5_shortcut 39 = .ok (.iconst 2, 1) := by decide +kernel
theorem dX5_shortcut_40 : decode cX5_shortcut 40 = .ok (.iadd, 1) := by decide +kernel
theorem dX5_shortcut_41 : decode cX5_shortcut 41 = .ok (.putfield 27, 3) := by decide +kernel
theorem dX5_shortcut_17 : decode cX5_shortcut 17 = .ok (.aload_n 0, 1) := by decide +kernel
theorem dX5_shortcut_18 : decode cX5_shortcut 18 = .ok (.aload_n 0, 1) := by decide +kernel
theorem dX5_shortcut_19 : decode cX5_shortcut 19 = .ok (.iconst 1, 1) := by decide +kernel
theorem dX5_shortcut_20 : decode cX5_shortcut 20 = .ok (.invokevirtual 252, 3) := by decide +kernel
theorem dX5_shortcut_23 : decode cX5_shortcut 23 = .ok (.putfield 27, 3) := by decide +kernel
theorem dX5_shortcut_26 : decode cX5_shortcut 26 = .ok (.goto 18, 3) := by decide +kernel
theorem dX5_apply_0 : decode cX5_apply 0 = .ok (.aload_n 0, 1) := by decide +kernel
theorem dX5_apply_1 : decode cX5_apply 1 = .ok (.getfield 10, 3) := by decide +kernel
theorem dX5_apply_4 : decode cX5_apply 4 = .ok (.aload_n 0, 1) := by decide +kernel
theorem dX5_apply_5 : decode cX5_apply 5 = .ok (.getfield 16, 3) := by decide +kernel
theorem dX5_apply_8 : decode cX5_apply 8 = .ok (.iconst 1, 1) := by decide +kernel
theorem dX5_apply_9 : decode cX5_apply 9 = .ok (.isub, 1) := by decide +kernel
theorem dX5_apply_10 : decode cX5_apply 10 = .ok (.invokestatic 113, 3) := by decide +kernel
theorem dX5_apply_13 : decode cX5_apply 13 = .ok (.iconst (-1), 1) := by decide +kernel
theorem dX5_apply_14 : decode cX5_apply 14 = .ok (.if_icmp .ne 13, 3) := by decide +kernel
theorem dX5_apply_27 : decode cX5_apply 27 = .ok (.aload_n 0, 1) := by decide +kernel
theorem dX5_apply_28 : decode cX5_apply 28 = .ok (.invokevirtual 254, 3) := by decide +kernel
theorem dX5_apply_31 : decode cX5_apply 31 = .ok (.istore_n 1, 1) := by decide +kernel
theorem dX5_apply_32 : decode cX5_apply 32 = .ok (.aload_n 0, 1) := by decide +kernel
theorem dX5_apply_33 : decode cX5_apply 33 = .ok (.getfield 16, 3) := by decide +kernel
theorem dX5_apply_36 : decode cX5_apply 36 = .ok (.istore_n 2, 1) := by decide +kernel
theorem dX5_apply_37 : decode cX5_apply 37 = .ok (.aload_n 0, 1) := by decide +kernel
theorem dX5_apply_38 : decode cX5_apply 38 = .ok (.aload_n 0, 1) := by decide +kernel
theorem dX5_apply_39 : decode cX5_apply 39 = .ok (.getfield 42, 3) := by decide +kernel
theorem dX5_apply_42 : decode cX5_apply 42 = .ok (.invokevirtual 259, 3) := by decide +kernel
theorem dX5_apply_45 : decode cX5_apply 45 = .ok (.aload_n 0, 1) := by decide +kernel
theorem dX5_apply_46 : decode cX5_apply 46 = .ok (.iload_n 1, 1) := by decide +kernel
theorem dX5_apply_47 : decode cX5_apply 47 = .ok (.invokevirtual 259, 3) := by decide +kernel
theorem dX5_apply_50 : decode cX5_apply 50 = .ok (.aload_n 0, 1) := by decide +kernel
theorem dX5_apply_51 : decode cX5_apply 51 = .ok (.iconst 0, 1) := by decide +kernel
theorem dX5_apply_52 : decode cX5_apply 52 = .ok (.invokevirtual 259, 3) := by decide +kernel
theorem dX5_apply_55 : decode cX5_apply 55 = .ok (.aload_n 0, 1) := by decide +kernel
theorem dX5_apply_56 : decode cX5_apply 56 = .ok (.iconst 0, 1) := by decide +kernel
theorem dX5_apply_57 : decode cX5_apply 57 = .ok (.invokevirtual 259, 3) := by decide +kernel
theorem dX5_apply_60 : decode cX5_apply 60 = .ok (.aload_n 0, 1) := by decide +kernel
theorem dX5_apply_61 : decode cX5_apply 61 = .ok (.iconst 0, 1) := by decide +kernel
theorem dX5_apply_62 : decode cX5_apply 62 = .ok (.invokevirtual 259, 3) := by decide +kernel
theorem dX5_apply_65 : decode cX5_apply 65 = .ok (.iconst 0, 1) := by decide +kernel
theorem dX5_apply_66 : decode cX5_apply 66 = .ok (.istore_n 3, 1) := by decide +kernel
theorem dX5_apply_67 : decode cX5_apply 67 = .ok (.iload_n 3, 1) := by decide +kernel
theorem dX5_apply_68 : decode cX5_apply 68 = .ok (.aload_n 0, 1) := by decide +kernel
theorem dX5_apply_69 : decode cX5_apply 69 = .ok (.iconst 1, 1) := by decide +kernel
theorem dX5_apply_70 : decode cX5_apply 70 = .ok (.invokevirtual 252, 3) := by decide +kernel
theorem dX5_apply_73 : decode cX5_apply 73 = .ok (.if_icmp .ge 14, 3) := by decide +kernel
theorem dX5_apply_87 : decode cX5_apply 87 = .ok (.aload_n 0, 1) := by decide +kernel
theorem dX5_apply_88 : decode cX5_apply 88 = .ok (.iload_n 2, 1) := by decide +kernel
theorem dX5_apply_89 : decode cX5_apply 89 = .ok (.putfield 42, 3) := by decide +kernel
theorem dX5_apply_92 : decode cX5_apply 92 = .ok (.aload_n 0, 1) := by decide +kernel
theorem dX5_apply_93 : decode cX5_apply 93 = .ok (.dup, 1) := by decide +kernel
theorem dX5_apply_94 : decode cX5_apply 94 = .ok (.getfield 27, 3) := by decide +kernel
theorem dX5_apply_97 : decode cX5_apply 97 = .ok (.iconst 3, 1) := by decide +kernel
theorem dX5_apply_98 : decode cX5_apply 98 = .ok (.iadd, 1) := by decide +kernel
theorem dX5_apply_99 : decode cX5_apply 99 = .ok (.putfield 27, 3) := by decide +kernel
theorem dX5_apply_102 : decode cX5_apply 102 = .ok (.return_, 1) := by decide +kernel
theorem dX5_apply_76 : decode cX5_apply 76 = .ok (.aload_n 0, 1) := by decide +kernel
theorem dX5_apply_77 : decode cX5_apply 77 = .ok (.iconst 0, 1) := by decide +kernel
theorem dX5_apply_78 : decode cX5_apply 78 = .ok (.invokevirtual 259, 3) := by decide +kernel
theorem dX5_apply_81 : decode cX5_apply 81 = .ok (.iinc 3 1, 3) := by decide +kernel
theorem dX5_apply_84 : decode cX5_apply 84 = .ok (.goto (-17), 3) := by decide +kernel
theorem dX5_apply_17 : decode cX5_apply 17 = .ok (.aload_n 0, 1) := by decide +kernel
theorem dX5_apply_18 : decode cX5_apply 18 = .ok (.aload_n 0, 1) := by decide +kernel
theorem dX5_apply_19 : decode cX5_apply 19 = .ok (.iconst 2, 1) := by decide +kernel
theorem dX5_apply_20 : decode cX5_apply 20 = .ok (.invokevirtual 252, 3) := by decide +kernel
theorem dX5_apply_23 : decode cX5_apply 23 = .ok (.putfield 27, 3) := by decide +kernel
theorem dX5_apply_26 : decode cX5_apply 26 = .ok (.return_, 1) := by decide +kernel
theorem dX5_collect_0 : decode cX5_collect 0 = .ok (.iload_n 1, 1) := by decide +kernel
theorem dX5_collect_1 : decode cX5_collect 1 = .ok (.iconst (-1), 1) := by decide +kernel
theorem dX5_collect_2 : decode cX5_collect 2 = .ok (.if_icmp .eq 31, 3) := by decide +kernel
theorem dX5_collect_33 : decode cX5_collect 33 = .ok (.aload_n 0, 1) := by decide +kernel
theorem dX5_collect_34 : decode cX5_collect 34 = .ok (.getfield 10, 3) := by decide +kernel
theorem dX5_collect_37 : decode cX5_collect 37 = .ok (.aload_n 0, 1) := by decide +kernel
theorem dX5_collect_38 : decode cX5_collect 38 = .ok (.getfield 42, 3) := by decide +kernel
theorem dX5_collect_41 : decode cX5_collect 41 = .ok (.iconst 3, 1) := by decide +kernel
theorem dX5_collect_42 : decode cX5_collect 42 = .ok (.iadd, 1) := by decide +kernel
theorem dX5_collect_43 : decode cX5_collect 43 = .ok (.invokestatic 113, 3) := by decide +kernel
theorem dX5_collect_46 : decode cX5_collect 46 = .ok (.iconst 1, 1) := by decide +kernel
theorem dX5_collect_47 : decode cX5_collect 47 = .ok (.if_icmp .ne 11, 3) := by decide +kernel
theorem dX5_collect_58 : decode cX5_collect 58 = .ok (.aload_n 0, 1) := by decide +kernel
theorem dX5_collect_59 : decode cX5_collect 59 = .ok (.iload_n 1, 1) := by decide +kernel
theorem dX5_collect_60 : decode cX5_collect 60 = .ok (.invokevirtual 259, 3) := by decide +kernel
theorem dX5_collect_63 : decode cX5_collect 63 = .ok (.aload_n 0, 1) := by decide +kernel
theorem dX5_collect_64 : decode cX5_collect 64 = .ok (.aload_n 0, 1) := by decide +kernel
theorem dX5_collect_65 : decode cX5_collect 65 = .ok (.getfield 10, 3) := by decide +kernel
theorem dX5_collect_68 : decode cX5_collect 68 = .ok (.aload_n 0, 1) := by decide +kernel
theorem dX5_collect_69 : decode cX5_collect 69 = .ok (.getfield 42, 3) := by decide +kernel
theorem dX5_collect_72 : decode cX5_collect 72 = .ok (.iconst 4, 1) := by decide +kernel
theorem dX5_collect_73 : decode cX5_collect 73 = .ok (.iadd, 1) := by decide +kernel
theorem dX5_collect_74 : decode cX5_collect 74 = .ok (.invokestatic 113, 3) := by decide +kernel
theorem dX5_collect_77 : decode cX5_collect 77 = .ok (.putfield 27, 3) := by decide +kernel
theorem dX5_collect_80 : decode cX5_collect 80 = .ok (.return_, 1) := by decide +kernel
theorem dX5_collect_50 : decode cX5_collect 50 = .ok (.aload_n 0, 1) := by decide +kernel
theorem dX5_collect_51 : decode cX5_collect 51 = .ok (.getfield 83, 3) := by decide +kernel
theorem dX5_collect_54 : decode cX5_collect 54 = .ok (.iconst 1, 1) := by decide +kernel
theorem dX5_collect_55 : decode cX5_collect 55 = .ok (.invokevirtual 569, 3) := by decide +kernel
theorem dX5_collect_5 : decode cX5_collect 5 = .ok (.aload_n 0, 1) := by decide +kernel
theorem dX5_collect_6 : decode cX5_collect 6 = .ok (.getfield 83, 3) := by decide +kernel
theorem dX5_collect_9 : decode cX5_collect 9 = .ok (.getfield 566, 3) := by decide +kernel
theorem dX5_collect_12 : decode cX5_collect 12 = .ok (.iload_n 1, 1) := by decide +kernel
theorem dX5_collect_13 : decode cX5_collect 13 = .ok (.ldc_w 350, 3) := by decide +kernel
theorem dX5_collect_16 : decode cX5_collect 16 = .ok (.iand, 1) := by decide +kernel
theorem dX5_collect_17 : decode cX5_collect 17 = .ok (.aload_n 0, 1) := by decide +kernel
theorem dX5_collect_18 : decode cX5_collect 18 = .ok (.getfield 10, 3) := by decide +kernel
theorem dX5_collect_21 : decode cX5_collect 21 = .ok (.aload_n 0, 1) := by decide +kernel
theorem dX5_collect_22 : decode cX5_collect 22 = .ok (.getfield 42, 3) := by decide +kernel
theorem dX5_collect_25 : decode cX5_collect 25 = .ok (.iconst 2, 1) := by decide +kernel
theorem dX5_collect_26 : decode cX5_collect 26 = .ok (.iadd, 1) := by decide +kernel
theorem dX5_collect_27 : decode cX5_collect 27 = .ok (.invokestatic 113, 3) := by decide +kernel
theorem dX5_collect_30 : decode cX5_collect 30 = .ok (.invokestatic 192, 3) := by decide +kernel
theorem dX5_leaveLoop_0 : decode cX5_leaveLoop 0 = .ok (.aload_n 0, 1) := by decide +kernel
theorem dX5_leaveLoop_1 : decode cX5_leaveLoop 1 = .ok (.getfield 10, 3) := by decide +kernel
theorem dX5_leaveLoop_4 : decode cX5_leaveLoop 4 = .ok (.aload_n 0, 1) := by decide +kernel
theorem dX5_leaveLoop_5 : decode cX5_leaveLoop 5 = .ok (.getfield 42, 3) := by decide +kernel
theorem dX5_leaveLoop_8 : decode cX5_leaveLoop 8 = .ok (.iconst 5, 1) := by decide +kernel
theorem dX5_leaveLoop_9 : decode cX5_leaveLoop 9 = .ok (.iadd, 1) := by decide +kernel
theorem dX5_leaveLoop_10 : decode cX5_leaveLoop 10 = .ok (.iload_n 2, 1) := by decide +kernel
theorem dX5_leaveLoop_11 : decode cX5_leaveLoop 11 = .ok (.iadd, 1) := by decide +kernel
theorem dX5_leaveLoop_12 : decode cX5_leaveLoop 12 = .ok (.invokestatic 113, 3) := by decide +kernel
theorem dX5_leaveLoop_15 : decode cX5_leaveLoop 15 = .ok (.istore_n 3, 1) := by decide +kernel
theorem dX5_leaveLoop_16 : decode cX5_leaveLoop 16 = .ok (.aload_n 0, 1) := by decide +kernel
theorem dX5_leaveLoop_17 : decode cX5_leaveLoop 17 = .ok (.getfield 10, 3) := by decide +kernel
theorem dX5_leaveLoop_20 : decode cX5_leaveLoop 20 = .ok (.aload_n 0, 1) := by decide +kernel
theorem dX5_leaveLoop_21 : decode cX5_leaveLoop 21 = .ok (.getfield 42, 3) := by decide +kernel
theorem dX5_leaveLoop_24 : decode cX5_leaveLoop 24 = .ok (.iconst 3, 1) := by decide +kernel
theorem dX5_leaveLoop_25 : decode cX5_leaveLoop 25 = .ok (.iadd, 1) := by decide +kernel
theorem dX5_leaveLoop_26 : decode cX5_leaveLoop 26 = .ok (.invokestatic 113, 3) := by decide +kernel
theorem dX5_leaveLoop_29 : decode cX5_leaveLoop 29 = .ok (.iconst 1, 1) := by decide +kernel
theorem dX5_leaveLoop_30 : decode cX5_leaveLoop 30 = .ok (.if_icmp .ne 55, 3) := by decide +kernel
theorem dX5_leaveLoop_85 : decode cX5_leaveLoop 85 = .ok (.aload_n 0, 1) := by decide +kernel
theorem dX5_leaveLoop_86 : decode cX5_leaveLoop 86 = .ok (.aload_n 0, 1) := by decide +kernel
theorem dX5_leaveLoop_87 : decode cX5_leaveLoop 87 = .ok (.getfield 42, 3) := by decide +kernel
theorem dX5_leaveLoop_90 : decode cX5_leaveLoop 90 = .ok (.putfield 16, 3) := by decide +kernel
theorem dX5_leaveLoop_93 : decode cX5_leaveLoop 93 = .ok (.aload_n 0, 1) := by decide +kernel
theorem dX5_leaveLoop_94 : decode cX5_leaveLoop 94 = .ok (.aload_n 0, 1) := by decide +kernel
theorem dX5_leaveLoop_95 : decode cX5_leaveLoop 95 = .ok (.getfield 10, 3) := by decide +kernel
theorem dX5_leaveLoop_98 : decode cX5_leaveLoop 98 = .ok (.aload_n 0, 1) := by decide +kernel
theorem dX5_leaveLoop_99 : decode cX5_leaveLoop 99 = .ok (.getfield 42, 3) := by decide +kernel
theorem dX5_leaveLoop_102 : decode cX5_leaveLoop 102 = .ok (.invokestatic 113, 3) := by decide +kernel
theorem dX5_leaveLoop_105 : decode cX5_leaveLoop 105 = .ok (.putfield 42, 3) := by decide +kernel
theorem dX5_leaveLoop_108 : decode cX5_leaveLoop 108 = .ok (.aload_n 0, 1) := by decide +kernel
theorem dX5_leaveLoop_109 : decode cX5_leaveLoop 109 = .ok (.iload_n 3, 1) := by decide +kernel
theorem dX5_leaveLoop_110 : decode cX5_leaveLoop 110 = .ok (.invokevirtual 259, 3) := by decide +kernel
theorem dX5_leaveLoop_113 : decode cX5_leaveLoop 113 = .ok (.return_, 1) := by decide +kernel
theorem dX5_leaveLoop_33 : decode cX5_leaveLoop 33 = .ok (.aload_n 0, 1) := by decide +kernel
theorem dX5_leaveLoop_34 : decode cX5_leaveLoop 34 = .ok (.getfield 83, 3) := by decide +kernel
theorem dX5_leaveLoop_37 : decode cX5_leaveLoop 37 = .ok (.iload_n 1, 1) := by decide +kernel
theorem dX5_leaveLoop_38 : decode cX5_leaveLoop 38 = .ok (.invokevirtual 563, 3) := by decide +kernel
theorem dX5_leaveLoop_41 : decode cX5_leaveLoop 41 = .ok (.istore_n 3, 1) := by decide +kernel
theorem dX5_leaveLoop_42 : decode cX5_leaveLoop 42 = .ok (.iconst 0, 1) := by decide +kernel
theorem dX5_leaveLoop_43 : decode cX5_leaveLoop 43 = .ok (.istore 4, 2) := by decide +kernel
theorem dX5_leaveLoop_45 : decode cX5_leaveLoop 45 = .ok (.iload 4, 2) := by decide +kernel
theorem dX5_leaveLoop_47 : decode cX5_leaveLoop 47 = .ok (.iload_n 1, 1) := by decide +kernel
theorem dX5_leaveLoop_48 : decode cX5_leaveLoop 48 = .ok (.if_icmp .ge 37, 3) := by decide +kernel
theorem dX5_leaveLoop_51 : decode cX5_leaveLoop 51 = .ok (.aload_n 0, 1) := by decide +kernel
theorem dX5_leaveLoop_52 : decode cX5_leaveLoop 52 = .ok (.getfield 83, 3) := by decide +kernel
theorem dX5_leaveLoop_55 : decode cX5_leaveLoop 55 = .ok (.iload_n 3, 1) := by decide +kernel
theorem dX5_leaveLoop_56 : decode cX5_leaveLoop 56 = .ok (.iload 4, 2) := by decide +kernel
theorem dX5_leaveLoop_58 : decode cX5_leaveLoop 58 = .ok (.aload_n 0, 1) := by decide +kernel
theorem dX5_leaveLoop_59 : decode cX5_leaveLoop 59 = .ok (.getfield 10, 3) := by decide +kernel
theorem dX5_leaveLoop_62 : decode cX5_leaveLoop 62 = .ok (.aload_n 0, 1) := by decide +kernel
theorem dX5_leaveLoop_63 : decode cX5_leaveLoop 63 = .ok (.getfield 42, 3) := by decide +kernel
theorem dX5_leaveLoop_66 : decode cX5_leaveLoop 66 = .ok (.iconst 5, 1) := by decide +kernel
theorem dX5_leaveLoop_67 : decode cX5_leaveLoop 67 = .ok (.iadd, 1) := by decide +kernel
theorem dX5_leaveLoop_68 : decode cX5_leaveLoop 68 = .ok (.iload_n 2, 1) := by decide +kernel
theorem dX5_leaveLoop_69 : decode cX5_leaveLoop 69 = .ok (.iadd, 1) := by decide +kernel
theorem dX5_leaveLoop_70 : decode cX5_leaveLoop 70 = .ok (.iload 4, 2) := by decide +kernel
theorem dX5_leaveLoop_72 : decode cX5_leaveLoop 72 = .ok (.iadd, 1) := by decide +kernel
theorem dX5_leaveLoop_73 : decode cX5_leaveLoop 73 = .ok (.invokestatic 113, 3) := by decide +kernel
theorem dX5_leaveLoop_76 : decode cX5_leaveLoop 76 = .ok (.invokevirtual 233, 3) := by decide +kernel
theorem dX5_leaveLoop_79 : decode cX5_leaveLoop 79 = .ok (.iinc 4 1, 3) := by decide +kernel
theorem dX5_leaveLoop_82 : decode cX5_leaveLoop 82 = .ok (.goto (-37), 3) := by decide +kernel
theorem dX5_next_0 : decode cX5_next 0 = .ok (.aload_n 0, 1) := by decide +kernel
theorem dX5_next_1 : decode cX5_next 1 = .ok (.iconst 1, 1) := by decide +kernel
theorem dX5_next_2 : decode cX5_next 2 = .ok (.invokevirtual 252, 3) := by decide +kernel
theorem dX5_next_5 : decode cX5_next 5 = .ok (.istore_n 1, 1) := by decide +kernel
theorem dX5_next_6 : decode cX5_next 6 = .ok (.aload_n 0, 1) := by decide +kernel
theorem dX5_next_7 : decode cX5_next 7 = .ok (.getfield 10, 3) := by decide +kernel
theorem dX5_next_10 : decode cX5_next 10 = .ok (.aload_n 0, 1) := by decide +kernel
theorem dX5_next_11 : decode cX5_next 11 = .ok (.getfield 42, 3) := by decide +kernel
theorem dX5_next_14 : decode cX5_next 14 = .ok (.iconst 1, 1) := by decide +kernel
theorem dX5_next_15 : decode cX5_next 15 = .ok (.iadd, 1) := by decide +kernel
theorem dX5_next_16 : decode cX5_next 16 = .ok (.invokestatic 113, 3) := by decide +kernel
theorem dX5_next_19 : decode cX5_next 19 = .ok (.istore_n 2, 1) := by decide +kernel
theorem dX5_next_20 : decode cX5_next 20 = .ok (.aload_n 0, 1) := by decide +kernel
theorem dX5_next_21 : decode cX5_next 21 = .ok (.getfield 10, 3) := by decide +kernel
theorem dX5_next_24 : decode cX5_next 24 = .ok (.aload_n 0, 1) := by decide +kernel
theorem dX5_next_25 : decode cX5_next 25 = .ok (.getfield 42, 3) := by decide +kernel
theorem dX5_next_28 : decode cX5_next 28 = .ok (.iconst 2, 1) := by decide +kernel
theorem dX5_next_29 : decode cX5_next 29 = .ok (.iadd, 1) := by decide +kernel
theorem dX5_next_30 : decode cX5_next 30 = .ok (.invokestatic 113, 3) := by decide +kernel
theorem dX5_next_33 : decode cX5_next 33 = .ok (.istore_n 3, 1) := by decide +kernel
theorem dX5_next_34 : decode cX5_next 34 = .ok (.iload_n 3, 1) := by decide +kernel
theorem dX5_next_35 : decode cX5_next 35 = .ok (.ifCond .ne 55, 3) := by decide +kernel
theorem dX5_next_90 : decode cX5_next 90 = .ok (.aload_n 0, 1) := by decide +kernel
theorem dX5_next_91 : decode cX5_next 91 = .ok (.getfield 10, 3) := by decide +kernel
theorem dX5_next_94 : decode cX5_next 94 = .ok (.aload_n 0, 1) := by decide +kernel
theorem dX5_next_95 : decode cX5_next 95 = .ok (.getfield 42, 3) := by decide +kernel
theorem dX5_next_98 : decode cX5_next 98 = .ok (.iconst 4, 1) := by decide +kernel
theorem dX5_next_99 : decode cX5_next 99 = .ok (.iadd, 1) := by decide +kernel
theorem dX5_next_100 : decode cX5_next 100 = .ok (.aload_n 0, 1) := by decide +kernel
theorem dX5_next_101 : decode cX5_next 101 = .ok (.getfield 27, 3) := by decide +kernel
theorem dX5_next_104 : decode cX5_next 104 = .ok (.invokestatic 192, 3) := by decide +kernel
theorem dX5_next_107 : decode cX5_next 107 = .ok (.aload_n 0, 1) := by decide +kernel
theorem dX5_next_108 : decode cX5_next 108 = .ok (.getfield 83, 3) := by decide +kernel
theorem dX5_next_111 : decode cX5_next 111 = .ok (.iload_n 2, 1) := by decide +kernel
theorem dX5_next_112 : decode cX5_next 112 = .ok (.invokevirtual 220, 3) := by decide +kernel
theorem dX5_next_115 : decode cX5_next 115 = .ok (.istore 4, 2) := by decide +kernel
theorem dX5_next_117 : decode cX5_next 117 = .ok (.iload_n 3, 1) := by decide +kernel
theorem dX5_next_118 : decode cX5_next 118 = .ok (.iload 4, 2) := by decide +kernel
theorem dX5_next_120 : decode cX5_next 120 = .ok (.if_icmp .ge 95, 3) := by decide +kernel
theorem dX5_next_215 : decode cX5_next 215 = .ok (.aload_n 0, 1) := by decide +kernel
theorem dX5_next_216 : decode cX5_next 216 = .ok (.iload 4, 2) := by decide +kernel
theorem dX5_next_218 : decode cX5_next 218 = .ok (.iload_n 1, 1) := by decide +kernel
theorem dX5_next_219 : decode cX5_next 219 = .ok (.invokevirtual 560, 3) := by decide +kernel
theorem dX5_next_222 : decode cX5_next 222 = .ok (.aload_n 0, 1) := by decide +kernel
theorem dX5_next_223 : decode cX5_next 223 = .ok (.aload_n 0, 1) := by decide +kernel
theorem dX5_next_224 : decode cX5_next 224 = .ok (.iconst 2, 1) := by decide +kernel
theorem dX5_next_225 : decode cX5_next 225 = .ok (.invokevirtual 252, 3) := by decide +kernel
theorem dX5_next_228 : decode cX5_next 228 = .ok (.putfield 27, 3) := by decide +kernel
theorem dX5_next_231 : decode cX5_next 231 = .ok (.return_, 1) := by decide +kernel
theorem dX5_next_123 : decode cX5_next 123 = .ok (.iload_n 1, 1) := by decide +kernel
theorem dX5_next_124 : decode cX5_next 124 = .ok (.ifCond .le 91, 3) := by decide +kernel
theorem dX5_next_127 : decode cX5_next 127 = .ok (.iload_n 3, 1) := by decide +kernel
theorem dX5_next_128 : decode cX5_next 128 = .ok (.iload_n 1, 1) := by decide +kernel
theorem dX5_next_129 : decode cX5_next 129 = .ok (.irem, 1) := by decide +kernel
theorem dX5_next_130 : decode cX5_next 130 = .ok (.istore 5, 2) := by decide +kernel
theorem dX5_next_132 : decode cX5_next 132 = .ok (.aload_n 0, 1) := by decide +kernel
theorem dX5_next_133 : decode cX5_next 133 = .ok (.getfield 83, 3) := by decide +kernel
theorem dX5_next_136 : decode cX5_next 136 = .ok (.iload_n 2, 1) := by decide +kernel
theorem dX5_next_137 : decode cX5_next 137 = .ok (.iload_n 3, 1) := by decide +kernel
theorem dX5_next_138 : decode cX5_next 138 = .ok (.invokevirtual 230, 3) := by decide +kernel
theorem dX5_next_141 : decode cX5_next 141 = .ok (.iconst (-1), 1) := by decide +kernel
theorem dX5_next_142 : decode cX5_next 142 = .ok (.if_icmp .ne 7, 3) := by decide +kernel
theorem dX5_next_150 : decode cX5_next 150 = .ok (.istore 6, 2) := by decide +kernel
theorem dX5_next_152 : decode cX5_next 152 = .ok (.iinc 3 1, 3) := by decide +kernel
theorem dX5_next_155 : decode cX5_next 155 = .ok (.aload_n 0, 1) := by decide +kernel
theorem dX5_next_156 : decode cX5_next 156 = .ok (.getfield 10, 3) := by decide +kernel
theorem dX5_next_159 : decode cX5_next 159 = .ok (.aload_n 0, 1) := by decide +kernel
theorem dX5_next_160 : decode cX5_next 160 = .ok (.getfield 42, 3) := by decide +kernel
theorem dX5_next_163 : decode cX5_next 163 = .ok (.iconst 2, 1) := by decide +kernel
theorem dX5_next_164 : decode cX5_next 164 = .ok (.iadd, 1) := by decide +kernel
theorem dX5_next_165 : decode cX5_next 165 = .ok (.iload_n 3, 1) := by decide +kernel
theorem dX5_next_166 : decode cX5_next 166 = .ok (.invokestatic 192, 3) := by decide +kernel
theorem dX5_next_169 : decode cX5_next 169 = .ok (.iload 6, 2) := by decide +kernel
theorem dX5_next_171 : decode cX5_next 171 = .ok (.ifCond .ne 36, 3) := by decide +kernel
theorem dX5_next_207 : decode cX5_next 207 = .ok (.aload_n 0, 1) := by decide +kernel
theorem dX5_next_208 : decode cX5_next 208 = .ok (.iconst (-1), 1) := by decide +kernel
theorem dX5_next_209 : decode cX5_next 209 = .ok (.invokevirtual 468, 3) := by decide +kernel
theorem dX5_next_212 : decode cX5_next 212 = .ok (.goto (-95), 3) := by decide +kernel
theorem dX5_next_174 : decode cX5_next 174 = .ok (.aload_n 0, 1) := by decide +kernel
theorem dX5_next_175 : decode cX5_next 175 = .ok (.getfield 10, 3) := by decide +kernel
theorem dX5_next_178 : decode cX5_next 178 = .ok (.aload_n 0, 1) := by decide +kernel
theorem dX5_next_179 : decode cX5_next 179 = .ok (.getfield 42, 3) := by decide +kernel
theorem dX5_next_182 : decode cX5_next 182 = .ok (.iconst 5, 1) := by decide +kernel
theorem dX5_next_183 : decode cX5_next 183 = .ok (.iadd, 1) := by decide +kernel
theorem dX5_next_184 : decode cX5_next 184 = .ok (.iload 5, 2) := by decide +kernel
theorem dX5_next_186 : decode cX5_next 186 = .ok (.iadd, 1) := by decide +kernel
theorem dX5_next_187 : decode cX5_next 187 = .ok (.invokestatic 113, 3) := by decide +kernel
theorem dX5_next_190 : decode cX5_next 190 = .ok (.iconst (-1), 1) := by decide +kernel
theorem dX5_next_191 : decode cX5_next 191 = .ok (.if_icmp .eq 16, 3) := by decide +kernel
theorem dX5_next_194 : decode cX5_next 194 = .ok (.aload_n 0, 1) := by decide +kernel
theorem dX5_next_195 : decode cX5_next 195 = .ok (.aload_n 0, 1) := by decide +kernel
theorem dX5_next_196 : decode cX5_next 196 = .ok (.iconst 3, 1) := by decide +kernel
theorem dX5_next_197 : decode cX5_next 197 = .ok (.iload 5, 2) := by decide +kernel
theorem dX5_next_199 : decode cX5_next 199 = .ok (.iadd, 1) := by decide +kernel
theorem dX5_next_200 : decode cX5_next 200 = .ok (.invokevirtual 252, 3) := by decide +kernel
theorem dX5_next_203 : decode cX5_next 203 = .ok (.putfield 27, 3) := by decide +kernel
theorem dX5_next_206 : decode cX5_next 206 = .ok (.return_, 1) := by decide +kernel
theorem dX5_next_149 : decode cX5_next 149 = .ok (.iconst 0, 1) := by decide +kernel
theorem dX5_next_145 : decode cX5_next 145 = .ok (.iconst 1, 1) := by decide +kernel
theorem dX5_next_146 : decode cX5_next 146 = .ok (.goto 4, 3) := by decide +kernel
theorem dX5_next_38 : decode cX5_next 38 = .ok (.aload_n 0, 1) := by decide +kernel
theorem dX5_next_39 : decode cX5_next 39 = .ok (.getfield 83, 3) := by decide +kernel
theorem dX5_next_42 : decode cX5_next 42 = .ok (.iload_n 2, 1) := by decide +kernel
theorem dX5_next_43 : decode cX5_next 43 = .ok (.invokevirtual 343, 3) := by decide +kernel
theorem dX5_next_46 : decode cX5_next 46 = .ok (.istore_n 2, 1) := by decide +kernel
theorem dX5_next_47 : decode cX5_next 47 = .ok (.aload_n 0, 1) := by decide +kernel
theorem dX5_next_48 : decode cX5_next 48 = .ok (.getfield 10, 3) := by decide +kernel
theorem dX5_next_51 : decode cX5_next 51 = .ok (.aload_n 0, 1) := by decide +kernel
theorem dX5_next_52 : decode cX5_next 52 = .ok (.getfield 42, 3) := by decide +kernel
theorem dX5_next_55 : decode cX5_next 55 = .ok (.iconst 1, 1) := by decide +kernel
theorem dX5_next_56 : decode cX5_next 56 = .ok (.iadd, 1) := by decide +kernel
theorem dX5_next_57 : decode cX5_next 57 = .ok (.iload_n 2, 1) := by decide +kernel
theorem dX5_next_58 : decode cX5_next 58 = .ok (.invokestatic 192, 3) := by decide +kernel
theorem dX5_next_61 : decode cX5_next 61 = .ok (.aload_n 0, 1) := by decide +kernel
theorem dX5_next_62 : decode cX5_next 62 = .ok (.getfield 10, 3) := by decide +kernel
theorem dX5_next_65 : decode cX5_next 65 = .ok (.aload_n 0, 1) := by decide +kernel
theorem dX5_next_66 : decode cX5_next 66 = .ok (.getfield 42, 3) := by decide +kernel
theorem dX5_next_69 : decode cX5_next 69 = .ok (.iconst 3, 1) := by decide +kernel
theorem dX5_next_70 : decode cX5_next 70 = .ok (.iadd, 1) := by decide +kernel
theorem dX5_next_71 : decode cX5_next 71 = .ok (.aload_n 0, 1) := by decide +kernel
theorem dX5_next_72 : decode cX5_next 72 = .ok (.getfield 83, 3) := by decide +kernel
theorem dX5_next_75 : decode cX5_next 75 = .ok (.iload_n 2, 1) := by decide +kernel
theorem dX5_next_76 : decode cX5_next 76 = .ok (.invokevirtual 312, 3) := by decide +kernel
theorem dX5_next_79 : decode cX5_next 79 = .ok (.ifCond .eq 7, 3) := by decide +kernel
theorem dX5_next_87 : decode cX5_next 87 = .ok (.invokestatic 192, 3) := by decide +kernel
theorem dX5_next_86 : decode cX5_next 86 = .ok (.iconst 0, 1) := by decide +kernel
theorem dX5_next_82 : decode cX5_next 82 = .ok (.iconst 1, 1) := by decide +kernel
theorem dX5_next_83 : decode cX5_next 83 = .ok (.goto 4, 3) := by decide +kernel
theorem dX5_current_0 : decode cX5_current 0 = .ok (.aload_n 0, 1) := by decide +kernel
theorem dX5_current_1 : decode cX5_current 1 = .ok (.getfield 83, 3) := by decide +kernel
theorem dX5_current_4 : decode cX5_current 4 = .ok (.aload_n 0, 1) := by decide +kernel
theorem dX5_current_5 : decode cX5_current 5 = .ok (.getfield 10, 3) := by decide +kernel
theorem dX5_current_8 : decode cX5_current 8 = .ok (.aload_n 0, 1) := by decide +kernel
theorem dX5_current_9 : decode cX5_current 9 = .ok (.getfield 42, 3) := by decide +kernel
theorem dX5_current_12 : decode cX5_current 12 = .ok (.iconst 1, 1) := by decide +kernel
theorem dX5_current_13 : decode cX5_current 13 = .ok (.iadd, 1) := by decide +kernel
theorem dX5_current_14 : decode cX5_current 14 = .ok (.invokestatic 113, 3) := by decide +kernel
theorem dX5_current_17 : decode cX5_current 17 = .ok (.aload_n 0, 1) := by decide +kernel
theorem dX5_current_18 : decode cX5_current 18 = .ok (.getfield 10, 3) := by decide +kernel
theorem dX5_current_21 : decode cX5_current 21 = .ok (.aload_n 0, 1) := by decide +kernel
theorem dX5_current_22 : decode cX5_current 22 = .ok (.getfield 42, 3) := by decide +kernel
theorem dX5_current_25 : decode cX5_current 25 = .ok (.iconst 2, 1) := by decide +kernel
theorem dX5_current_26 : decode cX5_current 26 = .ok (.iadd, 1) := by decide +kernel
theorem dX5_current_27 : decode cX5_current 27 = .ok (.invokestatic 113, 3) := by decide +kernel
theorem dX5_current_30 : decode cX5_current 30 = .ok (.iconst 1, 1) := by decide +kernel
theorem dX5_current_31 : decode cX5_current 31 = .ok (.isub, 1) := by decide +kernel
theorem dX5_current_32 : decode cX5_current 32 = .ok (.invokevirtual 230, 3) := by decide +kernel
theorem dX5_current_35 : decode cX5_current 35 = .ok (.ireturn, 1) := by decide +kernel
theorem dX5_eachSub_0 : decode cX5_eachSub 0 = .ok (.aload_n 0, 1) := by decide +kernel
theorem dX5_eachSub_1 : decode cX5_eachSub 1 = .ok (.getfield 27, 3) := by decide +kernel
theorem dX5_eachSub_4 : decode cX5_eachSub 4 = .ok (.iconst 1, 1) := by decide +kernel
theorem dX5_eachSub_5 : decode cX5_eachSub 5 = .ok (.iadd, 1) := by decide +kernel
theorem dX5_eachSub_6 : decode cX5_eachSub 6 = .ok (.istore_n 1, 1) := by decide +kernel
theorem dX5_eachSub_7 : decode cX5_eachSub 7 = .ok (.aload_n 0, 1) := by decide +kernel
theorem dX5_eachSub_8 : decode cX5_eachSub 8 = .ok (.getfield 83, 3) := by decide +kernel
theorem dX5_eachSub_11 : decode cX5_eachSub 11 = .ok (.iload_n 1, 1) := by decide +kernel
theorem dX5_eachSub_12 : decode cX5_eachSub 12 = .ok (.aload_n 0, 1) := by decide +kernel
theorem dX5_eachSub_13 : decode cX5_eachSub 13 = .ok (.getfield 30, 3) := by decide +kernel
theorem dX5_eachSub_16 : decode cX5_eachSub 16 = .ok (.iconst (-1), 1) := by decide +kernel
theorem dX5_eachSub_17 : decode cX5_eachSub 17 = .ok (.invokevirtual 151, 3) := by decide +kernel
theorem dX5_eachSub_20 : decode cX5_eachSub 20 = .ok (.istore_n 2, 1) := by decide +kernel
theorem dX5_eachSub_21 : decode cX5_eachSub 21 = .ok (.aload_n 0, 1) := by decide +kernel
theorem dX5_eachSub_22 : decode cX5_eachSub 22 = .ok (.getfield 70, 3) := by decide +kernel
theorem dX5_eachSub_25 : decode cX5_eachSub 25 = .ok (.getfield 117, 3) := by decide +kernel
theorem dX5_eachSub_28 : decode cX5_eachSub 28 = .ok (.iload_n 1, 1) := by decide +kernel
theorem dX5_eachSub_29 : decode cX5_eachSub 29 = .ok (.iconst 2, 1) := by decide +kernel
theorem dX5_eachSub_30 : decode cX5_eachSub 30 = .ok (.iadd, 1) := by decide +kernel
theorem dX5_eachSub_31 : decode cX5_eachSub 31 = .ok (.invokestatic 113, 3) := by decide +kernel
theorem dX5_eachSub_34 : decode cX5_eachSub 34 = .ok (.ifCond .le 21, 3) := by decide +kernel
theorem dX5_eachSub_55 : decode cX5_eachSub 55 = .ok (.aload_n 0, 1) := by decide +kernel
theorem dX5_eachSub_56 : decode cX5_eachSub 56 = .ok (.ldc 206, 2) := by decide +kernel
theorem dX5_eachSub_58 : decode cX5_eachSub 58 = .ok (.iload_n 2, 1) := by decide +kernel
theorem dX5_eachSub_59 : decode cX5_eachSub 59 = .ok (.ior, 1) := by decide +kernel
theorem dX5_eachSub_60 : decode cX5_eachSub 60 = .ok (.invokevirtual 468, 3) := by decide +kernel
theorem dX5_eachSub_63 : decode cX5_eachSub 63 = .ok (.return_, 1) := by decide +kernel
theorem dX5_eachSub_37 : decode cX5_eachSub 37 = .ok (.aload_n 0, 1) := by decide +kernel
theorem dX5_eachSub_38 : decode cX5_eachSub 38 = .ok (.getfield 83, 3) := by decide +kernel
theorem dX5_eachSub_41 : decode cX5_eachSub 41 = .ok (.getfield 189, 3) := by decide +kernel
theorem dX5_eachSub_44 : decode cX5_eachSub 44 = .ok (.iload_n 2, 1) := by decide +kernel
theorem dX5_eachSub_45 : decode cX5_eachSub 45 = .ok (.bipush 12, 2) := by decide +kernel
theorem dX5_eachSub_47 : decode cX5_eachSub 47 = .ok (.imul, 1) := by decide +kernel
theorem dX5_eachSub_48 : decode cX5_eachSub 48 = .ok (.aload_n 0, 1) := by decide +kernel
theorem dX5_eachSub_49 : decode cX5_eachSub 49 = .ok (.invokevirtual 465, 3) := by decide +kernel
theorem dX5_eachSub_52 : decode cX5_eachSub 52 = .ok (.invokestatic 192, 3) := by decide +kernel
theorem dX5_eachText_0 : decode cX5_eachText 0 = .ok (.aload_n 0, 1) := by decide +kernel
theorem dX5_eachText_1 : decode cX5_eachText 1 = .ok (.getfield 10, 3) := by decide +kernel
theorem dX5_eachText_4 : decode cX5_eachText 4 = .ok (.aload_n 0, 1) := by decide +kernel
theorem dX5_eachText_5 : decode cX5_eachText 5 = .ok (.getfield 42, 3) := by decide +kernel
theorem dX5_eachText_8 : decode cX5_eachText 8 = .ok (.iconst 5, 1) := by decide +kernel
theorem dX5_eachText_9 : decode cX5_eachText 9 = .ok (.iadd, 1) := by decide +kernel
theorem dX5_eachText_10 : decode cX5_eachText 10 = .ok (.aload_n 0, 1) := by decide +kernel
theorem dX5_eachText_11 : decode cX5_eachText 11 = .ok (.iconst 5, 1) := by decide +kernel
theorem dX5_eachText_12 : decode cX5_eachText 12 = .ok (.invokevirtual 252, 3) := by decide +kernel
theorem dX5_eachText_15 : decode cX5_eachText 15 = .ok (.iadd, 1) := by decide +kernel
theorem dX5_eachText_16 : decode cX5_eachText 16 = .ok (.invokestatic 113, 3) := by decide +kernel
theorem dX5_eachText_19 : decode cX5_eachText 19 = .ok (.ireturn, 1) := by decide +kernel
theorem dX5_option_0 : decode cX5_option 0 = .ok (.aload_n 0, 1) := by decide +kernel
theorem dX5_option_1 : decode cX5_option 1 = .ok (.invokevirtual 254, 3) := by decide +kernel
theorem dX5_option_4 : decode cX5_option 4 = .ok (.istore_n 1, 1) := by decide +kernel
theorem dX5_option_5 : decode cX5_option 5 = .ok (.aload_n 0, 1) := by decide +kernel
theorem dX5_option_6 : decode cX5_option 6 = .ok (.getfield 10, 3) := by decide +kernel
theorem dX5_option_9 : decode cX5_option 9 = .ok (.aload_n 0, 1) := by decide +kernel
theorem dX5_option_10 : decode cX5_option 10 = .ok (.getfield 16, 3) := by decide +kernel
theorem dX5_option_13 : decode cX5_option 13 = .ok (.iconst 5, 1) := by decide +kernel
theorem dX5_option_14 : decode cX5_option 14 = .ok (.isub, 1) := by decide +kernel
theorem dX5_option_15 : decode cX5_option 15 = .ok (.aload_n 0, 1) := by decide +kernel
theorem dX5_option_16 : decode cX5_option 16 = .ok (.iconst 1, 1) := by decide +kernel
theorem dX5_option_17 : decode cX5_option 17 = .ok (.invokevirtual 252, 3) := by decide +kernel
theorem dX5_option_20 : decode cX5_option 20 = .ok (.iadd, 1) := by decide +kernel
theorem dX5_option_21 : decode cX5_option 21 = .ok (.iload_n 1, 1) := by decide +kernel
theorem dX5_option_22 : decode cX5_option 22 = .ok (.invokestatic 192, 3) := by decide +kernel
theorem dX5_option_25 : decode cX5_option 25 = .ok (.aload_n 0, 1) := by decide +kernel
theorem dX5_option_26 : decode cX5_option 26 = .ok (.dup, 1) := by decide +kernel
theorem dX5_option_27 : decode cX5_option 27 = .ok (.getfield 27, 3) := by decide +kernel
theorem dX5_option_30 : decode cX5_option 30 = .ok (.iconst 2, 1) := by decide +kernel
theorem dX5_option_31 : decode cX5_option 31 = .ok (.iadd, 1) := by decide +kernel
theorem dX5_option_32 : decode cX5_option 32 = .ok (.putfield 27, 3) := by decide +kernel
theorem dX5_option_35 : decode cX5_option 35 = .ok (.return_, 1) := by decide +kernel
theorem dX12_run_0 : decode cX12_run 0 = .ok (.iload_n 1, 1) := by decide +kernel
theorem dX12_run_1 : decode cX12_run 1 = .ok (.iconst 1, 1) := by decide +kernel
theorem dX12_run_2 : decode cX12_run 2 = .ok (.if_icmp .lt 10, 3) := by decide +kernel
theorem dX12_run_12 : decode cX12_run 12 = .ok (.new 123, 3) := by decide +kernel
theorem dX12_run_15 : decode cX12_run 15 = .ok (.dup, 1) := by decide +kernel
theorem dX12_run_16 : decode cX12_run 16 = .ok (.invokespecial 125, 3) := by decide +kernel
theorem dX12_run_19 : decode cX12_run 19 = .ok (.athrow, 1) := by decide +kernel
theorem dX12_run_5 : decode cX12_run 5 = .ok (.iload_n 1, 1) := by decide +kernel
theorem dX12_run_6 : decode cX12_run 6 = .ok (.sipush 12000, 3) := by decide +kernel
theorem dX12_run_9 : decode cX12_run 9 = .ok (.if_icmp .le 11, 3) := by decide +kernel
theorem dX12_run_20 : decode cX12_run 20 = .ok (.aload_n 0, 1) := by decide +kernel
theorem dX12_run_21 : decode cX12_run 21 = .ok (.getfield 35, 3) := by decide +kernel
theorem dX12_run_24 : decode cX12_run 24 = .ok (.iconst 1, 1) := by decide +kernel
theorem dX12_run_25 : decode cX12_run 25 = .ok (.if_icmp .eq 11, 3) := by decide +kernel
theorem dX12_run_36 : decode cX12_run 36 = .ok (.aload_n 0, 1) := by decide +kernel
theorem dX12_run_37 : decode cX12_run 37 = .ok (.getfield 97, 3) := by decide +kernel
theorem dX12_run_40 : decode cX12_run 40 = .ok (.getfield 207, 3) := by decide +kernel
theorem dX12_run_43 : decode cX12_run 43 = .ok (.getfield 211, 3) := by decide +kernel
theorem dX12_run_46 : decode cX12_run 46 = .ok (.istore_n 2, 1) := by decide +kernel
theorem dX12_run_47 : decode cX12_run 47 = .ok (.iload_n 2, 1) := by decide +kernel
theorem dX12_run_48 : decode cX12_run 48 = .ok (.aload_n 0, 1) := by decide +kernel
theorem dX12_run_49 : decode cX12_run 49 = .ok (.getfield 38, 3) := by decide +kernel
theorem dX12_run_52 : decode cX12_run 52 = .ok (.isub, 1) := by decide +kernel
theorem dX12_run_53 : decode cX12_run 53 = .ok (.iload_n 1, 1) := by decide +kernel
theorem dX12_run_54 : decode cX12_run 54 = .ok (.if_icmp .lt 15, 3) := by decide +kernel
theorem dX12_run_69 : decode cX12_run 69 = .ok (.aload_n 0, 1) := by decide +kernel
theorem dX12_run_70 : decode cX12_run 70 = .ok (.iload_n 2, 1) := by decide +kernel
theorem dX12_run_71 : decode cX12_run 71 = .ok (.putfield 38, 3) := by decide +kernel
theorem dX12_run_74 : decode cX12_run 74 = .ok (.aload_n 0, 1) := by decide +kernel
theorem dX12_run_75 : decode cX12_run 75 = .ok (.aload_n 0, 1) := by decide +kernel
theorem dX12_run_76 : decode cX12_run 76 = .ok (.getfield 97, 3) := by decide +kernel
theorem dX12_run_79 : decode cX12_run 79 = .ok (.getfield 216, 3) := by decide +kernel
theorem dX12_run_82 : decode cX12_run 82 = .ok (.ifCond .eq 7, 3) := by decide +kernel
theorem dX12_run_90 : decode cX12_run 90 = .ok (.putfield 35, 3) := by decide +kernel
theorem dX12_run_93 : decode cX12_run 93 = .ok (.aload_n 0, 1) := by decide +kernel
theorem dX12_run_94 : decode cX12_run 94 = .ok (.getfield 35, 3) := by decide +kernel
theorem dX12_run_97 : decode cX12_run 97 = .ok (.iconst 1, 1) := by decide +kernel
theorem dX12_run_98 : decode cX12_run 98 = .ok (.isub, 1) := by decide +kernel
theorem dX12_run_99 : decode cX12_run 99 = .ok (.ireturn, 1) := by decide +kernel
theorem dX12_run_89 : decode cX12_run 89 = .ok (.iconst 2, 1) := by decide +kernel
theorem dX12_run_85 : decode cX12_run 85 = .ok (.iconst 3, 1) := by decide +kernel
theorem dX12_run_86 : decode cX12_run 86 = .ok (.goto 4, 3) := by decide +kernel
theorem dX12_run_57 : decode cX12_run 57 = .ok (.aload_n 0, 1) := by decide +kernel
theorem dX12_run_58 : decode cX12_run 58 = .ok (.dup, 1) := by decide +kernel
theorem dX12_run_59 : decode cX12_run 59 = .ok (.getfield 38, 3) := by decide +kernel
theorem dX12_run_62 : decode cX12_run 62 = .ok (.iload_n 1, 1) := by decide +kernel
theorem dX12_run_63 : decode cX12_run 63 = .ok (.iadd, 1) := by decide +kernel
theorem dX12_run_64 : decode cX12_run 64 = .ok (.putfield 38, 3) := by decide +kernel
theorem dX12_run_67 : decode cX12_run 67 = .ok (.iconst 0, 1) := by decide +kernel
theorem dX12_run_68 : decode cX12_run 68 = .ok (.ireturn, 1) := by decide +kernel
theorem dX12_run_28 : decode cX12_run 28 = .ok (.new 154, 3) := by decide +kernel
theorem dX12_run_31 : decode cX12_run 31 = .ok (.dup, 1) := by decide +kernel
theorem dX12_run_32 : decode cX12_run 32 = .ok (.invokespecial 196, 3) := by decide +kernel
theorem dX12_run_35 : decode cX12_run 35 = .ok (.athrow, 1) := by decide +kernel
theorem dX12_stop_0 : decode cX12_stop 0 = .ok (.aload_n 0, 1) := by decide +kernel
theorem dX12_stop_1 : decode cX12_stop 1 = .ok (.getfield 35, 3) := by decide +kernel
theorem dX12_stop_4 : decode cX12_stop 4 = .ok (.iconst 1, 1) := by decide +kernel
theorem dX12_stop_5 : decode cX12_stop 5 = .ok (.if_icmp .eq 5, 3) := by decide +kernel
theorem dX12_stop_10 : decode cX12_stop 10 = .ok (.aload_n 0, 1) := by decide +kernel
theorem dX12_stop_11 : decode cX12_stop 11 = .ok (.iconst 4, 1) := by decide +kernel
theorem dX12_stop_12 : decode cX12_stop 12 = .ok (.putfield 35, 3) := by decide +kernel
theorem dX12_stop_15 : decode cX12_stop 15 = .ok (.iconst 1, 1) := by decide +kernel
theorem dX12_stop_16 : decode cX12_stop 16 = .ok (.ireturn, 1) := by decide +kernel
theorem dX12_stop_8 : decode cX12_stop 8 = .ok (.iconst 0, 1) := by decide +kernel
theorem dX12_stop_9 : decode cX12_stop 9 = .ok (.ireturn, 1) := by decide +kernel
theorem dX12_byteOf_0 : decode cX12_byteOf 0 = .ok (.aload_n 0, 1) := by decide +kernel
theorem dX12_byteOf_1 : decode cX12_byteOf 1 = .ok (.getfield 35, 3) := by decide +kernel
theorem dX12_byteOf_4 : decode cX12_byteOf 4 = .ok (.ifCond .eq 15, 3) := by decide +kernel
theorem dX12_byteOf_37 : decode cX12_byteOf 37 = .ok (.ireturn, 1) := by decide +kernel
theorem dX12_byteOf_19 : decode cX12_byteOf 19 = .ok (.iconst (-1), 1) := by decide +kernel
theorem dX12_byteOf_20 : decode cX12_byteOf 20 = .ok (.goto 17, 3) := by decide +kernel
theorem dX12_byteOf_7 : decode cX12_byteOf 7 = .ok (.iload_n 1, 1) := by decide +kernel
theorem dX12_byteOf_8 : decode cX12_byteOf 8 = .ok (.ifCond .lt 11, 3) := by decide +kernel
theorem dX12_byteOf_11 : decode cX12_byteOf 11 = .ok (.iload_n 1, 1) := by decide +kernel
theorem dX12_byteOf_12 : decode cX12_byteOf 12 = .ok (.aload_n 0, 1) := by decide +kernel
theorem dX12_byteOf_13 : decode cX12_byteOf 13 = .ok (.getfield 38, 3) := by decide +kernel
theorem dX12_byteOf_16 : decode cX12_byteOf 16 = .ok (.if_icmp .lt 7, 3) := by decide +kernel
theorem dX12_byteOf_23 : decode cX12_byteOf 23 = .ok (.aload_n 0, 1) := by decide +kernel
theorem dX12_byteOf_24 : decode cX12_byteOf 24 = .ok (.getfield 97, 3) := by decide +kernel
theorem dX12_byteOf_27 : decode cX12_byteOf 27 = .ok (.getfield 207, 3) := by decide +kernel
theorem dX12_byteOf_30 : decode cX12_byteOf 30 = .ok (.getfield 220, 3) := by decide +kernel
theorem dX12_byteOf_33 : decode cX12_byteOf 33 = .ok (.iload_n 1, 1) := by decide +kernel
theorem dX12_byteOf_34 : decode cX12_byteOf 34 = .ok (.invokestatic 109, 3) := by decide +kernel
theorem dX12_told_0 : decode cX12_told 0 = .ok (.aload_n 0, 1) := by decide +kernel
theorem dX12_told_1 : decode cX12_told 1 = .ok (.getfield 35, 3) := by decide +kernel
theorem dX12_told_4 : decode cX12_told 4 = .ok (.ifCond .ne 5, 3) := by decide +kernel
theorem dX12_told_9 : decode cX12_told 9 = .ok (.aload_n 0, 1) := by decide +kernel
theorem dX12_told_10 : decode cX12_told 10 = .ok (.getfield 35, 3) := by decide +kernel
theorem dX12_told_13 : decode cX12_told 13 = .ok (.iconst 2, 1) := by decide +kernel
theorem dX12_told_14 : decode cX12_told 14 = .ok (.if_icmp .eq 11, 3) := by decide +kernel
theorem dX12_told_25 : decode cX12_told 25 = .ok (.aload_n 0, 1) := by decide +kernel
theorem dX12_told_26 : decode cX12_told 26 = .ok (.getfield 97, 3) := by decide +kernel
theorem dX12_told_29 : decode cX12_told 29 = .ok (.getfield 226, 3) := by decide +kernel
theorem dX12_told_32 : decode cX12_told 32 = .ok (.getfield 248, 3) := by decide +kernel
theorem dX12_told_35 : decode cX12_told 35 = .ok (.iload_n 1, 1) := by decide +kernel
theorem dX12_told_36 : decode cX12_told 36 = .ok (.invokestatic 235, 3) := by decide +kernel
theorem dX12_told_39 : decode cX12_told 39 = .ok (.ireturn, 1) := by decide +kernel
theorem dX12_told_17 : decode cX12_told 17 = .ok (.aload_n 0, 1) := by decide +kernel
theorem dX12_told_18 : decode cX12_told 18 = .ok (.getfield 35, 3) := by decide +kernel
theorem dX12_told_21 : decode cX12_told 21 = .ok (.iconst 3, 1) := by decide +kernel
theorem dX12_told_22 : decode cX12_told 22 = .ok (.if_icmp .ne 18, 3) := by decide +kernel
theorem dX12_told_40 : decode cX12_told 40 = .ok (.aload_n 0, 1) := by decide +kernel
theorem dX12_told_41 : decode cX12_told 41 = .ok (.getfield 38, 3) := by decide +kernel
theorem dX12_told_44 : decode cX12_told 44 = .ok (.ifCond .ne 20, 3) := by decide +kernel
theorem dX12_told_64 : decode cX12_told 64 = .ok (.aload_n 0, 1) := by decide +kernel
theorem dX12_told_65 : decode cX12_told 65 = .ok (.getfield 97, 3) := by decide +kernel
theorem dX12_told_68 : decode cX12_told 68 = .ok (.getfield 207, 3) := by decide +kernel
theorem dX12_told_71 : decode cX12_told 71 = .ok (.getfield 254, 3) := by decide +kernel
theorem dX12_told_74 : decode cX12_told 74 = .ok (.iconst 3, 1) := by decide +kernel
theorem dX12_told_75 : decode cX12_told 75 = .ok (.aload_n 0, 1) := by decide +kernel
theorem dX12_told_76 : decode cX12_told 76 = .ok (.getfield 38, 3) := by decide +kernel
theorem dX12_told_79 : decode cX12_told 79 = .ok (.iconst 1, 1) := by decide +kernel
theorem dX12_told_80 : decode cX12_told 80 = .ok (.isub, 1) := by decide +kernel
theorem dX12_told_81 : decode cX12_told 81 = .ok (.imul, 1) := by decide +kernel
theorem dX12_told_82 : decode cX12_told 82 = .ok (.iload_n 1, 1) := by decide +kernel
theorem dX12_told_83 : decode cX12_told 83 = .ok (.iadd, 1) := by decide +kernel
theorem dX12_told_84 : decode cX12_told 84 = .ok (.invokestatic 235, 3) := by decide +kernel
theorem dX12_told_87 : decode cX12_told 87 = .ok (.ireturn, 1) := by decide +kernel
theorem dX12_told_47 : decode cX12_told 47 = .ok (.iload_n 1, 1) := by decide +kernel
theorem dX12_told_48 : decode cX12_told 48 = .ok (.iconst 2, 1) := by decide +kernel
theorem dX12_told_49 : decode cX12_told 49 = .ok (.if_icmp .ne 13, 3) := by decide +kernel
theorem dX12_told_63 : decode cX12_told 63 = .ok (.ireturn, 1) := by decide +kernel
theorem dX12_told_62 : decode cX12_told 62 = .ok (.iconst 0, 1) := by decide +kernel
theorem dX12_told_52 : decode cX12_told 52 = .ok (.aload_n 0, 1) := by decide +kernel
theorem dX12_told_53 : decode cX12_told 53 = .ok (.getfield 97, 3) := by decide +kernel
theorem dX12_told_56 : decode cX12_told 56 = .ok (.getfield 251, 3) := by decide +kernel
theorem dX12_told_59 : decode cX12_told 59 = .ok (.goto 4, 3) := by decide +kernel
theorem dX12_told_7 : decode cX12_told 7 = .ok (.iconst 0, 1) := by decide +kernel
theorem dX12_told_8 : decode cX12_told 8 = .ok (.ireturn, 1) := by decide +kernel
theorem dX12_error_0 : decode cX12_error 0 = .ok (.iload_n 1, 1) := by decide +kernel
theorem dX12_error_1 : decode cX12_error 1 = .ok (.ifCond .lt 28, 3) := by decide +kernel
theorem dX12_error_29 : decode cX12_error 29 = .ok (.iconst (-1), 1) := by decide +kernel
theorem dX12_error_30 : decode cX12_error 30 = .ok (.ireturn, 1) := by decide +kernel
theorem dX12_error_4 : decode cX12_error 4 = .ok (.iload_n 1, 1) := by decide +kernel
theorem dX12_error_5 : decode cX12_error 5 = .ok (.sipush 400, 3) := by decide +kernel
theorem dX12_error_8 : decode cX12_error 8 = .ok (.if_icmp .ge 21, 3) := by decide +kernel
theorem dX12_error_11 : decode cX12_error 11 = .ok (.iload_n 2, 1) := by decide +kernel
theorem dX12_error_12 : decode cX12_error 12 = .ok (.ifCond .lt 17, 3) := by decide +kernel
theorem dX12_error_15 : decode cX12_error 15 = .ok (.iload_n 2, 1) := by decide +kernel
theorem dX12_error_16 : decode cX12_error 16 = .ok (.iconst 2, 1) := by decide +kernel
theorem dX12_error_17 : decode cX12_error 17 = .ok (.if_icmp .gt 12, 3) := by decide +kernel
theorem dX12_error_20 : decode cX12_error 20 = .ok (.iload_n 1, 1) := by decide +kernel
theorem dX12_error_21 : decode cX12_error 21 = .ok (.aload_n 0, 1) := by decide +kernel
theorem dX12_error_22 : decode cX12_error 22 = .ok (.iconst 0, 1) := by decide +kernel
theorem dX12_error_23 : decode cX12_error 23 = .ok (.invokevirtual 223, 3) := by decide +kernel
theorem dX12_error_26 : decode cX12_error 26 = .ok (.if_icmp .lt 5, 3) := by decide +kernel
theorem dX12_error_31 : decode cX12_error 31 = .ok (.aload_n 0, 1) := by decide +kernel
theorem dX12_error_32 : decode cX12_error 32 = .ok (.getfield 97, 3) := by decide +kernel
theorem dX12_error_35 : decode cX12_error 35 = .ok (.getfield 226, 3) := by decide +kernel
theorem dX12_error_38 : decode cX12_error 38 = .ok (.getfield 230, 3) := by decide +kernel
theorem dX12_error_41 : decode cX12_error 41 = .ok (.iconst 3, 1) := by decide +kernel
theorem dX12_error_42 : decode cX12_error 42 = .ok (.iload_n 1, 1) := by decide +kernel
theorem dX12_error_43 : decode cX12_error 43 = .ok (.imul, 1) := by decide +kernel
theorem dX12_error_44 : decode cX12_error 44 = .ok (.iload_n 2, 1) := by decide +kernel
theorem dX12_error_45 : decode cX12_error 45 = .ok (.iadd, 1) := by decide +kernel
theorem dX12_error_46 : decode cX12_error 46 = .ok (.invokestatic 235, 3) := by decide +kernel
theorem dX12_error_49 : decode cX12_error 49 = .ok (.ireturn, 1) := by decide +kernel
theorem dX12_looked_0 : decode cX12_looked 0 = .ok (.iload_n 1, 1) := by decide +kernel
theorem dX12_looked_1 : decode cX12_looked 1 = .ok (.ifCond .lt 28, 3) := by decide +kernel
theorem dX12_looked_29 : decode cX12_looked 29 = .ok (.bipush (-2), 2) := by decide +kernel
theorem dX12_looked_31 : decode cX12_looked 31 = .ok (.ireturn, 1) := by decide +kernel
theorem dX12_looked_4 : decode cX12_looked 4 = .ok (.iload_n 1, 1) := by decide +kernel
theorem dX12_looked_5 : decode cX12_looked 5 = .ok (.sipush 1000, 3) := by decide +kernel
theorem dX12_looked_8 : decode cX12_looked 8 = .ok (.if_icmp .ge 21, 3) := by decide +kernel
theorem dX12_looked_11 : decode cX12_looked 11 = .ok (.iload_n 2, 1) := by decide +kernel
theorem dX12_looked_12 : decode cX12_looked 12 = .ok (.ifCond .lt 17, 3) := by decide +kernel
theorem dX12_looked_15 : decode cX12_looked 15 = .ok (.iload_n 2, 1) := by decide +kernel
theorem dX12_looked_16 : decode cX12_looked 16 = .ok (.iconst 1, 1) := by decide +kernel
theorem dX12_looked_17 : decode cX12_looked 17 = .ok (.if_icmp .gt 12, 3) := by decide +kernel
theorem dX12_looked_20 : decode cX12_looked 20 = .ok (.iload_n 1, 1) := by decide +kernel
theorem dX12_looked_21 : decode cX12_looked 21 = .ok (.aload_n 0, 1) := by decide +kernel
theorem dX12_looked_22 : decode cX12_looked 22 = .ok (.iconst 1, 1) := by decide +kernel
theorem dX12_looked_23 : decode cX12_looked 23 = .ok (.invokevirtual 223, 3) := by decide +kernel
theorem dX12_looked_26 : decode cX12_looked 26 = .ok (.if_icmp .lt 6, 3) := by decide +kernel
theorem dX12_looked_32 : decode cX12_looked 32 = .ok (.aload_n 0, 1) := by decide +kernel
theorem dX12_looked_33 : decode cX12_looked 33 = .ok (.getfield 97, 3) := by decide +kernel
theorem dX12_looked_36 : decode cX12_looked 36 = .ok (.getfield 226, 3) := by decide +kernel
theorem dX12_looked_39 : decode cX12_looked 39 = .ok (.getfield 239, 3) := by decide +kernel
theorem dX12_looked_42 : decode cX12_looked 42 = .ok (.iconst 2, 1) := by decide +kernel
theorem dX12_looked_43 : decode cX12_looked 43 = .ok (.iload_n 1, 1) := by decide +kernel
theorem dX12_looked_44 : decode cX12_looked 44 = .ok (.imul, 1) := by decide +kernel
theorem dX12_looked_45 : decode cX12_looked 45 = .ok (.iload_n 2, 1) := by decide +kernel
theorem dX12_looked_46 : decode cX12_looked 46 = .ok (.iadd, 1) := by decide +kernel
theorem dX12_looked_47 : decode cX12_looked 47 = .ok (.invokestatic 235, 3) := by decide +kernel
theorem dX12_looked_50 : decode cX12_looked 50 = .ok (.ireturn, 1) := by decide +kernel
theorem dX12_look_0 : decode cX12_look 0 = .ok (.iload_n 1, 1) := by decide +kernel
theorem dX12_look_1 : decode cX12_look 1 = .ok (.tableswitch 108 0 8 #[51, 56, 64, 72, 77, 83, 89, 95, 100], 51) := by decide +kernel
theorem dX12_look_52 : decode cX12_look 52 = .ok (.aload_n 0, 1) := by decide +kernel
theorem dX12_look_53 : decode cX12_look 53 = .ok (.getfield 20, 3) := by decide +kernel
theorem dX12_look_56 : decode cX12_look 56 = .ok (.ireturn, 1) := by decide +kernel
theorem dX12_look_57 : decode cX12_look 57 = .ok (.aload_n 0, 1) := by decide +kernel
theorem dX12_look_58 : decode cX12_look 58 = .ok (.getfield 59, 3) := by decide +kernel
theorem dX12_look_61 : decode cX12_look 61 = .ok (.getfield 242, 3) := by decide +kernel
theorem dX12_look_64 : decode cX12_look 64 = .ok (.ireturn, 1) := by decide +kernel
theorem dX12_look_65 : decode cX12_look 65 = .ok (.aload_n 0, 1) := by decide +kernel
theorem dX12_look_66 : decode cX12_look 66 = .ok (.getfield 59, 3) := by decide +kernel
theorem dX12_look_69 : decode cX12_look 69 = .ok (.getfield 193, 3) := by decide +kernel
theorem dX12_look_72 : decode cX12_look 72 = .ok (.ireturn, 1) := by decide +kernel
theorem dX12_look_73 : decode cX12_look 73 = .ok (.aload_n 0, 1) := by decide +kernel
theorem dX12_look_74 : decode cX12_look 74 = .ok (.getfield 38, 3) := by decide +kernel
theorem dX12_look_77 : decode cX12_look 77 = .ok (.ireturn, 1) := by decide +kernel
theorem dX12_look_78 : decode cX12_look 78 = .ok (.aload_n 0, 1) := by decide +kernel
theorem dX12_look_79 : decode cX12_look 79 = .ok (.iconst 0, 1) := by decide +kernel
theorem dX12_look_80 : decode cX12_look 80 = .ok (.invokevirtual 223, 3) := by decide +kernel
theorem dX12_look_83 : decode cX12_look 83 = .ok (.ireturn, 1) := by decide +kernel
theorem dX12_look_84 : decode cX12_look 84 = .ok (.aload_n 0, 1) := by decide +kernel
theorem dX12_look_85 : decode cX12_look 85 = .ok (.iconst 1, 1) := by decide +kernel
theorem dX12_look_86 : decode cX12_look 86 = .ok (.invokevirtual 223, 3) := by decide +kernel
theorem dX12_look_89 : decode cX12_look 89 = .ok (.ireturn, 1) := by decide +kernel
theorem dX12_look_90 : decode cX12_look 90 = .ok (.aload_n 0, 1) := by decide +kernel
theorem dX12_look_91 : decode cX12_look 91 = .ok (.iconst 2, 1) := by decide +kernel
theorem dX12_look_92 : decode cX12_look 92 = .ok (.invokevirtual 223, 3) := by decide +kernel
theorem dX12_look_95 : decode cX12_look 95 = .ok (.ireturn, 1) := by decide +kernel
theorem dX12_look_96 : decode cX12_look 96 = .ok (.aload_n 0, 1) := by decide +kernel
theorem dX12_look_97 : decode cX12_look 97 = .ok (.getfield 35, 3) := by decide +kernel
theorem dX12_look_100 : decode cX12_look 100 = .ok (.ireturn, 1) := by decide +kernel
theorem dX12_look_101 : decode cX12_look 101 = .ok (.aload_n 0, 1) := by decide +kernel
theorem dX12_look_102 : decode cX12_look 102 = .ok (.getfield 59, 3) := by decide +kernel
theorem dX12_look_105 : decode cX12_look 105 = .ok (.getfield 245, 3) := by decide +kernel
theorem dX12_look_108 : decode cX12_look 108 = .ok (.ireturn, 1) := by decide +kernel
theorem dX12_look_109 : decode cX12_look 109 = .ok (.iconst (-1), 1) := by decide +kernel
theorem dX12_look_110 : decode cX12_look 110 = .ok (.ireturn, 1) := by decide +kernel
theorem atg_X12_125 : ∀ w ∈ (vx_at0 "TemplateHouse" 125 "java/lang/IllegalArgumentException" exn).filter goodWord, w ∈ zT := fun w hw => List.mem_filter.mpr ⟨(show ∀ w ∈ (vx_at0 "TemplateHouse" 125 "java/lang/IllegalArgumentException" exn).filter goodWord, w ∈ lw_tbl by decide +kernel) w hw, (List.mem_filter.mp hw).2⟩
theorem atb_X12_125 : ∀ w ∈ (vx_at0 "TemplateHouse" 125 "java/lang/IllegalArgumentException" exn).filter (fun w => !goodWord w), w ∈ zNest := by decide +kernel
theorem ato_X12_125 : ∀ w ∈ vx_at0 "TemplateHouse" 125 "java/lang/IllegalArgumentException" exn, vx_ot w = true := by decide +kernel
theorem atg_X12_196 : ∀ w ∈ (vx_at0 "TemplateHouse" 196 "java/lang/IllegalStateException" exn).filter goodWord, w ∈ zT := fun w hw => List.mem_filter.mpr ⟨(show ∀ w ∈ (vx_at0 "TemplateHouse" 196 "java/lang/IllegalStateException" exn).filter goodWord, w ∈ lw_tbl by decide +kernel) w hw, (List.mem_filter.mp hw).2⟩
theorem atb_X12_196 : ∀ w ∈ (vx_at0 "TemplateHouse" 196 "java/lang/IllegalStateException" exn).filter (fun w => !goodWord w), w ∈ zNest := by decide +kernel
theorem ato_X12_196 : ∀ w ∈ vx_at0 "TemplateHouse" 196 "java/lang/IllegalStateException" exn, vx_ot w = true := by decide +kernel
set_option maxRecDepth 20000 in
theorem kX5_isBlank (l : Launch) (G : zG) (T : tT) (κ : Nat → List Nat) (hst : l.stackTraces = false) (hE : tE G T κ) {x0 : Int32} : tMi l G T yX5_isBlank cX5_isBlank 1 .boolean [] 0 0 0 0 [.int x0] uT (uPz 0x0) := by
  refine tMi.intro hst rfl (Nat.le_of_ble_eq_true rfl) ?_
  intro w0 hw0 _ X hC hR hO hX
  refine z_iload_n hC (pc := 0) 0 dX5_isBlank_0 rfl rfl ?_
  refine z_bipush hC (pc := 1) (v := 32) dX5_isBlank_1 (by decide) ?_
  have j23 : ∀ (x3 : Int32), tZ (.int x3) → zS X G 1 w0 [] 0 0 23 [.int x3] := by
    intro x3 zx3
    exact hR _ _ _ _ _ _ dX5_isBlank_23 (t_nZ zx3) (Nat.le_of_ble_eq_true rfl) (Nat.le_of_ble_eq_true rfl) ⟨hw0, rfl, rfl, tKeep.rf, zx3⟩
  have j18 : zS X G 1 w0 [] 0 0 18 [] := by
    refine z_iconst hC (pc := 18) (v := 1) dX5_isBlank_18 (by decide) ?_
    refine z_goto hC (pc := 19) 23 dX5_isBlank_19 (by decide) ?_
    exact j23 1 (Or.inr rfl)
  refine z_icmp_eq hC (pc := 3) 18 dX5_isBlank_3 (by decide) (fun c4 => ?_) (fun c4 => ?_)
  · refine z_lvs [] rfl ?_
    exact j18
  · refine z_iload_n hC (pc := 6) 0 dX5_isBlank_6 rfl rfl ?_
    refine z_bipush hC (pc := 7) (v := 9) dX5_isBlank_7 (by decide) ?_
    refine z_icmp_eq hC (pc := 9) 18 dX5_isBlank_9 (by decide) (fun c5 => ?_) (fun c5 => ?_)
    · refine z_lvs [] rfl ?_
      exact j18
    · refine z_iload_n hC (pc := 12) 0 dX5_isBlank_12 rfl rfl ?_
      refine z_bipush hC (pc := 13) (v := 10) dX5_isBlank_13 (by decide) ?_
      refine z_icmp_ne hC (pc := 15) 22 dX5_isBlank_15 (by decide) (fun c6 => ?_) (fun c6 => ?_)
      · refine z_iconst hC (pc := 22) (v := 0) dX5_isBlank_22 (by decide) ?_
        refine z_lvs [] rfl ?_
        exact j23 0 (Or.inl rfl)
      · refine z_lvs [] rfl ?_
        exact j18
set_option maxRecDepth 20000 in
theorem kX5_trimmed (l : Launch) (G : zG) (T : tT) (κ : Nat → List Nat) (hst : l.stackTraces = false) (hE : tE G T κ) {a0 : Nat} (h0 : a0 ∈ κ 5) {x1 : Int32} : tMi l G T yX5_trimmed cX5_trimmed 4 .int [] 1 21 0 0 [.ref a0, .int x1] uT (uPi 0x0) := by
  refine tMi.intro hst rfl (Nat.le_of_ble_eq_true rfl) ?_
  intro w0 hw0 _ X hC hR hO hX
  refine z_iload_n hC (pc := 0) 1 dX5_trimmed_0 rfl rfl ?_
  refine z_ldc_w hC (pc := 1) (v := 134217727) dX5_trimmed_1 zw1991 ?_
  refine z_iand hC (pc := 4) (v := (x1 &&& 134217727)) dX5_trimmed_4 rfl ?_
  refine z_bipush hC (pc := 5) (v := 10) dX5_trimmed_5 (by decide) ?_
  refine z_iushr hC (pc := 7) (v := (((x1 &&& 134217727) : Int32).toUInt32 >>> ((10 : Int32).toUInt32 &&& Int32.toUInt32 31)).toInt32) dX5_trimmed_7 rfl ?_
  refine z_istore_n hC (pc := 8) (lv' := [(2, .int ((((x1 &&& 134217727) : Int32).toUInt32 >>> ((10 : Int32).toUInt32 &&& Int32.toUInt32 31)).toInt32)), (0, .ref a0), (1, .int x1)]) dX5_trimmed_8 rfl (by decide) rfl ?_
  refine z_iload_n hC (pc := 9) 2 dX5_trimmed_9 rfl rfl ?_
  refine z_sipush hC (pc := 10) (v := 1023) dX5_trimmed_10 (by decide) ?_
  refine z_iand hC (pc := 13) (v := (x1 &&& 1023)) dX5_trimmed_13 rfl ?_
  refine z_istore_n hC (pc := 14) (lv' := [(3, .int (x1 &&& 1023)), (2, .int ((((x1 &&& 134217727) : Int32).toUInt32 >>> ((10 : Int32).toUInt32 &&& Int32.toUInt32 31)).toInt32)), (0, .ref a0), (1, .int x1)]) dX5_trimmed_14 rfl (by decide) rfl ?_
  have j15 : ∀ (d15 : Nat), ∀ (w4 : va_W), tW T w4 → tKeep 0x0 w0 w4 → ∀ (x5 : Int32), (((x5 : Int32).toInt + 1).toNat + 1) ≤ d15 → zS X G 4 w4 [(0, .ref a0), (2, .int ((((x1 &&& 134217727) : Int32).toUInt32 >>> ((10 : Int32).toUInt32 &&& Int32.toUInt32 31)).toInt32)), (3, .int x5)] 0 0 15 [] := by
    intro d15
    induction d15 with
    | zero => intro w4 hw4 kw4 x5 hd15; exact absurd hd15 (Nat.not_succ_le_zero _)
    | succ d15 ih15 =>
      intro w4 hw4 kw4 x5 hd15
      refine z_iload_n hC (pc := 15) 2 dX5_trimmed_15 rfl rfl ?_
      have j46 : ∀ (d46 : Nat), ∀ (w6 : va_W), tW T w6 → tKeep 0x0 w4 w6 → ∀ (x7 : Int32), ∀ (x8 : Int32), (((x8 : Int32).toInt + 1).toNat + 1) ≤ d46 → zS X G 4 w6 [(0, .ref a0), (2, .int x7), (3, .int x8)] 0 0 46 [] := by
        intro d46
        induction d46 with
        | zero => intro w6 hw6 kw6 x7 x8 hd46; exact absurd hd46 (Nat.not_succ_le_zero _)
        | succ d46 ih46 =>
          intro w6 hw6 kw6 x7 x8 hd46
          refine z_iload_n hC (pc := 46) 2 dX5_trimmed_46 rfl rfl ?_
          have j76 : ∀ (w9 : va_W), tW T w9 → tKeep 0x0 w6 w9 → zS X G 4 w9 [(2, .int x7), (3, .int x8)] 0 0 76 [] := by
            intro w9 hw9 kw9
            refine z_ldc_w hC (pc := 76) (v := 536870912) dX5_trimmed_76 zw2225 ?_
            refine z_iload_n hC (pc := 79) 0 dX5_trimmed_79 rfl rfl ?_
            refine z_bipush hC (pc := 80) (v := 10) dX5_trimmed_80 (by decide) ?_
            refine z_ishl hC (pc := 82) (v := (x7 <<< (10 &&& 31))) dX5_trimmed_82 rfl ?_
            refine z_ior hC (pc := 83) (v := ((536870912 : Int32) ||| (x7 <<< (10 &&& 31)))) dX5_trimmed_83 rfl ?_
            refine z_iload_n hC (pc := 84) 1 dX5_trimmed_84 rfl rfl ?_
            refine z_ior hC (pc := 85) (v := (((536870912 : Int32) ||| (x7 <<< (10 &&& 31))) ||| x8)) dX5_trimmed_85 rfl ?_
            exact hR _ _ _ _ _ _ dX5_trimmed_86 rfl (Nat.le_of_ble_eq_true rfl) (Nat.le_of_ble_eq_true rfl) ⟨hw9, rfl, rfl, (tKeep.tr (tKeep.tr (tKeep.tr tKeep.rf kw4 rfl) kw6 rfl) kw9 rfl)⟩
          refine z_if_le hC (pc := 47) 76 dX5_trimmed_47 (by decide) (fun c10 => ?_) (fun c10 => ?_)
          · refine z_lvs [1, 2] rfl ?_
            exact j76 w6 hw6 tKeep.rf
          · refine z_aload_n hC (pc := 50) 0 dX5_trimmed_50 rfl rfl ?_
            refine u_get hC hw6 (pc := 51) zf5 2 (hE.o5 h0) rfl dX5_trimmed_51 zw644 (kk := fun va11 ta11 fa11 => ?_)
            obtain ⟨a11, ma11, rfl⟩ := ta11
            refine u_get hC hw6 (pc := 54) zf3 11 (hE.o3 ma11) rfl dX5_trimmed_54 zw518 (kk := fun va12 ta12 fa12 => ?_)
            obtain ⟨a12, ma12, rfl⟩ := ta12
            refine z_iload_n hC (pc := 57) 1 dX5_trimmed_57 rfl rfl ?_
            refine t_callSNi hC hw6 (pc := 58) (As := [.ref a12, .int x7]) (kX12_getByte l G T κ hst hE (Or.inl ma12)) trivial dmX12_getByte dX5_trimmed_58 zw1992 rfl rfl (Nat.le_of_ble_eq_true rfl) (Nat.le_of_ble_eq_true rfl) (Nat.le_of_ble_eq_true rfl) (Nat.le_of_ble_eq_true rfl) (Nat.le_of_ble_eq_true rfl) (fun _ _ _ h => nomatch h) (fun x14 cw13 nw13 w13 hw13 pw13 => ?_)
            obtain ⟨rfl, rfl, kw13⟩ := pw13
            refine t_callSi hC hw13 (pc := 61) (As := [.int x14]) (kX5_isBlank l G T κ hst hE) trivial dmX5_isBlank dX5_trimmed_61 zw2222 rfl rfl (Nat.le_of_ble_eq_true rfl) (Nat.le_of_ble_eq_true rfl) (Nat.le_of_ble_eq_true rfl) (Nat.le_of_ble_eq_true rfl) (Nat.le_of_ble_eq_true rfl) (fun _ _ _ h => nomatch h) (fun x16 cw15 nw15 w15 hw15 pw15 => ?_)
            obtain ⟨rfl, rfl, kw15, zx16⟩ := pw15
            refine z_if_eq hC (pc := 64) 76 dX5_trimmed_64 (by decide) (fun c17 => ?_) (fun c17 => ?_)
            · refine z_lvs [1, 2] rfl ?_
              exact j76 w15 hw15 (tKeep.tr (tKeep.tr tKeep.rf kw13 rfl) kw15 rfl)
            · refine z_iinc hC (pc := 67) (v := (x7 + 1)) (lv' := [(2, .int (x7 + 1)), (0, .ref a0), (3, .int x8)]) 1 dX5_trimmed_67 rfl (congrArg _ (by decide)) (by decide) rfl ?_
              refine z_iinc hC (pc := 70) (v := (x8 + -1)) (lv' := [(3, .int (x8 + -1)), (2, .int (x7 + 1)), (0, .ref a0)]) 2 dX5_trimmed_70 rfl (congrArg _ (by decide)) (by decide) rfl ?_
              refine z_goto hC (pc := 73) 46 dX5_trimmed_73 (by decide) ?_
              refine z_lvs [2, 1, 0] rfl ?_
              exact ih46 w15 hw15 (tKeep.tr (tKeep.tr (tKeep.tr tKeep.rf kw6 rfl) kw13 rfl) kw15 rfl) (x7 + 1) (x8 + -1) (t_down (Int32.le_of_lt (Int32.not_le.mp c10)) hd46)
      refine z_if_le hC (pc := 16) 46 dX5_trimmed_16 (by decide) (fun c18 => ?_) (fun c18 => ?_)
      · exact j46 _ w4 hw4 tKeep.rf ((((x1 &&& 134217727) : Int32).toUInt32 >>> ((10 : Int32).toUInt32 &&& Int32.toUInt32 31)).toInt32) x5 (Nat.le_refl _)
      · refine z_aload_n hC (pc := 19) 0 dX5_trimmed_19 rfl rfl ?_
        refine u_get hC hw4 (pc := 20) zf5 2 (hE.o5 h0) rfl dX5_trimmed_20 zw644 (kk := fun va19 ta19 fa19 => ?_)
        obtain ⟨a19, ma19, rfl⟩ := ta19
        refine u_get hC hw4 (pc := 23) zf3 11 (hE.o3 ma19) rfl dX5_trimmed_23 zw518 (kk := fun va20 ta20 fa20 => ?_)
        obtain ⟨a20, ma20, rfl⟩ := ta20
        refine z_iload_n hC (pc := 26) 1 dX5_trimmed_26 rfl rfl ?_
        refine z_iload_n hC (pc := 27) 2 dX5_trimmed_27 rfl rfl ?_
        refine z_iadd hC (pc := 28) (v := ((((x1 &&& 134217727) : Int32).toUInt32 >>> ((10 : Int32).toUInt32 &&& Int32.toUInt32 31)).toInt32 + x5)) dX5_trimmed_28 rfl ?_
        refine z_iconst hC (pc := 29) (v := 1) dX5_trimmed_29 (by decide) ?_
        refine z_isub hC (pc := 30) (v := (((((x1 &&& 134217727) : Int32).toUInt32 >>> ((10 : Int32).toUInt32 &&& Int32.toUInt32 31)).toInt32 + x5) - 1)) dX5_trimmed_30 rfl ?_
        refine t_callSNi hC hw4 (pc := 31) (As := [.ref a20, .int (((((x1 &&& 134217727) : Int32).toUInt32 >>> ((10 : Int32).toUInt32 &&& Int32.toUInt32 31)).toInt32 + x5) - 1)]) (kX12_getByte l G T κ hst hE (Or.inl ma20)) trivial dmX12_getByte dX5_trimmed_31 zw1992 rfl rfl (Nat.le_of_ble_eq_true rfl) (Nat.le_of_ble_eq_true rfl) (Nat.le_of_ble_eq_true rfl) (Nat.le_of_ble_eq_true rfl) (Nat.le_of_ble_eq_true rfl) (fun _ _ _ h => nomatch h) (fun x22 cw21 nw21 w21 hw21 pw21 => ?_)
        obtain ⟨rfl, rfl, kw21⟩ := pw21
        refine t_callSi hC hw21 (pc := 34) (As := [.int x22]) (kX5_isBlank l G T κ hst hE) trivial dmX5_isBlank dX5_trimmed_34 zw2222 rfl rfl (Nat.le_of_ble_eq_true rfl) (Nat.le_of_ble_eq_true rfl) (Nat.le_of_ble_eq_true rfl) (Nat.le_of_ble_eq_true rfl) (Nat.le_of_ble_eq_true rfl) (fun _ _ _ h => nomatch h) (fun x24 cw23 nw23 w23 hw23 pw23 => ?_)
        obtain ⟨rfl, rfl, kw23, zx24⟩ := pw23
        refine z_if_eq hC (pc := 37) 46 dX5_trimmed_37 (by decide) (fun c25 => ?_) (fun c25 => ?_)
        · exact j46 _ w23 hw23 (tKeep.tr (tKeep.tr tKeep.rf kw21 rfl) kw23 rfl) ((((x1 &&& 134217727) : Int32).toUInt32 >>> ((10 : Int32).toUInt32 &&& Int32.toUInt32 31)).toInt32) x5 (Nat.le_refl _)
        · refine z_iinc hC (pc := 40) (v := (x5 + -1)) (lv' := [(3, .int (x5 + -1)), (0, .ref a0), (2, .int ((((x1 &&& 134217727) : Int32).toUInt32 >>> ((10 : Int32).toUInt32 &&& Int32.toUInt32 31)).toInt32))]) 2 dX5_trimmed_40 rfl (congrArg _ (by decide)) (by decide) rfl ?_
          refine z_goto hC (pc := 43) 15 dX5_trimmed_43 (by decide) ?_
          refine z_lvs [1, 2, 0] rfl ?_
          exact ih15 w23 hw23 (tKeep.tr (tKeep.tr (tKeep.tr tKeep.rf kw4 rfl) kw21 rfl) kw23 rfl) (x5 + -1) (t_down (Int32.le_of_lt (Int32.not_le.mp c18)) hd15)
  refine z_lvs [2, 1, 0] rfl ?_
  exact j15 _ w0 hw0 tKeep.rf (x1 &&& 1023) (Nat.le_refl _)
set_option maxRecDepth 20000 in
theorem kX5_shortcut (l : Launch) (G : zG) (T : tT) (κ : Nat → List Nat) (hst : l.stackTraces = false) (hE : tE G T κ) {a0 : Nat} (h0 : a0 ∈ κ 5) {x1 : Int32} : tMv l G T yX5_shortcut cX5_shortcut 2 [] 2 42 0 0 [.ref a0, .int x1] uT (uPv 0x12000000000000000000000000000000000000000000000000000000000000000000000000000000000) := by
  refine tMv.intro hst rfl (Nat.le_of_ble_eq_true rfl) ?_
  intro w0 hw0 _ X hC hR hO hX
  refine z_aload_n hC (pc := 0) 0 dX5_shortcut_0 rfl rfl ?_
  refine u_get hC hw0 (pc := 1) zf5 4 (hE.o5 h0) rfl dX5_shortcut_1 zw646 (kk := fun va4 ta4 fa4 => ?_)
  obtain ⟨a4, ma4, rfl⟩ := ta4
  refine z_aload_n hC (pc := 4) 0 dX5_shortcut_4 rfl rfl ?_
  refine u_get hC hw0 (pc := 5) zf5 5 (hE.o5 h0) rfl dX5_shortcut_5 zw647 (kk := fun vx5 tx5 fx5 => ?_)
  obtain ⟨x5, rfl⟩ := tx5
  refine z_iconst hC (pc := 8) (v := 1) dX5_shortcut_8 (by decide) ?_
  refine z_isub hC (pc := 9) (v := (x5 - 1)) dX5_shortcut_9 rfl ?_
  refine t_callSNi hC hw0 (pc := 10) (As := [.ref a4, .int (x5 - 1)]) (kX12_get l G T κ hst hE ma4) trivial dmX12_get dX5_shortcut_10 zw1835 rfl rfl (Nat.le_of_ble_eq_true rfl) (Nat.le_of_ble_eq_true rfl) (Nat.le_of_ble_eq_true rfl) (Nat.le_of_ble_eq_true rfl) (Nat.le_of_ble_eq_true rfl) (fun _ _ _ h => nomatch h) (fun x7 cw6 nw6 w6 hw6 pw6 => ?_)
  obtain ⟨rfl, rfl, kw6⟩ := pw6
  refine z_iload_n hC (pc := 13) 1 dX5_shortcut_13 rfl rfl ?_
  have j44 : ∀ (w8 : va_W), tW T w8 → tKeep 0x12000000000000000000000000000000000000000000000000000000000000000000000000000000000 w6 w8 → zS X G 2 w8 [] 0 0 44 [] := by
    intro w8 hw8 kw8
    exact hR _ _ _ _ _ dX5_shortcut_44 (Nat.le_of_ble_eq_true rfl) (Nat.le_of_ble_eq_true rfl) ⟨hw8, rfl, rfl, (tKeep.tr (tKeep.tr tKeep.rf kw6 rfl) kw8 rfl)⟩
  refine z_icmp_ne hC (pc := 14) 29 dX5_shortcut_14 (by decide) (fun c9 => ?_) (fun c9 => ?_)
  · refine z_aload_n hC (pc := 29) 0 dX5_shortcut_29 rfl rfl ?_
    obtain ⟨q10, hqq10⟩ := hE.o5 h0
    refine t_callVi hC hw6 (pc := 30) (As := []) (kX5_pop l G T κ hst hE h0) trivial dmX5_pop zf5 hqq10 dX5_shortcut_30 zw2099 rfl rfl (Nat.le_of_ble_eq_true rfl) (Nat.le_of_ble_eq_true rfl) (Nat.le_of_ble_eq_true rfl) (Nat.le_of_ble_eq_true rfl) (Nat.le_of_ble_eq_true rfl) (fun _ _ _ h => nomatch h) (fun x12 cw11 nw11 w11 hw11 pw11 => ?_)
    obtain ⟨rfl, rfl, kw11⟩ := pw11
    refine z_pop hC (pc := 33) dX5_shortcut_33 rfl ?_
    refine z_aload_n hC (pc := 34) 0 dX5_shortcut_34 rfl rfl ?_
    refine z_dup hC (pc := 35) dX5_shortcut_35 rfl ?_
    refine u_get hC hw11 (pc := 36) zf5 8 (hE.o5 h0) rfl dX5_shortcut_36 zw650 (kk := fun vx13 tx13 fx13 => ?_)
    obtain ⟨x13, rfl⟩ := tx13
    refine z_iconst hC (pc := 39) (v := 2) dX5_shortcut_39 (by decide) ?_
    refine z_iadd hC (pc := 40) (v := (x13 + 2)) dX5_shortcut_40 rfl ?_
    refine u_put hC hw11 (pc := 41) zf5 8 (hE.o5 h0) rfl ⟨_, rfl⟩ dX5_shortcut_41 zw650 rfl rfl rfl (kk := fun w14 hw14 fw14 kw14 => ?_)
    refine z_lvs [] rfl ?_
    exact j44 w14 hw14 (tKeep.tr (tKeep.tr tKeep.rf kw11 rfl) kw14 rfl)
  · refine z_aload_n hC (pc := 17) 0 dX5_shortcut_17 rfl rfl ?_
    refine z_aload_n hC (pc := 18) 0 dX5_shortcut_18 rfl rfl ?_
    refine z_iconst hC (pc := 19) (v := 1) dX5_shortcut_19 (by decide) ?_
    obtain ⟨q15, hqq15⟩ := hE.o5 h0
    refine t_callVi hC hw6 (pc := 20) (As := [.int 1]) (kX5_code l G T κ hst hE h0) trivial dmX5_code zf5 hqq15 dX5_shortcut_20 zw2078 rfl rfl (Nat.le_of_ble_eq_true rfl) (Nat.le_of_ble_eq_true rfl) (Nat.le_of_ble_eq_true rfl) (Nat.le_of_ble_eq_true rfl) (Nat.le_of_ble_eq_true rfl) (fun _ _ _ h => nomatch h) (fun x17 cw16 nw16 w16 hw16 pw16 => ?_)
    obtain ⟨rfl, rfl, kw16⟩ := pw16
    refine u_put hC hw16 (pc := 23) zf5 8 (hE.o5 h0) rfl ⟨_, rfl⟩ dX5_shortcut_23 zw650 rfl rfl rfl (kk := fun w18 hw18 fw18 kw18 => ?_)
    refine z_goto hC (pc := 26) 44 dX5_shortcut_26 (by decide) ?_
    refine z_lvs [] rfl ?_
    exact j44 w18 hw18 (tKeep.tr (tKeep.tr tKeep.rf kw16 rfl) kw18 rfl)
set_option maxRecDepth 20000 in
theorem kX5_apply (l : Launch) (G : zG) (T : tT) (κ : Nat → List Nat) (hst : l.stackTraces = false) (hE : tE G T κ) {a0 : Nat} (h0 : a0 ∈ κ 5) : tMv l G T yX5_apply cX5_apply 4 ["java/lang/IllegalStateException"] 7 102 1 6 [.ref a0] uT (uPv 0x212000000000000000000000000000000000000000000000000000000000000000000000000000000000) := by
  refine tMv.intro hst rfl (Nat.le_of_ble_eq_true rfl) ?_
  intro w0 hw0 _ X hC hR hO hX
  refine z_aload_n hC (pc := 0) 0 dX5_apply_0 rfl rfl ?_
  refine u_get hC hw0 (pc := 1) zf5 4 (hE.o5 h0) rfl dX5_apply_1 zw646 (kk := fun va3 ta3 fa3 => ?_)
  obtain ⟨a3, ma3, rfl⟩ := ta3
  refine z_aload_n hC (pc := 4) 0 dX5_apply_4 rfl rfl ?_
  refine u_get hC hw0 (pc := 5) zf5 5 (hE.o5 h0) rfl dX5_apply_5 zw647 (kk := fun vx4 tx4 fx4 => ?_)
  obtain ⟨x4, rfl⟩ := tx4
  refine z_iconst hC (pc := 8) (v := 1) dX5_apply_8 (by decide) ?_
  refine z_isub hC (pc := 9) (v := (x4 - 1)) dX5_apply_9 rfl ?_
  refine t_callSNi hC hw0 (pc := 10) (As := [.ref a3, .int (x4 - 1)]) (kX12_get l G T κ hst hE ma3) trivial dmX12_get dX5_apply_10 zw1835 rfl rfl (Nat.le_of_ble_eq_true rfl) (Nat.le_of_ble_eq_true rfl) (Nat.le_of_ble_eq_true rfl) (Nat.le_of_ble_eq_true rfl) (Nat.le_of_ble_eq_true rfl) (fun _ _ _ h => nomatch h) (fun x6 cw5 nw5 w5 hw5 pw5 => ?_)
  obtain ⟨rfl, rfl, kw5⟩ := pw5
  refine z_iconst hC (pc := 13) (v := (-1)) dX5_apply_13 (by decide) ?_
  refine z_icmp_ne hC (pc := 14) 27 dX5_apply_14 (by decide) (fun c7 => ?_) (fun c7 => ?_)
  · refine z_aload_n hC (pc := 27) 0 dX5_apply_27 rfl rfl ?_
    obtain ⟨q8, hqq8⟩ := hE.o5 h0
    refine t_callVi hC hw5 (pc := 28) (As := []) (kX5_pop l G T κ hst hE h0) trivial dmX5_pop zf5 hqq8 dX5_apply_28 zw2099 rfl rfl (Nat.le_of_ble_eq_true rfl) (Nat.le_of_ble_eq_true rfl) (Nat.le_of_ble_eq_true rfl) (Nat.le_of_ble_eq_true rfl) (Nat.le_of_ble_eq_true rfl) (fun _ _ _ h => nomatch h) (fun x10 cw9 nw9 w9 hw9 pw9 => ?_)
    obtain ⟨rfl, rfl, kw9⟩ := pw9
    refine z_istore_n hC (pc := 31) (lv' := [(1, .int x10), (0, .ref a0)]) dX5_apply_31 rfl (by decide) rfl ?_
    refine z_aload_n hC (pc := 32) 1 dX5_apply_32 rfl rfl ?_
    refine u_get hC hw9 (pc := 33) zf5 5 (hE.o5 h0) rfl dX5_apply_33 zw647 (kk := fun vx11 tx11 fx11 => ?_)
    obtain ⟨x11, rfl⟩ := tx11
    refine z_istore_n hC (pc := 36) (lv' := [(2, .int x11), (1, .int x10), (0, .ref a0)]) dX5_apply_36 rfl (by decide) rfl ?_
    refine z_aload_n hC (pc := 37) 2 dX5_apply_37 rfl rfl ?_
    refine z_aload_n hC (pc := 38) 2 dX5_apply_38 rfl rfl ?_
    refine u_get hC hw9 (pc := 39) zf5 13 (hE.o5 h0) rfl dX5_apply_39 zw655 (kk := fun vx12 tx12 fx12 => ?_)
    obtain ⟨x12, rfl⟩ := tx12
    refine t_callVv hC hw9 (pc := 42) (As := [.int x12]) (kX5_push l G T κ hst hE h0) trivial dmX5_push zf5 hqq8 dX5_apply_42 zw1979 rfl rfl (Nat.le_of_ble_eq_true rfl) (Nat.le_of_ble_eq_true rfl) (Nat.le_of_ble_eq_true rfl) (Nat.le_of_ble_eq_true rfl) (Nat.le_of_ble_eq_true rfl) (fun E w q hE hw => hO E w _ _ _ _ _ q hE (Nat.le_of_ble_eq_true rfl) (Nat.le_of_ble_eq_true rfl) hw) (fun cw13 nw13 w13 hw13 pw13 => ?_)
    obtain ⟨rfl, rfl, kw13⟩ := pw13
    refine z_aload_n hC (pc := 45) 2 dX5_apply_45 rfl rfl ?_
    refine z_iload_n hC (pc := 46) 1 dX5_apply_46 rfl rfl ?_
    refine t_callVv hC hw13 (pc := 47) (As := [.int x10]) (kX5_push l G T κ hst hE h0) trivial dmX5_push zf5 hqq8 dX5_apply_47 zw1979 rfl rfl (Nat.le_of_ble_eq_true rfl) (Nat.le_of_ble_eq_true rfl) (Nat.le_of_ble_eq_true rfl) (Nat.le_of_ble_eq_true rfl) (Nat.le_of_ble_eq_true rfl) (fun E w q hE hw => hO E w _ _ _ _ _ q hE (Nat.le_of_ble_eq_true rfl) (Nat.le_of_ble_eq_true rfl) hw) (fun cw15 nw15 w15 hw15 pw15 => ?_)
    obtain ⟨rfl, rfl, kw15⟩ := pw15
    refine z_aload_n hC (pc := 50) 2 dX5_apply_50 rfl rfl ?_
    refine z_iconst hC (pc := 51) (v := 0) dX5_apply_51 (by decide) ?_
    refine t_callVv hC hw15 (pc := 52) (As := [.int 0]) (kX5_push l G T κ hst hE h0) trivial dmX5_push zf5 hqq8 dX5_apply_52 zw1979 rfl rfl (Nat.le_of_ble_eq_true rfl) (Nat.le_of_ble_eq_true rfl) (Nat.le_of_ble_eq_true rfl) (Nat.le_of_ble_eq_true rfl) (Nat.le_of_ble_eq_true rfl) (fun E w q hE hw => hO E w _ _ _ _ _ q hE (Nat.le_of_ble_eq_true rfl) (Nat.le_of_ble_eq_true rfl) hw) (fun cw17 nw17 w17 hw17 pw17 => ?_)
    obtain ⟨rfl, rfl, kw17⟩ := pw17
    refine z_aload_n hC (pc := 55) 2 dX5_apply_55 rfl rfl ?_
    refine z_iconst hC (pc := 56) (v := 0) dX5_apply_56 (by decide) ?_
    refine t_callVv hC hw17 (pc := 57) (As := [.int 0]) (kX5_push l G T κ hst hE h0) trivial dmX5_push zf5 hqq8 dX5_apply_57 zw1979 rfl rfl (Nat.le_of_ble_eq_true rfl) (Nat.le_of_ble_eq_true rfl) (Nat.le_of_ble_eq_true rfl) (Nat.le_of_ble_eq_true rfl) (Nat.le_of_ble_eq_true rfl) (fun E w q hE hw => hO E w _ _ _ _ _ q hE (Nat.le_of_ble_eq_true rfl) (Nat.le_of_ble_eq_true rfl) hw) (fun cw19 nw19 w19 hw19 pw19 => ?_)
    obtain ⟨rfl, rfl, kw19⟩ := pw19
    refine z_aload_n hC (pc := 60) 2 dX5_apply_60 rfl rfl ?_
    refine z_iconst hC (pc := 61) (v := 0) dX5_apply_61 (by decide) ?_
    refine t_callVv hC hw19 (pc := 62) (As := [.int 0]) (kX5_push l G T κ hst hE h0) trivial dmX5_push zf5 hqq8 dX5_apply_62 zw1979 rfl rfl (Nat.le_of_ble_eq_true rfl) (Nat.le_of_ble_eq_true rfl) (Nat.le_of_ble_eq_true rfl) (Nat.le_of_ble_eq_true rfl) (Nat.le_of_ble_eq_true rfl) (fun E w q hE hw => hO E w _ _ _ _ _ q hE (Nat.le_of_ble_eq_true rfl) (Nat.le_of_ble_eq_true rfl) hw) (fun cw21 nw21 w21 hw21 pw21 => ?_)
    obtain ⟨rfl, rfl, kw21⟩ := pw21
    refine z_iconst hC (pc := 65) (v := 0) dX5_apply_65 (by decide) ?_
    refine z_istore_n hC (pc := 66) (lv' := [(3, .int 0), (2, .int x11), (1, .int x10), (0, .ref a0)]) dX5_apply_66 rfl (by decide) rfl ?_
    have j67 : ∀ (d67 : Nat), ∀ (w23 : va_W), tW T w23 → tKeep 0x2000000000000000000000000000000000000000000000000000000000000000000000000000000000 w21 w23 → ∀ (x24 : Int32), ¬ x24 < 0 → (2 ^ 31 - (x24 : Int32).toInt).toNat ≤ d67 → zS X G 4 w23 [(0, .ref a0), (2, .int x11), (3, .int x24)] 0 0 67 [] := by
      intro d67
      induction d67 with
      | zero => intro w23 hw23 kw23 x24 v25 hd67; exact (t_zero hd67).elim
      | succ d67 ih67 =>
        intro w23 hw23 kw23 x24 v25 hd67
        refine z_iload_n hC (pc := 67) 2 dX5_apply_67 rfl rfl ?_
        refine z_aload_n hC (pc := 68) 0 dX5_apply_68 rfl rfl ?_
        refine z_iconst hC (pc := 69) (v := 1) dX5_apply_69 (by decide) ?_
        refine t_callVi hC hw23 (pc := 70) (As := [.int 1]) (kX5_code l G T κ hst hE h0) trivial dmX5_code zf5 hqq8 dX5_apply_70 zw2078 rfl rfl (Nat.le_of_ble_eq_true rfl) (Nat.le_of_ble_eq_true rfl) (Nat.le_of_ble_eq_true rfl) (Nat.le_of_ble_eq_true rfl) (Nat.le_of_ble_eq_true rfl) (fun _ _ _ h => nomatch h) (fun x27 cw26 nw26 w26 hw26 pw26 => ?_)
        obtain ⟨rfl, rfl, kw26⟩ := pw26
        refine z_icmp_ge hC (pc := 73) 87 dX5_apply_73 (by decide) (fun c28 => ?_) (fun c28 => ?_)
        · refine z_aload_n hC (pc := 87) 0 dX5_apply_87 rfl rfl ?_
          refine z_iload_n hC (pc := 88) 1 dX5_apply_88 rfl rfl ?_
          refine u_put hC hw26 (pc := 89) zf5 13 (hE.o5 h0) rfl ⟨_, rfl⟩ dX5_apply_89 zw655 rfl rfl rfl (kk := fun w29 hw29 fw29 kw29 => ?_)
          refine z_aload_n hC (pc := 92) 0 dX5_apply_92 rfl rfl ?_
          refine z_dup hC (pc := 93) dX5_apply_93 rfl ?_
          refine u_get hC hw29 (pc := 94) zf5 8 (hE.o5 h0) rfl dX5_apply_94 zw650 (kk := fun vx30 tx30 fx30 => ?_)
          obtain ⟨x30, rfl⟩ := tx30
          refine z_iconst hC (pc := 97) (v := 3) dX5_apply_97 (by decide) ?_
          refine z_iadd hC (pc := 98) (v := (x30 + 3)) dX5_apply_98 rfl ?_
          refine u_put hC hw29 (pc := 99) zf5 8 (hE.o5 h0) rfl ⟨_, rfl⟩ dX5_apply_99 zw650 rfl rfl rfl (kk := fun w31 hw31 fw31 kw31 => ?_)
          exact hR _ _ _ _ _ dX5_apply_102 (Nat.le_of_ble_eq_true rfl) (Nat.le_of_ble_eq_true rfl) ⟨hw31, rfl, rfl, (tKeep.tr (tKeep.tr (tKeep.tr (tKeep.tr (tKeep.tr (tKeep.tr (tKeep.tr (tKeep.tr (tKeep.tr (tKeep.tr (tKeep.tr tKeep.rf kw5 rfl) kw9 rfl) kw13 rfl) kw15 rfl) kw17 rfl) kw19 rfl) kw21 rfl) kw23 rfl) kw26 rfl) kw29 rfl) kw31 rfl)⟩
        · refine z_aload_n hC (pc := 76) 0 dX5_apply_76 rfl rfl ?_
          refine z_iconst hC (pc := 77) (v := 0) dX5_apply_77 (by decide) ?_
          refine t_callVv hC hw26 (pc := 78) (As := [.int 0]) (kX5_push l G T κ hst hE h0) trivial dmX5_push zf5 hqq8 dX5_apply_78 zw1979 rfl rfl (Nat.le_of_ble_eq_true rfl) (Nat.le_of_ble_eq_true rfl) (Nat.le_of_ble_eq_true rfl) (Nat.le_of_ble_eq_true rfl) (Nat.le_of_ble_eq_true rfl) (fun E w q hE hw => hO E w _ _ _ _ _ q hE (Nat.le_of_ble_eq_true rfl) (Nat.le_of_ble_eq_true rfl) hw) (fun cw32 nw32 w32 hw32 pw32 => ?_)
          obtain ⟨rfl, rfl, kw32⟩ := pw32
          refine z_iinc hC (pc := 81) (v := (x24 + 1)) (lv' := [(3, .int (x24 + 1)), (0, .ref a0), (2, .int x11)]) 2 dX5_apply_81 rfl (congrArg _ (by decide)) (by decide) rfl ?_
          refine z_goto hC (pc := 84) 67 dX5_apply_84 (by decide) ?_
          refine z_lvs [1, 2, 0] rfl ?_
          exact ih67 w32 hw32 (tKeep.tr (tKeep.tr (tKeep.tr tKeep.rf kw23 rfl) kw26 rfl) kw32 rfl) (x24 + 1) (t_nnI v25 (Int32.not_le.mp c28)) (t_up (Int32.not_le.mp c28) hd67)
    refine z_lvs [3, 1, 0] rfl ?_
    exact j67 _ w21 hw21 tKeep.rf 0 (by decide) (Nat.le_refl _)
  · refine z_aload_n hC (pc := 17) 0 dX5_apply_17 rfl rfl ?_
    refine z_aload_n hC (pc := 18) 0 dX5_apply_18 rfl rfl ?_
    refine z_iconst hC (pc := 19) (v := 2) dX5_apply_19 (by decide) ?_
    obtain ⟨q34, hqq34⟩ := hE.o5 h0
    refine t_callVi hC hw5 (pc := 20) (As := [.int 2]) (kX5_code l G T κ hst hE h0) trivial dmX5_code zf5 hqq34 dX5_apply_20 zw2078 rfl rfl (Nat.le_of_ble_eq_true rfl) (Nat.le_of_ble_eq_true rfl) (Nat.le_of_ble_eq_true rfl) (Nat.le_of_ble_eq_true rfl) (Nat.le_of_ble_eq_true rfl) (fun _ _ _ h => nomatch h) (fun x36 cw35 nw35 w35 hw35 pw35 => ?_)
    obtain ⟨rfl, rfl, kw35⟩ := pw35
    refine u_put hC hw35 (pc := 23) zf5 8 (hE.o5 h0) rfl ⟨_, rfl⟩ dX5_apply_23 zw650 rfl rfl rfl (kk := fun w37 hw37 fw37 kw37 => ?_)
    exact hR _ _ _ _ _ dX5_apply_26 (Nat.le_of_ble_eq_true rfl) (Nat.le_of_ble_eq_true rfl) ⟨hw37, rfl, rfl, (tKeep.tr (tKeep.tr (tKeep.tr tKeep.rf kw5 rfl) kw35 rfl) kw37 rfl)⟩
set_option maxRecDepth 20000 in
theorem kX5_collect (l : Launch) (G : zG) (T : tT) (κ : Nat → List Nat) (hst : l.stackTraces = false) (hE : tE G T κ) {a0 : Nat} (h0 : a0 ∈ κ 5) {x1 : Int32} : tMv l G T yX5_collect cX5_collect 2 ["java/lang/IllegalStateException"] 7 102 1 6 [.ref a0, .int x1] uT (uPv 0x12000000000000000000000000000000400000000000000000000000000000000000000000000000000) := by
  refine tMv.intro hst rfl (Nat.le_of_ble_eq_true rfl) ?_
  intro w0 hw0 _ X hC hR hO hX
  refine z_iload_n hC (pc := 0) 1 dX5_collect_0 rfl rfl ?_
  refine z_iconst hC (pc := 1) (v := (-1)) dX5_collect_1 (by decide) ?_
  have j33 : ∀ (w4 : va_W), tW T w4 → tKeep 0x0 w0 w4 → zS X G 2 w4 [(0, .ref a0), (1, .int x1)] 0 0 33 [] := by
    intro w4 hw4 kw4
    refine z_aload_n hC (pc := 33) 0 dX5_collect_33 rfl rfl ?_
    refine u_get hC hw4 (pc := 34) zf5 4 (hE.o5 h0) rfl dX5_collect_34 zw646 (kk := fun va5 ta5 fa5 => ?_)
    obtain ⟨a5, ma5, rfl⟩ := ta5
    refine z_aload_n hC (pc := 37) 0 dX5_collect_37 rfl rfl ?_
    refine u_get hC hw4 (pc := 38) zf5 13 (hE.o5 h0) rfl dX5_collect_38 zw655 (kk := fun vx6 tx6 fx6 => ?_)
    obtain ⟨x6, rfl⟩ := tx6
    refine z_iconst hC (pc := 41) (v := 3) dX5_collect_41 (by decide) ?_
    refine z_iadd hC (pc := 42) (v := (x6 + 3)) dX5_collect_42 rfl ?_
    refine t_callSNi hC hw4 (pc := 43) (As := [.ref a5, .int (x6 + 3)]) (kX12_get l G T κ hst hE ma5) trivial dmX12_get dX5_collect_43 zw1835 rfl rfl (Nat.le_of_ble_eq_true rfl) (Nat.le_of_ble_eq_true rfl) (Nat.le_of_ble_eq_true rfl) (Nat.le_of_ble_eq_true rfl) (Nat.le_of_ble_eq_true rfl) (fun _ _ _ h => nomatch h) (fun x8 cw7 nw7 w7 hw7 pw7 => ?_)
    obtain ⟨rfl, rfl, kw7⟩ := pw7
    refine z_iconst hC (pc := 46) (v := 1) dX5_collect_46 (by decide) ?_
    have j58 : ∀ (w9 : va_W), tW T w9 → tKeep 0x400000000000000000000000000000000000000000000000000 w7 w9 → zS X G 2 w9 [(0, .ref a0), (1, .int x1)] 0 0 58 [] := by
      intro w9 hw9 kw9
      refine z_aload_n hC (pc := 58) 0 dX5_collect_58 rfl rfl ?_
      refine z_iload_n hC (pc := 59) 1 dX5_collect_59 rfl rfl ?_
      obtain ⟨q10, hqq10⟩ := hE.o5 h0
      refine t_callVv hC hw9 (pc := 60) (As := [.int x1]) (kX5_push l G T κ hst hE h0) trivial dmX5_push zf5 hqq10 dX5_collect_60 zw1979 rfl rfl (Nat.le_of_ble_eq_true rfl) (Nat.le_of_ble_eq_true rfl) (Nat.le_of_ble_eq_true rfl) (Nat.le_of_ble_eq_true rfl) (Nat.le_of_ble_eq_true rfl) (fun E w q hE hw => hO E w _ _ _ _ _ q hE (Nat.le_of_ble_eq_true rfl) (Nat.le_of_ble_eq_true rfl) hw) (fun cw11 nw11 w11 hw11 pw11 => ?_)
      obtain ⟨rfl, rfl, kw11⟩ := pw11
      refine z_aload_n hC (pc := 63) 0 dX5_collect_63 rfl rfl ?_
      refine z_aload_n hC (pc := 64) 0 dX5_collect_64 rfl rfl ?_
      refine u_getK hC (pc := 65) zf5 4 (tKeep.F kw11 (tKeep.F kw9 (tKeep.F kw7 fa5 rfl) rfl) rfl) dX5_collect_65 zw646 (kk := ?_)
      refine z_aload_n hC (pc := 68) 0 dX5_collect_68 rfl rfl ?_
      refine u_getK hC (pc := 69) zf5 13 (tKeep.F kw11 (tKeep.F kw9 (tKeep.F kw7 fx6 rfl) rfl) rfl) dX5_collect_69 zw655 (kk := ?_)
      refine z_iconst hC (pc := 72) (v := 4) dX5_collect_72 (by decide) ?_
      refine z_iadd hC (pc := 73) (v := (x6 + 4)) dX5_collect_73 rfl ?_
      refine t_callSNi hC hw11 (pc := 74) (As := [.ref a5, .int (x6 + 4)]) (kX12_get l G T κ hst hE ma5) trivial dmX12_get dX5_collect_74 zw1835 rfl rfl (Nat.le_of_ble_eq_true rfl) (Nat.le_of_ble_eq_true rfl) (Nat.le_of_ble_eq_true rfl) (Nat.le_of_ble_eq_true rfl) (Nat.le_of_ble_eq_true rfl) (fun _ _ _ h => nomatch h) (fun x14 cw13 nw13 w13 hw13 pw13 => ?_)
      obtain ⟨rfl, rfl, kw13⟩ := pw13
      refine u_put hC hw13 (pc := 77) zf5 8 (hE.o5 h0) rfl ⟨_, rfl⟩ dX5_collect_77 zw650 rfl rfl rfl (kk := fun w15 hw15 fw15 kw15 => ?_)
      exact hR _ _ _ _ _ dX5_collect_80 (Nat.le_of_ble_eq_true rfl) (Nat.le_of_ble_eq_true rfl) ⟨hw15, rfl, rfl, (tKeep.tr (tKeep.tr (tKeep.tr (tKeep.tr (tKeep.tr (tKeep.tr tKeep.rf kw4 rfl) kw7 rfl) kw9 rfl) kw11 rfl) kw13 rfl) kw15 rfl)⟩
    refine z_icmp_ne hC (pc := 47) 58 dX5_collect_47 (by decide) (fun c16 => ?_) (fun c16 => ?_)
    · exact j58 w7 hw7 tKeep.rf
    · refine z_aload_n hC (pc := 50) 0 dX5_collect_50 rfl rfl ?_
      refine u_get hC hw7 (pc := 51) zf5 2 (hE.o5 h0) rfl dX5_collect_51 zw644 (kk := fun va17 ta17 fa17 => ?_)
      obtain ⟨a17, ma17, rfl⟩ := ta17
      refine z_iconst hC (pc := 54) (v := 1) dX5_collect_54 (by decide) ?_
      obtain ⟨q18, hqq18⟩ := hE.o3 ma17
      refine t_callVv hC hw7 (pc := 55) (As := [.int 1]) (kX3_counted l G T κ hst hE ma17) trivial dmX3_counted zf3 hqq18 dX5_collect_55 zw2250 rfl rfl (Nat.le_of_ble_eq_true rfl) (Nat.le_of_ble_eq_true rfl) (Nat.le_of_ble_eq_true rfl) (Nat.le_of_ble_eq_true rfl) (Nat.le_of_ble_eq_true rfl) (fun E w q hE hw => hO E w _ _ _ _ _ q hE (Nat.le_of_ble_eq_true rfl) (Nat.le_of_ble_eq_true rfl) hw) (fun cw19 nw19 w19 hw19 pw19 => ?_)
      obtain ⟨rfl, rfl, kw19⟩ := pw19
      exact j58 w19 hw19 (tKeep.tr tKeep.rf kw19 rfl)
  refine z_icmp_eq hC (pc := 2) 33 dX5_collect_2 (by decide) (fun c21 => ?_) (fun c21 => ?_)
  · exact j33 w0 hw0 tKeep.rf
  · refine z_aload_n hC (pc := 5) 0 dX5_collect_5 rfl rfl ?_
    refine u_get hC hw0 (pc := 6) zf5 2 (hE.o5 h0) rfl dX5_collect_6 zw644 (kk := fun va22 ta22 fa22 => ?_)
    obtain ⟨a22, ma22, rfl⟩ := ta22
    refine u_get hC hw0 (pc := 9) zf3 5 (hE.o3 ma22) rfl dX5_collect_9 zw510 (kk := fun va23 ta23 fa23 => ?_)
    obtain ⟨a23, ma23, rfl⟩ := ta23
    refine z_iload_n hC (pc := 12) 1 dX5_collect_12 rfl rfl ?_
    refine z_ldc_w hC (pc := 13) (v := 134217727) dX5_collect_13 zw1991 ?_
    refine z_iand hC (pc := 16) (v := (x1 &&& 134217727)) dX5_collect_16 rfl ?_
    refine z_aload_n hC (pc := 17) 0 dX5_collect_17 rfl rfl ?_
    refine u_get hC hw0 (pc := 18) zf5 4 (hE.o5 h0) rfl dX5_collect_18 zw646 (kk := fun va24 ta24 fa24 => ?_)
    obtain ⟨a24, ma24, rfl⟩ := ta24
    refine z_aload_n hC (pc := 21) 0 dX5_collect_21 rfl rfl ?_
    refine u_get hC hw0 (pc := 22) zf5 13 (hE.o5 h0) rfl dX5_collect_22 zw655 (kk := fun vx25 tx25 fx25 => ?_)
    obtain ⟨x25, rfl⟩ := tx25
    refine z_iconst hC (pc := 25) (v := 2) dX5_collect_25 (by decide) ?_
    refine z_iadd hC (pc := 26) (v := (x25 + 2)) dX5_collect_26 rfl ?_
    refine t_callSNi hC hw0 (pc := 27) (As := [.ref a24, .int (x25 + 2)]) (kX12_get l G T κ hst hE ma24) trivial dmX12_get dX5_collect_27 zw1835 rfl rfl (Nat.le_of_ble_eq_true rfl) (Nat.le_of_ble_eq_true rfl) (Nat.le_of_ble_eq_true rfl) (Nat.le_of_ble_eq_true rfl) (Nat.le_of_ble_eq_true rfl) (fun _ _ _ h => nomatch h) (fun x27 cw26 nw26 w26 hw26 pw26 => ?_)
    obtain ⟨rfl, rfl, kw26⟩ := pw26
    refine t_callSNv hC hw26 (pc := 30) (As := [.ref a23, .int (x1 &&& 134217727), .int x27]) (kX12_set l G T κ hst hE ma23) trivial dmX12_set dX5_collect_30 zw1882 rfl rfl (Nat.le_of_ble_eq_true rfl) (Nat.le_of_ble_eq_true rfl) (Nat.le_of_ble_eq_true rfl) (Nat.le_of_ble_eq_true rfl) (Nat.le_of_ble_eq_true rfl) (fun _ _ _ h => nomatch h) (fun cw28 nw28 w28 hw28 pw28 => ?_)
    obtain ⟨rfl, rfl, kw28⟩ := pw28
    exact j33 w28 hw28 (tKeep.tr (tKeep.tr tKeep.rf kw26 rfl) kw28 rfl)
set_option maxRecDepth 20000 in
theorem kX5_leaveLoop (l : Launch) (G : zG) (T : tT) (κ : Nat → List Nat) (hst : l.stackTraces = false) (hE : tE G T κ) {a0 : Nat} (h0 : a0 ∈ κ 5) {x1 : Int32} {x2 : Int32} : tMv l G T yX5_leaveLoop cX5_leaveLoop 5 ["java/lang/IllegalStateException"] 7 103 1 6 [.ref a0, .int x1, .int x2] uT (uPv 0x202000000000000000000000000000000200000000000000000000000000000000000000000000000000) := by
  refine tMv.intro hst rfl (Nat.le_of_ble_eq_true rfl) ?_
  intro w0 hw0 _ X hC hR hO hX
  refine z_aload_n hC (pc := 0) 0 dX5_leaveLoop_0 rfl rfl ?_
  refine u_get hC hw0 (pc := 1) zf5 4 (hE.o5 h0) rfl dX5_leaveLoop_1 zw646 (kk := fun va5 ta5 fa5 => ?_)
  obtain ⟨a5, ma5, rfl⟩ := ta5
  refine z_aload_n hC (pc := 4) 0 dX5_leaveLoop_4 rfl rfl ?_
  refine u_get hC hw0 (pc := 5) zf5 13 (hE.o5 h0) rfl dX5_leaveLoop_5 zw655 (kk := fun vx6 tx6 fx6 => ?_)
  obtain ⟨x6, rfl⟩ := tx6
  refine z_iconst hC (pc := 8) (v := 5) dX5_leaveLoop_8 (by decide) ?_
  refine z_iadd hC (pc := 9) (v := (x6 + 5)) dX5_leaveLoop_9 rfl ?_
  refine z_iload_n hC (pc := 10) 2 dX5_leaveLoop_10 rfl rfl ?_
  refine z_iadd hC (pc := 11) (v := ((x6 + 5) + x2)) dX5_leaveLoop_11 rfl ?_
  refine t_callSNi hC hw0 (pc := 12) (As := [.ref a5, .int ((x6 + 5) + x2)]) (kX12_get l G T κ hst hE ma5) trivial dmX12_get dX5_leaveLoop_12 zw1835 rfl rfl (Nat.le_of_ble_eq_true rfl) (Nat.le_of_ble_eq_true rfl) (Nat.le_of_ble_eq_true rfl) (Nat.le_of_ble_eq_true rfl) (Nat.le_of_ble_eq_true rfl) (fun _ _ _ h => nomatch h) (fun x8 cw7 nw7 w7 hw7 pw7 => ?_)
  obtain ⟨rfl, rfl, kw7⟩ := pw7
  refine z_istore_n hC (pc := 15) (lv' := [(3, .int x8), (0, .ref a0), (1, .int x1), (2, .int x2)]) dX5_leaveLoop_15 rfl (by decide) rfl ?_
  refine z_aload_n hC (pc := 16) 1 dX5_leaveLoop_16 rfl rfl ?_
  refine u_getK hC (pc := 17) zf5 4 (tKeep.F kw7 fa5 rfl) dX5_leaveLoop_17 zw646 (kk := ?_)
  refine z_aload_n hC (pc := 20) 1 dX5_leaveLoop_20 rfl rfl ?_
  refine u_getK hC (pc := 21) zf5 13 (tKeep.F kw7 fx6 rfl) dX5_leaveLoop_21 zw655 (kk := ?_)
  refine z_iconst hC (pc := 24) (v := 3) dX5_leaveLoop_24 (by decide) ?_
  refine z_iadd hC (pc := 25) (v := (x6 + 3)) dX5_leaveLoop_25 rfl ?_
  refine t_callSNi hC hw7 (pc := 26) (As := [.ref a5, .int (x6 + 3)]) (kX12_get l G T κ hst hE ma5) trivial dmX12_get dX5_leaveLoop_26 zw1835 rfl rfl (Nat.le_of_ble_eq_true rfl) (Nat.le_of_ble_eq_true rfl) (Nat.le_of_ble_eq_true rfl) (Nat.le_of_ble_eq_true rfl) (Nat.le_of_ble_eq_true rfl) (fun _ _ _ h => nomatch h) (fun x10 cw9 nw9 w9 hw9 pw9 => ?_)
  obtain ⟨rfl, rfl, kw9⟩ := pw9
  refine z_iconst hC (pc := 29) (v := 1) dX5_leaveLoop_29 (by decide) ?_
  have j85 : ∀ (w11 : va_W), tW T w11 → tKeep 0x200000000000000000000000000000000000000000000000000 w9 w11 → ∀ (x12 : Int32), zS X G 5 w11 [(0, .ref a0), (3, .int x12)] 0 0 85 [] := by
    intro w11 hw11 kw11 x12
    refine z_aload_n hC (pc := 85) 0 dX5_leaveLoop_85 rfl rfl ?_
    refine z_aload_n hC (pc := 86) 0 dX5_leaveLoop_86 rfl rfl ?_
    refine u_getK hC (pc := 87) zf5 13 (tKeep.F kw11 (tKeep.F kw9 (tKeep.F kw7 fx6 rfl) rfl) rfl) dX5_leaveLoop_87 zw655 (kk := ?_)
    refine u_put hC hw11 (pc := 90) zf5 5 (hE.o5 h0) rfl ⟨_, rfl⟩ dX5_leaveLoop_90 zw647 rfl rfl rfl (kk := fun w13 hw13 fw13 kw13 => ?_)
    refine z_aload_n hC (pc := 93) 0 dX5_leaveLoop_93 rfl rfl ?_
    refine z_aload_n hC (pc := 94) 0 dX5_leaveLoop_94 rfl rfl ?_
    refine u_getK hC (pc := 95) zf5 4 (tKeep.F kw13 (tKeep.F kw11 (tKeep.F kw9 (tKeep.F kw7 fa5 rfl) rfl) rfl) rfl) dX5_leaveLoop_95 zw646 (kk := ?_)
    refine z_aload_n hC (pc := 98) 0 dX5_leaveLoop_98 rfl rfl ?_
    refine u_getK hC (pc := 99) zf5 13 (tKeep.F kw13 (tKeep.F kw11 (tKeep.F kw9 (tKeep.F kw7 fx6 rfl) rfl) rfl) rfl) dX5_leaveLoop_99 zw655 (kk := ?_)
    refine t_callSNi hC hw13 (pc := 102) (As := [.ref a5, .int x6]) (kX12_get l G T κ hst hE ma5) trivial dmX12_get dX5_leaveLoop_102 zw1835 rfl rfl (Nat.le_of_ble_eq_true rfl) (Nat.le_of_ble_eq_true rfl) (Nat.le_of_ble_eq_true rfl) (Nat.le_of_ble_eq_true rfl) (Nat.le_of_ble_eq_true rfl) (fun _ _ _ h => nomatch h) (fun x15 cw14 nw14 w14 hw14 pw14 => ?_)
    obtain ⟨rfl, rfl, kw14⟩ := pw14
    refine u_put hC hw14 (pc := 105) zf5 13 (hE.o5 h0) rfl ⟨_, rfl⟩ dX5_leaveLoop_105 zw655 rfl rfl rfl (kk := fun w16 hw16 fw16 kw16 => ?_)
    refine z_aload_n hC (pc := 108) 0 dX5_leaveLoop_108 rfl rfl ?_
    refine z_iload_n hC (pc := 109) 1 dX5_leaveLoop_109 rfl rfl ?_
    obtain ⟨q17, hqq17⟩ := hE.o5 h0
    refine t_callVv hC hw16 (pc := 110) (As := [.int x12]) (kX5_push l G T κ hst hE h0) trivial dmX5_push zf5 hqq17 dX5_leaveLoop_110 zw1979 rfl rfl (Nat.le_of_ble_eq_true rfl) (Nat.le_of_ble_eq_true rfl) (Nat.le_of_ble_eq_true rfl) (Nat.le_of_ble_eq_true rfl) (Nat.le_of_ble_eq_true rfl) (fun E w q hE hw => hO E w _ _ _ _ _ q hE (Nat.le_of_ble_eq_true rfl) (Nat.le_of_ble_eq_true rfl) hw) (fun cw18 nw18 w18 hw18 pw18 => ?_)
    obtain ⟨rfl, rfl, kw18⟩ := pw18
    exact hR _ _ _ _ _ dX5_leaveLoop_113 (Nat.le_of_ble_eq_true rfl) (Nat.le_of_ble_eq_true rfl) ⟨hw18, rfl, rfl, (tKeep.tr (tKeep.tr (tKeep.tr (tKeep.tr (tKeep.tr (tKeep.tr (tKeep.tr tKeep.rf kw7 rfl) kw9 rfl) kw11 rfl) kw13 rfl) kw14 rfl) kw16 rfl) kw18 rfl)⟩
  refine z_icmp_ne hC (pc := 30) 85 dX5_leaveLoop_30 (by decide) (fun c20 => ?_) (fun c20 => ?_)
  · refine z_lvs [1, 0] rfl ?_
    exact j85 w9 hw9 tKeep.rf x8
  · refine z_aload_n hC (pc := 33) 1 dX5_leaveLoop_33 rfl rfl ?_
    refine u_get hC hw9 (pc := 34) zf5 2 (hE.o5 h0) rfl dX5_leaveLoop_34 zw644 (kk := fun va21 ta21 fa21 => ?_)
    obtain ⟨a21, ma21, rfl⟩ := ta21
    refine z_iload_n hC (pc := 37) 2 dX5_leaveLoop_37 rfl rfl ?_
    obtain ⟨q22, hqq22⟩ := hE.o3 ma21
    refine t_callVi hC hw9 (pc := 38) (As := [.int x1]) (kX3_room l G T κ hst hE ma21) trivial dmX3_room zf3 hqq22 dX5_leaveLoop_38 zw2255 rfl rfl (Nat.le_of_ble_eq_true rfl) (Nat.le_of_ble_eq_true rfl) (Nat.le_of_ble_eq_true rfl) (Nat.le_of_ble_eq_true rfl) (Nat.le_of_ble_eq_true rfl) (fun E w q hE hw => hO E w _ _ _ _ _ q hE (Nat.le_of_ble_eq_true rfl) (Nat.le_of_ble_eq_true rfl) hw) (fun x24 cw23 nw23 w23 hw23 pw23 => ?_)
    obtain ⟨rfl, rfl, kw23⟩ := pw23
    refine z_istore_n hC (pc := 41) (lv' := [(3, .int x24), (0, .ref a0), (1, .int x1), (2, .int x2)]) dX5_leaveLoop_41 rfl (by decide) rfl ?_
    refine z_iconst hC (pc := 42) (v := 0) dX5_leaveLoop_42 (by decide) ?_
    refine z_istore hC (pc := 43) (lv' := [(4, .int 0), (3, .int x24), (0, .ref a0), (1, .int x1), (2, .int x2)]) dX5_leaveLoop_43 (by decide) rfl ?_
    have j45 : ∀ (d45 : Nat), ∀ (w25 : va_W), tW T w25 → tKeep 0x0 w23 w25 → ∀ (x26 : Int32), ¬ x26 < 0 → (2 ^ 31 - (x26 : Int32).toInt).toNat ≤ d45 → zS X G 5 w25 [(0, .ref a0), (1, .int x1), (2, .int x2), (3, .int x24), (4, .int x26)] 0 0 45 [] := by
      intro d45
      induction d45 with
      | zero => intro w25 hw25 kw25 x26 v27 hd45; exact (t_zero hd45).elim
      | succ d45 ih45 =>
        intro w25 hw25 kw25 x26 v27 hd45
        refine z_iload hC (pc := 45) 4 dX5_leaveLoop_45 rfl ?_
        refine z_iload_n hC (pc := 47) 1 dX5_leaveLoop_47 rfl rfl ?_
        refine z_icmp_ge hC (pc := 48) 85 dX5_leaveLoop_48 (by decide) (fun c28 => ?_) (fun c28 => ?_)
        · refine z_lvs [0, 3] rfl ?_
          exact j85 w25 hw25 (tKeep.tr (tKeep.tr tKeep.rf kw23 rfl) kw25 rfl) x24
        · refine z_aload_n hC (pc := 51) 0 dX5_leaveLoop_51 rfl rfl ?_
          refine u_getK hC (pc := 52) zf5 2 (tKeep.F kw25 (tKeep.F kw23 fa21 rfl) rfl) dX5_leaveLoop_52 zw644 (kk := ?_)
          refine z_iload_n hC (pc := 55) 3 dX5_leaveLoop_55 rfl rfl ?_
          refine z_iload hC (pc := 56) 4 dX5_leaveLoop_56 rfl ?_
          refine z_aload_n hC (pc := 58) 0 dX5_leaveLoop_58 rfl rfl ?_
          refine u_getK hC (pc := 59) zf5 4 (tKeep.F kw25 (tKeep.F kw23 (tKeep.F kw9 (tKeep.F kw7 fa5 rfl) rfl) rfl) rfl) dX5_leaveLoop_59 zw646 (kk := ?_)
          refine z_aload_n hC (pc := 62) 0 dX5_leaveLoop_62 rfl rfl ?_
          refine u_getK hC (pc := 63) zf5 13 (tKeep.F kw25 (tKeep.F kw23 (tKeep.F kw9 (tKeep.F kw7 fx6 rfl) rfl) rfl) rfl) dX5_leaveLoop_63 zw655 (kk := ?_)
          refine z_iconst hC (pc := 66) (v := 5) dX5_leaveLoop_66 (by decide) ?_
          refine z_iadd hC (pc := 67) (v := (x6 + 5)) dX5_leaveLoop_67 rfl ?_
          refine z_iload_n hC (pc := 68) 2 dX5_leaveLoop_68 rfl rfl ?_
          refine z_iadd hC (pc := 69) (v := ((x6 + 5) + x2)) dX5_leaveLoop_69 rfl ?_
          refine z_iload hC (pc := 70) 4 dX5_leaveLoop_70 rfl ?_
          refine z_iadd hC (pc := 72) (v := (((x6 + 5) + x2) + x26)) dX5_leaveLoop_72 rfl ?_
          refine t_callSNi hC hw25 (pc := 73) (As := [.ref a5, .int (((x6 + 5) + x2) + x26)]) (kX12_get l G T κ hst hE ma5) trivial dmX12_get dX5_leaveLoop_73 zw1835 rfl rfl (Nat.le_of_ble_eq_true rfl) (Nat.le_of_ble_eq_true rfl) (Nat.le_of_ble_eq_true rfl) (Nat.le_of_ble_eq_true rfl) (Nat.le_of_ble_eq_true rfl) (fun _ _ _ h => nomatch h) (fun x30 cw29 nw29 w29 hw29 pw29 => ?_)
          obtain ⟨rfl, rfl, kw29⟩ := pw29
          refine t_callVv hC hw29 (pc := 76) (As := [.int x24, .int x26, .int x30]) (kX3_put l G T κ hst hE ma21) trivial dmX3_put zf3 hqq22 dX5_leaveLoop_76 zw1875 rfl rfl (Nat.le_of_ble_eq_true rfl) (Nat.le_of_ble_eq_true rfl) (Nat.le_of_ble_eq_true rfl) (Nat.le_of_ble_eq_true rfl) (Nat.le_of_ble_eq_true rfl) (fun _ _ _ h => nomatch h) (fun cw31 nw31 w31 hw31 pw31 => ?_)
          obtain ⟨rfl, rfl, kw31⟩ := pw31
          refine z_iinc hC (pc := 79) (v := (x26 + 1)) (lv' := [(4, .int (x26 + 1)), (0, .ref a0), (1, .int x1), (2, .int x2), (3, .int x24)]) 4 dX5_leaveLoop_79 rfl (congrArg _ (by decide)) (by decide) rfl ?_
          refine z_goto hC (pc := 82) 45 dX5_leaveLoop_82 (by decide) ?_
          refine z_lvs [1, 2, 3, 4, 0] rfl ?_
          exact ih45 w31 hw31 (tKeep.tr (tKeep.tr (tKeep.tr tKeep.rf kw25 rfl) kw29 rfl) kw31 rfl) (x26 + 1) (t_nnI v27 (Int32.not_le.mp c28)) (t_up (Int32.not_le.mp c28) hd45)
    refine z_lvs [2, 3, 4, 1, 0] rfl ?_
    exact j45 _ w23 hw23 tKeep.rf 0 (by decide) (Nat.le_refl _)
set_option maxRecDepth 20000 in
theorem kX5_next (l : Launch) (G : zG) (T : tT) (κ : Nat → List Nat) (hst : l.stackTraces = false) (hE : tE G T κ) {a0 : Nat} (h0 : a0 ∈ κ 5) : tMv l G T yX5_next cX5_next 7 ["java/lang/IllegalStateException"] 9 153 1 6 [.ref a0] uT (uPv 0x212000000000000000000000000000000680000000000000000000000000000000000000000000000000) := by
  refine tMv.intro hst rfl (Nat.le_of_ble_eq_true rfl) ?_
  intro w0 hw0 _ X hC hR hO hX
  refine z_aload_n hC (pc := 0) 0 dX5_next_0 rfl rfl ?_
  refine z_iconst hC (pc := 1) (v := 1) dX5_next_1 (by decide) ?_
  obtain ⟨q3, hqq3⟩ := hE.o5 h0
  refine t_callVi hC hw0 (pc := 2) (As := [.int 1]) (kX5_code l G T κ hst hE h0) trivial dmX5_code zf5 hqq3 dX5_next_2 zw2078 rfl rfl (Nat.le_of_ble_eq_true rfl) (Nat.le_of_ble_eq_true rfl) (Nat.le_of_ble_eq_true rfl) (Nat.le_of_ble_eq_true rfl) (Nat.le_of_ble_eq_true rfl) (fun _ _ _ h => nomatch h) (fun x5 cw4 nw4 w4 hw4 pw4 => ?_)
  obtain ⟨rfl, rfl, kw4⟩ := pw4
  refine z_istore_n hC (pc := 5) (lv' := [(1, .int x5), (0, .ref a0)]) dX5_next_5 rfl (by decide) rfl ?_
  refine z_aload_n hC (pc := 6) 1 dX5_next_6 rfl rfl ?_
  refine u_get hC hw4 (pc := 7) zf5 4 (hE.o5 h0) rfl dX5_next_7 zw646 (kk := fun va6 ta6 fa6 => ?_)
  obtain ⟨a6, ma6, rfl⟩ := ta6
  refine z_aload_n hC (pc := 10) 1 dX5_next_10 rfl rfl ?_
  refine u_get hC hw4 (pc := 11) zf5 13 (hE.o5 h0) rfl dX5_next_11 zw655 (kk := fun vx7 tx7 fx7 => ?_)
  obtain ⟨x7, rfl⟩ := tx7
  refine z_iconst hC (pc := 14) (v := 1) dX5_next_14 (by decide) ?_
  refine z_iadd hC (pc := 15) (v := (x7 + 1)) dX5_next_15 rfl ?_
  refine t_callSNi hC hw4 (pc := 16) (As := [.ref a6, .int (x7 + 1)]) (kX12_get l G T κ hst hE ma6) trivial dmX12_get dX5_next_16 zw1835 rfl rfl (Nat.le_of_ble_eq_true rfl) (Nat.le_of_ble_eq_true rfl) (Nat.le_of_ble_eq_true rfl) (Nat.le_of_ble_eq_true rfl) (Nat.le_of_ble_eq_true rfl) (fun _ _ _ h => nomatch h) (fun x9 cw8 nw8 w8 hw8 pw8 => ?_)
  obtain ⟨rfl, rfl, kw8⟩ := pw8
  refine z_istore_n hC (pc := 19) (lv' := [(2, .int x9), (1, .int x5), (0, .ref a0)]) dX5_next_19 rfl (by decide) rfl ?_
  refine z_aload_n hC (pc := 20) 2 dX5_next_20 rfl rfl ?_
  refine u_getK hC (pc := 21) zf5 4 (tKeep.F kw8 fa6 rfl) dX5_next_21 zw646 (kk := ?_)
  refine z_aload_n hC (pc := 24) 2 dX5_next_24 rfl rfl ?_
  refine u_getK hC (pc := 25) zf5 13 (tKeep.F kw8 fx7 rfl) dX5_next_25 zw655 (kk := ?_)
  refine z_iconst hC (pc := 28) (v := 2) dX5_next_28 (by decide) ?_
  refine z_iadd hC (pc := 29) (v := (x7 + 2)) dX5_next_29 rfl ?_
  refine t_callSNi hC hw8 (pc := 30) (As := [.ref a6, .int (x7 + 2)]) (kX12_get l G T κ hst hE ma6) trivial dmX12_get dX5_next_30 zw1835 rfl rfl (Nat.le_of_ble_eq_true rfl) (Nat.le_of_ble_eq_true rfl) (Nat.le_of_ble_eq_true rfl) (Nat.le_of_ble_eq_true rfl) (Nat.le_of_ble_eq_true rfl) (fun _ _ _ h => nomatch h) (fun x11 cw10 nw10 w10 hw10 pw10 => ?_)
  obtain ⟨rfl, rfl, kw10⟩ := pw10
  refine z_istore_n hC (pc := 33) (lv' := [(3, .int x11), (2, .int x9), (1, .int x5), (0, .ref a0)]) dX5_next_33 rfl (by decide) rfl ?_
  refine z_iload_n hC (pc := 34) 0 dX5_next_34 rfl rfl ?_
  have j90 : ∀ (w12 : va_W), tW T w12 → tKeep 0x680000000000000000000000000000000000000000000000000 w10 w12 → ∀ (x13 : Int32), zS X G 7 w12 [(0, .ref a0), (1, .int x5), (2, .int x13), (3, .int x11)] 0 0 90 [] := by
    intro w12 hw12 kw12 x13
    refine z_aload_n hC (pc := 90) 0 dX5_next_90 rfl rfl ?_
    refine u_getK hC (pc := 91) zf5 4 (tKeep.F kw12 (tKeep.F kw10 (tKeep.F kw8 fa6 rfl) rfl) rfl) dX5_next_91 zw646 (kk := ?_)
    refine z_aload_n hC (pc := 94) 0 dX5_next_94 rfl rfl ?_
    refine u_getK hC (pc := 95) zf5 13 (tKeep.F kw12 (tKeep.F kw10 (tKeep.F kw8 fx7 rfl) rfl) rfl) dX5_next_95 zw655 (kk := ?_)
    refine z_iconst hC (pc := 98) (v := 4) dX5_next_98 (by decide) ?_
    refine z_iadd hC (pc := 99) (v := (x7 + 4)) dX5_next_99 rfl ?_
    refine z_aload_n hC (pc := 100) 0 dX5_next_100 rfl rfl ?_
    refine u_get hC hw12 (pc := 101) zf5 8 (hE.o5 h0) rfl dX5_next_101 zw650 (kk := fun vx14 tx14 fx14 => ?_)
    obtain ⟨x14, rfl⟩ := tx14
    refine t_callSNv hC hw12 (pc := 104) (As := [.ref a6, .int (x7 + 4), .int x14]) (kX12_set l G T κ hst hE ma6) trivial dmX12_set dX5_next_104 zw1882 rfl rfl (Nat.le_of_ble_eq_true rfl) (Nat.le_of_ble_eq_true rfl) (Nat.le_of_ble_eq_true rfl) (Nat.le_of_ble_eq_true rfl) (Nat.le_of_ble_eq_true rfl) (fun _ _ _ h => nomatch h) (fun cw15 nw15 w15 hw15 pw15 => ?_)
    obtain ⟨rfl, rfl, kw15⟩ := pw15
    refine z_aload_n hC (pc := 107) 0 dX5_next_107 rfl rfl ?_
    refine u_get hC hw15 (pc := 108) zf5 2 (hE.o5 h0) rfl dX5_next_108 zw644 (kk := fun va17 ta17 fa17 => ?_)
    obtain ⟨a17, ma17, rfl⟩ := ta17
    refine z_iload_n hC (pc := 111) 2 dX5_next_111 rfl rfl ?_
    obtain ⟨q18, hqq18⟩ := hE.o3 ma17
    refine t_callVi hC hw15 (pc := 112) (As := [.int x13]) (kX3_countOf l G T κ hst hE ma17) trivial dmX3_countOf zf3 hqq18 dX5_next_112 zw1840 rfl rfl (Nat.le_of_ble_eq_true rfl) (Nat.le_of_ble_eq_true rfl) (Nat.le_of_ble_eq_true rfl) (Nat.le_of_ble_eq_true rfl) (Nat.le_of_ble_eq_true rfl) (fun _ _ _ h => nomatch h) (fun x20 cw19 nw19 w19 hw19 pw19 => ?_)
    obtain ⟨rfl, rfl, kw19⟩ := pw19
    refine z_istore hC (pc := 115) (lv' := [(4, .int x20), (0, .ref a0), (1, .int x5), (2, .int x13), (3, .int x11)]) dX5_next_115 (by decide) rfl ?_
    have j117 : ∀ (d117 : Nat), ∀ (w21 : va_W), tW T w21 → tKeep 0x12000000000000000000000000000000400000000000000000000000000000000000000000000000000 w19 w21 → ∀ (x22 : Int32), (2 ^ 31 - (x22 : Int32).toInt).toNat ≤ d117 → zS X G 7 w21 [(0, .ref a0), (1, .int x5), (2, .int x13), (3, .int x22), (4, .int x20)] 0 0 117 [] := by
      intro d117
      induction d117 with
      | zero => intro w21 hw21 kw21 x22 hd117; exact (t_zero hd117).elim
      | succ d117 ih117 =>
        intro w21 hw21 kw21 x22 hd117
        refine z_iload_n hC (pc := 117) 3 dX5_next_117 rfl rfl ?_
        refine z_iload hC (pc := 118) 4 dX5_next_118 rfl ?_
        have j215 : zS X G 7 w21 [(0, .ref a0), (1, .int x5), (4, .int x20)] 0 0 215 [] := by
          refine z_aload_n hC (pc := 215) 0 dX5_next_215 rfl rfl ?_
          refine z_iload hC (pc := 216) 2 dX5_next_216 rfl ?_
          refine z_iload_n hC (pc := 218) 1 dX5_next_218 rfl rfl ?_
          refine t_callVv hC hw21 (pc := 219) (As := [.int x20, .int x5]) (kX5_leaveLoop l G T κ hst hE h0) trivial dmX5_leaveLoop zf5 hqq3 dX5_next_219 zw2251 rfl rfl (Nat.le_of_ble_eq_true rfl) (Nat.le_of_ble_eq_true rfl) (Nat.le_of_ble_eq_true rfl) (Nat.le_of_ble_eq_true rfl) (Nat.le_of_ble_eq_true rfl) (fun E w q hE hw => hO E w _ _ _ _ _ q hE (Nat.le_of_ble_eq_true rfl) (Nat.le_of_ble_eq_true rfl) hw) (fun cw23 nw23 w23 hw23 pw23 => ?_)
          obtain ⟨rfl, rfl, kw23⟩ := pw23
          refine z_aload_n hC (pc := 222) 0 dX5_next_222 rfl rfl ?_
          refine z_aload_n hC (pc := 223) 0 dX5_next_223 rfl rfl ?_
          refine z_iconst hC (pc := 224) (v := 2) dX5_next_224 (by decide) ?_
          refine t_callVi hC hw23 (pc := 225) (As := [.int 2]) (kX5_code l G T κ hst hE h0) trivial dmX5_code zf5 hqq3 dX5_next_225 zw2078 rfl rfl (Nat.le_of_ble_eq_true rfl) (Nat.le_of_ble_eq_true rfl) (Nat.le_of_ble_eq_true rfl) (Nat.le_of_ble_eq_true rfl) (Nat.le_of_ble_eq_true rfl) (fun _ _ _ h => nomatch h) (fun x26 cw25 nw25 w25 hw25 pw25 => ?_)
          obtain ⟨rfl, rfl, kw25⟩ := pw25
          refine u_put hC hw25 (pc := 228) zf5 8 (hE.o5 h0) rfl ⟨_, rfl⟩ dX5_next_228 zw650 rfl rfl rfl (kk := fun w27 hw27 fw27 kw27 => ?_)
          exact hR _ _ _ _ _ dX5_next_231 (Nat.le_of_ble_eq_true rfl) (Nat.le_of_ble_eq_true rfl) ⟨hw27, rfl, rfl, (tKeep.tr (tKeep.tr (tKeep.tr (tKeep.tr (tKeep.tr (tKeep.tr (tKeep.tr (tKeep.tr (tKeep.tr (tKeep.tr tKeep.rf kw4 rfl) kw8 rfl) kw10 rfl) kw12 rfl) kw15 rfl) kw19 rfl) kw21 rfl) kw23 rfl) kw25 rfl) kw27 rfl)⟩
        refine z_icmp_ge hC (pc := 120) 215 dX5_next_120 (by decide) (fun c28 => ?_) (fun c28 => ?_)
        · refine z_lvs [0, 1, 4] rfl ?_
          exact j215
        · refine z_iload_n hC (pc := 123) 1 dX5_next_123 rfl rfl ?_
          refine z_if_le hC (pc := 124) 215 dX5_next_124 (by decide) (fun c29 => ?_) (fun c29 => ?_)
          · refine z_lvs [0, 1, 4] rfl ?_
            exact j215
          · refine z_iload_n hC (pc := 127) 3 dX5_next_127 rfl rfl ?_
            refine z_iload_n hC (pc := 128) 1 dX5_next_128 rfl rfl ?_
            refine z_irem hC (pc := 129) (v := (x22 - x22 / x5 * x5)) dX5_next_129 (t_ne0 (Int32.not_le.mp c29)) rfl ?_
            generalize (x22 - x22 / x5 * x5) = x30
            refine z_istore hC (pc := 130) (lv' := [(5, .int x30), (0, .ref a0), (1, .int x5), (2, .int x13), (3, .int x22), (4, .int x20)]) dX5_next_130 (by decide) rfl ?_
            refine z_aload_n hC (pc := 132) 1 dX5_next_132 rfl rfl ?_
            refine u_getK hC (pc := 133) zf5 2 (tKeep.F kw21 (tKeep.F kw19 fa17 rfl) rfl) dX5_next_133 zw644 (kk := ?_)
            refine z_iload_n hC (pc := 136) 3 dX5_next_136 rfl rfl ?_
            refine z_iload_n hC (pc := 137) 4 dX5_next_137 rfl rfl ?_
            refine t_callVi hC hw21 (pc := 138) (As := [.int x13, .int x22]) (kX3_valueOf l G T κ hst hE ma17) trivial dmX3_valueOf zf3 hqq18 dX5_next_138 zw1871 rfl rfl (Nat.le_of_ble_eq_true rfl) (Nat.le_of_ble_eq_true rfl) (Nat.le_of_ble_eq_true rfl) (Nat.le_of_ble_eq_true rfl) (Nat.le_of_ble_eq_true rfl) (fun _ _ _ h => nomatch h) (fun x32 cw31 nw31 w31 hw31 pw31 => ?_)
            obtain ⟨rfl, rfl, kw31⟩ := pw31
            refine z_iconst hC (pc := 141) (v := (-1)) dX5_next_141 (by decide) ?_
            have j150 : ∀ (x33 : Int32), tZ (.int x33) → zS X G 7 w31 [(0, .ref a0), (1, .int x5), (2, .int x13), (3, .int x22), (4, .int x20), (5, .int x30)] 0 0 150 [.int x33] := by
              intro x33 zx33
              refine z_istore hC (pc := 150) (lv' := [(6, .int x33), (0, .ref a0), (1, .int x5), (2, .int x13), (3, .int x22), (4, .int x20), (5, .int x30)]) dX5_next_150 (by decide) rfl ?_
              refine z_iinc hC (pc := 152) (v := (x22 + 1)) (lv' := [(3, .int (x22 + 1)), (6, .int x33), (0, .ref a0), (1, .int x5), (2, .int x13), (4, .int x20), (5, .int x30)]) 4 dX5_next_152 rfl (congrArg _ (by decide)) (by decide) rfl ?_
              refine z_aload_n hC (pc := 155) 2 dX5_next_155 rfl rfl ?_
              refine u_getK hC (pc := 156) zf5 4 (tKeep.F kw31 (tKeep.F kw21 (tKeep.F kw19 (tKeep.F kw15 (tKeep.F kw12 (tKeep.F kw10 (tKeep.F kw8 fa6 rfl) rfl) rfl) rfl) rfl) rfl) rfl) dX5_next_156 zw646 (kk := ?_)
              refine z_aload_n hC (pc := 159) 2 dX5_next_159 rfl rfl ?_
              refine u_getK hC (pc := 160) zf5 13 (tKeep.F kw31 (tKeep.F kw21 (tKeep.F kw19 (tKeep.F kw15 (tKeep.F kw12 (tKeep.F kw10 (tKeep.F kw8 fx7 rfl) rfl) rfl) rfl) rfl) rfl) rfl) dX5_next_160 zw655 (kk := ?_)
              refine z_iconst hC (pc := 163) (v := 2) dX5_next_163 (by decide) ?_
              refine z_iadd hC (pc := 164) (v := (x7 + 2)) dX5_next_164 rfl ?_
              refine z_iload_n hC (pc := 165) 0 dX5_next_165 rfl rfl ?_
              refine t_callSNv hC hw31 (pc := 166) (As := [.ref a6, .int (x7 + 2), .int (x22 + 1)]) (kX12_set l G T κ hst hE ma6) trivial dmX12_set dX5_next_166 zw1882 rfl rfl (Nat.le_of_ble_eq_true rfl) (Nat.le_of_ble_eq_true rfl) (Nat.le_of_ble_eq_true rfl) (Nat.le_of_ble_eq_true rfl) (Nat.le_of_ble_eq_true rfl) (fun _ _ _ h => nomatch h) (fun cw34 nw34 w34 hw34 pw34 => ?_)
              obtain ⟨rfl, rfl, kw34⟩ := pw34
              refine z_iload hC (pc := 169) 1 dX5_next_169 rfl ?_
              have j207 : ∀ (w36 : va_W), tW T w36 → tKeep 0x0 w34 w36 → zS X G 7 w36 [(0, .ref a0), (1, .int x5), (2, .int x13), (3, .int (x22 + 1)), (4, .int x20)] 0 0 207 [] := by
                intro w36 hw36 kw36
                refine z_aload_n hC (pc := 207) 0 dX5_next_207 rfl rfl ?_
                refine z_iconst hC (pc := 208) (v := (-1)) dX5_next_208 (by decide) ?_
                refine t_callVv hC hw36 (pc := 209) (As := [.int (-1)]) (kX5_collect l G T κ hst hE h0) trivial dmX5_collect zf5 hqq3 dX5_next_209 zw2246 rfl rfl (Nat.le_of_ble_eq_true rfl) (Nat.le_of_ble_eq_true rfl) (Nat.le_of_ble_eq_true rfl) (Nat.le_of_ble_eq_true rfl) (Nat.le_of_ble_eq_true rfl) (fun E w q hE hw => hO E w _ _ _ _ _ q hE (Nat.le_of_ble_eq_true rfl) (Nat.le_of_ble_eq_true rfl) hw) (fun cw37 nw37 w37 hw37 pw37 => ?_)
                obtain ⟨rfl, rfl, kw37⟩ := pw37
                refine z_goto hC (pc := 212) 117 dX5_next_212 (by decide) ?_
                exact ih117 w37 hw37 (tKeep.tr (tKeep.tr (tKeep.tr (tKeep.tr (tKeep.tr tKeep.rf kw21 rfl) kw31 rfl) kw34 rfl) kw36 rfl) kw37 rfl) (x22 + 1) (t_up (Int32.not_le.mp c28) hd117)
              refine z_if_ne hC (pc := 171) 207 dX5_next_171 (by decide) (fun c39 => ?_) (fun c39 => ?_)
              · refine z_lvs [2, 3, 4, 0, 5] rfl ?_
                exact j207 w34 hw34 tKeep.rf
              · refine z_aload_n hC (pc := 174) 2 dX5_next_174 rfl rfl ?_
                refine u_getK hC (pc := 175) zf5 4 (tKeep.F kw34 (tKeep.F kw31 (tKeep.F kw21 (tKeep.F kw19 (tKeep.F kw15 (tKeep.F kw12 (tKeep.F kw10 (tKeep.F kw8 fa6 rfl) rfl) rfl) rfl) rfl) rfl) rfl) rfl) dX5_next_175 zw646 (kk := ?_)
                refine z_aload_n hC (pc := 178) 2 dX5_next_178 rfl rfl ?_
                refine u_getK hC (pc := 179) zf5 13 (tKeep.F kw34 (tKeep.F kw31 (tKeep.F kw21 (tKeep.F kw19 (tKeep.F kw15 (tKeep.F kw12 (tKeep.F kw10 (tKeep.F kw8 fx7 rfl) rfl) rfl) rfl) rfl) rfl) rfl) rfl) dX5_next_179 zw655 (kk := ?_)
                refine z_iconst hC (pc := 182) (v := 5) dX5_next_182 (by decide) ?_
                refine z_iadd hC (pc := 183) (v := (x7 + 5)) dX5_next_183 rfl ?_
                refine z_iload hC (pc := 184) 6 dX5_next_184 rfl ?_
                refine z_iadd hC (pc := 186) (v := ((x7 + 5) + x30)) dX5_next_186 rfl ?_
                refine t_callSNi hC hw34 (pc := 187) (As := [.ref a6, .int ((x7 + 5) + x30)]) (kX12_get l G T κ hst hE ma6) trivial dmX12_get dX5_next_187 zw1835 rfl rfl (Nat.le_of_ble_eq_true rfl) (Nat.le_of_ble_eq_true rfl) (Nat.le_of_ble_eq_true rfl) (Nat.le_of_ble_eq_true rfl) (Nat.le_of_ble_eq_true rfl) (fun _ _ _ h => nomatch h) (fun x41 cw40 nw40 w40 hw40 pw40 => ?_)
                obtain ⟨rfl, rfl, kw40⟩ := pw40
                refine z_iconst hC (pc := 190) (v := (-1)) dX5_next_190 (by decide) ?_
                refine z_icmp_eq hC (pc := 191) 207 dX5_next_191 (by decide) (fun c42 => ?_) (fun c42 => ?_)
                · refine z_lvs [2, 3, 4, 0, 5] rfl ?_
                  exact j207 w40 hw40 (tKeep.tr tKeep.rf kw40 rfl)
                · refine z_aload_n hC (pc := 194) 2 dX5_next_194 rfl rfl ?_
                  refine z_aload_n hC (pc := 195) 2 dX5_next_195 rfl rfl ?_
                  refine z_iconst hC (pc := 196) (v := 3) dX5_next_196 (by decide) ?_
                  refine z_iload hC (pc := 197) 6 dX5_next_197 rfl ?_
                  refine z_iadd hC (pc := 199) (v := ((3 : Int32) + x30)) dX5_next_199 rfl ?_
                  refine t_callVi hC hw40 (pc := 200) (As := [.int ((3 : Int32) + x30)]) (kX5_code l G T κ hst hE h0) trivial dmX5_code zf5 hqq3 dX5_next_200 zw2078 rfl rfl (Nat.le_of_ble_eq_true rfl) (Nat.le_of_ble_eq_true rfl) (Nat.le_of_ble_eq_true rfl) (Nat.le_of_ble_eq_true rfl) (Nat.le_of_ble_eq_true rfl) (fun _ _ _ h => nomatch h) (fun x44 cw43 nw43 w43 hw43 pw43 => ?_)
                  obtain ⟨rfl, rfl, kw43⟩ := pw43
                  refine u_put hC hw43 (pc := 203) zf5 8 (hE.o5 h0) rfl ⟨_, rfl⟩ dX5_next_203 zw650 rfl rfl rfl (kk := fun w45 hw45 fw45 kw45 => ?_)
                  exact hR _ _ _ _ _ dX5_next_206 (Nat.le_of_ble_eq_true rfl) (Nat.le_of_ble_eq_true rfl) ⟨hw45, rfl, rfl, (tKeep.tr (tKeep.tr (tKeep.tr (tKeep.tr (tKeep.tr (tKeep.tr (tKeep.tr (tKeep.tr (tKeep.tr (tKeep.tr (tKeep.tr (tKeep.tr tKeep.rf kw4 rfl) kw8 rfl) kw10 rfl) kw12 rfl) kw15 rfl) kw19 rfl) kw21 rfl) kw31 rfl) kw34 rfl) kw40 rfl) kw43 rfl) kw45 rfl)⟩
            refine z_icmp_ne hC (pc := 142) 149 dX5_next_142 (by decide) (fun c46 => ?_) (fun c46 => ?_)
            · refine z_iconst hC (pc := 149) (v := 0) dX5_next_149 (by decide) ?_
              refine z_lvs [1, 2, 3, 4, 5, 0] rfl ?_
              exact j150 0 (Or.inl rfl)
            · refine z_iconst hC (pc := 145) (v := 1) dX5_next_145 (by decide) ?_
              refine z_goto hC (pc := 146) 150 dX5_next_146 (by decide) ?_
              refine z_lvs [1, 2, 3, 4, 5, 0] rfl ?_
              exact j150 1 (Or.inr rfl)
    refine z_lvs [1, 2, 3, 4, 0] rfl ?_
    exact j117 _ w19 hw19 tKeep.rf x11 (Nat.le_refl _)
  refine z_if_ne hC (pc := 35) 90 dX5_next_35 (by decide) (fun c47 => ?_) (fun c47 => ?_)
  · refine z_lvs [3, 2, 1, 0] rfl ?_
    exact j90 w10 hw10 tKeep.rf x9
  · refine z_aload_n hC (pc := 38) 3 dX5_next_38 rfl rfl ?_
    refine u_get hC hw10 (pc := 39) zf5 2 (hE.o5 h0) rfl dX5_next_39 zw644 (kk := fun va48 ta48 fa48 => ?_)
    obtain ⟨a48, ma48, rfl⟩ := ta48
    refine z_iload_n hC (pc := 42) 1 dX5_next_42 rfl rfl ?_
    obtain ⟨q49, hqq49⟩ := hE.o3 ma48
    refine t_callVi hC hw10 (pc := 43) (As := [.int x9]) (kX3_opened l G T κ hst hE ma48) trivial dmX3_opened zf3 hqq49 dX5_next_43 zw1945 rfl rfl (Nat.le_of_ble_eq_true rfl) (Nat.le_of_ble_eq_true rfl) (Nat.le_of_ble_eq_true rfl) (Nat.le_of_ble_eq_true rfl) (Nat.le_of_ble_eq_true rfl) (fun E w q hE hw => hO E w _ _ _ _ _ q hE (Nat.le_of_ble_eq_true rfl) (Nat.le_of_ble_eq_true rfl) hw) (fun x51 cw50 nw50 w50 hw50 pw50 => ?_)
    obtain ⟨rfl, rfl, kw50⟩ := pw50
    refine z_istore_n hC (pc := 46) (lv' := [(2, .int x51), (3, .int x11), (1, .int x5), (0, .ref a0)]) dX5_next_46 rfl (by decide) rfl ?_
    refine z_aload_n hC (pc := 47) 3 dX5_next_47 rfl rfl ?_
    refine u_getK hC (pc := 48) zf5 4 (tKeep.F kw50 (tKeep.F kw10 (tKeep.F kw8 fa6 rfl) rfl) rfl) dX5_next_48 zw646 (kk := ?_)
    refine z_aload_n hC (pc := 51) 3 dX5_next_51 rfl rfl ?_
    refine u_getK hC (pc := 52) zf5 13 (tKeep.F kw50 (tKeep.F kw10 (tKeep.F kw8 fx7 rfl) rfl) rfl) dX5_next_52 zw655 (kk := ?_)
    refine z_iconst hC (pc := 55) (v := 1) dX5_next_55 (by decide) ?_
    refine z_iadd hC (pc := 56) (v := (x7 + 1)) dX5_next_56 rfl ?_
    refine z_iload_n hC (pc := 57) 0 dX5_next_57 rfl rfl ?_
    refine t_callSNv hC hw50 (pc := 58) (As := [.ref a6, .int (x7 + 1), .int x51]) (kX12_set l G T κ hst hE ma6) trivial dmX12_set dX5_next_58 zw1882 rfl rfl (Nat.le_of_ble_eq_true rfl) (Nat.le_of_ble_eq_true rfl) (Nat.le_of_ble_eq_true rfl) (Nat.le_of_ble_eq_true rfl) (Nat.le_of_ble_eq_true rfl) (fun _ _ _ h => nomatch h) (fun cw52 nw52 w52 hw52 pw52 => ?_)
    obtain ⟨rfl, rfl, kw52⟩ := pw52
    refine z_aload_n hC (pc := 61) 3 dX5_next_61 rfl rfl ?_
    refine u_getK hC (pc := 62) zf5 4 (tKeep.F kw52 (tKeep.F kw50 (tKeep.F kw10 (tKeep.F kw8 fa6 rfl) rfl) rfl) rfl) dX5_next_62 zw646 (kk := ?_)
    refine z_aload_n hC (pc := 65) 3 dX5_next_65 rfl rfl ?_
    refine u_getK hC (pc := 66) zf5 13 (tKeep.F kw52 (tKeep.F kw50 (tKeep.F kw10 (tKeep.F kw8 fx7 rfl) rfl) rfl) rfl) dX5_next_66 zw655 (kk := ?_)
    refine z_iconst hC (pc := 69) (v := 3) dX5_next_69 (by decide) ?_
    refine z_iadd hC (pc := 70) (v := (x7 + 3)) dX5_next_70 rfl ?_
    refine z_aload_n hC (pc := 71) 3 dX5_next_71 rfl rfl ?_
    refine u_getK hC (pc := 72) zf5 2 (tKeep.F kw52 (tKeep.F kw50 fa48 rfl) rfl) dX5_next_72 zw644 (kk := ?_)
    refine z_iload_n hC (pc := 75) 0 dX5_next_75 rfl rfl ?_
    refine t_callVi hC hw52 (pc := 76) (As := [.int x51]) (kX3_isMany l G T κ hst hE ma48) trivial dmX3_isMany zf3 hqq49 dX5_next_76 zw1925 rfl rfl (Nat.le_of_ble_eq_true rfl) (Nat.le_of_ble_eq_true rfl) (Nat.le_of_ble_eq_true rfl) (Nat.le_of_ble_eq_true rfl) (Nat.le_of_ble_eq_true rfl) (fun _ _ _ h => nomatch h) (fun x55 cw54 nw54 w54 hw54 pw54 => ?_)
    obtain ⟨rfl, rfl, kw54, zx55⟩ := pw54
    have j87 : ∀ (x56 : Int32), tZ (.int x56) → zS X G 7 w54 [(0, .ref a0), (1, .int x5), (2, .int x51), (3, .int x11)] 0 0 87 [.int x56, .int (x7 + 3), .ref a6] := by
      intro x56 zx56
      refine t_callSNv hC hw54 (pc := 87) (As := [.ref a6, .int (x7 + 3), .int x56]) (kX12_set l G T κ hst hE ma6) trivial dmX12_set dX5_next_87 zw1882 rfl rfl (Nat.le_of_ble_eq_true rfl) (Nat.le_of_ble_eq_true rfl) (Nat.le_of_ble_eq_true rfl) (Nat.le_of_ble_eq_true rfl) (Nat.le_of_ble_eq_true rfl) (fun _ _ _ h => nomatch h) (fun cw57 nw57 w57 hw57 pw57 => ?_)
      obtain ⟨rfl, rfl, kw57⟩ := pw57
      exact j90 w57 hw57 (tKeep.tr (tKeep.tr (tKeep.tr (tKeep.tr tKeep.rf kw50 rfl) kw52 rfl) kw54 rfl) kw57 rfl) x51
    refine z_if_eq hC (pc := 79) 86 dX5_next_79 (by decide) (fun c59 => ?_) (fun c59 => ?_)
    · refine z_iconst hC (pc := 86) (v := 0) dX5_next_86 (by decide) ?_
      refine z_lvs [3, 2, 0, 1] rfl ?_
      exact j87 0 (Or.inl rfl)
    · refine z_iconst hC (pc := 82) (v := 1) dX5_next_82 (by decide) ?_
      refine z_goto hC (pc := 83) 87 dX5_next_83 (by decide) ?_
      refine z_lvs [3, 2, 0, 1] rfl ?_
      exact j87 1 (Or.inr rfl)
set_option maxRecDepth 20000 in
theorem kX5_current (l : Launch) (G : zG) (T : tT) (κ : Nat → List Nat) (hst : l.stackTraces = false) (hE : tE G T κ) {a0 : Nat} (h0 : a0 ∈ κ 5) : tMi l G T yX5_current cX5_current 1 .int [] 2 43 0 0 [.ref a0] uT (uPi 0x0) := by
  refine tMi.intro hst rfl (Nat.le_of_ble_eq_true rfl) ?_
  intro w0 hw0 _ X hC hR hO hX
  refine z_aload_n hC (pc := 0) 0 dX5_current_0 rfl rfl ?_
  refine u_get hC hw0 (pc := 1) zf5 2 (hE.o5 h0) rfl dX5_current_1 zw644 (kk := fun va3 ta3 fa3 => ?_)
  obtain ⟨a3, ma3, rfl⟩ := ta3
  refine z_aload_n hC (pc := 4) 0 dX5_current_4 rfl rfl ?_
  refine u_get hC hw0 (pc := 5) zf5 4 (hE.o5 h0) rfl dX5_current_5 zw646 (kk := fun va4 ta4 fa4 => ?_)
  obtain ⟨a4, ma4, rfl⟩ := ta4
  refine z_aload_n hC (pc := 8) 0 dX5_current_8 rfl rfl ?_
  refine u_get hC hw0 (pc := 9) zf5 13 (hE.o5 h0) rfl dX5_current_9 zw655 (kk := fun vx5 tx5 fx5 => ?_)
  obtain ⟨x5, rfl⟩ := tx5
  refine z_iconst hC (pc := 12) (v := 1) dX5_current_12 (by decide) ?_
  refine z_iadd hC (pc := 13) (v := (x5 + 1)) dX5_current_13 rfl ?_
  refine t_callSNi hC hw0 (pc := 14) (As := [.ref a4, .int (x5 + 1)]) (kX12_get l G T κ hst hE ma4) trivial dmX12_get dX5_current_14 zw1835 rfl rfl (Nat.le_of_ble_eq_true rfl) (Nat.le_of_ble_eq_true rfl) (Nat.le_of_ble_eq_true rfl) (Nat.le_of_ble_eq_true rfl) (Nat.le_of_ble_eq_true rfl) (fun _ _ _ h => nomatch h) (fun x7 cw6 nw6 w6 hw6 pw6 => ?_)
  obtain ⟨rfl, rfl, kw6⟩ := pw6
  refine z_aload_n hC (pc := 17) 0 dX5_current_17 rfl rfl ?_
  refine u_getK hC (pc := 18) zf5 4 (tKeep.F kw6 fa4 rfl) dX5_current_18 zw646 (kk := ?_)
  refine z_aload_n hC (pc := 21) 0 dX5_current_21 rfl rfl ?_
  refine u_getK hC (pc := 22) zf5 13 (tKeep.F kw6 fx5 rfl) dX5_current_22 zw655 (kk := ?_)
  refine z_iconst hC (pc := 25) (v := 2) dX5_current_25 (by decide) ?_
  refine z_iadd hC (pc := 26) (v := (x5 + 2)) dX5_current_26 rfl ?_
  refine t_callSNi hC hw6 (pc := 27) (As := [.ref a4, .int (x5 + 2)]) (kX12_get l G T κ hst hE ma4) trivial dmX12_get dX5_current_27 zw1835 rfl rfl (Nat.le_of_ble_eq_true rfl) (Nat.le_of_ble_eq_true rfl) (Nat.le_of_ble_eq_true rfl) (Nat.le_of_ble_eq_true rfl) (Nat.le_of_ble_eq_true rfl) (fun _ _ _ h => nomatch h) (fun x9 cw8 nw8 w8 hw8 pw8 => ?_)
  obtain ⟨rfl, rfl, kw8⟩ := pw8
  refine z_iconst hC (pc := 30) (v := 1) dX5_current_30 (by decide) ?_
  refine z_isub hC (pc := 31) (v := (x9 - 1)) dX5_current_31 rfl ?_
  obtain ⟨q10, hqq10⟩ := hE.o3 ma3
  refine t_callVi hC hw8 (pc := 32) (As := [.int x7, .int (x9 - 1)]) (kX3_valueOf l G T κ hst hE ma3) trivial dmX3_valueOf zf3 hqq10 dX5_current_32 zw1871 rfl rfl (Nat.le_of_ble_eq_true rfl) (Nat.le_of_ble_eq_true rfl) (Nat.le_of_ble_eq_true rfl) (Nat.le_of_ble_eq_true rfl) (Nat.le_of_ble_eq_true rfl) (fun _ _ _ h => nomatch h) (fun x12 cw11 nw11 w11 hw11 pw11 => ?_)
  obtain ⟨rfl, rfl, kw11⟩ := pw11
  exact hR _ _ _ _ _ _ dX5_current_35 rfl (Nat.le_of_ble_eq_true rfl) (Nat.le_of_ble_eq_true rfl) ⟨hw11, rfl, rfl, (tKeep.tr (tKeep.tr (tKeep.tr tKeep.rf kw6 rfl) kw8 rfl) kw11 rfl)⟩
set_option maxRecDepth 20000 in
theorem kX5_eachSub (l : Launch) (G : zG) (T : tT) (κ : Nat → List Nat) (hst : l.stackTraces = false) (hE : tE G T κ) {a0 : Nat} (h0 : a0 ∈ κ 5) : tMv l G T yX5_eachSub cX5_eachSub 3 ["java/lang/IllegalStateException"] 8 123 1 6 [.ref a0] uT (uPv 0x12000000000000000000000000000000480000000000000000000000000000000000000000000000000) := by
  refine tMv.intro hst rfl (Nat.le_of_ble_eq_true rfl) ?_
  intro w0 hw0 _ X hC hR hO hX
  refine z_aload_n hC (pc := 0) 0 dX5_eachSub_0 rfl rfl ?_
  refine u_get hC hw0 (pc := 1) zf5 8 (hE.o5 h0) rfl dX5_eachSub_1 zw650 (kk := fun vx3 tx3 fx3 => ?_)
  obtain ⟨x3, rfl⟩ := tx3
  refine z_iconst hC (pc := 4) (v := 1) dX5_eachSub_4 (by decide) ?_
  refine z_iadd hC (pc := 5) (v := (x3 + 1)) dX5_eachSub_5 rfl ?_
  refine z_istore_n hC (pc := 6) (lv' := [(1, .int (x3 + 1)), (0, .ref a0)]) dX5_eachSub_6 rfl (by decide) rfl ?_
  refine z_aload_n hC (pc := 7) 1 dX5_eachSub_7 rfl rfl ?_
  refine u_get hC hw0 (pc := 8) zf5 2 (hE.o5 h0) rfl dX5_eachSub_8 zw644 (kk := fun va4 ta4 fa4 => ?_)
  obtain ⟨a4, ma4, rfl⟩ := ta4
  refine z_iload_n hC (pc := 11) 0 dX5_eachSub_11 rfl rfl ?_
  refine z_aload_n hC (pc := 12) 1 dX5_eachSub_12 rfl rfl ?_
  refine u_get hC hw0 (pc := 13) zf5 9 (hE.o5 h0) rfl dX5_eachSub_13 zw651 (kk := fun vx5 tx5 fx5 => ?_)
  obtain ⟨x5, rfl⟩ := tx5
  refine z_iconst hC (pc := 16) (v := (-1)) dX5_eachSub_16 (by decide) ?_
  obtain ⟨q6, hqq6⟩ := hE.o3 ma4
  refine t_callVi hC hw0 (pc := 17) (As := [.int (x3 + 1), .int x5, .int (-1)]) (kX3_make l G T κ hst hE ma4) trivial dmX3_make zf3 hqq6 dX5_eachSub_17 zw1816 rfl rfl (Nat.le_of_ble_eq_true rfl) (Nat.le_of_ble_eq_true rfl) (Nat.le_of_ble_eq_true rfl) (Nat.le_of_ble_eq_true rfl) (Nat.le_of_ble_eq_true rfl) (fun E w q hE hw => hO E w _ _ _ _ _ q hE (Nat.le_of_ble_eq_true rfl) (Nat.le_of_ble_eq_true rfl) hw) (fun x8 cw7 nw7 w7 hw7 pw7 => ?_)
  obtain ⟨rfl, rfl, kw7⟩ := pw7
  refine z_istore_n hC (pc := 20) (lv' := [(2, .int x8), (1, .int (x3 + 1)), (0, .ref a0)]) dX5_eachSub_20 rfl (by decide) rfl ?_
  refine z_aload_n hC (pc := 21) 2 dX5_eachSub_21 rfl rfl ?_
  refine u_get hC hw7 (pc := 22) zf5 3 (hE.o5 h0) rfl dX5_eachSub_22 zw645 (kk := fun va9 ta9 fa9 => ?_)
  obtain ⟨a9, ma9, rfl⟩ := ta9
  refine u_get hC hw7 (pc := 25) zf2 2 (hE.o2 ma9) rfl dX5_eachSub_25 zw240 (kk := fun va10 ta10 fa10 => ?_)
  obtain ⟨a10, ma10, rfl⟩ := ta10
  refine z_iload_n hC (pc := 28) 1 dX5_eachSub_28 rfl rfl ?_
  refine z_iconst hC (pc := 29) (v := 2) dX5_eachSub_29 (by decide) ?_
  refine z_iadd hC (pc := 30) (v := ((x3 + 1) + 2)) dX5_eachSub_30 rfl ?_
  refine t_callSNi hC hw7 (pc := 31) (As := [.ref a10, .int ((x3 + 1) + 2)]) (kX12_get l G T κ hst hE ma10) trivial dmX12_get dX5_eachSub_31 zw1835 rfl rfl (Nat.le_of_ble_eq_true rfl) (Nat.le_of_ble_eq_true rfl) (Nat.le_of_ble_eq_true rfl) (Nat.le_of_ble_eq_true rfl) (Nat.le_of_ble_eq_true rfl) (fun _ _ _ h => nomatch h) (fun x12 cw11 nw11 w11 hw11 pw11 => ?_)
  obtain ⟨rfl, rfl, kw11⟩ := pw11
  have j55 : ∀ (w13 : va_W), tW T w13 → tKeep 0x0 w11 w13 → zS X G 3 w13 [(0, .ref a0), (2, .int x8)] 0 0 55 [] := by
    intro w13 hw13 kw13
    refine z_aload_n hC (pc := 55) 0 dX5_eachSub_55 rfl rfl ?_
    refine z_ldc hC (pc := 56) (v := 939524096) dX5_eachSub_56 zw1906 ?_
    refine z_iload_n hC (pc := 58) 1 dX5_eachSub_58 rfl rfl ?_
    refine z_ior hC (pc := 59) (v := ((939524096 : Int32) ||| x8)) dX5_eachSub_59 rfl ?_
    obtain ⟨q14, hqq14⟩ := hE.o5 h0
    refine t_callVv hC hw13 (pc := 60) (As := [.int ((939524096 : Int32) ||| x8)]) (kX5_collect l G T κ hst hE h0) trivial dmX5_collect zf5 hqq14 dX5_eachSub_60 zw2246 rfl rfl (Nat.le_of_ble_eq_true rfl) (Nat.le_of_ble_eq_true rfl) (Nat.le_of_ble_eq_true rfl) (Nat.le_of_ble_eq_true rfl) (Nat.le_of_ble_eq_true rfl) (fun E w q hE hw => hO E w _ _ _ _ _ q hE (Nat.le_of_ble_eq_true rfl) (Nat.le_of_ble_eq_true rfl) hw) (fun cw15 nw15 w15 hw15 pw15 => ?_)
    obtain ⟨rfl, rfl, kw15⟩ := pw15
    exact hR _ _ _ _ _ dX5_eachSub_63 (Nat.le_of_ble_eq_true rfl) (Nat.le_of_ble_eq_true rfl) ⟨hw15, rfl, rfl, (tKeep.tr (tKeep.tr (tKeep.tr (tKeep.tr tKeep.rf kw7 rfl) kw11 rfl) kw13 rfl) kw15 rfl)⟩
  refine z_if_le hC (pc := 34) 55 dX5_eachSub_34 (by decide) (fun c17 => ?_) (fun c17 => ?_)
  · refine z_lvs [2, 0] rfl ?_
    exact j55 w11 hw11 tKeep.rf
  · refine z_aload_n hC (pc := 37) 2 dX5_eachSub_37 rfl rfl ?_
    refine u_getK hC (pc := 38) zf5 2 (tKeep.F kw11 (tKeep.F kw7 fa4 rfl) rfl) dX5_eachSub_38 zw644 (kk := ?_)
    refine u_get hC hw11 (pc := 41) zf3 6 (hE.o3 ma4) rfl dX5_eachSub_41 zw512 (kk := fun va18 ta18 fa18 => ?_)
    obtain ⟨a18, ma18, rfl⟩ := ta18
    refine z_iload_n hC (pc := 44) 0 dX5_eachSub_44 rfl rfl ?_
    refine z_bipush hC (pc := 45) (v := 12) dX5_eachSub_45 (by decide) ?_
    refine z_imul hC (pc := 47) (v := (x8 * 12)) dX5_eachSub_47 rfl ?_
    refine z_aload_n hC (pc := 48) 2 dX5_eachSub_48 rfl rfl ?_
    obtain ⟨q19, hqq19⟩ := hE.o5 h0
    refine t_callVi hC hw11 (pc := 49) (As := []) (kX5_current l G T κ hst hE h0) trivial dmX5_current zf5 hqq19 dX5_eachSub_49 zw2260 rfl rfl (Nat.le_of_ble_eq_true rfl) (Nat.le_of_ble_eq_true rfl) (Nat.le_of_ble_eq_true rfl) (Nat.le_of_ble_eq_true rfl) (Nat.le_of_ble_eq_true rfl) (fun _ _ _ h => nomatch h) (fun x21 cw20 nw20 w20 hw20 pw20 => ?_)
    obtain ⟨rfl, rfl, kw20⟩ := pw20
    refine t_callSNv hC hw20 (pc := 52) (As := [.ref a18, .int (x8 * 12), .int x21]) (kX12_set l G T κ hst hE ma18) trivial dmX12_set dX5_eachSub_52 zw1882 rfl rfl (Nat.le_of_ble_eq_true rfl) (Nat.le_of_ble_eq_true rfl) (Nat.le_of_ble_eq_true rfl) (Nat.le_of_ble_eq_true rfl) (Nat.le_of_ble_eq_true rfl) (fun _ _ _ h => nomatch h) (fun cw22 nw22 w22 hw22 pw22 => ?_)
    obtain ⟨rfl, rfl, kw22⟩ := pw22
    refine z_lvs [2, 0] rfl ?_
    exact j55 w22 hw22 (tKeep.tr (tKeep.tr tKeep.rf kw20 rfl) kw22 rfl)
set_option maxRecDepth 20000 in
theorem kX5_eachText (l : Launch) (G : zG) (T : tT) (κ : Nat → List Nat) (hst : l.stackTraces = false) (hE : tE G T κ) {a0 : Nat} (h0 : a0 ∈ κ 5) : tMi l G T yX5_eachText cX5_eachText 1 .int [] 2 42 0 0 [.ref a0] uT (uPi 0x0) := by
  refine tMi.intro hst rfl (Nat.le_of_ble_eq_true rfl) ?_
  intro w0 hw0 _ X hC hR hO hX
  refine z_aload_n hC (pc := 0) 0 dX5_eachText_0 rfl rfl ?_
  refine u_get hC hw0 (pc := 1) zf5 4 (hE.o5 h0) rfl dX5_eachText_1 zw646 (kk := fun va3 ta3 fa3 => ?_)
  obtain ⟨a3, ma3, rfl⟩ := ta3
  refine z_aload_n hC (pc := 4) 0 dX5_eachText_4 rfl rfl ?_
  refine u_get hC hw0 (pc := 5) zf5 13 (hE.o5 h0) rfl dX5_eachText_5 zw655 (kk := fun vx4 tx4 fx4 => ?_)
  obtain ⟨x4, rfl⟩ := tx4
  refine z_iconst hC (pc := 8) (v := 5) dX5_eachText_8 (by decide) ?_
  refine z_iadd hC (pc := 9) (v := (x4 + 5)) dX5_eachText_9 rfl ?_
  refine z_aload_n hC (pc := 10) 0 dX5_eachText_10 rfl rfl ?_
  refine z_iconst hC (pc := 11) (v := 5) dX5_eachText_11 (by decide) ?_
  obtain ⟨q5, hqq5⟩ := hE.o5 h0
  refine t_callVi hC hw0 (pc := 12) (As := [.int 5]) (kX5_code l G T κ hst hE h0) trivial dmX5_code zf5 hqq5 dX5_eachText_12 zw2078 rfl rfl (Nat.le_of_ble_eq_true rfl) (Nat.le_of_ble_eq_true rfl) (Nat.le_of_ble_eq_true rfl) (Nat.le_of_ble_eq_true rfl) (Nat.le_of_ble_eq_true rfl) (fun _ _ _ h => nomatch h) (fun x7 cw6 nw6 w6 hw6 pw6 => ?_)
  obtain ⟨rfl, rfl, kw6⟩ := pw6
  refine z_iadd hC (pc := 15) (v := ((x4 + 5) + x7)) dX5_eachText_15 rfl ?_
  refine t_callSNi hC hw6 (pc := 16) (As := [.ref a3, .int ((x4 + 5) + x7)]) (kX12_get l G T κ hst hE ma3) trivial dmX12_get dX5_eachText_16 zw1835 rfl rfl (Nat.le_of_ble_eq_true rfl) (Nat.le_of_ble_eq_true rfl) (Nat.le_of_ble_eq_true rfl) (Nat.le_of_ble_eq_true rfl) (Nat.le_of_ble_eq_true rfl) (fun _ _ _ h => nomatch h) (fun x9 cw8 nw8 w8 hw8 pw8 => ?_)
  obtain ⟨rfl, rfl, kw8⟩ := pw8
  exact hR _ _ _ _ _ _ dX5_eachText_19 rfl (Nat.le_of_ble_eq_true rfl) (Nat.le_of_ble_eq_true rfl) ⟨hw8, rfl, rfl, (tKeep.tr (tKeep.tr tKeep.rf kw6 rfl) kw8 rfl)⟩
set_option maxRecDepth 20000 in
theorem kX5_option (l : Launch) (G : zG) (T : tT) (κ : Nat → List Nat) (hst : l.stackTraces = false) (hE : tE G T κ) {a0 : Nat} (h0 : a0 ∈ κ 5) : tMv l G T yX5_option cX5_option 2 [] 2 42 0 0 [.ref a0] uT (uPv 0x12000000000000000000000000000000000000000000000000000000000000000000000000000000000) := by
  refine tMv.intro hst rfl (Nat.le_of_ble_eq_true rfl) ?_
  intro w0 hw0 _ X hC hR hO hX
  refine z_aload_n hC (pc := 0) 0 dX5_option_0 rfl rfl ?_
  obtain ⟨q3, hqq3⟩ := hE.o5 h0
  refine t_callVi hC hw0 (pc := 1) (As := []) (kX5_pop l G T κ hst hE h0) trivial dmX5_pop zf5 hqq3 dX5_option_1 zw2099 rfl rfl (Nat.le_of_ble_eq_true rfl) (Nat.le_of_ble_eq_true rfl) (Nat.le_of_ble_eq_true rfl) (Nat.le_of_ble_eq_true rfl) (Nat.le_of_ble_eq_true rfl) (fun _ _ _ h => nomatch h) (fun x5 cw4 nw4 w4 hw4 pw4 => ?_)
  obtain ⟨rfl, rfl, kw4⟩ := pw4
  refine z_istore_n hC (pc := 4) (lv' := [(1, .int x5), (0, .ref a0)]) dX5_option_4 rfl (by decide) rfl ?_
  refine z_aload_n hC (pc := 5) 1 dX5_option_5 rfl rfl ?_
  refine u_get hC hw4 (pc := 6) zf5 4 (hE.o5 h0) rfl dX5_option_6 zw646 (kk := fun va6 ta6 fa6 => ?_)
  obtain ⟨a6, ma6, rfl⟩ := ta6
  refine z_aload_n hC (pc := 9) 1 dX5_option_9 rfl rfl ?_
  refine u_get hC hw4 (pc := 10) zf5 5 (hE.o5 h0) rfl dX5_option_10 zw647 (kk := fun vx7 tx7 fx7 => ?_)
  obtain ⟨x7, rfl⟩ := tx7
  refine z_iconst hC (pc := 13) (v := 5) dX5_option_13 (by decide) ?_
  refine z_isub hC (pc := 14) (v := (x7 - 5)) dX5_option_14 rfl ?_
  refine z_aload_n hC (pc := 15) 1 dX5_option_15 rfl rfl ?_
  refine z_iconst hC (pc := 16) (v := 1) dX5_option_16 (by decide) ?_
  refine t_callVi hC hw4 (pc := 17) (As := [.int 1]) (kX5_code l G T κ hst hE h0) trivial dmX5_code zf5 hqq3 dX5_option_17 zw2078 rfl rfl (Nat.le_of_ble_eq_true rfl) (Nat.le_of_ble_eq_true rfl) (Nat.le_of_ble_eq_true rfl) (Nat.le_of_ble_eq_true rfl) (Nat.le_of_ble_eq_true rfl) (fun _ _ _ h => nomatch h) (fun x9 cw8 nw8 w8 hw8 pw8 => ?_)
  obtain ⟨rfl, rfl, kw8⟩ := pw8
  refine z_iadd hC (pc := 20) (v := ((x7 - 5) + x9)) dX5_option_20 rfl ?_
  refine z_iload_n hC (pc := 21) 0 dX5_option_21 rfl rfl ?_
  refine t_callSNv hC hw8 (pc := 22) (As := [.ref a6, .int ((x7 - 5) + x9), .int x5]) (kX12_set l G T κ hst hE ma6) trivial dmX12_set dX5_option_22 zw1882 rfl rfl (Nat.le_of_ble_eq_true rfl) (Nat.le_of_ble_eq_true rfl) (Nat.le_of_ble_eq_true rfl) (Nat.le_of_ble_eq_true rfl) (Nat.le_of_ble_eq_true rfl) (fun _ _ _ h => nomatch h) (fun cw10 nw10 w10 hw10 pw10 => ?_)
  obtain ⟨rfl, rfl, kw10⟩ := pw10
  refine z_aload_n hC (pc := 25) 1 dX5_option_25 rfl rfl ?_
  refine z_dup hC (pc := 26) dX5_option_26 rfl ?_
  refine u_get hC hw10 (pc := 27) zf5 8 (hE.o5 h0) rfl dX5_option_27 zw650 (kk := fun vx12 tx12 fx12 => ?_)
  obtain ⟨x12, rfl⟩ := tx12
  refine z_iconst hC (pc := 30) (v := 2) dX5_option_30 (by decide) ?_
  refine z_iadd hC (pc := 31) (v := (x12 + 2)) dX5_option_31 rfl ?_
  refine u_put hC hw10 (pc := 32) zf5 8 (hE.o5 h0) rfl ⟨_, rfl⟩ dX5_option_32 zw650 rfl rfl rfl (kk := fun w13 hw13 fw13 kw13 => ?_)
  exact hR _ _ _ _ _ dX5_option_35 (Nat.le_of_ble_eq_true rfl) (Nat.le_of_ble_eq_true rfl) ⟨hw13, rfl, rfl, (tKeep.tr (tKeep.tr (tKeep.tr (tKeep.tr tKeep.rf kw4 rfl) kw8 rfl) kw10 rfl) kw13 rfl)⟩
set_option maxRecDepth 20000 in
theorem kX12_run (l : Launch) (G : zG) (T : tT) (κ : Nat → List Nat) (hst : l.stackTraces = false) (hE : tE G T κ) {a0 : Nat} (h0 : a0 ∈ κ 12) {x1 : Int32} : tMi l G T yX12_run cX12_run 3 .int ["java/lang/IllegalArgumentException", "java/lang/IllegalStateException"] 6 81 1 6 [.ref a0, .int x1] uT (uPi 0x60000000000000000000000000000000000000000000000000000000000000000000000000000000000000000000000000000000000000000000000000000000000000000000000000000000000000000000000000000000000000000000000000000) := by
  refine tMi.intro hst rfl (Nat.le_of_ble_eq_true rfl) ?_
  intro w0 hw0 _ X hC hR hO hX
  refine z_iload_n hC (pc := 0) 1 dX12_run_0 rfl rfl ?_
  refine z_iconst hC (pc := 1) (v := 1) dX12_run_1 (by decide) ?_
  have j12 : zS X G 3 w0 [] 0 0 12 [] := by
    exact hX "java/lang/IllegalArgumentException" _ _ _ _ _ _ 123 125 exn (by decide) hw0 dX12_run_12 dX12_run_15 dX12_run_16 dX12_run_19 (by decide +kernel) (by decide +kernel) zw1740 zw27 atg_X12_125 atb_X12_125 ato_X12_125 (by decide) (Nat.le_of_ble_eq_true rfl) (Nat.le_of_ble_eq_true rfl) (Nat.le_of_ble_eq_true rfl)
  refine z_icmp_lt hC (pc := 2) 12 dX12_run_2 (by decide) (fun c4 => ?_) (fun c4 => ?_)
  · refine z_lvs [] rfl ?_
    exact j12
  · refine z_iload_n hC (pc := 5) 1 dX12_run_5 rfl rfl ?_
    refine z_sipush hC (pc := 6) (v := 12000) dX12_run_6 (by decide) ?_
    refine z_icmp_le hC (pc := 9) 20 dX12_run_9 (by decide) (fun c5 => ?_) (fun c5 => ?_)
    · refine z_aload_n hC (pc := 20) 0 dX12_run_20 rfl rfl ?_
      refine u_get hC hw0 (pc := 21) zf12 17 (hE.o12 h0) rfl dX12_run_21 zw725 (kk := fun vx6 tx6 fx6 => ?_)
      obtain ⟨x6, rfl⟩ := tx6
      refine z_iconst hC (pc := 24) (v := 1) dX12_run_24 (by decide) ?_
      refine z_icmp_eq hC (pc := 25) 36 dX12_run_25 (by decide) (fun c7 => ?_) (fun c7 => ?_)
      · refine z_aload_n hC (pc := 36) 0 dX12_run_36 rfl rfl ?_
        refine u_get hC hw0 (pc := 37) zf12 11 (hE.o12 h0) rfl dX12_run_37 zw719 (kk := fun va8 ta8 fa8 => ?_)
        obtain ⟨a8, ma8, rfl⟩ := ta8
        refine u_get hC hw0 (pc := 40) zf5 1 (hE.o5 ma8) rfl dX12_run_40 zw643 (kk := fun va9 ta9 fa9 => ?_)
        obtain ⟨a9, ma9, rfl⟩ := ta9
        refine u_get hC hw0 (pc := 43) zf11 3 (hE.o11 ma9) rfl dX12_run_43 zw585 (kk := fun vx10 tx10 fx10 => ?_)
        obtain ⟨x10, rfl⟩ := tx10
        refine z_istore_n hC (pc := 46) (lv' := [(2, .int x10), (0, .ref a0), (1, .int x1)]) dX12_run_46 rfl (by decide) rfl ?_
        refine z_iload_n hC (pc := 47) 0 dX12_run_47 rfl rfl ?_
        refine z_aload_n hC (pc := 48) 1 dX12_run_48 rfl rfl ?_
        refine u_get hC hw0 (pc := 49) zf12 18 (hE.o12 h0) rfl dX12_run_49 zw726 (kk := fun vx11 tx11 fx11 => ?_)
        obtain ⟨x11, rfl⟩ := tx11
        refine z_isub hC (pc := 52) (v := (x10 - x11)) dX12_run_52 rfl ?_
        refine z_iload_n hC (pc := 53) 2 dX12_run_53 rfl rfl ?_
        refine z_icmp_lt hC (pc := 54) 69 dX12_run_54 (by decide) (fun c12 => ?_) (fun c12 => ?_)
        · refine z_aload_n hC (pc := 69) 1 dX12_run_69 rfl rfl ?_
          refine z_iload_n hC (pc := 70) 0 dX12_run_70 rfl rfl ?_
          refine u_put hC hw0 (pc := 71) zf12 18 (hE.o12 h0) rfl ⟨_, rfl⟩ dX12_run_71 zw726 rfl rfl rfl (kk := fun w13 hw13 fw13 kw13 => ?_)
          refine z_aload_n hC (pc := 74) 1 dX12_run_74 rfl rfl ?_
          refine z_aload_n hC (pc := 75) 1 dX12_run_75 rfl rfl ?_
          refine u_getK hC (pc := 76) zf12 11 (tKeep.F kw13 fa8 rfl) dX12_run_76 zw719 (kk := ?_)
          refine u_get hC hw13 (pc := 79) zf5 19 (hE.o5 ma8) rfl dX12_run_79 zw662 (kk := fun vx14 tx14 fx14 => ?_)
          obtain ⟨x14, rfl, zx14⟩ := t_zof tx14
          have j90 : ∀ (x15 : Int32), zS X G 3 w13 [(0, .ref a0)] 0 0 90 [.int x15, .ref a0] := by
            intro x15
            refine u_put hC hw13 (pc := 90) zf12 17 (hE.o12 h0) rfl ⟨_, rfl⟩ dX12_run_90 zw725 rfl rfl rfl (kk := fun w16 hw16 fw16 kw16 => ?_)
            refine z_aload_n hC (pc := 93) 0 dX12_run_93 rfl rfl ?_
            refine u_getK hC (pc := 94) zf12 17 fw16 dX12_run_94 zw725 (kk := ?_)
            refine z_iconst hC (pc := 97) (v := 1) dX12_run_97 (by decide) ?_
            refine z_isub hC (pc := 98) (v := (x15 - 1)) dX12_run_98 rfl ?_
            exact hR _ _ _ _ _ _ dX12_run_99 rfl (Nat.le_of_ble_eq_true rfl) (Nat.le_of_ble_eq_true rfl) ⟨hw16, rfl, rfl, (tKeep.tr (tKeep.tr tKeep.rf kw13 rfl) kw16 rfl)⟩
          refine z_if_eq hC (pc := 82) 89 dX12_run_82 (by decide) (fun c17 => ?_) (fun c17 => ?_)
          · refine z_iconst hC (pc := 89) (v := 2) dX12_run_89 (by decide) ?_
            refine z_lvs [1] rfl ?_
            exact j90 2
          · refine z_iconst hC (pc := 85) (v := 3) dX12_run_85 (by decide) ?_
            refine z_goto hC (pc := 86) 90 dX12_run_86 (by decide) ?_
            refine z_lvs [1] rfl ?_
            exact j90 3
        · refine z_aload_n hC (pc := 57) 1 dX12_run_57 rfl rfl ?_
          refine z_dup hC (pc := 58) dX12_run_58 rfl ?_
          refine u_getK hC (pc := 59) zf12 18 fx11 dX12_run_59 zw726 (kk := ?_)
          refine z_iload_n hC (pc := 62) 2 dX12_run_62 rfl rfl ?_
          refine z_iadd hC (pc := 63) (v := (x11 + x1)) dX12_run_63 rfl ?_
          refine u_put hC hw0 (pc := 64) zf12 18 (hE.o12 h0) rfl ⟨_, rfl⟩ dX12_run_64 zw726 rfl rfl rfl (kk := fun w18 hw18 fw18 kw18 => ?_)
          refine z_iconst hC (pc := 67) (v := 0) dX12_run_67 (by decide) ?_
          exact hR _ _ _ _ _ _ dX12_run_68 rfl (Nat.le_of_ble_eq_true rfl) (Nat.le_of_ble_eq_true rfl) ⟨hw18, rfl, rfl, (tKeep.tr tKeep.rf kw18 rfl)⟩
      · exact hX "java/lang/IllegalStateException" _ _ _ _ _ _ 154 196 exn (by decide) hw0 dX12_run_28 dX12_run_31 dX12_run_32 dX12_run_35 (by decide +kernel) (by decide +kernel) zw936 zw20 atg_X12_196 atb_X12_196 ato_X12_196 (by decide) (Nat.le_of_ble_eq_true rfl) (Nat.le_of_ble_eq_true rfl) (Nat.le_of_ble_eq_true rfl)
    · refine z_lvs [] rfl ?_
      exact j12
set_option maxRecDepth 20000 in
theorem kX12_stop (l : Launch) (G : zG) (T : tT) (κ : Nat → List Nat) (hst : l.stackTraces = false) (hE : tE G T κ) {a0 : Nat} (h0 : a0 ∈ κ 12) : tMi l G T yX12_stop cX12_stop 1 .boolean [] 0 0 0 0 [.ref a0] uT (uPz 0x20000000000000000000000000000000000000000000000000000000000000000000000000000000000000000000000000000000000000000000000000000000000000000000000000000000000000000000000000000000000000000000000000000) := by
  refine tMi.intro hst rfl (Nat.le_of_ble_eq_true rfl) ?_
  intro w0 hw0 _ X hC hR hO hX
  refine z_aload_n hC (pc := 0) 0 dX12_stop_0 rfl rfl ?_
  refine u_get hC hw0 (pc := 1) zf12 17 (hE.o12 h0) rfl dX12_stop_1 zw725 (kk := fun vx3 tx3 fx3 => ?_)
  obtain ⟨x3, rfl⟩ := tx3
  refine z_iconst hC (pc := 4) (v := 1) dX12_stop_4 (by decide) ?_
  refine z_icmp_eq hC (pc := 5) 10 dX12_stop_5 (by decide) (fun c4 => ?_) (fun c4 => ?_)
  · refine z_aload_n hC (pc := 10) 0 dX12_stop_10 rfl rfl ?_
    refine z_iconst hC (pc := 11) (v := 4) dX12_stop_11 (by decide) ?_
    refine u_put hC hw0 (pc := 12) zf12 17 (hE.o12 h0) rfl ⟨_, rfl⟩ dX12_stop_12 zw725 rfl rfl rfl (kk := fun w5 hw5 fw5 kw5 => ?_)
    refine z_iconst hC (pc := 15) (v := 1) dX12_stop_15 (by decide) ?_
    exact hR _ _ _ _ _ _ dX12_stop_16 rfl (Nat.le_of_ble_eq_true rfl) (Nat.le_of_ble_eq_true rfl) ⟨hw5, rfl, rfl, (tKeep.tr tKeep.rf kw5 rfl), (Or.inr rfl)⟩
  · refine z_iconst hC (pc := 8) (v := 0) dX12_stop_8 (by decide) ?_
    exact hR _ _ _ _ _ _ dX12_stop_9 rfl (Nat.le_of_ble_eq_true rfl) (Nat.le_of_ble_eq_true rfl) ⟨hw0, rfl, rfl, tKeep.rf, (Or.inl rfl)⟩
set_option maxRecDepth 20000 in
theorem kX12_byteOf (l : Launch) (G : zG) (T : tT) (κ : Nat → List Nat) (hst : l.stackTraces = false) (hE : tE G T κ) {a0 : Nat} (h0 : a0 ∈ κ 12) {x1 : Int32} : tMi l G T yX12_byteOf cX12_byteOf 2 .int [] 1 21 0 0 [.ref a0, .int x1] uT (uPi 0x0) := by
  refine tMi.intro hst rfl (Nat.le_of_ble_eq_true rfl) ?_
  intro w0 hw0 _ X hC hR hO hX
  refine z_aload_n hC (pc := 0) 0 dX12_byteOf_0 rfl rfl ?_
  refine u_get hC hw0 (pc := 1) zf12 17 (hE.o12 h0) rfl dX12_byteOf_1 zw725 (kk := fun vx4 tx4 fx4 => ?_)
  obtain ⟨x4, rfl⟩ := tx4
  have j37 : ∀ (w5 : va_W), tW T w5 → tKeep 0x0 w0 w5 → ∀ (x6 : Int32), zS X G 2 w5 [] 0 0 37 [.int x6] := by
    intro w5 hw5 kw5 x6
    exact hR _ _ _ _ _ _ dX12_byteOf_37 rfl (Nat.le_of_ble_eq_true rfl) (Nat.le_of_ble_eq_true rfl) ⟨hw5, rfl, rfl, (tKeep.tr tKeep.rf kw5 rfl)⟩
  have j19 : zS X G 2 w0 [] 0 0 19 [] := by
    refine z_iconst hC (pc := 19) (v := (-1)) dX12_byteOf_19 (by decide) ?_
    refine z_goto hC (pc := 20) 37 dX12_byteOf_20 (by decide) ?_
    exact j37 w0 hw0 tKeep.rf (-1)
  refine z_if_eq hC (pc := 4) 19 dX12_byteOf_4 (by decide) (fun c7 => ?_) (fun c7 => ?_)
  · refine z_lvs [] rfl ?_
    exact j19
  · refine z_iload_n hC (pc := 7) 1 dX12_byteOf_7 rfl rfl ?_
    refine z_if_lt hC (pc := 8) 19 dX12_byteOf_8 (by decide) (fun c8 => ?_) (fun c8 => ?_)
    · refine z_lvs [] rfl ?_
      exact j19
    · refine z_iload_n hC (pc := 11) 1 dX12_byteOf_11 rfl rfl ?_
      refine z_aload_n hC (pc := 12) 0 dX12_byteOf_12 rfl rfl ?_
      refine u_get hC hw0 (pc := 13) zf12 18 (hE.o12 h0) rfl dX12_byteOf_13 zw726 (kk := fun vx9 tx9 fx9 => ?_)
      obtain ⟨x9, rfl⟩ := tx9
      refine z_icmp_lt hC (pc := 16) 23 dX12_byteOf_16 (by decide) (fun c10 => ?_) (fun c10 => ?_)
      · refine z_aload_n hC (pc := 23) 0 dX12_byteOf_23 rfl rfl ?_
        refine u_get hC hw0 (pc := 24) zf12 11 (hE.o12 h0) rfl dX12_byteOf_24 zw719 (kk := fun va11 ta11 fa11 => ?_)
        obtain ⟨a11, ma11, rfl⟩ := ta11
        refine u_get hC hw0 (pc := 27) zf5 1 (hE.o5 ma11) rfl dX12_byteOf_27 zw643 (kk := fun va12 ta12 fa12 => ?_)
        obtain ⟨a12, ma12, rfl⟩ := ta12
        refine u_get hC hw0 (pc := 30) zf11 1 (hE.o11 ma12) rfl dX12_byteOf_30 zw581 (kk := fun va13 ta13 fa13 => ?_)
        obtain ⟨a13, ma13, rfl⟩ := ta13
        refine z_iload_n hC (pc := 33) 1 dX12_byteOf_33 rfl rfl ?_
        refine t_callSi hC hw0 (pc := 34) (As := [.ref a13, .int x1]) (kX12_getByte l G T κ hst hE (Or.inl (hE.sub12 ma13))) trivial dmX12_getByte dX12_byteOf_34 zw781 rfl rfl (Nat.le_of_ble_eq_true rfl) (Nat.le_of_ble_eq_true rfl) (Nat.le_of_ble_eq_true rfl) (Nat.le_of_ble_eq_true rfl) (Nat.le_of_ble_eq_true rfl) (fun _ _ _ h => nomatch h) (fun x15 cw14 nw14 w14 hw14 pw14 => ?_)
        obtain ⟨rfl, rfl, kw14⟩ := pw14
        refine z_lvs [] rfl ?_
        exact j37 w14 hw14 (tKeep.tr tKeep.rf kw14 rfl) x15
      · refine z_lvs [] rfl ?_
        exact j19
set_option maxRecDepth 20000 in
theorem kX12_told (l : Launch) (G : zG) (T : tT) (κ : Nat → List Nat) (hst : l.stackTraces = false) (hE : tE G T κ) {a0 : Nat} (h0 : a0 ∈ κ 12) {x1 : Int32} : tMi l G T yX12_told cX12_told 2 .int [] 1 21 0 0 [.ref a0, .int x1] uT (uPi 0x0) := by
  refine tMi.intro hst rfl (Nat.le_of_ble_eq_true rfl) ?_
  intro w0 hw0 _ X hC hR hO hX
  refine z_aload_n hC (pc := 0) 0 dX12_told_0 rfl rfl ?_
  refine u_get hC hw0 (pc := 1) zf12 17 (hE.o12 h0) rfl dX12_told_1 zw725 (kk := fun vx4 tx4 fx4 => ?_)
  obtain ⟨x4, rfl⟩ := tx4
  refine z_if_ne hC (pc := 4) 9 dX12_told_4 (by decide) (fun c5 => ?_) (fun c5 => ?_)
  · refine z_aload_n hC (pc := 9) 0 dX12_told_9 rfl rfl ?_
    refine u_getK hC (pc := 10) zf12 17 fx4 dX12_told_10 zw725 (kk := ?_)
    refine z_iconst hC (pc := 13) (v := 2) dX12_told_13 (by decide) ?_
    have j25 : zS X G 2 w0 [(0, .ref a0), (1, .int x1)] 0 0 25 [] := by
      refine z_aload_n hC (pc := 25) 0 dX12_told_25 rfl rfl ?_
      refine u_get hC hw0 (pc := 26) zf12 11 (hE.o12 h0) rfl dX12_told_26 zw719 (kk := fun va6 ta6 fa6 => ?_)
      obtain ⟨a6, ma6, rfl⟩ := ta6
      refine u_get hC hw0 (pc := 29) zf5 0 (hE.o5 ma6) rfl dX12_told_29 zw641 (kk := fun va7 ta7 fa7 => ?_)
      obtain ⟨a7, ma7, rfl⟩ := ta7
      refine u_get hC hw0 (pc := 32) zf9 2 (hE.o9 ma7) rfl dX12_told_32 zw486 (kk := fun va8 ta8 fa8 => ?_)
      obtain ⟨a8, ma8, rfl⟩ := ta8
      refine z_iload_n hC (pc := 35) 1 dX12_told_35 rfl rfl ?_
      refine t_callSi hC hw0 (pc := 36) (As := [.ref a8, .int x1]) (kX12_get l G T κ hst hE (hE.sub3 ma8)) trivial dmX12_get dX12_told_36 zw915 rfl rfl (Nat.le_of_ble_eq_true rfl) (Nat.le_of_ble_eq_true rfl) (Nat.le_of_ble_eq_true rfl) (Nat.le_of_ble_eq_true rfl) (Nat.le_of_ble_eq_true rfl) (fun _ _ _ h => nomatch h) (fun x10 cw9 nw9 w9 hw9 pw9 => ?_)
      obtain ⟨rfl, rfl, kw9⟩ := pw9
      exact hR _ _ _ _ _ _ dX12_told_39 rfl (Nat.le_of_ble_eq_true rfl) (Nat.le_of_ble_eq_true rfl) ⟨hw9, rfl, rfl, (tKeep.tr tKeep.rf kw9 rfl)⟩
    refine z_icmp_eq hC (pc := 14) 25 dX12_told_14 (by decide) (fun c11 => ?_) (fun c11 => ?_)
    · exact j25
    · refine z_aload_n hC (pc := 17) 0 dX12_told_17 rfl rfl ?_
      refine u_getK hC (pc := 18) zf12 17 fx4 dX12_told_18 zw725 (kk := ?_)
      refine z_iconst hC (pc := 21) (v := 3) dX12_told_21 (by decide) ?_
      refine z_icmp_ne hC (pc := 22) 40 dX12_told_22 (by decide) (fun c12 => ?_) (fun c12 => ?_)
      · refine z_aload_n hC (pc := 40) 0 dX12_told_40 rfl rfl ?_
        refine u_get hC hw0 (pc := 41) zf12 18 (hE.o12 h0) rfl dX12_told_41 zw726 (kk := fun vx13 tx13 fx13 => ?_)
        obtain ⟨x13, rfl⟩ := tx13
        refine z_if_ne hC (pc := 44) 64 dX12_told_44 (by decide) (fun c14 => ?_) (fun c14 => ?_)
        · refine z_aload_n hC (pc := 64) 0 dX12_told_64 rfl rfl ?_
          refine u_get hC hw0 (pc := 65) zf12 11 (hE.o12 h0) rfl dX12_told_65 zw719 (kk := fun va15 ta15 fa15 => ?_)
          obtain ⟨a15, ma15, rfl⟩ := ta15
          refine u_get hC hw0 (pc := 68) zf5 1 (hE.o5 ma15) rfl dX12_told_68 zw643 (kk := fun va16 ta16 fa16 => ?_)
          obtain ⟨a16, ma16, rfl⟩ := ta16
          refine u_get hC hw0 (pc := 71) zf11 2 (hE.o11 ma16) rfl dX12_told_71 zw583 (kk := fun va17 ta17 fa17 => ?_)
          obtain ⟨a17, ma17, rfl⟩ := ta17
          refine z_iconst hC (pc := 74) (v := 3) dX12_told_74 (by decide) ?_
          refine z_aload_n hC (pc := 75) 0 dX12_told_75 rfl rfl ?_
          refine u_getK hC (pc := 76) zf12 18 fx13 dX12_told_76 zw726 (kk := ?_)
          refine z_iconst hC (pc := 79) (v := 1) dX12_told_79 (by decide) ?_
          refine z_isub hC (pc := 80) (v := (x13 - 1)) dX12_told_80 rfl ?_
          refine z_imul hC (pc := 81) (v := ((3 : Int32) * (x13 - 1))) dX12_told_81 rfl ?_
          refine z_iload_n hC (pc := 82) 1 dX12_told_82 rfl rfl ?_
          refine z_iadd hC (pc := 83) (v := (((3 : Int32) * (x13 - 1)) + x1)) dX12_told_83 rfl ?_
          refine t_callSi hC hw0 (pc := 84) (As := [.ref a17, .int (((3 : Int32) * (x13 - 1)) + x1)]) (kX12_get l G T κ hst hE ma17) trivial dmX12_get dX12_told_84 zw915 rfl rfl (Nat.le_of_ble_eq_true rfl) (Nat.le_of_ble_eq_true rfl) (Nat.le_of_ble_eq_true rfl) (Nat.le_of_ble_eq_true rfl) (Nat.le_of_ble_eq_true rfl) (fun _ _ _ h => nomatch h) (fun x19 cw18 nw18 w18 hw18 pw18 => ?_)
          obtain ⟨rfl, rfl, kw18⟩ := pw18
          exact hR _ _ _ _ _ _ dX12_told_87 rfl (Nat.le_of_ble_eq_true rfl) (Nat.le_of_ble_eq_true rfl) ⟨hw18, rfl, rfl, (tKeep.tr tKeep.rf kw18 rfl)⟩
        · refine z_iload_n hC (pc := 47) 1 dX12_told_47 rfl rfl ?_
          refine z_iconst hC (pc := 48) (v := 2) dX12_told_48 (by decide) ?_
          have j63 : ∀ (x20 : Int32), zS X G 2 w0 [] 0 0 63 [.int x20] := by
            intro x20
            exact hR _ _ _ _ _ _ dX12_told_63 rfl (Nat.le_of_ble_eq_true rfl) (Nat.le_of_ble_eq_true rfl) ⟨hw0, rfl, rfl, tKeep.rf⟩
          refine z_icmp_ne hC (pc := 49) 62 dX12_told_49 (by decide) (fun c21 => ?_) (fun c21 => ?_)
          · refine z_iconst hC (pc := 62) (v := 0) dX12_told_62 (by decide) ?_
            refine z_lvs [] rfl ?_
            exact j63 0
          · refine z_aload_n hC (pc := 52) 0 dX12_told_52 rfl rfl ?_
            refine u_get hC hw0 (pc := 53) zf12 11 (hE.o12 h0) rfl dX12_told_53 zw719 (kk := fun va22 ta22 fa22 => ?_)
            obtain ⟨a22, ma22, rfl⟩ := ta22
            refine u_get hC hw0 (pc := 56) zf5 20 (hE.o5 ma22) rfl dX12_told_56 zw664 (kk := fun vx23 tx23 fx23 => ?_)
            obtain ⟨x23, rfl⟩ := tx23
            refine z_goto hC (pc := 59) 63 dX12_told_59 (by decide) ?_
            refine z_lvs [] rfl ?_
            exact j63 x23
      · exact j25
  · refine z_iconst hC (pc := 7) (v := 0) dX12_told_7 (by decide) ?_
    exact hR _ _ _ _ _ _ dX12_told_8 rfl (Nat.le_of_ble_eq_true rfl) (Nat.le_of_ble_eq_true rfl) ⟨hw0, rfl, rfl, tKeep.rf⟩
set_option maxRecDepth 20000 in
theorem kX12_error (l : Launch) (G : zG) (T : tT) (κ : Nat → List Nat) (hst : l.stackTraces = false) (hE : tE G T κ) {a0 : Nat} (h0 : a0 ∈ κ 12) {x1 : Int32} {x2 : Int32} : tMi l G T yX12_error cX12_error 3 .int [] 2 42 0 0 [.ref a0, .int x1, .int x2] uT (uPi 0x0) := by
  refine tMi.intro hst rfl (Nat.le_of_ble_eq_true rfl) ?_
  intro w0 hw0 _ X hC hR hO hX
  refine z_iload_n hC (pc := 0) 1 dX12_error_0 rfl rfl ?_
  have j29 : ∀ (w5 : va_W), tW T w5 → tKeep 0x0 w0 w5 → zS X G 3 w5 [] 0 0 29 [] := by
    intro w5 hw5 kw5
    refine z_iconst hC (pc := 29) (v := (-1)) dX12_error_29 (by decide) ?_
    exact hR _ _ _ _ _ _ dX12_error_30 rfl (Nat.le_of_ble_eq_true rfl) (Nat.le_of_ble_eq_true rfl) ⟨hw5, rfl, rfl, (tKeep.tr tKeep.rf kw5 rfl)⟩
  refine z_if_lt hC (pc := 1) 29 dX12_error_1 (by decide) (fun c6 => ?_) (fun c6 => ?_)
  · refine z_lvs [] rfl ?_
    exact j29 w0 hw0 tKeep.rf
  · refine z_iload_n hC (pc := 4) 1 dX12_error_4 rfl rfl ?_
    refine z_sipush hC (pc := 5) (v := 400) dX12_error_5 (by decide) ?_
    refine z_icmp_ge hC (pc := 8) 29 dX12_error_8 (by decide) (fun c7 => ?_) (fun c7 => ?_)
    · refine z_lvs [] rfl ?_
      exact j29 w0 hw0 tKeep.rf
    · refine z_iload_n hC (pc := 11) 2 dX12_error_11 rfl rfl ?_
      refine z_if_lt hC (pc := 12) 29 dX12_error_12 (by decide) (fun c8 => ?_) (fun c8 => ?_)
      · refine z_lvs [] rfl ?_
        exact j29 w0 hw0 tKeep.rf
      · refine z_iload_n hC (pc := 15) 2 dX12_error_15 rfl rfl ?_
        refine z_iconst hC (pc := 16) (v := 2) dX12_error_16 (by decide) ?_
        refine z_icmp_gt hC (pc := 17) 29 dX12_error_17 (by decide) (fun c9 => ?_) (fun c9 => ?_)
        · refine z_lvs [] rfl ?_
          exact j29 w0 hw0 tKeep.rf
        · refine z_iload_n hC (pc := 20) 1 dX12_error_20 rfl rfl ?_
          refine z_aload_n hC (pc := 21) 0 dX12_error_21 rfl rfl ?_
          refine z_iconst hC (pc := 22) (v := 0) dX12_error_22 (by decide) ?_
          obtain ⟨q10, hqq10⟩ := hE.o12 h0
          refine t_callVi hC hw0 (pc := 23) (As := [.int 0]) (kX12_told l G T κ hst hE h0) trivial dmX12_told zf12 hqq10 dX12_error_23 zw911 rfl rfl (Nat.le_of_ble_eq_true rfl) (Nat.le_of_ble_eq_true rfl) (Nat.le_of_ble_eq_true rfl) (Nat.le_of_ble_eq_true rfl) (Nat.le_of_ble_eq_true rfl) (fun _ _ _ h => nomatch h) (fun x12 cw11 nw11 w11 hw11 pw11 => ?_)
          obtain ⟨rfl, rfl, kw11⟩ := pw11
          refine z_icmp_lt hC (pc := 26) 31 dX12_error_26 (by decide) (fun c13 => ?_) (fun c13 => ?_)
          · refine z_aload_n hC (pc := 31) 0 dX12_error_31 rfl rfl ?_
            refine u_get hC hw11 (pc := 32) zf12 11 (hE.o12 h0) rfl dX12_error_32 zw719 (kk := fun va14 ta14 fa14 => ?_)
            obtain ⟨a14, ma14, rfl⟩ := ta14
            refine u_get hC hw11 (pc := 35) zf5 0 (hE.o5 ma14) rfl dX12_error_35 zw641 (kk := fun va15 ta15 fa15 => ?_)
            obtain ⟨a15, ma15, rfl⟩ := ta15
            refine u_get hC hw11 (pc := 38) zf9 0 (hE.o9 ma15) rfl dX12_error_38 zw479 (kk := fun va16 ta16 fa16 => ?_)
            obtain ⟨a16, ma16, rfl⟩ := ta16
            refine z_iconst hC (pc := 41) (v := 3) dX12_error_41 (by decide) ?_
            refine z_iload_n hC (pc := 42) 1 dX12_error_42 rfl rfl ?_
            refine z_imul hC (pc := 43) (v := ((3 : Int32) * x1)) dX12_error_43 rfl ?_
            refine z_iload_n hC (pc := 44) 2 dX12_error_44 rfl rfl ?_
            refine z_iadd hC (pc := 45) (v := (((3 : Int32) * x1) + x2)) dX12_error_45 rfl ?_
            refine t_callSi hC hw11 (pc := 46) (As := [.ref a16, .int (((3 : Int32) * x1) + x2)]) (kX12_get l G T κ hst hE ma16) trivial dmX12_get dX12_error_46 zw915 rfl rfl (Nat.le_of_ble_eq_true rfl) (Nat.le_of_ble_eq_true rfl) (Nat.le_of_ble_eq_true rfl) (Nat.le_of_ble_eq_true rfl) (Nat.le_of_ble_eq_true rfl) (fun _ _ _ h => nomatch h) (fun x18 cw17 nw17 w17 hw17 pw17 => ?_)
            obtain ⟨rfl, rfl, kw17⟩ := pw17
            exact hR _ _ _ _ _ _ dX12_error_49 rfl (Nat.le_of_ble_eq_true rfl) (Nat.le_of_ble_eq_true rfl) ⟨hw17, rfl, rfl, (tKeep.tr (tKeep.tr tKeep.rf kw11 rfl) kw17 rfl)⟩
          · refine z_lvs [] rfl ?_
            exact j29 w11 hw11 (tKeep.tr tKeep.rf kw11 rfl)
set_option maxRecDepth 20000 in
theorem kX12_looked (l : Launch) (G : zG) (T : tT) (κ : Nat → List Nat) (hst : l.stackTraces = false) (hE : tE G T κ) {a0 : Nat} (h0 : a0 ∈ κ 12) {x1 : Int32} {x2 : Int32} : tMi l G T yX12_looked cX12_looked 3 .int [] 2 42 0 0 [.ref a0, .int x1, .int x2] uT (uPi 0x0) := by
  refine tMi.intro hst rfl (Nat.le_of_ble_eq_true rfl) ?_
  intro w0 hw0 _ X hC hR hO hX
  refine z_iload_n hC (pc := 0) 1 dX12_looked_0 rfl rfl ?_
  have j29 : ∀ (w5 : va_W), tW T w5 → tKeep 0x0 w0 w5 → zS X G 3 w5 [] 0 0 29 [] := by
    intro w5 hw5 kw5
    refine z_bipush hC (pc := 29) (v := (-2)) dX12_looked_29 (by decide) ?_
    exact hR _ _ _ _ _ _ dX12_looked_31 rfl (Nat.le_of_ble_eq_true rfl) (Nat.le_of_ble_eq_true rfl) ⟨hw5, rfl, rfl, (tKeep.tr tKeep.rf kw5 rfl)⟩
  refine z_if_lt hC (pc := 1) 29 dX12_looked_1 (by decide) (fun c6 => ?_) (fun c6 => ?_)
  · refine z_lvs [] rfl ?_
    exact j29 w0 hw0 tKeep.rf
  · refine z_iload_n hC (pc := 4) 1 dX12_looked_4 rfl rfl ?_
    refine z_sipush hC (pc := 5) (v := 1000) dX12_looked_5 (by decide) ?_
    refine z_icmp_ge hC (pc := 8) 29 dX12_looked_8 (by decide) (fun c7 => ?_) (fun c7 => ?_)
    · refine z_lvs [] rfl ?_
      exact j29 w0 hw0 tKeep.rf
    · refine z_iload_n hC (pc := 11) 2 dX12_looked_11 rfl rfl ?_
      refine z_if_lt hC (pc := 12) 29 dX12_looked_12 (by decide) (fun c8 => ?_) (fun c8 => ?_)
      · refine z_lvs [] rfl ?_
        exact j29 w0 hw0 tKeep.rf
      · refine z_iload_n hC (pc := 15) 2 dX12_looked_15 rfl rfl ?_
        refine z_iconst hC (pc := 16) (v := 1) dX12_looked_16 (by decide) ?_
        refine z_icmp_gt hC (pc := 17) 29 dX12_looked_17 (by decide) (fun c9 => ?_) (fun c9 => ?_)
        · refine z_lvs [] rfl ?_
          exact j29 w0 hw0 tKeep.rf
        · refine z_iload_n hC (pc := 20) 1 dX12_looked_20 rfl rfl ?_
          refine z_aload_n hC (pc := 21) 0 dX12_looked_21 rfl rfl ?_
          refine z_iconst hC (pc := 22) (v := 1) dX12_looked_22 (by decide) ?_
          obtain ⟨q10, hqq10⟩ := hE.o12 h0
          refine t_callVi hC hw0 (pc := 23) (As := [.int 1]) (kX12_told l G T κ hst hE h0) trivial dmX12_told zf12 hqq10 dX12_looked_23 zw911 rfl rfl (Nat.le_of_ble_eq_true rfl) (Nat.le_of_ble_eq_true rfl) (Nat.le_of_ble_eq_true rfl) (Nat.le_of_ble_eq_true rfl) (Nat.le_of_ble_eq_true rfl) (fun _ _ _ h => nomatch h) (fun x12 cw11 nw11 w11 hw11 pw11 => ?_)
          obtain ⟨rfl, rfl, kw11⟩ := pw11
          refine z_icmp_lt hC (pc := 26) 32 dX12_looked_26 (by decide) (fun c13 => ?_) (fun c13 => ?_)
          · refine z_aload_n hC (pc := 32) 0 dX12_looked_32 rfl rfl ?_
            refine u_get hC hw11 (pc := 33) zf12 11 (hE.o12 h0) rfl dX12_looked_33 zw719 (kk := fun va14 ta14 fa14 => ?_)
            obtain ⟨a14, ma14, rfl⟩ := ta14
            refine u_get hC hw11 (pc := 36) zf5 0 (hE.o5 ma14) rfl dX12_looked_36 zw641 (kk := fun va15 ta15 fa15 => ?_)
            obtain ⟨a15, ma15, rfl⟩ := ta15
            refine u_get hC hw11 (pc := 39) zf9 1 (hE.o9 ma15) rfl dX12_looked_39 zw481 (kk := fun va16 ta16 fa16 => ?_)
            obtain ⟨a16, ma16, rfl⟩ := ta16
            refine z_iconst hC (pc := 42) (v := 2) dX12_looked_42 (by decide) ?_
            refine z_iload_n hC (pc := 43) 1 dX12_looked_43 rfl rfl ?_
            refine z_imul hC (pc := 44) (v := ((2 : Int32) * x1)) dX12_looked_44 rfl ?_
            refine z_iload_n hC (pc := 45) 2 dX12_looked_45 rfl rfl ?_
            refine z_iadd hC (pc := 46) (v := (((2 : Int32) * x1) + x2)) dX12_looked_46 rfl ?_
            refine t_callSi hC hw11 (pc := 47) (As := [.ref a16, .int (((2 : Int32) * x1) + x2)]) (kX12_get l G T κ hst hE ma16) trivial dmX12_get dX12_looked_47 zw915 rfl rfl (Nat.le_of_ble_eq_true rfl) (Nat.le_of_ble_eq_true rfl) (Nat.le_of_ble_eq_true rfl) (Nat.le_of_ble_eq_true rfl) (Nat.le_of_ble_eq_true rfl) (fun _ _ _ h => nomatch h) (fun x18 cw17 nw17 w17 hw17 pw17 => ?_)
            obtain ⟨rfl, rfl, kw17⟩ := pw17
            exact hR _ _ _ _ _ _ dX12_looked_50 rfl (Nat.le_of_ble_eq_true rfl) (Nat.le_of_ble_eq_true rfl) ⟨hw17, rfl, rfl, (tKeep.tr (tKeep.tr tKeep.rf kw11 rfl) kw17 rfl)⟩
          · refine z_lvs [] rfl ?_
            exact j29 w11 hw11 (tKeep.tr tKeep.rf kw11 rfl)
set_option maxRecDepth 20000 in
theorem kX12_look (l : Launch) (G : zG) (T : tT) (κ : Nat → List Nat) (hst : l.stackTraces = false) (hE : tE G T κ) {a0 : Nat} (h0 : a0 ∈ κ 12) {x1 : Int32} : tMi l G T yX12_look cX12_look 2 .int [] 2 42 0 0 [.ref a0, .int x1] uT (uPi 0x0) := by
  refine tMi.intro hst rfl (Nat.le_of_ble_eq_true rfl) ?_
  intro w0 hw0 _ X hC hR hO hX
  refine z_iload_n hC (pc := 0) 1 dX12_look_0 rfl rfl ?_
  by_cases e4 : x1 = 0
  · refine z_tableInE hC (pc := 1) (v := 0) e4 52 dX12_look_1 (by decide) (by decide) rfl (by decide) ?_
    refine z_aload_n hC (pc := 52) 0 dX12_look_52 rfl rfl ?_
    refine u_get hC hw0 (pc := 53) zf12 12 (hE.o12 h0) rfl dX12_look_53 zw720 (kk := fun vx5 tx5 fx5 => ?_)
    obtain ⟨x5, rfl⟩ := tx5
    exact hR _ _ _ _ _ _ dX12_look_56 rfl (Nat.le_of_ble_eq_true rfl) (Nat.le_of_ble_eq_true rfl) ⟨hw0, rfl, rfl, tKeep.rf⟩
  by_cases e6 : x1 = 1
  · refine z_tableInE hC (pc := 1) (v := 1) e6 57 dX12_look_1 (by decide) (by decide) rfl (by decide) ?_
    refine z_aload_n hC (pc := 57) 0 dX12_look_57 rfl rfl ?_
    refine u_get hC hw0 (pc := 58) zf12 5 (hE.o12 h0) rfl dX12_look_58 zw713 (kk := fun va7 ta7 fa7 => ?_)
    obtain ⟨a7, ma7, rfl⟩ := ta7
    refine u_get hC hw0 (pc := 61) zf8 7 (hE.o8 ma7) rfl dX12_look_61 zw64 (kk := fun vx8 tx8 fx8 => ?_)
    obtain ⟨x8, rfl, nx8⟩ := tx8
    exact hR _ _ _ _ _ _ dX12_look_64 rfl (Nat.le_of_ble_eq_true rfl) (Nat.le_of_ble_eq_true rfl) ⟨hw0, rfl, rfl, tKeep.rf⟩
  by_cases e9 : x1 = 2
  · refine z_tableInE hC (pc := 1) (v := 2) e9 65 dX12_look_1 (by decide) (by decide) rfl (by decide) ?_
    refine z_aload_n hC (pc := 65) 0 dX12_look_65 rfl rfl ?_
    refine u_get hC hw0 (pc := 66) zf12 5 (hE.o12 h0) rfl dX12_look_66 zw713 (kk := fun va10 ta10 fa10 => ?_)
    obtain ⟨a10, ma10, rfl⟩ := ta10
    refine u_get hC hw0 (pc := 69) zf8 13 (hE.o8 ma10) rfl dX12_look_69 zw76 (kk := fun vx11 tx11 fx11 => ?_)
    obtain ⟨x11, rfl⟩ := tx11
    exact hR _ _ _ _ _ _ dX12_look_72 rfl (Nat.le_of_ble_eq_true rfl) (Nat.le_of_ble_eq_true rfl) ⟨hw0, rfl, rfl, tKeep.rf⟩
  by_cases e12 : x1 = 3
  · refine z_tableInE hC (pc := 1) (v := 3) e12 73 dX12_look_1 (by decide) (by decide) rfl (by decide) ?_
    refine z_aload_n hC (pc := 73) 0 dX12_look_73 rfl rfl ?_
    refine u_get hC hw0 (pc := 74) zf12 18 (hE.o12 h0) rfl dX12_look_74 zw726 (kk := fun vx13 tx13 fx13 => ?_)
    obtain ⟨x13, rfl⟩ := tx13
    exact hR _ _ _ _ _ _ dX12_look_77 rfl (Nat.le_of_ble_eq_true rfl) (Nat.le_of_ble_eq_true rfl) ⟨hw0, rfl, rfl, tKeep.rf⟩
  by_cases e14 : x1 = 4
  · refine z_tableInE hC (pc := 1) (v := 4) e14 78 dX12_look_1 (by decide) (by decide) rfl (by decide) ?_
    refine z_aload_n hC (pc := 78) 0 dX12_look_78 rfl rfl ?_
    refine z_iconst hC (pc := 79) (v := 0) dX12_look_79 (by decide) ?_
    obtain ⟨q15, hqq15⟩ := hE.o12 h0
    refine t_callVi hC hw0 (pc := 80) (As := [.int 0]) (kX12_told l G T κ hst hE h0) trivial dmX12_told zf12 hqq15 dX12_look_80 zw911 rfl rfl (Nat.le_of_ble_eq_true rfl) (Nat.le_of_ble_eq_true rfl) (Nat.le_of_ble_eq_true rfl) (Nat.le_of_ble_eq_true rfl) (Nat.le_of_ble_eq_true rfl) (fun _ _ _ h => nomatch h) (fun x17 cw16 nw16 w16 hw16 pw16 => ?_)
    obtain ⟨rfl, rfl, kw16⟩ := pw16
    exact hR _ _ _ _ _ _ dX12_look_83 rfl (Nat.le_of_ble_eq_true rfl) (Nat.le_of_ble_eq_true rfl) ⟨hw16, rfl, rfl, (tKeep.tr tKeep.rf kw16 rfl)⟩
  by_cases e18 : x1 = 5
  · refine z_tableInE hC (pc := 1) (v := 5) e18 84 dX12_look_1 (by decide) (by decide) rfl (by decide) ?_
    refine z_aload_n hC (pc := 84) 0 dX12_look_84 rfl rfl ?_
    refine z_iconst hC (pc := 85) (v := 1) dX12_look_85 (by decide) ?_
    obtain ⟨q19, hqq19⟩ := hE.o12 h0
    refine t_callVi hC hw0 (pc := 86) (As := [.int 1]) (kX12_told l G T κ hst hE h0) trivial dmX12_told zf12 hqq19 dX12_look_86 zw911 rfl rfl (Nat.le_of_ble_eq_true rfl) (Nat.le_of_ble_eq_true rfl) (Nat.le_of_ble_eq_true rfl) (Nat.le_of_ble_eq_true rfl) (Nat.le_of_ble_eq_true rfl) (fun _ _ _ h => nomatch h) (fun x21 cw20 nw20 w20 hw20 pw20 => ?_)
    obtain ⟨rfl, rfl, kw20⟩ := pw20
    exact hR _ _ _ _ _ _ dX12_look_89 rfl (Nat.le_of_ble_eq_true rfl) (Nat.le_of_ble_eq_true rfl) ⟨hw20, rfl, rfl, (tKeep.tr tKeep.rf kw20 rfl)⟩
  by_cases e22 : x1 = 6
  · refine z_tableInE hC (pc := 1) (v := 6) e22 90 dX12_look_1 (by decide) (by decide) rfl (by decide) ?_
    refine z_aload_n hC (pc := 90) 0 dX12_look_90 rfl rfl ?_
    refine z_iconst hC (pc := 91) (v := 2) dX12_look_91 (by decide) ?_
    obtain ⟨q23, hqq23⟩ := hE.o12 h0
    refine t_callVi hC hw0 (pc := 92) (As := [.int 2]) (kX12_told l G T κ hst hE h0) trivial dmX12_told zf12 hqq23 dX12_look_92 zw911 rfl rfl (Nat.le_of_ble_eq_true rfl) (Nat.le_of_ble_eq_true rfl) (Nat.le_of_ble_eq_true rfl) (Nat.le_of_ble_eq_true rfl) (Nat.le_of_ble_eq_true rfl) (fun _ _ _ h => nomatch h) (fun x25 cw24 nw24 w24 hw24 pw24 => ?_)
    obtain ⟨rfl, rfl, kw24⟩ := pw24
    exact hR _ _ _ _ _ _ dX12_look_95 rfl (Nat.le_of_ble_eq_true rfl) (Nat.le_of_ble_eq_true rfl) ⟨hw24, rfl, rfl, (tKeep.tr tKeep.rf kw24 rfl)⟩
  by_cases e26 : x1 = 7
  · refine z_tableInE hC (pc := 1) (v := 7) e26 96 dX12_look_1 (by decide) (by decide) rfl (by decide) ?_
    refine z_aload_n hC (pc := 96) 0 dX12_look_96 rfl rfl ?_
    refine u_get hC hw0 (pc := 97) zf12 17 (hE.o12 h0) rfl dX12_look_97 zw725 (kk := fun vx27 tx27 fx27 => ?_)
    obtain ⟨x27, rfl⟩ := tx27
    exact hR _ _ _ _ _ _ dX12_look_100 rfl (Nat.le_of_ble_eq_true rfl) (Nat.le_of_ble_eq_true rfl) ⟨hw0, rfl, rfl, tKeep.rf⟩
  by_cases e28 : x1 = 8
  · refine z_tableInE hC (pc := 1) (v := 8) e28 101 dX12_look_1 (by decide) (by decide) rfl (by decide) ?_
    refine z_aload_n hC (pc := 101) 0 dX12_look_101 rfl rfl ?_
    refine u_get hC hw0 (pc := 102) zf12 5 (hE.o12 h0) rfl dX12_look_102 zw713 (kk := fun va29 ta29 fa29 => ?_)
    obtain ⟨a29, ma29, rfl⟩ := ta29
    refine u_get hC hw0 (pc := 105) zf8 8 (hE.o8 ma29) rfl dX12_look_105 zw66 (kk := fun vx30 tx30 fx30 => ?_)
    obtain ⟨x30, rfl⟩ := tx30
    exact hR _ _ _ _ _ _ dX12_look_108 rfl (Nat.le_of_ble_eq_true rfl) (Nat.le_of_ble_eq_true rfl) ⟨hw0, rfl, rfl, tKeep.rf⟩
  have e4t := t_nei e4
  have e6t := t_nei e6
  have e9t := t_nei e9
  have e12t := t_nei e12
  have e14t := t_nei e14
  have e18t := t_nei e18
  have e22t := t_nei e22
  have e26t := t_nei e26
  have e28t := t_nei e28
  simp only [Int32.reduceToInt] at e4t e6t e9t e12t e14t e18t e22t e26t e28t
  refine z_tableOut hC (pc := 1) 109 dX12_look_1 (by omega) (by decide) ?_
  refine z_iconst hC (pc := 109) (v := (-1)) dX12_look_109 (by decide) ?_
  exact hR _ _ _ _ _ _ dX12_look_110 rfl (Nat.le_of_ble_eq_true rfl) (Nat.le_of_ble_eq_true rfl) ⟨hw0, rfl, rfl, tKeep.rf⟩
