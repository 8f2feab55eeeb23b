theorem zw651 : Cond.fieldLink "TemplateHouse$Maker" 30 "TemplateHouse$Maker" "self" "I" ∈ zT := zsub3 171 (by decide +kernel) (by decide +kernel)
theorem zw650 : Cond.fieldLink "TemplateHouse$Maker" 27 "TemplateHouse$Maker" "pc" "I" ∈ zT := zsub3 170 (by decide +kernel) (by decide +kernel)
theorem zw653 : Cond.fieldLink "TemplateHouse$Maker" 36 "TemplateHouse$Maker" "mark" "I" ∈ zT := zsub3 173 (by decide +kernel) (by decide +kernel)
theorem zw652 : Cond.fieldLink "TemplateHouse$Maker" 33 "TemplateHouse$Maker" "element" "I" ∈ zT := zsub3 172 (by decide +kernel) (by decide +kernel)
theorem zw654 : Cond.fieldLink "TemplateHouse$Maker" 39 "TemplateHouse$Maker" "depth" "I" ∈ zT := zsub3 174 (by decide +kernel) (by decide +kernel)
theorem zw507 : Cond.fieldLink "TemplateHouse$Maker" 140 "TemplateHouse$Heap" "text" "[I" ∈ zT := zsub3 27 (by decide +kernel) (by decide +kernel)
theorem zw645 : Cond.fieldLink "TemplateHouse$Maker" 70 "TemplateHouse$Maker" "g" "LTemplateHouse$Gen;" ∈ zT := zsub3 165 (by decide +kernel) (by decide +kernel)
theorem zw240 : Cond.fieldLink "TemplateHouse$Maker" 117 "TemplateHouse$Gen" "code" "[I" ∈ zT := zsub2 0 (by decide +kernel) (by decide +kernel)
theorem zw2021 : Cond.methodLinkNest "TemplateHouse$Teller" 25 ⟨"TemplateHouse", "get", "([II)I"⟩ "TemplateHouse" ∈ zNest := zsubN9 101 (by decide +kernel) (by decide +kernel)
theorem zw2022 : Cond.methodLinkNest "TemplateHouse$Teller" 31 ⟨"TemplateHouse", "set", "([III)V"⟩ "TemplateHouse" ∈ zNest := zsubN9 102 (by decide +kernel) (by decide +kernel)
theorem zw480 : Cond.fieldLink "TemplateHouse$Teller" 13 "TemplateHouse$Teller" "looks" "[I" ∈ zT := zsub3 0 (by decide +kernel) (by decide +kernel)
theorem zw50 : Cond.fieldLink "TemplateHouse$Heap" 171 "TemplateHouse$Store" "much" "[J" ∈ zT := zsub1 50 (by decide +kernel) (by decide +kernel)
theorem zw529 : Cond.fieldLink "TemplateHouse$Heap" 64 "TemplateHouse$Heap" "digits" "[B" ∈ zT := zsub3 49 (by decide +kernel) (by decide +kernel)
theorem zw2050 : Cond.constantLong "TemplateHouse$Heap" 235 (10 : Int64) ∈ zT := zsub9 130 (by decide +kernel) (by decide +kernel)
theorem zw523 : Cond.fieldLink "TemplateHouse$Heap" 55 "TemplateHouse$Heap" "spelled" "[B" ∈ zT := zsub3 43 (by decide +kernel) (by decide +kernel)
theorem zw525 : Cond.fieldLink "TemplateHouse$Heap" 58 "TemplateHouse$Heap" "from" "I" ∈ zT := zsub3 45 (by decide +kernel) (by decide +kernel)
theorem zw527 : Cond.fieldLink "TemplateHouse$Heap" 61 "TemplateHouse$Heap" "length" "I" ∈ zT := zsub3 47 (by decide +kernel) (by decide +kernel)
theorem zw2078 : Cond.methodLink "TemplateHouse$Maker" 252 ⟨"TemplateHouse$Maker", "code", "(I)I"⟩ ∈ zT := zsub9 158 (by decide +kernel) (by decide +kernel)
theorem zw252 : Cond.fieldLink "TemplateHouse$Maker" 271 "TemplateHouse$Gen" "places" "[I" ∈ zT := zsub2 12 (by decide +kernel) (by decide +kernel)
theorem zw249 : Cond.fieldLink "TemplateHouse$Maker" 274 "TemplateHouse$Gen" "pool" "[B" ∈ zT := zsub2 9 (by decide +kernel) (by decide +kernel)
theorem zw2094 : Cond.constant "TemplateHouse$Maker" 283 (134217728 : Int32) ∈ zT := zsub9 174 (by decide +kernel) (by decide +kernel)
theorem zw2032 : Cond.constant "TemplateHouse$Heap" 160 (134217728 : Int32) ∈ zT := zsub9 112 (by decide +kernel) (by decide +kernel)
theorem zw2031 : Cond.methodLink "TemplateHouse$Heap" 161 ⟨"TemplateHouse$Heap", "isHouse", "(II)Z"⟩ ∈ zT := zsub9 111 (by decide +kernel) (by decide +kernel)
theorem zw2107 : Cond.methodLink "TemplateHouse$Heap" 168 ⟨"TemplateHouse$Heap", "countOf", "(I)I"⟩ ∈ zT := zsub9 187 (by decide +kernel) (by decide +kernel)
theorem zw2034 : Cond.methodLink "TemplateHouse$Heap" 165 ⟨"TemplateHouse$Heap", "isYes", "(I)Z"⟩ ∈ zT := zsub9 114 (by decide +kernel) (by decide +kernel)
theorem zw2112 : Cond.methodLinkNest "TemplateHouse$Writer" 70 ⟨"TemplateHouse", "set", "([III)V"⟩ "TemplateHouse" ∈ zNest := zsubN9 192 (by decide +kernel) (by decide +kernel)
theorem zw1925 : Cond.methodLink "TemplateHouse$Maker" 312 ⟨"TemplateHouse$Heap", "isMany", "(I)Z"⟩ ∈ zT := zsub9 5 (by decide +kernel) (by decide +kernel)
theorem zw2099 : Cond.methodLink "TemplateHouse$Maker" 254 ⟨"TemplateHouse$Maker", "pop", "()I"⟩ ∈ zT := zsub9 179 (by decide +kernel) (by decide +kernel)
theorem zw1906 : Cond.constant "TemplateHouse$Maker" 206 (939524096 : Int32) ∈ zT := zsub8 226 (by decide +kernel) (by decide +kernel)
theorem zw2196 : Cond.methodLink "TemplateHouse$Maker" 547 ⟨"TemplateHouse$Maker", "slice", "(III)I"⟩ ∈ zT := zsub10 36 (by decide +kernel) (by decide +kernel)
theorem zw2200 : Cond.methodLink "TemplateHouse$Maker" 550 ⟨"TemplateHouse$Maker", "stripped", "(II)I"⟩ ∈ zT := zsub10 40 (by decide +kernel) (by decide +kernel)
theorem zw2204 : Cond.methodLink "TemplateHouse$Maker" 553 ⟨"TemplateHouse$Maker", "reversed", "(II)I"⟩ ∈ zT := zsub10 44 (by decide +kernel) (by decide +kernel)
theorem zw2208 : Cond.constant "TemplateHouse$Maker" 446 (268435456 : Int32) ∈ zT := zsub10 48 (by decide +kernel) (by decide +kernel)
theorem zw2016 : Cond.code ⟨"TemplateHouse$Maker", "enter", "()V"⟩ prog_7_method_27_code 3 (Option.none : Option Jvm.ClassFile.FieldType) ∈ zT := zsub9 96 rfl rfl
theorem zw2015 : Cond.instanceMethod ⟨"TemplateHouse$Maker", "enter", "()V"⟩ ∈ zT := zsub9 95 (by decide +kernel) (by decide +kernel)
theorem zwp48 : Cond.selects "TemplateHouse$Maker" ⟨"TemplateHouse$Maker", "enter", "()V"⟩ ⟨"TemplateHouse$Maker", "enter", "()V"⟩ ∈ zT := zin 48 (by decide +kernel) (by decide +kernel)
theorem zw2020 : Cond.code ⟨"TemplateHouse$Teller", "noteLook", "(II)V"⟩ prog_11_method_4_code 4 (Option.none : Option Jvm.ClassFile.FieldType) ∈ zT := zsub9 100 rfl rfl
theorem zw2018 : Cond.instanceMethod ⟨"TemplateHouse$Teller", "noteLook", "(II)V"⟩ ∈ zT := zsub9 98 (by decide +kernel) (by decide +kernel)
theorem zw2019 : Cond.selects "TemplateHouse$Teller" ⟨"TemplateHouse$Teller", "noteLook", "(II)V"⟩ ⟨"TemplateHouse$Teller", "noteLook", "(II)V"⟩ ∈ zT := zsub9 99 (by decide +kernel) (by decide +kernel)
theorem zw2037 : Cond.code ⟨"TemplateHouse$Heap", "isYes", "(I)Z"⟩ prog_5_method_18_code 2 (Option.some Jvm.ClassFile.FieldType.boolean) ∈ zT := zsub9 117 rfl rfl
theorem zw2036 : Cond.instanceMethod ⟨"TemplateHouse$Heap", "isYes", "(I)Z"⟩ ∈ zT := zsub9 116 (by decide +kernel) (by decide +kernel)
theorem zwp31 : Cond.selects "TemplateHouse$Heap" ⟨"TemplateHouse$Heap", "isYes", "(I)Z"⟩ ⟨"TemplateHouse$Heap", "isYes", "(I)Z"⟩ ∈ zT := zin 31 (by decide +kernel) (by decide +kernel)
theorem zw2041 : Cond.code ⟨"TemplateHouse$Heap", "spellTruth", "(Z)V"⟩ prog_5_method_23_code 4 (Option.none : Option Jvm.ClassFile.FieldType) ∈ zT := zsub9 121 rfl rfl
theorem zw2040 : Cond.instanceMethod ⟨"TemplateHouse$Heap", "spellTruth", "(Z)V"⟩ ∈ zT := zsub9 120 (by decide +kernel) (by decide +kernel)
theorem zwp33 : Cond.selects "TemplateHouse$Heap" ⟨"TemplateHouse$Heap", "spellTruth", "(Z)V"⟩ ⟨"TemplateHouse$Heap", "spellTruth", "(Z)V"⟩ ∈ zT := zin 33 (by decide +kernel) (by decide +kernel)
theorem zw2049 : Cond.code ⟨"TemplateHouse$Heap", "spellNumber", "(J)V"⟩ prog_5_method_24_code 7 (Option.none : Option Jvm.ClassFile.FieldType) ∈ zT := zsub9 129 rfl rfl
theorem zw2048 : Cond.instanceMethod ⟨"TemplateHouse$Heap", "spellNumber", "(J)V"⟩ ∈ zT := zsub9 128 (by decide +kernel) (by decide +kernel)
theorem zwp32 : Cond.selects "TemplateHouse$Heap" ⟨"TemplateHouse$Heap", "spellNumber", "(J)V"⟩ ⟨"TemplateHouse$Heap", "spellNumber", "(J)V"⟩ ∈ zT := zin 32 (by decide +kernel) (by decide +kernel)
theorem zw2063 : Cond.code ⟨"TemplateHouse$Maker", "pourAll", "(Ljava/lang/String;)V"⟩ prog_7_method_32_code 3 (Option.none : Option Jvm.ClassFile.FieldType) ∈ zT := zsub9 143 rfl rfl
theorem zw2062 : Cond.instanceMethod ⟨"TemplateHouse$Maker", "pourAll", "(Ljava/lang/String;)V"⟩ ∈ zT := zsub9 142 (by decide +kernel) (by decide +kernel)
theorem zwp72 : Cond.selects "TemplateHouse$Maker" ⟨"TemplateHouse$Maker", "pourAll", "(Ljava/lang/String;)V"⟩ ⟨"TemplateHouse$Maker", "pourAll", "(Ljava/lang/String;)V"⟩ ∈ zT := zin 72 (by decide +kernel) (by decide +kernel)
theorem zw2069 : Cond.code ⟨"TemplateHouse$Maker", "hex", "(I)I"⟩ prog_7_method_33_code 1 (Option.some Jvm.ClassFile.FieldType.int) ∈ zT := zsub9 149 rfl rfl
theorem zw2068 : Cond.static ⟨"TemplateHouse$Maker", "hex", "(I)I"⟩ ∈ zT := zsub9 148 (by decide +kernel) (by decide +kernel)
theorem zw2081 : Cond.code ⟨"TemplateHouse$Maker", "code", "(I)I"⟩ prog_7_method_8_code 2 (Option.some Jvm.ClassFile.FieldType.int) ∈ zT := zsub9 161 rfl rfl
theorem zw2080 : Cond.instanceMethod ⟨"TemplateHouse$Maker", "code", "(I)I"⟩ ∈ zT := zsub9 160 (by decide +kernel) (by decide +kernel)
theorem zwp38 : Cond.selects "TemplateHouse$Maker" ⟨"TemplateHouse$Maker", "code", "(I)I"⟩ ⟨"TemplateHouse$Maker", "code", "(I)I"⟩ ∈ zT := zin 38 (by decide +kernel) (by decide +kernel)
theorem zw2077 : Cond.code ⟨"TemplateHouse$Maker", "literal", "()V"⟩ prog_7_method_14_code 4 (Option.none : Option Jvm.ClassFile.FieldType) ∈ zT := zsub9 157 rfl rfl
theorem zw2076 : Cond.instanceMethod ⟨"TemplateHouse$Maker", "literal", "()V"⟩ ∈ zT := zsub9 156 (by decide +kernel) (by decide +kernel)
theorem zwp59 : Cond.selects "TemplateHouse$Maker" ⟨"TemplateHouse$Maker", "literal", "()V"⟩ ⟨"TemplateHouse$Maker", "literal", "()V"⟩ ∈ zT := zin 59 (by decide +kernel) (by decide +kernel)
theorem zw2085 : Cond.code ⟨"TemplateHouse$Maker", "line", "()V"⟩ prog_7_method_15_code 1 (Option.none : Option Jvm.ClassFile.FieldType) ∈ zT := zsub9 165 rfl rfl
theorem zw2084 : Cond.instanceMethod ⟨"TemplateHouse$Maker", "line", "()V"⟩ ∈ zT := zsub9 164 (by decide +kernel) (by decide +kernel)
theorem zwp57 : Cond.selects "TemplateHouse$Maker" ⟨"TemplateHouse$Maker", "line", "()V"⟩ ⟨"TemplateHouse$Maker", "line", "()V"⟩ ∈ zT := zin 57 (by decide +kernel) (by decide +kernel)
theorem zw2089 : Cond.code ⟨"TemplateHouse$Maker", "raw", "()V"⟩ prog_7_method_16_code 4 (Option.none : Option Jvm.ClassFile.FieldType) ∈ zT := zsub9 169 rfl rfl
theorem zw2088 : Cond.instanceMethod ⟨"TemplateHouse$Maker", "raw", "()V"⟩ ∈ zT := zsub9 168 (by decide +kernel) (by decide +kernel)
theorem zwp74 : Cond.selects "TemplateHouse$Maker" ⟨"TemplateHouse$Maker", "raw", "()V"⟩ ⟨"TemplateHouse$Maker", "raw", "()V"⟩ ∈ zT := zin 74 (by decide +kernel) (by decide +kernel)
theorem zw2093 : Cond.code ⟨"TemplateHouse$Maker", "tag", "()V"⟩ prog_7_method_17_code 2 (Option.none : Option Jvm.ClassFile.FieldType) ∈ zT := zsub9 173 rfl rfl
theorem zw2092 : Cond.instanceMethod ⟨"TemplateHouse$Maker", "tag", "()V"⟩ ∈ zT := zsub9 172 (by decide +kernel) (by decide +kernel)
theorem zwp86 : Cond.selects "TemplateHouse$Maker" ⟨"TemplateHouse$Maker", "tag", "()V"⟩ ⟨"TemplateHouse$Maker", "tag", "()V"⟩ ∈ zT := zin 86 (by decide +kernel) (by decide +kernel)
theorem zw2102 : Cond.code ⟨"TemplateHouse$Maker", "pop", "()I"⟩ prog_7_method_10_code 1 (Option.some Jvm.ClassFile.FieldType.int) ∈ zT := zsub9 182 rfl rfl
theorem zw2101 : Cond.instanceMethod ⟨"TemplateHouse$Maker", "pop", "()I"⟩ ∈ zT := zsub9 181 (by decide +kernel) (by decide +kernel)
theorem zwp70 : Cond.selects "TemplateHouse$Maker" ⟨"TemplateHouse$Maker", "pop", "()I"⟩ ⟨"TemplateHouse$Maker", "pop", "()I"⟩ ∈ zT := zin 70 (by decide +kernel) (by decide +kernel)
theorem zw2106 : Cond.code ⟨"TemplateHouse$Heap", "isTrue", "(I)Z"⟩ prog_5_method_17_code 2 (Option.some Jvm.ClassFile.FieldType.boolean) ∈ zT := zsub9 186 rfl rfl
theorem zw2104 : Cond.instanceMethod ⟨"TemplateHouse$Heap", "isTrue", "(I)Z"⟩ ∈ zT := zsub9 184 (by decide +kernel) (by decide +kernel)
theorem zw2105 : Cond.selects "TemplateHouse$Heap" ⟨"TemplateHouse$Heap", "isTrue", "(I)Z"⟩ ⟨"TemplateHouse$Heap", "isTrue", "(I)Z"⟩ ∈ zT := zsub9 185 (by decide +kernel) (by decide +kernel)
theorem zw2111 : Cond.code ⟨"TemplateHouse$Writer", "indent", "(II)V"⟩ prog_13_method_4_code 3 (Option.none : Option Jvm.ClassFile.FieldType) ∈ zT := zsub9 191 rfl rfl
theorem zw2109 : Cond.instanceMethod ⟨"TemplateHouse$Writer", "indent", "(II)V"⟩ ∈ zT := zsub9 189 (by decide +kernel) (by decide +kernel)
theorem zw2110 : Cond.selects "TemplateHouse$Writer" ⟨"TemplateHouse$Writer", "indent", "(II)V"⟩ ⟨"TemplateHouse$Writer", "indent", "(II)V"⟩ ∈ zT := zsub9 190 (by decide +kernel) (by decide +kernel)
theorem zw2121 : Cond.code ⟨"TemplateHouse$Maker", "leave", "()V"⟩ prog_7_method_28_code 1 (Option.none : Option Jvm.ClassFile.FieldType) ∈ zT := zsub9 201 rfl rfl
theorem zw2120 : Cond.instanceMethod ⟨"TemplateHouse$Maker", "leave", "()V"⟩ ∈ zT := zsub9 200 (by decide +kernel) (by decide +kernel)
theorem zwp55 : Cond.selects "TemplateHouse$Maker" ⟨"TemplateHouse$Maker", "leave", "()V"⟩ ⟨"TemplateHouse$Maker", "leave", "()V"⟩ ∈ zT := zin 55 (by decide +kernel) (by decide +kernel)
theorem zw2134 : Cond.code ⟨"TemplateHouse$Maker", "items", "()V"⟩ prog_7_method_38_code 7 (Option.none : Option Jvm.ClassFile.FieldType) ∈ zT := zsub9 214 rfl rfl
theorem zw2133 : Cond.instanceMethod ⟨"TemplateHouse$Maker", "items", "()V"⟩ ∈ zT := zsub9 213 (by decide +kernel) (by decide +kernel)
theorem zwp54 : Cond.selects "TemplateHouse$Maker" ⟨"TemplateHouse$Maker", "items", "()V"⟩ ⟨"TemplateHouse$Maker", "items", "()V"⟩ ∈ zT := zin 54 (by decide +kernel) (by decide +kernel)
theorem zw2142 : Cond.code ⟨"TemplateHouse$Maker", "calledBy", "(I)V"⟩ prog_7_method_40_code 2 (Option.none : Option Jvm.ClassFile.FieldType) ∈ zT := zsub9 222 rfl rfl
theorem zw2141 : Cond.instanceMethod ⟨"TemplateHouse$Maker", "calledBy", "(I)V"⟩ ∈ zT := zsub9 221 (by decide +kernel) (by decide +kernel)
theorem zwp37 : Cond.selects "TemplateHouse$Maker" ⟨"TemplateHouse$Maker", "calledBy", "(I)V"⟩ ⟨"TemplateHouse$Maker", "calledBy", "(I)V"⟩ ∈ zT := zin 37 (by decide +kernel) (by decide +kernel)
theorem zw2199 : Cond.code ⟨"TemplateHouse$Maker", "slice", "(III)I"⟩ prog_7_method_52_code 6 (Option.some Jvm.ClassFile.FieldType.int) ∈ zT := zsub10 39 rfl rfl
theorem zw2198 : Cond.instanceMethod ⟨"TemplateHouse$Maker", "slice", "(III)I"⟩ ∈ zT := zsub10 38 (by decide +kernel) (by decide +kernel)
theorem zwp79 : Cond.selects "TemplateHouse$Maker" ⟨"TemplateHouse$Maker", "slice", "(III)I"⟩ ⟨"TemplateHouse$Maker", "slice", "(III)I"⟩ ∈ zT := zin 79 (by decide +kernel) (by decide +kernel)
theorem zw2203 : Cond.code ⟨"TemplateHouse$Maker", "stripped", "(II)I"⟩ prog_7_method_53_code 7 (Option.some Jvm.ClassFile.FieldType.int) ∈ zT := zsub10 43 rfl rfl
theorem zw2202 : Cond.instanceMethod ⟨"TemplateHouse$Maker", "stripped", "(II)I"⟩ ∈ zT := zsub10 42 (by decide +kernel) (by decide +kernel)
theorem zwp85 : Cond.selects "TemplateHouse$Maker" ⟨"TemplateHouse$Maker", "stripped", "(II)I"⟩ ⟨"TemplateHouse$Maker", "stripped", "(II)I"⟩ ∈ zT := zin 85 (by decide +kernel) (by decide +kernel)
theorem zw2207 : Cond.code ⟨"TemplateHouse$Maker", "reversed", "(II)I"⟩ prog_7_method_54_code 5 (Option.some Jvm.ClassFile.FieldType.int) ∈ zT := zsub10 47 rfl rfl
theorem zw2206 : Cond.instanceMethod ⟨"TemplateHouse$Maker", "reversed", "(II)I"⟩ ∈ zT := zsub10 46 (by decide +kernel) (by decide +kernel)
theorem zwp76 : Cond.selects "TemplateHouse$Maker" ⟨"TemplateHouse$Maker", "reversed", "(II)I"⟩ ⟨"TemplateHouse$Maker", "reversed", "(II)I"⟩ ∈ zT := zin 76 (by decide +kernel) (by decide +kernel)
theorem zw2195 : Cond.code ⟨"TemplateHouse$Maker", "function", "(II)I"⟩ prog_7_method_51_code 4 (Option.some Jvm.ClassFile.FieldType.int) ∈ zT := zsub10 35 rfl rfl
theorem zw2194 : Cond.instanceMethod ⟨"TemplateHouse$Maker", "function", "(II)I"⟩ ∈ zT := zsub10 34 (by decide +kernel) (by decide +kernel)
theorem zwp51 : Cond.selects "TemplateHouse$Maker" ⟨"TemplateHouse$Maker", "function", "(II)I"⟩ ⟨"TemplateHouse$Maker", "function", "(II)I"⟩ ∈ zT := zin 51 (by decide +kernel) (by decide +kernel)
abbrev cX5_enter : ByteArray := prog_7_method_27_code
abbrev yX5_enter : MethodName := ⟨"TemplateHouse$Maker", "enter", "()V"⟩
theorem dmX5_enter : zDv yX5_enter cX5_enter 3 none 0 := ⟨⟨⟨by decide +kernel, by decide +kernel, by decide +kernel⟩, zw2016, zw10⟩, zw2015, zwp48⟩
abbrev cX9_noteLook : ByteArray := prog_11_method_4_code
abbrev yX9_noteLook : MethodName := ⟨"TemplateHouse$Teller", "noteLook", "(II)V"⟩
theorem dmX9_noteLook : zDv yX9_noteLook cX9_noteLook 4 none 2 := ⟨⟨⟨by decide +kernel, by decide +kernel, by decide +kernel⟩, zw2020, zw11⟩, zw2018, zw2019⟩
abbrev cX3_isYes : ByteArray := prog_5_method_18_code
abbrev yX3_isYes : MethodName := ⟨"TemplateHouse$Heap", "isYes", "(I)Z"⟩
theorem dmX3_isYes : zDv yX3_isYes cX3_isYes 2 (some .boolean) 1 := ⟨⟨⟨by decide +kernel, by decide +kernel, by decide +kernel⟩, zw2037, zw12⟩, zw2036, zwp31⟩
abbrev cX3_spellTruth : ByteArray := prog_5_method_23_code
abbrev yX3_spellTruth : MethodName := ⟨"TemplateHouse$Heap", "spellTruth", "(Z)V"⟩
theorem dmX3_spellTruth : zDv yX3_spellTruth cX3_spellTruth 4 none 1 := ⟨⟨⟨by decide +kernel, by decide +kernel, by decide +kernel⟩, zw2041, zw12⟩, zw2040, zwp33⟩
abbrev cX3_spellNumber : ByteArray := prog_5_method_24_code
abbrev yX3_spellNumber : MethodName := ⟨"TemplateHouse$Heap", "spellNumber", "(J)V"⟩
theorem dmX3_spellNumber : zDv yX3_spellNumber cX3_spellNumber 7 none 1 := ⟨⟨⟨by decide +kernel, by decide +kernel, by decide +kernel⟩, zw2049, zw12⟩, zw2048, zwp32⟩
abbrev cX5_pourAll : ByteArray := prog_7_method_32_code
abbrev yX5_pourAll : MethodName := ⟨"TemplateHouse$Maker", "pourAll", "(Ljava/lang/String;)V"⟩
theorem dmX5_pourAll : zDv yX5_pourAll cX5_pourAll 3 none 1 := ⟨⟨⟨by decide +kernel, by decide +kernel, by decide +kernel⟩, zw2063, zw10⟩, zw2062, zwp72⟩
abbrev cX5_hex : ByteArray := prog_7_method_33_code
abbrev yX5_hex : MethodName := ⟨"TemplateHouse$Maker", "hex", "(I)I"⟩
theorem dmX5_hex : zDs yX5_hex cX5_hex 1 (some .int) 1 := ⟨⟨⟨by decide +kernel, by decide +kernel, by decide +kernel⟩, zw2069, zw10⟩, zw2068⟩
abbrev cX5_code : ByteArray := prog_7_method_8_code
abbrev yX5_code : MethodName := ⟨"TemplateHouse$Maker", "code", "(I)I"⟩
theorem dmX5_code : zDv yX5_code cX5_code 2 (some .int) 1 := ⟨⟨⟨by decide +kernel, by decide +kernel, by decide +kernel⟩, zw2081, zw10⟩, zw2080, zwp38⟩
abbrev cX5_literal : ByteArray := prog_7_method_14_code
abbrev yX5_literal : MethodName := ⟨"TemplateHouse$Maker", "literal", "()V"⟩
theorem dmX5_literal : zDv yX5_literal cX5_literal 4 none 0 := ⟨⟨⟨by decide +kernel, by decide +kernel, by decide +kernel⟩, zw2077, zw10⟩, zw2076, zwp59⟩
abbrev cX5_line : ByteArray := prog_7_method_15_code
abbrev yX5_line : MethodName := ⟨"TemplateHouse$Maker", "line", "()V"⟩
theorem dmX5_line : zDv yX5_line cX5_line 1 none 0 := ⟨⟨⟨by decide +kernel, by decide +kernel, by decide +kernel⟩, zw2085, zw10⟩, zw2084, zwp57⟩
abbrev cX5_raw : ByteArray := prog_7_method_16_code
abbrev yX5_raw : MethodName := ⟨"TemplateHouse$Maker", "raw", "()V"⟩
theorem dmX5_raw : zDv yX5_raw cX5_raw 4 none 0 := ⟨⟨⟨by decide +kernel, by decide +kernel, by decide +kernel⟩, zw2089, zw10⟩, zw2088, zwp74⟩
abbrev cX5_tag : ByteArray := prog_7_method_17_code
abbrev yX5_tag : MethodName := ⟨"TemplateHouse$Maker", "tag", "()V"⟩
theorem dmX5_tag : zDv yX5_tag cX5_tag 2 none 0 := ⟨⟨⟨by decide +kernel, by decide +kernel, by decide +kernel⟩, zw2093, zw10⟩, zw2092, zwp86⟩
abbrev cX5_pop : ByteArray := prog_7_method_10_code
abbrev yX5_pop : MethodName := ⟨"TemplateHouse$Maker", "pop", "()I"⟩
theorem dmX5_pop : zDv yX5_pop cX5_pop 1 (some .int) 0 := ⟨⟨⟨by decide +kernel, by decide +kernel, by decide +kernel⟩, zw2102, zw10⟩, zw2101, zwp70⟩
abbrev cX3_isTrue : ByteArray := prog_5_method_17_code
abbrev yX3_isTrue : MethodName := ⟨"TemplateHouse$Heap", "isTrue", "(I)Z"⟩
theorem dmX3_isTrue : zDv yX3_isTrue cX3_isTrue 2 (some .boolean) 1 := ⟨⟨⟨by decide +kernel, by decide +kernel, by decide +kernel⟩, zw2106, zw12⟩, zw2104, zw2105⟩
abbrev cX11_indent : ByteArray := prog_13_method_4_code
abbrev yX11_indent : MethodName := ⟨"TemplateHouse$Writer", "indent", "(II)V"⟩
theorem dmX11_indent : zDv yX11_indent cX11_indent 3 none 2 := ⟨⟨⟨by decide +kernel, by decide +kernel, by decide +kernel⟩, zw2111, zw13⟩, zw2109, zw2110⟩
abbrev cX5_leave : ByteArray := prog_7_method_28_code
abbrev yX5_leave : MethodName := ⟨"TemplateHouse$Maker", "leave", "()V"⟩
theorem dmX5_leave : zDv yX5_leave cX5_leave 1 none 0 := ⟨⟨⟨by decide +kernel, by decide +kernel, by decide +kernel⟩, zw2121, zw10⟩, zw2120, zwp55⟩
abbrev cX5_items : ByteArray := prog_7_method_38_code
abbrev yX5_items : MethodName := ⟨"TemplateHouse$Maker", "items", "()V"⟩
theorem dmX5_items : zDv yX5_items cX5_items 7 none 0 := ⟨⟨⟨by decide +kernel, by decide +kernel, by decide +kernel⟩, zw2134, zw10⟩, zw2133, zwp54⟩
abbrev cX5_calledBy : ByteArray := prog_7_method_40_code
abbrev yX5_calledBy : MethodName := ⟨"TemplateHouse$Maker", "calledBy", "(I)V"⟩
theorem dmX5_calledBy : zDv yX5_calledBy cX5_calledBy 2 none 1 := ⟨⟨⟨by decide +kernel, by decide +kernel, by decide +kernel⟩, zw2142, zw10⟩, zw2141, zwp37⟩
abbrev cX5_slice : ByteArray := prog_7_method_52_code
abbrev yX5_slice : MethodName := ⟨"TemplateHouse$Maker", "slice", "(III)I"⟩
theorem dmX5_slice : zDv yX5_slice cX5_slice 6 (some .int) 3 := ⟨⟨⟨by decide +kernel, by decide +kernel, by decide +kernel⟩, zw2199, zw10⟩, zw2198, zwp79⟩
abbrev cX5_stripped : ByteArray := prog_7_method_53_code
abbrev yX5_stripped : MethodName := ⟨"TemplateHouse$Maker", "stripped", "(II)I"⟩
theorem dmX5_stripped : zDv yX5_stripped cX5_stripped 7 (some .int) 2 := ⟨⟨⟨by decide +kernel, by decide +kernel, by decide +kernel⟩, zw2203, zw10⟩, zw2202, zwp85⟩
abbrev cX5_reversed : ByteArray := prog_7_method_54_code
abbrev yX5_reversed : MethodName := ⟨"TemplateHouse$Maker", "reversed", "(II)I"⟩
theorem dmX5_reversed : zDv yX5_reversed cX5_reversed 5 (some .int) 2 := ⟨⟨⟨by decide +kernel, by decide +kernel, by decide +kernel⟩, zw2207, zw10⟩, zw2206, zwp76⟩
abbrev cX5_function : ByteArray := prog_7_method_51_code
abbrev yX5_function : MethodName := ⟨"TemplateHouse$Maker", "function", "(II)I"⟩
theorem dmX5_function : zDv yX5_function cX5_function 4 (some .int) 2 := ⟨⟨⟨by decide +kernel, by decide +kernel, by decide +kernel⟩, zw2195, zw10⟩, zw2194, zwp51⟩
theorem dX5_enter_0 : decode cX5_enter 0 = .ok (.aload_n 0, 1) := by decide +kernel
theorem dX5_enter_1 : decode cX5_enter 1 = .ok (.getfield 21, 3) := by decide +kernel
theorem dX5_enter_4 : decode cX5_enter 4 = .ok (.aload_n 0, 1) := by decide +kernel
theorem dX5_enter_5 : decode cX5_enter 5 = .ok (.getfield 24, 3) := by decide +kernel
theorem dX5_enter_8 : decode cX5_enter 8 = .ok (.iconst 2, 1) := by decide +kernel
theorem dX5_enter_9 : decode cX5_enter 9 = .ok (.isub, 1) := by decide +kernel
theorem dX5_enter_10 : decode cX5_enter 10 = .ok (.invokestatic 113, 3) := by decide +kernel
theorem dX5_enter_13 : decode cX5_enter 13 = .ok (.ldc_w 350, 3) := by decide +kernel
theorem dX5_enter_16 : decode cX5_enter 16 = .ok (.iand, 1) := by decide +kernel
theorem dX5_enter_17 : decode cX5_enter 17 = .ok (.istore_n 1, 1) := by decide +kernel
theorem dX5_enter_18 : decode cX5_enter 18 = .ok (.aload_n 0, 1) := by decide +kernel
theorem dX5_enter_19 : decode cX5_enter 19 = .ok (.dup, 1) := by decide +kernel
theorem dX5_enter_20 : decode cX5_enter 20 = .ok (.getfield 24, 3) := by decide +kernel
theorem dX5_enter_23 : decode cX5_enter 23 = .ok (.iconst 2, 1) := by decide +kernel
theorem dX5_enter_24 : decode cX5_enter 24 = .ok (.isub, 1) := by decide +kernel
theorem dX5_enter_25 : decode cX5_enter 25 = .ok (.putfield 24, 3) := by decide +kernel
theorem dX5_enter_28 : decode cX5_enter 28 = .ok (.aload_n 0, 1) := by decide +kernel
theorem dX5_enter_29 : decode cX5_enter 29 = .ok (.aload_n 0, 1) := by decide +kernel
theorem dX5_enter_30 : decode cX5_enter 30 = .ok (.getfield 30, 3) := by decide +kernel
theorem dX5_enter_33 : decode cX5_enter 33 = .ok (.invokevirtual 299, 3) := by decide +kernel
theorem dX5_enter_36 : decode cX5_enter 36 = .ok (.aload_n 0, 1) := by decide +kernel
theorem dX5_enter_37 : decode cX5_enter 37 = .ok (.aload_n 0, 1) := by decide +kernel
theorem dX5_enter_38 : decode cX5_enter 38 = .ok (.getfield 27, 3) := by decide +kernel
theorem dX5_enter_41 : decode cX5_enter 41 = .ok (.invokevirtual 299, 3) := by decide +kernel
theorem dX5_enter_44 : decode cX5_enter 44 = .ok (.aload_n 0, 1) := by decide +kernel
theorem dX5_enter_45 : decode cX5_enter 45 = .ok (.aload_n 0, 1) := by decide +kernel
theorem dX5_enter_46 : decode cX5_enter 46 = .ok (.getfield 36, 3) := by decide +kernel
theorem dX5_enter_49 : decode cX5_enter 49 = .ok (.invokevirtual 299, 3) := by decide +kernel
theorem dX5_enter_52 : decode cX5_enter 52 = .ok (.aload_n 0, 1) := by decide +kernel
theorem dX5_enter_53 : decode cX5_enter 53 = .ok (.aload_n 0, 1) := by decide +kernel
theorem dX5_enter_54 : decode cX5_enter 54 = .ok (.getfield 33, 3) := by decide +kernel
theorem dX5_enter_57 : decode cX5_enter 57 = .ok (.invokevirtual 299, 3) := by decide +kernel
theorem dX5_enter_60 : decode cX5_enter 60 = .ok (.aload_n 0, 1) := by decide +kernel
theorem dX5_enter_61 : decode cX5_enter 61 = .ok (.iconst 0, 1) := by decide +kernel
theorem dX5_enter_62 : decode cX5_enter 62 = .ok (.invokevirtual 299, 3) := by decide +kernel
theorem dX5_enter_65 : decode cX5_enter 65 = .ok (.aload_n 0, 1) := by decide +kernel
theorem dX5_enter_66 : decode cX5_enter 66 = .ok (.dup, 1) := by decide +kernel
theorem dX5_enter_67 : decode cX5_enter 67 = .ok (.getfield 39, 3) := by decide +kernel
theorem dX5_enter_70 : decode cX5_enter 70 = .ok (.iconst 1, 1) := by decide +kernel
theorem dX5_enter_71 : decode cX5_enter 71 = .ok (.iadd, 1) := by decide +kernel
theorem dX5_enter_72 : decode cX5_enter 72 = .ok (.putfield 39, 3) := by decide +kernel
theorem dX5_enter_75 : decode cX5_enter 75 = .ok (.aload_n 0, 1) := by decide +kernel
theorem dX5_enter_76 : decode cX5_enter 76 = .ok (.iload_n 1, 1) := by decide +kernel
theorem dX5_enter_77 : decode cX5_enter 77 = .ok (.putfield 30, 3) := by decide +kernel
theorem dX5_enter_80 : decode cX5_enter 80 = .ok (.aload_n 0, 1) := by decide +kernel
theorem dX5_enter_81 : decode cX5_enter 81 = .ok (.getfield 83, 3) := by decide +kernel
theorem dX5_enter_84 : decode cX5_enter 84 = .ok (.getfield 140, 3) := by decide +kernel
theorem dX5_enter_87 : decode cX5_enter 87 = .ok (.iload_n 1, 1) := by decide +kernel
theorem dX5_enter_88 : decode cX5_enter 88 = .ok (.invokestatic 113, 3) := by decide +kernel
theorem dX5_enter_91 : decode cX5_enter 91 = .ok (.istore_n 2, 1) := by decide +kernel
theorem dX5_enter_92 : decode cX5_enter 92 = .ok (.aload_n 0, 1) := by decide +kernel
theorem dX5_enter_93 : decode cX5_enter 93 = .ok (.iload_n 2, 1) := by decide +kernel
theorem dX5_enter_94 : decode cX5_enter 94 = .ok (.iconst 3, 1) := by decide +kernel
theorem dX5_enter_95 : decode cX5_enter 95 = .ok (.iadd, 1) := by decide +kernel
theorem dX5_enter_96 : decode cX5_enter 96 = .ok (.iconst 2, 1) := by decide +kernel
theorem dX5_enter_97 : decode cX5_enter 97 = .ok (.aload_n 0, 1) := by decide +kernel
theorem dX5_enter_98 : decode cX5_enter 98 = .ok (.getfield 70, 3) := by decide +kernel
theorem dX5_enter_101 : decode cX5_enter 101 = .ok (.getfield 117, 3) := by decide +kernel
theorem dX5_enter_104 : decode cX5_enter 104 = .ok (.iload_n 2, 1) := by decide +kernel
theorem dX5_enter_105 : decode cX5_enter 105 = .ok (.iconst 2, 1) := by decide +kernel
theorem dX5_enter_106 : decode cX5_enter 106 = .ok (.iadd, 1) := by decide +kernel
theorem dX5_enter_107 : decode cX5_enter 107 = .ok (.invokestatic 113, 3) := by decide +kernel
theorem dX5_enter_110 : decode cX5_enter 110 = .ok (.imul, 1) := by decide +kernel
theorem dX5_enter_111 : decode cX5_enter 111 = .ok (.iadd, 1) := by decide +kernel
theorem dX5_enter_112 : decode cX5_enter 112 = .ok (.putfield 27, 3) := by decide +kernel
theorem dX5_enter_115 : decode cX5_enter 115 = .ok (.aload_n 0, 1) := by decide +kernel
theorem dX5_enter_116 : decode cX5_enter 116 = .ok (.aload_n 0, 1) := by decide +kernel
theorem dX5_enter_117 : decode cX5_enter 117 = .ok (.getfield 92, 3) := by decide +kernel
theorem dX5_enter_120 : decode cX5_enter 120 = .ok (.getfield 262, 3) := by decide +kernel
theorem dX5_enter_123 : decode cX5_enter 123 = .ok (.putfield 36, 3) := by decide +kernel
theorem dX5_enter_126 : decode cX5_enter 126 = .ok (.return_, 1) := by decide +kernel
theorem dX9_noteLook_0 : decode cX9_noteLook 0 = .ok (.aload_n 0, 1) := by decide +kernel
theorem dX9_noteLook_1 : decode cX9_noteLook 1 = .ok (.getfield 16, 3) := by decide +kernel
theorem dX9_noteLook_4 : decode cX9_noteLook 4 = .ok (.iconst 1, 1) := by decide +kernel
theorem dX9_noteLook_5 : decode cX9_noteLook 5 = .ok (.invokestatic 25, 3) := by decide +kernel
theorem dX9_noteLook_8 : decode cX9_noteLook 8 = .ok (.istore_n 3, 1) := by decide +kernel
theorem dX9_noteLook_9 : decode cX9_noteLook 9 = .ok (.iload_n 3, 1) := by decide +kernel
theorem dX9_noteLook_10 : decode cX9_noteLook 10 = .ok (.sipush 1000, 3) := by decide +kernel
theorem dX9_noteLook_13 : decode cX9_noteLook 13 = .ok (.if_icmp .ge 27, 3) := by decide +kernel
theorem dX9_noteLook_40 : decode cX9_noteLook 40 = .ok (.aload_n 0, 1) := by decide +kernel
theorem dX9_noteLook_41 : decode cX9_noteLook 41 = .ok (.getfield 16, 3) := by decide +kernel
theorem dX9_noteLook_44 : decode cX9_noteLook 44 = .ok (.iconst 1, 1) := by decide +kernel
theorem dX9_noteLook_45 : decode cX9_noteLook 45 = .ok (.iload_n 3, 1) := by decide +kernel
theorem dX9_noteLook_46 : decode cX9_noteLook 46 = .ok (.iconst 1, 1) := by decide +kernel
theorem dX9_noteLook_47 : decode cX9_noteLook 47 = .ok (.iadd, 1) := by decide +kernel
theorem dX9_noteLook_48 : decode cX9_noteLook 48 = .ok (.invokestatic 31, 3) := by decide +kernel
theorem dX9_noteLook_51 : decode cX9_noteLook 51 = .ok (.return_, 1) := by decide +kernel
theorem dX9_noteLook_16 : decode cX9_noteLook 16 = .ok (.aload_n 0, 1) := by decide +kernel
theorem dX9_noteLook_17 : decode cX9_noteLook 17 = .ok (.getfield 13, 3) := by decide +kernel
theorem dX9_noteLook_20 : decode cX9_noteLook 20 = .ok (.iconst 2, 1) := by decide +kernel
theorem dX9_noteLook_21 : decode cX9_noteLook 21 = .ok (.iload_n 3, 1) := by decide +kernel
theorem dX9_noteLook_22 : decode cX9_noteLook 22 = .ok (.imul, 1) := by decide +kernel
theorem dX9_noteLook_23 : decode cX9_noteLook 23 = .ok (.iload_n 1, 1) := by decide +kernel
theorem dX9_noteLook_24 : decode cX9_noteLook 24 = .ok (.invokestatic 31, 3) := by decide +kernel
theorem dX9_noteLook_27 : decode cX9_noteLook 27 = .ok (.aload_n 0, 1) := by decide +kernel
theorem dX9_noteLook_28 : decode cX9_noteLook 28 = .ok (.getfield 13, 3) := by decide +kernel
theorem dX9_noteLook_31 : decode cX9_noteLook 31 = .ok (.iconst 2, 1) := by decide +kernel
theorem dX9_noteLook_32 : decode cX9_noteLook 32 = .ok (.iload_n 3, 1) := by decide +kernel
theorem dX9_noteLook_33 : decode cX9_noteLook 33 = .ok (.imul, 1) := by decide +kernel
theorem dX9_noteLook_34 : decode cX9_noteLook 34 = .ok (.iconst 1, 1) := by decide +kernel
theorem dX9_noteLook_35 : decode cX9_noteLook 35 = .ok (.iadd, 1) := by decide +kernel
theorem dX9_noteLook_36 : decode cX9_noteLook 36 = .ok (.iload_n 2, 1) := by decide +kernel
theorem dX9_noteLook_37 : decode cX9_noteLook 37 = .ok (.invokestatic 31, 3) := by decide +kernel
theorem dX3_isYes_0 : decode cX3_isYes 0 = .ok (.iload_n 1, 1) := by decide +kernel
theorem dX3_isYes_1 : decode cX3_isYes 1 = .ok (.ifCond .lt 33, 3) := by decide +kernel
theorem dX3_isYes_35 : decode cX3_isYes 35 = .ok (.ireturn, 1) := by decide +kernel
theorem dX3_isYes_34 : decode cX3_isYes 34 = .ok (.iconst 0, 1) := by decide +kernel
theorem dX3_isYes_4 : decode cX3_isYes 4 = .ok (.iload_n 1, 1) := by decide +kernel
theorem dX3_isYes_5 : decode cX3_isYes 5 = .ok (.aload_n 0, 1) := by decide +kernel
theorem dX3_isYes_6 : decode cX3_isYes 6 = .ok (.getfield 67, 3) := by decide +kernel
theorem dX3_isYes_9 : decode cX3_isYes 9 = .ok (.getfield 171, 3) := by decide +kernel
theorem dX3_isYes_12 : decode cX3_isYes 12 = .ok (.arraylength, 1) := by decide +kernel
theorem dX3_isYes_13 : decode cX3_isYes 13 = .ok (.if_icmp .ge 21, 3) := by decide +kernel
theorem dX3_isYes_16 : decode cX3_isYes 16 = .ok (.aload_n 0, 1) := by decide +kernel
theorem dX3_isYes_17 : decode cX3_isYes 17 = .ok (.getfield 67, 3) := by decide +kernel
theorem dX3_isYes_20 : decode cX3_isYes 20 = .ok (.getfield 171, 3) := by decide +kernel
theorem dX3_isYes_23 : decode cX3_isYes 23 = .ok (.iload_n 1, 1) := by decide +kernel
theorem dX3_isYes_24 : decode cX3_isYes 24 = .ok (.laload, 1) := by decide +kernel
theorem dX3_isYes_25 : decode cX3_isYes 25 = .ok (.lconst 0, 1) := by decide +kernel
theorem dX3_isYes_26 : decode cX3_isYes 26 = .ok (.lcmp, 1) := by decide +kernel
theorem dX3_isYes_27 : decode cX3_isYes 27 = .ok (.ifCond .eq 7, 3) := by decide +kernel
theorem dX3_isYes_30 : decode cX3_isYes 30 = .ok (.iconst 1, 1) := by decide +kernel
theorem dX3_isYes_31 : decode cX3_isYes 31 = .ok (.goto 4, 3) := by decide +kernel
theorem dX3_spellTruth_0 : decode cX3_spellTruth 0 = .ok (.iload_n 1, 1) := by decide +kernel
theorem dX3_spellTruth_1 : decode cX3_spellTruth 1 = .ok (.ifCond .eq 8, 3) := by decide +kernel
theorem dX3_spellTruth_11 : decode cX3_spellTruth 11 = .ok (.astore_n 2, 1) := by decide +kernel
theorem dX3_spellTruth_12 : decode cX3_spellTruth 12 = .ok (.iconst 0, 1) := by decide +kernel
theorem dX3_spellTruth_13 : decode cX3_spellTruth 13 = .ok (.istore_n 3, 1) := by decide +kernel
theorem dX3_spellTruth_14 : decode cX3_spellTruth 14 = .ok (.iload_n 3, 1) := by decide +kernel
theorem dX3_spellTruth_15 : decode cX3_spellTruth 15 = .ok (.aload_n 2, 1) := by decide +kernel
theorem dX3_spellTruth_16 : decode cX3_spellTruth 16 = .ok (.invokevirtual 226, 3) := by decide +kernel
theorem dX3_spellNumber_0 : decode cX3_spellNumber 0 = .ok (.lload_n 1, 1) := by decide +kernel
theorem dX3_spellNumber_1 : decode cX3_spellNumber 1 = .ok (.lstore_n 3, 1) := by decide +kernel
theorem dX3_spellNumber_2 : decode cX3_spellNumber 2 = .ok (.aload_n 0, 1) := by decide +kernel
theorem dX3_spellNumber_3 : decode cX3_spellNumber 3 = .ok (.getfield 64, 3) := by decide +kernel
theorem dX3_spellNumber_6 : decode cX3_spellNumber 6 = .ok (.arraylength, 1) := by decide +kernel
theorem dX3_spellNumber_7 : decode cX3_spellNumber 7 = .ok (.istore 5, 2) := by decide +kernel
theorem dX3_spellNumber_9 : decode cX3_spellNumber 9 = .ok (.lload_n 3, 1) := by decide +kernel
theorem dX3_spellNumber_10 : decode cX3_spellNumber 10 = .ok (.ldc2_w 235, 3) := by decide +kernel
theorem dX3_spellNumber_13 : decode cX3_spellNumber 13 = .ok (.lrem, 1) := by decide +kernel
theorem dX3_spellNumber_14 : decode cX3_spellNumber 14 = .ok (.l2i, 1) := by decide +kernel
theorem dX3_spellNumber_15 : decode cX3_spellNumber 15 = .ok (.istore 6, 2) := by decide +kernel
theorem dX3_spellNumber_17 : decode cX3_spellNumber 17 = .ok (.lload_n 3, 1) := by decide +kernel
theorem dX3_spellNumber_18 : decode cX3_spellNumber 18 = .ok (.ldc2_w 235, 3) := by decide +kernel
theorem dX3_spellNumber_21 : decode cX3_spellNumber 21 = .ok (.ldiv, 1) := by decide +kernel
theorem dX3_spellNumber_22 : decode cX3_spellNumber 22 = .ok (.lstore_n 3, 1) := by decide +kernel
theorem dX3_spellNumber_23 : decode cX3_spellNumber 23 = .ok (.iinc 5 (-1), 3) := by decide +kernel
theorem dX3_spellNumber_26 : decode cX3_spellNumber 26 = .ok (.aload_n 0, 1) := by decide +kernel
theorem dX3_spellNumber_27 : decode cX3_spellNumber 27 = .ok (.getfield 64, 3) := by decide +kernel
theorem dX3_spellNumber_30 : decode cX3_spellNumber 30 = .ok (.iload 5, 2) := by decide +kernel
theorem dX3_spellNumber_32 : decode cX3_spellNumber 32 = .ok (.bipush 48, 2) := by decide +kernel
theorem dX3_spellNumber_34 : decode cX3_spellNumber 34 = .ok (.iload 6, 2) := by decide +kernel
theorem dX3_spellNumber_36 : decode cX3_spellNumber 36 = .ok (.ifCond .ge 9, 3) := by decide +kernel
theorem dX3_spellNumber_47 : decode cX3_spellNumber 47 = .ok (.iadd, 1) := by decide +kernel
theorem dX3_spellNumber_48 : decode cX3_spellNumber 48 = .ok (.invokestatic 105, 3) := by decide +kernel
theorem dX3_spellNumber_51 : decode cX3_spellNumber 51 = .ok (.lload_n 3, 1) := by decide +kernel
theorem dX3_spellNumber_52 : decode cX3_spellNumber 52 = .ok (.lconst 0, 1) := by decide +kernel
theorem dX3_spellNumber_53 : decode cX3_spellNumber 53 = .ok (.lcmp, 1) := by decide +kernel
theorem dX3_spellNumber_54 : decode cX3_spellNumber 54 = .ok (.ifCond .eq 8, 3) := by decide +kernel
theorem dX3_spellNumber_62 : decode cX3_spellNumber 62 = .ok (.lload_n 1, 1) := by decide +kernel
theorem dX3_spellNumber_63 : decode cX3_spellNumber 63 = .ok (.lconst 0, 1) := by decide +kernel
theorem dX3_spellNumber_64 : decode cX3_spellNumber 64 = .ok (.lcmp, 1) := by decide +kernel
theorem dX3_spellNumber_65 : decode cX3_spellNumber 65 = .ok (.ifCond .ge 17, 3) := by decide +kernel
theorem dX3_spellNumber_82 : decode cX3_spellNumber 82 = .ok (.aload_n 0, 1) := by decide +kernel
theorem dX3_spellNumber_83 : decode cX3_spellNumber 83 = .ok (.aload_n 0, 1) := by decide +kernel
theorem dX3_spellNumber_84 : decode cX3_spellNumber 84 = .ok (.getfield 64, 3) := by decide +kernel
theorem dX3_spellNumber_87 : decode cX3_spellNumber 87 = .ok (.putfield 55, 3) := by decide +kernel
theorem dX3_spellNumber_90 : decode cX3_spellNumber 90 = .ok (.aload_n 0, 1) := by decide +kernel
theorem dX3_spellNumber_91 : decode cX3_spellNumber 91 = .ok (.iload 5, 2) := by decide +kernel
theorem dX3_spellNumber_93 : decode cX3_spellNumber 93 = .ok (.putfield 58, 3) := by decide +kernel
theorem dX3_spellNumber_96 : decode cX3_spellNumber 96 = .ok (.aload_n 0, 1) := by decide +kernel
theorem dX3_spellNumber_97 : decode cX3_spellNumber 97 = .ok (.aload_n 0, 1) := by decide +kernel
theorem dX3_spellNumber_98 : decode cX3_spellNumber 98 = .ok (.getfield 64, 3) := by decide +kernel
theorem dX3_spellNumber_101 : decode cX3_spellNumber 101 = .ok (.arraylength, 1) := by decide +kernel
theorem dX3_spellNumber_102 : decode cX3_spellNumber 102 = .ok (.iload 5, 2) := by decide +kernel
theorem dX3_spellNumber_104 : decode cX3_spellNumber 104 = .ok (.isub, 1) := by decide +kernel
theorem dX3_spellNumber_105 : decode cX3_spellNumber 105 = .ok (.putfield 61, 3) := by decide +kernel
theorem dX3_spellNumber_108 : decode cX3_spellNumber 108 = .ok (.return_, 1) := by decide +kernel
theorem dX3_spellNumber_68 : decode cX3_spellNumber 68 = .ok (.iinc 5 (-1), 3) := by decide +kernel
theorem dX3_spellNumber_71 : decode cX3_spellNumber 71 = .ok (.aload_n 0, 1) := by decide +kernel
theorem dX3_spellNumber_72 : decode cX3_spellNumber 72 = .ok (.getfield 64, 3) := by decide +kernel
theorem dX3_spellNumber_75 : decode cX3_spellNumber 75 = .ok (.iload 5, 2) := by decide +kernel
theorem dX3_spellNumber_77 : decode cX3_spellNumber 77 = .ok (.bipush 45, 2) := by decide +kernel
theorem dX3_spellNumber_79 : decode cX3_spellNumber 79 = .ok (.invokestatic 105, 3) := by decide +kernel
theorem dX3_spellNumber_57 : decode cX3_spellNumber 57 = .ok (.iload 5, 2) := by decide +kernel
theorem dX3_spellNumber_59 : decode cX3_spellNumber 59 = .ok (.ifCond .gt (-50), 3) := by decide +kernel
theorem dX3_spellNumber_45 : decode cX3_spellNumber 45 = .ok (.iload 6, 2) := by decide +kernel
theorem dX3_spellNumber_39 : decode cX3_spellNumber 39 = .ok (.iload 6, 2) := by decide +kernel
theorem dX3_spellNumber_41 : decode cX3_spellNumber 41 = .ok (.ineg, 1) := by decide +kernel
theorem dX3_spellNumber_42 : decode cX3_spellNumber 42 = .ok (.goto 5, 3) := by decide +kernel
theorem dX5_pourAll_0 : decode cX5_pourAll 0 = .ok (.iconst 0, 1) := by decide +kernel
theorem dX5_pourAll_1 : decode cX5_pourAll 1 = .ok (.istore_n 2, 1) := by decide +kernel
theorem dX5_pourAll_2 : decode cX5_pourAll 2 = .ok (.iload_n 2, 1) := by decide +kernel
theorem dX5_pourAll_3 : decode cX5_pourAll 3 = .ok (.aload_n 1, 1) := by decide +kernel
theorem dX5_pourAll_4 : decode cX5_pourAll 4 = .ok (.invokevirtual 409, 3) := by decide +kernel
theorem dX5_hex_0 : decode cX5_hex 0 = .ok (.iload_n 0, 1) := by decide +kernel
theorem dX5_hex_1 : decode cX5_hex 1 = .ok (.bipush 10, 2) := by decide +kernel
theorem dX5_hex_3 : decode cX5_hex 3 = .ok (.if_icmp .ge 10, 3) := by decide +kernel
theorem dX5_hex_20 : decode cX5_hex 20 = .ok (.ireturn, 1) := by decide +kernel
theorem dX5_hex_13 : decode cX5_hex 13 = .ok (.bipush 65, 2) := by decide +kernel
theorem dX5_hex_15 : decode cX5_hex 15 = .ok (.iload_n 0, 1) := by decide +kernel
theorem dX5_hex_16 : decode cX5_hex 16 = .ok (.iadd, 1) := by decide +kernel
theorem dX5_hex_17 : decode cX5_hex 17 = .ok (.bipush 10, 2) := by decide +kernel
theorem dX5_hex_19 : decode cX5_hex 19 = .ok (.isub, 1) := by decide +kernel
theorem dX5_hex_6 : decode cX5_hex 6 = .ok (.bipush 48, 2) := by decide +kernel
theorem dX5_hex_8 : decode cX5_hex 8 = .ok (.iload_n 0, 1) := by decide +kernel
theorem dX5_hex_9 : decode cX5_hex 9 = .ok (.iadd, 1) := by decide +kernel
theorem dX5_hex_10 : decode cX5_hex 10 = .ok (.goto 10, 3) := by decide +kernel
theorem dX5_code_0 : decode cX5_code 0 = .ok (.aload_n 0, 1) := by decide +kernel
theorem dX5_code_1 : decode cX5_code 1 = .ok (.getfield 70, 3) := by decide +kernel
theorem dX5_code_4 : decode cX5_code 4 = .ok (.getfield 117, 3) := by decide +kernel
theorem dX5_code_7 : decode cX5_code 7 = .ok (.aload_n 0, 1) := by decide +kernel
theorem dX5_code_8 : decode cX5_code 8 = .ok (.getfield 27, 3) := by decide +kernel
theorem dX5_code_11 : decode cX5_code 11 = .ok (.iload_n 1, 1) := by decide +kernel
theorem dX5_code_12 : decode cX5_code 12 = .ok (.iadd, 1) := by decide +kernel
theorem dX5_code_13 : decode cX5_code 13 = .ok (.invokestatic 113, 3) := by decide +kernel
theorem dX5_code_16 : decode cX5_code 16 = .ok (.ireturn, 1) := by decide +kernel
theorem dX5_literal_0 : decode cX5_literal 0 = .ok (.aload_n 0, 1) := by decide +kernel
theorem dX5_literal_1 : decode cX5_literal 1 = .ok (.iconst 1, 1) := by decide +kernel
theorem dX5_literal_2 : decode cX5_literal 2 = .ok (.invokevirtual 252, 3) := by decide +kernel
theorem dX5_literal_5 : decode cX5_literal 5 = .ok (.istore_n 1, 1) := by decide +kernel
theorem dX5_literal_6 : decode cX5_literal 6 = .ok (.aload_n 0, 1) := by decide +kernel
theorem dX5_literal_7 : decode cX5_literal 7 = .ok (.iconst 2, 1) := by decide +kernel
theorem dX5_literal_8 : decode cX5_literal 8 = .ok (.invokevirtual 252, 3) := by decide +kernel
theorem dX5_literal_11 : decode cX5_literal 11 = .ok (.istore_n 2, 1) := by decide +kernel
theorem dX5_literal_12 : decode cX5_literal 12 = .ok (.iconst 0, 1) := by decide +kernel
theorem dX5_literal_13 : decode cX5_literal 13 = .ok (.istore_n 3, 1) := by decide +kernel
theorem dX5_literal_14 : decode cX5_literal 14 = .ok (.iload_n 3, 1) := by decide +kernel
theorem dX5_literal_15 : decode cX5_literal 15 = .ok (.iload_n 2, 1) := by decide +kernel
theorem dX5_literal_16 : decode cX5_literal 16 = .ok (.if_icmp .ge 46, 3) := by decide +kernel
theorem dX5_literal_62 : decode cX5_literal 62 = .ok (.aload_n 0, 1) := by decide +kernel
theorem dX5_literal_63 : decode cX5_literal 63 = .ok (.dup, 1) := by decide +kernel
theorem dX5_literal_64 : decode cX5_literal 64 = .ok (.getfield 27, 3) := by decide +kernel
theorem dX5_literal_67 : decode cX5_literal 67 = .ok (.iconst 3, 1) := by decide +kernel
theorem dX5_literal_68 : decode cX5_literal 68 = .ok (.iadd, 1) := by decide +kernel
theorem dX5_literal_69 : decode cX5_literal 69 = .ok (.putfield 27, 3) := by decide +kernel
theorem dX5_literal_72 : decode cX5_literal 72 = .ok (.return_, 1) := by decide +kernel
theorem dX5_literal_19 : decode cX5_literal 19 = .ok (.aload_n 0, 1) := by decide +kernel
theorem dX5_literal_20 : decode cX5_literal 20 = .ok (.aload_n 0, 1) := by decide +kernel
theorem dX5_literal_21 : decode cX5_literal 21 = .ok (.getfield 70, 3) := by decide +kernel
theorem dX5_literal_24 : decode cX5_literal 24 = .ok (.getfield 271, 3) := by decide +kernel
theorem dX5_literal_27 : decode cX5_literal 27 = .ok (.iload_n 1, 1) := by decide +kernel
theorem dX5_literal_28 : decode cX5_literal 28 = .ok (.iload_n 3, 1) := by decide +kernel
theorem dX5_literal_29 : decode cX5_literal 29 = .ok (.iadd, 1) := by decide +kernel
theorem dX5_literal_30 : decode cX5_literal 30 = .ok (.invokestatic 113, 3) := by decide +kernel
theorem dX5_literal_33 : decode cX5_literal 33 = .ok (.putfield 33, 3) := by decide +kernel
theorem dX5_literal_36 : decode cX5_literal 36 = .ok (.aload_n 0, 1) := by decide +kernel
theorem dX5_literal_37 : decode cX5_literal 37 = .ok (.getfield 92, 3) := by decide +kernel
theorem dX5_literal_40 : decode cX5_literal 40 = .ok (.aload_n 0, 1) := by decide +kernel
theorem dX5_literal_41 : decode cX5_literal 41 = .ok (.getfield 70, 3) := by decide +kernel
theorem dX5_literal_44 : decode cX5_literal 44 = .ok (.getfield 274, 3) := by decide +kernel
theorem dX5_literal_47 : decode cX5_literal 47 = .ok (.iload_n 1, 1) := by decide +kernel
theorem dX5_literal_48 : decode cX5_literal 48 = .ok (.iload_n 3, 1) := by decide +kernel
theorem dX5_literal_49 : decode cX5_literal 49 = .ok (.iadd, 1) := by decide +kernel
theorem dX5_literal_50 : decode cX5_literal 50 = .ok (.invokestatic 277, 3) := by decide +kernel
theorem dX5_literal_53 : decode cX5_literal 53 = .ok (.invokevirtual 281, 3) := by decide +kernel
theorem dX5_literal_56 : decode cX5_literal 56 = .ok (.iinc 3 1, 3) := by decide +kernel
theorem dX5_literal_59 : decode cX5_literal 59 = .ok (.goto (-45), 3) := by decide +kernel
theorem dX5_line_0 : decode cX5_line 0 = .ok (.aload_n 0, 1) := by decide +kernel
theorem dX5_line_1 : decode cX5_line 1 = .ok (.aload_n 0, 1) := by decide +kernel
theorem dX5_line_2 : decode cX5_line 2 = .ok (.iconst 1, 1) := by decide +kernel
theorem dX5_line_3 : decode cX5_line 3 = .ok (.invokevirtual 252, 3) := by decide +kernel
theorem dX5_line_6 : decode cX5_line 6 = .ok (.putfield 33, 3) := by decide +kernel
theorem dX5_line_9 : decode cX5_line 9 = .ok (.aload_n 0, 1) := by decide +kernel
theorem dX5_line_10 : decode cX5_line 10 = .ok (.iconst 2, 1) := by decide +kernel
theorem dX5_line_11 : decode cX5_line 11 = .ok (.invokevirtual 252, 3) := by decide +kernel
theorem dX5_line_14 : decode cX5_line 14 = .ok (.ifCond .eq 17, 3) := by decide +kernel
theorem dX5_line_40 : decode cX5_line 40 = .ok (.aload_n 0, 1) := by decide +kernel
theorem dX5_line_41 : decode cX5_line 41 = .ok (.aload_n 0, 1) := by decide +kernel
theorem dX5_line_42 : decode cX5_line 42 = .ok (.getfield 92, 3) := by decide +kernel
theorem dX5_line_45 : decode cX5_line 45 = .ok (.getfield 262, 3) := by decide +kernel
theorem dX5_line_48 : decode cX5_line 48 = .ok (.putfield 36, 3) := by decide +kernel
theorem dX5_line_51 : decode cX5_line 51 = .ok (.aload_n 0, 1) := by decide +kernel
theorem dX5_line_52 : decode cX5_line 52 = .ok (.dup, 1) := by decide +kernel
theorem dX5_line_53 : decode cX5_line 53 = .ok (.getfield 27, 3) := by decide +kernel
theorem dX5_line_56 : decode cX5_line 56 = .ok (.iconst 3, 1) := by decide +kernel
theorem dX5_line_57 : decode cX5_line 57 = .ok (.iadd, 1) := by decide +kernel
theorem dX5_line_58 : decode cX5_line 58 = .ok (.putfield 27, 3) := by decide +kernel
theorem dX5_line_61 : decode cX5_line 61 = .ok (.return_, 1) := by decide +kernel
theorem dX5_line_31 : decode cX5_line 31 = .ok (.aload_n 0, 1) := by decide +kernel
theorem dX5_line_32 : decode cX5_line 32 = .ok (.getfield 92, 3) := by decide +kernel
theorem dX5_line_35 : decode cX5_line 35 = .ok (.bipush 10, 2) := by decide +kernel
theorem dX5_line_37 : decode cX5_line 37 = .ok (.invokevirtual 281, 3) := by decide +kernel
theorem dX5_line_17 : decode cX5_line 17 = .ok (.aload_n 0, 1) := by decide +kernel
theorem dX5_line_18 : decode cX5_line 18 = .ok (.getfield 92, 3) := by decide +kernel
theorem dX5_line_21 : decode cX5_line 21 = .ok (.getfield 262, 3) := by decide +kernel
theorem dX5_line_24 : decode cX5_line 24 = .ok (.aload_n 0, 1) := by decide +kernel
theorem dX5_line_25 : decode cX5_line 25 = .ok (.getfield 36, 3) := by decide +kernel
theorem dX5_line_28 : decode cX5_line 28 = .ok (.if_icmp .eq 12, 3) := by decide +kernel
theorem dX5_raw_0 : decode cX5_raw 0 = .ok (.aload_n 0, 1) := by decide +kernel
theorem dX5_raw_1 : decode cX5_raw 1 = .ok (.aload_n 0, 1) := by decide +kernel
theorem dX5_raw_2 : decode cX5_raw 2 = .ok (.iconst 1, 1) := by decide +kernel
theorem dX5_raw_3 : decode cX5_raw 3 = .ok (.invokevirtual 252, 3) := by decide +kernel
theorem dX5_raw_6 : decode cX5_raw 6 = .ok (.putfield 33, 3) := by decide +kernel
theorem dX5_raw_9 : decode cX5_raw 9 = .ok (.aload_n 0, 1) := by decide +kernel
theorem dX5_raw_10 : decode cX5_raw 10 = .ok (.iconst 2, 1) := by decide +kernel
theorem dX5_raw_11 : decode cX5_raw 11 = .ok (.invokevirtual 252, 3) := by decide +kernel
theorem dX5_raw_14 : decode cX5_raw 14 = .ok (.istore_n 1, 1) := by decide +kernel
theorem dX5_raw_15 : decode cX5_raw 15 = .ok (.aload_n 0, 1) := by decide +kernel
theorem dX5_raw_16 : decode cX5_raw 16 = .ok (.iconst 3, 1) := by decide +kernel
theorem dX5_raw_17 : decode cX5_raw 17 = .ok (.invokevirtual 252, 3) := by decide +kernel
theorem dX5_raw_20 : decode cX5_raw 20 = .ok (.istore_n 2, 1) := by decide +kernel
theorem dX5_raw_21 : decode cX5_raw 21 = .ok (.iconst 0, 1) := by decide +kernel
theorem dX5_raw_22 : decode cX5_raw 22 = .ok (.istore_n 3, 1) := by decide +kernel
theorem dX5_raw_23 : decode cX5_raw 23 = .ok (.iload_n 3, 1) := by decide +kernel
theorem dX5_raw_24 : decode cX5_raw 24 = .ok (.iload_n 2, 1) := by decide +kernel
theorem dX5_raw_25 : decode cX5_raw 25 = .ok (.if_icmp .ge 29, 3) := by decide +kernel
theorem dX5_raw_54 : decode cX5_raw 54 = .ok (.aload_n 0, 1) := by decide +kernel
theorem dX5_raw_55 : decode cX5_raw 55 = .ok (.dup, 1) := by decide +kernel
theorem dX5_raw_56 : decode cX5_raw 56 = .ok (.getfield 27, 3) := by decide +kernel
theorem dX5_raw_59 : decode cX5_raw 59 = .ok (.iconst 4, 1) := by decide +kernel
theorem dX5_raw_60 : decode cX5_raw 60 = .ok (.iadd, 1) := by decide +kernel
theorem dX5_raw_61 : decode cX5_raw 61 = .ok (.putfield 27, 3) := by decide +kernel
theorem dX5_raw_64 : decode cX5_raw 64 = .ok (.return_, 1) := by decide +kernel
theorem dX5_raw_28 : decode cX5_raw 28 = .ok (.aload_n 0, 1) := by decide +kernel
theorem dX5_raw_29 : decode cX5_raw 29 = .ok (.getfield 92, 3) := by decide +kernel
theorem dX5_raw_32 : decode cX5_raw 32 = .ok (.aload_n 0, 1) := by decide +kernel
theorem dX5_raw_33 : decode cX5_raw 33 = .ok (.getfield 70, 3) := by decide +kernel
theorem dX5_raw_36 : decode cX5_raw 36 = .ok (.getfield 274, 3) := by decide +kernel
theorem dX5_raw_39 : decode cX5_raw 39 = .ok (.iload_n 1, 1) := by decide +kernel
theorem dX5_raw_40 : decode cX5_raw 40 = .ok (.iload_n 3, 1) := by decide +kernel
theorem dX5_raw_41 : decode cX5_raw 41 = .ok (.iadd, 1) := by decide +kernel
theorem dX5_raw_42 : decode cX5_raw 42 = .ok (.invokestatic 277, 3) := by decide +kernel
theorem dX5_raw_45 : decode cX5_raw 45 = .ok (.invokevirtual 281, 3) := by decide +kernel
theorem dX5_raw_48 : decode cX5_raw 48 = .ok (.iinc 3 1, 3) := by decide +kernel
theorem dX5_raw_51 : decode cX5_raw 51 = .ok (.goto (-28), 3) := by decide +kernel
theorem dX5_tag_0 : decode cX5_tag 0 = .ok (.aload_n 0, 1) := by decide +kernel
theorem dX5_tag_1 : decode cX5_tag 1 = .ok (.aload_n 0, 1) := by decide +kernel
theorem dX5_tag_2 : decode cX5_tag 2 = .ok (.iconst 1, 1) := by decide +kernel
theorem dX5_tag_3 : decode cX5_tag 3 = .ok (.invokevirtual 252, 3) := by decide +kernel
theorem dX5_tag_6 : decode cX5_tag 6 = .ok (.putfield 33, 3) := by decide +kernel
theorem dX5_tag_9 : decode cX5_tag 9 = .ok (.aload_n 0, 1) := by decide +kernel
theorem dX5_tag_10 : decode cX5_tag 10 = .ok (.iconst 2, 1) := by decide +kernel
theorem dX5_tag_11 : decode cX5_tag 11 = .ok (.invokevirtual 252, 3) := by decide +kernel
theorem dX5_tag_14 : decode cX5_tag 14 = .ok (.istore_n 1, 1) := by decide +kernel
theorem dX5_tag_15 : decode cX5_tag 15 = .ok (.iload_n 1, 1) := by decide +kernel
theorem dX5_tag_16 : decode cX5_tag 16 = .ok (.ifCond .ne 14, 3) := by decide +kernel
theorem dX5_tag_30 : decode cX5_tag 30 = .ok (.aload_n 0, 1) := by decide +kernel
theorem dX5_tag_31 : decode cX5_tag 31 = .ok (.iconst (-1), 1) := by decide +kernel
theorem dX5_tag_32 : decode cX5_tag 32 = .ok (.invokevirtual 259, 3) := by decide +kernel
theorem dX5_tag_35 : decode cX5_tag 35 = .ok (.aload_n 0, 1) := by decide +kernel
theorem dX5_tag_36 : decode cX5_tag 36 = .ok (.iconst (-1), 1) := by decide +kernel
theorem dX5_tag_37 : decode cX5_tag 37 = .ok (.invokevirtual 259, 3) := by decide +kernel
theorem dX5_tag_40 : decode cX5_tag 40 = .ok (.aload_n 0, 1) := by decide +kernel
theorem dX5_tag_41 : decode cX5_tag 41 = .ok (.iconst 0, 1) := by decide +kernel
theorem dX5_tag_42 : decode cX5_tag 42 = .ok (.invokevirtual 259, 3) := by decide +kernel
theorem dX5_tag_45 : decode cX5_tag 45 = .ok (.aload_n 0, 1) := by decide +kernel
theorem dX5_tag_46 : decode cX5_tag 46 = .ok (.iconst (-1), 1) := by decide +kernel
theorem dX5_tag_47 : decode cX5_tag 47 = .ok (.invokevirtual 259, 3) := by decide +kernel
theorem dX5_tag_50 : decode cX5_tag 50 = .ok (.aload_n 0, 1) := by decide +kernel
theorem dX5_tag_51 : decode cX5_tag 51 = .ok (.ldc_w 283, 3) := by decide +kernel
theorem dX5_tag_54 : decode cX5_tag 54 = .ok (.invokevirtual 259, 3) := by decide +kernel
theorem dX5_tag_57 : decode cX5_tag 57 = .ok (.aload_n 0, 1) := by decide +kernel
theorem dX5_tag_58 : decode cX5_tag 58 = .ok (.iload_n 1, 1) := by decide +kernel
theorem dX5_tag_59 : decode cX5_tag 59 = .ok (.putfield 27, 3) := by decide +kernel
theorem dX5_tag_62 : decode cX5_tag 62 = .ok (.return_, 1) := by decide +kernel
theorem dX5_tag_19 : decode cX5_tag 19 = .ok (.aload_n 0, 1) := by decide +kernel
theorem dX5_tag_20 : decode cX5_tag 20 = .ok (.dup, 1) := by decide +kernel
theorem dX5_tag_21 : decode cX5_tag 21 = .ok (.getfield 27, 3) := by decide +kernel
theorem dX5_tag_24 : decode cX5_tag 24 = .ok (.iconst 3, 1) := by decide +kernel
theorem dX5_tag_25 : decode cX5_tag 25 = .ok (.iadd, 1) := by decide +kernel
theorem dX5_tag_26 : decode cX5_tag 26 = .ok (.putfield 27, 3) := by decide +kernel
theorem dX5_tag_29 : decode cX5_tag 29 = .ok (.return_, 1) := by decide +kernel
theorem dX5_pop_0 : decode cX5_pop 0 = .ok (.aload_n 0, 1) := by decide +kernel
theorem dX5_pop_1 : decode cX5_pop 1 = .ok (.getfield 16, 3) := by decide +kernel
theorem dX5_pop_4 : decode cX5_pop 4 = .ok (.ifCond .le 15, 3) := by decide +kernel
theorem dX5_pop_19 : decode cX5_pop 19 = .ok (.iconst (-1), 1) := by decide +kernel
theorem dX5_pop_20 : decode cX5_pop 20 = .ok (.ireturn, 1) := by decide +kernel
theorem dX5_pop_7 : decode cX5_pop 7 = .ok (.aload_n 0, 1) := by decide +kernel
theorem dX5_pop_8 : decode cX5_pop 8 = .ok (.getfield 16, 3) := by decide +kernel
theorem dX5_pop_11 : decode cX5_pop 11 = .ok (.aload_n 0, 1) := by decide +kernel
theorem dX5_pop_12 : decode cX5_pop 12 = .ok (.getfield 10, 3) := by decide +kernel
theorem dX5_pop_15 : decode cX5_pop 15 = .ok (.arraylength, 1) := by decide +kernel
theorem dX5_pop_16 : decode cX5_pop 16 = .ok (.if_icmp .le 5, 3) := by decide +kernel
theorem dX5_pop_21 : decode cX5_pop 21 = .ok (.aload_n 0, 1) := by decide +kernel
theorem dX5_pop_22 : decode cX5_pop 22 = .ok (.dup, 1) := by decide +kernel
theorem dX5_pop_23 : decode cX5_pop 23 = .ok (.getfield 16, 3) := by decide +kernel
theorem dX5_pop_26 : decode cX5_pop 26 = .ok (.iconst 1, 1) := by decide +kernel
theorem dX5_pop_27 : decode cX5_pop 27 = .ok (.isub, 1) := by decide +kernel
theorem dX5_pop_28 : decode cX5_pop 28 = .ok (.putfield 16, 3) := by decide +kernel
theorem dX5_pop_31 : decode cX5_pop 31 = .ok (.aload_n 0, 1) := by decide +kernel
theorem dX5_pop_32 : decode cX5_pop 32 = .ok (.getfield 10, 3) := by decide +kernel
theorem dX5_pop_35 : decode cX5_pop 35 = .ok (.aload_n 0, 1) := by decide +kernel
theorem dX5_pop_36 : decode cX5_pop 36 = .ok (.getfield 16, 3) := by decide +kernel
theorem dX5_pop_39 : decode cX5_pop 39 = .ok (.iaload, 1) := by decide +kernel
theorem dX5_pop_40 : decode cX5_pop 40 = .ok (.ireturn, 1) := by decide +kernel
theorem dX3_isTrue_0 : decode cX3_isTrue 0 = .ok (.iload_n 1, 1) := by decide +kernel
theorem dX3_isTrue_1 : decode cX3_isTrue 1 = .ok (.iconst (-1), 1) := by decide +kernel
theorem dX3_isTrue_2 : decode cX3_isTrue 2 = .ok (.if_icmp .eq 26, 3) := by decide +kernel
theorem dX3_isTrue_28 : decode cX3_isTrue 28 = .ok (.iconst 0, 1) := by decide +kernel
theorem dX3_isTrue_29 : decode cX3_isTrue 29 = .ok (.ireturn, 1) := by decide +kernel
theorem dX3_isTrue_5 : decode cX3_isTrue 5 = .ok (.iload_n 1, 1) := by decide +kernel
theorem dX3_isTrue_6 : decode cX3_isTrue 6 = .ok (.ldc 160, 2) := by decide +kernel
theorem dX3_isTrue_8 : decode cX3_isTrue 8 = .ok (.if_icmp .eq 20, 3) := by decide +kernel
theorem dX3_isTrue_11 : decode cX3_isTrue 11 = .ok (.aload_n 0, 1) := by decide +kernel
theorem dX3_isTrue_12 : decode cX3_isTrue 12 = .ok (.iload_n 1, 1) := by decide +kernel
theorem dX3_isTrue_13 : decode cX3_isTrue 13 = .ok (.iconst 0, 1) := by decide +kernel
theorem dX3_isTrue_14 : decode cX3_isTrue 14 = .ok (.invokevirtual 161, 3) := by decide +kernel
theorem dX3_isTrue_17 : decode cX3_isTrue 17 = .ok (.ifCond .eq 13, 3) := by decide +kernel
theorem dX3_isTrue_30 : decode cX3_isTrue 30 = .ok (.iload_n 1, 1) := by decide +kernel
theorem dX3_isTrue_31 : decode cX3_isTrue 31 = .ok (.invokestatic 119, 3) := by decide +kernel
theorem dX3_isTrue_34 : decode cX3_isTrue 34 = .ok (.ldc 136, 2) := by decide +kernel
theorem dX3_isTrue_36 : decode cX3_isTrue 36 = .ok (.if_icmp .ne 28, 3) := by decide +kernel
theorem dX3_isTrue_64 : decode cX3_isTrue 64 = .ok (.aload_n 0, 1) := by decide +kernel
theorem dX3_isTrue_65 : decode cX3_isTrue 65 = .ok (.iload_n 1, 1) := by decide +kernel
theorem dX3_isTrue_66 : decode cX3_isTrue 66 = .ok (.invokevirtual 126, 3) := by decide +kernel
theorem dX3_isTrue_69 : decode cX3_isTrue 69 = .ok (.ifCond .eq 11, 3) := by decide +kernel
theorem dX3_isTrue_85 : decode cX3_isTrue 85 = .ok (.ireturn, 1) := by decide +kernel
theorem dX3_isTrue_80 : decode cX3_isTrue 80 = .ok (.iconst 1, 1) := by decide +kernel
theorem dX3_isTrue_81 : decode cX3_isTrue 81 = .ok (.goto 4, 3) := by decide +kernel
theorem dX3_isTrue_72 : decode cX3_isTrue 72 = .ok (.aload_n 0, 1) := by decide +kernel
theorem dX3_isTrue_73 : decode cX3_isTrue 73 = .ok (.iload_n 1, 1) := by decide +kernel
theorem dX3_isTrue_74 : decode cX3_isTrue 74 = .ok (.invokevirtual 168, 3) := by decide +kernel
theorem dX3_isTrue_77 : decode cX3_isTrue 77 = .ok (.ifCond .le 7, 3) := by decide +kernel
theorem dX3_isTrue_84 : decode cX3_isTrue 84 = .ok (.iconst 0, 1) := by decide +kernel
theorem dX3_isTrue_39 : decode cX3_isTrue 39 = .ok (.aload_n 0, 1) := by decide +kernel
theorem dX3_isTrue_40 : decode cX3_isTrue 40 = .ok (.getfield 75, 3) := by decide +kernel
theorem dX3_isTrue_43 : decode cX3_isTrue 43 = .ok (.getfield 137, 3) := by decide +kernel
theorem dX3_isTrue_46 : decode cX3_isTrue 46 = .ok (.iload_n 1, 1) := by decide +kernel
theorem dX3_isTrue_47 : decode cX3_isTrue 47 = .ok (.ldc 100, 2) := by decide +kernel
theorem dX3_isTrue_49 : decode cX3_isTrue 49 = .ok (.iand, 1) := by decide +kernel
theorem dX3_isTrue_50 : decode cX3_isTrue 50 = .ok (.iconst 2, 1) := by decide +kernel
theorem dX3_isTrue_51 : decode cX3_isTrue 51 = .ok (.iadd, 1) := by decide +kernel
theorem dX3_isTrue_52 : decode cX3_isTrue 52 = .ok (.invokestatic 122, 3) := by decide +kernel
theorem dX3_isTrue_55 : decode cX3_isTrue 55 = .ok (.ifCond .le 7, 3) := by decide +kernel
theorem dX3_isTrue_63 : decode cX3_isTrue 63 = .ok (.ireturn, 1) := by decide +kernel
theorem dX3_isTrue_62 : decode cX3_isTrue 62 = .ok (.iconst 0, 1) := by decide +kernel
theorem dX3_isTrue_58 : decode cX3_isTrue 58 = .ok (.iconst 1, 1) := by decide +kernel
theorem dX3_isTrue_59 : decode cX3_isTrue 59 = .ok (.goto 4, 3) := by decide +kernel
theorem dX3_isTrue_20 : decode cX3_isTrue 20 = .ok (.aload_n 0, 1) := by decide +kernel
theorem dX3_isTrue_21 : decode cX3_isTrue 21 = .ok (.iload_n 1, 1) := by decide +kernel
theorem dX3_isTrue_22 : decode cX3_isTrue 22 = .ok (.invokevirtual 165, 3) := by decide +kernel
theorem dX3_isTrue_25 : decode cX3_isTrue 25 = .ok (.ifCond .ne 5, 3) := by decide +kernel
theorem dX11_indent_0 : decode cX11_indent 0 = .ok (.aload_n 0, 1) := by decide +kernel
theorem dX11_indent_1 : decode cX11_indent 1 = .ok (.getfield 45, 3) := by decide +kernel
theorem dX11_indent_4 : decode cX11_indent 4 = .ok (.iconst 2, 1) := by decide +kernel
theorem dX11_indent_5 : decode cX11_indent 5 = .ok (.aload_n 0, 1) := by decide +kernel
theorem dX11_indent_6 : decode cX11_indent 6 = .ok (.getfield 51, 3) := by decide +kernel
theorem dX11_indent_9 : decode cX11_indent 9 = .ok (.imul, 1) := by decide +kernel
theorem dX11_indent_10 : decode cX11_indent 10 = .ok (.iload_n 1, 1) := by decide +kernel
theorem dX11_indent_11 : decode cX11_indent 11 = .ok (.invokestatic 70, 3) := by decide +kernel
theorem dX11_indent_14 : decode cX11_indent 14 = .ok (.aload_n 0, 1) := by decide +kernel
theorem dX11_indent_15 : decode cX11_indent 15 = .ok (.getfield 45, 3) := by decide +kernel
theorem dX11_indent_18 : decode cX11_indent 18 = .ok (.iconst 2, 1) := by decide +kernel
theorem dX11_indent_19 : decode cX11_indent 19 = .ok (.aload_n 0, 1) := by decide +kernel
theorem dX11_indent_20 : decode cX11_indent 20 = .ok (.getfield 51, 3) := by decide +kernel
theorem dX11_indent_23 : decode cX11_indent 23 = .ok (.imul, 1) := by decide +kernel
theorem dX11_indent_24 : decode cX11_indent 24 = .ok (.iconst 1, 1) := by decide +kernel
theorem dX11_indent_25 : decode cX11_indent 25 = .ok (.iadd, 1) := by decide +kernel
theorem dX11_indent_26 : decode cX11_indent 26 = .ok (.iload_n 2, 1) := by decide +kernel
theorem dX11_indent_27 : decode cX11_indent 27 = .ok (.invokestatic 70, 3) := by decide +kernel
theorem dX11_indent_30 : decode cX11_indent 30 = .ok (.aload_n 0, 1) := by decide +kernel
theorem dX11_indent_31 : decode cX11_indent 31 = .ok (.dup, 1) := by decide +kernel
theorem dX11_indent_32 : decode cX11_indent 32 = .ok (.getfield 51, 3) := by decide +kernel
theorem dX11_indent_35 : decode cX11_indent 35 = .ok (.iconst 1, 1) := by decide +kernel
theorem dX11_indent_36 : decode cX11_indent 36 = .ok (.iadd, 1) := by decide +kernel
theorem dX11_indent_37 : decode cX11_indent 37 = .ok (.putfield 51, 3) := by decide +kernel
theorem dX11_indent_40 : decode cX11_indent 40 = .ok (.return_, 1) := by decide +kernel
theorem dX5_leave_0 : decode cX5_leave 0 = .ok (.aload_n 0, 1) := by decide +kernel
theorem dX5_leave_1 : decode cX5_leave 1 = .ok (.invokevirtual 305, 3) := by decide +kernel
theorem dX5_leave_4 : decode cX5_leave 4 = .ok (.pop, 1) := by decide +kernel
theorem dX5_leave_5 : decode cX5_leave 5 = .ok (.aload_n 0, 1) := by decide +kernel
theorem dX5_leave_6 : decode cX5_leave 6 = .ok (.aload_n 0, 1) := by decide +kernel
theorem dX5_leave_7 : decode cX5_leave 7 = .ok (.invokevirtual 305, 3) := by decide +kernel
theorem dX5_leave_10 : decode cX5_leave 10 = .ok (.putfield 33, 3) := by decide +kernel
theorem dX5_leave_13 : decode cX5_leave 13 = .ok (.aload_n 0, 1) := by decide +kernel
theorem dX5_leave_14 : decode cX5_leave 14 = .ok (.aload_n 0, 1) := by decide +kernel
theorem dX5_leave_15 : decode cX5_leave 15 = .ok (.invokevirtual 305, 3) := by decide +kernel
theorem dX5_leave_18 : decode cX5_leave 18 = .ok (.putfield 36, 3) := by decide +kernel
theorem dX5_leave_21 : decode cX5_leave 21 = .ok (.aload_n 0, 1) := by decide +kernel
theorem dX5_leave_22 : decode cX5_leave 22 = .ok (.aload_n 0, 1) := by decide +kernel
theorem dX5_leave_23 : decode cX5_leave 23 = .ok (.invokevirtual 305, 3) := by decide +kernel
theorem dX5_leave_26 : decode cX5_leave 26 = .ok (.putfield 27, 3) := by decide +kernel
theorem dX5_leave_29 : decode cX5_leave 29 = .ok (.aload_n 0, 1) := by decide +kernel
theorem dX5_leave_30 : decode cX5_leave 30 = .ok (.aload_n 0, 1) := by decide +kernel
theorem dX5_leave_31 : decode cX5_leave 31 = .ok (.invokevirtual 305, 3) := by decide +kernel
theorem dX5_leave_34 : decode cX5_leave 34 = .ok (.putfield 30, 3) := by decide +kernel
theorem dX5_leave_37 : decode cX5_leave 37 = .ok (.aload_n 0, 1) := by decide +kernel
theorem dX5_leave_38 : decode cX5_leave 38 = .ok (.dup, 1) := by decide +kernel
theorem dX5_leave_39 : decode cX5_leave 39 = .ok (.getfield 39, 3) := by decide +kernel
theorem dX5_leave_42 : decode cX5_leave 42 = .ok (.iconst 1, 1) := by decide +kernel
theorem dX5_leave_43 : decode cX5_leave 43 = .ok (.isub, 1) := by decide +kernel
theorem dX5_leave_44 : decode cX5_leave 44 = .ok (.putfield 39, 3) := by decide +kernel
theorem dX5_leave_47 : decode cX5_leave 47 = .ok (.return_, 1) := by decide +kernel
theorem dX5_items_0 : decode cX5_items 0 = .ok (.aload_n 0, 1) := by decide +kernel
theorem dX5_items_1 : decode cX5_items 1 = .ok (.iconst 1, 1) := by decide +kernel
theorem dX5_items_2 : decode cX5_items 2 = .ok (.invokevirtual 252, 3) := by decide +kernel
theorem dX5_items_5 : decode cX5_items 5 = .ok (.istore_n 1, 1) := by decide +kernel
theorem dX5_items_6 : decode cX5_items 6 = .ok (.aload_n 0, 1) := by decide +kernel
theorem dX5_items_7 : decode cX5_items 7 = .ok (.getfield 16, 3) := by decide +kernel
theorem dX5_items_10 : decode cX5_items 10 = .ok (.iload_n 1, 1) := by decide +kernel
theorem dX5_items_11 : decode cX5_items 11 = .ok (.isub, 1) := by decide +kernel
theorem dX5_items_12 : decode cX5_items 12 = .ok (.istore_n 2, 1) := by decide +kernel
theorem dX5_items_13 : decode cX5_items 13 = .ok (.iconst 0, 1) := by decide +kernel
theorem dX5_items_14 : decode cX5_items 14 = .ok (.istore_n 3, 1) := by decide +kernel
theorem dX5_items_15 : decode cX5_items 15 = .ok (.iconst 0, 1) := by decide +kernel
theorem dX5_items_16 : decode cX5_items 16 = .ok (.istore 4, 2) := by decide +kernel
theorem dX5_items_18 : decode cX5_items 18 = .ok (.iload 4, 2) := by decide +kernel
theorem dX5_items_20 : decode cX5_items 20 = .ok (.iload_n 1, 1) := by decide +kernel
theorem dX5_items_21 : decode cX5_items 21 = .ok (.if_icmp .ge 50, 3) := by decide +kernel
theorem dX5_items_71 : decode cX5_items 71 = .ok (.aload_n 0, 1) := by decide +kernel
theorem dX5_items_72 : decode cX5_items 72 = .ok (.getfield 83, 3) := by decide +kernel
theorem dX5_items_75 : decode cX5_items 75 = .ok (.iload_n 3, 1) := by decide +kernel
theorem dX5_items_76 : decode cX5_items 76 = .ok (.bipush 100, 2) := by decide +kernel
theorem dX5_items_78 : decode cX5_items 78 = .ok (.if_icmp .ge 7, 3) := by decide +kernel
theorem dX5_items_87 : decode cX5_items 87 = .ok (.invokevirtual 223, 3) := by decide +kernel
theorem dX5_items_90 : decode cX5_items 90 = .ok (.istore 4, 2) := by decide +kernel
theorem dX5_items_92 : decode cX5_items 92 = .ok (.iconst 0, 1) := by decide +kernel
theorem dX5_items_93 : decode cX5_items 93 = .ok (.istore_n 3, 1) := by decide +kernel
theorem dX5_items_94 : decode cX5_items 94 = .ok (.iconst 0, 1) := by decide +kernel
theorem dX5_items_95 : decode cX5_items 95 = .ok (.istore 5, 2) := by decide +kernel
theorem dX5_items_97 : decode cX5_items 97 = .ok (.iload 5, 2) := by decide +kernel
theorem dX5_items_99 : decode cX5_items 99 = .ok (.iload_n 1, 1) := by decide +kernel
theorem dX5_items_100 : decode cX5_items 100 = .ok (.if_icmp .ge 43, 3) := by decide +kernel
theorem dX5_items_143 : decode cX5_items 143 = .ok (.aload_n 0, 1) := by decide +kernel
theorem dX5_items_144 : decode cX5_items 144 = .ok (.iload_n 2, 1) := by decide +kernel
theorem dX5_items_145 : decode cX5_items 145 = .ok (.putfield 16, 3) := by decide +kernel
theorem dX5_items_148 : decode cX5_items 148 = .ok (.aload_n 0, 1) := by decide +kernel
theorem dX5_items_149 : decode cX5_items 149 = .ok (.iload 4, 2) := by decide +kernel
theorem dX5_items_151 : decode cX5_items 151 = .ok (.invokevirtual 259, 3) := by decide +kernel
theorem dX5_items_154 : decode cX5_items 154 = .ok (.aload_n 0, 1) := by decide +kernel
theorem dX5_items_155 : decode cX5_items 155 = .ok (.dup, 1) := by decide +kernel
theorem dX5_items_156 : decode cX5_items 156 = .ok (.getfield 27, 3) := by decide +kernel
theorem dX5_items_159 : decode cX5_items 159 = .ok (.iconst 2, 1) := by decide +kernel
theorem dX5_items_160 : decode cX5_items 160 = .ok (.iadd, 1) := by decide +kernel
theorem dX5_items_161 : decode cX5_items 161 = .ok (.putfield 27, 3) := by decide +kernel
theorem dX5_items_164 : decode cX5_items 164 = .ok (.return_, 1) := by decide +kernel
theorem dX5_items_103 : decode cX5_items 103 = .ok (.aload_n 0, 1) := by decide +kernel
theorem dX5_items_104 : decode cX5_items 104 = .ok (.getfield 10, 3) := by decide +kernel
theorem dX5_items_107 : decode cX5_items 107 = .ok (.iload_n 2, 1) := by decide +kernel
theorem dX5_items_108 : decode cX5_items 108 = .ok (.iload 5, 2) := by decide +kernel
theorem dX5_items_110 : decode cX5_items 110 = .ok (.iadd, 1) := by decide +kernel
theorem dX5_items_111 : decode cX5_items 111 = .ok (.invokestatic 113, 3) := by decide +kernel
theorem dX5_items_114 : decode cX5_items 114 = .ok (.istore 6, 2) := by decide +kernel
theorem dX5_items_116 : decode cX5_items 116 = .ok (.aload_n 0, 1) := by decide +kernel
theorem dX5_items_117 : decode cX5_items 117 = .ok (.iload 4, 2) := by decide +kernel
theorem dX5_items_119 : decode cX5_items 119 = .ok (.iload_n 3, 1) := by decide +kernel
theorem dX5_items_120 : decode cX5_items 120 = .ok (.iload 6, 2) := by decide +kernel
theorem dX5_items_122 : decode cX5_items 122 = .ok (.aload_n 0, 1) := by decide +kernel
theorem dX5_items_123 : decode cX5_items 123 = .ok (.getfield 83, 3) := by decide +kernel
theorem dX5_items_126 : decode cX5_items 126 = .ok (.iload 6, 2) := by decide +kernel
theorem dX5_items_128 : decode cX5_items 128 = .ok (.invokevirtual 312, 3) := by decide +kernel
theorem dX5_items_131 : decode cX5_items 131 = .ok (.bipush 100, 2) := by decide +kernel
theorem dX5_items_133 : decode cX5_items 133 = .ok (.invokevirtual 226, 3) := by decide +kernel
theorem dX5_items_136 : decode cX5_items 136 = .ok (.istore_n 3, 1) := by decide +kernel
theorem dX5_items_137 : decode cX5_items 137 = .ok (.iinc 5 1, 3) := by decide +kernel
theorem dX5_items_140 : decode cX5_items 140 = .ok (.goto (-43), 3) := by decide +kernel
theorem dX5_items_85 : decode cX5_items 85 = .ok (.bipush 100, 2) := by decide +kernel
theorem dX5_items_81 : decode cX5_items 81 = .ok (.iload_n 3, 1) := by decide +kernel
theorem dX5_items_82 : decode cX5_items 82 = .ok (.goto 5, 3) := by decide +kernel
theorem dX5_items_24 : decode cX5_items 24 = .ok (.aload_n 0, 1) := by decide +kernel
theorem dX5_items_25 : decode cX5_items 25 = .ok (.getfield 10, 3) := by decide +kernel
theorem dX5_items_28 : decode cX5_items 28 = .ok (.iload_n 2, 1) := by decide +kernel
theorem dX5_items_29 : decode cX5_items 29 = .ok (.iload 4, 2) := by decide +kernel
theorem dX5_items_31 : decode cX5_items 31 = .ok (.iadd, 1) := by decide +kernel
theorem dX5_items_32 : decode cX5_items 32 = .ok (.invokestatic 113, 3) := by decide +kernel
theorem dX5_items_35 : decode cX5_items 35 = .ok (.istore 5, 2) := by decide +kernel
theorem dX5_items_37 : decode cX5_items 37 = .ok (.iload_n 3, 1) := by decide +kernel
theorem dX5_items_38 : decode cX5_items 38 = .ok (.aload_n 0, 1) := by decide +kernel
theorem dX5_items_39 : decode cX5_items 39 = .ok (.getfield 83, 3) := by decide +kernel
theorem dX5_items_42 : decode cX5_items 42 = .ok (.iload 5, 2) := by decide +kernel
theorem dX5_items_44 : decode cX5_items 44 = .ok (.invokevirtual 312, 3) := by decide +kernel
theorem dX5_items_47 : decode cX5_items 47 = .ok (.ifCond .eq 15, 3) := by decide +kernel
theorem dX5_items_63 : decode cX5_items 63 = .ok (.iadd, 1) := by decide +kernel
theorem dX5_items_64 : decode cX5_items 64 = .ok (.istore_n 3, 1) := by decide +kernel
theorem dX5_items_65 : decode cX5_items 65 = .ok (.iinc 4 1, 3) := by decide +kernel
theorem dX5_items_68 : decode cX5_items 68 = .ok (.goto (-50), 3) := by decide +kernel
theorem dX5_items_62 : decode cX5_items 62 = .ok (.iconst 1, 1) := by decide +kernel
theorem dX5_items_50 : decode cX5_items 50 = .ok (.aload_n 0, 1) := by decide +kernel
theorem dX5_items_51 : decode cX5_items 51 = .ok (.getfield 83, 3) := by decide +kernel
theorem dX5_items_54 : decode cX5_items 54 = .ok (.iload 5, 2) := by decide +kernel
theorem dX5_items_56 : decode cX5_items 56 = .ok (.invokevirtual 220, 3) := by decide +kernel
theorem dX5_items_59 : decode cX5_items 59 = .ok (.goto 4, 3) := by decide +kernel
theorem dX5_calledBy_0 : decode cX5_calledBy 0 = .ok (.aload_n 0, 1) := by decide +kernel
theorem dX5_calledBy_1 : decode cX5_calledBy 1 = .ok (.invokevirtual 254, 3) := by decide +kernel
theorem dX5_calledBy_4 : decode cX5_calledBy 4 = .ok (.pop, 1) := by decide +kernel
theorem dX5_calledBy_5 : decode cX5_calledBy 5 = .ok (.aload_n 0, 1) := by decide +kernel
theorem dX5_calledBy_6 : decode cX5_calledBy 6 = .ok (.ldc 206, 2) := by decide +kernel
theorem dX5_calledBy_8 : decode cX5_calledBy 8 = .ok (.iload_n 1, 1) := by decide +kernel
theorem dX5_calledBy_9 : decode cX5_calledBy 9 = .ok (.ior, 1) := by decide +kernel
theorem dX5_calledBy_10 : decode cX5_calledBy 10 = .ok (.invokevirtual 259, 3) := by decide +kernel
theorem dX5_calledBy_13 : decode cX5_calledBy 13 = .ok (.aload_n 0, 1) := by decide +kernel
theorem dX5_calledBy_14 : decode cX5_calledBy 14 = .ok (.dup, 1) := by decide +kernel
theorem dX5_calledBy_15 : decode cX5_calledBy 15 = .ok (.getfield 27, 3) := by decide +kernel
theorem dX5_calledBy_18 : decode cX5_calledBy 18 = .ok (.iconst 5, 1) := by decide +kernel
theorem dX5_calledBy_19 : decode cX5_calledBy 19 = .ok (.iadd, 1) := by decide +kernel
theorem dX5_calledBy_20 : decode cX5_calledBy 20 = .ok (.putfield 27, 3) := by decide +kernel
theorem dX5_calledBy_23 : decode cX5_calledBy 23 = .ok (.return_, 1) := by decide +kernel
theorem dX5_slice_0 : decode cX5_slice 0 = .ok (.aload_n 0, 1) := by decide +kernel
theorem dX5_slice_1 : decode cX5_slice 1 = .ok (.getfield 83, 3) := by decide +kernel
theorem dX5_slice_4 : decode cX5_slice 4 = .ok (.iload_n 3, 1) := by decide +kernel
theorem dX5_slice_5 : decode cX5_slice 5 = .ok (.invokevirtual 223, 3) := by decide +kernel
theorem dX5_slice_8 : decode cX5_slice 8 = .ok (.istore 4, 2) := by decide +kernel
theorem dX5_slice_10 : decode cX5_slice 10 = .ok (.iconst 0, 1) := by decide +kernel
theorem dX5_slice_11 : decode cX5_slice 11 = .ok (.istore 5, 2) := by decide +kernel
theorem dX5_slice_13 : decode cX5_slice 13 = .ok (.iload 5, 2) := by decide +kernel
theorem dX5_slice_15 : decode cX5_slice 15 = .ok (.iload_n 3, 1) := by decide +kernel
theorem dX5_slice_16 : decode cX5_slice 16 = .ok (.if_icmp .ge 32, 3) := by decide +kernel
theorem dX5_slice_48 : decode cX5_slice 48 = .ok (.iload 4, 2) := by decide +kernel
theorem dX5_slice_50 : decode cX5_slice 50 = .ok (.ireturn, 1) := by decide +kernel
theorem dX5_slice_19 : decode cX5_slice 19 = .ok (.aload_n 0, 1) := by decide +kernel
theorem dX5_slice_20 : decode cX5_slice 20 = .ok (.getfield 83, 3) := by decide +kernel
theorem dX5_slice_23 : decode cX5_slice 23 = .ok (.iload 4, 2) := by decide +kernel
theorem dX5_slice_25 : decode cX5_slice 25 = .ok (.iload 5, 2) := by decide +kernel
theorem dX5_slice_27 : decode cX5_slice 27 = .ok (.aload_n 0, 1) := by decide +kernel
theorem dX5_slice_28 : decode cX5_slice 28 = .ok (.getfield 83, 3) := by decide +kernel
theorem dX5_slice_31 : decode cX5_slice 31 = .ok (.iload_n 1, 1) := by decide +kernel
theorem dX5_slice_32 : decode cX5_slice 32 = .ok (.iload_n 2, 1) := by decide +kernel
theorem dX5_slice_33 : decode cX5_slice 33 = .ok (.iload 5, 2) := by decide +kernel
theorem dX5_slice_35 : decode cX5_slice 35 = .ok (.iadd, 1) := by decide +kernel
theorem dX5_slice_36 : decode cX5_slice 36 = .ok (.invokevirtual 230, 3) := by decide +kernel
theorem dX5_slice_39 : decode cX5_slice 39 = .ok (.invokevirtual 233, 3) := by decide +kernel
theorem dX5_slice_42 : decode cX5_slice 42 = .ok (.iinc 5 1, 3) := by decide +kernel
theorem dX5_slice_45 : decode cX5_slice 45 = .ok (.goto (-32), 3) := by decide +kernel
theorem dX5_stripped_0 : decode cX5_stripped 0 = .ok (.iconst 0, 1) := by decide +kernel
theorem dX5_stripped_1 : decode cX5_stripped 1 = .ok (.istore_n 3, 1) := by decide +kernel
theorem dX5_stripped_2 : decode cX5_stripped 2 = .ok (.iconst 0, 1) := by decide +kernel
theorem dX5_stripped_3 : decode cX5_stripped 3 = .ok (.istore 4, 2) := by decide +kernel
theorem dX5_stripped_5 : decode cX5_stripped 5 = .ok (.iload 4, 2) := by decide +kernel
theorem dX5_stripped_7 : decode cX5_stripped 7 = .ok (.iload_n 2, 1) := by decide +kernel
theorem dX5_stripped_8 : decode cX5_stripped 8 = .ok (.if_icmp .ge 31, 3) := by decide +kernel
theorem dX5_stripped_39 : decode cX5_stripped 39 = .ok (.aload_n 0, 1) := by decide +kernel
theorem dX5_stripped_40 : decode cX5_stripped 40 = .ok (.getfield 83, 3) := by decide +kernel
theorem dX5_stripped_43 : decode cX5_stripped 43 = .ok (.iload_n 3, 1) := by decide +kernel
theorem dX5_stripped_44 : decode cX5_stripped 44 = .ok (.invokevirtual 223, 3) := by decide +kernel
theorem dX5_stripped_47 : decode cX5_stripped 47 = .ok (.istore 4, 2) := by decide +kernel
theorem dX5_stripped_49 : decode cX5_stripped 49 = .ok (.iconst 0, 1) := by decide +kernel
theorem dX5_stripped_50 : decode cX5_stripped 50 = .ok (.istore_n 3, 1) := by decide +kernel
theorem dX5_stripped_51 : decode cX5_stripped 51 = .ok (.iconst 0, 1) := by decide +kernel
theorem dX5_stripped_52 : decode cX5_stripped 52 = .ok (.istore 5, 2) := by decide +kernel
theorem dX5_stripped_54 : decode cX5_stripped 54 = .ok (.iload 5, 2) := by decide +kernel
theorem dX5_stripped_56 : decode cX5_stripped 56 = .ok (.iload_n 2, 1) := by decide +kernel
theorem dX5_stripped_57 : decode cX5_stripped 57 = .ok (.if_icmp .ge 42, 3) := by decide +kernel
theorem dX5_stripped_99 : decode cX5_stripped 99 = .ok (.iload 4, 2) := by decide +kernel
theorem dX5_stripped_101 : decode cX5_stripped 101 = .ok (.ireturn, 1) := by decide +kernel
theorem dX5_stripped_60 : decode cX5_stripped 60 = .ok (.aload_n 0, 1) := by decide +kernel
theorem dX5_stripped_61 : decode cX5_stripped 61 = .ok (.getfield 83, 3) := by decide +kernel
theorem dX5_stripped_64 : decode cX5_stripped 64 = .ok (.iload_n 1, 1) := by decide +kernel
theorem dX5_stripped_65 : decode cX5_stripped 65 = .ok (.iload 5, 2) := by decide +kernel
theorem dX5_stripped_67 : decode cX5_stripped 67 = .ok (.invokevirtual 230, 3) := by decide +kernel
theorem dX5_stripped_70 : decode cX5_stripped 70 = .ok (.istore 6, 2) := by decide +kernel
theorem dX5_stripped_72 : decode cX5_stripped 72 = .ok (.iload 6, 2) := by decide +kernel
theorem dX5_stripped_74 : decode cX5_stripped 74 = .ok (.iconst (-1), 1) := by decide +kernel
theorem dX5_stripped_75 : decode cX5_stripped 75 = .ok (.if_icmp .eq 18, 3) := by decide +kernel
theorem dX5_stripped_93 : decode cX5_stripped 93 = .ok (.iinc 5 1, 3) := by decide +kernel
theorem dX5_stripped_96 : decode cX5_stripped 96 = .ok (.goto (-42), 3) := by decide +kernel
theorem dX5_stripped_78 : decode cX5_stripped 78 = .ok (.aload_n 0, 1) := by decide +kernel
theorem dX5_stripped_79 : decode cX5_stripped 79 = .ok (.getfield 83, 3) := by decide +kernel
theorem dX5_stripped_82 : decode cX5_stripped 82 = .ok (.iload 4, 2) := by decide +kernel
theorem dX5_stripped_84 : decode cX5_stripped 84 = .ok (.iload_n 3, 1) := by decide +kernel
theorem dX5_stripped_85 : decode cX5_stripped 85 = .ok (.iload 6, 2) := by decide +kernel
theorem dX5_stripped_87 : decode cX5_stripped 87 = .ok (.invokevirtual 233, 3) := by decide +kernel
theorem dX5_stripped_90 : decode cX5_stripped 90 = .ok (.iinc 3 1, 3) := by decide +kernel
theorem dX5_stripped_11 : decode cX5_stripped 11 = .ok (.iload_n 3, 1) := by decide +kernel
theorem dX5_stripped_12 : decode cX5_stripped 12 = .ok (.aload_n 0, 1) := by decide +kernel
theorem dX5_stripped_13 : decode cX5_stripped 13 = .ok (.getfield 83, 3) := by decide +kernel
theorem dX5_stripped_16 : decode cX5_stripped 16 = .ok (.iload_n 1, 1) := by decide +kernel
theorem dX5_stripped_17 : decode cX5_stripped 17 = .ok (.iload 4, 2) := by decide +kernel
theorem dX5_stripped_19 : decode cX5_stripped 19 = .ok (.invokevirtual 230, 3) := by decide +kernel
theorem dX5_stripped_22 : decode cX5_stripped 22 = .ok (.iconst (-1), 1) := by decide +kernel
theorem dX5_stripped_23 : decode cX5_stripped 23 = .ok (.if_icmp .eq 7, 3) := by decide +kernel
theorem dX5_stripped_31 : decode cX5_stripped 31 = .ok (.iadd, 1) := by decide +kernel
theorem dX5_stripped_32 : decode cX5_stripped 32 = .ok (.istore_n 3, 1) := by decide +kernel
theorem dX5_stripped_33 : decode cX5_stripped 33 = .ok (.iinc 4 1, 3) := by decide +kernel
theorem dX5_stripped_36 : decode cX5_stripped 36 = .ok (.goto (-31), 3) := by decide +kernel
theorem dX5_stripped_30 : decode cX5_stripped 30 = .ok (.iconst 0, 1) := by decide +kernel
theorem dX5_stripped_26 : decode cX5_stripped 26 = .ok (.iconst 1, 1) := by decide +kernel
theorem dX5_stripped_27 : decode cX5_stripped 27 = .ok (.goto 4, 3) := by decide +kernel
theorem dX5_reversed_0 : decode cX5_reversed 0 = .ok (.aload_n 0, 1) := by decide +kernel
theorem dX5_reversed_1 : decode cX5_reversed 1 = .ok (.getfield 83, 3) := by decide +kernel
theorem dX5_reversed_4 : decode cX5_reversed 4 = .ok (.iload_n 2, 1) := by decide +kernel
theorem dX5_reversed_5 : decode cX5_reversed 5 = .ok (.invokevirtual 223, 3) := by decide +kernel
theorem dX5_reversed_8 : decode cX5_reversed 8 = .ok (.istore_n 3, 1) := by decide +kernel
theorem dX5_reversed_9 : decode cX5_reversed 9 = .ok (.iconst 0, 1) := by decide +kernel
theorem dX5_reversed_10 : decode cX5_reversed 10 = .ok (.istore 4, 2) := by decide +kernel
theorem dX5_reversed_12 : decode cX5_reversed 12 = .ok (.iload 4, 2) := by decide +kernel
theorem dX5_reversed_14 : decode cX5_reversed 14 = .ok (.iload_n 2, 1) := by decide +kernel
theorem dX5_reversed_15 : decode cX5_reversed 15 = .ok (.if_icmp .ge 33, 3) := by decide +kernel
theorem dX5_reversed_48 : decode cX5_reversed 48 = .ok (.iload_n 3, 1) := by decide +kernel
theorem dX5_reversed_49 : decode cX5_reversed 49 = .ok (.ireturn, 1) := by decide +kernel
theorem dX5_reversed_18 : decode cX5_reversed 18 = .ok (.aload_n 0, 1) := by decide +kernel
theorem dX5_reversed_19 : decode cX5_reversed 19 = .ok (.getfield 83, 3) := by decide +kernel
theorem dX5_reversed_22 : decode cX5_reversed 22 = .ok (.iload_n 3, 1) := by decide +kernel
theorem dX5_reversed_23 : decode cX5_reversed 23 = .ok (.iload_n 2, 1) := by decide +kernel
theorem dX5_reversed_24 : decode cX5_reversed 24 = .ok (.iconst 1, 1) := by decide +kernel
theorem dX5_reversed_25 : decode cX5_reversed 25 = .ok (.isub, 1) := by decide +kernel
theorem dX5_reversed_26 : decode cX5_reversed 26 = .ok (.iload 4, 2) := by decide +kernel
theorem dX5_reversed_28 : decode cX5_reversed 28 = .ok (.isub, 1) := by decide +kernel
theorem dX5_reversed_29 : decode cX5_reversed 29 = .ok (.aload_n 0, 1) := by decide +kernel
theorem dX5_reversed_30 : decode cX5_reversed 30 = .ok (.getfield 83, 3) := by decide +kernel
theorem dX5_reversed_33 : decode cX5_reversed 33 = .ok (.iload_n 1, 1) := by decide +kernel
theorem dX5_reversed_34 : decode cX5_reversed 34 = .ok (.iload 4, 2) := by decide +kernel
theorem dX5_reversed_36 : decode cX5_reversed 36 = .ok (.invokevirtual 230, 3) := by decide +kernel
theorem dX5_reversed_39 : decode cX5_reversed 39 = .ok (.invokevirtual 233, 3) := by decide +kernel
theorem dX5_reversed_42 : decode cX5_reversed 42 = .ok (.iinc 4 1, 3) := by decide +kernel
theorem dX5_reversed_45 : decode cX5_reversed 45 = .ok (.goto (-33), 3) := by decide +kernel
theorem dX5_function_0 : decode cX5_function 0 = .ok (.aload_n 0, 1) := by decide +kernel
theorem dX5_function_1 : decode cX5_function 1 = .ok (.getfield 83, 3) := by decide +kernel
theorem dX5_function_4 : decode cX5_function 4 = .ok (.iload_n 2, 1) := by decide +kernel
theorem dX5_function_5 : decode cX5_function 5 = .ok (.invokevirtual 220, 3) := by decide +kernel
theorem dX5_function_8 : decode cX5_function 8 = .ok (.istore_n 3, 1) := by decide +kernel
theorem dX5_function_9 : decode cX5_function 9 = .ok (.iload_n 1, 1) := by decide +kernel
theorem dX5_function_10 : decode cX5_function 10 = .ok (.tableswitch 128 0 5 #[38, 56, 76, 95, 114, 121], 38) := by decide +kernel
theorem dX5_function_48 : decode cX5_function 48 = .ok (.iload_n 3, 1) := by decide +kernel
theorem dX5_function_49 : decode cX5_function 49 = .ok (.ifCond .le 15, 3) := by decide +kernel
theorem dX5_function_65 : decode cX5_function 65 = .ok (.ireturn, 1) := by decide +kernel
theorem dX5_function_64 : decode cX5_function 64 = .ok (.iconst (-1), 1) := by decide +kernel
theorem dX5_function_52 : decode cX5_function 52 = .ok (.aload_n 0, 1) := by decide +kernel
theorem dX5_function_53 : decode cX5_function 53 = .ok (.getfield 83, 3) := by decide +kernel
theorem dX5_function_56 : decode cX5_function 56 = .ok (.iload_n 2, 1) := by decide +kernel
theorem dX5_function_57 : decode cX5_function 57 = .ok (.iconst 0, 1) := by decide +kernel
theorem dX5_function_58 : decode cX5_function 58 = .ok (.invokevirtual 230, 3) := by decide +kernel
theorem dX5_function_61 : decode cX5_function 61 = .ok (.goto 4, 3) := by decide +kernel
theorem dX5_function_66 : decode cX5_function 66 = .ok (.iload_n 3, 1) := by decide +kernel
theorem dX5_function_67 : decode cX5_function 67 = .ok (.ifCond .le 17, 3) := by decide +kernel
theorem dX5_function_85 : decode cX5_function 85 = .ok (.ireturn, 1) := by decide +kernel
theorem dX5_function_84 : decode cX5_function 84 = .ok (.iconst (-1), 1) := by decide +kernel
theorem dX5_function_70 : decode cX5_function 70 = .ok (.aload_n 0, 1) := by decide +kernel
theorem dX5_function_71 : decode cX5_function 71 = .ok (.getfield 83, 3) := by decide +kernel
theorem dX5_function_74 : decode cX5_function 74 = .ok (.iload_n 2, 1) := by decide +kernel
theorem dX5_function_75 : decode cX5_function 75 = .ok (.iload_n 3, 1) := by decide +kernel
theorem dX5_function_76 : decode cX5_function 76 = .ok (.iconst 1, 1) := by decide +kernel
theorem dX5_function_77 : decode cX5_function 77 = .ok (.isub, 1) := by decide +kernel
theorem dX5_function_78 : decode cX5_function 78 = .ok (.invokevirtual 230, 3) := by decide +kernel
theorem dX5_function_81 : decode cX5_function 81 = .ok (.goto 4, 3) := by decide +kernel
theorem dX5_function_86 : decode cX5_function 86 = .ok (.iload_n 3, 1) := by decide +kernel
theorem dX5_function_87 : decode cX5_function 87 = .ok (.iconst 2, 1) := by decide +kernel
theorem dX5_function_88 : decode cX5_function 88 = .ok (.if_icmp .ge 7, 3) := by decide +kernel
theorem dX5_function_104 : decode cX5_function 104 = .ok (.ireturn, 1) := by decide +kernel
theorem dX5_function_95 : decode cX5_function 95 = .ok (.aload_n 0, 1) := by decide +kernel
theorem dX5_function_96 : decode cX5_function 96 = .ok (.iload_n 2, 1) := by decide +kernel
theorem dX5_function_97 : decode cX5_function 97 = .ok (.iconst 1, 1) := by decide +kernel
theorem dX5_function_98 : decode cX5_function 98 = .ok (.iload_n 3, 1) := by decide +kernel
theorem dX5_function_99 : decode cX5_function 99 = .ok (.iconst 1, 1) := by decide +kernel
theorem dX5_function_100 : decode cX5_function 100 = .ok (.isub, 1) := by decide +kernel
theorem dX5_function_101 : decode cX5_function 101 = .ok (.invokevirtual 547, 3) := by decide +kernel
theorem dX5_function_91 : decode cX5_function 91 = .ok (.iconst (-1), 1) := by decide +kernel
theorem dX5_function_92 : decode cX5_function 92 = .ok (.goto 12, 3) := by decide +kernel
theorem dX5_function_105 : decode cX5_function 105 = .ok (.iload_n 3, 1) := by decide +kernel
theorem dX5_function_106 : decode cX5_function 106 = .ok (.iconst 2, 1) := by decide +kernel
theorem dX5_function_107 : decode cX5_function 107 = .ok (.if_icmp .ge 7, 3) := by decide +kernel
theorem dX5_function_123 : decode cX5_function 123 = .ok (.ireturn, 1) := by decide +kernel
theorem dX5_function_114 : decode cX5_function 114 = .ok (.aload_n 0, 1) := by decide +kernel
theorem dX5_function_115 : decode cX5_function 115 = .ok (.iload_n 2, 1) := by decide +kernel
theorem dX5_function_116 : decode cX5_function 116 = .ok (.iconst 0, 1) := by decide +kernel
theorem dX5_function_117 : decode cX5_function 117 = .ok (.iload_n 3, 1) := by decide +kernel
theorem dX5_function_118 : decode cX5_function 118 = .ok (.iconst 1, 1) := by decide +kernel
theorem dX5_function_119 : decode cX5_function 119 = .ok (.isub, 1) := by decide +kernel
theorem dX5_function_120 : decode cX5_function 120 = .ok (.invokevirtual 547, 3) := by decide +kernel
theorem dX5_function_110 : decode cX5_function 110 = .ok (.iconst (-1), 1) := by decide +kernel
theorem dX5_function_111 : decode cX5_function 111 = .ok (.goto 12, 3) := by decide +kernel
theorem dX5_function_124 : decode cX5_function 124 = .ok (.aload_n 0, 1) := by decide +kernel
theorem dX5_function_125 : decode cX5_function 125 = .ok (.iload_n 2, 1) := by decide +kernel
theorem dX5_function_126 : decode cX5_function 126 = .ok (.iload_n 3, 1) := by decide +kernel
theorem dX5_function_127 : decode cX5_function 127 = .ok (.invokevirtual 550, 3) := by decide +kernel
theorem dX5_function_130 : decode cX5_function 130 = .ok (.ireturn, 1) := by decide +kernel
theorem dX5_function_131 : decode cX5_function 131 = .ok (.aload_n 0, 1) := by decide +kernel
theorem dX5_function_132 : decode cX5_function 132 = .ok (.iload_n 2, 1) := by decide +kernel
theorem dX5_function_133 : decode cX5_function 133 = .ok (.iload_n 3, 1) := by decide +kernel
theorem dX5_function_134 : decode cX5_function 134 = .ok (.invokevirtual 553, 3) := by decide +kernel
theorem dX5_function_137 : decode cX5_function 137 = .ok (.ireturn, 1) := by decide +kernel
theorem dX5_function_138 : decode cX5_function 138 = .ok (.ldc_w 446, 3) := by decide +kernel
theorem dX5_function_141 : decode cX5_function 141 = .ok (.iload_n 3, 1) := by decide +kernel
theorem dX5_function_142 : decode cX5_function 142 = .ok (.ior, 1) := by decide +kernel
theorem dX5_function_143 : decode cX5_function 143 = .ok (.ireturn, 1) := by decide +kernel
set_option maxRecDepth 20000 in
theorem kX5_enter (l : Launch) (G : zG) (T : tT) (κ : Nat → List Nat) (hst : l.stackTraces = false) (hE : tE G T κ) {a0 : Nat} (h0 : a0 ∈ κ 5) : tMv l G T yX5_enter cX5_enter 3 ["java/lang/IllegalStateException"] 7 102 1 6 [.ref a0] uT (uPv 0x1b8000000000000000000000000000000000000000000000000000000000000000000000000000000000) := by
  refine tMv.intro hst rfl (Nat.le_of_ble_eq_true rfl) ?_
  intro w0 hw0 _ X hC hR hO hX
  refine z_aload_n hC (pc := 0) 0 dX5_enter_0 rfl rfl ?_
  refine u_get hC hw0 (pc := 1) zf5 6 (hE.o5 h0) rfl dX5_enter_1 zw648 (kk := fun va3 ta3 fa3 => ?_)
  obtain ⟨a3, ma3, rfl⟩ := ta3
  refine z_aload_n hC (pc := 4) 0 dX5_enter_4 rfl rfl ?_
  refine u_get hC hw0 (pc := 5) zf5 7 (hE.o5 h0) rfl dX5_enter_5 zw649 (kk := fun vx4 tx4 fx4 => ?_)
  obtain ⟨x4, rfl⟩ := tx4
  refine z_iconst hC (pc := 8) (v := 2) dX5_enter_8 (by decide) ?_
  refine z_isub hC (pc := 9) (v := (x4 - 2)) dX5_enter_9 rfl ?_
  refine t_callSNi hC hw0 (pc := 10) (As := [.ref a3, .int (x4 - 2)]) (kX12_get l G T κ hst hE ma3) trivial dmX12_get dX5_enter_10 zw1835 rfl rfl (Nat.le_of_ble_eq_true rfl) (Nat.le_of_ble_eq_true rfl) (Nat.le_of_ble_eq_true rfl) (Nat.le_of_ble_eq_true rfl) (Nat.le_of_ble_eq_true rfl) (fun _ _ _ h => nomatch h) (fun x6 cw5 nw5 w5 hw5 pw5 => ?_)
  obtain ⟨rfl, rfl, kw5⟩ := pw5
  refine z_ldc_w hC (pc := 13) (v := 134217727) dX5_enter_13 zw1991 ?_
  refine z_iand hC (pc := 16) (v := (x6 &&& 134217727)) dX5_enter_16 rfl ?_
  refine z_istore_n hC (pc := 17) (lv' := [(1, .int (x6 &&& 134217727)), (0, .ref a0)]) dX5_enter_17 rfl (by decide) rfl ?_
  refine z_aload_n hC (pc := 18) 1 dX5_enter_18 rfl rfl ?_
  refine z_dup hC (pc := 19) dX5_enter_19 rfl ?_
  refine u_getK hC (pc := 20) zf5 7 (tKeep.F kw5 fx4 rfl) dX5_enter_20 zw649 (kk := ?_)
  refine z_iconst hC (pc := 23) (v := 2) dX5_enter_23 (by decide) ?_
  refine z_isub hC (pc := 24) (v := (x4 - 2)) dX5_enter_24 rfl ?_
  refine u_put hC hw5 (pc := 25) zf5 7 (hE.o5 h0) rfl ⟨_, rfl⟩ dX5_enter_25 zw649 rfl rfl rfl (kk := fun w7 hw7 fw7 kw7 => ?_)
  refine z_aload_n hC (pc := 28) 1 dX5_enter_28 rfl rfl ?_
  refine z_aload_n hC (pc := 29) 1 dX5_enter_29 rfl rfl ?_
  refine u_get hC hw7 (pc := 30) zf5 9 (hE.o5 h0) rfl dX5_enter_30 zw651 (kk := fun vx8 tx8 fx8 => ?_)
  obtain ⟨x8, rfl⟩ := tx8
  obtain ⟨q9, hqq9⟩ := hE.o5 h0
  refine t_callVv hC hw7 (pc := 33) (As := [.int x8]) (kX5_start l G T κ hst hE h0) trivial dmX5_start zf5 hqq9 dX5_enter_33 zw1921 rfl rfl (Nat.le_of_ble_eq_true rfl) (Nat.le_of_ble_eq_true rfl) (Nat.le_of_ble_eq_true rfl) (Nat.le_of_ble_eq_true rfl) (Nat.le_of_ble_eq_true rfl) (fun E w q hE hw => hO E w _ _ _ _ _ q hE (Nat.le_of_ble_eq_true rfl) (Nat.le_of_ble_eq_true rfl) hw) (fun cw10 nw10 w10 hw10 pw10 => ?_)
  obtain ⟨rfl, rfl, kw10⟩ := pw10
  refine z_aload_n hC (pc := 36) 1 dX5_enter_36 rfl rfl ?_
  refine z_aload_n hC (pc := 37) 1 dX5_enter_37 rfl rfl ?_
  refine u_get hC hw10 (pc := 38) zf5 8 (hE.o5 h0) rfl dX5_enter_38 zw650 (kk := fun vx12 tx12 fx12 => ?_)
  obtain ⟨x12, rfl⟩ := tx12
  refine t_callVv hC hw10 (pc := 41) (As := [.int x12]) (kX5_start l G T κ hst hE h0) trivial dmX5_start zf5 hqq9 dX5_enter_41 zw1921 rfl rfl (Nat.le_of_ble_eq_true rfl) (Nat.le_of_ble_eq_true rfl) (Nat.le_of_ble_eq_true rfl) (Nat.le_of_ble_eq_true rfl) (Nat.le_of_ble_eq_true rfl) (fun E w q hE hw => hO E w _ _ _ _ _ q hE (Nat.le_of_ble_eq_true rfl) (Nat.le_of_ble_eq_true rfl) hw) (fun cw13 nw13 w13 hw13 pw13 => ?_)
  obtain ⟨rfl, rfl, kw13⟩ := pw13
  refine z_aload_n hC (pc := 44) 1 dX5_enter_44 rfl rfl ?_
  refine z_aload_n hC (pc := 45) 1 dX5_enter_45 rfl rfl ?_
  refine u_get hC hw13 (pc := 46) zf5 11 (hE.o5 h0) rfl dX5_enter_46 zw653 (kk := fun vx15 tx15 fx15 => ?_)
  obtain ⟨x15, rfl⟩ := tx15
  refine t_callVv hC hw13 (pc := 49) (As := [.int x15]) (kX5_start l G T κ hst hE h0) trivial dmX5_start zf5 hqq9 dX5_enter_49 zw1921 rfl rfl (Nat.le_of_ble_eq_true rfl) (Nat.le_of_ble_eq_true rfl) (Nat.le_of_ble_eq_true rfl) (Nat.le_of_ble_eq_true rfl) (Nat.le_of_ble_eq_true rfl) (fun E w q hE hw => hO E w _ _ _ _ _ q hE (Nat.le_of_ble_eq_true rfl) (Nat.le_of_ble_eq_true rfl) hw) (fun cw16 nw16 w16 hw16 pw16 => ?_)
  obtain ⟨rfl, rfl, kw16⟩ := pw16
  refine z_aload_n hC (pc := 52) 1 dX5_enter_52 rfl rfl ?_
  refine z_aload_n hC (pc := 53) 1 dX5_enter_53 rfl rfl ?_
  refine u_get hC hw16 (pc := 54) zf5 10 (hE.o5 h0) rfl dX5_enter_54 zw652 (kk := fun vx18 tx18 fx18 => ?_)
  obtain ⟨x18, rfl⟩ := tx18
  refine t_callVv hC hw16 (pc := 57) (As := [.int x18]) (kX5_start l G T κ hst hE h0) trivial dmX5_start zf5 hqq9 dX5_enter_57 zw1921 rfl rfl (Nat.le_of_ble_eq_true rfl) (Nat.le_of_ble_eq_true rfl) (Nat.le_of_ble_eq_true rfl) (Nat.le_of_ble_eq_true rfl) (Nat.le_of_ble_eq_true rfl) (fun E w q hE hw => hO E w _ _ _ _ _ q hE (Nat.le_of_ble_eq_true rfl) (Nat.le_of_ble_eq_true rfl) hw) (fun cw19 nw19 w19 hw19 pw19 => ?_)
  obtain ⟨rfl, rfl, kw19⟩ := pw19
  refine z_aload_n hC (pc := 60) 1 dX5_enter_60 rfl rfl ?_
  refine z_iconst hC (pc := 61) (v := 0) dX5_enter_61 (by decide) ?_
  refine t_callVv hC hw19 (pc := 62) (As := [.int 0]) (kX5_start l G T κ hst hE h0) trivial dmX5_start zf5 hqq9 dX5_enter_62 zw1921 rfl rfl (Nat.le_of_ble_eq_true rfl) (Nat.le_of_ble_eq_true rfl) (Nat.le_of_ble_eq_true rfl) (Nat.le_of_ble_eq_true rfl) (Nat.le_of_ble_eq_true rfl) (fun E w q hE hw => hO E w _ _ _ _ _ q hE (Nat.le_of_ble_eq_true rfl) (Nat.le_of_ble_eq_true rfl) hw) (fun cw21 nw21 w21 hw21 pw21 => ?_)
  obtain ⟨rfl, rfl, kw21⟩ := pw21
  refine z_aload_n hC (pc := 65) 1 dX5_enter_65 rfl rfl ?_
  refine z_dup hC (pc := 66) dX5_enter_66 rfl ?_
  refine u_get hC hw21 (pc := 67) zf5 12 (hE.o5 h0) rfl dX5_enter_67 zw654 (kk := fun vx23 tx23 fx23 => ?_)
  obtain ⟨x23, rfl⟩ := tx23
  refine z_iconst hC (pc := 70) (v := 1) dX5_enter_70 (by decide) ?_
  refine z_iadd hC (pc := 71) (v := (x23 + 1)) dX5_enter_71 rfl ?_
  refine u_put hC hw21 (pc := 72) zf5 12 (hE.o5 h0) rfl ⟨_, rfl⟩ dX5_enter_72 zw654 rfl rfl rfl (kk := fun w24 hw24 fw24 kw24 => ?_)
  refine z_aload_n hC (pc := 75) 1 dX5_enter_75 rfl rfl ?_
  refine z_iload_n hC (pc := 76) 0 dX5_enter_76 rfl rfl ?_
  refine u_put hC hw24 (pc := 77) zf5 9 (hE.o5 h0) rfl ⟨_, rfl⟩ dX5_enter_77 zw651 rfl rfl rfl (kk := fun w25 hw25 fw25 kw25 => ?_)
  refine z_aload_n hC (pc := 80) 1 dX5_enter_80 rfl rfl ?_
  refine u_get hC hw25 (pc := 81) zf5 2 (hE.o5 h0) rfl dX5_enter_81 zw644 (kk := fun va26 ta26 fa26 => ?_)
  obtain ⟨a26, ma26, rfl⟩ := ta26
  refine u_get hC hw25 (pc := 84) zf3 3 (hE.o3 ma26) rfl dX5_enter_84 zw507 (kk := fun va27 ta27 fa27 => ?_)
  obtain ⟨a27, ma27, rfl⟩ := ta27
  refine z_iload_n hC (pc := 87) 0 dX5_enter_87 rfl rfl ?_
  refine t_callSNi hC hw25 (pc := 88) (As := [.ref a27, .int (x6 &&& 134217727)]) (kX12_get l G T κ hst hE (hE.subT ma27)) trivial dmX12_get dX5_enter_88 zw1835 rfl rfl (Nat.le_of_ble_eq_true rfl) (Nat.le_of_ble_eq_true rfl) (Nat.le_of_ble_eq_true rfl) (Nat.le_of_ble_eq_true rfl) (Nat.le_of_ble_eq_true rfl) (fun _ _ _ h => nomatch h) (fun x29 cw28 nw28 w28 hw28 pw28 => ?_)
  obtain ⟨rfl, rfl, kw28⟩ := pw28
  refine z_istore_n hC (pc := 91) (lv' := [(2, .int x29), (1, .int (x6 &&& 134217727)), (0, .ref a0)]) dX5_enter_91 rfl (by decide) rfl ?_
  refine z_aload_n hC (pc := 92) 2 dX5_enter_92 rfl rfl ?_
  refine z_iload_n hC (pc := 93) 0 dX5_enter_93 rfl rfl ?_
  refine z_iconst hC (pc := 94) (v := 3) dX5_enter_94 (by decide) ?_
  refine z_iadd hC (pc := 95) (v := (x29 + 3)) dX5_enter_95 rfl ?_
  refine z_iconst hC (pc := 96) (v := 2) dX5_enter_96 (by decide) ?_
  refine z_aload_n hC (pc := 97) 2 dX5_enter_97 rfl rfl ?_
  refine u_get hC hw28 (pc := 98) zf5 3 (hE.o5 h0) rfl dX5_enter_98 zw645 (kk := fun va30 ta30 fa30 => ?_)
  obtain ⟨a30, ma30, rfl⟩ := ta30
  refine u_get hC hw28 (pc := 101) zf2 2 (hE.o2 ma30) rfl dX5_enter_101 zw240 (kk := fun va31 ta31 fa31 => ?_)
  obtain ⟨a31, ma31, rfl⟩ := ta31
  refine z_iload_n hC (pc := 104) 0 dX5_enter_104 rfl rfl ?_
  refine z_iconst hC (pc := 105) (v := 2) dX5_enter_105 (by decide) ?_
  refine z_iadd hC (pc := 106) (v := (x29 + 2)) dX5_enter_106 rfl ?_
  refine t_callSNi hC hw28 (pc := 107) (As := [.ref a31, .int (x29 + 2)]) (kX12_get l G T κ hst hE ma31) trivial dmX12_get dX5_enter_107 zw1835 rfl rfl (Nat.le_of_ble_eq_true rfl) (Nat.le_of_ble_eq_true rfl) (Nat.le_of_ble_eq_true rfl) (Nat.le_of_ble_eq_true rfl) (Nat.le_of_ble_eq_true rfl) (fun _ _ _ h => nomatch h) (fun x33 cw32 nw32 w32 hw32 pw32 => ?_)
  obtain ⟨rfl, rfl, kw32⟩ := pw32
  refine z_imul hC (pc := 110) (v := ((2 : Int32) * x33)) dX5_enter_110 rfl ?_
  refine z_iadd hC (pc := 111) (v := ((x29 + 3) + ((2 : Int32) * x33))) dX5_enter_111 rfl ?_
  refine u_put hC hw32 (pc := 112) zf5 8 (hE.o5 h0) rfl ⟨_, rfl⟩ dX5_enter_112 zw650 rfl rfl rfl (kk := fun w34 hw34 fw34 kw34 => ?_)
  refine z_aload_n hC (pc := 115) 2 dX5_enter_115 rfl rfl ?_
  refine z_aload_n hC (pc := 116) 2 dX5_enter_116 rfl rfl ?_
  refine u_get hC hw34 (pc := 117) zf5 1 (hE.o5 h0) rfl dX5_enter_117 zw642 (kk := fun va35 ta35 fa35 => ?_)
  obtain ⟨a35, ma35, rfl⟩ := ta35
  refine u_get hC hw34 (pc := 120) zf11 7 (hE.o11 ma35) rfl dX5_enter_120 zw592 (kk := fun vx36 tx36 fx36 => ?_)
  obtain ⟨x36, rfl⟩ := tx36
  refine u_put hC hw34 (pc := 123) zf5 11 (hE.o5 h0) rfl ⟨_, rfl⟩ dX5_enter_123 zw653 rfl rfl rfl (kk := fun w37 hw37 fw37 kw37 => ?_)
  exact hR _ _ _ _ _ dX5_enter_126 (Nat.le_of_ble_eq_true rfl) (Nat.le_of_ble_eq_true rfl) ⟨hw37, rfl, rfl, (tKeep.tr (tKeep.tr (tKeep.tr (tKeep.tr (tKeep.tr (tKeep.tr (tKeep.tr (tKeep.tr (tKeep.tr (tKeep.tr (tKeep.tr (tKeep.tr (tKeep.tr tKeep.rf kw5 rfl) kw7 rfl) kw10 rfl) kw13 rfl) kw16 rfl) kw19 rfl) kw21 rfl) kw24 rfl) kw25 rfl) kw28 rfl) kw32 rfl) kw34 rfl) kw37 rfl)⟩
set_option maxRecDepth 20000 in
theorem kX9_noteLook (l : Launch) (G : zG) (T : tT) (κ : Nat → List Nat) (hst : l.stackTraces = false) (hE : tE G T κ) {a0 : Nat} (h0 : a0 ∈ κ 9) {x1 : Int32} {x2 : Int32} : tMv l G T yX9_noteLook cX9_noteLook 4 [] 1 22 0 0 [.ref a0, .int x1, .int x2] uT (uPv 0x0) := by
  refine tMv.intro hst rfl (Nat.le_of_ble_eq_true rfl) ?_
  intro w0 hw0 _ X hC hR hO hX
  refine z_aload_n hC (pc := 0) 0 dX9_noteLook_0 rfl rfl ?_
  refine u_get hC hw0 (pc := 1) zf9 2 (hE.o9 h0) rfl dX9_noteLook_1 zw482 (kk := fun va5 ta5 fa5 => ?_)
  obtain ⟨a5, ma5, rfl⟩ := ta5
  refine z_iconst hC (pc := 4) (v := 1) dX9_noteLook_4 (by decide) ?_
  refine t_callSNi hC hw0 (pc := 5) (As := [.ref a5, .int 1]) (kX12_get l G T κ hst hE (hE.sub3 ma5)) trivial dmX12_get dX9_noteLook_5 zw2021 rfl rfl (Nat.le_of_ble_eq_true rfl) (Nat.le_of_ble_eq_true rfl) (Nat.le_of_ble_eq_true rfl) (Nat.le_of_ble_eq_true rfl) (Nat.le_of_ble_eq_true rfl) (fun _ _ _ h => nomatch h) (fun x7 cw6 nw6 w6 hw6 pw6 => ?_)
  obtain ⟨rfl, rfl, kw6⟩ := pw6
  refine z_istore_n hC (pc := 8) (lv' := [(3, .int x7), (0, .ref a0), (1, .int x1), (2, .int x2)]) dX9_noteLook_8 rfl (by decide) rfl ?_
  refine z_iload_n hC (pc := 9) 0 dX9_noteLook_9 rfl rfl ?_
  refine z_sipush hC (pc := 10) (v := 1000) dX9_noteLook_10 (by decide) ?_
  have j40 : ∀ (w8 : va_W), tW T w8 → tKeep 0x0 w6 w8 → zS X G 4 w8 [(0, .ref a0), (3, .int x7)] 0 0 40 [] := by
    intro w8 hw8 kw8
    refine z_aload_n hC (pc := 40) 0 dX9_noteLook_40 rfl rfl ?_
    refine u_getK hC (pc := 41) zf9 2 (tKeep.F kw8 (tKeep.F kw6 fa5 rfl) rfl) dX9_noteLook_41 zw482 (kk := ?_)
    refine z_iconst hC (pc := 44) (v := 1) dX9_noteLook_44 (by decide) ?_
    refine z_iload_n hC (pc := 45) 1 dX9_noteLook_45 rfl rfl ?_
    refine z_iconst hC (pc := 46) (v := 1) dX9_noteLook_46 (by decide) ?_
    refine z_iadd hC (pc := 47) (v := (x7 + 1)) dX9_noteLook_47 rfl ?_
    refine t_callSNv hC hw8 (pc := 48) (As := [.ref a5, .int 1, .int (x7 + 1)]) (kX12_set l G T κ hst hE (hE.sub3 ma5)) trivial dmX12_set dX9_noteLook_48 zw2022 rfl rfl (Nat.le_of_ble_eq_true rfl) (Nat.le_of_ble_eq_true rfl) (Nat.le_of_ble_eq_true rfl) (Nat.le_of_ble_eq_true rfl) (Nat.le_of_ble_eq_true rfl) (fun _ _ _ h => nomatch h) (fun cw9 nw9 w9 hw9 pw9 => ?_)
    obtain ⟨rfl, rfl, kw9⟩ := pw9
    exact hR _ _ _ _ _ dX9_noteLook_51 (Nat.le_of_ble_eq_true rfl) (Nat.le_of_ble_eq_true rfl) ⟨hw9, rfl, rfl, (tKeep.tr (tKeep.tr (tKeep.tr tKeep.rf kw6 rfl) kw8 rfl) kw9 rfl)⟩
  refine z_icmp_ge hC (pc := 13) 40 dX9_noteLook_13 (by decide) (fun c11 => ?_) (fun c11 => ?_)
  · refine z_lvs [1, 0] rfl ?_
    exact j40 w6 hw6 tKeep.rf
  · refine z_aload_n hC (pc := 16) 1 dX9_noteLook_16 rfl rfl ?_
    refine u_get hC hw6 (pc := 17) zf9 1 (hE.o9 h0) rfl dX9_noteLook_17 zw480 (kk := fun va12 ta12 fa12 => ?_)
    obtain ⟨a12, ma12, rfl⟩ := ta12
    refine z_iconst hC (pc := 20) (v := 2) dX9_noteLook_20 (by decide) ?_
    refine z_iload_n hC (pc := 21) 0 dX9_noteLook_21 rfl rfl ?_
    refine z_imul hC (pc := 22) (v := ((2 : Int32) * x7)) dX9_noteLook_22 rfl ?_
    refine z_iload_n hC (pc := 23) 2 dX9_noteLook_23 rfl rfl ?_
    refine t_callSNv hC hw6 (pc := 24) (As := [.ref a12, .int ((2 : Int32) * x7), .int x1]) (kX12_set l G T κ hst hE ma12) trivial dmX12_set dX9_noteLook_24 zw2022 rfl rfl (Nat.le_of_ble_eq_true rfl) (Nat.le_of_ble_eq_true rfl) (Nat.le_of_ble_eq_true rfl) (Nat.le_of_ble_eq_true rfl) (Nat.le_of_ble_eq_true rfl) (fun _ _ _ h => nomatch h) (fun cw13 nw13 w13 hw13 pw13 => ?_)
    obtain ⟨rfl, rfl, kw13⟩ := pw13
    refine z_aload_n hC (pc := 27) 1 dX9_noteLook_27 rfl rfl ?_
    refine u_getK hC (pc := 28) zf9 1 (tKeep.F kw13 fa12 rfl) dX9_noteLook_28 zw480 (kk := ?_)
    refine z_iconst hC (pc := 31) (v := 2) dX9_noteLook_31 (by decide) ?_
    refine z_iload_n hC (pc := 32) 0 dX9_noteLook_32 rfl rfl ?_
    refine z_imul hC (pc := 33) (v := ((2 : Int32) * x7)) dX9_noteLook_33 rfl ?_
    refine z_iconst hC (pc := 34) (v := 1) dX9_noteLook_34 (by decide) ?_
    refine z_iadd hC (pc := 35) (v := (((2 : Int32) * x7) + 1)) dX9_noteLook_35 rfl ?_
    refine z_iload_n hC (pc := 36) 3 dX9_noteLook_36 rfl rfl ?_
    refine t_callSNv hC hw13 (pc := 37) (As := [.ref a12, .int (((2 : Int32) * x7) + 1), .int x2]) (kX12_set l G T κ hst hE ma12) trivial dmX12_set dX9_noteLook_37 zw2022 rfl rfl (Nat.le_of_ble_eq_true rfl) (Nat.le_of_ble_eq_true rfl) (Nat.le_of_ble_eq_true rfl) (Nat.le_of_ble_eq_true rfl) (Nat.le_of_ble_eq_true rfl) (fun _ _ _ h => nomatch h) (fun cw15 nw15 w15 hw15 pw15 => ?_)
    obtain ⟨rfl, rfl, kw15⟩ := pw15
    refine z_lvs [1, 0] rfl ?_
    exact j40 w15 hw15 (tKeep.tr (tKeep.tr tKeep.rf kw13 rfl) kw15 rfl)
set_option maxRecDepth 20000 in
theorem kX3_isYes (l : Launch) (G : zG) (T : tT) (κ : Nat → List Nat) (hst : l.stackTraces = false) (hE : tE G T κ) {a0 : Nat} (h0 : a0 ∈ κ 3) {x1 : Int32} : tMi l G T yX3_isYes cX3_isYes 2 .boolean [] 0 0 0 0 [.ref a0, .int x1] uT (uPz 0x0) := by
  refine tMi.intro hst rfl (Nat.le_of_ble_eq_true rfl) ?_
  intro w0 hw0 _ X hC hR hO hX
  refine z_iload_n hC (pc := 0) 1 dX3_isYes_0 rfl rfl ?_
  have j35 : ∀ (x4 : Int32), tZ (.int x4) → zS X G 2 w0 [] 0 0 35 [.int x4] := by
    intro x4 zx4
    exact hR _ _ _ _ _ _ dX3_isYes_35 (t_nZ zx4) (Nat.le_of_ble_eq_true rfl) (Nat.le_of_ble_eq_true rfl) ⟨hw0, rfl, rfl, tKeep.rf, zx4⟩
  have j34 : zS X G 2 w0 [] 0 0 34 [] := by
    refine z_iconst hC (pc := 34) (v := 0) dX3_isYes_34 (by decide) ?_
    exact j35 0 (Or.inl rfl)
  refine z_if_lt hC (pc := 1) 34 dX3_isYes_1 (by decide) (fun c5 => ?_) (fun c5 => ?_)
  · refine z_lvs [] rfl ?_
    exact j34
  · refine z_iload_n hC (pc := 4) 1 dX3_isYes_4 rfl rfl ?_
    refine z_aload_n hC (pc := 5) 0 dX3_isYes_5 rfl rfl ?_
    refine u_get hC hw0 (pc := 6) zf3 0 (hE.o3 h0) rfl dX3_isYes_6 zw502 (kk := fun va6 ta6 fa6 => ?_)
    obtain ⟨a6, ma6, rfl⟩ := ta6
    refine u_get hC hw0 (pc := 9) zf8 1 (hE.o8 ma6) rfl dX3_isYes_9 zw50 (kk := fun va7 ta7 fa7 => ?_)
    obtain ⟨a7, ma7, rfl⟩ := ta7
    obtain ⟨N8, hN8, AN8⟩ := hE.lngs ma7
    refine u_alenL hC hw0 (pc := 12) AN8 dX3_isYes_12 ?_
    refine z_icmp_ge hC (pc := 13) 34 dX3_isYes_13 (by decide) (fun c9 => ?_) (fun c9 => ?_)
    · refine z_lvs [] rfl ?_
      exact j34
    · refine z_aload_n hC (pc := 16) 0 dX3_isYes_16 rfl rfl ?_
      refine u_getK hC (pc := 17) zf3 0 fa6 dX3_isYes_17 zw502 (kk := ?_)
      refine u_getK hC (pc := 20) zf8 1 fa7 dX3_isYes_20 zw50 (kk := ?_)
      refine z_iload_n hC (pc := 23) 1 dX3_isYes_23 rfl rfl ?_
      refine t_lald hC hw0 (pc := 24) AN8 dX3_isYes_24 (t_inB hN8 c5 c9) (fun y10 _ => ?_)
      refine z_lconst hC (pc := 25) (v := 0) dX3_isYes_25 (by decide) ?_
      refine z_lcmp hC (pc := 26) (v := (lg_cmp y10 0)) dX3_isYes_26 rfl ?_
      generalize (lg_cmp y10 0) = x11
      refine z_if_eq hC (pc := 27) 34 dX3_isYes_27 (by decide) (fun c12 => ?_) (fun c12 => ?_)
      · refine z_lvs [] rfl ?_
        exact j34
      · refine z_iconst hC (pc := 30) (v := 1) dX3_isYes_30 (by decide) ?_
        refine z_goto hC (pc := 31) 35 dX3_isYes_31 (by decide) ?_
        refine z_lvs [] rfl ?_
        exact j35 1 (Or.inr rfl)
set_option maxRecDepth 20000 in
theorem kX3_spellNumber (l : Launch) (G : zG) (T : tT) (κ : Nat → List Nat) (hst : l.stackTraces = false) (hE : tE G T κ) {a0 : Nat} (h0 : a0 ∈ κ 3) {x1 : Int64} : tMv l G T yX3_spellNumber cX3_spellNumber 7 [] 1 22 0 0 [.ref a0, .long x1] uT (uPv 0x70000000000000000000000000000000000000000000000000000) := by
  refine tMv.intro hst rfl (Nat.le_of_ble_eq_true rfl) ?_
  intro w0 hw0 _ X hC hR hO hX
  refine z_lload_n hC (pc := 0) 1 dX3_spellNumber_0 rfl rfl ?_
  refine z_lstore_n hC (pc := 1) (lv' := [(3, .long x1), (0, .ref a0), (1, .long x1)]) dX3_spellNumber_1 rfl (by decide) rfl ?_
  refine z_aload_n hC (pc := 2) 1 dX3_spellNumber_2 rfl rfl ?_
  refine u_get hC hw0 (pc := 3) zf3 19 (hE.o3 h0) rfl dX3_spellNumber_3 zw529 (kk := fun va5 ta5 fa5 => ?_)
  obtain ⟨a5, ma5, rfl⟩ := ta5
  obtain ⟨N6, hN6, AN6⟩ := hE.byts ma5
  refine u_alenB hC hw0 (pc := 6) (Or.inl AN6) dX3_spellNumber_6 ?_
  refine z_istore hC (pc := 7) (lv' := [(5, .int (Int32.ofNat N6)), (3, .long x1), (0, .ref a0), (1, .long x1)]) dX3_spellNumber_7 (by decide) rfl ?_
  have j9 : ∀ (d9 : Nat), ∀ (w7 : va_W), tW T w7 → tKeep 0x0 w0 w7 → ∀ (y8 : Int64), ∀ (x9 : Int32), ¬ x9 < 0 → ((x9 : Int32).toInt.toNat + 1) ≤ d9 → zS X G 7 w7 [(0, .ref a0), (1, .long x1), (3, .long y8), (5, .int x9)] 0 0 9 [] := by
    intro d9
    induction d9 with
    | zero => intro w7 hw7 kw7 y8 x9 v10 hd9; exact absurd hd9 (Nat.not_succ_le_zero _)
    | succ d9 ih9 =>
      intro w7 hw7 kw7 y8 x9 v10 hd9
      refine z_lload_n hC (pc := 9) 2 dX3_spellNumber_9 rfl rfl ?_
      refine z_ldc2 hC (pc := 10) (v := 10) dX3_spellNumber_10 zw2050 ?_
      refine z_lrem hC (pc := 13) (v := (y8 - y8 / 10 * 10)) dX3_spellNumber_13 (by decide) rfl ?_
      generalize (y8 - y8 / 10 * 10) = y11
      refine z_l2i hC (pc := 14) (v := (y11 : Int64).toInt32) dX3_spellNumber_14 rfl ?_
      generalize (y11 : Int64).toInt32 = x12
      refine z_istore hC (pc := 15) (lv' := [(6, .int x12), (0, .ref a0), (1, .long x1), (3, .long y8), (5, .int x9)]) dX3_spellNumber_15 (by decide) rfl ?_
      refine z_lload_n hC (pc := 17) 3 dX3_spellNumber_17 rfl rfl ?_
      refine z_ldc2 hC (pc := 18) (v := 10) dX3_spellNumber_18 zw2050 ?_
      refine z_ldiv hC (pc := 21) (v := (y8 / 10)) dX3_spellNumber_21 (by decide) rfl ?_
      generalize (y8 / 10) = y13
      refine z_lstore_n hC (pc := 22) (lv' := [(3, .long y13), (6, .int x12), (0, .ref a0), (1, .long x1), (5, .int x9)]) dX3_spellNumber_22 rfl (by decide) rfl ?_
      refine z_iinc hC (pc := 23) (v := (x9 + -1)) (lv' := [(5, .int (x9 + -1)), (3, .long y13), (6, .int x12), (0, .ref a0), (1, .long x1)]) 4 dX3_spellNumber_23 rfl (congrArg _ (by decide)) (by decide) rfl ?_
      refine z_aload_n hC (pc := 26) 3 dX3_spellNumber_26 rfl rfl ?_
      refine u_getK hC (pc := 27) zf3 19 (tKeep.F kw7 fa5 rfl) dX3_spellNumber_27 zw529 (kk := ?_)
      refine z_iload hC (pc := 30) 0 dX3_spellNumber_30 rfl ?_
      refine z_bipush hC (pc := 32) (v := 48) dX3_spellNumber_32 (by decide) ?_
      refine z_iload hC (pc := 34) 2 dX3_spellNumber_34 rfl ?_
      have j47 : ∀ (x14 : Int32), zS X G 7 w7 [(0, .ref a0), (1, .long x1), (3, .long y13), (5, .int (x9 + -1))] 0 0 47 [.int x14, .int 48, .int (x9 + -1), .ref a5] := by
        intro x14
        refine z_iadd hC (pc := 47) (v := ((48 : Int32) + x14)) dX3_spellNumber_47 rfl ?_
        refine t_callSNv hC hw7 (pc := 48) (As := [.ref a5, .int (x9 + -1), .int ((48 : Int32) + x14)]) (kX12_setByte l G T κ hst hE ma5) trivial dmX12_setByte dX3_spellNumber_48 zw1977 rfl rfl (Nat.le_of_ble_eq_true rfl) (Nat.le_of_ble_eq_true rfl) (Nat.le_of_ble_eq_true rfl) (Nat.le_of_ble_eq_true rfl) (Nat.le_of_ble_eq_true rfl) (fun _ _ _ h => nomatch h) (fun cw15 nw15 w15 hw15 pw15 => ?_)
        obtain ⟨rfl, rfl, kw15⟩ := pw15
        refine z_lload_n hC (pc := 51) 2 dX3_spellNumber_51 rfl rfl ?_
        refine z_lconst hC (pc := 52) (v := 0) dX3_spellNumber_52 (by decide) ?_
        refine z_lcmp hC (pc := 53) (v := (lg_cmp y13 0)) dX3_spellNumber_53 rfl ?_
        generalize (lg_cmp y13 0) = x17
        have j62 : zS X G 7 w15 [(0, .ref a0), (1, .long x1), (5, .int (x9 + -1))] 0 0 62 [] := by
          refine z_lload_n hC (pc := 62) 1 dX3_spellNumber_62 rfl rfl ?_
          refine z_lconst hC (pc := 63) (v := 0) dX3_spellNumber_63 (by decide) ?_
          refine z_lcmp hC (pc := 64) (v := (lg_cmp x1 0)) dX3_spellNumber_64 rfl ?_
          generalize (lg_cmp x1 0) = x18
          have j82 : ∀ (w19 : va_W), tW T w19 → tKeep 0x0 w15 w19 → ∀ (x20 : Int32), zS X G 7 w19 [(0, .ref a0), (5, .int x20)] 0 0 82 [] := by
            intro w19 hw19 kw19 x20
            refine z_aload_n hC (pc := 82) 0 dX3_spellNumber_82 rfl rfl ?_
            refine z_aload_n hC (pc := 83) 0 dX3_spellNumber_83 rfl rfl ?_
            refine u_getK hC (pc := 84) zf3 19 (tKeep.F kw19 (tKeep.F kw15 (tKeep.F kw7 fa5 rfl) rfl) rfl) dX3_spellNumber_84 zw529 (kk := ?_)
            refine u_put hC hw19 (pc := 87) zf3 16 (hE.o3 h0) rfl ⟨_, ma5, rfl⟩ dX3_spellNumber_87 zw523 rfl rfl rfl (kk := fun w21 hw21 fw21 kw21 => ?_)
            refine z_aload_n hC (pc := 90) 0 dX3_spellNumber_90 rfl rfl ?_
            refine z_iload hC (pc := 91) 1 dX3_spellNumber_91 rfl ?_
            refine u_put hC hw21 (pc := 93) zf3 17 (hE.o3 h0) rfl ⟨_, rfl⟩ dX3_spellNumber_93 zw525 rfl rfl rfl (kk := fun w22 hw22 fw22 kw22 => ?_)
            refine z_aload_n hC (pc := 96) 0 dX3_spellNumber_96 rfl rfl ?_
            refine z_aload_n hC (pc := 97) 0 dX3_spellNumber_97 rfl rfl ?_
            refine u_getK hC (pc := 98) zf3 19 (tKeep.F kw22 (tKeep.F kw21 (tKeep.F kw19 (tKeep.F kw15 (tKeep.F kw7 fa5 rfl) rfl) rfl) rfl) rfl) dX3_spellNumber_98 zw529 (kk := ?_)
            refine u_alenB hC hw22 (pc := 101) (Or.inl AN6) dX3_spellNumber_101 ?_
            refine z_iload hC (pc := 102) 1 dX3_spellNumber_102 rfl ?_
            refine z_isub hC (pc := 104) (v := ((Int32.ofNat N6) - x20)) dX3_spellNumber_104 rfl ?_
            refine u_put hC hw22 (pc := 105) zf3 18 (hE.o3 h0) rfl ⟨_, rfl⟩ dX3_spellNumber_105 zw527 rfl rfl rfl (kk := fun w23 hw23 fw23 kw23 => ?_)
            exact hR _ _ _ _ _ dX3_spellNumber_108 (Nat.le_of_ble_eq_true rfl) (Nat.le_of_ble_eq_true rfl) ⟨hw23, rfl, rfl, (tKeep.tr (tKeep.tr (tKeep.tr (tKeep.tr (tKeep.tr (tKeep.tr tKeep.rf kw7 rfl) kw15 rfl) kw19 rfl) kw21 rfl) kw22 rfl) kw23 rfl)⟩
          refine z_if_ge hC (pc := 65) 82 dX3_spellNumber_65 (by decide) (fun c24 => ?_) (fun c24 => ?_)
          · refine z_lvs [0, 2] rfl ?_
            exact j82 w15 hw15 tKeep.rf (x9 + -1)
          · refine z_iinc hC (pc := 68) (v := ((x9 + -1) + -1)) (lv' := [(5, .int ((x9 + -1) + -1)), (0, .ref a0), (1, .long x1)]) 2 dX3_spellNumber_68 rfl (congrArg _ (by decide)) (by decide) rfl ?_
            refine z_aload_n hC (pc := 71) 1 dX3_spellNumber_71 rfl rfl ?_
            refine u_getK hC (pc := 72) zf3 19 (tKeep.F kw15 (tKeep.F kw7 fa5 rfl) rfl) dX3_spellNumber_72 zw529 (kk := ?_)
            refine z_iload hC (pc := 75) 0 dX3_spellNumber_75 rfl ?_
            refine z_bipush hC (pc := 77) (v := 45) dX3_spellNumber_77 (by decide) ?_
            refine t_callSNv hC hw15 (pc := 79) (As := [.ref a5, .int ((x9 + -1) + -1), .int 45]) (kX12_setByte l G T κ hst hE ma5) trivial dmX12_setByte dX3_spellNumber_79 zw1977 rfl rfl (Nat.le_of_ble_eq_true rfl) (Nat.le_of_ble_eq_true rfl) (Nat.le_of_ble_eq_true rfl) (Nat.le_of_ble_eq_true rfl) (Nat.le_of_ble_eq_true rfl) (fun _ _ _ h => nomatch h) (fun cw25 nw25 w25 hw25 pw25 => ?_)
            obtain ⟨rfl, rfl, kw25⟩ := pw25
            refine z_lvs [1, 0] rfl ?_
            exact j82 w25 hw25 (tKeep.tr tKeep.rf kw25 rfl) ((x9 + -1) + -1)
        refine z_if_eq hC (pc := 54) 62 dX3_spellNumber_54 (by decide) (fun c27 => ?_) (fun c27 => ?_)
        · refine z_lvs [0, 1, 3] rfl ?_
          exact j62
        · refine z_iload hC (pc := 57) 3 dX3_spellNumber_57 rfl ?_
          refine z_if_gt hC (pc := 59) 9 dX3_spellNumber_59 (by decide) (fun c28 => ?_) (fun c28 => ?_)
          · exact ih9 w15 hw15 (tKeep.tr (tKeep.tr tKeep.rf kw7 rfl) kw15 rfl) y13 (x9 + -1) (t_nlt0 (by have o1 := Int32.le_toInt x9; have o2 := Int32.toInt_lt x9; have o3 : (0 : Int32).toInt = 0 := (by decide); have o4 := t_fnl v10; have o5 : (-1 : Int32).toInt = -1 := (by decide); have o6 := t_addO x9 (-1); have o7 := t_fl c28; omega)) (by have o1 := Int32.le_toInt x9; have o2 := Int32.toInt_lt x9; have o3 : (0 : Int32).toInt = 0 := (by decide); have o4 := t_fnl v10; have o5 : (-1 : Int32).toInt = -1 := (by decide); have o6 := t_addO x9 (-1); have o7 := t_fl c28; omega)
          · refine z_lvs [0, 1, 3] rfl ?_
            exact j62
      refine z_if_ge hC (pc := 36) 45 dX3_spellNumber_36 (by decide) (fun c29 => ?_) (fun c29 => ?_)
      · refine z_iload hC (pc := 45) 2 dX3_spellNumber_45 rfl ?_
        refine z_lvs [3, 4, 1, 0] rfl ?_
        exact j47 x12
      · refine z_iload hC (pc := 39) 2 dX3_spellNumber_39 rfl ?_
        refine z_ineg hC (pc := 41) (v := (-x12)) dX3_spellNumber_41 rfl ?_
        generalize (-x12) = x30
        refine z_goto hC (pc := 42) 47 dX3_spellNumber_42 (by decide) ?_
        refine z_lvs [3, 4, 1, 0] rfl ?_
        exact j47 x30
  refine z_lvs [2, 3, 1, 0] rfl ?_
  exact j9 _ w0 hw0 tKeep.rf x1 (Int32.ofNat N6) (t_nnN hN6) (Nat.le_refl _)
set_option maxRecDepth 20000 in
theorem kX5_hex (l : Launch) (G : zG) (T : tT) (κ : Nat → List Nat) (hst : l.stackTraces = false) (hE : tE G T κ) {x0 : Int32} : tMi l G T yX5_hex cX5_hex 1 .int [] 0 0 0 0 [.int x0] uT (uPi 0x0) := by
  refine tMi.intro hst rfl (Nat.le_of_ble_eq_true rfl) ?_
  intro w0 hw0 _ X hC hR hO hX
  refine z_iload_n hC (pc := 0) 0 dX5_hex_0 rfl rfl ?_
  refine z_bipush hC (pc := 1) (v := 10) dX5_hex_1 (by decide) ?_
  have j20 : ∀ (x3 : Int32), zS X G 1 w0 [] 0 0 20 [.int x3] := by
    intro x3
    exact hR _ _ _ _ _ _ dX5_hex_20 rfl (Nat.le_of_ble_eq_true rfl) (Nat.le_of_ble_eq_true rfl) ⟨hw0, rfl, rfl, tKeep.rf⟩
  refine z_icmp_ge hC (pc := 3) 13 dX5_hex_3 (by decide) (fun c4 => ?_) (fun c4 => ?_)
  · refine z_bipush hC (pc := 13) (v := 65) dX5_hex_13 (by decide) ?_
    refine z_iload_n hC (pc := 15) 0 dX5_hex_15 rfl rfl ?_
    refine z_iadd hC (pc := 16) (v := ((65 : Int32) + x0)) dX5_hex_16 rfl ?_
    refine z_bipush hC (pc := 17) (v := 10) dX5_hex_17 (by decide) ?_
    refine z_isub hC (pc := 19) (v := (((65 : Int32) + x0) - 10)) dX5_hex_19 rfl ?_
    refine z_lvs [] rfl ?_
    exact j20 (((65 : Int32) + x0) - 10)
  · refine z_bipush hC (pc := 6) (v := 48) dX5_hex_6 (by decide) ?_
    refine z_iload_n hC (pc := 8) 0 dX5_hex_8 rfl rfl ?_
    refine z_iadd hC (pc := 9) (v := ((48 : Int32) + x0)) dX5_hex_9 rfl ?_
    refine z_goto hC (pc := 10) 20 dX5_hex_10 (by decide) ?_
    refine z_lvs [] rfl ?_
    exact j20 ((48 : Int32) + x0)
set_option maxRecDepth 20000 in
theorem kX5_code (l : Launch) (G : zG) (T : tT) (κ : Nat → List Nat) (hst : l.stackTraces = false) (hE : tE G T κ) {a0 : Nat} (h0 : a0 ∈ κ 5) {x1 : Int32} : tMi l G T yX5_code cX5_code 2 .int [] 1 21 0 0 [.ref a0, .int x1] uT (uPi 0x0) := by
  refine tMi.intro hst rfl (Nat.le_of_ble_eq_true rfl) ?_
  intro w0 hw0 _ X hC hR hO hX
  refine z_aload_n hC (pc := 0) 0 dX5_code_0 rfl rfl ?_
  refine u_get hC hw0 (pc := 1) zf5 3 (hE.o5 h0) rfl dX5_code_1 zw645 (kk := fun va4 ta4 fa4 => ?_)
  obtain ⟨a4, ma4, rfl⟩ := ta4
  refine u_get hC hw0 (pc := 4) zf2 2 (hE.o2 ma4) rfl dX5_code_4 zw240 (kk := fun va5 ta5 fa5 => ?_)
  obtain ⟨a5, ma5, rfl⟩ := ta5
  refine z_aload_n hC (pc := 7) 0 dX5_code_7 rfl rfl ?_
  refine u_get hC hw0 (pc := 8) zf5 8 (hE.o5 h0) rfl dX5_code_8 zw650 (kk := fun vx6 tx6 fx6 => ?_)
  obtain ⟨x6, rfl⟩ := tx6
  refine z_iload_n hC (pc := 11) 1 dX5_code_11 rfl rfl ?_
  refine z_iadd hC (pc := 12) (v := (x6 + x1)) dX5_code_12 rfl ?_
  refine t_callSNi hC hw0 (pc := 13) (As := [.ref a5, .int (x6 + x1)]) (kX12_get l G T κ hst hE ma5) trivial dmX12_get dX5_code_13 zw1835 rfl rfl (Nat.le_of_ble_eq_true rfl) (Nat.le_of_ble_eq_true rfl) (Nat.le_of_ble_eq_true rfl) (Nat.le_of_ble_eq_true rfl) (Nat.le_of_ble_eq_true rfl) (fun _ _ _ h => nomatch h) (fun x8 cw7 nw7 w7 hw7 pw7 => ?_)
  obtain ⟨rfl, rfl, kw7⟩ := pw7
  exact hR _ _ _ _ _ _ dX5_code_16 rfl (Nat.le_of_ble_eq_true rfl) (Nat.le_of_ble_eq_true rfl) ⟨hw7, rfl, rfl, (tKeep.tr tKeep.rf kw7 rfl)⟩
set_option maxRecDepth 20000 in
theorem kX5_literal (l : Launch) (G : zG) (T : tT) (κ : Nat → List Nat) (hst : l.stackTraces = false) (hE : tE G T κ) {a0 : Nat} (h0 : a0 ∈ κ 5) : tMv l G T yX5_literal cX5_literal 4 ["java/lang/IllegalStateException"] 9 149 1 6 [.ref a0] uT (uPv 0x4e800000000000000000000000000000000000000000000000000000000000000000000000000000000000000000000050000000000000000000000000000000000000000000000000000000000000000000000000000000000) := by
  refine tMv.intro hst rfl (Nat.le_of_ble_eq_true rfl) ?_
  intro w0 hw0 _ X hC hR hO hX
  refine z_aload_n hC (pc := 0) 0 dX5_literal_0 rfl rfl ?_
  refine z_iconst hC (pc := 1) (v := 1) dX5_literal_1 (by decide) ?_
  obtain ⟨q3, hqq3⟩ := hE.o5 h0
  refine t_callVi hC hw0 (pc := 2) (As := [.int 1]) (kX5_code l G T κ hst hE h0) trivial dmX5_code zf5 hqq3 dX5_literal_2 zw2078 rfl rfl (Nat.le_of_ble_eq_true rfl) (Nat.le_of_ble_eq_true rfl) (Nat.le_of_ble_eq_true rfl) (Nat.le_of_ble_eq_true rfl) (Nat.le_of_ble_eq_true rfl) (fun _ _ _ h => nomatch h) (fun x5 cw4 nw4 w4 hw4 pw4 => ?_)
  obtain ⟨rfl, rfl, kw4⟩ := pw4
  refine z_istore_n hC (pc := 5) (lv' := [(1, .int x5), (0, .ref a0)]) dX5_literal_5 rfl (by decide) rfl ?_
  refine z_aload_n hC (pc := 6) 1 dX5_literal_6 rfl rfl ?_
  refine z_iconst hC (pc := 7) (v := 2) dX5_literal_7 (by decide) ?_
  refine t_callVi hC hw4 (pc := 8) (As := [.int 2]) (kX5_code l G T κ hst hE h0) trivial dmX5_code zf5 hqq3 dX5_literal_8 zw2078 rfl rfl (Nat.le_of_ble_eq_true rfl) (Nat.le_of_ble_eq_true rfl) (Nat.le_of_ble_eq_true rfl) (Nat.le_of_ble_eq_true rfl) (Nat.le_of_ble_eq_true rfl) (fun _ _ _ h => nomatch h) (fun x7 cw6 nw6 w6 hw6 pw6 => ?_)
  obtain ⟨rfl, rfl, kw6⟩ := pw6
  refine z_istore_n hC (pc := 11) (lv' := [(2, .int x7), (1, .int x5), (0, .ref a0)]) dX5_literal_11 rfl (by decide) rfl ?_
  refine z_iconst hC (pc := 12) (v := 0) dX5_literal_12 (by decide) ?_
  refine z_istore_n hC (pc := 13) (lv' := [(3, .int 0), (2, .int x7), (1, .int x5), (0, .ref a0)]) dX5_literal_13 rfl (by decide) rfl ?_
  have j14 : ∀ (d14 : Nat), ∀ (w8 : va_W), tW T w8 → tKeep 0x4e800000000000000000000000000000000000000000000000000000000000000000000000000000000000000000000040000000000000000000000000000000000000000000000000000000000000000000000000000000000 w6 w8 → ∀ (x9 : Int32), ¬ x9 < 0 → (2 ^ 31 - (x9 : Int32).toInt).toNat ≤ d14 → zS X G 4 w8 [(0, .ref a0), (1, .int x5), (2, .int x7), (3, .int x9)] 0 0 14 [] := by
    intro d14
    induction d14 with
    | zero => intro w8 hw8 kw8 x9 v10 hd14; exact (t_zero hd14).elim
    | succ d14 ih14 =>
      intro w8 hw8 kw8 x9 v10 hd14
      refine z_iload_n hC (pc := 14) 3 dX5_literal_14 rfl rfl ?_
      refine z_iload_n hC (pc := 15) 2 dX5_literal_15 rfl rfl ?_
      refine z_icmp_ge hC (pc := 16) 62 dX5_literal_16 (by decide) (fun c11 => ?_) (fun c11 => ?_)
      · refine z_aload_n hC (pc := 62) 0 dX5_literal_62 rfl rfl ?_
        refine z_dup hC (pc := 63) dX5_literal_63 rfl ?_
        refine u_get hC hw8 (pc := 64) zf5 8 (hE.o5 h0) rfl dX5_literal_64 zw650 (kk := fun vx12 tx12 fx12 => ?_)
        obtain ⟨x12, rfl⟩ := tx12
        refine z_iconst hC (pc := 67) (v := 3) dX5_literal_67 (by decide) ?_
        refine z_iadd hC (pc := 68) (v := (x12 + 3)) dX5_literal_68 rfl ?_
        refine u_put hC hw8 (pc := 69) zf5 8 (hE.o5 h0) rfl ⟨_, rfl⟩ dX5_literal_69 zw650 rfl rfl rfl (kk := fun w13 hw13 fw13 kw13 => ?_)
        exact hR _ _ _ _ _ dX5_literal_72 (Nat.le_of_ble_eq_true rfl) (Nat.le_of_ble_eq_true rfl) ⟨hw13, rfl, rfl, (tKeep.tr (tKeep.tr (tKeep.tr (tKeep.tr tKeep.rf kw4 rfl) kw6 rfl) kw8 rfl) kw13 rfl)⟩
      · refine z_aload_n hC (pc := 19) 0 dX5_literal_19 rfl rfl ?_
        refine z_aload_n hC (pc := 20) 0 dX5_literal_20 rfl rfl ?_
        refine u_get hC hw8 (pc := 21) zf5 3 (hE.o5 h0) rfl dX5_literal_21 zw645 (kk := fun va14 ta14 fa14 => ?_)
        obtain ⟨a14, ma14, rfl⟩ := ta14
        refine u_get hC hw8 (pc := 24) zf2 5 (hE.o2 ma14) rfl dX5_literal_24 zw252 (kk := fun va15 ta15 fa15 => ?_)
        obtain ⟨a15, ma15, rfl⟩ := ta15
        refine z_iload_n hC (pc := 27) 1 dX5_literal_27 rfl rfl ?_
        refine z_iload_n hC (pc := 28) 3 dX5_literal_28 rfl rfl ?_
        refine z_iadd hC (pc := 29) (v := (x5 + x9)) dX5_literal_29 rfl ?_
        refine t_callSNi hC hw8 (pc := 30) (As := [.ref a15, .int (x5 + x9)]) (kX12_get l G T κ hst hE ma15) trivial dmX12_get dX5_literal_30 zw1835 rfl rfl (Nat.le_of_ble_eq_true rfl) (Nat.le_of_ble_eq_true rfl) (Nat.le_of_ble_eq_true rfl) (Nat.le_of_ble_eq_true rfl) (Nat.le_of_ble_eq_true rfl) (fun _ _ _ h => nomatch h) (fun x17 cw16 nw16 w16 hw16 pw16 => ?_)
        obtain ⟨rfl, rfl, kw16⟩ := pw16
        refine u_put hC hw16 (pc := 33) zf5 10 (hE.o5 h0) rfl ⟨_, rfl⟩ dX5_literal_33 zw652 rfl rfl rfl (kk := fun w18 hw18 fw18 kw18 => ?_)
        refine z_aload_n hC (pc := 36) 0 dX5_literal_36 rfl rfl ?_
        refine u_get hC hw18 (pc := 37) zf5 1 (hE.o5 h0) rfl dX5_literal_37 zw642 (kk := fun va19 ta19 fa19 => ?_)
        obtain ⟨a19, ma19, rfl⟩ := ta19
        refine z_aload_n hC (pc := 40) 0 dX5_literal_40 rfl rfl ?_
        refine u_getK hC (pc := 41) zf5 3 (tKeep.F kw18 (tKeep.F kw16 fa14 rfl) rfl) dX5_literal_41 zw645 (kk := ?_)
        refine u_get hC hw18 (pc := 44) zf2 4 (hE.o2 ma14) rfl dX5_literal_44 zw249 (kk := fun va20 ta20 fa20 => ?_)
        obtain ⟨a20, ma20, rfl⟩ := ta20
        refine z_iload_n hC (pc := 47) 1 dX5_literal_47 rfl rfl ?_
        refine z_iload_n hC (pc := 48) 3 dX5_literal_48 rfl rfl ?_
        refine z_iadd hC (pc := 49) (v := (x5 + x9)) dX5_literal_49 rfl ?_
        refine t_callSNi hC hw18 (pc := 50) (As := [.ref a20, .int (x5 + x9)]) (kX12_getByte l G T κ hst hE (Or.inl ma20)) trivial dmX12_getByte dX5_literal_50 zw1992 rfl rfl (Nat.le_of_ble_eq_true rfl) (Nat.le_of_ble_eq_true rfl) (Nat.le_of_ble_eq_true rfl) (Nat.le_of_ble_eq_true rfl) (Nat.le_of_ble_eq_true rfl) (fun _ _ _ h => nomatch h) (fun x22 cw21 nw21 w21 hw21 pw21 => ?_)
        obtain ⟨rfl, rfl, kw21⟩ := pw21
        obtain ⟨q23, hqq23⟩ := hE.o11 ma19
        refine t_callVv hC hw21 (pc := 53) (As := [.int x22]) (kX11_put l G T κ hst hE ma19) trivial dmX11_put zf11 hqq23 dX5_literal_53 zw1993 rfl rfl (Nat.le_of_ble_eq_true rfl) (Nat.le_of_ble_eq_true rfl) (Nat.le_of_ble_eq_true rfl) (Nat.le_of_ble_eq_true rfl) (Nat.le_of_ble_eq_true rfl) (fun E w q hE hw => hO E w _ _ _ _ _ q hE (Nat.le_of_ble_eq_true rfl) (Nat.le_of_ble_eq_true rfl) hw) (fun cw24 nw24 w24 hw24 pw24 => ?_)
        obtain ⟨rfl, rfl, kw24⟩ := pw24
        refine z_iinc hC (pc := 56) (v := (x9 + 1)) (lv' := [(3, .int (x9 + 1)), (0, .ref a0), (1, .int x5), (2, .int x7)]) 3 dX5_literal_56 rfl (congrArg _ (by decide)) (by decide) rfl ?_
        refine z_goto hC (pc := 59) 14 dX5_literal_59 (by decide) ?_
        refine z_lvs [1, 2, 3, 0] rfl ?_
        exact ih14 w24 hw24 (tKeep.tr (tKeep.tr (tKeep.tr (tKeep.tr (tKeep.tr tKeep.rf kw8 rfl) kw16 rfl) kw18 rfl) kw21 rfl) kw24 rfl) (x9 + 1) (t_nnI v10 (Int32.not_le.mp c11)) (t_up (Int32.not_le.mp c11) hd14)
  refine z_lvs [3, 2, 1, 0] rfl ?_
  exact j14 _ w6 hw6 tKeep.rf 0 (by decide) (Nat.le_refl _)
set_option maxRecDepth 20000 in
theorem kX5_line (l : Launch) (G : zG) (T : tT) (κ : Nat → List Nat) (hst : l.stackTraces = false) (hE : tE G T κ) {a0 : Nat} (h0 : a0 ∈ κ 5) : tMv l G T yX5_line cX5_line 1 ["java/lang/IllegalStateException"] 9 149 1 6 [.ref a0] uT (uPv 0x4e8000000000000000000000000000000000000000000000000000000000000000000000000000000000000000000000d0000000000000000000000000000000000000000000000000000000000000000000000000000000000) := by
  refine tMv.intro hst rfl (Nat.le_of_ble_eq_true rfl) ?_
  intro w0 hw0 _ X hC hR hO hX
  refine z_aload_n hC (pc := 0) 0 dX5_line_0 rfl rfl ?_
  refine z_aload_n hC (pc := 1) 0 dX5_line_1 rfl rfl ?_
  refine z_iconst hC (pc := 2) (v := 1) dX5_line_2 (by decide) ?_
  obtain ⟨q3, hqq3⟩ := hE.o5 h0
  refine t_callVi hC hw0 (pc := 3) (As := [.int 1]) (kX5_code l G T κ hst hE h0) trivial dmX5_code zf5 hqq3 dX5_line_3 zw2078 rfl rfl (Nat.le_of_ble_eq_true rfl) (Nat.le_of_ble_eq_true rfl) (Nat.le_of_ble_eq_true rfl) (Nat.le_of_ble_eq_true rfl) (Nat.le_of_ble_eq_true rfl) (fun _ _ _ h => nomatch h) (fun x5 cw4 nw4 w4 hw4 pw4 => ?_)
  obtain ⟨rfl, rfl, kw4⟩ := pw4
  refine u_put hC hw4 (pc := 6) zf5 10 (hE.o5 h0) rfl ⟨_, rfl⟩ dX5_line_6 zw652 rfl rfl rfl (kk := fun w6 hw6 fw6 kw6 => ?_)
  refine z_aload_n hC (pc := 9) 0 dX5_line_9 rfl rfl ?_
  refine z_iconst hC (pc := 10) (v := 2) dX5_line_10 (by decide) ?_
  refine t_callVi hC hw6 (pc := 11) (As := [.int 2]) (kX5_code l G T κ hst hE h0) trivial dmX5_code zf5 hqq3 dX5_line_11 zw2078 rfl rfl (Nat.le_of_ble_eq_true rfl) (Nat.le_of_ble_eq_true rfl) (Nat.le_of_ble_eq_true rfl) (Nat.le_of_ble_eq_true rfl) (Nat.le_of_ble_eq_true rfl) (fun _ _ _ h => nomatch h) (fun x8 cw7 nw7 w7 hw7 pw7 => ?_)
  obtain ⟨rfl, rfl, kw7⟩ := pw7
  have j40 : ∀ (w9 : va_W), tW T w9 → tKeep 0x4e800000000000000000000000000000000000000000000000000000000000000000000000000000000000000000000000000000000000000000000000000000000000000000000000000000000000000000000000000000000 w7 w9 → zS X G 1 w9 [(0, .ref a0)] 0 0 40 [] := by
    intro w9 hw9 kw9
    refine z_aload_n hC (pc := 40) 0 dX5_line_40 rfl rfl ?_
    refine z_aload_n hC (pc := 41) 0 dX5_line_41 rfl rfl ?_
    refine u_get hC hw9 (pc := 42) zf5 1 (hE.o5 h0) rfl dX5_line_42 zw642 (kk := fun va10 ta10 fa10 => ?_)
    obtain ⟨a10, ma10, rfl⟩ := ta10
    refine u_get hC hw9 (pc := 45) zf11 7 (hE.o11 ma10) rfl dX5_line_45 zw592 (kk := fun vx11 tx11 fx11 => ?_)
    obtain ⟨x11, rfl⟩ := tx11
    refine u_put hC hw9 (pc := 48) zf5 11 (hE.o5 h0) rfl ⟨_, rfl⟩ dX5_line_48 zw653 rfl rfl rfl (kk := fun w12 hw12 fw12 kw12 => ?_)
    refine z_aload_n hC (pc := 51) 0 dX5_line_51 rfl rfl ?_
    refine z_dup hC (pc := 52) dX5_line_52 rfl ?_
    refine u_get hC hw12 (pc := 53) zf5 8 (hE.o5 h0) rfl dX5_line_53 zw650 (kk := fun vx13 tx13 fx13 => ?_)
    obtain ⟨x13, rfl⟩ := tx13
    refine z_iconst hC (pc := 56) (v := 3) dX5_line_56 (by decide) ?_
    refine z_iadd hC (pc := 57) (v := (x13 + 3)) dX5_line_57 rfl ?_
    refine u_put hC hw12 (pc := 58) zf5 8 (hE.o5 h0) rfl ⟨_, rfl⟩ dX5_line_58 zw650 rfl rfl rfl (kk := fun w14 hw14 fw14 kw14 => ?_)
    exact hR _ _ _ _ _ dX5_line_61 (Nat.le_of_ble_eq_true rfl) (Nat.le_of_ble_eq_true rfl) ⟨hw14, rfl, rfl, (tKeep.tr (tKeep.tr (tKeep.tr (tKeep.tr (tKeep.tr (tKeep.tr tKeep.rf kw4 rfl) kw6 rfl) kw7 rfl) kw9 rfl) kw12 rfl) kw14 rfl)⟩
  have j31 : zS X G 1 w7 [(0, .ref a0)] 0 0 31 [] := by
    refine z_aload_n hC (pc := 31) 0 dX5_line_31 rfl rfl ?_
    refine u_get hC hw7 (pc := 32) zf5 1 (hE.o5 h0) rfl dX5_line_32 zw642 (kk := fun va15 ta15 fa15 => ?_)
    obtain ⟨a15, ma15, rfl⟩ := ta15
    refine z_bipush hC (pc := 35) (v := 10) dX5_line_35 (by decide) ?_
    obtain ⟨q16, hqq16⟩ := hE.o11 ma15
    refine t_callVv hC hw7 (pc := 37) (As := [.int 10]) (kX11_put l G T κ hst hE ma15) trivial dmX11_put zf11 hqq16 dX5_line_37 zw1993 rfl rfl (Nat.le_of_ble_eq_true rfl) (Nat.le_of_ble_eq_true rfl) (Nat.le_of_ble_eq_true rfl) (Nat.le_of_ble_eq_true rfl) (Nat.le_of_ble_eq_true rfl) (fun E w q hE hw => hO E w _ _ _ _ _ q hE (Nat.le_of_ble_eq_true rfl) (Nat.le_of_ble_eq_true rfl) hw) (fun cw17 nw17 w17 hw17 pw17 => ?_)
    obtain ⟨rfl, rfl, kw17⟩ := pw17
    exact j40 w17 hw17 (tKeep.tr tKeep.rf kw17 rfl)
  refine z_if_eq hC (pc := 14) 31 dX5_line_14 (by decide) (fun c19 => ?_) (fun c19 => ?_)
  · exact j31
  · refine z_aload_n hC (pc := 17) 0 dX5_line_17 rfl rfl ?_
    refine u_get hC hw7 (pc := 18) zf5 1 (hE.o5 h0) rfl dX5_line_18 zw642 (kk := fun va20 ta20 fa20 => ?_)
    obtain ⟨a20, ma20, rfl⟩ := ta20
    refine u_get hC hw7 (pc := 21) zf11 7 (hE.o11 ma20) rfl dX5_line_21 zw592 (kk := fun vx21 tx21 fx21 => ?_)
    obtain ⟨x21, rfl⟩ := tx21
    refine z_aload_n hC (pc := 24) 0 dX5_line_24 rfl rfl ?_
    refine u_get hC hw7 (pc := 25) zf5 11 (hE.o5 h0) rfl dX5_line_25 zw653 (kk := fun vx22 tx22 fx22 => ?_)
    obtain ⟨x22, rfl⟩ := tx22
    refine z_icmp_eq hC (pc := 28) 40 dX5_line_28 (by decide) (fun c23 => ?_) (fun c23 => ?_)
    · exact j40 w7 hw7 tKeep.rf
    · exact j31
set_option maxRecDepth 20000 in
theorem kX5_raw (l : Launch) (G : zG) (T : tT) (κ : Nat → List Nat) (hst : l.stackTraces = false) (hE : tE G T κ) {a0 : Nat} (h0 : a0 ∈ κ 5) : tMv l G T yX5_raw cX5_raw 4 ["java/lang/IllegalStateException"] 9 149 1 6 [.ref a0] uT (uPv 0x4e800000000000000000000000000000000000000000000000000000000000000000000000000000000000000000000050000000000000000000000000000000000000000000000000000000000000000000000000000000000) := by
  refine tMv.intro hst rfl (Nat.le_of_ble_eq_true rfl) ?_
  intro w0 hw0 _ X hC hR hO hX
  refine z_aload_n hC (pc := 0) 0 dX5_raw_0 rfl rfl ?_
  refine z_aload_n hC (pc := 1) 0 dX5_raw_1 rfl rfl ?_
  refine z_iconst hC (pc := 2) (v := 1) dX5_raw_2 (by decide) ?_
  obtain ⟨q3, hqq3⟩ := hE.o5 h0
  refine t_callVi hC hw0 (pc := 3) (As := [.int 1]) (kX5_code l G T κ hst hE h0) trivial dmX5_code zf5 hqq3 dX5_raw_3 zw2078 rfl rfl (Nat.le_of_ble_eq_true rfl) (Nat.le_of_ble_eq_true rfl) (Nat.le_of_ble_eq_true rfl) (Nat.le_of_ble_eq_true rfl) (Nat.le_of_ble_eq_true rfl) (fun _ _ _ h => nomatch h) (fun x5 cw4 nw4 w4 hw4 pw4 => ?_)
  obtain ⟨rfl, rfl, kw4⟩ := pw4
  refine u_put hC hw4 (pc := 6) zf5 10 (hE.o5 h0) rfl ⟨_, rfl⟩ dX5_raw_6 zw652 rfl rfl rfl (kk := fun w6 hw6 fw6 kw6 => ?_)
  refine z_aload_n hC (pc := 9) 0 dX5_raw_9 rfl rfl ?_
  refine z_iconst hC (pc := 10) (v := 2) dX5_raw_10 (by decide) ?_
  refine t_callVi hC hw6 (pc := 11) (As := [.int 2]) (kX5_code l G T κ hst hE h0) trivial dmX5_code zf5 hqq3 dX5_raw_11 zw2078 rfl rfl (Nat.le_of_ble_eq_true rfl) (Nat.le_of_ble_eq_true rfl) (Nat.le_of_ble_eq_true rfl) (Nat.le_of_ble_eq_true rfl) (Nat.le_of_ble_eq_true rfl) (fun _ _ _ h => nomatch h) (fun x8 cw7 nw7 w7 hw7 pw7 => ?_)
  obtain ⟨rfl, rfl, kw7⟩ := pw7
  refine z_istore_n hC (pc := 14) (lv' := [(1, .int x8), (0, .ref a0)]) dX5_raw_14 rfl (by decide) rfl ?_
  refine z_aload_n hC (pc := 15) 1 dX5_raw_15 rfl rfl ?_
  refine z_iconst hC (pc := 16) (v := 3) dX5_raw_16 (by decide) ?_
  refine t_callVi hC hw7 (pc := 17) (As := [.int 3]) (kX5_code l G T κ hst hE h0) trivial dmX5_code zf5 hqq3 dX5_raw_17 zw2078 rfl rfl (Nat.le_of_ble_eq_true rfl) (Nat.le_of_ble_eq_true rfl) (Nat.le_of_ble_eq_true rfl) (Nat.le_of_ble_eq_true rfl) (Nat.le_of_ble_eq_true rfl) (fun _ _ _ h => nomatch h) (fun x10 cw9 nw9 w9 hw9 pw9 => ?_)
  obtain ⟨rfl, rfl, kw9⟩ := pw9
  refine z_istore_n hC (pc := 20) (lv' := [(2, .int x10), (1, .int x8), (0, .ref a0)]) dX5_raw_20 rfl (by decide) rfl ?_
  refine z_iconst hC (pc := 21) (v := 0) dX5_raw_21 (by decide) ?_
  refine z_istore_n hC (pc := 22) (lv' := [(3, .int 0), (2, .int x10), (1, .int x8), (0, .ref a0)]) dX5_raw_22 rfl (by decide) rfl ?_
  have j23 : ∀ (d23 : Nat), ∀ (w11 : va_W), tW T w11 → tKeep 0x4e800000000000000000000000000000000000000000000000000000000000000000000000000000000000000000000000000000000000000000000000000000000000000000000000000000000000000000000000000000000 w9 w11 → ∀ (x12 : Int32), ¬ x12 < 0 → (2 ^ 31 - (x12 : Int32).toInt).toNat ≤ d23 → zS X G 4 w11 [(0, .ref a0), (1, .int x8), (2, .int x10), (3, .int x12)] 0 0 23 [] := by
    intro d23
    induction d23 with
    | zero => intro w11 hw11 kw11 x12 v13 hd23; exact (t_zero hd23).elim
    | succ d23 ih23 =>
      intro w11 hw11 kw11 x12 v13 hd23
      refine z_iload_n hC (pc := 23) 3 dX5_raw_23 rfl rfl ?_
      refine z_iload_n hC (pc := 24) 2 dX5_raw_24 rfl rfl ?_
      refine z_icmp_ge hC (pc := 25) 54 dX5_raw_25 (by decide) (fun c14 => ?_) (fun c14 => ?_)
      · refine z_aload_n hC (pc := 54) 0 dX5_raw_54 rfl rfl ?_
        refine z_dup hC (pc := 55) dX5_raw_55 rfl ?_
        refine u_get hC hw11 (pc := 56) zf5 8 (hE.o5 h0) rfl dX5_raw_56 zw650 (kk := fun vx15 tx15 fx15 => ?_)
        obtain ⟨x15, rfl⟩ := tx15
        refine z_iconst hC (pc := 59) (v := 4) dX5_raw_59 (by decide) ?_
        refine z_iadd hC (pc := 60) (v := (x15 + 4)) dX5_raw_60 rfl ?_
        refine u_put hC hw11 (pc := 61) zf5 8 (hE.o5 h0) rfl ⟨_, rfl⟩ dX5_raw_61 zw650 rfl rfl rfl (kk := fun w16 hw16 fw16 kw16 => ?_)
        exact hR _ _ _ _ _ dX5_raw_64 (Nat.le_of_ble_eq_true rfl) (Nat.le_of_ble_eq_true rfl) ⟨hw16, rfl, rfl, (tKeep.tr (tKeep.tr (tKeep.tr (tKeep.tr (tKeep.tr (tKeep.tr tKeep.rf kw4 rfl) kw6 rfl) kw7 rfl) kw9 rfl) kw11 rfl) kw16 rfl)⟩
      · refine z_aload_n hC (pc := 28) 0 dX5_raw_28 rfl rfl ?_
        refine u_get hC hw11 (pc := 29) zf5 1 (hE.o5 h0) rfl dX5_raw_29 zw642 (kk := fun va17 ta17 fa17 => ?_)
        obtain ⟨a17, ma17, rfl⟩ := ta17
        refine z_aload_n hC (pc := 32) 0 dX5_raw_32 rfl rfl ?_
        refine u_get hC hw11 (pc := 33) zf5 3 (hE.o5 h0) rfl dX5_raw_33 zw645 (kk := fun va18 ta18 fa18 => ?_)
        obtain ⟨a18, ma18, rfl⟩ := ta18
        refine u_get hC hw11 (pc := 36) zf2 4 (hE.o2 ma18) rfl dX5_raw_36 zw249 (kk := fun va19 ta19 fa19 => ?_)
        obtain ⟨a19, ma19, rfl⟩ := ta19
        refine z_iload_n hC (pc := 39) 1 dX5_raw_39 rfl rfl ?_
        refine z_iload_n hC (pc := 40) 3 dX5_raw_40 rfl rfl ?_
        refine z_iadd hC (pc := 41) (v := (x8 + x12)) dX5_raw_41 rfl ?_
        refine t_callSNi hC hw11 (pc := 42) (As := [.ref a19, .int (x8 + x12)]) (kX12_getByte l G T κ hst hE (Or.inl ma19)) trivial dmX12_getByte dX5_raw_42 zw1992 rfl rfl (Nat.le_of_ble_eq_true rfl) (Nat.le_of_ble_eq_true rfl) (Nat.le_of_ble_eq_true rfl) (Nat.le_of_ble_eq_true rfl) (Nat.le_of_ble_eq_true rfl) (fun _ _ _ h => nomatch h) (fun x21 cw20 nw20 w20 hw20 pw20 => ?_)
        obtain ⟨rfl, rfl, kw20⟩ := pw20
        obtain ⟨q22, hqq22⟩ := hE.o11 ma17
        refine t_callVv hC hw20 (pc := 45) (As := [.int x21]) (kX11_put l G T κ hst hE ma17) trivial dmX11_put zf11 hqq22 dX5_raw_45 zw1993 rfl rfl (Nat.le_of_ble_eq_true rfl) (Nat.le_of_ble_eq_true rfl) (Nat.le_of_ble_eq_true rfl) (Nat.le_of_ble_eq_true rfl) (Nat.le_of_ble_eq_true rfl) (fun E w q hE hw => hO E w _ _ _ _ _ q hE (Nat.le_of_ble_eq_true rfl) (Nat.le_of_ble_eq_true rfl) hw) (fun cw23 nw23 w23 hw23 pw23 => ?_)
        obtain ⟨rfl, rfl, kw23⟩ := pw23
        refine z_iinc hC (pc := 48) (v := (x12 + 1)) (lv' := [(3, .int (x12 + 1)), (0, .ref a0), (1, .int x8), (2, .int x10)]) 3 dX5_raw_48 rfl (congrArg _ (by decide)) (by decide) rfl ?_
        refine z_goto hC (pc := 51) 23 dX5_raw_51 (by decide) ?_
        refine z_lvs [1, 2, 3, 0] rfl ?_
        exact ih23 w23 hw23 (tKeep.tr (tKeep.tr (tKeep.tr tKeep.rf kw11 rfl) kw20 rfl) kw23 rfl) (x12 + 1) (t_nnI v13 (Int32.not_le.mp c14)) (t_up (Int32.not_le.mp c14) hd23)
  refine z_lvs [3, 2, 1, 0] rfl ?_
  exact j23 _ w9 hw9 tKeep.rf 0 (by decide) (Nat.le_refl _)
set_option maxRecDepth 20000 in
theorem kX5_tag (l : Launch) (G : zG) (T : tT) (κ : Nat → List Nat) (hst : l.stackTraces = false) (hE : tE G T κ) {a0 : Nat} (h0 : a0 ∈ κ 5) : tMv l G T yX5_tag cX5_tag 2 ["java/lang/IllegalStateException"] 7 102 1 6 [.ref a0] uT (uPv 0x52000000000000000000000000000000000000000000000000000000000000000000000000000000000) := by
  refine tMv.intro hst rfl (Nat.le_of_ble_eq_true rfl) ?_
  intro w0 hw0 _ X hC hR hO hX
  refine z_aload_n hC (pc := 0) 0 dX5_tag_0 rfl rfl ?_
  refine z_aload_n hC (pc := 1) 0 dX5_tag_1 rfl rfl ?_
  refine z_iconst hC (pc := 2) (v := 1) dX5_tag_2 (by decide) ?_
  obtain ⟨q3, hqq3⟩ := hE.o5 h0
  refine t_callVi hC hw0 (pc := 3) (As := [.int 1]) (kX5_code l G T κ hst hE h0) trivial dmX5_code zf5 hqq3 dX5_tag_3 zw2078 rfl rfl (Nat.le_of_ble_eq_true rfl) (Nat.le_of_ble_eq_true rfl) (Nat.le_of_ble_eq_true rfl) (Nat.le_of_ble_eq_true rfl) (Nat.le_of_ble_eq_true rfl) (fun _ _ _ h => nomatch h) (fun x5 cw4 nw4 w4 hw4 pw4 => ?_)
  obtain ⟨rfl, rfl, kw4⟩ := pw4
  refine u_put hC hw4 (pc := 6) zf5 10 (hE.o5 h0) rfl ⟨_, rfl⟩ dX5_tag_6 zw652 rfl rfl rfl (kk := fun w6 hw6 fw6 kw6 => ?_)
  refine z_aload_n hC (pc := 9) 0 dX5_tag_9 rfl rfl ?_
  refine z_iconst hC (pc := 10) (v := 2) dX5_tag_10 (by decide) ?_
  refine t_callVi hC hw6 (pc := 11) (As := [.int 2]) (kX5_code l G T κ hst hE h0) trivial dmX5_code zf5 hqq3 dX5_tag_11 zw2078 rfl rfl (Nat.le_of_ble_eq_true rfl) (Nat.le_of_ble_eq_true rfl) (Nat.le_of_ble_eq_true rfl) (Nat.le_of_ble_eq_true rfl) (Nat.le_of_ble_eq_true rfl) (fun _ _ _ h => nomatch h) (fun x8 cw7 nw7 w7 hw7 pw7 => ?_)
  obtain ⟨rfl, rfl, kw7⟩ := pw7
  refine z_istore_n hC (pc := 14) (lv' := [(1, .int x8), (0, .ref a0)]) dX5_tag_14 rfl (by decide) rfl ?_
  refine z_iload_n hC (pc := 15) 0 dX5_tag_15 rfl rfl ?_
  refine z_if_ne hC (pc := 16) 30 dX5_tag_16 (by decide) (fun c9 => ?_) (fun c9 => ?_)
  · refine z_aload_n hC (pc := 30) 1 dX5_tag_30 rfl rfl ?_
    refine z_iconst hC (pc := 31) (v := (-1)) dX5_tag_31 (by decide) ?_
    refine t_callVv hC hw7 (pc := 32) (As := [.int (-1)]) (kX5_push l G T κ hst hE h0) trivial dmX5_push zf5 hqq3 dX5_tag_32 zw1979 rfl rfl (Nat.le_of_ble_eq_true rfl) (Nat.le_of_ble_eq_true rfl) (Nat.le_of_ble_eq_true rfl) (Nat.le_of_ble_eq_true rfl) (Nat.le_of_ble_eq_true rfl) (fun E w q hE hw => hO E w _ _ _ _ _ q hE (Nat.le_of_ble_eq_true rfl) (Nat.le_of_ble_eq_true rfl) hw) (fun cw10 nw10 w10 hw10 pw10 => ?_)
    obtain ⟨rfl, rfl, kw10⟩ := pw10
    refine z_aload_n hC (pc := 35) 1 dX5_tag_35 rfl rfl ?_
    refine z_iconst hC (pc := 36) (v := (-1)) dX5_tag_36 (by decide) ?_
    refine t_callVv hC hw10 (pc := 37) (As := [.int (-1)]) (kX5_push l G T κ hst hE h0) trivial dmX5_push zf5 hqq3 dX5_tag_37 zw1979 rfl rfl (Nat.le_of_ble_eq_true rfl) (Nat.le_of_ble_eq_true rfl) (Nat.le_of_ble_eq_true rfl) (Nat.le_of_ble_eq_true rfl) (Nat.le_of_ble_eq_true rfl) (fun E w q hE hw => hO E w _ _ _ _ _ q hE (Nat.le_of_ble_eq_true rfl) (Nat.le_of_ble_eq_true rfl) hw) (fun cw12 nw12 w12 hw12 pw12 => ?_)
    obtain ⟨rfl, rfl, kw12⟩ := pw12
    refine z_aload_n hC (pc := 40) 1 dX5_tag_40 rfl rfl ?_
    refine z_iconst hC (pc := 41) (v := 0) dX5_tag_41 (by decide) ?_
    refine t_callVv hC hw12 (pc := 42) (As := [.int 0]) (kX5_push l G T κ hst hE h0) trivial dmX5_push zf5 hqq3 dX5_tag_42 zw1979 rfl rfl (Nat.le_of_ble_eq_true rfl) (Nat.le_of_ble_eq_true rfl) (Nat.le_of_ble_eq_true rfl) (Nat.le_of_ble_eq_true rfl) (Nat.le_of_ble_eq_true rfl) (fun E w q hE hw => hO E w _ _ _ _ _ q hE (Nat.le_of_ble_eq_true rfl) (Nat.le_of_ble_eq_true rfl) hw) (fun cw14 nw14 w14 hw14 pw14 => ?_)
    obtain ⟨rfl, rfl, kw14⟩ := pw14
    refine z_aload_n hC (pc := 45) 1 dX5_tag_45 rfl rfl ?_
    refine z_iconst hC (pc := 46) (v := (-1)) dX5_tag_46 (by decide) ?_
    refine t_callVv hC hw14 (pc := 47) (As := [.int (-1)]) (kX5_push l G T κ hst hE h0) trivial dmX5_push zf5 hqq3 dX5_tag_47 zw1979 rfl rfl (Nat.le_of_ble_eq_true rfl) (Nat.le_of_ble_eq_true rfl) (Nat.le_of_ble_eq_true rfl) (Nat.le_of_ble_eq_true rfl) (Nat.le_of_ble_eq_true rfl) (fun E w q hE hw => hO E w _ _ _ _ _ q hE (Nat.le_of_ble_eq_true rfl) (Nat.le_of_ble_eq_true rfl) hw) (fun cw16 nw16 w16 hw16 pw16 => ?_)
    obtain ⟨rfl, rfl, kw16⟩ := pw16
    refine z_aload_n hC (pc := 50) 1 dX5_tag_50 rfl rfl ?_
    refine z_ldc_w hC (pc := 51) (v := 134217728) dX5_tag_51 zw2094 ?_
    refine t_callVv hC hw16 (pc := 54) (As := [.int 134217728]) (kX5_push l G T κ hst hE h0) trivial dmX5_push zf5 hqq3 dX5_tag_54 zw1979 rfl rfl (Nat.le_of_ble_eq_true rfl) (Nat.le_of_ble_eq_true rfl) (Nat.le_of_ble_eq_true rfl) (Nat.le_of_ble_eq_true rfl) (Nat.le_of_ble_eq_true rfl) (fun E w q hE hw => hO E w _ _ _ _ _ q hE (Nat.le_of_ble_eq_true rfl) (Nat.le_of_ble_eq_true rfl) hw) (fun cw18 nw18 w18 hw18 pw18 => ?_)
    obtain ⟨rfl, rfl, kw18⟩ := pw18
    refine z_aload_n hC (pc := 57) 1 dX5_tag_57 rfl rfl ?_
    refine z_iload_n hC (pc := 58) 0 dX5_tag_58 rfl rfl ?_
    refine u_put hC hw18 (pc := 59) zf5 8 (hE.o5 h0) rfl ⟨_, rfl⟩ dX5_tag_59 zw650 rfl rfl rfl (kk := fun w20 hw20 fw20 kw20 => ?_)
    exact hR _ _ _ _ _ dX5_tag_62 (Nat.le_of_ble_eq_true rfl) (Nat.le_of_ble_eq_true rfl) ⟨hw20, rfl, rfl, (tKeep.tr (tKeep.tr (tKeep.tr (tKeep.tr (tKeep.tr (tKeep.tr (tKeep.tr (tKeep.tr (tKeep.tr tKeep.rf kw4 rfl) kw6 rfl) kw7 rfl) kw10 rfl) kw12 rfl) kw14 rfl) kw16 rfl) kw18 rfl) kw20 rfl)⟩
  · refine z_aload_n hC (pc := 19) 1 dX5_tag_19 rfl rfl ?_
    refine z_dup hC (pc := 20) dX5_tag_20 rfl ?_
    refine u_get hC hw7 (pc := 21) zf5 8 (hE.o5 h0) rfl dX5_tag_21 zw650 (kk := fun vx21 tx21 fx21 => ?_)
    obtain ⟨x21, rfl⟩ := tx21
    refine z_iconst hC (pc := 24) (v := 3) dX5_tag_24 (by decide) ?_
    refine z_iadd hC (pc := 25) (v := (x21 + 3)) dX5_tag_25 rfl ?_
    refine u_put hC hw7 (pc := 26) zf5 8 (hE.o5 h0) rfl ⟨_, rfl⟩ dX5_tag_26 zw650 rfl rfl rfl (kk := fun w22 hw22 fw22 kw22 => ?_)
    exact hR _ _ _ _ _ dX5_tag_29 (Nat.le_of_ble_eq_true rfl) (Nat.le_of_ble_eq_true rfl) ⟨hw22, rfl, rfl, (tKeep.tr (tKeep.tr (tKeep.tr (tKeep.tr tKeep.rf kw4 rfl) kw6 rfl) kw7 rfl) kw22 rfl)⟩
set_option maxRecDepth 20000 in
theorem kX5_pop (l : Launch) (G : zG) (T : tT) (κ : Nat → List Nat) (hst : l.stackTraces = false) (hE : tE G T κ) {a0 : Nat} (h0 : a0 ∈ κ 5) : tMi l G T yX5_pop cX5_pop 1 .int [] 0 0 0 0 [.ref a0] uT (uPi 0x2000000000000000000000000000000000000000000000000000000000000000000000000000000000) := by
  refine tMi.intro hst rfl (Nat.le_of_ble_eq_true rfl) ?_
  intro w0 hw0 _ X hC hR hO hX
  refine z_aload_n hC (pc := 0) 0 dX5_pop_0 rfl rfl ?_
  refine u_get hC hw0 (pc := 1) zf5 5 (hE.o5 h0) rfl dX5_pop_1 zw647 (kk := fun vx3 tx3 fx3 => ?_)
  obtain ⟨x3, rfl⟩ := tx3
  have j19 : zS X G 1 w0 [] 0 0 19 [] := by
    refine z_iconst hC (pc := 19) (v := (-1)) dX5_pop_19 (by decide) ?_
    exact hR _ _ _ _ _ _ dX5_pop_20 rfl (Nat.le_of_ble_eq_true rfl) (Nat.le_of_ble_eq_true rfl) ⟨hw0, rfl, rfl, tKeep.rf⟩
  refine z_if_le hC (pc := 4) 19 dX5_pop_4 (by decide) (fun c4 => ?_) (fun c4 => ?_)
  · refine z_lvs [] rfl ?_
    exact j19
  · refine z_aload_n hC (pc := 7) 0 dX5_pop_7 rfl rfl ?_
    refine u_getK hC (pc := 8) zf5 5 fx3 dX5_pop_8 zw647 (kk := ?_)
    refine z_aload_n hC (pc := 11) 0 dX5_pop_11 rfl rfl ?_
    refine u_get hC hw0 (pc := 12) zf5 4 (hE.o5 h0) rfl dX5_pop_12 zw646 (kk := fun va5 ta5 fa5 => ?_)
    obtain ⟨a5, ma5, rfl⟩ := ta5
    obtain ⟨N6, hN6, AN6⟩ := hE.ints ma5
    refine u_alenI hC hw0 (pc := 15) AN6 dX5_pop_15 ?_
    refine z_icmp_le hC (pc := 16) 21 dX5_pop_16 (by decide) (fun c7 => ?_) (fun c7 => ?_)
    · refine z_aload_n hC (pc := 21) 0 dX5_pop_21 rfl rfl ?_
      refine z_dup hC (pc := 22) dX5_pop_22 rfl ?_
      refine u_getK hC (pc := 23) zf5 5 fx3 dX5_pop_23 zw647 (kk := ?_)
      refine z_iconst hC (pc := 26) (v := 1) dX5_pop_26 (by decide) ?_
      refine z_isub hC (pc := 27) (v := (x3 - 1)) dX5_pop_27 rfl ?_
      refine u_put hC hw0 (pc := 28) zf5 5 (hE.o5 h0) rfl ⟨_, rfl⟩ dX5_pop_28 zw647 rfl rfl rfl (kk := fun w8 hw8 fw8 kw8 => ?_)
      refine z_aload_n hC (pc := 31) 0 dX5_pop_31 rfl rfl ?_
      refine u_getK hC (pc := 32) zf5 4 (tKeep.F kw8 fa5 rfl) dX5_pop_32 zw646 (kk := ?_)
      refine z_aload_n hC (pc := 35) 0 dX5_pop_35 rfl rfl ?_
      refine u_getK hC (pc := 36) zf5 5 fw8 dX5_pop_36 zw647 (kk := ?_)
      refine t_iald hC hw8 (pc := 39) AN6 dX5_pop_39 (by have o1 := Int32.le_toInt x3; have o2 := Int32.toInt_lt x3; have o3 : (0 : Int32).toInt = 0 := (by decide); have o4 := t_fne c4; have o5 : (Int32.ofNat N6).toInt = N6 := nI_toInt hN6; have o6 := hN6; have o7 := t_fe c7; have o8 : (1 : Int32).toInt = 1 := (by decide); have o9 := t_subO x3 1; rw [vp_in_iff]; omega) (fun x9 _ => ?_)
      exact hR _ _ _ _ _ _ dX5_pop_40 rfl (Nat.le_of_ble_eq_true rfl) (Nat.le_of_ble_eq_true rfl) ⟨hw8, rfl, rfl, (tKeep.tr tKeep.rf kw8 rfl)⟩
    · refine z_lvs [] rfl ?_
      exact j19
set_option maxRecDepth 20000 in
theorem kX3_isTrue (l : Launch) (G : zG) (T : tT) (κ : Nat → List Nat) (hst : l.stackTraces = false) (hE : tE G T κ) {a0 : Nat} (h0 : a0 ∈ κ 3) {x1 : Int32} : tMi l G T yX3_isTrue cX3_isTrue 2 .boolean [] 2 42 0 0 [.ref a0, .int x1] uT (uPz 0x0) := by
  refine tMi.intro hst rfl (Nat.le_of_ble_eq_true rfl) ?_
  intro w0 hw0 _ X hC hR hO hX
  refine z_iload_n hC (pc := 0) 1 dX3_isTrue_0 rfl rfl ?_
  refine z_iconst hC (pc := 1) (v := (-1)) dX3_isTrue_1 (by decide) ?_
  have j28 : ∀ (w4 : va_W), tW T w4 → tKeep 0x0 w0 w4 → zS X G 2 w4 [] 0 0 28 [] := by
    intro w4 hw4 kw4
    refine z_iconst hC (pc := 28) (v := 0) dX3_isTrue_28 (by decide) ?_
    exact hR _ _ _ _ _ _ dX3_isTrue_29 rfl (Nat.le_of_ble_eq_true rfl) (Nat.le_of_ble_eq_true rfl) ⟨hw4, rfl, rfl, (tKeep.tr tKeep.rf kw4 rfl), (Or.inl rfl)⟩
  refine z_icmp_eq hC (pc := 2) 28 dX3_isTrue_2 (by decide) (fun c5 => ?_) (fun c5 => ?_)
  · refine z_lvs [] rfl ?_
    exact j28 w0 hw0 tKeep.rf
  · refine z_iload_n hC (pc := 5) 1 dX3_isTrue_5 rfl rfl ?_
    refine z_ldc hC (pc := 6) (v := 134217728) dX3_isTrue_6 zw2032 ?_
    refine z_icmp_eq hC (pc := 8) 28 dX3_isTrue_8 (by decide) (fun c6 => ?_) (fun c6 => ?_)
    · refine z_lvs [] rfl ?_
      exact j28 w0 hw0 tKeep.rf
    · refine z_aload_n hC (pc := 11) 0 dX3_isTrue_11 rfl rfl ?_
      refine z_iload_n hC (pc := 12) 1 dX3_isTrue_12 rfl rfl ?_
      refine z_iconst hC (pc := 13) (v := 0) dX3_isTrue_13 (by decide) ?_
      obtain ⟨q7, hqq7⟩ := hE.o3 h0
      refine t_callVi hC hw0 (pc := 14) (As := [.int x1, .int 0]) (kX3_isHouse l G T κ hst hE h0) trivial dmX3_isHouse zf3 hqq7 dX3_isTrue_14 zw2031 rfl rfl (Nat.le_of_ble_eq_true rfl) (Nat.le_of_ble_eq_true rfl) (Nat.le_of_ble_eq_true rfl) (Nat.le_of_ble_eq_true rfl) (Nat.le_of_ble_eq_true rfl) (fun _ _ _ h => nomatch h) (fun x9 cw8 nw8 w8 hw8 pw8 => ?_)
      obtain ⟨rfl, rfl, kw8, zx9⟩ := pw8
      have j30 : ∀ (w10 : va_W), tW T w10 → tKeep 0x0 w8 w10 → zS X G 2 w10 [(0, .ref a0), (1, .int x1)] 0 0 30 [] := by
        intro w10 hw10 kw10
        refine z_iload_n hC (pc := 30) 1 dX3_isTrue_30 rfl rfl ?_
        refine t_callSi hC hw10 (pc := 31) (As := [.int x1]) (kX3_sortOf l G T κ hst hE) trivial dmX3_sortOf dX3_isTrue_31 zw1844 rfl rfl (Nat.le_of_ble_eq_true rfl) (Nat.le_of_ble_eq_true rfl) (Nat.le_of_ble_eq_true rfl) (Nat.le_of_ble_eq_true rfl) (Nat.le_of_ble_eq_true rfl) (fun _ _ _ h => nomatch h) (fun x12 cw11 nw11 w11 hw11 pw11 => ?_)
        obtain ⟨rfl, rfl, kw11⟩ := pw11
        refine z_ldc hC (pc := 34) (v := 1073741824) dX3_isTrue_34 zw1905 ?_
        refine z_icmp_ne hC (pc := 36) 64 dX3_isTrue_36 (by decide) (fun c13 => ?_) (fun c13 => ?_)
        · refine z_aload_n hC (pc := 64) 0 dX3_isTrue_64 rfl rfl ?_
          refine z_iload_n hC (pc := 65) 1 dX3_isTrue_65 rfl rfl ?_
          refine t_callVi hC hw11 (pc := 66) (As := [.int x1]) (kX3_isMany l G T κ hst hE h0) trivial dmX3_isMany zf3 hqq7 dX3_isTrue_66 zw1851 rfl rfl (Nat.le_of_ble_eq_true rfl) (Nat.le_of_ble_eq_true rfl) (Nat.le_of_ble_eq_true rfl) (Nat.le_of_ble_eq_true rfl) (Nat.le_of_ble_eq_true rfl) (fun _ _ _ h => nomatch h) (fun x15 cw14 nw14 w14 hw14 pw14 => ?_)
          obtain ⟨rfl, rfl, kw14, zx15⟩ := pw14
          have j85 : ∀ (w16 : va_W), tW T w16 → tKeep 0x0 w14 w16 → ∀ (x17 : Int32), tZ (.int x17) → zS X G 2 w16 [] 0 0 85 [.int x17] := by
            intro w16 hw16 kw16 x17 zx17
            exact hR _ _ _ _ _ _ dX3_isTrue_85 (t_nZ zx17) (Nat.le_of_ble_eq_true rfl) (Nat.le_of_ble_eq_true rfl) ⟨hw16, rfl, rfl, (tKeep.tr (tKeep.tr (tKeep.tr (tKeep.tr (tKeep.tr tKeep.rf kw8 rfl) kw10 rfl) kw11 rfl) kw14 rfl) kw16 rfl), zx17⟩
          have j80 : ∀ (w18 : va_W), tW T w18 → tKeep 0x0 w14 w18 → zS X G 2 w18 [] 0 0 80 [] := by
            intro w18 hw18 kw18
            refine z_iconst hC (pc := 80) (v := 1) dX3_isTrue_80 (by decide) ?_
            refine z_goto hC (pc := 81) 85 dX3_isTrue_81 (by decide) ?_
            exact j85 w18 hw18 (tKeep.tr tKeep.rf kw18 rfl) 1 (Or.inr rfl)
          refine z_if_eq hC (pc := 69) 80 dX3_isTrue_69 (by decide) (fun c19 => ?_) (fun c19 => ?_)
          · refine z_lvs [] rfl ?_
            exact j80 w14 hw14 tKeep.rf
          · refine z_aload_n hC (pc := 72) 0 dX3_isTrue_72 rfl rfl ?_
            refine z_iload_n hC (pc := 73) 1 dX3_isTrue_73 rfl rfl ?_
            refine t_callVi hC hw14 (pc := 74) (As := [.int x1]) (kX3_countOf l G T κ hst hE h0) trivial dmX3_countOf zf3 hqq7 dX3_isTrue_74 zw2107 rfl rfl (Nat.le_of_ble_eq_true rfl) (Nat.le_of_ble_eq_true rfl) (Nat.le_of_ble_eq_true rfl) (Nat.le_of_ble_eq_true rfl) (Nat.le_of_ble_eq_true rfl) (fun _ _ _ h => nomatch h) (fun x21 cw20 nw20 w20 hw20 pw20 => ?_)
            obtain ⟨rfl, rfl, kw20⟩ := pw20
            refine z_if_le hC (pc := 77) 84 dX3_isTrue_77 (by decide) (fun c22 => ?_) (fun c22 => ?_)
            · refine z_iconst hC (pc := 84) (v := 0) dX3_isTrue_84 (by decide) ?_
              refine z_lvs [] rfl ?_
              exact j85 w20 hw20 (tKeep.tr tKeep.rf kw20 rfl) 0 (Or.inl rfl)
            · refine z_lvs [] rfl ?_
              exact j80 w20 hw20 (tKeep.tr tKeep.rf kw20 rfl)
        · refine z_aload_n hC (pc := 39) 0 dX3_isTrue_39 rfl rfl ?_
          refine u_get hC hw11 (pc := 40) zf3 2 (hE.o3 h0) rfl dX3_isTrue_40 zw505 (kk := fun va23 ta23 fa23 => ?_)
          obtain ⟨a23, ma23, rfl⟩ := ta23
          refine u_get hC hw11 (pc := 43) zf2 2 (hE.o2 ma23) rfl dX3_isTrue_43 zw243 (kk := fun va24 ta24 fa24 => ?_)
          obtain ⟨a24, ma24, rfl⟩ := ta24
          refine z_iload_n hC (pc := 46) 1 dX3_isTrue_46 rfl rfl ?_
          refine z_ldc hC (pc := 47) (v := 134217727) dX3_isTrue_47 zw1849 ?_
          refine z_iand hC (pc := 49) (v := (x1 &&& 134217727)) dX3_isTrue_49 rfl ?_
          refine z_iconst hC (pc := 50) (v := 2) dX3_isTrue_50 (by decide) ?_
          refine z_iadd hC (pc := 51) (v := ((x1 &&& 134217727) + 2)) dX3_isTrue_51 rfl ?_
          refine t_callSNi hC hw11 (pc := 52) (As := [.ref a24, .int ((x1 &&& 134217727) + 2)]) (kX12_get l G T κ hst hE ma24) trivial dmX12_get dX3_isTrue_52 zw1850 rfl rfl (Nat.le_of_ble_eq_true rfl) (Nat.le_of_ble_eq_true rfl) (Nat.le_of_ble_eq_true rfl) (Nat.le_of_ble_eq_true rfl) (Nat.le_of_ble_eq_true rfl) (fun _ _ _ h => nomatch h) (fun x26 cw25 nw25 w25 hw25 pw25 => ?_)
          obtain ⟨rfl, rfl, kw25⟩ := pw25
          have j63 : ∀ (x27 : Int32), tZ (.int x27) → zS X G 2 w25 [] 0 0 63 [.int x27] := by
            intro x27 zx27
            exact hR _ _ _ _ _ _ dX3_isTrue_63 (t_nZ zx27) (Nat.le_of_ble_eq_true rfl) (Nat.le_of_ble_eq_true rfl) ⟨hw25, rfl, rfl, (tKeep.tr (tKeep.tr (tKeep.tr (tKeep.tr tKeep.rf kw8 rfl) kw10 rfl) kw11 rfl) kw25 rfl), zx27⟩
          refine z_if_le hC (pc := 55) 62 dX3_isTrue_55 (by decide) (fun c28 => ?_) (fun c28 => ?_)
          · refine z_iconst hC (pc := 62) (v := 0) dX3_isTrue_62 (by decide) ?_
            refine z_lvs [] rfl ?_
            exact j63 0 (Or.inl rfl)
          · refine z_iconst hC (pc := 58) (v := 1) dX3_isTrue_58 (by decide) ?_
            refine z_goto hC (pc := 59) 63 dX3_isTrue_59 (by decide) ?_
            refine z_lvs [] rfl ?_
            exact j63 1 (Or.inr rfl)
      refine z_if_eq hC (pc := 17) 30 dX3_isTrue_17 (by decide) (fun c29 => ?_) (fun c29 => ?_)
      · exact j30 w8 hw8 tKeep.rf
      · refine z_aload_n hC (pc := 20) 0 dX3_isTrue_20 rfl rfl ?_
        refine z_iload_n hC (pc := 21) 1 dX3_isTrue_21 rfl rfl ?_
        refine t_callVi hC hw8 (pc := 22) (As := [.int x1]) (kX3_isYes l G T κ hst hE h0) trivial dmX3_isYes zf3 hqq7 dX3_isTrue_22 zw2034 rfl rfl (Nat.le_of_ble_eq_true rfl) (Nat.le_of_ble_eq_true rfl) (Nat.le_of_ble_eq_true rfl) (Nat.le_of_ble_eq_true rfl) (Nat.le_of_ble_eq_true rfl) (fun _ _ _ h => nomatch h) (fun x31 cw30 nw30 w30 hw30 pw30 => ?_)
        obtain ⟨rfl, rfl, kw30, zx31⟩ := pw30
        refine z_if_ne hC (pc := 25) 30 dX3_isTrue_25 (by decide) (fun c32 => ?_) (fun c32 => ?_)
        · exact j30 w30 hw30 (tKeep.tr tKeep.rf kw30 rfl)
        · refine z_lvs [] rfl ?_
          exact j28 w30 hw30 (tKeep.tr (tKeep.tr tKeep.rf kw8 rfl) kw30 rfl)
set_option maxRecDepth 20000 in
theorem kX11_indent (l : Launch) (G : zG) (T : tT) (κ : Nat → List Nat) (hst : l.stackTraces = false) (hE : tE G T κ) {a0 : Nat} (h0 : a0 ∈ κ 11) {x1 : Int32} {x2 : Int32} : tMv l G T yX11_indent cX11_indent 3 [] 1 22 0 0 [.ref a0, .int x1, .int x2] uT (uPv 0x400000000000000000000000000000000000000000000000000000000000000000000000000000000000000000000000000000000000000000000000000000000000000000000000000000000000000000000000000000000000) := by
  refine tMv.intro hst rfl (Nat.le_of_ble_eq_true rfl) ?_
  intro w0 hw0 _ X hC hR hO hX
  refine z_aload_n hC (pc := 0) 0 dX11_indent_0 rfl rfl ?_
  refine u_get hC hw0 (pc := 1) zf11 12 (hE.o11 h0) rfl dX11_indent_1 zw600 (kk := fun va5 ta5 fa5 => ?_)
  obtain ⟨a5, ma5, rfl⟩ := ta5
  refine z_iconst hC (pc := 4) (v := 2) dX11_indent_4 (by decide) ?_
  refine z_aload_n hC (pc := 5) 0 dX11_indent_5 rfl rfl ?_
  refine u_get hC hw0 (pc := 6) zf11 14 (hE.o11 h0) rfl dX11_indent_6 zw603 (kk := fun vx6 tx6 fx6 => ?_)
  obtain ⟨x6, rfl⟩ := tx6
  refine z_imul hC (pc := 9) (v := ((2 : Int32) * x6)) dX11_indent_9 rfl ?_
  refine z_iload_n hC (pc := 10) 1 dX11_indent_10 rfl rfl ?_
  refine t_callSNv hC hw0 (pc := 11) (As := [.ref a5, .int ((2 : Int32) * x6), .int x1]) (kX12_set l G T κ hst hE ma5) trivial dmX12_set dX11_indent_11 zw2112 rfl rfl (Nat.le_of_ble_eq_true rfl) (Nat.le_of_ble_eq_true rfl) (Nat.le_of_ble_eq_true rfl) (Nat.le_of_ble_eq_true rfl) (Nat.le_of_ble_eq_true rfl) (fun _ _ _ h => nomatch h) (fun cw7 nw7 w7 hw7 pw7 => ?_)
  obtain ⟨rfl, rfl, kw7⟩ := pw7
  refine z_aload_n hC (pc := 14) 0 dX11_indent_14 rfl rfl ?_
  refine u_getK hC (pc := 15) zf11 12 (tKeep.F kw7 fa5 rfl) dX11_indent_15 zw600 (kk := ?_)
  refine z_iconst hC (pc := 18) (v := 2) dX11_indent_18 (by decide) ?_
  refine z_aload_n hC (pc := 19) 0 dX11_indent_19 rfl rfl ?_
  refine u_getK hC (pc := 20) zf11 14 (tKeep.F kw7 fx6 rfl) dX11_indent_20 zw603 (kk := ?_)
  refine z_imul hC (pc := 23) (v := ((2 : Int32) * x6)) dX11_indent_23 rfl ?_
  refine z_iconst hC (pc := 24) (v := 1) dX11_indent_24 (by decide) ?_
  refine z_iadd hC (pc := 25) (v := (((2 : Int32) * x6) + 1)) dX11_indent_25 rfl ?_
  refine z_iload_n hC (pc := 26) 2 dX11_indent_26 rfl rfl ?_
  refine t_callSNv hC hw7 (pc := 27) (As := [.ref a5, .int (((2 : Int32) * x6) + 1), .int x2]) (kX12_set l G T κ hst hE ma5) trivial dmX12_set dX11_indent_27 zw2112 rfl rfl (Nat.le_of_ble_eq_true rfl) (Nat.le_of_ble_eq_true rfl) (Nat.le_of_ble_eq_true rfl) (Nat.le_of_ble_eq_true rfl) (Nat.le_of_ble_eq_true rfl) (fun _ _ _ h => nomatch h) (fun cw9 nw9 w9 hw9 pw9 => ?_)
  obtain ⟨rfl, rfl, kw9⟩ := pw9
  refine z_aload_n hC (pc := 30) 0 dX11_indent_30 rfl rfl ?_
  refine z_dup hC (pc := 31) dX11_indent_31 rfl ?_
  refine u_getK hC (pc := 32) zf11 14 (tKeep.F kw9 (tKeep.F kw7 fx6 rfl) rfl) dX11_indent_32 zw603 (kk := ?_)
  refine z_iconst hC (pc := 35) (v := 1) dX11_indent_35 (by decide) ?_
  refine z_iadd hC (pc := 36) (v := (x6 + 1)) dX11_indent_36 rfl ?_
  refine u_put hC hw9 (pc := 37) zf11 14 (hE.o11 h0) rfl ⟨_, rfl⟩ dX11_indent_37 zw603 rfl rfl rfl (kk := fun w11 hw11 fw11 kw11 => ?_)
  exact hR _ _ _ _ _ dX11_indent_40 (Nat.le_of_ble_eq_true rfl) (Nat.le_of_ble_eq_true rfl) ⟨hw11, rfl, rfl, (tKeep.tr (tKeep.tr (tKeep.tr tKeep.rf kw7 rfl) kw9 rfl) kw11 rfl)⟩
set_option maxRecDepth 20000 in
theorem kX5_leave (l : Launch) (G : zG) (T : tT) (κ : Nat → List Nat) (hst : l.stackTraces = false) (hE : tE G T κ) {a0 : Nat} (h0 : a0 ∈ κ 5) : tMv l G T yX5_leave cX5_leave 1 [] 1 20 0 0 [.ref a0] uT (uPv 0x1f8000000000000000000000000000000000000000000000000000000000000000000000000000000000) := by
  refine tMv.intro hst rfl (Nat.le_of_ble_eq_true rfl) ?_
  intro w0 hw0 _ X hC hR hO hX
  refine z_aload_n hC (pc := 0) 0 dX5_leave_0 rfl rfl ?_
  obtain ⟨q3, hqq3⟩ := hE.o5 h0
  refine t_callVi hC hw0 (pc := 1) (As := []) (kX5_done l G T κ hst hE h0) trivial dmX5_done zf5 hqq3 dX5_leave_1 zw1960 rfl rfl (Nat.le_of_ble_eq_true rfl) (Nat.le_of_ble_eq_true rfl) (Nat.le_of_ble_eq_true rfl) (Nat.le_of_ble_eq_true rfl) (Nat.le_of_ble_eq_true rfl) (fun _ _ _ h => nomatch h) (fun x5 cw4 nw4 w4 hw4 pw4 => ?_)
  obtain ⟨rfl, rfl, kw4⟩ := pw4
  refine z_pop hC (pc := 4) dX5_leave_4 rfl ?_
  refine z_aload_n hC (pc := 5) 0 dX5_leave_5 rfl rfl ?_
  refine z_aload_n hC (pc := 6) 0 dX5_leave_6 rfl rfl ?_
  refine t_callVi hC hw4 (pc := 7) (As := []) (kX5_done l G T κ hst hE h0) trivial dmX5_done zf5 hqq3 dX5_leave_7 zw1960 rfl rfl (Nat.le_of_ble_eq_true rfl) (Nat.le_of_ble_eq_true rfl) (Nat.le_of_ble_eq_true rfl) (Nat.le_of_ble_eq_true rfl) (Nat.le_of_ble_eq_true rfl) (fun _ _ _ h => nomatch h) (fun x7 cw6 nw6 w6 hw6 pw6 => ?_)
  obtain ⟨rfl, rfl, kw6⟩ := pw6
  refine u_put hC hw6 (pc := 10) zf5 10 (hE.o5 h0) rfl ⟨_, rfl⟩ dX5_leave_10 zw652 rfl rfl rfl (kk := fun w8 hw8 fw8 kw8 => ?_)
  refine z_aload_n hC (pc := 13) 0 dX5_leave_13 rfl rfl ?_
  refine z_aload_n hC (pc := 14) 0 dX5_leave_14 rfl rfl ?_
  refine t_callVi hC hw8 (pc := 15) (As := []) (kX5_done l G T κ hst hE h0) trivial dmX5_done zf5 hqq3 dX5_leave_15 zw1960 rfl rfl (Nat.le_of_ble_eq_true rfl) (Nat.le_of_ble_eq_true rfl) (Nat.le_of_ble_eq_true rfl) (Nat.le_of_ble_eq_true rfl) (Nat.le_of_ble_eq_true rfl) (fun _ _ _ h => nomatch h) (fun x10 cw9 nw9 w9 hw9 pw9 => ?_)
  obtain ⟨rfl, rfl, kw9⟩ := pw9
  refine u_put hC hw9 (pc := 18) zf5 11 (hE.o5 h0) rfl ⟨_, rfl⟩ dX5_leave_18 zw653 rfl rfl rfl (kk := fun w11 hw11 fw11 kw11 => ?_)
  refine z_aload_n hC (pc := 21) 0 dX5_leave_21 rfl rfl ?_
  refine z_aload_n hC (pc := 22) 0 dX5_leave_22 rfl rfl ?_
  refine t_callVi hC hw11 (pc := 23) (As := []) (kX5_done l G T κ hst hE h0) trivial dmX5_done zf5 hqq3 dX5_leave_23 zw1960 rfl rfl (Nat.le_of_ble_eq_true rfl) (Nat.le_of_ble_eq_true rfl) (Nat.le_of_ble_eq_true rfl) (Nat.le_of_ble_eq_true rfl) (Nat.le_of_ble_eq_true rfl) (fun _ _ _ h => nomatch h) (fun x13 cw12 nw12 w12 hw12 pw12 => ?_)
  obtain ⟨rfl, rfl, kw12⟩ := pw12
  refine u_put hC hw12 (pc := 26) zf5 8 (hE.o5 h0) rfl ⟨_, rfl⟩ dX5_leave_26 zw650 rfl rfl rfl (kk := fun w14 hw14 fw14 kw14 => ?_)
  refine z_aload_n hC (pc := 29) 0 dX5_leave_29 rfl rfl ?_
  refine z_aload_n hC (pc := 30) 0 dX5_leave_30 rfl rfl ?_
  refine t_callVi hC hw14 (pc := 31) (As := []) (kX5_done l G T κ hst hE h0) trivial dmX5_done zf5 hqq3 dX5_leave_31 zw1960 rfl rfl (Nat.le_of_ble_eq_true rfl) (Nat.le_of_ble_eq_true rfl) (Nat.le_of_ble_eq_true rfl) (Nat.le_of_ble_eq_true rfl) (Nat.le_of_ble_eq_true rfl) (fun _ _ _ h => nomatch h) (fun x16 cw15 nw15 w15 hw15 pw15 => ?_)
  obtain ⟨rfl, rfl, kw15⟩ := pw15
  refine u_put hC hw15 (pc := 34) zf5 9 (hE.o5 h0) rfl ⟨_, rfl⟩ dX5_leave_34 zw651 rfl rfl rfl (kk := fun w17 hw17 fw17 kw17 => ?_)
  refine z_aload_n hC (pc := 37) 0 dX5_leave_37 rfl rfl ?_
  refine z_dup hC (pc := 38) dX5_leave_38 rfl ?_
  refine u_get hC hw17 (pc := 39) zf5 12 (hE.o5 h0) rfl dX5_leave_39 zw654 (kk := fun vx18 tx18 fx18 => ?_)
  obtain ⟨x18, rfl⟩ := tx18
  refine z_iconst hC (pc := 42) (v := 1) dX5_leave_42 (by decide) ?_
  refine z_isub hC (pc := 43) (v := (x18 - 1)) dX5_leave_43 rfl ?_
  refine u_put hC hw17 (pc := 44) zf5 12 (hE.o5 h0) rfl ⟨_, rfl⟩ dX5_leave_44 zw654 rfl rfl rfl (kk := fun w19 hw19 fw19 kw19 => ?_)
  exact hR _ _ _ _ _ dX5_leave_47 (Nat.le_of_ble_eq_true rfl) (Nat.le_of_ble_eq_true rfl) ⟨hw19, rfl, rfl, (tKeep.tr (tKeep.tr (tKeep.tr (tKeep.tr (tKeep.tr (tKeep.tr (tKeep.tr (tKeep.tr (tKeep.tr (tKeep.tr tKeep.rf kw4 rfl) kw6 rfl) kw8 rfl) kw9 rfl) kw11 rfl) kw12 rfl) kw14 rfl) kw15 rfl) kw17 rfl) kw19 rfl)⟩
set_option maxRecDepth 20000 in
theorem kX5_items (l : Launch) (G : zG) (T : tT) (κ : Nat → List Nat) (hst : l.stackTraces = false) (hE : tE G T κ) {a0 : Nat} (h0 : a0 ∈ κ 5) : tMv l G T yX5_items cX5_items 7 ["java/lang/IllegalStateException"] 8 124 1 6 [.ref a0] uT (uPv 0x12000000000000000000000000000000600000000000000000000000000000000000000000000000000) := by
  refine tMv.intro hst rfl (Nat.le_of_ble_eq_true rfl) ?_
  intro w0 hw0 _ X hC hR hO hX
  refine z_aload_n hC (pc := 0) 0 dX5_items_0 rfl rfl ?_
  refine z_iconst hC (pc := 1) (v := 1) dX5_items_1 (by decide) ?_
  obtain ⟨q3, hqq3⟩ := hE.o5 h0
  refine t_callVi hC hw0 (pc := 2) (As := [.int 1]) (kX5_code l G T κ hst hE h0) trivial dmX5_code zf5 hqq3 dX5_items_2 zw2078 rfl rfl (Nat.le_of_ble_eq_true rfl) (Nat.le_of_ble_eq_true rfl) (Nat.le_of_ble_eq_true rfl) (Nat.le_of_ble_eq_true rfl) (Nat.le_of_ble_eq_true rfl) (fun _ _ _ h => nomatch h) (fun x5 cw4 nw4 w4 hw4 pw4 => ?_)
  obtain ⟨rfl, rfl, kw4⟩ := pw4
  refine z_istore_n hC (pc := 5) (lv' := [(1, .int x5), (0, .ref a0)]) dX5_items_5 rfl (by decide) rfl ?_
  refine z_aload_n hC (pc := 6) 1 dX5_items_6 rfl rfl ?_
  refine u_get hC hw4 (pc := 7) zf5 5 (hE.o5 h0) rfl dX5_items_7 zw647 (kk := fun vx6 tx6 fx6 => ?_)
  obtain ⟨x6, rfl⟩ := tx6
  refine z_iload_n hC (pc := 10) 0 dX5_items_10 rfl rfl ?_
  refine z_isub hC (pc := 11) (v := (x6 - x5)) dX5_items_11 rfl ?_
  refine z_istore_n hC (pc := 12) (lv' := [(2, .int (x6 - x5)), (1, .int x5), (0, .ref a0)]) dX5_items_12 rfl (by decide) rfl ?_
  refine z_iconst hC (pc := 13) (v := 0) dX5_items_13 (by decide) ?_
  refine z_istore_n hC (pc := 14) (lv' := [(3, .int 0), (2, .int (x6 - x5)), (1, .int x5), (0, .ref a0)]) dX5_items_14 rfl (by decide) rfl ?_
  refine z_iconst hC (pc := 15) (v := 0) dX5_items_15 (by decide) ?_
  refine z_istore hC (pc := 16) (lv' := [(4, .int 0), (3, .int 0), (2, .int (x6 - x5)), (1, .int x5), (0, .ref a0)]) dX5_items_16 (by decide) rfl ?_
  have j18 : ∀ (d18 : Nat), ∀ (w7 : va_W), tW T w7 → tKeep 0x0 w4 w7 → ∀ (x8 : Int32), ∀ (x9 : Int32), ¬ x9 < 0 → (2 ^ 31 - (x9 : Int32).toInt).toNat ≤ d18 → zS X G 7 w7 [(0, .ref a0), (1, .int x5), (2, .int (x6 - x5)), (3, .int x8), (4, .int x9)] 0 0 18 [] := by
    intro d18
    induction d18 with
    | zero => intro w7 hw7 kw7 x8 x9 v10 hd18; exact (t_zero hd18).elim
    | succ d18 ih18 =>
      intro w7 hw7 kw7 x8 x9 v10 hd18
      refine z_iload hC (pc := 18) 4 dX5_items_18 rfl ?_
      refine z_iload_n hC (pc := 20) 1 dX5_items_20 rfl rfl ?_
      refine z_icmp_ge hC (pc := 21) 71 dX5_items_21 (by decide) (fun c11 => ?_) (fun c11 => ?_)
      · refine z_aload_n hC (pc := 71) 0 dX5_items_71 rfl rfl ?_
        refine u_get hC hw7 (pc := 72) zf5 2 (hE.o5 h0) rfl dX5_items_72 zw644 (kk := fun va12 ta12 fa12 => ?_)
        obtain ⟨a12, ma12, rfl⟩ := ta12
        refine z_iload_n hC (pc := 75) 3 dX5_items_75 rfl rfl ?_
        refine z_bipush hC (pc := 76) (v := 100) dX5_items_76 (by decide) ?_
        have j87 : ∀ (x13 : Int32), zS X G 7 w7 [(0, .ref a0), (1, .int x5), (2, .int (x6 - x5))] 0 0 87 [.int x13, .ref a12] := by
          intro x13
          obtain ⟨q14, hqq14⟩ := hE.o3 ma12
          refine t_callVi hC hw7 (pc := 87) (As := [.int x13]) (kX3_newRow l G T κ hst hE ma12) trivial dmX3_newRow zf3 hqq14 dX5_items_87 zw1855 rfl rfl (Nat.le_of_ble_eq_true rfl) (Nat.le_of_ble_eq_true rfl) (Nat.le_of_ble_eq_true rfl) (Nat.le_of_ble_eq_true rfl) (Nat.le_of_ble_eq_true rfl) (fun E w q hE hw => hO E w _ _ _ _ _ q hE (Nat.le_of_ble_eq_true rfl) (Nat.le_of_ble_eq_true rfl) hw) (fun x16 cw15 nw15 w15 hw15 pw15 => ?_)
          obtain ⟨rfl, rfl, kw15⟩ := pw15
          refine z_istore hC (pc := 90) (lv' := [(4, .int x16), (0, .ref a0), (1, .int x5), (2, .int (x6 - x5))]) dX5_items_90 (by decide) rfl ?_
          refine z_iconst hC (pc := 92) (v := 0) dX5_items_92 (by decide) ?_
          refine z_istore_n hC (pc := 93) (lv' := [(3, .int 0), (4, .int x16), (0, .ref a0), (1, .int x5), (2, .int (x6 - x5))]) dX5_items_93 rfl (by decide) rfl ?_
          refine z_iconst hC (pc := 94) (v := 0) dX5_items_94 (by decide) ?_
          refine z_istore hC (pc := 95) (lv' := [(5, .int 0), (3, .int 0), (4, .int x16), (0, .ref a0), (1, .int x5), (2, .int (x6 - x5))]) dX5_items_95 (by decide) rfl ?_
          have j97 : ∀ (d97 : Nat), ∀ (w17 : va_W), tW T w17 → tKeep 0x0 w15 w17 → ∀ (x18 : Int32), ∀ (x19 : Int32), ¬ x19 < 0 → (2 ^ 31 - (x19 : Int32).toInt).toNat ≤ d97 → zS X G 7 w17 [(0, .ref a0), (1, .int x5), (2, .int (x6 - x5)), (3, .int x18), (4, .int x16), (5, .int x19)] 0 0 97 [] := by
            intro d97
            induction d97 with
            | zero => intro w17 hw17 kw17 x18 x19 v20 hd97; exact (t_zero hd97).elim
            | succ d97 ih97 =>
              intro w17 hw17 kw17 x18 x19 v20 hd97
              refine z_iload hC (pc := 97) 5 dX5_items_97 rfl ?_
              refine z_iload_n hC (pc := 99) 1 dX5_items_99 rfl rfl ?_
              refine z_icmp_ge hC (pc := 100) 143 dX5_items_100 (by decide) (fun c21 => ?_) (fun c21 => ?_)
              · refine z_aload_n hC (pc := 143) 0 dX5_items_143 rfl rfl ?_
                refine z_iload_n hC (pc := 144) 2 dX5_items_144 rfl rfl ?_
                refine u_put hC hw17 (pc := 145) zf5 5 (hE.o5 h0) rfl ⟨_, rfl⟩ dX5_items_145 zw647 rfl rfl rfl (kk := fun w22 hw22 fw22 kw22 => ?_)
                refine z_aload_n hC (pc := 148) 0 dX5_items_148 rfl rfl ?_
                refine z_iload hC (pc := 149) 4 dX5_items_149 rfl ?_
                refine t_callVv hC hw22 (pc := 151) (As := [.int x16]) (kX5_push l G T κ hst hE h0) trivial dmX5_push zf5 hqq3 dX5_items_151 zw1979 rfl rfl (Nat.le_of_ble_eq_true rfl) (Nat.le_of_ble_eq_true rfl) (Nat.le_of_ble_eq_true rfl) (Nat.le_of_ble_eq_true rfl) (Nat.le_of_ble_eq_true rfl) (fun E w q hE hw => hO E w _ _ _ _ _ q hE (Nat.le_of_ble_eq_true rfl) (Nat.le_of_ble_eq_true rfl) hw) (fun cw23 nw23 w23 hw23 pw23 => ?_)
                obtain ⟨rfl, rfl, kw23⟩ := pw23
                refine z_aload_n hC (pc := 154) 0 dX5_items_154 rfl rfl ?_
                refine z_dup hC (pc := 155) dX5_items_155 rfl ?_
                refine u_get hC hw23 (pc := 156) zf5 8 (hE.o5 h0) rfl dX5_items_156 zw650 (kk := fun vx25 tx25 fx25 => ?_)
                obtain ⟨x25, rfl⟩ := tx25
                refine z_iconst hC (pc := 159) (v := 2) dX5_items_159 (by decide) ?_
                refine z_iadd hC (pc := 160) (v := (x25 + 2)) dX5_items_160 rfl ?_
                refine u_put hC hw23 (pc := 161) zf5 8 (hE.o5 h0) rfl ⟨_, rfl⟩ dX5_items_161 zw650 rfl rfl rfl (kk := fun w26 hw26 fw26 kw26 => ?_)
                exact hR _ _ _ _ _ dX5_items_164 (Nat.le_of_ble_eq_true rfl) (Nat.le_of_ble_eq_true rfl) ⟨hw26, rfl, rfl, (tKeep.tr (tKeep.tr (tKeep.tr (tKeep.tr (tKeep.tr (tKeep.tr (tKeep.tr tKeep.rf kw4 rfl) kw7 rfl) kw15 rfl) kw17 rfl) kw22 rfl) kw23 rfl) kw26 rfl)⟩
              · refine z_aload_n hC (pc := 103) 0 dX5_items_103 rfl rfl ?_
                refine u_get hC hw17 (pc := 104) zf5 4 (hE.o5 h0) rfl dX5_items_104 zw646 (kk := fun va27 ta27 fa27 => ?_)
                obtain ⟨a27, ma27, rfl⟩ := ta27
                refine z_iload_n hC (pc := 107) 2 dX5_items_107 rfl rfl ?_
                refine z_iload hC (pc := 108) 5 dX5_items_108 rfl ?_
                refine z_iadd hC (pc := 110) (v := ((x6 - x5) + x19)) dX5_items_110 rfl ?_
                refine t_callSNi hC hw17 (pc := 111) (As := [.ref a27, .int ((x6 - x5) + x19)]) (kX12_get l G T κ hst hE ma27) trivial dmX12_get dX5_items_111 zw1835 rfl rfl (Nat.le_of_ble_eq_true rfl) (Nat.le_of_ble_eq_true rfl) (Nat.le_of_ble_eq_true rfl) (Nat.le_of_ble_eq_true rfl) (Nat.le_of_ble_eq_true rfl) (fun _ _ _ h => nomatch h) (fun x29 cw28 nw28 w28 hw28 pw28 => ?_)
                obtain ⟨rfl, rfl, kw28⟩ := pw28
                refine z_istore hC (pc := 114) (lv' := [(6, .int x29), (0, .ref a0), (1, .int x5), (2, .int (x6 - x5)), (3, .int x18), (4, .int x16), (5, .int x19)]) dX5_items_114 (by decide) rfl ?_
                refine z_aload_n hC (pc := 116) 1 dX5_items_116 rfl rfl ?_
                refine z_iload hC (pc := 117) 5 dX5_items_117 rfl ?_
                refine z_iload_n hC (pc := 119) 4 dX5_items_119 rfl rfl ?_
                refine z_iload hC (pc := 120) 0 dX5_items_120 rfl ?_
                refine z_aload_n hC (pc := 122) 1 dX5_items_122 rfl rfl ?_
                refine u_getK hC (pc := 123) zf5 2 (tKeep.F kw28 (tKeep.F kw17 (tKeep.F kw15 fa12 rfl) rfl) rfl) dX5_items_123 zw644 (kk := ?_)
                refine z_iload hC (pc := 126) 0 dX5_items_126 rfl ?_
                refine t_callVi hC hw28 (pc := 128) (As := [.int x29]) (kX3_isMany l G T κ hst hE ma12) trivial dmX3_isMany zf3 hqq14 dX5_items_128 zw1925 rfl rfl (Nat.le_of_ble_eq_true rfl) (Nat.le_of_ble_eq_true rfl) (Nat.le_of_ble_eq_true rfl) (Nat.le_of_ble_eq_true rfl) (Nat.le_of_ble_eq_true rfl) (fun _ _ _ h => nomatch h) (fun x31 cw30 nw30 w30 hw30 pw30 => ?_)
                obtain ⟨rfl, rfl, kw30, zx31⟩ := pw30
                refine z_bipush hC (pc := 131) (v := 100) dX5_items_131 (by decide) ?_
                refine t_callVi hC hw30 (pc := 133) (As := [.int x16, .int x18, .int x29, .int x31, .int 100]) (kX5_spread l G T κ hst hE h0) trivial dmX5_spread zf5 hqq3 dX5_items_133 zw1867 rfl rfl (Nat.le_of_ble_eq_true rfl) (Nat.le_of_ble_eq_true rfl) (Nat.le_of_ble_eq_true rfl) (Nat.le_of_ble_eq_true rfl) (Nat.le_of_ble_eq_true rfl) (fun _ _ _ h => nomatch h) (fun x33 cw32 nw32 w32 hw32 pw32 => ?_)
                obtain ⟨rfl, rfl, kw32⟩ := pw32
                refine z_istore_n hC (pc := 136) (lv' := [(3, .int x33), (6, .int x29), (0, .ref a0), (1, .int x5), (2, .int (x6 - x5)), (4, .int x16), (5, .int x19)]) dX5_items_136 rfl (by decide) rfl ?_
                refine z_iinc hC (pc := 137) (v := (x19 + 1)) (lv' := [(5, .int (x19 + 1)), (3, .int x33), (6, .int x29), (0, .ref a0), (1, .int x5), (2, .int (x6 - x5)), (4, .int x16)]) 6 dX5_items_137 rfl (congrArg _ (by decide)) (by decide) rfl ?_
                refine z_goto hC (pc := 140) 97 dX5_items_140 (by decide) ?_
                refine z_lvs [3, 4, 5, 1, 6, 0] rfl ?_
                exact ih97 w32 hw32 (tKeep.tr (tKeep.tr (tKeep.tr (tKeep.tr tKeep.rf kw17 rfl) kw28 rfl) kw30 rfl) kw32 rfl) x33 (x19 + 1) (t_nnI v20 (Int32.not_le.mp c21)) (t_up (Int32.not_le.mp c21) hd97)
          refine z_lvs [3, 4, 5, 1, 2, 0] rfl ?_
          exact j97 _ w15 hw15 tKeep.rf 0 0 (by decide) (Nat.le_refl _)
        refine z_icmp_ge hC (pc := 78) 85 dX5_items_78 (by decide) (fun c34 => ?_) (fun c34 => ?_)
        · refine z_bipush hC (pc := 85) (v := 100) dX5_items_85 (by decide) ?_
          refine z_lvs [0, 1, 2] rfl ?_
          exact j87 100
        · refine z_iload_n hC (pc := 81) 3 dX5_items_81 rfl rfl ?_
          refine z_goto hC (pc := 82) 87 dX5_items_82 (by decide) ?_
          refine z_lvs [0, 1, 2] rfl ?_
          exact j87 x8
      · refine z_aload_n hC (pc := 24) 0 dX5_items_24 rfl rfl ?_
        refine u_get hC hw7 (pc := 25) zf5 4 (hE.o5 h0) rfl dX5_items_25 zw646 (kk := fun va35 ta35 fa35 => ?_)
        obtain ⟨a35, ma35, rfl⟩ := ta35
        refine z_iload_n hC (pc := 28) 2 dX5_items_28 rfl rfl ?_
        refine z_iload hC (pc := 29) 4 dX5_items_29 rfl ?_
        refine z_iadd hC (pc := 31) (v := ((x6 - x5) + x9)) dX5_items_31 rfl ?_
        refine t_callSNi hC hw7 (pc := 32) (As := [.ref a35, .int ((x6 - x5) + x9)]) (kX12_get l G T κ hst hE ma35) trivial dmX12_get dX5_items_32 zw1835 rfl rfl (Nat.le_of_ble_eq_true rfl) (Nat.le_of_ble_eq_true rfl) (Nat.le_of_ble_eq_true rfl) (Nat.le_of_ble_eq_true rfl) (Nat.le_of_ble_eq_true rfl) (fun _ _ _ h => nomatch h) (fun x37 cw36 nw36 w36 hw36 pw36 => ?_)
        obtain ⟨rfl, rfl, kw36⟩ := pw36
        refine z_istore hC (pc := 35) (lv' := [(5, .int x37), (0, .ref a0), (1, .int x5), (2, .int (x6 - x5)), (3, .int x8), (4, .int x9)]) dX5_items_35 (by decide) rfl ?_
        refine z_iload_n hC (pc := 37) 4 dX5_items_37 rfl rfl ?_
        refine z_aload_n hC (pc := 38) 1 dX5_items_38 rfl rfl ?_
        refine u_get hC hw36 (pc := 39) zf5 2 (hE.o5 h0) rfl dX5_items_39 zw644 (kk := fun va38 ta38 fa38 => ?_)
        obtain ⟨a38, ma38, rfl⟩ := ta38
        refine z_iload hC (pc := 42) 0 dX5_items_42 rfl ?_
        obtain ⟨q39, hqq39⟩ := hE.o3 ma38
        refine t_callVi hC hw36 (pc := 44) (As := [.int x37]) (kX3_isMany l G T κ hst hE ma38) trivial dmX3_isMany zf3 hqq39 dX5_items_44 zw1925 rfl rfl (Nat.le_of_ble_eq_true rfl) (Nat.le_of_ble_eq_true rfl) (Nat.le_of_ble_eq_true rfl) (Nat.le_of_ble_eq_true rfl) (Nat.le_of_ble_eq_true rfl) (fun _ _ _ h => nomatch h) (fun x41 cw40 nw40 w40 hw40 pw40 => ?_)
        obtain ⟨rfl, rfl, kw40, zx41⟩ := pw40
        have j63 : ∀ (w42 : va_W), tW T w42 → tKeep 0x0 w40 w42 → ∀ (x43 : Int32), zS X G 7 w42 [(0, .ref a0), (1, .int x5), (2, .int (x6 - x5)), (4, .int x9)] 0 0 63 [.int x43, .int x8] := by
          intro w42 hw42 kw42 x43
          refine z_iadd hC (pc := 63) (v := (x8 + x43)) dX5_items_63 rfl ?_
          refine z_istore_n hC (pc := 64) (lv' := [(3, .int (x8 + x43)), (0, .ref a0), (1, .int x5), (2, .int (x6 - x5)), (4, .int x9)]) dX5_items_64 rfl (by decide) rfl ?_
          refine z_iinc hC (pc := 65) (v := (x9 + 1)) (lv' := [(4, .int (x9 + 1)), (3, .int (x8 + x43)), (0, .ref a0), (1, .int x5), (2, .int (x6 - x5))]) 4 dX5_items_65 rfl (congrArg _ (by decide)) (by decide) rfl ?_
          refine z_goto hC (pc := 68) 18 dX5_items_68 (by decide) ?_
          refine z_lvs [2, 3, 4, 1, 0] rfl ?_
          exact ih18 w42 hw42 (tKeep.tr (tKeep.tr (tKeep.tr (tKeep.tr tKeep.rf kw7 rfl) kw36 rfl) kw40 rfl) kw42 rfl) (x8 + x43) (x9 + 1) (t_nnI v10 (Int32.not_le.mp c11)) (t_up (Int32.not_le.mp c11) hd18)
        refine z_if_eq hC (pc := 47) 62 dX5_items_47 (by decide) (fun c44 => ?_) (fun c44 => ?_)
        · refine z_iconst hC (pc := 62) (v := 1) dX5_items_62 (by decide) ?_
          refine z_lvs [1, 2, 3, 5] rfl ?_
          exact j63 w40 hw40 tKeep.rf 1
        · refine z_aload_n hC (pc := 50) 1 dX5_items_50 rfl rfl ?_
          refine u_getK hC (pc := 51) zf5 2 (tKeep.F kw40 fa38 rfl) dX5_items_51 zw644 (kk := ?_)
          refine z_iload hC (pc := 54) 0 dX5_items_54 rfl ?_
          refine t_callVi hC hw40 (pc := 56) (As := [.int x37]) (kX3_countOf l G T κ hst hE ma38) trivial dmX3_countOf zf3 hqq39 dX5_items_56 zw1840 rfl rfl (Nat.le_of_ble_eq_true rfl) (Nat.le_of_ble_eq_true rfl) (Nat.le_of_ble_eq_true rfl) (Nat.le_of_ble_eq_true rfl) (Nat.le_of_ble_eq_true rfl) (fun _ _ _ h => nomatch h) (fun x46 cw45 nw45 w45 hw45 pw45 => ?_)
          obtain ⟨rfl, rfl, kw45⟩ := pw45
          refine z_goto hC (pc := 59) 63 dX5_items_59 (by decide) ?_
          refine z_lvs [1, 2, 3, 5] rfl ?_
          exact j63 w45 hw45 (tKeep.tr tKeep.rf kw45 rfl) x46
  refine z_lvs [4, 3, 2, 1, 0] rfl ?_
  exact j18 _ w4 hw4 tKeep.rf 0 0 (by decide) (Nat.le_refl _)
set_option maxRecDepth 20000 in
theorem kX5_calledBy (l : Launch) (G : zG) (T : tT) (κ : Nat → List Nat) (hst : l.stackTraces = false) (hE : tE G T κ) {a0 : Nat} (h0 : a0 ∈ κ 5) {x1 : Int32} : tMv l G T yX5_calledBy cX5_calledBy 2 ["java/lang/IllegalStateException"] 7 102 1 6 [.ref a0, .int x1] uT (uPv 0x12000000000000000000000000000000000000000000000000000000000000000000000000000000000) := by
  refine tMv.intro hst rfl (Nat.le_of_ble_eq_true rfl) ?_
  intro w0 hw0 _ X hC hR hO hX
  refine z_aload_n hC (pc := 0) 0 dX5_calledBy_0 rfl rfl ?_
  obtain ⟨q4, hqq4⟩ := hE.o5 h0
  refine t_callVi hC hw0 (pc := 1) (As := []) (kX5_pop l G T κ hst hE h0) trivial dmX5_pop zf5 hqq4 dX5_calledBy_1 zw2099 rfl rfl (Nat.le_of_ble_eq_true rfl) (Nat.le_of_ble_eq_true rfl) (Nat.le_of_ble_eq_true rfl) (Nat.le_of_ble_eq_true rfl) (Nat.le_of_ble_eq_true rfl) (fun _ _ _ h => nomatch h) (fun x6 cw5 nw5 w5 hw5 pw5 => ?_)
  obtain ⟨rfl, rfl, kw5⟩ := pw5
  refine z_pop hC (pc := 4) dX5_calledBy_4 rfl ?_
  refine z_aload_n hC (pc := 5) 0 dX5_calledBy_5 rfl rfl ?_
  refine z_ldc hC (pc := 6) (v := 939524096) dX5_calledBy_6 zw1906 ?_
  refine z_iload_n hC (pc := 8) 1 dX5_calledBy_8 rfl rfl ?_
  refine z_ior hC (pc := 9) (v := ((939524096 : Int32) ||| x1)) dX5_calledBy_9 rfl ?_
  refine t_callVv hC hw5 (pc := 10) (As := [.int ((939524096 : Int32) ||| x1)]) (kX5_push l G T κ hst hE h0) trivial dmX5_push zf5 hqq4 dX5_calledBy_10 zw1979 rfl rfl (Nat.le_of_ble_eq_true rfl) (Nat.le_of_ble_eq_true rfl) (Nat.le_of_ble_eq_true rfl) (Nat.le_of_ble_eq_true rfl) (Nat.le_of_ble_eq_true rfl) (fun E w q hE hw => hO E w _ _ _ _ _ q hE (Nat.le_of_ble_eq_true rfl) (Nat.le_of_ble_eq_true rfl) hw) (fun cw7 nw7 w7 hw7 pw7 => ?_)
  obtain ⟨rfl, rfl, kw7⟩ := pw7
  refine z_aload_n hC (pc := 13) 0 dX5_calledBy_13 rfl rfl ?_
  refine z_dup hC (pc := 14) dX5_calledBy_14 rfl ?_
  refine u_get hC hw7 (pc := 15) zf5 8 (hE.o5 h0) rfl dX5_calledBy_15 zw650 (kk := fun vx9 tx9 fx9 => ?_)
  obtain ⟨x9, rfl⟩ := tx9
  refine z_iconst hC (pc := 18) (v := 5) dX5_calledBy_18 (by decide) ?_
  refine z_iadd hC (pc := 19) (v := (x9 + 5)) dX5_calledBy_19 rfl ?_
  refine u_put hC hw7 (pc := 20) zf5 8 (hE.o5 h0) rfl ⟨_, rfl⟩ dX5_calledBy_20 zw650 rfl rfl rfl (kk := fun w10 hw10 fw10 kw10 => ?_)
  exact hR _ _ _ _ _ dX5_calledBy_23 (Nat.le_of_ble_eq_true rfl) (Nat.le_of_ble_eq_true rfl) ⟨hw10, rfl, rfl, (tKeep.tr (tKeep.tr (tKeep.tr tKeep.rf kw5 rfl) kw7 rfl) kw10 rfl)⟩
set_option maxRecDepth 20000 in
theorem kX5_slice (l : Launch) (G : zG) (T : tT) (κ : Nat → List Nat) (hst : l.stackTraces = false) (hE : tE G T κ) {a0 : Nat} (h0 : a0 ∈ κ 5) {x1 : Int32} {x2 : Int32} {x3 : Int32} : tMi l G T yX5_slice cX5_slice 6 .int ["java/lang/IllegalStateException"] 8 124 1 6 [.ref a0, .int x1, .int x2, .int x3] uT (uPi 0x600000000000000000000000000000000000000000000000000) := by
  refine tMi.intro hst rfl (Nat.le_of_ble_eq_true rfl) ?_
  intro w0 hw0 _ X hC hR hO hX
  refine z_aload_n hC (pc := 0) 0 dX5_slice_0 rfl rfl ?_
  refine u_get hC hw0 (pc := 1) zf5 2 (hE.o5 h0) rfl dX5_slice_1 zw644 (kk := fun va6 ta6 fa6 => ?_)
  obtain ⟨a6, ma6, rfl⟩ := ta6
  refine z_iload_n hC (pc := 4) 3 dX5_slice_4 rfl rfl ?_
  obtain ⟨q7, hqq7⟩ := hE.o3 ma6
  refine t_callVi hC hw0 (pc := 5) (As := [.int x3]) (kX3_newRow l G T κ hst hE ma6) trivial dmX3_newRow zf3 hqq7 dX5_slice_5 zw1855 rfl rfl (Nat.le_of_ble_eq_true rfl) (Nat.le_of_ble_eq_true rfl) (Nat.le_of_ble_eq_true rfl) (Nat.le_of_ble_eq_true rfl) (Nat.le_of_ble_eq_true rfl) (fun E w q hE hw => hO E w _ _ _ _ _ q hE (Nat.le_of_ble_eq_true rfl) (Nat.le_of_ble_eq_true rfl) hw) (fun x9 cw8 nw8 w8 hw8 pw8 => ?_)
  obtain ⟨rfl, rfl, kw8⟩ := pw8
  refine z_istore hC (pc := 8) (lv' := [(4, .int x9), (0, .ref a0), (1, .int x1), (2, .int x2), (3, .int x3)]) dX5_slice_8 (by decide) rfl ?_
  refine z_iconst hC (pc := 10) (v := 0) dX5_slice_10 (by decide) ?_
  refine z_istore hC (pc := 11) (lv' := [(5, .int 0), (4, .int x9), (0, .ref a0), (1, .int x1), (2, .int x2), (3, .int x3)]) dX5_slice_11 (by decide) rfl ?_
  have j13 : ∀ (d13 : Nat), ∀ (w10 : va_W), tW T w10 → tKeep 0x0 w8 w10 → ∀ (x11 : Int32), ¬ x11 < 0 → (2 ^ 31 - (x11 : Int32).toInt).toNat ≤ d13 → zS X G 6 w10 [(0, .ref a0), (1, .int x1), (2, .int x2), (3, .int x3), (4, .int x9), (5, .int x11)] 0 0 13 [] := by
    intro d13
    induction d13 with
    | zero => intro w10 hw10 kw10 x11 v12 hd13; exact (t_zero hd13).elim
    | succ d13 ih13 =>
      intro w10 hw10 kw10 x11 v12 hd13
      refine z_iload hC (pc := 13) 5 dX5_slice_13 rfl ?_
      refine z_iload_n hC (pc := 15) 3 dX5_slice_15 rfl rfl ?_
      refine z_icmp_ge hC (pc := 16) 48 dX5_slice_16 (by decide) (fun c13 => ?_) (fun c13 => ?_)
      · refine z_iload hC (pc := 48) 4 dX5_slice_48 rfl ?_
        exact hR _ _ _ _ _ _ dX5_slice_50 rfl (Nat.le_of_ble_eq_true rfl) (Nat.le_of_ble_eq_true rfl) ⟨hw10, rfl, rfl, (tKeep.tr (tKeep.tr tKeep.rf kw8 rfl) kw10 rfl)⟩
      · refine z_aload_n hC (pc := 19) 0 dX5_slice_19 rfl rfl ?_
        refine u_getK hC (pc := 20) zf5 2 (tKeep.F kw10 (tKeep.F kw8 fa6 rfl) rfl) dX5_slice_20 zw644 (kk := ?_)
        refine z_iload hC (pc := 23) 4 dX5_slice_23 rfl ?_
        refine z_iload hC (pc := 25) 5 dX5_slice_25 rfl ?_
        refine z_aload_n hC (pc := 27) 0 dX5_slice_27 rfl rfl ?_
        refine u_getK hC (pc := 28) zf5 2 (tKeep.F kw10 (tKeep.F kw8 fa6 rfl) rfl) dX5_slice_28 zw644 (kk := ?_)
        refine z_iload_n hC (pc := 31) 1 dX5_slice_31 rfl rfl ?_
        refine z_iload_n hC (pc := 32) 2 dX5_slice_32 rfl rfl ?_
        refine z_iload hC (pc := 33) 5 dX5_slice_33 rfl ?_
        refine z_iadd hC (pc := 35) (v := (x2 + x11)) dX5_slice_35 rfl ?_
        refine t_callVi hC hw10 (pc := 36) (As := [.int x1, .int (x2 + x11)]) (kX3_valueOf l G T κ hst hE ma6) trivial dmX3_valueOf zf3 hqq7 dX5_slice_36 zw1871 rfl rfl (Nat.le_of_ble_eq_true rfl) (Nat.le_of_ble_eq_true rfl) (Nat.le_of_ble_eq_true rfl) (Nat.le_of_ble_eq_true rfl) (Nat.le_of_ble_eq_true rfl) (fun _ _ _ h => nomatch h) (fun x15 cw14 nw14 w14 hw14 pw14 => ?_)
        obtain ⟨rfl, rfl, kw14⟩ := pw14
        refine t_callVv hC hw14 (pc := 39) (As := [.int x9, .int x11, .int x15]) (kX3_put l G T κ hst hE ma6) trivial dmX3_put zf3 hqq7 dX5_slice_39 zw1875 rfl rfl (Nat.le_of_ble_eq_true rfl) (Nat.le_of_ble_eq_true rfl) (Nat.le_of_ble_eq_true rfl) (Nat.le_of_ble_eq_true rfl) (Nat.le_of_ble_eq_true rfl) (fun _ _ _ h => nomatch h) (fun cw16 nw16 w16 hw16 pw16 => ?_)
        obtain ⟨rfl, rfl, kw16⟩ := pw16
        refine z_iinc hC (pc := 42) (v := (x11 + 1)) (lv' := [(5, .int (x11 + 1)), (0, .ref a0), (1, .int x1), (2, .int x2), (3, .int x3), (4, .int x9)]) 5 dX5_slice_42 rfl (congrArg _ (by decide)) (by decide) rfl ?_
        refine z_goto hC (pc := 45) 13 dX5_slice_45 (by decide) ?_
        refine z_lvs [1, 2, 3, 4, 5, 0] rfl ?_
        exact ih13 w16 hw16 (tKeep.tr (tKeep.tr (tKeep.tr tKeep.rf kw10 rfl) kw14 rfl) kw16 rfl) (x11 + 1) (t_nnI v12 (Int32.not_le.mp c13)) (t_up (Int32.not_le.mp c13) hd13)
  refine z_lvs [2, 3, 4, 5, 1, 0] rfl ?_
  exact j13 _ w8 hw8 tKeep.rf 0 (by decide) (Nat.le_refl _)
set_option maxRecDepth 20000 in
theorem kX5_stripped (l : Launch) (G : zG) (T : tT) (κ : Nat → List Nat) (hst : l.stackTraces = false) (hE : tE G T κ) {a0 : Nat} (h0 : a0 ∈ κ 5) {x1 : Int32} {x2 : Int32} : tMi l G T yX5_stripped cX5_stripped 7 .int ["java/lang/IllegalStateException"] 8 124 1 6 [.ref a0, .int x1, .int x2] uT (uPi 0x600000000000000000000000000000000000000000000000000) := by
  refine tMi.intro hst rfl (Nat.le_of_ble_eq_true rfl) ?_
  intro w0 hw0 _ X hC hR hO hX
  refine z_iconst hC (pc := 0) (v := 0) dX5_stripped_0 (by decide) ?_
  refine z_istore_n hC (pc := 1) (lv' := [(3, .int 0), (0, .ref a0), (1, .int x1), (2, .int x2)]) dX5_stripped_1 rfl (by decide) rfl ?_
  refine z_iconst hC (pc := 2) (v := 0) dX5_stripped_2 (by decide) ?_
  refine z_istore hC (pc := 3) (lv' := [(4, .int 0), (3, .int 0), (0, .ref a0), (1, .int x1), (2, .int x2)]) dX5_stripped_3 (by decide) rfl ?_
  have j5 : ∀ (d5 : Nat), ∀ (w5 : va_W), tW T w5 → tKeep 0x0 w0 w5 → ∀ (x6 : Int32), ∀ (x7 : Int32), ¬ x7 < 0 → (2 ^ 31 - (x7 : Int32).toInt).toNat ≤ d5 → zS X G 7 w5 [(0, .ref a0), (1, .int x1), (2, .int x2), (3, .int x6), (4, .int x7)] 0 0 5 [] := by
    intro d5
    induction d5 with
    | zero => intro w5 hw5 kw5 x6 x7 v8 hd5; exact (t_zero hd5).elim
    | succ d5 ih5 =>
      intro w5 hw5 kw5 x6 x7 v8 hd5
      refine z_iload hC (pc := 5) 4 dX5_stripped_5 rfl ?_
      refine z_iload_n hC (pc := 7) 2 dX5_stripped_7 rfl rfl ?_
      refine z_icmp_ge hC (pc := 8) 39 dX5_stripped_8 (by decide) (fun c9 => ?_) (fun c9 => ?_)
      · refine z_aload_n hC (pc := 39) 0 dX5_stripped_39 rfl rfl ?_
        refine u_get hC hw5 (pc := 40) zf5 2 (hE.o5 h0) rfl dX5_stripped_40 zw644 (kk := fun va10 ta10 fa10 => ?_)
        obtain ⟨a10, ma10, rfl⟩ := ta10
        refine z_iload_n hC (pc := 43) 3 dX5_stripped_43 rfl rfl ?_
        obtain ⟨q11, hqq11⟩ := hE.o3 ma10
        refine t_callVi hC hw5 (pc := 44) (As := [.int x6]) (kX3_newRow l G T κ hst hE ma10) trivial dmX3_newRow zf3 hqq11 dX5_stripped_44 zw1855 rfl rfl (Nat.le_of_ble_eq_true rfl) (Nat.le_of_ble_eq_true rfl) (Nat.le_of_ble_eq_true rfl) (Nat.le_of_ble_eq_true rfl) (Nat.le_of_ble_eq_true rfl) (fun E w q hE hw => hO E w _ _ _ _ _ q hE (Nat.le_of_ble_eq_true rfl) (Nat.le_of_ble_eq_true rfl) hw) (fun x13 cw12 nw12 w12 hw12 pw12 => ?_)
        obtain ⟨rfl, rfl, kw12⟩ := pw12
        refine z_istore hC (pc := 47) (lv' := [(4, .int x13), (0, .ref a0), (1, .int x1), (2, .int x2), (3, .int x6)]) dX5_stripped_47 (by decide) rfl ?_
        refine z_iconst hC (pc := 49) (v := 0) dX5_stripped_49 (by decide) ?_
        refine z_istore_n hC (pc := 50) (lv' := [(3, .int 0), (4, .int x13), (0, .ref a0), (1, .int x1), (2, .int x2)]) dX5_stripped_50 rfl (by decide) rfl ?_
        refine z_iconst hC (pc := 51) (v := 0) dX5_stripped_51 (by decide) ?_
        refine z_istore hC (pc := 52) (lv' := [(5, .int 0), (3, .int 0), (4, .int x13), (0, .ref a0), (1, .int x1), (2, .int x2)]) dX5_stripped_52 (by decide) rfl ?_
        have j54 : ∀ (d54 : Nat), ∀ (w14 : va_W), tW T w14 → tKeep 0x0 w12 w14 → ∀ (x15 : Int32), ∀ (x16 : Int32), (2 ^ 31 - (x16 : Int32).toInt).toNat ≤ d54 → zS X G 7 w14 [(0, .ref a0), (1, .int x1), (2, .int x2), (3, .int x15), (4, .int x13), (5, .int x16)] 0 0 54 [] := by
          intro d54
          induction d54 with
          | zero => intro w14 hw14 kw14 x15 x16 hd54; exact (t_zero hd54).elim
          | succ d54 ih54 =>
            intro w14 hw14 kw14 x15 x16 hd54
            refine z_iload hC (pc := 54) 5 dX5_stripped_54 rfl ?_
            refine z_iload_n hC (pc := 56) 2 dX5_stripped_56 rfl rfl ?_
            refine z_icmp_ge hC (pc := 57) 99 dX5_stripped_57 (by decide) (fun c17 => ?_) (fun c17 => ?_)
            · refine z_iload hC (pc := 99) 4 dX5_stripped_99 rfl ?_
              exact hR _ _ _ _ _ _ dX5_stripped_101 rfl (Nat.le_of_ble_eq_true rfl) (Nat.le_of_ble_eq_true rfl) ⟨hw14, rfl, rfl, (tKeep.tr (tKeep.tr (tKeep.tr tKeep.rf kw5 rfl) kw12 rfl) kw14 rfl)⟩
            · refine z_aload_n hC (pc := 60) 0 dX5_stripped_60 rfl rfl ?_
              refine u_getK hC (pc := 61) zf5 2 (tKeep.F kw14 (tKeep.F kw12 fa10 rfl) rfl) dX5_stripped_61 zw644 (kk := ?_)
              refine z_iload_n hC (pc := 64) 1 dX5_stripped_64 rfl rfl ?_
              refine z_iload hC (pc := 65) 5 dX5_stripped_65 rfl ?_
              refine t_callVi hC hw14 (pc := 67) (As := [.int x1, .int x16]) (kX3_valueOf l G T κ hst hE ma10) trivial dmX3_valueOf zf3 hqq11 dX5_stripped_67 zw1871 rfl rfl (Nat.le_of_ble_eq_true rfl) (Nat.le_of_ble_eq_true rfl) (Nat.le_of_ble_eq_true rfl) (Nat.le_of_ble_eq_true rfl) (Nat.le_of_ble_eq_true rfl) (fun _ _ _ h => nomatch h) (fun x19 cw18 nw18 w18 hw18 pw18 => ?_)
              obtain ⟨rfl, rfl, kw18⟩ := pw18
              refine z_istore hC (pc := 70) (lv' := [(6, .int x19), (0, .ref a0), (1, .int x1), (2, .int x2), (3, .int x15), (4, .int x13), (5, .int x16)]) dX5_stripped_70 (by decide) rfl ?_
              refine z_iload hC (pc := 72) 0 dX5_stripped_72 rfl ?_
              refine z_iconst hC (pc := 74) (v := (-1)) dX5_stripped_74 (by decide) ?_
              have j93 : ∀ (w20 : va_W), tW T w20 → tKeep 0x0 w18 w20 → ∀ (x21 : Int32), zS X G 7 w20 [(0, .ref a0), (1, .int x1), (2, .int x2), (3, .int x21), (4, .int x13), (5, .int x16)] 0 0 93 [] := by
                intro w20 hw20 kw20 x21
                refine z_iinc hC (pc := 93) (v := (x16 + 1)) (lv' := [(5, .int (x16 + 1)), (0, .ref a0), (1, .int x1), (2, .int x2), (3, .int x21), (4, .int x13)]) 5 dX5_stripped_93 rfl (congrArg _ (by decide)) (by decide) rfl ?_
                refine z_goto hC (pc := 96) 54 dX5_stripped_96 (by decide) ?_
                refine z_lvs [1, 2, 3, 4, 5, 0] rfl ?_
                exact ih54 w20 hw20 (tKeep.tr (tKeep.tr (tKeep.tr tKeep.rf kw14 rfl) kw18 rfl) kw20 rfl) x21 (x16 + 1) (t_up (Int32.not_le.mp c17) hd54)
              refine z_icmp_eq hC (pc := 75) 93 dX5_stripped_75 (by decide) (fun c22 => ?_) (fun c22 => ?_)
              · refine z_lvs [1, 2, 3, 4, 5, 6] rfl ?_
                exact j93 w18 hw18 tKeep.rf x15
              · refine z_aload_n hC (pc := 78) 1 dX5_stripped_78 rfl rfl ?_
                refine u_getK hC (pc := 79) zf5 2 (tKeep.F kw18 (tKeep.F kw14 (tKeep.F kw12 fa10 rfl) rfl) rfl) dX5_stripped_79 zw644 (kk := ?_)
                refine z_iload hC (pc := 82) 5 dX5_stripped_82 rfl ?_
                refine z_iload_n hC (pc := 84) 4 dX5_stripped_84 rfl rfl ?_
                refine z_iload hC (pc := 85) 0 dX5_stripped_85 rfl ?_
                refine t_callVv hC hw18 (pc := 87) (As := [.int x13, .int x15, .int x19]) (kX3_put l G T κ hst hE ma10) trivial dmX3_put zf3 hqq11 dX5_stripped_87 zw1875 rfl rfl (Nat.le_of_ble_eq_true rfl) (Nat.le_of_ble_eq_true rfl) (Nat.le_of_ble_eq_true rfl) (Nat.le_of_ble_eq_true rfl) (Nat.le_of_ble_eq_true rfl) (fun _ _ _ h => nomatch h) (fun cw23 nw23 w23 hw23 pw23 => ?_)
                obtain ⟨rfl, rfl, kw23⟩ := pw23
                refine z_iinc hC (pc := 90) (v := (x15 + 1)) (lv' := [(3, .int (x15 + 1)), (6, .int x19), (0, .ref a0), (1, .int x1), (2, .int x2), (4, .int x13), (5, .int x16)]) 4 dX5_stripped_90 rfl (congrArg _ (by decide)) (by decide) rfl ?_
                refine z_lvs [2, 3, 4, 0, 5, 6] rfl ?_
                exact j93 w23 hw23 (tKeep.tr tKeep.rf kw23 rfl) (x15 + 1)
        refine z_lvs [3, 4, 5, 1, 2, 0] rfl ?_
        exact j54 _ w12 hw12 tKeep.rf 0 0 (Nat.le_refl _)
      · refine z_iload_n hC (pc := 11) 3 dX5_stripped_11 rfl rfl ?_
        refine z_aload_n hC (pc := 12) 0 dX5_stripped_12 rfl rfl ?_
        refine u_get hC hw5 (pc := 13) zf5 2 (hE.o5 h0) rfl dX5_stripped_13 zw644 (kk := fun va25 ta25 fa25 => ?_)
        obtain ⟨a25, ma25, rfl⟩ := ta25
        refine z_iload_n hC (pc := 16) 1 dX5_stripped_16 rfl rfl ?_
        refine z_iload hC (pc := 17) 4 dX5_stripped_17 rfl ?_
        obtain ⟨q26, hqq26⟩ := hE.o3 ma25
        refine t_callVi hC hw5 (pc := 19) (As := [.int x1, .int x7]) (kX3_valueOf l G T κ hst hE ma25) trivial dmX3_valueOf zf3 hqq26 dX5_stripped_19 zw1871 rfl rfl (Nat.le_of_ble_eq_true rfl) (Nat.le_of_ble_eq_true rfl) (Nat.le_of_ble_eq_true rfl) (Nat.le_of_ble_eq_true rfl) (Nat.le_of_ble_eq_true rfl) (fun _ _ _ h => nomatch h) (fun x28 cw27 nw27 w27 hw27 pw27 => ?_)
        obtain ⟨rfl, rfl, kw27⟩ := pw27
        refine z_iconst hC (pc := 22) (v := (-1)) dX5_stripped_22 (by decide) ?_
        have j31 : ∀ (x29 : Int32), tZ (.int x29) → zS X G 7 w27 [(0, .ref a0), (1, .int x1), (2, .int x2), (4, .int x7)] 0 0 31 [.int x29, .int x6] := by
          intro x29 zx29
          refine z_iadd hC (pc := 31) (v := (x6 + x29)) dX5_stripped_31 rfl ?_
          refine z_istore_n hC (pc := 32) (lv' := [(3, .int (x6 + x29)), (0, .ref a0), (1, .int x1), (2, .int x2), (4, .int x7)]) dX5_stripped_32 rfl (by decide) rfl ?_
          refine z_iinc hC (pc := 33) (v := (x7 + 1)) (lv' := [(4, .int (x7 + 1)), (3, .int (x6 + x29)), (0, .ref a0), (1, .int x1), (2, .int x2)]) 4 dX5_stripped_33 rfl (congrArg _ (by decide)) (by decide) rfl ?_
          refine z_goto hC (pc := 36) 5 dX5_stripped_36 (by decide) ?_
          refine z_lvs [2, 3, 4, 1, 0] rfl ?_
          exact ih5 w27 hw27 (tKeep.tr (tKeep.tr tKeep.rf kw5 rfl) kw27 rfl) (x6 + x29) (x7 + 1) (t_nnI v8 (Int32.not_le.mp c9)) (t_up (Int32.not_le.mp c9) hd5)
        refine z_icmp_eq hC (pc := 23) 30 dX5_stripped_23 (by decide) (fun c30 => ?_) (fun c30 => ?_)
        · refine z_iconst hC (pc := 30) (v := 0) dX5_stripped_30 (by decide) ?_
          refine z_lvs [0, 1, 2, 4] rfl ?_
          exact j31 0 (Or.inl rfl)
        · refine z_iconst hC (pc := 26) (v := 1) dX5_stripped_26 (by decide) ?_
          refine z_goto hC (pc := 27) 31 dX5_stripped_27 (by decide) ?_
          refine z_lvs [0, 1, 2, 4] rfl ?_
          exact j31 1 (Or.inr rfl)
  refine z_lvs [2, 3, 4, 1, 0] rfl ?_
  exact j5 _ w0 hw0 tKeep.rf 0 0 (by decide) (Nat.le_refl _)
set_option maxRecDepth 20000 in
theorem kX5_reversed (l : Launch) (G : zG) (T : tT) (κ : Nat → List Nat) (hst : l.stackTraces = false) (hE : tE G T κ) {a0 : Nat} (h0 : a0 ∈ κ 5) {x1 : Int32} {x2 : Int32} : tMi l G T yX5_reversed cX5_reversed 5 .int ["java/lang/IllegalStateException"] 8 124 1 6 [.ref a0, .int x1, .int x2] uT (uPi 0x600000000000000000000000000000000000000000000000000) := by
  refine tMi.intro hst rfl (Nat.le_of_ble_eq_true rfl) ?_
  intro w0 hw0 _ X hC hR hO hX
  refine z_aload_n hC (pc := 0) 0 dX5_reversed_0 rfl rfl ?_
  refine u_get hC hw0 (pc := 1) zf5 2 (hE.o5 h0) rfl dX5_reversed_1 zw644 (kk := fun va5 ta5 fa5 => ?_)
  obtain ⟨a5, ma5, rfl⟩ := ta5
  refine z_iload_n hC (pc := 4) 2 dX5_reversed_4 rfl rfl ?_
  obtain ⟨q6, hqq6⟩ := hE.o3 ma5
  refine t_callVi hC hw0 (pc := 5) (As := [.int x2]) (kX3_newRow l G T κ hst hE ma5) trivial dmX3_newRow zf3 hqq6 dX5_reversed_5 zw1855 rfl rfl (Nat.le_of_ble_eq_true rfl) (Nat.le_of_ble_eq_true rfl) (Nat.le_of_ble_eq_true rfl) (Nat.le_of_ble_eq_true rfl) (Nat.le_of_ble_eq_true rfl) (fun E w q hE hw => hO E w _ _ _ _ _ q hE (Nat.le_of_ble_eq_true rfl) (Nat.le_of_ble_eq_true rfl) hw) (fun x8 cw7 nw7 w7 hw7 pw7 => ?_)
  obtain ⟨rfl, rfl, kw7⟩ := pw7
  refine z_istore_n hC (pc := 8) (lv' := [(3, .int x8), (0, .ref a0), (1, .int x1), (2, .int x2)]) dX5_reversed_8 rfl (by decide) rfl ?_
  refine z_iconst hC (pc := 9) (v := 0) dX5_reversed_9 (by decide) ?_
  refine z_istore hC (pc := 10) (lv' := [(4, .int 0), (3, .int x8), (0, .ref a0), (1, .int x1), (2, .int x2)]) dX5_reversed_10 (by decide) rfl ?_
  have j12 : ∀ (d12 : Nat), ∀ (w9 : va_W), tW T w9 → tKeep 0x0 w7 w9 → ∀ (x10 : Int32), ¬ x10 < 0 → (2 ^ 31 - (x10 : Int32).toInt).toNat ≤ d12 → zS X G 5 w9 [(0, .ref a0), (1, .int x1), (2, .int x2), (3, .int x8), (4, .int x10)] 0 0 12 [] := by
    intro d12
    induction d12 with
    | zero => intro w9 hw9 kw9 x10 v11 hd12; exact (t_zero hd12).elim
    | succ d12 ih12 =>
      intro w9 hw9 kw9 x10 v11 hd12
      refine z_iload hC (pc := 12) 4 dX5_reversed_12 rfl ?_
      refine z_iload_n hC (pc := 14) 2 dX5_reversed_14 rfl rfl ?_
      refine z_icmp_ge hC (pc := 15) 48 dX5_reversed_15 (by decide) (fun c12 => ?_) (fun c12 => ?_)
      · refine z_iload_n hC (pc := 48) 3 dX5_reversed_48 rfl rfl ?_
        exact hR _ _ _ _ _ _ dX5_reversed_49 rfl (Nat.le_of_ble_eq_true rfl) (Nat.le_of_ble_eq_true rfl) ⟨hw9, rfl, rfl, (tKeep.tr (tKeep.tr tKeep.rf kw7 rfl) kw9 rfl)⟩
      · refine z_aload_n hC (pc := 18) 0 dX5_reversed_18 rfl rfl ?_
        refine u_getK hC (pc := 19) zf5 2 (tKeep.F kw9 (tKeep.F kw7 fa5 rfl) rfl) dX5_reversed_19 zw644 (kk := ?_)
        refine z_iload_n hC (pc := 22) 3 dX5_reversed_22 rfl rfl ?_
        refine z_iload_n hC (pc := 23) 2 dX5_reversed_23 rfl rfl ?_
        refine z_iconst hC (pc := 24) (v := 1) dX5_reversed_24 (by decide) ?_
        refine z_isub hC (pc := 25) (v := (x2 - 1)) dX5_reversed_25 rfl ?_
        refine z_iload hC (pc := 26) 4 dX5_reversed_26 rfl ?_
        refine z_isub hC (pc := 28) (v := ((x2 - 1) - x10)) dX5_reversed_28 rfl ?_
        refine z_aload_n hC (pc := 29) 0 dX5_reversed_29 rfl rfl ?_
        refine u_getK hC (pc := 30) zf5 2 (tKeep.F kw9 (tKeep.F kw7 fa5 rfl) rfl) dX5_reversed_30 zw644 (kk := ?_)
        refine z_iload_n hC (pc := 33) 1 dX5_reversed_33 rfl rfl ?_
        refine z_iload hC (pc := 34) 4 dX5_reversed_34 rfl ?_
        refine t_callVi hC hw9 (pc := 36) (As := [.int x1, .int x10]) (kX3_valueOf l G T κ hst hE ma5) trivial dmX3_valueOf zf3 hqq6 dX5_reversed_36 zw1871 rfl rfl (Nat.le_of_ble_eq_true rfl) (Nat.le_of_ble_eq_true rfl) (Nat.le_of_ble_eq_true rfl) (Nat.le_of_ble_eq_true rfl) (Nat.le_of_ble_eq_true rfl) (fun _ _ _ h => nomatch h) (fun x14 cw13 nw13 w13 hw13 pw13 => ?_)
        obtain ⟨rfl, rfl, kw13⟩ := pw13
        refine t_callVv hC hw13 (pc := 39) (As := [.int x8, .int ((x2 - 1) - x10), .int x14]) (kX3_put l G T κ hst hE ma5) trivial dmX3_put zf3 hqq6 dX5_reversed_39 zw1875 rfl rfl (Nat.le_of_ble_eq_true rfl) (Nat.le_of_ble_eq_true rfl) (Nat.le_of_ble_eq_true rfl) (Nat.le_of_ble_eq_true rfl) (Nat.le_of_ble_eq_true rfl) (fun _ _ _ h => nomatch h) (fun cw15 nw15 w15 hw15 pw15 => ?_)
        obtain ⟨rfl, rfl, kw15⟩ := pw15
        refine z_iinc hC (pc := 42) (v := (x10 + 1)) (lv' := [(4, .int (x10 + 1)), (0, .ref a0), (1, .int x1), (2, .int x2), (3, .int x8)]) 4 dX5_reversed_42 rfl (congrArg _ (by decide)) (by decide) rfl ?_
        refine z_goto hC (pc := 45) 12 dX5_reversed_45 (by decide) ?_
        refine z_lvs [1, 2, 3, 4, 0] rfl ?_
        exact ih12 w15 hw15 (tKeep.tr (tKeep.tr (tKeep.tr tKeep.rf kw9 rfl) kw13 rfl) kw15 rfl) (x10 + 1) (t_nnI v11 (Int32.not_le.mp c12)) (t_up (Int32.not_le.mp c12) hd12)
  refine z_lvs [2, 3, 4, 1, 0] rfl ?_
  exact j12 _ w7 hw7 tKeep.rf 0 (by decide) (Nat.le_refl _)
set_option maxRecDepth 20000 in
theorem kX5_function (l : Launch) (G : zG) (T : tT) (κ : Nat → List Nat) (hst : l.stackTraces = false) (hE : tE G T κ) {a0 : Nat} (h0 : a0 ∈ κ 5) {x1 : Int32} {x2 : Int32} : tMi l G T yX5_function cX5_function 4 .int ["java/lang/IllegalStateException"] 9 150 1 6 [.ref a0, .int x1, .int x2] uT (uPi 0x600000000000000000000000000000000000000000000000000) := by
  refine tMi.intro hst rfl (Nat.le_of_ble_eq_true rfl) ?_
  intro w0 hw0 _ X hC hR hO hX
  refine z_aload_n hC (pc := 0) 0 dX5_function_0 rfl rfl ?_
  refine u_get hC hw0 (pc := 1) zf5 2 (hE.o5 h0) rfl dX5_function_1 zw644 (kk := fun va5 ta5 fa5 => ?_)
  obtain ⟨a5, ma5, rfl⟩ := ta5
  refine z_iload_n hC (pc := 4) 2 dX5_function_4 rfl rfl ?_
  obtain ⟨q6, hqq6⟩ := hE.o3 ma5
  refine t_callVi hC hw0 (pc := 5) (As := [.int x2]) (kX3_countOf l G T κ hst hE ma5) trivial dmX3_countOf zf3 hqq6 dX5_function_5 zw1840 rfl rfl (Nat.le_of_ble_eq_true rfl) (Nat.le_of_ble_eq_true rfl) (Nat.le_of_ble_eq_true rfl) (Nat.le_of_ble_eq_true rfl) (Nat.le_of_ble_eq_true rfl) (fun _ _ _ h => nomatch h) (fun x8 cw7 nw7 w7 hw7 pw7 => ?_)
  obtain ⟨rfl, rfl, kw7⟩ := pw7
  refine z_istore_n hC (pc := 8) (lv' := [(3, .int x8), (0, .ref a0), (1, .int x1), (2, .int x2)]) dX5_function_8 rfl (by decide) rfl ?_
  refine z_iload_n hC (pc := 9) 2 dX5_function_9 rfl rfl ?_
  by_cases e9 : x1 = 0
  · refine z_tableInE hC (pc := 10) (v := 0) e9 48 dX5_function_10 (by decide) (by decide) rfl (by decide) ?_
    refine z_iload_n hC (pc := 48) 0 dX5_function_48 rfl rfl ?_
    have j65 : ∀ (w10 : va_W), tW T w10 → tKeep 0x0 w7 w10 → ∀ (x11 : Int32), zS X G 4 w10 [] 0 0 65 [.int x11] := by
      intro w10 hw10 kw10 x11
      exact hR _ _ _ _ _ _ dX5_function_65 rfl (Nat.le_of_ble_eq_true rfl) (Nat.le_of_ble_eq_true rfl) ⟨hw10, rfl, rfl, (tKeep.tr (tKeep.tr tKeep.rf kw7 rfl) kw10 rfl)⟩
    refine z_if_le hC (pc := 49) 64 dX5_function_49 (by decide) (fun c12 => ?_) (fun c12 => ?_)
    · refine z_iconst hC (pc := 64) (v := (-1)) dX5_function_64 (by decide) ?_
      refine z_lvs [] rfl ?_
      exact j65 w7 hw7 tKeep.rf (-1)
    · refine z_aload_n hC (pc := 52) 1 dX5_function_52 rfl rfl ?_
      refine u_getK hC (pc := 53) zf5 2 (tKeep.F kw7 fa5 rfl) dX5_function_53 zw644 (kk := ?_)
      refine z_iload_n hC (pc := 56) 3 dX5_function_56 rfl rfl ?_
      refine z_iconst hC (pc := 57) (v := 0) dX5_function_57 (by decide) ?_
      refine t_callVi hC hw7 (pc := 58) (As := [.int x2, .int 0]) (kX3_valueOf l G T κ hst hE ma5) trivial dmX3_valueOf zf3 hqq6 dX5_function_58 zw1871 rfl rfl (Nat.le_of_ble_eq_true rfl) (Nat.le_of_ble_eq_true rfl) (Nat.le_of_ble_eq_true rfl) (Nat.le_of_ble_eq_true rfl) (Nat.le_of_ble_eq_true rfl) (fun _ _ _ h => nomatch h) (fun x14 cw13 nw13 w13 hw13 pw13 => ?_)
      obtain ⟨rfl, rfl, kw13⟩ := pw13
      refine z_goto hC (pc := 61) 65 dX5_function_61 (by decide) ?_
      refine z_lvs [] rfl ?_
      exact j65 w13 hw13 (tKeep.tr tKeep.rf kw13 rfl) x14
  by_cases e15 : x1 = 1
  · refine z_tableInE hC (pc := 10) (v := 1) e15 66 dX5_function_10 (by decide) (by decide) rfl (by decide) ?_
    refine z_iload_n hC (pc := 66) 0 dX5_function_66 rfl rfl ?_
    have j85 : ∀ (w16 : va_W), tW T w16 → tKeep 0x0 w7 w16 → ∀ (x17 : Int32), zS X G 4 w16 [] 0 0 85 [.int x17] := by
      intro w16 hw16 kw16 x17
      exact hR _ _ _ _ _ _ dX5_function_85 rfl (Nat.le_of_ble_eq_true rfl) (Nat.le_of_ble_eq_true rfl) ⟨hw16, rfl, rfl, (tKeep.tr (tKeep.tr tKeep.rf kw7 rfl) kw16 rfl)⟩
    refine z_if_le hC (pc := 67) 84 dX5_function_67 (by decide) (fun c18 => ?_) (fun c18 => ?_)
    · refine z_iconst hC (pc := 84) (v := (-1)) dX5_function_84 (by decide) ?_
      refine z_lvs [] rfl ?_
      exact j85 w7 hw7 tKeep.rf (-1)
    · refine z_aload_n hC (pc := 70) 1 dX5_function_70 rfl rfl ?_
      refine u_getK hC (pc := 71) zf5 2 (tKeep.F kw7 fa5 rfl) dX5_function_71 zw644 (kk := ?_)
      refine z_iload_n hC (pc := 74) 3 dX5_function_74 rfl rfl ?_
      refine z_iload_n hC (pc := 75) 0 dX5_function_75 rfl rfl ?_
      refine z_iconst hC (pc := 76) (v := 1) dX5_function_76 (by decide) ?_
      refine z_isub hC (pc := 77) (v := (x8 - 1)) dX5_function_77 rfl ?_
      refine t_callVi hC hw7 (pc := 78) (As := [.int x2, .int (x8 - 1)]) (kX3_valueOf l G T κ hst hE ma5) trivial dmX3_valueOf zf3 hqq6 dX5_function_78 zw1871 rfl rfl (Nat.le_of_ble_eq_true rfl) (Nat.le_of_ble_eq_true rfl) (Nat.le_of_ble_eq_true rfl) (Nat.le_of_ble_eq_true rfl) (Nat.le_of_ble_eq_true rfl) (fun _ _ _ h => nomatch h) (fun x20 cw19 nw19 w19 hw19 pw19 => ?_)
      obtain ⟨rfl, rfl, kw19⟩ := pw19
      refine z_goto hC (pc := 81) 85 dX5_function_81 (by decide) ?_
      refine z_lvs [] rfl ?_
      exact j85 w19 hw19 (tKeep.tr tKeep.rf kw19 rfl) x20
  by_cases e21 : x1 = 2
  · refine z_tableInE hC (pc := 10) (v := 2) e21 86 dX5_function_10 (by decide) (by decide) rfl (by decide) ?_
    refine z_iload_n hC (pc := 86) 0 dX5_function_86 rfl rfl ?_
    refine z_iconst hC (pc := 87) (v := 2) dX5_function_87 (by decide) ?_
    have j104 : ∀ (w22 : va_W), tW T w22 → tKeep 0x600000000000000000000000000000000000000000000000000 w7 w22 → ∀ (x23 : Int32), zS X G 4 w22 [] 0 0 104 [.int x23] := by
      intro w22 hw22 kw22 x23
      exact hR _ _ _ _ _ _ dX5_function_104 rfl (Nat.le_of_ble_eq_true rfl) (Nat.le_of_ble_eq_true rfl) ⟨hw22, rfl, rfl, (tKeep.tr (tKeep.tr tKeep.rf kw7 rfl) kw22 rfl)⟩
    refine z_icmp_ge hC (pc := 88) 95 dX5_function_88 (by decide) (fun c24 => ?_) (fun c24 => ?_)
    · refine z_aload_n hC (pc := 95) 1 dX5_function_95 rfl rfl ?_
      refine z_iload_n hC (pc := 96) 3 dX5_function_96 rfl rfl ?_
      refine z_iconst hC (pc := 97) (v := 1) dX5_function_97 (by decide) ?_
      refine z_iload_n hC (pc := 98) 0 dX5_function_98 rfl rfl ?_
      refine z_iconst hC (pc := 99) (v := 1) dX5_function_99 (by decide) ?_
      refine z_isub hC (pc := 100) (v := (x8 - 1)) dX5_function_100 rfl ?_
      obtain ⟨q25, hqq25⟩ := hE.o5 h0
      refine t_callVi hC hw7 (pc := 101) (As := [.int x2, .int 1, .int (x8 - 1)]) (kX5_slice l G T κ hst hE h0) trivial dmX5_slice zf5 hqq25 dX5_function_101 zw2196 rfl rfl (Nat.le_of_ble_eq_true rfl) (Nat.le_of_ble_eq_true rfl) (Nat.le_of_ble_eq_true rfl) (Nat.le_of_ble_eq_true rfl) (Nat.le_of_ble_eq_true rfl) (fun E w q hE hw => hO E w _ _ _ _ _ q hE (Nat.le_of_ble_eq_true rfl) (Nat.le_of_ble_eq_true rfl) hw) (fun x27 cw26 nw26 w26 hw26 pw26 => ?_)
      obtain ⟨rfl, rfl, kw26⟩ := pw26
      refine z_lvs [] rfl ?_
      exact j104 w26 hw26 (tKeep.tr tKeep.rf kw26 rfl) x27
    · refine z_iconst hC (pc := 91) (v := (-1)) dX5_function_91 (by decide) ?_
      refine z_goto hC (pc := 92) 104 dX5_function_92 (by decide) ?_
      refine z_lvs [] rfl ?_
      exact j104 w7 hw7 tKeep.rf (-1)
  by_cases e28 : x1 = 3
  · refine z_tableInE hC (pc := 10) (v := 3) e28 105 dX5_function_10 (by decide) (by decide) rfl (by decide) ?_
    refine z_iload_n hC (pc := 105) 0 dX5_function_105 rfl rfl ?_
    refine z_iconst hC (pc := 106) (v := 2) dX5_function_106 (by decide) ?_
    have j123 : ∀ (w29 : va_W), tW T w29 → tKeep 0x600000000000000000000000000000000000000000000000000 w7 w29 → ∀ (x30 : Int32), zS X G 4 w29 [] 0 0 123 [.int x30] := by
      intro w29 hw29 kw29 x30
      exact hR _ _ _ _ _ _ dX5_function_123 rfl (Nat.le_of_ble_eq_true rfl) (Nat.le_of_ble_eq_true rfl) ⟨hw29, rfl, rfl, (tKeep.tr (tKeep.tr tKeep.rf kw7 rfl) kw29 rfl)⟩
    refine z_icmp_ge hC (pc := 107) 114 dX5_function_107 (by decide) (fun c31 => ?_) (fun c31 => ?_)
    · refine z_aload_n hC (pc := 114) 1 dX5_function_114 rfl rfl ?_
      refine z_iload_n hC (pc := 115) 3 dX5_function_115 rfl rfl ?_
      refine z_iconst hC (pc := 116) (v := 0) dX5_function_116 (by decide) ?_
      refine z_iload_n hC (pc := 117) 0 dX5_function_117 rfl rfl ?_
      refine z_iconst hC (pc := 118) (v := 1) dX5_function_118 (by decide) ?_
      refine z_isub hC (pc := 119) (v := (x8 - 1)) dX5_function_119 rfl ?_
      obtain ⟨q32, hqq32⟩ := hE.o5 h0
      refine t_callVi hC hw7 (pc := 120) (As := [.int x2, .int 0, .int (x8 - 1)]) (kX5_slice l G T κ hst hE h0) trivial dmX5_slice zf5 hqq32 dX5_function_120 zw2196 rfl rfl (Nat.le_of_ble_eq_true rfl) (Nat.le_of_ble_eq_true rfl) (Nat.le_of_ble_eq_true rfl) (Nat.le_of_ble_eq_true rfl) (Nat.le_of_ble_eq_true rfl) (fun E w q hE hw => hO E w _ _ _ _ _ q hE (Nat.le_of_ble_eq_true rfl) (Nat.le_of_ble_eq_true rfl) hw) (fun x34 cw33 nw33 w33 hw33 pw33 => ?_)
      obtain ⟨rfl, rfl, kw33⟩ := pw33
      refine z_lvs [] rfl ?_
      exact j123 w33 hw33 (tKeep.tr tKeep.rf kw33 rfl) x34
    · refine z_iconst hC (pc := 110) (v := (-1)) dX5_function_110 (by decide) ?_
      refine z_goto hC (pc := 111) 123 dX5_function_111 (by decide) ?_
      refine z_lvs [] rfl ?_
      exact j123 w7 hw7 tKeep.rf (-1)
  by_cases e35 : x1 = 4
  · refine z_tableInE hC (pc := 10) (v := 4) e35 124 dX5_function_10 (by decide) (by decide) rfl (by decide) ?_
    refine z_aload_n hC (pc := 124) 1 dX5_function_124 rfl rfl ?_
    refine z_iload_n hC (pc := 125) 3 dX5_function_125 rfl rfl ?_
    refine z_iload_n hC (pc := 126) 0 dX5_function_126 rfl rfl ?_
    obtain ⟨q36, hqq36⟩ := hE.o5 h0
    refine t_callVi hC hw7 (pc := 127) (As := [.int x2, .int x8]) (kX5_stripped l G T κ hst hE h0) trivial dmX5_stripped zf5 hqq36 dX5_function_127 zw2200 rfl rfl (Nat.le_of_ble_eq_true rfl) (Nat.le_of_ble_eq_true rfl) (Nat.le_of_ble_eq_true rfl) (Nat.le_of_ble_eq_true rfl) (Nat.le_of_ble_eq_true rfl) (fun E w q hE hw => hO E w _ _ _ _ _ q hE (Nat.le_of_ble_eq_true rfl) (Nat.le_of_ble_eq_true rfl) hw) (fun x38 cw37 nw37 w37 hw37 pw37 => ?_)
    obtain ⟨rfl, rfl, kw37⟩ := pw37
    exact hR _ _ _ _ _ _ dX5_function_130 rfl (Nat.le_of_ble_eq_true rfl) (Nat.le_of_ble_eq_true rfl) ⟨hw37, rfl, rfl, (tKeep.tr (tKeep.tr tKeep.rf kw7 rfl) kw37 rfl)⟩
  by_cases e39 : x1 = 5
  · refine z_tableInE hC (pc := 10) (v := 5) e39 131 dX5_function_10 (by decide) (by decide) rfl (by decide) ?_
    refine z_aload_n hC (pc := 131) 1 dX5_function_131 rfl rfl ?_
    refine z_iload_n hC (pc := 132) 3 dX5_function_132 rfl rfl ?_
    refine z_iload_n hC (pc := 133) 0 dX5_function_133 rfl rfl ?_
    obtain ⟨q40, hqq40⟩ := hE.o5 h0
    refine t_callVi hC hw7 (pc := 134) (As := [.int x2, .int x8]) (kX5_reversed l G T κ hst hE h0) trivial dmX5_reversed zf5 hqq40 dX5_function_134 zw2204 rfl rfl (Nat.le_of_ble_eq_true rfl) (Nat.le_of_ble_eq_true rfl) (Nat.le_of_ble_eq_true rfl) (Nat.le_of_ble_eq_true rfl) (Nat.le_of_ble_eq_true rfl) (fun E w q hE hw => hO E w _ _ _ _ _ q hE (Nat.le_of_ble_eq_true rfl) (Nat.le_of_ble_eq_true rfl) hw) (fun x42 cw41 nw41 w41 hw41 pw41 => ?_)
    obtain ⟨rfl, rfl, kw41⟩ := pw41
    exact hR _ _ _ _ _ _ dX5_function_137 rfl (Nat.le_of_ble_eq_true rfl) (Nat.le_of_ble_eq_true rfl) ⟨hw41, rfl, rfl, (tKeep.tr (tKeep.tr tKeep.rf kw7 rfl) kw41 rfl)⟩
  have e9t := t_nei e9
  have e15t := t_nei e15
  have e21t := t_nei e21
  have e28t := t_nei e28
  have e35t := t_nei e35
  have e39t := t_nei e39
  simp only [Int32.reduceToInt] at e9t e15t e21t e28t e35t e39t
  refine z_tableOut hC (pc := 10) 138 dX5_function_10 (by omega) (by decide) ?_
  refine z_ldc_w hC (pc := 138) (v := 268435456) dX5_function_138 zw2208 ?_
  refine z_iload_n hC (pc := 141) 0 dX5_function_141 rfl rfl ?_
  refine z_ior hC (pc := 142) (v := ((268435456 : Int32) ||| x8)) dX5_function_142 rfl ?_
  exact hR _ _ _ _ _ _ dX5_function_143 rfl (Nat.le_of_ble_eq_true rfl) (Nat.le_of_ble_eq_true rfl) ⟨hw7, rfl, rfl, (tKeep.tr tKeep.rf kw7 rfl)⟩
