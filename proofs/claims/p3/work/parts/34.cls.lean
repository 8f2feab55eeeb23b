theorem zw647 : Cond.fieldLink "TemplateHouse$Maker" 16 "TemplateHouse$Maker" "top" "I" ∈ zT := zsub3 167 (by decide +kernel) (by decide +kernel)
theorem zw646 : Cond.fieldLink "TemplateHouse$Maker" 10 "TemplateHouse$Maker" "stack" "[I" ∈ zT := zsub3 166 (by decide +kernel) (by decide +kernel)
theorem zw2005 : Cond.classLink "TemplateHouse$Writer" 91 "java/lang/IllegalStateException" ∈ zT := zsub9 85 (by decide +kernel) (by decide +kernel)
theorem zw580 : Cond.fieldLink "TemplateHouse$Writer" 9 "TemplateHouse$Writer" "text" "[B" ∈ zT := zsub3 100 (by decide +kernel) (by decide +kernel)
theorem zw582 : Cond.fieldLink "TemplateHouse$Writer" 14 "TemplateHouse$Writer" "noted" "[I" ∈ zT := zsub3 102 (by decide +kernel) (by decide +kernel)
theorem zw579 : Cond.fieldLink "TemplateHouse$Writer" 57 "TemplateHouse$Writer" "teller" "LTemplateHouse$Teller;" ∈ zT := zsub3 99 (by decide +kernel) (by decide +kernel)
theorem zw485 : Cond.fieldLink "TemplateHouse$Writer" 94 "TemplateHouse$Teller" "counts" "[I" ∈ zT := zsub3 5 (by decide +kernel) (by decide +kernel)
theorem zw1835 : Cond.methodLinkNest "TemplateHouse$Maker" 113 ⟨"TemplateHouse", "get", "([II)I"⟩ "TemplateHouse" ∈ zNest := zsubN8 155 (by decide +kernel) (by decide +kernel)
theorem zw1991 : Cond.constant "TemplateHouse$Maker" 350 (134217727 : Int32) ∈ zT := zsub9 71 (by decide +kernel) (by decide +kernel)
theorem zw651 : Cond.fieldLink "TemplateHouse$Maker" 30 "TemplateHouse$Maker" "self" "I" ∈ zT := zsub3 171 (by decide +kernel) (by decide +kernel)
theorem zw650 : Cond.fieldLink "TemplateHouse$Maker" 27 "TemplateHouse$Maker" "pc" "I" ∈ zT := zsub3 170 (by decide +kernel) (by decide +kernel)
theorem zw653 : Cond.fieldLink "TemplateHouse$Maker" 36 "TemplateHouse$Maker" "mark" "I" ∈ zT := zsub3 173 (by decide +kernel) (by decide +kernel)
theorem zw652 : Cond.fieldLink "TemplateHouse$Maker" 33 "TemplateHouse$Maker" "element" "I" ∈ zT := zsub3 172 (by decide +kernel) (by decide +kernel)
theorem zw654 : Cond.fieldLink "TemplateHouse$Maker" 39 "TemplateHouse$Maker" "depth" "I" ∈ zT := zsub3 174 (by decide +kernel) (by decide +kernel)
theorem zw507 : Cond.fieldLink "TemplateHouse$Maker" 140 "TemplateHouse$Heap" "text" "[I" ∈ zT := zsub3 27 (by decide +kernel) (by decide +kernel)
theorem zw645 : Cond.fieldLink "TemplateHouse$Maker" 70 "TemplateHouse$Maker" "g" "LTemplateHouse$Gen;" ∈ zT := zsub3 165 (by decide +kernel) (by decide +kernel)
theorem zw240 : Cond.fieldLink "TemplateHouse$Maker" 117 "TemplateHouse$Gen" "code" "[I" ∈ zT := zsub2 0 (by decide +kernel) (by decide +kernel)
theorem zw592 : Cond.fieldLink "TemplateHouse$Maker" 262 "TemplateHouse$Writer" "puts" "I" ∈ zT := zsub3 112 (by decide +kernel) (by decide +kernel)
theorem zw2021 : Cond.methodLinkNest "TemplateHouse$Teller" 25 ⟨"TemplateHouse", "get", "([II)I"⟩ "TemplateHouse" ∈ zNest := zsubN9 101 (by decide +kernel) (by decide +kernel)
theorem zw2022 : Cond.methodLinkNest "TemplateHouse$Teller" 31 ⟨"TemplateHouse", "set", "([III)V"⟩ "TemplateHouse" ∈ zNest := zsubN9 102 (by decide +kernel) (by decide +kernel)
theorem zw480 : Cond.fieldLink "TemplateHouse$Teller" 13 "TemplateHouse$Teller" "looks" "[I" ∈ zT := zsub3 0 (by decide +kernel) (by decide +kernel)
theorem zw50 : Cond.fieldLink "TemplateHouse$Heap" 171 "TemplateHouse$Store" "much" "[J" ∈ zT := zsub1 50 (by decide +kernel) (by decide +kernel)
theorem zw529 : Cond.fieldLink "TemplateHouse$Heap" 64 "TemplateHouse$Heap" "digits" "[B" ∈ zT := zsub3 49 (by decide +kernel) (by decide +kernel)
theorem zw2050 : Cond.constantLong "TemplateHouse$Heap" 235 (10 : Int64) ∈ zT := zsub9 130 (by decide +kernel) (by decide +kernel)
theorem zw523 : Cond.fieldLink "TemplateHouse$Heap" 55 "TemplateHouse$Heap" "spelled" "[B" ∈ zT := zsub3 43 (by decide +kernel) (by decide +kernel)
theorem zw525 : Cond.fieldLink "TemplateHouse$Heap" 58 "TemplateHouse$Heap" "from" "I" ∈ zT := zsub3 45 (by decide +kernel) (by decide +kernel)
theorem zw527 : Cond.fieldLink "TemplateHouse$Heap" 61 "TemplateHouse$Heap" "length" "I" ∈ zT := zsub3 47 (by decide +kernel) (by decide +kernel)
theorem zw2078 : Cond.methodLink "TemplateHouse$Maker" 252 ⟨"TemplateHouse$Maker", "code", "(I)I"⟩ ∈ zT := zsub9 158 (by decide +kernel) (by decide +kernel)
theorem zw1979 : Cond.methodLink "TemplateHouse$Maker" 259 ⟨"TemplateHouse$Maker", "push", "(I)V"⟩ ∈ zT := zsub9 59 (by decide +kernel) (by decide +kernel)
theorem zw2094 : Cond.constant "TemplateHouse$Maker" 283 (134217728 : Int32) ∈ zT := zsub9 174 (by decide +kernel) (by decide +kernel)
theorem zw2032 : Cond.constant "TemplateHouse$Heap" 160 (134217728 : Int32) ∈ zT := zsub9 112 (by decide +kernel) (by decide +kernel)
theorem zw2031 : Cond.methodLink "TemplateHouse$Heap" 161 ⟨"TemplateHouse$Heap", "isHouse", "(II)Z"⟩ ∈ zT := zsub9 111 (by decide +kernel) (by decide +kernel)
theorem zw1905 : Cond.constant "TemplateHouse$Heap" 136 (1073741824 : Int32) ∈ zT := zsub8 225 (by decide +kernel) (by decide +kernel)
theorem zw2107 : Cond.methodLink "TemplateHouse$Heap" 168 ⟨"TemplateHouse$Heap", "countOf", "(I)I"⟩ ∈ zT := zsub9 187 (by decide +kernel) (by decide +kernel)
theorem zw243 : Cond.fieldLink "TemplateHouse$Heap" 137 "TemplateHouse$Gen" "code" "[I" ∈ zT := zsub2 3 (by decide +kernel) (by decide +kernel)
theorem zw2034 : Cond.methodLink "TemplateHouse$Heap" 165 ⟨"TemplateHouse$Heap", "isYes", "(I)Z"⟩ ∈ zT := zsub9 114 (by decide +kernel) (by decide +kernel)
theorem zw600 : Cond.fieldLink "TemplateHouse$Writer" 45 "TemplateHouse$Writer" "indents" "[I" ∈ zT := zsub3 120 (by decide +kernel) (by decide +kernel)
theorem zw2112 : Cond.methodLinkNest "TemplateHouse$Writer" 70 ⟨"TemplateHouse", "set", "([III)V"⟩ "TemplateHouse" ∈ zNest := zsubN9 192 (by decide +kernel) (by decide +kernel)
theorem zw2225 : Cond.constant "TemplateHouse$Maker" 559 (536870912 : Int32) ∈ zT := zsub10 65 (by decide +kernel) (by decide +kernel)
theorem zw518 : Cond.fieldLink "TemplateHouse$Maker" 351 "TemplateHouse$Heap" "words" "[B" ∈ zT := zsub3 38 (by decide +kernel) (by decide +kernel)
theorem zw1992 : Cond.methodLinkNest "TemplateHouse$Maker" 277 ⟨"TemplateHouse", "getByte", "([BI)I"⟩ "TemplateHouse" ∈ zNest := zsubN9 72 (by decide +kernel) (by decide +kernel)
theorem zw2222 : Cond.methodLink "TemplateHouse$Maker" 556 ⟨"TemplateHouse$Maker", "isBlank", "(I)Z"⟩ ∈ zT := zsub10 62 (by decide +kernel) (by decide +kernel)
theorem zw655 : Cond.fieldLink "TemplateHouse$Maker" 42 "TemplateHouse$Maker" "loop" "I" ∈ zT := zsub3 175 (by decide +kernel) (by decide +kernel)
theorem zw2250 : Cond.methodLink "TemplateHouse$Maker" 569 ⟨"TemplateHouse$Heap", "counted", "(I)V"⟩ ∈ zT := zsub10 90 (by decide +kernel) (by decide +kernel)
theorem zw510 : Cond.fieldLink "TemplateHouse$Maker" 566 "TemplateHouse$Heap" "turn" "[I" ∈ zT := zsub3 30 (by decide +kernel) (by decide +kernel)
theorem zw1882 : Cond.methodLinkNest "TemplateHouse$Maker" 192 ⟨"TemplateHouse", "set", "([III)V"⟩ "TemplateHouse" ∈ zNest := zsubN8 202 (by decide +kernel) (by decide +kernel)
theorem zw1740 : Cond.classLink "TemplateHouse" 123 "java/lang/IllegalArgumentException" ∈ zT := zsub8 60 (by decide +kernel) (by decide +kernel)
theorem zw27 : Cond.initialized "java/lang/IllegalArgumentException" ∈ zT := zsub1 27 (by decide +kernel) (by decide +kernel)
theorem zw719 : Cond.fieldLink "TemplateHouse" 97 "TemplateHouse" "maker" "LTemplateHouse$Maker;" ∈ zT := zsub3 239 (by decide +kernel) (by decide +kernel)
theorem zw643 : Cond.fieldLink "TemplateHouse" 207 "TemplateHouse$Maker" "writer" "LTemplateHouse$Writer;" ∈ zT := zsub3 163 (by decide +kernel) (by decide +kernel)
theorem zw585 : Cond.fieldLink "TemplateHouse" 211 "TemplateHouse$Writer" "length" "I" ∈ zT := zsub3 105 (by decide +kernel) (by decide +kernel)
theorem zw726 : Cond.fieldLink "TemplateHouse" 38 "TemplateHouse" "shown" "I" ∈ zT := zsub4 6 (by decide +kernel) (by decide +kernel)
theorem zw662 : Cond.fieldLink "TemplateHouse" 216 "TemplateHouse$Maker" "ended" "Z" ∈ zT := zsub3 182 (by decide +kernel) (by decide +kernel)
theorem zw936 : Cond.classLink "TemplateHouse" 154 "java/lang/IllegalStateException" ∈ zT := zsub4 216 (by decide +kernel) (by decide +kernel)
theorem zw581 : Cond.fieldLink "TemplateHouse" 220 "TemplateHouse$Writer" "text" "[B" ∈ zT := zsub3 101 (by decide +kernel) (by decide +kernel)
theorem zw641 : Cond.fieldLink "TemplateHouse" 226 "TemplateHouse$Maker" "teller" "LTemplateHouse$Teller;" ∈ zT := zsub3 161 (by decide +kernel) (by decide +kernel)
theorem zw486 : Cond.fieldLink "TemplateHouse" 248 "TemplateHouse$Teller" "counts" "[I" ∈ zT := zsub3 6 (by decide +kernel) (by decide +kernel)
theorem zw915 : Cond.methodLink "TemplateHouse" 235 ⟨"TemplateHouse", "get", "([II)I"⟩ ∈ zT := zsub4 195 (by decide +kernel) (by decide +kernel)
theorem zw583 : Cond.fieldLink "TemplateHouse" 254 "TemplateHouse$Writer" "noted" "[I" ∈ zT := zsub3 103 (by decide +kernel) (by decide +kernel)
theorem zw664 : Cond.fieldLink "TemplateHouse" 251 "TemplateHouse$Maker" "atFirst" "I" ∈ zT := zsub3 184 (by decide +kernel) (by decide +kernel)
theorem zw911 : Cond.methodLink "TemplateHouse" 223 ⟨"TemplateHouse", "told", "(I)I"⟩ ∈ zT := zsub4 191 (by decide +kernel) (by decide +kernel)
theorem zw479 : Cond.fieldLink "TemplateHouse" 230 "TemplateHouse$Teller" "errors" "[I" ∈ zT := zsub2 239 (by decide +kernel) (by decide +kernel)
theorem zw481 : Cond.fieldLink "TemplateHouse" 239 "TemplateHouse$Teller" "looks" "[I" ∈ zT := zsub3 1 (by decide +kernel) (by decide +kernel)
theorem zw720 : Cond.fieldLink "TemplateHouse" 20 "TemplateHouse" "generations" "I" ∈ zT := zsub4 0 (by decide +kernel) (by decide +kernel)
theorem zw64 : Cond.fieldLink "TemplateHouse" 242 "TemplateHouse$Store" "count" "I" ∈ zT := zsub1 64 (by decide +kernel) (by decide +kernel)
theorem zw66 : Cond.fieldLink "TemplateHouse" 245 "TemplateHouse$Store" "used" "I" ∈ zT := zsub1 66 (by decide +kernel) (by decide +kernel)
theorem zw1982 : Cond.code ⟨"TemplateHouse$Maker", "push", "(I)V"⟩ prog_7_method_9_code 2 (Option.none : Option Jvm.ClassFile.FieldType) ∈ zT := zsub9 62 rfl rfl
theorem zw1981 : Cond.instanceMethod ⟨"TemplateHouse$Maker", "push", "(I)V"⟩ ∈ zT := zsub9 61 (by decide +kernel) (by decide +kernel)
theorem zwp73 : Cond.selects "TemplateHouse$Maker" ⟨"TemplateHouse$Maker", "push", "(I)V"⟩ ⟨"TemplateHouse$Maker", "push", "(I)V"⟩ ∈ zT := zin 73 (by decide +kernel) (by decide +kernel)
theorem zw1990 : Cond.code ⟨"TemplateHouse$Writer", "mayWrap", "()Z"⟩ prog_13_method_10_code 1 (Option.some Jvm.ClassFile.FieldType.boolean) ∈ zT := zsub9 70 rfl rfl
theorem zw1988 : Cond.instanceMethod ⟨"TemplateHouse$Writer", "mayWrap", "()Z"⟩ ∈ zT := zsub9 68 (by decide +kernel) (by decide +kernel)
theorem zw1989 : Cond.selects "TemplateHouse$Writer" ⟨"TemplateHouse$Writer", "mayWrap", "()Z"⟩ ⟨"TemplateHouse$Writer", "mayWrap", "()Z"⟩ ∈ zT := zsub9 69 (by decide +kernel) (by decide +kernel)
theorem zw2000 : Cond.code ⟨"TemplateHouse$Writer", "isFull", "()Z"⟩ prog_13_method_6_code 1 (Option.some Jvm.ClassFile.FieldType.boolean) ∈ zT := zsub9 80 rfl rfl
theorem zw1998 : Cond.instanceMethod ⟨"TemplateHouse$Writer", "isFull", "()Z"⟩ ∈ zT := zsub9 78 (by decide +kernel) (by decide +kernel)
theorem zw1999 : Cond.selects "TemplateHouse$Writer" ⟨"TemplateHouse$Writer", "isFull", "()Z"⟩ ⟨"TemplateHouse$Writer", "isFull", "()Z"⟩ ∈ zT := zsub9 79 (by decide +kernel) (by decide +kernel)
theorem zw2004 : Cond.code ⟨"TemplateHouse$Writer", "raw", "(I)V"⟩ prog_13_method_9_code 4 (Option.none : Option Jvm.ClassFile.FieldType) ∈ zT := zsub9 84 rfl rfl
theorem zw2003 : Cond.instanceMethod ⟨"TemplateHouse$Writer", "raw", "(I)V"⟩ ∈ zT := zsub9 83 (by decide +kernel) (by decide +kernel)
theorem zwp142 : Cond.selects "TemplateHouse$Writer" ⟨"TemplateHouse$Writer", "raw", "(I)V"⟩ ⟨"TemplateHouse$Writer", "raw", "(I)V"⟩ ∈ zT := zin 142 (by decide +kernel) (by decide +kernel)
theorem zw2016 : Cond.code ⟨"TemplateHouse$Maker", "enter", "()V"⟩ prog_7_method_27_code 3 (Option.none : Option Jvm.ClassFile.FieldType) ∈ zT := zsub9 96 rfl rfl
theorem zw2015 : Cond.instanceMethod ⟨"TemplateHouse$Maker", "enter", "()V"⟩ ∈ zT := zsub9 95 (by decide +kernel) (by decide +kernel)
theorem zwp48 : Cond.selects "TemplateHouse$Maker" ⟨"TemplateHouse$Maker", "enter", "()V"⟩ ⟨"TemplateHouse$Maker", "enter", "()V"⟩ ∈ zT := zin 48 (by decide +kernel) (by decide +kernel)
theorem zw2020 : Cond.code ⟨"TemplateHouse$Teller", "noteLook", "(II)V"⟩ prog_11_method_4_code 4 (Option.none : Option Jvm.ClassFile.FieldType) ∈ zT := zsub9 100 rfl rfl
theorem zw2018 : Cond.instanceMethod ⟨"TemplateHouse$Teller", "noteLook", "(II)V"⟩ ∈ zT := zsub9 98 (by decide +kernel) (by decide +kernel)
theorem zw2019 : Cond.selects "TemplateHouse$Teller" ⟨"TemplateHouse$Teller", "noteLook", "(II)V"⟩ ⟨"TemplateHouse$Teller", "noteLook", "(II)V"⟩ ∈ zT := zsub9 99 (by decide +kernel) (by decide +kernel)
theorem zw2037 : Cond.code ⟨"TemplateHouse$Heap", "isYes", "(I)Z"⟩ prog_5_method_18_code 2 (Option.some Jvm.ClassFile.FieldType.boolean) ∈ zT := zsub9 117 rfl rfl
theorem zw2036 : Cond.instanceMethod ⟨"TemplateHouse$Heap", "isYes", "(I)Z"⟩ ∈ zT := zsub9 116 (by decide +kernel) (by decide +kernel)
theorem zwp31 : Cond.selects "TemplateHouse$Heap" ⟨"TemplateHouse$Heap", "isYes", "(I)Z"⟩ ⟨"TemplateHouse$Heap", "isYes", "(I)Z"⟩ ∈ zT := zin 31 (by decide +kernel) (by decide +kernel)
theorem zw2041 : Cond.code ⟨"TemplateHouse$Heap", "spellTruth", "(Z)V"⟩ prog_5_method_23_code 4 (Option.none : Option Jvm.ClassFile.FieldType) ∈ zT := zsub9 121 rfl rfl
theorem zw2040 : Cond.instanceMethod ⟨"TemplateHouse$Heap", "spellTruth", "(Z)V"⟩ ∈ zT := zsub9 120 (by decide +kernel) (by decide +kernel)
theorem zwp33 : Cond.selects "TemplateHouse$Heap" ⟨"TemplateHouse$Heap", "spellTruth", "(Z)V"⟩ ⟨"TemplateHouse$Heap", "spellTruth", "(Z)V"⟩ ∈ zT := zin 33 (by decide +kernel) (by decide +kernel)
theorem zw2049 : Cond.code ⟨"TemplateHouse$Heap", "spellNumber", "(J)V"⟩ prog_5_method_24_code 7 (Option.none : Option Jvm.ClassFile.FieldType) ∈ zT := zsub9 129 rfl rfl
theorem zw2048 : Cond.instanceMethod ⟨"TemplateHouse$Heap", "spellNumber", "(J)V"⟩ ∈ zT := zsub9 128 (by decide +kernel) (by decide +kernel)
theorem zwp32 : Cond.selects "TemplateHouse$Heap" ⟨"TemplateHouse$Heap", "spellNumber", "(J)V"⟩ ⟨"TemplateHouse$Heap", "spellNumber", "(J)V"⟩ ∈ zT := zin 32 (by decide +kernel) (by decide +kernel)
theorem zw2069 : Cond.code ⟨"TemplateHouse$Maker", "hex", "(I)I"⟩ prog_7_method_33_code 1 (Option.some Jvm.ClassFile.FieldType.int) ∈ zT := zsub9 149 rfl rfl
theorem zw2068 : Cond.static ⟨"TemplateHouse$Maker", "hex", "(I)I"⟩ ∈ zT := zsub9 148 (by decide +kernel) (by decide +kernel)
theorem zw2081 : Cond.code ⟨"TemplateHouse$Maker", "code", "(I)I"⟩ prog_7_method_8_code 2 (Option.some Jvm.ClassFile.FieldType.int) ∈ zT := zsub9 161 rfl rfl
theorem zw2080 : Cond.instanceMethod ⟨"TemplateHouse$Maker", "code", "(I)I"⟩ ∈ zT := zsub9 160 (by decide +kernel) (by decide +kernel)
theorem zwp38 : Cond.selects "TemplateHouse$Maker" ⟨"TemplateHouse$Maker", "code", "(I)I"⟩ ⟨"TemplateHouse$Maker", "code", "(I)I"⟩ ∈ zT := zin 38 (by decide +kernel) (by decide +kernel)
theorem zw2093 : Cond.code ⟨"TemplateHouse$Maker", "tag", "()V"⟩ prog_7_method_17_code 2 (Option.none : Option Jvm.ClassFile.FieldType) ∈ zT := zsub9 173 rfl rfl
theorem zw2092 : Cond.instanceMethod ⟨"TemplateHouse$Maker", "tag", "()V"⟩ ∈ zT := zsub9 172 (by decide +kernel) (by decide +kernel)
theorem zwp86 : Cond.selects "TemplateHouse$Maker" ⟨"TemplateHouse$Maker", "tag", "()V"⟩ ⟨"TemplateHouse$Maker", "tag", "()V"⟩ ∈ zT := zin 86 (by decide +kernel) (by decide +kernel)
theorem zw2102 : Cond.code ⟨"TemplateHouse$Maker", "pop", "()I"⟩ prog_7_method_10_code 1 (Option.some Jvm.ClassFile.FieldType.int) ∈ zT := zsub9 182 rfl rfl
theorem zw2101 : Cond.instanceMethod ⟨"TemplateHouse$Maker", "pop", "()I"⟩ ∈ zT := zsub9 181 (by decide +kernel) (by decide +kernel)
theorem zwp70 : Cond.selects "TemplateHouse$Maker" ⟨"TemplateHouse$Maker", "pop", "()I"⟩ ⟨"TemplateHouse$Maker", "pop", "()I"⟩ ∈ zT := zin 70 (by decide +kernel) (by decide +kernel)
theorem zw2106 : Cond.code ⟨"TemplateHouse$Heap", "isTrue", "(I)Z"⟩ prog_5_method_17_code 2 (Option.some Jvm.ClassFile.FieldType.boolean) ∈ zT := zsub9 186 rfl rfl
theorem zw2104 : Cond.instanceMethod ⟨"TemplateHouse$Heap", "isTrue", "(I)Z"⟩ ∈ zT := zsub9 184 (by decide +kernel) (by decide +kernel)
theorem zw2105 : Cond.selects "TemplateHouse$Heap" ⟨"TemplateHouse$Heap", "isTrue", "(I)Z"⟩ ⟨"TemplateHouse$Heap", "isTrue", "(I)Z"⟩ ∈ zT := zsub9 185 (by decide +kernel) (by decide +kernel)
theorem zw2111 : Cond.code ⟨"TemplateHouse$Writer", "indent", "(II)V"⟩ prog_13_method_4_code 3 (Option.none : Option Jvm.ClassFile.FieldType) ∈ zT := zsub9 191 rfl rfl
theorem zw2109 : Cond.instanceMethod ⟨"TemplateHouse$Writer", "indent", "(II)V"⟩ ∈ zT := zsub9 189 (by decide +kernel) (by decide +kernel)
theorem zw2110 : Cond.selects "TemplateHouse$Writer" ⟨"TemplateHouse$Writer", "indent", "(II)V"⟩ ⟨"TemplateHouse$Writer", "indent", "(II)V"⟩ ∈ zT := zsub9 190 (by decide +kernel) (by decide +kernel)
theorem zw2224 : Cond.code ⟨"TemplateHouse$Maker", "isBlank", "(I)Z"⟩ prog_7_method_56_code 1 (Option.some Jvm.ClassFile.FieldType.boolean) ∈ zT := zsub10 64 rfl rfl
theorem zw2223 : Cond.static ⟨"TemplateHouse$Maker", "isBlank", "(I)Z"⟩ ∈ zT := zsub10 63 (by decide +kernel) (by decide +kernel)
theorem zw2221 : Cond.code ⟨"TemplateHouse$Maker", "trimmed", "(I)I"⟩ prog_7_method_55_code 4 (Option.some Jvm.ClassFile.FieldType.int) ∈ zT := zsub10 61 rfl rfl
theorem zw2220 : Cond.instanceMethod ⟨"TemplateHouse$Maker", "trimmed", "(I)I"⟩ ∈ zT := zsub10 60 (by decide +kernel) (by decide +kernel)
theorem zwp90 : Cond.selects "TemplateHouse$Maker" ⟨"TemplateHouse$Maker", "trimmed", "(I)I"⟩ ⟨"TemplateHouse$Maker", "trimmed", "(I)I"⟩ ∈ zT := zin 90 (by decide +kernel) (by decide +kernel)
theorem zw2249 : Cond.code ⟨"TemplateHouse$Maker", "collect", "(I)V"⟩ prog_7_method_62_code 2 (Option.none : Option Jvm.ClassFile.FieldType) ∈ zT := zsub10 89 rfl rfl
theorem zw2248 : Cond.instanceMethod ⟨"TemplateHouse$Maker", "collect", "(I)V"⟩ ∈ zT := zsub10 88 (by decide +kernel) (by decide +kernel)
theorem zwp39 : Cond.selects "TemplateHouse$Maker" ⟨"TemplateHouse$Maker", "collect", "(I)V"⟩ ⟨"TemplateHouse$Maker", "collect", "(I)V"⟩ ∈ zT := zin 39 (by decide +kernel) (by decide +kernel)
theorem zw2263 : Cond.code ⟨"TemplateHouse$Maker", "current", "()I"⟩ prog_7_method_61_code 1 (Option.some Jvm.ClassFile.FieldType.int) ∈ zT := zsub10 103 rfl rfl
theorem zw2262 : Cond.instanceMethod ⟨"TemplateHouse$Maker", "current", "()I"⟩ ∈ zT := zsub10 102 (by decide +kernel) (by decide +kernel)
theorem zwp41 : Cond.selects "TemplateHouse$Maker" ⟨"TemplateHouse$Maker", "current", "()I"⟩ ⟨"TemplateHouse$Maker", "current", "()I"⟩ ∈ zT := zin 41 (by decide +kernel) (by decide +kernel)
theorem zw2267 : Cond.code ⟨"TemplateHouse$Maker", "eachText", "()I"⟩ prog_7_method_64_code 1 (Option.some Jvm.ClassFile.FieldType.int) ∈ zT := zsub10 107 rfl rfl
theorem zw2266 : Cond.instanceMethod ⟨"TemplateHouse$Maker", "eachText", "()I"⟩ ∈ zT := zsub10 106 (by decide +kernel) (by decide +kernel)
theorem zwp47 : Cond.selects "TemplateHouse$Maker" ⟨"TemplateHouse$Maker", "eachText", "()I"⟩ ⟨"TemplateHouse$Maker", "eachText", "()I"⟩ ∈ zT := zin 47 (by decide +kernel) (by decide +kernel)
theorem zw2292 : Cond.code ⟨"TemplateHouse", "run", "(I)I"⟩ prog_1_method_23_code 3 (Option.some Jvm.ClassFile.FieldType.int) ∈ zT := zsub10 132 rfl rfl
theorem zw2290 : Cond.instanceMethod ⟨"TemplateHouse", "run", "(I)I"⟩ ∈ zT := zsub10 130 (by decide +kernel) (by decide +kernel)
theorem zw2291 : Cond.selects "TemplateHouse" ⟨"TemplateHouse", "run", "(I)I"⟩ ⟨"TemplateHouse", "run", "(I)I"⟩ ∈ zT := zsub10 131 (by decide +kernel) (by decide +kernel)
theorem zw902 : Cond.code ⟨"TemplateHouse", "stop", "()Z"⟩ prog_1_method_24_code 1 (Option.some Jvm.ClassFile.FieldType.boolean) ∈ zT := zsub4 182 rfl rfl
theorem zw900 : Cond.instanceMethod ⟨"TemplateHouse", "stop", "()Z"⟩ ∈ zT := zsub4 180 (by decide +kernel) (by decide +kernel)
theorem zw901 : Cond.selects "TemplateHouse" ⟨"TemplateHouse", "stop", "()Z"⟩ ⟨"TemplateHouse", "stop", "()Z"⟩ ∈ zT := zsub4 181 (by decide +kernel) (by decide +kernel)
theorem zw906 : Cond.code ⟨"TemplateHouse", "byteOf", "(I)I"⟩ prog_1_method_25_code 2 (Option.some Jvm.ClassFile.FieldType.int) ∈ zT := zsub4 186 rfl rfl
theorem zw904 : Cond.instanceMethod ⟨"TemplateHouse", "byteOf", "(I)I"⟩ ∈ zT := zsub4 184 (by decide +kernel) (by decide +kernel)
theorem zw905 : Cond.selects "TemplateHouse" ⟨"TemplateHouse", "byteOf", "(I)I"⟩ ⟨"TemplateHouse", "byteOf", "(I)I"⟩ ∈ zT := zsub4 185 (by decide +kernel) (by decide +kernel)
theorem zw914 : Cond.code ⟨"TemplateHouse", "told", "(I)I"⟩ prog_1_method_29_code 2 (Option.some Jvm.ClassFile.FieldType.int) ∈ zT := zsub4 194 rfl rfl
theorem zw913 : Cond.instanceMethod ⟨"TemplateHouse", "told", "(I)I"⟩ ∈ zT := zsub4 193 (by decide +kernel) (by decide +kernel)
theorem zwp3 : Cond.selects "TemplateHouse" ⟨"TemplateHouse", "told", "(I)I"⟩ ⟨"TemplateHouse", "told", "(I)I"⟩ ∈ zT := zin 3 (by decide +kernel) (by decide +kernel)
theorem zw910 : Cond.code ⟨"TemplateHouse", "error", "(II)I"⟩ prog_1_method_26_code 3 (Option.some Jvm.ClassFile.FieldType.int) ∈ zT := zsub4 190 rfl rfl
theorem zw908 : Cond.instanceMethod ⟨"TemplateHouse", "error", "(II)I"⟩ ∈ zT := zsub4 188 (by decide +kernel) (by decide +kernel)
theorem zw909 : Cond.selects "TemplateHouse" ⟨"TemplateHouse", "error", "(II)I"⟩ ⟨"TemplateHouse", "error", "(II)I"⟩ ∈ zT := zsub4 189 (by decide +kernel) (by decide +kernel)
theorem zw919 : Cond.code ⟨"TemplateHouse", "looked", "(II)I"⟩ prog_1_method_27_code 3 (Option.some Jvm.ClassFile.FieldType.int) ∈ zT := zsub4 199 rfl rfl
theorem zw917 : Cond.instanceMethod ⟨"TemplateHouse", "looked", "(II)I"⟩ ∈ zT := zsub4 197 (by decide +kernel) (by decide +kernel)
theorem zw918 : Cond.selects "TemplateHouse" ⟨"TemplateHouse", "looked", "(II)I"⟩ ⟨"TemplateHouse", "looked", "(II)I"⟩ ∈ zT := zsub4 198 (by decide +kernel) (by decide +kernel)
theorem zw923 : Cond.code ⟨"TemplateHouse", "look", "(I)I"⟩ prog_1_method_28_code 2 (Option.some Jvm.ClassFile.FieldType.int) ∈ zT := zsub4 203 rfl rfl
theorem zw921 : Cond.instanceMethod ⟨"TemplateHouse", "look", "(I)I"⟩ ∈ zT := zsub4 201 (by decide +kernel) (by decide +kernel)
theorem zw922 : Cond.selects "TemplateHouse" ⟨"TemplateHouse", "look", "(I)I"⟩ ⟨"TemplateHouse", "look", "(I)I"⟩ ∈ zT := zsub4 202 (by decide +kernel) (by decide +kernel)
abbrev cX5_push : ByteArray := prog_7_method_9_code
abbrev yX5_push : MethodName := ⟨"TemplateHouse$Maker", "push", "(I)V"⟩
theorem dmX5_push : zDv yX5_push cX5_push 2 none 1 := ⟨⟨⟨by decide +kernel, by decide +kernel, by decide +kernel⟩, zw1982, zw10⟩, zw1981, zwp73⟩
abbrev cX11_mayWrap : ByteArray := prog_13_method_10_code
abbrev yX11_mayWrap : MethodName := ⟨"TemplateHouse$Writer", "mayWrap", "()Z"⟩
theorem dmX11_mayWrap : zDv yX11_mayWrap cX11_mayWrap 1 (some .boolean) 0 := ⟨⟨⟨by decide +kernel, by decide +kernel, by decide +kernel⟩, zw1990, zw13⟩, zw1988, zw1989⟩
abbrev cX11_isFull : ByteArray := prog_13_method_6_code
abbrev yX11_isFull : MethodName := ⟨"TemplateHouse$Writer", "isFull", "()Z"⟩
theorem dmX11_isFull : zDv yX11_isFull cX11_isFull 1 (some .boolean) 0 := ⟨⟨⟨by decide +kernel, by decide +kernel, by decide +kernel⟩, zw2000, zw13⟩, zw1998, zw1999⟩
abbrev cX11_raw : ByteArray := prog_13_method_9_code
abbrev yX11_raw : MethodName := ⟨"TemplateHouse$Writer", "raw", "(I)V"⟩
theorem dmX11_raw : zDv yX11_raw cX11_raw 4 none 1 := ⟨⟨⟨by decide +kernel, by decide +kernel, by decide +kernel⟩, zw2004, zw13⟩, zw2003, zwp142⟩
abbrev cX5_enter : ByteArray := prog_7_method_27_code
abbrev yX5_enter : MethodName := ⟨"TemplateHouse$Maker", "enter", "()V"⟩
theorem dmX5_enter : zDv yX5_enter cX5_enter 3 none 0 := ⟨⟨⟨by decide +kernel, by decide +kernel, by decide +kernel⟩, zw2016, zw10⟩, zw2015, zwp48⟩
abbrev cX9_noteLook : ByteArray := prog_11_method_4_code
abbrev yX9_noteLook : MethodName := ⟨"TemplateHouse$Teller", "noteLook", "(II)V"⟩
theorem dmX9_noteLook : zDv yX9_noteLook cX9_noteLook 4 none 2 := ⟨⟨⟨by decide +kernel, by decide +kernel, by decide +kernel⟩, zw2020, zw11⟩, zw2018, zw2019⟩
abbrev cX3_isYes : ByteArray := prog_5_method_18_code
abbrev yX3_isYes : MethodName := ⟨"TemplateHouse$Heap", "isYes", "(I)Z"⟩
theorem dmX3_isYes : zDv yX3_isYes cX3_isYes 2 (some .boolean) 1 := ⟨⟨⟨by decide +kernel, by decide +kernel, by decide +kernel⟩, zw2037, zw12⟩, zw2036, zwp31⟩
abbrev cX3_spellTruth : ByteArray := prog_5_method_23_code
abbrev yX3_spellTruth : MethodName := ⟨"TemplateHouse$Heap", "spellTruth", "(Z)V"⟩
theorem dmX3_spellTruth : zDv yX3_spellTruth cX3_spellTruth 4 none 1 := ⟨⟨⟨by decide +kernel, by decide +kernel, by decide +kernel⟩, zw2041, zw12⟩, zw2040, zwp33⟩
abbrev cX3_spellNumber : ByteArray := prog_5_method_24_code
abbrev yX3_spellNumber : MethodName := ⟨"TemplateHouse$Heap", "spellNumber", "(J)V"⟩
theorem dmX3_spellNumber : zDv yX3_spellNumber cX3_spellNumber 7 none 1 := ⟨⟨⟨by decide +kernel, by decide +kernel, by decide +kernel⟩, zw2049, zw12⟩, zw2048, zwp32⟩
abbrev cX5_hex : ByteArray := prog_7_method_33_code
abbrev yX5_hex : MethodName := ⟨"TemplateHouse$Maker", "hex", "(I)I"⟩
theorem dmX5_hex : zDs yX5_hex cX5_hex 1 (some .int) 1 := ⟨⟨⟨by decide +kernel, by decide +kernel, by decide +kernel⟩, zw2069, zw10⟩, zw2068⟩
abbrev cX5_code : ByteArray := prog_7_method_8_code
abbrev yX5_code : MethodName := ⟨"TemplateHouse$Maker", "code", "(I)I"⟩
theorem dmX5_code : zDv yX5_code cX5_code 2 (some .int) 1 := ⟨⟨⟨by decide +kernel, by decide +kernel, by decide +kernel⟩, zw2081, zw10⟩, zw2080, zwp38⟩
abbrev cX5_tag : ByteArray := prog_7_method_17_code
abbrev yX5_tag : MethodName := ⟨"TemplateHouse$Maker", "tag", "()V"⟩
theorem dmX5_tag : zDv yX5_tag cX5_tag 2 none 0 := ⟨⟨⟨by decide +kernel, by decide +kernel, by decide +kernel⟩, zw2093, zw10⟩, zw2092, zwp86⟩
abbrev cX5_pop : ByteArray := prog_7_method_10_code
abbrev yX5_pop : MethodName := ⟨"TemplateHouse$Maker", "pop", "()I"⟩
theorem dmX5_pop : zDv yX5_pop cX5_pop 1 (some .int) 0 := ⟨⟨⟨by decide +kernel, by decide +kernel, by decide +kernel⟩, zw2102, zw10⟩, zw2101, zwp70⟩
abbrev cX3_isTrue : ByteArray := prog_5_method_17_code
abbrev yX3_isTrue : MethodName := ⟨"TemplateHouse$Heap", "isTrue", "(I)Z"⟩
theorem dmX3_isTrue : zDv yX3_isTrue cX3_isTrue 2 (some .boolean) 1 := ⟨⟨⟨by decide +kernel, by decide +kernel, by decide +kernel⟩, zw2106, zw12⟩, zw2104, zw2105⟩
abbrev cX11_indent : ByteArray := prog_13_method_4_code
abbrev yX11_indent : MethodName := ⟨"TemplateHouse$Writer", "indent", "(II)V"⟩
theorem dmX11_indent : zDv yX11_indent cX11_indent 3 none 2 := ⟨⟨⟨by decide +kernel, by decide +kernel, by decide +kernel⟩, zw2111, zw13⟩, zw2109, zw2110⟩
abbrev cX5_isBlank : ByteArray := prog_7_method_56_code
abbrev yX5_isBlank : MethodName := ⟨"TemplateHouse$Maker", "isBlank", "(I)Z"⟩
theorem dmX5_isBlank : zDs yX5_isBlank cX5_isBlank 1 (some .boolean) 1 := ⟨⟨⟨by decide +kernel, by decide +kernel, by decide +kernel⟩, zw2224, zw10⟩, zw2223⟩
abbrev cX5_trimmed : ByteArray := prog_7_method_55_code
abbrev yX5_trimmed : MethodName := ⟨"TemplateHouse$Maker", "trimmed", "(I)I"⟩
theorem dmX5_trimmed : zDv yX5_trimmed cX5_trimmed 4 (some .int) 1 := ⟨⟨⟨by decide +kernel, by decide +kernel, by decide +kernel⟩, zw2221, zw10⟩, zw2220, zwp90⟩
abbrev cX5_collect : ByteArray := prog_7_method_62_code
abbrev yX5_collect : MethodName := ⟨"TemplateHouse$Maker", "collect", "(I)V"⟩
theorem dmX5_collect : zDv yX5_collect cX5_collect 2 none 1 := ⟨⟨⟨by decide +kernel, by decide +kernel, by decide +kernel⟩, zw2249, zw10⟩, zw2248, zwp39⟩
abbrev cX5_current : ByteArray := prog_7_method_61_code
abbrev yX5_current : MethodName := ⟨"TemplateHouse$Maker", "current", "()I"⟩
theorem dmX5_current : zDv yX5_current cX5_current 1 (some .int) 0 := ⟨⟨⟨by decide +kernel, by decide +kernel, by decide +kernel⟩, zw2263, zw10⟩, zw2262, zwp41⟩
abbrev cX5_eachText : ByteArray := prog_7_method_64_code
abbrev yX5_eachText : MethodName := ⟨"TemplateHouse$Maker", "eachText", "()I"⟩
theorem dmX5_eachText : zDv yX5_eachText cX5_eachText 1 (some .int) 0 := ⟨⟨⟨by decide +kernel, by decide +kernel, by decide +kernel⟩, zw2267, zw10⟩, zw2266, zwp47⟩
abbrev cX12_run : ByteArray := prog_1_method_23_code
abbrev yX12_run : MethodName := ⟨"TemplateHouse", "run", "(I)I"⟩
theorem dmX12_run : zDv yX12_run cX12_run 3 (some .int) 1 := ⟨⟨⟨by decide +kernel, by decide +kernel, by decide +kernel⟩, zw2292, zw1⟩, zw2290, zw2291⟩
abbrev cX12_stop : ByteArray := prog_1_method_24_code
abbrev yX12_stop : MethodName := ⟨"TemplateHouse", "stop", "()Z"⟩
theorem dmX12_stop : zDv yX12_stop cX12_stop 1 (some .boolean) 0 := ⟨⟨⟨by decide +kernel, by decide +kernel, by decide +kernel⟩, zw902, zw1⟩, zw900, zw901⟩
abbrev cX12_byteOf : ByteArray := prog_1_method_25_code
abbrev yX12_byteOf : MethodName := ⟨"TemplateHouse", "byteOf", "(I)I"⟩
theorem dmX12_byteOf : zDv yX12_byteOf cX12_byteOf 2 (some .int) 1 := ⟨⟨⟨by decide +kernel, by decide +kernel, by decide +kernel⟩, zw906, zw1⟩, zw904, zw905⟩
abbrev cX12_told : ByteArray := prog_1_method_29_code
abbrev yX12_told : MethodName := ⟨"TemplateHouse", "told", "(I)I"⟩
theorem dmX12_told : zDv yX12_told cX12_told 2 (some .int) 1 := ⟨⟨⟨by decide +kernel, by decide +kernel, by decide +kernel⟩, zw914, zw1⟩, zw913, zwp3⟩
abbrev cX12_error : ByteArray := prog_1_method_26_code
abbrev yX12_error : MethodName := ⟨"TemplateHouse", "error", "(II)I"⟩
theorem dmX12_error : zDv yX12_error cX12_error 3 (some .int) 2 := ⟨⟨⟨by decide +kernel, by decide +kernel, by decide +kernel⟩, zw910, zw1⟩, zw908, zw909⟩
abbrev cX12_looked : ByteArray := prog_1_method_27_code
abbrev yX12_looked : MethodName := ⟨"TemplateHouse", "looked", "(II)I"⟩
theorem dmX12_looked : zDv yX12_looked cX12_looked 3 (some .int) 2 := ⟨⟨⟨by decide +kernel, by decide +kernel, by decide +kernel⟩, zw919, zw1⟩, zw917, zw918⟩
abbrev cX12_look : ByteArray := prog_1_method_28_code
abbrev yX12_look : MethodName := ⟨"TemplateHouse", "look", "(I)I"⟩
theorem dmX12_look : zDv yX12_look cX12_look 2 (some .int) 1 := ⟨⟨⟨by decide +kernel, by decide +kernel, by decide +kernel⟩, zw923, zw1⟩, zw921, zw922⟩
theorem dX5_push_0 : decode cX5_push 0 = .ok (.aload_n 0, 1) := by decide +kernel
theorem dX5_push_1 : decode cX5_push 1 = .ok (.getfield 16, 3) := by decide +kernel
theorem dX5_push_4 : decode cX5_push 4 = .ok (.ifCond .lt 15, 3) := by decide +kernel
theorem dX5_push_19 : decode cX5_push 19 = .ok (.new 134, 3) := by decide +kernel
theorem dX5_push_22 : decode cX5_push 22 = .ok (.dup, 1) := by decide +kernel
theorem dX5_push_23 : decode cX5_push 23 = .ok (.invokespecial 236, 3) := by decide +kernel
theorem dX5_push_26 : decode cX5_push 26 = .ok (.athrow, 1) := by decide +kernel
theorem dX5_push_7 : decode cX5_push 7 = .ok (.aload_n 0, 1) := by decide +kernel
theorem dX5_push_8 : decode cX5_push 8 = .ok (.getfield 16, 3) := by decide +kernel
theorem dX5_push_11 : decode cX5_push 11 = .ok (.aload_n 0, 1) := by decide +kernel
theorem dX5_push_12 : decode cX5_push 12 = .ok (.getfield 10, 3) := by decide +kernel
theorem dX5_push_15 : decode cX5_push 15 = .ok (.arraylength, 1) := by decide +kernel
theorem dX5_push_16 : decode cX5_push 16 = .ok (.if_icmp .lt 11, 3) := by decide +kernel
theorem dX5_push_27 : decode cX5_push 27 = .ok (.aload_n 0, 1) := by decide +kernel
theorem dX5_push_28 : decode cX5_push 28 = .ok (.getfield 10, 3) := by decide +kernel
theorem dX5_push_31 : decode cX5_push 31 = .ok (.aload_n 0, 1) := by decide +kernel
theorem dX5_push_32 : decode cX5_push 32 = .ok (.getfield 16, 3) := by decide +kernel
theorem dX5_push_35 : decode cX5_push 35 = .ok (.iload_n 1, 1) := by decide +kernel
theorem dX5_push_36 : decode cX5_push 36 = .ok (.iastore, 1) := by decide +kernel
theorem dX5_push_37 : decode cX5_push 37 = .ok (.aload_n 0, 1) := by decide +kernel
theorem dX5_push_38 : decode cX5_push 38 = .ok (.dup, 1) := by decide +kernel
theorem dX5_push_39 : decode cX5_push 39 = .ok (.getfield 16, 3) := by decide +kernel
theorem dX5_push_42 : decode cX5_push 42 = .ok (.iconst 1, 1) := by decide +kernel
theorem dX5_push_43 : decode cX5_push 43 = .ok (.iadd, 1) := by decide +kernel
theorem dX5_push_44 : decode cX5_push 44 = .ok (.putfield 16, 3) := by decide +kernel
theorem dX5_push_47 : decode cX5_push 47 = .ok (.return_, 1) := by decide +kernel
theorem dX11_mayWrap_0 : decode cX11_mayWrap 0 = .ok (.aload_n 0, 1) := by decide +kernel
theorem dX11_mayWrap_1 : decode cX11_mayWrap 1 = .ok (.getfield 35, 3) := by decide +kernel
theorem dX11_mayWrap_4 : decode cX11_mayWrap 4 = .ok (.ifCond .ne 32, 3) := by decide +kernel
theorem dX11_mayWrap_37 : decode cX11_mayWrap 37 = .ok (.ireturn, 1) := by decide +kernel
theorem dX11_mayWrap_36 : decode cX11_mayWrap 36 = .ok (.iconst 0, 1) := by decide +kernel
theorem dX11_mayWrap_7 : decode cX11_mayWrap 7 = .ok (.aload_n 0, 1) := by decide +kernel
theorem dX11_mayWrap_8 : decode cX11_mayWrap 8 = .ok (.getfield 22, 3) := by decide +kernel
theorem dX11_mayWrap_11 : decode cX11_mayWrap 11 = .ok (.ifCond .le 25, 3) := by decide +kernel
theorem dX11_mayWrap_14 : decode cX11_mayWrap 14 = .ok (.aload_n 0, 1) := by decide +kernel
theorem dX11_mayWrap_15 : decode cX11_mayWrap 15 = .ok (.getfield 28, 3) := by decide +kernel
theorem dX11_mayWrap_18 : decode cX11_mayWrap 18 = .ok (.ifCond .ne 18, 3) := by decide +kernel
theorem dX11_mayWrap_21 : decode cX11_mayWrap 21 = .ok (.aload_n 0, 1) := by decide +kernel
theorem dX11_mayWrap_22 : decode cX11_mayWrap 22 = .ok (.getfield 25, 3) := by decide +kernel
theorem dX11_mayWrap_25 : decode cX11_mayWrap 25 = .ok (.aload_n 0, 1) := by decide +kernel
theorem dX11_mayWrap_26 : decode cX11_mayWrap 26 = .ok (.getfield 22, 3) := by decide +kernel
theorem dX11_mayWrap_29 : decode cX11_mayWrap 29 = .ok (.if_icmp .lt 7, 3) := by decide +kernel
theorem dX11_mayWrap_32 : decode cX11_mayWrap 32 = .ok (.iconst 1, 1) := by decide +kernel
theorem dX11_mayWrap_33 : decode cX11_mayWrap 33 = .ok (.goto 4, 3) := by decide +kernel
theorem dX11_isFull_0 : decode cX11_isFull 0 = .ok (.aload_n 0, 1) := by decide +kernel
theorem dX11_isFull_1 : decode cX11_isFull 1 = .ok (.getfield 35, 3) := by decide +kernel
theorem dX11_isFull_4 : decode cX11_isFull 4 = .ok (.ifCond .le 17, 3) := by decide +kernel
theorem dX11_isFull_22 : decode cX11_isFull 22 = .ok (.ireturn, 1) := by decide +kernel
theorem dX11_isFull_21 : decode cX11_isFull 21 = .ok (.iconst 0, 1) := by decide +kernel
theorem dX11_isFull_7 : decode cX11_isFull 7 = .ok (.aload_n 0, 1) := by decide +kernel
theorem dX11_isFull_8 : decode cX11_isFull 8 = .ok (.getfield 42, 3) := by decide +kernel
theorem dX11_isFull_11 : decode cX11_isFull 11 = .ok (.sipush 1000, 3) := by decide +kernel
theorem dX11_isFull_14 : decode cX11_isFull 14 = .ok (.if_icmp .lt 7, 3) := by decide +kernel
theorem dX11_isFull_17 : decode cX11_isFull 17 = .ok (.iconst 1, 1) := by decide +kernel
theorem dX11_isFull_18 : decode cX11_isFull 18 = .ok (.goto 4, 3) := by decide +kernel
theorem dX11_raw_0 : decode cX11_raw 0 = .ok (.aload_n 0, 1) := by decide +kernel
theorem dX11_raw_1 : decode cX11_raw 1 = .ok (.dup, 1) := by decide +kernel
theorem dX11_raw_2 : decode cX11_raw 2 = .ok (.getfield 32, 3) := by decide +kernel
theorem dX11_raw_5 : decode cX11_raw 5 = .ok (.iconst 1, 1) := by decide +kernel
theorem dX11_raw_6 : decode cX11_raw 6 = .ok (.iadd, 1) := by decide +kernel
theorem dX11_raw_7 : decode cX11_raw 7 = .ok (.putfield 32, 3) := by decide +kernel
theorem dX11_raw_10 : decode cX11_raw 10 = .ok (.aload_n 0, 1) := by decide +kernel
theorem dX11_raw_11 : decode cX11_raw 11 = .ok (.getfield 35, 3) := by decide +kernel
theorem dX11_raw_14 : decode cX11_raw 14 = .ok (.ifCond .le 61, 3) := by decide +kernel
theorem dX11_raw_75 : decode cX11_raw 75 = .ok (.aload_n 0, 1) := by decide +kernel
theorem dX11_raw_76 : decode cX11_raw 76 = .ok (.getfield 18, 3) := by decide +kernel
theorem dX11_raw_79 : decode cX11_raw 79 = .ok (.ifCond .lt 15, 3) := by decide +kernel
theorem dX11_raw_94 : decode cX11_raw 94 = .ok (.new 91, 3) := by decide +kernel
theorem dX11_raw_97 : decode cX11_raw 97 = .ok (.dup, 1) := by decide +kernel
theorem dX11_raw_98 : decode cX11_raw 98 = .ok (.invokespecial 93, 3) := by decide +kernel
theorem dX11_raw_101 : decode cX11_raw 101 = .ok (.athrow, 1) := by decide +kernel
theorem dX11_raw_82 : decode cX11_raw 82 = .ok (.aload_n 0, 1) := by decide +kernel
theorem dX11_raw_83 : decode cX11_raw 83 = .ok (.getfield 18, 3) := by decide +kernel
theorem dX11_raw_86 : decode cX11_raw 86 = .ok (.aload_n 0, 1) := by decide +kernel
theorem dX11_raw_87 : decode cX11_raw 87 = .ok (.getfield 9, 3) := by decide +kernel
theorem dX11_raw_90 : decode cX11_raw 90 = .ok (.arraylength, 1) := by decide +kernel
theorem dX11_raw_91 : decode cX11_raw 91 = .ok (.if_icmp .lt 11, 3) := by decide +kernel
theorem dX11_raw_102 : decode cX11_raw 102 = .ok (.aload_n 0, 1) := by decide +kernel
theorem dX11_raw_103 : decode cX11_raw 103 = .ok (.getfield 9, 3) := by decide +kernel
theorem dX11_raw_106 : decode cX11_raw 106 = .ok (.aload_n 0, 1) := by decide +kernel
theorem dX11_raw_107 : decode cX11_raw 107 = .ok (.getfield 18, 3) := by decide +kernel
theorem dX11_raw_110 : decode cX11_raw 110 = .ok (.iload_n 1, 1) := by decide +kernel
theorem dX11_raw_111 : decode cX11_raw 111 = .ok (.i2b, 1) := by decide +kernel
theorem dX11_raw_112 : decode cX11_raw 112 = .ok (.bastore, 1) := by decide +kernel
theorem dX11_raw_113 : decode cX11_raw 113 = .ok (.iconst 3, 1) := by decide +kernel
theorem dX11_raw_114 : decode cX11_raw 114 = .ok (.aload_n 0, 1) := by decide +kernel
theorem dX11_raw_115 : decode cX11_raw 115 = .ok (.getfield 18, 3) := by decide +kernel
theorem dX11_raw_118 : decode cX11_raw 118 = .ok (.imul, 1) := by decide +kernel
theorem dX11_raw_119 : decode cX11_raw 119 = .ok (.istore_n 2, 1) := by decide +kernel
theorem dX11_raw_120 : decode cX11_raw 120 = .ok (.iconst 0, 1) := by decide +kernel
theorem dX11_raw_121 : decode cX11_raw 121 = .ok (.istore_n 3, 1) := by decide +kernel
theorem dX11_raw_122 : decode cX11_raw 122 = .ok (.iload_n 3, 1) := by decide +kernel
theorem dX11_raw_123 : decode cX11_raw 123 = .ok (.iconst 3, 1) := by decide +kernel
theorem dX11_raw_124 : decode cX11_raw 124 = .ok (.if_icmp .ge 49, 3) := by decide +kernel
theorem dX11_raw_173 : decode cX11_raw 173 = .ok (.aload_n 0, 1) := by decide +kernel
theorem dX11_raw_174 : decode cX11_raw 174 = .ok (.dup, 1) := by decide +kernel
theorem dX11_raw_175 : decode cX11_raw 175 = .ok (.getfield 18, 3) := by decide +kernel
theorem dX11_raw_178 : decode cX11_raw 178 = .ok (.iconst 1, 1) := by decide +kernel
theorem dX11_raw_179 : decode cX11_raw 179 = .ok (.iadd, 1) := by decide +kernel
theorem dX11_raw_180 : decode cX11_raw 180 = .ok (.putfield 18, 3) := by decide +kernel
theorem dX11_raw_183 : decode cX11_raw 183 = .ok (.return_, 1) := by decide +kernel
theorem dX11_raw_127 : decode cX11_raw 127 = .ok (.iload_n 2, 1) := by decide +kernel
theorem dX11_raw_128 : decode cX11_raw 128 = .ok (.iload_n 3, 1) := by decide +kernel
theorem dX11_raw_129 : decode cX11_raw 129 = .ok (.iadd, 1) := by decide +kernel
theorem dX11_raw_130 : decode cX11_raw 130 = .ok (.aload_n 0, 1) := by decide +kernel
theorem dX11_raw_131 : decode cX11_raw 131 = .ok (.getfield 14, 3) := by decide +kernel
theorem dX11_raw_134 : decode cX11_raw 134 = .ok (.arraylength, 1) := by decide +kernel
theorem dX11_raw_135 : decode cX11_raw 135 = .ok (.if_icmp .ge 38, 3) := by decide +kernel
theorem dX11_raw_138 : decode cX11_raw 138 = .ok (.iload_n 3, 1) := by decide +kernel
theorem dX11_raw_139 : decode cX11_raw 139 = .ok (.aload_n 0, 1) := by decide +kernel
theorem dX11_raw_140 : decode cX11_raw 140 = .ok (.getfield 57, 3) := by decide +kernel
theorem dX11_raw_143 : decode cX11_raw 143 = .ok (.getfield 94, 3) := by decide +kernel
theorem dX11_raw_146 : decode cX11_raw 146 = .ok (.arraylength, 1) := by decide +kernel
theorem dX11_raw_147 : decode cX11_raw 147 = .ok (.if_icmp .ge 26, 3) := by decide +kernel
theorem dX11_raw_150 : decode cX11_raw 150 = .ok (.aload_n 0, 1) := by decide +kernel
theorem dX11_raw_151 : decode cX11_raw 151 = .ok (.getfield 14, 3) := by decide +kernel
theorem dX11_raw_154 : decode cX11_raw 154 = .ok (.iload_n 2, 1) := by decide +kernel
theorem dX11_raw_155 : decode cX11_raw 155 = .ok (.iload_n 3, 1) := by decide +kernel
theorem dX11_raw_156 : decode cX11_raw 156 = .ok (.iadd, 1) := by decide +kernel
theorem dX11_raw_157 : decode cX11_raw 157 = .ok (.aload_n 0, 1) := by decide +kernel
theorem dX11_raw_158 : decode cX11_raw 158 = .ok (.getfield 57, 3) := by decide +kernel
theorem dX11_raw_161 : decode cX11_raw 161 = .ok (.getfield 94, 3) := by decide +kernel
theorem dX11_raw_164 : decode cX11_raw 164 = .ok (.iload_n 3, 1) := by decide +kernel
theorem dX11_raw_165 : decode cX11_raw 165 = .ok (.iaload, 1) := by decide +kernel
theorem dX11_raw_166 : decode cX11_raw 166 = .ok (.iastore, 1) := by decide +kernel
theorem dX5_enter_0 : decode cX5_enter 0 = .ok (.aload_n 0, 1) := by decide +kernel
theorem dX5_enter_1 : decode cX5_enter 1 = .ok (.getfield 21, 3) := by decide +kernel
theorem dX5_enter_4 : decode cX5_enter 4 = .ok (.aload_n 0, 1) := by decide +kernel
theorem dX5_enter_5 : decode cX5_enter 5 = .ok (.getfield 24, 3) := by decide +kernel
theorem dX5_enter_8 : decode cX5_enter 8 = .ok (.iconst 2, 1) := by decide +kernel
theorem dX5_enter_9 : decode cX5_enter 9 = .ok (.isub, 1) := by decide +kernel
theorem dX5_enter_10 : decode cX5_enter 10 = .ok (.invokestatic 113, 3) := by decide +kernel
theorem dX5_enter_13 : decode cX5_enter 13 = .ok (.ldc_w 350, 3) := by decide +kernel
theorem dX5_enter_16 : decode cX5_enter 16 = .ok (.iand, 1) := by decide +kernel
theorem dX5_enter_17 : decode cX5_enter 17 = .ok (.istore_n 1, 1) := by decide +kernel
theorem dX5_enter_18 : decode cX5_enter 18 = .ok (.aload_n 0, 1) := by decide +kernel
theorem dX5_enter_19 : decode cX5_enter 19 = .ok (.dup, 1) := by decide +kernel
theorem dX5_enter_20 : decode cX5_enter 20 = .ok (.getfield 24, 3) := by decide +kernel
theorem dX5_enter_23 : decode cX5_enter 23 = .ok (.iconst 2, 1) := by decide +kernel
theorem dX5_enter_24 : decode cX5_enter 24 = .ok (.isub, 1) := by decide +kernel
theorem dX5_enter_25 : decode cX5_enter 25 = .ok (.putfield 24, 3) := by decide +kernel
theorem dX5_enter_28 : decode cX5_enter 28 = .ok (.aload_n 0, 1) := by decide +kernel
theorem dX5_enter_29 : decode cX5_enter 29 = .ok (.aload_n 0, 1) := by decide +kernel
theorem dX5_enter_30 : decode cX5_enter 30 = .ok (.getfield 30, 3) := by decide +kernel
theorem dX5_enter_33 : decode cX5_enter 33 = .ok (.invokevirtual 299, 3) := by decide +kernel
theorem dX5_enter_36 : decode cX5_enter 36 = .ok (.aload_n 0, 1) := by decide +kernel
theorem dX5_enter_37 : decode cX5_enter 37 = .ok (.aload_n 0, 1) := by decide +kernel
theorem dX5_enter_38 : decode cX5_enter 38 = .ok (.getfield 27, 3) := by decide +kernel
theorem dX5_enter_41 : decode cX5_enter 41 = .ok (.invokevirtual 299, 3) := by decide +kernel
theorem dX5_enter_44 : decode cX5_enter 44 = .ok (.aload_n 0, 1) := by decide +kernel
theorem dX5_enter_45 : decode cX5_enter 45 = .ok (.aload_n 0, 1) := by decide +kernel
theorem dX5_enter_46 : decode cX5_enter 46 = .ok (.getfield 36, 3) := by decide +kernel
theorem dX5_enter_49 : decode cX5_enter 49 = .ok (.invokevirtual 299, 3) := by decide +kernel
theorem dX5_enter_52 : decode cX5_enter 52 = .ok (.aload_n 0, 1) := by decide +kernel
theorem dX5_enter_53 : decode cX5_enter 53 = .ok (.aload_n 0, 1) := by decide +kernel
theorem dX5_enter_54 : decode cX5_enter 54 = .ok (.getfield 33, 3) := by decide +kernel
theorem dX5_enter_57 : decode cX5_enter 57 = .ok (.invokevirtual 299, 3) := by decide +kernel
theorem dX5_enter_60 : decode cX5_enter 60 = .ok (.aload_n 0, 1) := by decide +kernel
theorem dX5_enter_61 : decode cX5_enter 61 = .ok (.iconst 0, 1) := by decide +kernel
theorem dX5_enter_62 : decode cX5_enter 62 = .ok (.invokevirtual 299, 3) := by decide +kernel
theorem dX5_enter_65 : decode cX5_enter 65 = .ok (.aload_n 0, 1) := by decide +kernel
theorem dX5_enter_66 : decode cX5_enter 66 = .ok (.dup, 1) := by decide +kernel
theorem dX5_enter_67 : decode cX5_enter 67 = .ok (.getfield 39, 3) := by decide +kernel
theorem dX5_enter_70 : decode cX5_enter 70 = .ok (.iconst 1, 1) := by decide +kernel
theorem dX5_enter_71 : decode cX5_enter 71 = .ok (.iadd, 1) := by decide +kernel
theorem dX5_enter_72 : decode cX5_enter 72 = .ok (.putfield 39, 3) := by decide +kernel
theorem dX5_enter_75 : decode cX5_enter 75 = .ok (.aload_n 0, 1) := by decide +kernel
theorem dX5_enter_76 : decode cX5_enter 76 = .ok (.iload_n 1, 1) := by decide +kernel
theorem dX5_enter_77 : decode cX5_enter 77 = .ok (.putfield 30, 3) := by decide +kernel
theorem dX5_enter_80 : decode cX5_enter 80 = .ok (.aload_n 0, 1) := by decide +kernel
theorem dX5_enter_81 : decode cX5_enter 81 = .ok (.getfield 83, 3) := by decide +kernel
theorem dX5_enter_84 : decode cX5_enter 84 = .ok (.getfield 140, 3) := by decide +kernel
theorem dX5_enter_87 : decode cX5_enter 87 = .ok (.iload_n 1, 1) := by decide +kernel
theorem dX5_enter_88 : decode cX5_enter 88 = .ok (.invokestatic 113, 3) := by decide +kernel
theorem dX5_enter_91 : decode cX5_enter 91 = .ok (.istore_n 2, 1) := by decide +kernel
theorem dX5_enter_92 : decode cX5_enter 92 = .ok (.aload_n 0, 1) := by decide +kernel
theorem dX5_enter_93 : decode cX5_enter 93 = .ok (.iload_n 2, 1) := by decide +kernel
theorem dX5_enter_94 : decode cX5_enter 94 = .ok (.iconst 3, 1) := by decide +kernel
theorem dX5_enter_95 : decode cX5_enter 95 = .ok (.iadd, 1) := by decide +kernel
theorem dX5_enter_96 : decode cX5_enter 96 = .ok (.iconst 2, 1) := by decide +kernel
theorem dX5_enter_97 : decode cX5_enter 97 = .ok (.aload_n 0, 1) := by decide +kernel
theorem dX5_enter_98 : decode cX5_enter 98 = .ok (.getfield 70, 3) := by decide +kernel
theorem dX5_enter_101 : decode cX5_enter 101 = .ok (.getfield 117, 3) := by decide +kernel
theorem dX5_enter_104 : decode cX5_enter 104 = .ok (.iload_n 2, 1) := by decide +kernel
theorem dX5_enter_105 : decode cX5_enter 105 = .ok (.iconst 2, 1) := by decide +kernel
theorem dX5_enter_106 : decode cX5_enter 106 = .ok (.iadd, 1) := by decide +kernel
theorem dX5_enter_107 : decode cX5_enter 107 = .ok (.invokestatic 113, 3) := by decide +kernel
theorem dX5_enter_110 : decode cX5_enter 110 = .ok (.imul, 1) := by decide +kernel
theorem dX5_enter_111 : decode cX5_enter 111 = .ok (.iadd, 1) := by decide +kernel
theorem dX5_enter_112 : decode cX5_enter 112 = .ok (.putfield 27, 3) := by decide +kernel
theorem dX5_enter_115 : decode cX5_enter 115 = .ok (.aload_n 0, 1) := by decide +kernel
theorem dX5_enter_116 : decode cX5_enter 116 = .ok (.aload_n 0, 1) := by decide +kernel
theorem dX5_enter_117 : decode cX5_enter 117 = .ok (.getfield 92, 3) := by decide +kernel
theorem dX5_enter_120 : decode cX5_enter 120 = .ok (.getfield 262, 3) := by decide +kernel
theorem dX5_enter_123 : decode cX5_enter 123 = .ok (.putfield 36, 3) := by decide +kernel
theorem dX5_enter_126 : decode cX5_enter 126 = .ok (.return_, 1) := by decide +kernel
theorem dX9_noteLook_0 : decode cX9_noteLook 0 = .ok (.aload_n 0, 1) := by decide +kernel
theorem dX9_noteLook_1 : decode cX9_noteLook 1 = .ok (.getfield 16, 3) := by decide +kernel
theorem dX9_noteLook_4 : decode cX9_noteLook 4 = .ok (.iconst 1, 1) := by decide +kernel
theorem dX9_noteLook_5 : decode cX9_noteLook 5 = .ok (.invokestatic 25, 3) := by decide +kernel
theorem dX9_noteLook_8 : decode cX9_noteLook 8 = .ok (.istore_n 3, 1) := by decide +kernel
theorem dX9_noteLook_9 : decode cX9_noteLook 9 = .ok (.iload_n 3, 1) := by decide +kernel
theorem dX9_noteLook_10 : decode cX9_noteLook 10 = .ok (.sipush 1000, 3) := by decide +kernel
theorem dX9_noteLook_13 : decode cX9_noteLook 13 = .ok (.if_icmp .ge 27, 3) := by decide +kernel
theorem dX9_noteLook_40 : decode cX9_noteLook 40 = .ok (.aload_n 0, 1) := by decide +kernel
theorem dX9_noteLook_41 : decode cX9_noteLook 41 = .ok (.getfield 16, 3) := by decide +kernel
theorem dX9_noteLook_44 : decode cX9_noteLook 44 = .ok (.iconst 1, 1) := by decide +kernel
theorem dX9_noteLook_45 : decode cX9_noteLook 45 = .ok (.iload_n 3, 1) := by decide +kernel
theorem dX9_noteLook_46 : decode cX9_noteLook 46 = .ok (.iconst 1, 1) := by decide +kernel
theorem dX9_noteLook_47 : decode cX9_noteLook 47 = .ok (.iadd, 1) := by decide +kernel
theorem dX9_noteLook_48 : decode cX9_noteLook 48 = .ok (.invokestatic 31, 3) := by decide +kernel
theorem dX9_noteLook_51 : decode cX9_noteLook 51 = .ok (.return_, 1) := by decide +kernel
theorem dX9_noteLook_16 : decode cX9_noteLook 16 = .ok (.aload_n 0, 1) := by decide +kernel
theorem dX9_noteLook_17 : decode cX9_noteLook 17 = .ok (.getfield 13, 3) := by decide +kernel
theorem dX9_noteLook_20 : decode cX9_noteLook 20 = .ok (.iconst 2, 1) := by decide +kernel
theorem dX9_noteLook_21 : decode cX9_noteLook 21 = .ok (.iload_n 3, 1) := by decide +kernel
theorem dX9_noteLook_22 : decode cX9_noteLook 22 = .ok (.imul, 1) := by decide +kernel
theorem dX9_noteLook_23 : decode cX9_noteLook 23 = .ok (.iload_n 1, 1) := by decide +kernel
theorem dX9_noteLook_24 : decode cX9_noteLook 24 = .ok (.invokestatic 31, 3) := by decide +kernel
theorem dX9_noteLook_27 : decode cX9_noteLook 27 = .ok (.aload_n 0, 1) := by decide +kernel
theorem dX9_noteLook_28 : decode cX9_noteLook 28 = .ok (.getfield 13, 3) := by decide +kernel
theorem dX9_noteLook_31 : decode cX9_noteLook 31 = .ok (.iconst 2, 1) := by decide +kernel
theorem dX9_noteLook_32 : decode cX9_noteLook 32 = .ok (.iload_n 3, 1) := by decide +kernel
theorem dX9_noteLook_33 : decode cX9_noteLook 33 = .ok (.imul, 1) := by decide +kernel
theorem dX9_noteLook_34 : decode cX9_noteLook 34 = .ok (.iconst 1, 1) := by decide +kernel
theorem dX9_noteLook_35 : decode cX9_noteLook 35 = .ok (.iadd, 1) := by decide +kernel
theorem dX9_noteLook_36 : decode cX9_noteLook 36 = .ok (.iload_n 2, 1) := by decide +kernel
theorem dX9_noteLook_37 : decode cX9_noteLook 37 = .ok (.invokestatic 31, 3) := by decide +kernel
theorem dX3_isYes_0 : decode cX3_isYes 0 = .ok (.iload_n 1, 1) := by decide +kernel
theorem dX3_isYes_1 : decode cX3_isYes 1 = .ok (.ifCond .lt 33, 3) := by decide +kernel
theorem dX3_isYes_35 : decode cX3_isYes 35 = .ok (.ireturn, 1) := by decide +kernel
theorem dX3_isYes_34 : decode cX3_isYes 34 = .ok (.iconst 0, 1) := by decide +kernel
theorem dX3_isYes_4 : decode cX3_isYes 4 = .ok (.iload_n 1, 1) := by decide +kernel
theorem dX3_isYes_5 : decode cX3_isYes 5 = .ok (.aload_n 0, 1) := by decide +kernel
theorem dX3_isYes_6 : decode cX3_isYes 6 = .ok (.getfield 67, 3) := by decide +kernel
theorem dX3_isYes_9 : decode cX3_isYes 9 = .ok (.getfield 171, 3) := by decide +kernel
theorem dX3_isYes_12 : decode cX3_isYes 12 = .ok (.arraylength, 1) := by decide +kernel
theorem dX3_isYes_13 : decode cX3_isYes 13 = .ok (.if_icmp .ge 21, 3) := by decide +kernel
theorem dX3_isYes_16 : decode cX3_isYes 16 = .ok (.aload_n 0, 1) := by decide +kernel
theorem dX3_isYes_17 : decode cX3_isYes 17 = .ok (.getfield 67, 3) := by decide +kernel
theorem dX3_isYes_20 : decode cX3_isYes 20 = .ok (.getfield 171, 3) := by decide +kernel
theorem dX3_isYes_23 : decode cX3_isYes 23 = .ok (.iload_n 1, 1) := by decide +kernel
theorem dX3_isYes_24 : decode cX3_isYes 24 = .ok (.laload, 1) := by decide +kernel
theorem dX3_isYes_25 : decode cX3_isYes 25 = .ok (.lconst 0, 1) := by decide +kernel
theorem dX3_isYes_26 : decode cX3_isYes 26 = .ok (.lcmp, 1) := by decide +kernel
theorem dX3_isYes_27 : decode cX3_isYes 27 = .ok (.ifCond .eq 7, 3) := by decide +kernel
theorem dX3_isYes_30 : decode cX3_isYes 30 = .ok (.iconst 1, 1) := by decide +kernel
theorem dX3_isYes_31 : decode cX3_isYes 31 = .ok (.goto 4, 3) := by decide +kernel
theorem dX3_spellTruth_0 : decode cX3_spellTruth 0 = .ok (.iload_n 1, 1) := by decide +kernel
theorem dX3_spellTruth_1 : decode cX3_spellTruth 1 = .ok (.ifCond .eq 8, 3) := by decide +kernel
theorem dX3_spellTruth_11 : decode cX3_spellTruth 11 = .ok (.astore_n 2, 1) := by decide +kernel
theorem dX3_spellTruth_12 : decode cX3_spellTruth 12 = .ok (.iconst 0, 1) := by decide +kernel
theorem dX3_spellTruth_13 : decode cX3_spellTruth 13 = .ok (.istore_n 3, 1) := by decide +kernel
theorem dX3_spellTruth_14 : decode cX3_spellTruth 14 = .ok (.iload_n 3, 1) := by decide +kernel
theorem dX3_spellTruth_15 : decode cX3_spellTruth 15 = .ok (.aload_n 2, 1) := by decide +kernel
theorem dX3_spellTruth_16 : decode cX3_spellTruth 16 = .ok (.invokevirtual 226, 3) := by decide +kernel
theorem dX3_spellNumber_0 : decode cX3_spellNumber 0 = .ok (.lload_n 1, 1) := by decide +kernel
theorem dX3_spellNumber_1 : decode cX3_spellNumber 1 = .ok (.lstore_n 3, 1) := by decide +kernel
theorem dX3_spellNumber_2 : decode cX3_spellNumber 2 = .ok (.aload_n 0, 1) := by decide +kernel
theorem dX3_spellNumber_3 : decode cX3_spellNumber 3 = .ok (.getfield 64, 3) := by decide +kernel
theorem dX3_spellNumber_6 : decode cX3_spellNumber 6 = .ok (.arraylength, 1) := by decide +kernel
theorem dX3_spellNumber_7 : decode cX3_spellNumber 7 = .ok (.istore 5, 2) := by decide +kernel
theorem dX3_spellNumber_9 : decode cX3_spellNumber 9 = .ok (.lload_n 3, 1) := by decide +kernel
theorem dX3_spellNumber_10 : decode cX3_spellNumber 10 = .ok (.ldc2_w 235, 3) := by decide +kernel
theorem dX3_spellNumber_13 : decode cX3_spellNumber 13 = .ok (.lrem, 1) := by decide +kernel
theorem dX3_spellNumber_14 : decode cX3_spellNumber 14 = .ok (.l2i, 1) := by decide +kernel
theorem dX3_spellNumber_15 : decode cX3_spellNumber 15 = .ok (.istore 6, 2) := by decide +kernel
theorem dX3_spellNumber_17 : decode cX3_spellNumber 17 = .ok (.lload_n 3, 1) := by decide +kernel
theorem dX3_spellNumber_18 : decode cX3_spellNumber 18 = .ok (.ldc2_w 235, 3) := by decide +kernel
theorem dX3_spellNumber_21 : decode cX3_spellNumber 21 = .ok (.ldiv, 1) := by decide +kernel
theorem dX3_spellNumber_22 : decode cX3_spellNumber 22 = .ok (.lstore_n 3, 1) := by decide +kernel
theorem dX3_spellNumber_23 : decode cX3_spellNumber 23 = .ok (.iinc 5 (-1), 3) := by decide +kernel
theorem dX3_spellNumber_26 : decode cX3_spellNumber 26 = .ok (.aload_n 0, 1) := by decide +kernel
theorem dX3_spellNumber_27 : decode cX3_spellNumber 27 = .ok (.getfield 64, 3) := by decide +kernel
theorem dX3_spellNumber_30 : decode cX3_spellNumber 30 = .ok (.iload 5, 2) := by decide +kernel
theorem dX3_spellNumber_32 : decode cX3_spellNumber 32 = .ok (.bipush 48, 2) := by decide +kernel
theorem dX3_spellNumber_34 : decode cX3_spellNumber 34 = .ok (.iload 6, 2) := by decide +kernel
theorem dX3_spellNumber_36 : decode cX3_spellNumber 36 = .ok (.ifCond .ge 9, 3) := by decide +kernel
theorem dX3_spellNumber_47 : decode cX3_spellNumber 47 = .ok (.iadd, 1) := by decide +kernel
theorem dX3_spellNumber_48 : decode cX3_spellNumber 48 = .ok (.invokestatic 105, 3) := by decide +kernel
theorem dX3_spellNumber_51 : decode cX3_spellNumber 51 = .ok (.lload_n 3, 1) := by decide +kernel
theorem dX3_spellNumber_52 : decode cX3_spellNumber 52 = .ok (.lconst 0, 1) := by decide +kernel
theorem dX3_spellNumber_53 : decode cX3_spellNumber 53 = .ok (.lcmp, 1) := by decide +kernel
theorem dX3_spellNumber_54 : decode cX3_spellNumber 54 = .ok (.ifCond .eq 8, 3) := by decide +kernel
theorem dX3_spellNumber_62 : decode cX3_spellNumber 62 = .ok (.lload_n 1, 1) := by decide +kernel
theorem dX3_spellNumber_63 : decode cX3_spellNumber 63 = .ok (.lconst 0, 1) := by decide +kernel
theorem dX3_spellNumber_64 : decode cX3_spellNumber 64 = .ok (.lcmp, 1) := by decide +kernel
theorem dX3_spellNumber_65 : decode cX3_spellNumber 65 = .ok (.ifCond .ge 17, 3) := by decide +kernel
theorem dX3_spellNumber_82 : decode cX3_spellNumber 82 = .ok (.aload_n 0, 1) := by decide +kernel
theorem dX3_spellNumber_83 : decode cX3_spellNumber 83 = .ok (.aload_n 0, 1) := by decide +kernel
theorem dX3_spellNumber_84 : decode cX3_spellNumber 84 = .ok (.getfield 64, 3) := by decide +kernel
theorem dX3_spellNumber_87 : decode cX3_spellNumber 87 = .ok (.putfield 55, 3) := by decide +kernel
theorem dX3_spellNumber_90 : decode cX3_spellNumber 90 = .ok (.aload_n 0, 1) := by decide +kernel
theorem dX3_spellNumber_91 : decode cX3_spellNumber 91 = .ok (.iload 5, 2) := by decide +kernel
theorem dX3_spellNumber_93 : decode cX3_spellNumber 93 = .ok (.putfield 58, 3) := by decide +kernel
theorem dX3_spellNumber_96 : decode cX3_spellNumber 96 = .ok (.aload_n 0, 1) := by decide +kernel
theorem dX3_spellNumber_97 : decode cX3_spellNumber 97 = .ok (.aload_n 0, 1) := by decide +kernel
theorem dX3_spellNumber_98 : decode cX3_spellNumber 98 = .ok (.getfield 64, 3) := by decide +kernel
theorem dX3_spellNumber_101 : decode cX3_spellNumber 101 = .ok (.arraylength, 1) := by decide +kernel
theorem dX3_spellNumber_102 : decode cX3_spellNumber 102 = .ok (.iload 5, 2) := by decide +kernel
theorem dX3_spellNumber_104 : decode cX3_spellNumber 104 = .ok (.isub, 1) := by decide +kernel
theorem dX3_spellNumber_105 : decode cX3_spellNumber 105 = .ok (.putfield 61, 3) := by decide +kernel
theorem dX3_spellNumber_108 : decode cX3_spellNumber 108 = .ok (.return_, 1) := by decide +kernel
theorem dX3_spellNumber_68 : decode cX3_spellNumber 68 = .ok (.iinc 5 (-1), 3) := by decide +kernel
theorem dX3_spellNumber_71 : decode cX3_spellNumber 71 = .ok (.aload_n 0, 1) := by decide +kernel
theorem dX3_spellNumber_72 : decode cX3_spellNumber 72 = .ok (.getfield 64, 3) := by decide +kernel
theorem dX3_spellNumber_75 : decode cX3_spellNumber 75 = .ok (.iload 5, 2) := by decide +kernel
theorem dX3_spellNumber_77 : decode cX3_spellNumber 77 = .ok (.bipush 45, 2) := by decide +kernel
theorem dX3_spellNumber_79 : decode cX3_spellNumber 79 = .ok (.invokestatic 105, 3) := by decide +kernel
theorem dX3_spellNumber_57 : decode cX3_spellNumber 57 = .ok (.iload 5, 2) := by decide +kernel
theorem dX3_spellNumber_59 : decode cX3_spellNumber 59 = .ok (.ifCond .gt (-50), 3) := by decide +kernel
theorem dX5_hex_0 : decode cX5_hex 0 = .ok (.iload_n 0, 1) := by decide +kernel
theorem dX5_hex_1 : decode cX5_hex 1 = .ok (.bipush 10, 2) := by decide +kernel
theorem dX5_hex_3 : decode cX5_hex 3 = .ok (.if_icmp .ge 10, 3) := by decide +kernel
theorem dX5_hex_20 : decode cX5_hex 20 = .ok (.ireturn, 1) := by decide +kernel
theorem dX5_hex_13 : decode cX5_hex 13 = .ok (.bipush 65, 2) := by decide +kernel
theorem dX5_hex_15 : decode cX5_hex 15 = .ok (.iload_n 0, 1) := by decide +kernel
theorem dX5_hex_16 : decode cX5_hex 16 = .ok (.iadd, 1) := by decide +kernel
theorem dX5_hex_17 : decode cX5_hex 17 = .ok (.bipush 10, 2) := by decide +kernel
theorem dX5_hex_19 : decode cX5_hex 19 = .ok (.isub, 1) := by decide +kernel
theorem dX5_hex_6 : decode cX5_hex 6 = .ok (.bipush 48, 2) := by decide +kernel
theorem dX5_hex_8 : decode cX5_hex 8 = .ok (.iload_n 0, 1) := by decide +kernel
theorem dX5_hex_9 : decode cX5_hex 9 = .ok (.iadd, 1) := by decide +kernel
theorem dX5_hex_10 : decode cX5_hex 10 = .ok (.goto 10, 3) := by decide +kernel
theorem dX5_code_0 : decode cX5_code 0 = .ok (.aload_n 0, 1) := by decide +kernel
theorem dX5_code_1 : decode cX5_code 1 = .ok (.getfield 70, 3) := by decide +kernel
theorem dX5_code_4 : decode cX5_code 4 = .ok (.getfield 117, 3) := by decide +kernel
theorem dX5_code_7 : decode cX5_code 7 = .ok (.aload_n 0, 1) := by decide +kernel
theorem dX5_code_8 : decode cX5_code 8 = .ok (.getfield 27, 3) := by decide +kernel
theorem dX5_code_11 : decode cX5_code 11 = .ok (.iload_n 1, 1) := by decide +kernel
theorem dX5_code_12 : decode cX5_code 12 = .ok (.iadd, 1) := by decide +kernel
theorem dX5_code_13 : decode cX5_code 13 = .ok (.invokestatic 113, 3) := by decide +kernel
theorem dX5_code_16 : decode cX5_code 16 = .ok (.ireturn, 1) := by decide +kernel
theorem dX5_tag_0 : decode cX5_tag 0 = .ok (.aload_n 0, 1) := by decide +kernel
theorem dX5_tag_1 : decode cX5_tag 1 = .ok (.aload_n 0, 1) := by decide +kernel
theorem dX5_tag_2 : decode cX5_tag 2 = .ok (.iconst 1, 1) := by decide +kernel
theorem dX5_tag_3 : decode cX5_tag 3 = .ok (.invokevirtual 252, 3) := by decide +kernel
theorem dX5_tag_6 : decode cX5_tag 6 = .ok (.putfield 33, 3) := by decide +kernel
theorem dX5_tag_9 : decode cX5_tag 9 = .ok (.aload_n 0, 1) := by decide +kernel
theorem dX5_tag_10 : decode cX5_tag 10 = .ok (.iconst 2, 1) := by decide +kernel
theorem dX5_tag_11 : decode cX5_tag 11 = .ok (.invokevirtual 252, 3) := by decide +kernel
theorem dX5_tag_14 : decode cX5_tag 14 = .ok (.istore_n 1, 1) := by decide +kernel
theorem dX5_tag_15 : decode cX5_tag 15 = .ok (.iload_n 1, 1) := by decide +kernel
theorem dX5_tag_16 : decode cX5_tag 16 = .ok (.ifCond .ne 14, 3) := by decide +kernel
theorem dX5_tag_30 : decode cX5_tag 30 = .ok (.aload_n 0, 1) := by decide +kernel
theorem dX5_tag_31 : decode cX5_tag 31 = .ok (.iconst (-1), 1) := by decide +kernel
theorem dX5_tag_32 : decode cX5_tag 32 = .ok (.invokevirtual 259, 3) := by decide +kernel
theorem dX5_tag_35 : decode cX5_tag 35 = .ok (.aload_n 0, 1) := by decide +kernel
theorem dX5_tag_36 : decode cX5_tag 36 = .ok (.iconst (-1), 1) := by decide +kernel
theorem dX5_tag_37 : decode cX5_tag 37 = .ok (.invokevirtual 259, 3) := by decide +kernel
theorem dX5_tag_40 : decode cX5_tag 40 = .ok (.aload_n 0, 1) := by decide +kernel
theorem dX5_tag_41 : decode cX5_tag 41 = .ok (.iconst 0, 1) := by decide +kernel
theorem dX5_tag_42 : decode cX5_tag 42 = .ok (.invokevirtual 259, 3) := by decide +kernel
theorem dX5_tag_45 : decode cX5_tag 45 = .ok (.aload_n 0, 1) := by decide +kernel
theorem dX5_tag_46 : decode cX5_tag 46 = .ok (.iconst (-1), 1) := by decide +kernel
theorem dX5_tag_47 : decode cX5_tag 47 = .ok (.invokevirtual 259, 3) := by decide +kernel
theorem dX5_tag_50 : decode cX5_tag 50 = .ok (.aload_n 0, 1) := by decide +kernel
theorem dX5_tag_51 : decode cX5_tag 51 = .ok (.ldc_w 283, 3) := by decide +kernel
theorem dX5_tag_54 : decode cX5_tag 54 = .ok (.invokevirtual 259, 3) := by decide +kernel
theorem dX5_tag_57 : decode cX5_tag 57 = .ok (.aload_n 0, 1) := by decide +kernel
theorem dX5_tag_58 : decode cX5_tag 58 = .ok (.iload_n 1, 1) := by decide +kernel
theorem dX5_tag_59 : decode cX5_tag 59 = .ok (.putfield 27, 3) := by decide +kernel
theorem dX5_tag_62 : decode cX5_tag 62 = .ok (.return_, 1) := by decide +kernel
theorem dX5_tag_19 : decode cX5_tag 19 = .ok (.aload_n 0, 1) := by decide +kernel
theorem dX5_tag_20 : decode cX5_tag 20 = .ok (.dup, 1) := by decide +kernel
theorem dX5_tag_21 : decode cX5_tag 21 = .ok (.getfield 27, 3) := by decide +kernel
theorem dX5_tag_24 : decode cX5_tag 24 = .ok (.iconst 3, 1) := by decide +kernel
theorem dX5_tag_25 : decode cX5_tag 25 = .ok (.iadd, 1) := by decide +kernel
theorem dX5_tag_26 : decode cX5_tag 26 = .ok (.putfield 27, 3) := by decide +kernel
theorem dX5_tag_29 : decode cX5_tag 29 = .ok (.return_, 1) := by decide +kernel
theorem dX5_pop_0 : decode cX5_pop 0 = .ok (.aload_n 0, 1) := by decide +kernel
theorem dX5_pop_1 : decode cX5_pop 1 = .ok (.getfield 16, 3) := by decide +kernel
theorem dX5_pop_4 : decode cX5_pop 4 = .ok (.ifCond .le 15, 3) := by decide +kernel
theorem dX5_pop_19 : decode cX5_pop 19 = .ok (.iconst (-1), 1) := by decide +kernel
theorem dX5_pop_20 : decode cX5_pop 20 = .ok (.ireturn, 1) := by decide +kernel
theorem dX5_pop_7 : decode cX5_pop 7 = .ok (.aload_n 0, 1) := by decide +kernel
theorem dX5_pop_8 : decode cX5_pop 8 = .ok (.getfield 16, 3) := by decide +kernel
theorem dX5_pop_11 : decode cX5_pop 11 = .ok (.aload_n 0, 1) := by decide +kernel
theorem dX5_pop_12 : decode cX5_pop 12 = .ok (.getfield 10, 3) := by decide +kernel
theorem dX5_pop_15 : decode cX5_pop 15 = .ok (.arraylength, 1) := by decide +kernel
theorem dX5_pop_16 : decode cX5_pop 16 = .ok (.if_icmp .le 5, 3) := by decide +kernel
theorem dX5_pop_21 : decode cX5_pop 21 = .ok (.aload_n 0, 1) := by decide +kernel
theorem dX5_pop_22 : decode cX5_pop 22 = .ok (.dup, 1) := by decide +kernel
theorem dX5_pop_23 : decode cX5_pop 23 = .ok (.getfield 16, 3) := by decide +kernel
theorem dX5_pop_26 : decode cX5_pop 26 = .ok (.iconst 1, 1) := by decide +kernel
theorem dX5_pop_27 : decode cX5_pop 27 = .ok (.isub, 1) := by decide +kernel
theorem dX5_pop_28 : decode cX5_pop 28 = .ok (.putfield 16, 3) := by decide +kernel
theorem dX5_pop_31 : decode cX5_pop 31 = .ok (.aload_n 0, 1) := by decide +kernel
theorem dX5_pop_32 : decode cX5_pop 32 = .ok (.getfield 10, 3) := by decide +kernel
theorem dX5_pop_35 : decode cX5_pop 35 = .ok (.aload_n 0, 1) := by decide +kernel
theorem dX5_pop_36 : decode cX5_pop 36 = .ok (.getfield 16, 3) := by decide +kernel
theorem dX5_pop_39 : decode cX5_pop 39 = .ok (.iaload, 1) := by decide +kernel
theorem dX3_isTrue_0 : decode cX3_isTrue 0 = .ok (.iload_n 1, 1) := by decide +kernel
theorem dX3_isTrue_1 : decode cX3_isTrue 1 = .ok (.iconst (-1), 1) := by decide +kernel
theorem dX3_isTrue_2 : decode cX3_isTrue 2 = .ok (.if_icmp .eq 26, 3) := by decide +kernel
theorem dX3_isTrue_28 : decode cX3_isTrue 28 = .ok (.iconst 0, 1) := by decide +kernel
theorem dX3_isTrue_29 : decode cX3_isTrue 29 = .ok (.ireturn, 1) := by decide +kernel
theorem dX3_isTrue_5 : decode cX3_isTrue 5 = .ok (.iload_n 1, 1) := by decide +kernel
theorem dX3_isTrue_6 : decode cX3_isTrue 6 = .ok (.ldc 160, 2) := by decide +kernel
theorem dX3_isTrue_8 : decode cX3_isTrue 8 = .ok (.if_icmp .eq 20, 3) := by decide +kernel
theorem dX3_isTrue_11 : decode cX3_isTrue 11 = .ok (.aload_n 0, 1) := by decide +kernel
theorem dX3_isTrue_12 : decode cX3_isTrue 12 = .ok (.iload_n 1, 1) := by decide +kernel
theorem dX3_isTrue_13 : decode cX3_isTrue 13 = .ok (.iconst 0, 1) := by decide +kernel
theorem dX3_isTrue_14 : decode cX3_isTrue 14 = .ok (.invokevirtual 161, 3) := by decide +kernel
theorem dX3_isTrue_17 : decode cX3_isTrue 17 = .ok (.ifCond .eq 13, 3) := by decide +kernel
theorem dX3_isTrue_30 : decode cX3_isTrue 30 = .ok (.iload_n 1, 1) := by decide +kernel
theorem dX3_isTrue_31 : decode cX3_isTrue 31 = .ok (.invokestatic 119, 3) := by decide +kernel
theorem dX3_isTrue_34 : decode cX3_isTrue 34 = .ok (.ldc 136, 2) := by decide +kernel
theorem dX3_isTrue_36 : decode cX3_isTrue 36 = .ok (.if_icmp .ne 28, 3) := by decide +kernel
theorem dX3_isTrue_64 : decode cX3_isTrue 64 = .ok (.aload_n 0, 1) := by decide +kernel
theorem dX3_isTrue_65 : decode cX3_isTrue 65 = .ok (.iload_n 1, 1) := by decide +kernel
theorem dX3_isTrue_66 : decode cX3_isTrue 66 = .ok (.invokevirtual 126, 3) := by decide +kernel
theorem dX3_isTrue_69 : decode cX3_isTrue 69 = .ok (.ifCond .eq 11, 3) := by decide +kernel
theorem dX3_isTrue_85 : decode cX3_isTrue 85 = .ok (.ireturn, 1) := by decide +kernel
theorem dX3_isTrue_80 : decode cX3_isTrue 80 = .ok (.iconst 1, 1) := by decide +kernel
theorem dX3_isTrue_81 : decode cX3_isTrue 81 = .ok (.goto 4, 3) := by decide +kernel
theorem dX3_isTrue_72 : decode cX3_isTrue 72 = .ok (.aload_n 0, 1) := by decide +kernel
theorem dX3_isTrue_73 : decode cX3_isTrue 73 = .ok (.iload_n 1, 1) := by decide +kernel
theorem dX3_isTrue_74 : decode cX3_isTrue 74 = .ok (.invokevirtual 168, 3) := by decide +kernel
theorem dX3_isTrue_77 : decode cX3_isTrue 77 = .ok (.ifCond .le 7, 3) := by decide +kernel
theorem dX3_isTrue_84 : decode cX3_isTrue 84 = .ok (.iconst 0, 1) := by decide +kernel
theorem dX3_isTrue_39 : decode cX3_isTrue 39 = .ok (.aload_n 0, 1) := by decide +kernel
theorem dX3_isTrue_40 : decode cX3_isTrue 40 = .ok (.getfield 75, 3) := by decide +kernel
theorem dX3_isTrue_43 : decode cX3_isTrue 43 = .ok (.getfield 137, 3) := by decide +kernel
theorem dX3_isTrue_46 : decode cX3_isTrue 46 = .ok (.iload_n 1, 1) := by decide +kernel
theorem dX3_isTrue_47 : decode cX3_isTrue 47 = .ok (.ldc 100, 2) := by decide +kernel
theorem dX3_isTrue_49 : decode cX3_isTrue 49 = .ok (.iand, 1) := by decide +kernel
theorem dX3_isTrue_50 : decode cX3_isTrue 50 = .ok (.iconst 2, 1) := by decide +kernel
theorem dX3_isTrue_51 : decode cX3_isTrue 51 = .ok (.iadd, 1) := by decide +kernel
theorem dX3_isTrue_52 : decode cX3_isTrue 52 = .ok (.invokestatic 122, 3) := by decide +kernel
theorem dX3_isTrue_55 : decode cX3_isTrue 55 = .ok (.ifCond .le 7, 3) := by decide +kernel
theorem dX3_isTrue_63 : decode cX3_isTrue 63 = .ok (.ireturn, 1) := by decide +kernel
theorem dX3_isTrue_62 : decode cX3_isTrue 62 = .ok (.iconst 0, 1) := by decide +kernel
theorem dX3_isTrue_58 : decode cX3_isTrue 58 = .ok (.iconst 1, 1) := by decide +kernel
theorem dX3_isTrue_59 : decode cX3_isTrue 59 = .ok (.goto 4, 3) := by decide +kernel
theorem dX3_isTrue_20 : decode cX3_isTrue 20 = .ok (.aload_n 0, 1) := by decide +kernel
theorem dX3_isTrue_21 : decode cX3_isTrue 21 = .ok (.iload_n 1, 1) := by decide +kernel
theorem dX3_isTrue_22 : decode cX3_isTrue 22 = .ok (.invokevirtual 165, 3) := by decide +kernel
theorem dX3_isTrue_25 : decode cX3_isTrue 25 = .ok (.ifCond .ne 5, 3) := by decide +kernel
theorem dX11_indent_0 : decode cX11_indent 0 = .ok (.aload_n 0, 1) := by decide +kernel
theorem dX11_indent_1 : decode cX11_indent 1 = .ok (.getfield 45, 3) := by decide +kernel
theorem dX11_indent_4 : decode cX11_indent 4 = .ok (.iconst 2, 1) := by decide +kernel
theorem dX11_indent_5 : decode cX11_indent 5 = .ok (.aload_n 0, 1) := by decide +kernel
theorem dX11_indent_6 : decode cX11_indent 6 = .ok (.getfield 51, 3) := by decide +kernel
theorem dX11_indent_9 : decode cX11_indent 9 = .ok (.imul, 1) := by decide +kernel
theorem dX11_indent_10 : decode cX11_indent 10 = .ok (.iload_n 1, 1) := by decide +kernel
theorem dX11_indent_11 : decode cX11_indent 11 = .ok (.invokestatic 70, 3) := by decide +kernel
theorem dX11_indent_14 : decode cX11_indent 14 = .ok (.aload_n 0, 1) := by decide +kernel
theorem dX11_indent_15 : decode cX11_indent 15 = .ok (.getfield 45, 3) := by decide +kernel
theorem dX11_indent_18 : decode cX11_indent 18 = .ok (.iconst 2, 1) := by decide +kernel
theorem dX11_indent_19 : decode cX11_indent 19 = .ok (.aload_n 0, 1) := by decide +kernel
theorem dX11_indent_20 : decode cX11_indent 20 = .ok (.getfield 51, 3) := by decide +kernel
theorem dX11_indent_23 : decode cX11_indent 23 = .ok (.imul, 1) := by decide +kernel
theorem dX11_indent_24 : decode cX11_indent 24 = .ok (.iconst 1, 1) := by decide +kernel
theorem dX11_indent_25 : decode cX11_indent 25 = .ok (.iadd, 1) := by decide +kernel
theorem dX11_indent_26 : decode cX11_indent 26 = .ok (.iload_n 2, 1) := by decide +kernel
theorem dX11_indent_27 : decode cX11_indent 27 = .ok (.invokestatic 70, 3) := by decide +kernel
theorem dX11_indent_30 : decode cX11_indent 30 = .ok (.aload_n 0, 1) := by decide +kernel
theorem dX11_indent_31 : decode cX11_indent 31 = .ok (.dup, 1) := by decide +kernel
theorem dX11_indent_32 : decode cX11_indent 32 = .ok (.getfield 51, 3) := by decide +kernel
theorem dX11_indent_35 : decode cX11_indent 35 = .ok (.iconst 1, 1) := by decide +kernel
theorem dX11_indent_36 : decode cX11_indent 36 = .ok (.iadd, 1) := by decide +kernel
theorem dX11_indent_37 : decode cX11_indent 37 = .ok (.putfield 51, 3) := by decide +kernel
theorem dX11_indent_40 : decode cX11_indent 40 = .ok (.return_, 1) := by decide +kernel
theorem dX5_isBlank_0 : decode cX5_isBlank 0 = .ok (.iload_n 0, 1) := by decide +kernel
theorem dX5_isBlank_1 : decode cX5_isBlank 1 = .ok (.bipush 32, 2) := by decide +kernel
theorem dX5_isBlank_3 : decode cX5_isBlank 3 = .ok (.if_icmp .eq 15, 3) := by decide +kernel
theorem dX5_isBlank_23 : decode cX5_isBlank 23 = .ok (.ireturn, 1) := by decide +kernel
theorem dX5_isBlank_18 : decode cX5_isBlank 18 = .ok (.iconst 1, 1) := by decide +kernel
theorem dX5_isBlank_19 : decode cX5_isBlank 19 = .ok (.goto 4, 3) := by decide +kernel
theorem dX5_isBlank_6 : decode cX5_isBlank 6 = .ok (.iload_n 0, 1) := by decide +kernel
theorem dX5_isBlank_7 : decode cX5_isBlank 7 = .ok (.bipush 9, 2) := by decide +kernel
theorem dX5_isBlank_9 : decode cX5_isBlank 9 = .ok (.if_icmp .eq 9, 3) := by decide +kernel
theorem dX5_isBlank_12 : decode cX5_isBlank 12 = .ok (.iload_n 0, 1) := by decide +kernel
theorem dX5_isBlank_13 : decode cX5_isBlank 13 = .ok (.bipush 10, 2) := by decide +kernel
theorem dX5_isBlank_15 : decode cX5_isBlank 15 = .ok (.if_icmp .ne 7, 3) := by decide +kernel
theorem dX5_isBlank_22 : decode cX5_isBlank 22 = .ok (.iconst 0, 1) := by decide +kernel
theorem dX5_trimmed_0 : decode cX5_trimmed 0 = .ok (.iload_n 1, 1) := by decide +kernel
theorem dX5_trimmed_1 : decode cX5_trimmed 1 = .ok (.ldc_w 350, 3) := by decide +kernel
theorem dX5_trimmed_4 : decode cX5_trimmed 4 = .ok (.iand, 1) := by decide +kernel
theorem dX5_trimmed_5 : decode cX5_trimmed 5 = .ok (.bipush 10, 2) := by decide +kernel
theorem dX5_trimmed_7 : decode cX5_trimmed 7 = .ok (.iushr, 1) := by decide +kernel
theorem dX5_trimmed_8 : decode cX5_trimmed 8 = .ok (.istore_n 2, 1) := by decide +kernel
theorem dX5_trimmed_9 : decode cX5_trimmed 9 = .ok (.iload_n 1, 1) := by decide +kernel
theorem dX5_trimmed_10 : decode cX5_trimmed 10 = .ok (.sipush 1023, 3) := by decide +kernel
theorem dX5_trimmed_13 : decode cX5_trimmed 13 = .ok (.iand, 1) := by decide +kernel
theorem dX5_trimmed_14 : decode cX5_trimmed 14 = .ok (.istore_n 3, 1) := by decide +kernel
theorem dX5_trimmed_15 : decode cX5_trimmed 15 = .ok (.iload_n 3, 1) := by decide +kernel
theorem dX5_trimmed_16 : decode cX5_trimmed 16 = .ok (.ifCond .le 30, 3) := by decide +kernel
theorem dX5_trimmed_46 : decode cX5_trimmed 46 = .ok (.iload_n 3, 1) := by decide +kernel
theorem dX5_trimmed_47 : decode cX5_trimmed 47 = .ok (.ifCond .le 29, 3) := by decide +kernel
theorem dX5_trimmed_76 : decode cX5_trimmed 76 = .ok (.ldc_w 559, 3) := by decide +kernel
theorem dX5_trimmed_79 : decode cX5_trimmed 79 = .ok (.iload_n 2, 1) := by decide +kernel
theorem dX5_trimmed_80 : decode cX5_trimmed 80 = .ok (.bipush 10, 2) := by decide +kernel
theorem dX5_trimmed_82 : decode cX5_trimmed 82 = .ok (.ishl, 1) := by decide +kernel
theorem dX5_trimmed_83 : decode cX5_trimmed 83 = .ok (.ior, 1) := by decide +kernel
theorem dX5_trimmed_84 : decode cX5_trimmed 84 = .ok (.iload_n 3, 1) := by decide +kernel
theorem dX5_trimmed_85 : decode cX5_trimmed 85 = .ok (.ior, 1) := by decide +kernel
theorem dX5_trimmed_86 : decode cX5_trimmed 86 = .ok (.ireturn, 1) := by decide +kernel
theorem dX5_trimmed_50 : decode cX5_trimmed 50 = .ok (.aload_n 0, 1) := by decide +kernel
theorem dX5_trimmed_51 : decode cX5_trimmed 51 = .ok (.getfield 83, 3) := by decide +kernel
theorem dX5_trimmed_54 : decode cX5_trimmed 54 = .ok (.getfield 351, 3) := by decide +kernel
theorem dX5_trimmed_57 : decode cX5_trimmed 57 = .ok (.iload_n 2, 1) := by decide +kernel
theorem dX5_trimmed_58 : decode cX5_trimmed 58 = .ok (.invokestatic 277, 3) := by decide +kernel
theorem dX5_trimmed_61 : decode cX5_trimmed 61 = .ok (.invokestatic 556, 3) := by decide +kernel
theorem dX5_trimmed_64 : decode cX5_trimmed 64 = .ok (.ifCond .eq 12, 3) := by decide +kernel
theorem dX5_trimmed_67 : decode cX5_trimmed 67 = .ok (.iinc 2 1, 3) := by decide +kernel
theorem dX5_trimmed_70 : decode cX5_trimmed 70 = .ok (.iinc 3 (-1), 3) := by decide +kernel
theorem dX5_trimmed_73 : decode cX5_trimmed 73 = .ok (.goto (-27), 3) := by decide +kernel
theorem dX5_trimmed_19 : decode cX5_trimmed 19 = .ok (.aload_n 0, 1) := by decide +kernel
theorem dX5_trimmed_20 : decode cX5_trimmed 20 = .ok (.getfield 83, 3) := by decide +kernel
theorem dX5_trimmed_23 : decode cX5_trimmed 23 = .ok (.getfield 351, 3) := by decide +kernel
theorem dX5_trimmed_26 : decode cX5_trimmed 26 = .ok (.iload_n 2, 1) := by decide +kernel
theorem dX5_trimmed_27 : decode cX5_trimmed 27 = .ok (.iload_n 3, 1) := by decide +kernel
theorem dX5_trimmed_28 : decode cX5_trimmed 28 = .ok (.iadd, 1) := by decide +kernel
theorem dX5_trimmed_29 : decode cX5_trimmed 29 = .ok (.iconst 1, 1) := by decide +kernel
theorem dX5_trimmed_30 : decode cX5_trimmed 30 = .ok (.isub, 1) := by decide +kernel
theorem dX5_trimmed_31 : decode cX5_trimmed 31 = .ok (.invokestatic 277, 3) := by decide +kernel
theorem dX5_trimmed_34 : decode cX5_trimmed 34 = .ok (.invokestatic 556, 3) := by decide +kernel
theorem dX5_trimmed_37 : decode cX5_trimmed 37 = .ok (.ifCond .eq 9, 3) := by decide +kernel
theorem dX5_trimmed_40 : decode cX5_trimmed 40 = .ok (.iinc 3 (-1), 3) := by decide +kernel
theorem dX5_trimmed_43 : decode cX5_trimmed 43 = .ok (.goto (-28), 3) := by decide +kernel
theorem dX5_collect_0 : decode cX5_collect 0 = .ok (.iload_n 1, 1) := by decide +kernel
theorem dX5_collect_1 : decode cX5_collect 1 = .ok (.iconst (-1), 1) := by decide +kernel
theorem dX5_collect_2 : decode cX5_collect 2 = .ok (.if_icmp .eq 31, 3) := by decide +kernel
theorem dX5_collect_33 : decode cX5_collect 33 = .ok (.aload_n 0, 1) := by decide +kernel
theorem dX5_collect_34 : decode cX5_collect 34 = .ok (.getfield 10, 3) := by decide +kernel
theorem dX5_collect_37 : decode cX5_collect 37 = .ok (.aload_n 0, 1) := by decide +kernel
theorem dX5_collect_38 : decode cX5_collect 38 = .ok (.getfield 42, 3) := by decide +kernel
theorem dX5_collect_41 : decode cX5_collect 41 = .ok (.iconst 3, 1) := by decide +kernel
theorem dX5_collect_42 : decode cX5_collect 42 = .ok (.iadd, 1) := by decide +kernel
theorem dX5_collect_43 : decode cX5_collect 43 = .ok (.invokestatic 113, 3) := by decide +kernel
theorem dX5_collect_46 : decode cX5_collect 46 = .ok (.iconst 1, 1) := by decide +kernel
theorem dX5_collect_47 : decode cX5_collect 47 = .ok (.if_icmp .ne 11, 3) := by decide +kernel
theorem dX5_collect_58 : decode cX5_collect 58 = .ok (.aload_n 0, 1) := by decide +kernel
theorem dX5_collect_59 : decode cX5_collect 59 = .ok (.iload_n 1, 1) := by decide +kernel
theorem dX5_collect_60 : decode cX5_collect 60 = .ok (.invokevirtual 259, 3) := by decide +kernel
theorem dX5_collect_63 : decode cX5_collect 63 = .ok (.aload_n 0, 1) := by decide +kernel
theorem dX5_collect_64 : decode cX5_collect 64 = .ok (.aload_n 0, 1) := by decide +kernel
theorem dX5_collect_65 : decode cX5_collect 65 = .ok (.getfield 10, 3) := by decide +kernel
theorem dX5_collect_68 : decode cX5_collect 68 = .ok (.aload_n 0, 1) := by decide +kernel
theorem dX5_collect_69 : decode cX5_collect 69 = .ok (.getfield 42, 3) := by decide +kernel
theorem dX5_collect_72 : decode cX5_collect 72 = .ok (.iconst 4, 1) := by decide +kernel
theorem dX5_collect_73 : decode cX5_collect 73 = .ok (.iadd, 1) := by decide +kernel
theorem dX5_collect_74 : decode cX5_collect 74 = .ok (.invokestatic 113, 3) := by decide +kernel
theorem dX5_collect_77 : decode cX5_collect 77 = .ok (.putfield 27, 3) := by decide +kernel
theorem dX5_collect_80 : decode cX5_collect 80 = .ok (.return_, 1) := by decide +kernel
theorem dX5_collect_50 : decode cX5_collect 50 = .ok (.aload_n 0, 1) := by decide +kernel
theorem dX5_collect_51 : decode cX5_collect 51 = .ok (.getfield 83, 3) := by decide +kernel
theorem dX5_collect_54 : decode cX5_collect 54 = .ok (.iconst 1, 1) := by decide +kernel
theorem dX5_collect_55 : decode cX5_collect 55 = .ok (.invokevirtual 569, 3) := by decide +kernel
theorem dX5_collect_5 : decode cX5_collect 5 = .ok (.aload_n 0, 1) := by decide +kernel
theorem dX5_collect_6 : decode cX5_collect 6 = .ok (.getfield 83, 3) := by decide +kernel
theorem dX5_collect_9 : decode cX5_collect 9 = .ok (.getfield 566, 3) := by decide +kernel
theorem dX5_collect_12 : decode cX5_collect 12 = .ok (.iload_n 1, 1) := by decide +kernel
theorem dX5_collect_13 : decode cX5_collect 13 = .ok (.ldc_w 350, 3) := by decide +kernel
theorem dX5_collect_16 : decode cX5_collect 16 = .ok (.iand, 1) := by decide +kernel
theorem dX5_collect_17 : decode cX5_collect 17 = .ok (.aload_n 0, 1) := by decide +kernel
theorem dX5_collect_18 : decode cX5_collect 18 = .ok (.getfield 10, 3) := by decide +kernel
theorem dX5_collect_21 : decode cX5_collect 21 = .ok (.aload_n 0, 1) := by decide +kernel
theorem dX5_collect_22 : decode cX5_collect 22 = .ok (.getfield 42, 3) := by decide +kernel
theorem dX5_collect_25 : decode cX5_collect 25 = .ok (.iconst 2, 1) := by decide +kernel
theorem dX5_collect_26 : decode cX5_collect 26 = .ok (.iadd, 1) := by decide +kernel
theorem dX5_collect_27 : decode cX5_collect 27 = .ok (.invokestatic 113, 3) := by decide +kernel
theorem dX5_collect_30 : decode cX5_collect 30 = .ok (.invokestatic 192, 3) := by decide +kernel
theorem dX5_current_0 : decode cX5_current 0 = .ok (.aload_n 0, 1) := by decide +kernel
theorem dX5_current_1 : decode cX5_current 1 = .ok (.getfield 83, 3) := by decide +kernel
theorem dX5_current_4 : decode cX5_current 4 = .ok (.aload_n 0, 1) := by decide +kernel
theorem dX5_current_5 : decode cX5_current 5 = .ok (.getfield 10, 3) := by decide +kernel
theorem dX5_current_8 : decode cX5_current 8 = .ok (.aload_n 0, 1) := by decide +kernel
theorem dX5_current_9 : decode cX5_current 9 = .ok (.getfield 42, 3) := by decide +kernel
theorem dX5_current_12 : decode cX5_current 12 = .ok (.iconst 1, 1) := by decide +kernel
theorem dX5_current_13 : decode cX5_current 13 = .ok (.iadd, 1) := by decide +kernel
theorem dX5_current_14 : decode cX5_current 14 = .ok (.invokestatic 113, 3) := by decide +kernel
theorem dX5_current_17 : decode cX5_current 17 = .ok (.aload_n 0, 1) := by decide +kernel
theorem dX5_current_18 : decode cX5_current 18 = .ok (.getfield 10, 3) := by decide +kernel
theorem dX5_current_21 : decode cX5_current 21 = .ok (.aload_n 0, 1) := by decide +kernel
theorem dX5_current_22 : decode cX5_current 22 = .ok (.getfield 42, 3) := by decide +kernel
theorem dX5_current_25 : decode cX5_current 25 = .ok (.iconst 2, 1) := by decide +kernel
theorem dX5_current_26 : decode cX5_current 26 = .ok (.iadd, 1) := by decide +kernel
theorem dX5_current_27 : decode cX5_current 27 = .ok (.invokestatic 113, 3) := by decide +kernel
theorem dX5_current_30 : decode cX5_current 30 = .ok (.iconst 1, 1) := by decide +kernel
theorem dX5_current_31 : decode cX5_current 31 = .ok (.isub, 1) := by decide +kernel
theorem dX5_current_32 : decode cX5_current 32 = .ok (.invokevirtual 230, 3) := by decide +kernel
theorem dX5_current_35 : decode cX5_current 35 = .ok (.ireturn, 1) := by decide +kernel
theorem dX5_eachText_0 : decode cX5_eachText 0 = .ok (.aload_n 0, 1) := by decide +kernel
theorem dX5_eachText_1 : decode cX5_eachText 1 = .ok (.getfield 10, 3) := by decide +kernel
theorem dX5_eachText_4 : decode cX5_eachText 4 = .ok (.aload_n 0, 1) := by decide +kernel
theorem dX5_eachText_5 : decode cX5_eachText 5 = .ok (.getfield 42, 3) := by decide +kernel
theorem dX5_eachText_8 : decode cX5_eachText 8 = .ok (.iconst 5, 1) := by decide +kernel
theorem dX5_eachText_9 : decode cX5_eachText 9 = .ok (.iadd, 1) := by decide +kernel
theorem dX5_eachText_10 : decode cX5_eachText 10 = .ok (.aload_n 0, 1) := by decide +kernel
theorem dX5_eachText_11 : decode cX5_eachText 11 = .ok (.iconst 5, 1) := by decide +kernel
theorem dX5_eachText_12 : decode cX5_eachText 12 = .ok (.invokevirtual 252, 3) := by decide +kernel
theorem dX5_eachText_15 : decode cX5_eachText 15 = .ok (.iadd, 1) := by decide +kernel
theorem dX5_eachText_16 : decode cX5_eachText 16 = .ok (.invokestatic 113, 3) := by decide +kernel
theorem dX5_eachText_19 : decode cX5_eachText 19 = .ok (.ireturn, 1) := by decide +kernel
theorem dX12_run_0 : decode cX12_run 0 = .ok (.iload_n 1, 1) := by decide +kernel
theorem dX12_run_1 : decode cX12_run 1 = .ok (.iconst 1, 1) := by decide +kernel
theorem dX12_run_2 : decode cX12_run 2 = .ok (.if_icmp .lt 10, 3) := by decide +kernel
theorem dX12_run_12 : decode cX12_run 12 = .ok (.new 123, 3) := by decide +kernel
theorem dX12_run_15 : decode cX12_run 15 = .ok (.dup, 1) := by decide +kernel
theorem dX12_run_16 : decode cX12_run 16 = .ok (.invokespecial 125, 3) := by decide +kernel
theorem dX12_run_19 : decode cX12_run 19 = .ok (.athrow, 1) := by decide +kernel
theorem dX12_run_5 : decode cX12_run 5 = .ok (.iload_n 1, 1) := by decide +kernel
theorem dX12_run_6 : decode cX12_run 6 = .ok (.sipush 12000, 3) := by decide +kernel
theorem dX12_run_9 : decode cX12_run 9 = .ok (.if_icmp .le 11, 3) := by decide +kernel
theorem dX12_run_20 : decode cX12_run 20 = .ok (.aload_n 0, 1) := by decide +kernel
theorem dX12_run_21 : decode cX12_run 21 = .ok (.getfield 35, 3) := by decide +kernel
theorem dX12_run_24 : decode cX12_run 24 = .ok (.iconst 1, 1) := by decide +kernel
theorem dX12_run_25 : decode cX12_run 25 = .ok (.if_icmp .eq 11, 3) := by decide +kernel
theorem dX12_run_36 : decode cX12_run 36 = .ok (.aload_n 0, 1) := by decide +kernel
theorem dX12_run_37 : decode cX12_run 37 = .ok (.getfield 97, 3) := by decide +kernel
theorem dX12_run_40 : decode cX12_run 40 = .ok (.getfield 207, 3) := by decide +kernel
theorem dX12_run_43 : decode cX12_run 43 = .ok (.getfield 211, 3) := by decide +kernel
theorem dX12_run_46 : decode cX12_run 46 = .ok (.istore_n 2, 1) := by decide +kernel
theorem dX12_run_47 : decode cX12_run 47 = .ok (.iload_n 2, 1) := by decide +kernel
theorem dX12_run_48 : decode cX12_run 48 = .ok (.aload_n 0, 1) := by decide +kernel
theorem dX12_run_49 : decode cX12_run 49 = .ok (.getfield 38, 3) := by decide +kernel
theorem dX12_run_52 : decode cX12_run 52 = .ok (.isub, 1) := by decide +kernel
theorem dX12_run_53 : decode cX12_run 53 = .ok (.iload_n 1, 1) := by decide +kernel
theorem dX12_run_54 : decode cX12_run 54 = .ok (.if_icmp .lt 15, 3) := by decide +kernel
theorem dX12_run_69 : decode cX12_run 69 = .ok (.aload_n 0, 1) := by decide +kernel
theorem dX12_run_70 : decode cX12_run 70 = .ok (.iload_n 2, 1) := by decide +kernel
theorem dX12_run_71 : decode cX12_run 71 = .ok (.putfield 38, 3) := by decide +kernel
theorem dX12_run_74 : decode cX12_run 74 = .ok (.aload_n 0, 1) := by decide +kernel
theorem dX12_run_75 : decode cX12_run 75 = .ok (.aload_n 0, 1) := by decide +kernel
theorem dX12_run_76 : decode cX12_run 76 = .ok (.getfield 97, 3) := by decide +kernel
theorem dX12_run_79 : decode cX12_run 79 = .ok (.getfield 216, 3) := by decide +kernel
theorem dX12_run_82 : decode cX12_run 82 = .ok (.ifCond .eq 7, 3) := by decide +kernel
theorem dX12_run_90 : decode cX12_run 90 = .ok (.putfield 35, 3) := by decide +kernel
theorem dX12_run_93 : decode cX12_run 93 = .ok (.aload_n 0, 1) := by decide +kernel
theorem dX12_run_94 : decode cX12_run 94 = .ok (.getfield 35, 3) := by decide +kernel
theorem dX12_run_97 : decode cX12_run 97 = .ok (.iconst 1, 1) := by decide +kernel
theorem dX12_run_98 : decode cX12_run 98 = .ok (.isub, 1) := by decide +kernel
theorem dX12_run_99 : decode cX12_run 99 = .ok (.ireturn, 1) := by decide +kernel
theorem dX12_run_89 : decode cX12_run 89 = .ok (.iconst 2, 1) := by decide +kernel
theorem dX12_run_85 : decode cX12_run 85 = .ok (.iconst 3, 1) := by decide +kernel
theorem dX12_run_86 : decode cX12_run 86 = .ok (.goto 4, 3) := by decide +kernel
theorem dX12_run_57 : decode cX12_run 57 = .ok (.aload_n 0, 1) := by decide +kernel
theorem dX12_run_58 : decode cX12_run 58 = .ok (.dup, 1) := by decide +kernel
theorem dX12_run_59 : decode cX12_run 59 = .ok (.getfield 38, 3) := by decide +kernel
theorem dX12_run_62 : decode cX12_run 62 = .ok (.iload_n 1, 1) := by decide +kernel
theorem dX12_run_63 : decode cX12_run 63 = .ok (.iadd, 1) := by decide +kernel
theorem dX12_run_64 : decode cX12_run 64 = .ok (.putfield 38, 3) := by decide +kernel
theorem dX12_run_67 : decode cX12_run 67 = .ok (.iconst 0, 1) := by decide +kernel
theorem dX12_run_68 : decode cX12_run 68 = .ok (.ireturn, 1) := by decide +kernel
theorem dX12_run_28 : decode cX12_run 28 = .ok (.new 154, 3) := by decide +kernel
theorem dX12_run_31 : decode cX12_run 31 = .ok (.dup, 1) := by decide +kernel
theorem dX12_run_32 : decode cX12_run 32 = .ok (.invokespecial 196, 3) := by decide +kernel
theorem dX12_run_35 : decode cX12_run 35 = .ok (.athrow, 1) := by decide +kernel
theorem dX12_stop_0 : decode cX12_stop 0 = .ok (.aload_n 0, 1) := by decide +kernel
theorem dX12_stop_1 : decode cX12_stop 1 = .ok (.getfield 35, 3) := by decide +kernel
theorem dX12_stop_4 : decode cX12_stop 4 = .ok (.iconst 1, 1) := by decide +kernel
theorem dX12_stop_5 : decode cX12_stop 5 = .ok (.if_icmp .eq 5, 3) := by decide +kernel
theorem dX12_stop_10 : decode cX12_stop 10 = .ok (.aload_n 0, 1) := by decide +kernel
theorem dX12_stop_11 : decode cX12_stop 11 = .ok (.iconst 4, 1) := by decide +kernel
theorem dX12_stop_12 : decode cX12_stop 12 = .ok (.putfield 35, 3) := by decide +kernel
theorem dX12_stop_15 : decode cX12_stop 15 = .ok (.iconst 1, 1) := by decide +kernel
theorem dX12_stop_16 : decode cX12_stop 16 = .ok (.ireturn, 1) := by decide +kernel
theorem dX12_stop_8 : decode cX12_stop 8 = .ok (.iconst 0, 1) := by decide +kernel
theorem dX12_stop_9 : decode cX12_stop 9 = .ok (.ireturn, 1) := by decide +kernel
theorem dX12_byteOf_0 : decode cX12_byteOf 0 = .ok (.aload_n 0, 1) := by decide +kernel
theorem dX12_byteOf_1 : decode cX12_byteOf 1 = .ok (.getfield 35, 3) := by decide +kernel
theorem dX12_byteOf_4 : decode cX12_byteOf 4 = .ok (.ifCond .eq 15, 3) := by decide +kernel
theorem dX12_byteOf_37 : decode cX12_byteOf 37 = .ok (.ireturn, 1) := by decide +kernel
theorem dX12_byteOf_19 : decode cX12_byteOf 19 = .ok (.iconst (-1), 1) := by decide +kernel
theorem dX12_byteOf_20 : decode cX12_byteOf 20 = .ok (.goto 17, 3) := by decide +kernel
theorem dX12_byteOf_7 : decode cX12_byteOf 7 = .ok (.iload_n 1, 1) := by decide +kernel
theorem dX12_byteOf_8 : decode cX12_byteOf 8 = .ok (.ifCond .lt 11, 3) := by decide +kernel
theorem dX12_byteOf_11 : decode cX12_byteOf 11 = .ok (.iload_n 1, 1) := by decide +kernel
theorem dX12_byteOf_12 : decode cX12_byteOf 12 = .ok (.aload_n 0, 1) := by decide +kernel
theorem dX12_byteOf_13 : decode cX12_byteOf 13 = .ok (.getfield 38, 3) := by decide +kernel
theorem dX12_byteOf_16 : decode cX12_byteOf 16 = .ok (.if_icmp .lt 7, 3) := by decide +kernel
theorem dX12_byteOf_23 : decode cX12_byteOf 23 = .ok (.aload_n 0, 1) := by decide +kernel
theorem dX12_byteOf_24 : decode cX12_byteOf 24 = .ok (.getfield 97, 3) := by decide +kernel
theorem dX12_byteOf_27 : decode cX12_byteOf 27 = .ok (.getfield 207, 3) := by decide +kernel
theorem dX12_byteOf_30 : decode cX12_byteOf 30 = .ok (.getfield 220, 3) := by decide +kernel
theorem dX12_byteOf_33 : decode cX12_byteOf 33 = .ok (.iload_n 1, 1) := by decide +kernel
theorem dX12_byteOf_34 : decode cX12_byteOf 34 = .ok (.invokestatic 109, 3) := by decide +kernel
theorem dX12_told_0 : decode cX12_told 0 = .ok (.aload_n 0, 1) := by decide +kernel
theorem dX12_told_1 : decode cX12_told 1 = .ok (.getfield 35, 3) := by decide +kernel
theorem dX12_told_4 : decode cX12_told 4 = .ok (.ifCond .ne 5, 3) := by decide +kernel
theorem dX12_told_9 : decode cX12_told 9 = .ok (.aload_n 0, 1) := by decide +kernel
theorem dX12_told_10 : decode cX12_told 10 = .ok (.getfield 35, 3) := by decide +kernel
theorem dX12_told_13 : decode cX12_told 13 = .ok (.iconst 2, 1) := by decide +kernel
theorem dX12_told_14 : decode cX12_told 14 = .ok (.if_icmp .eq 11, 3) := by decide +kernel
theorem dX12_told_25 : decode cX12_told 25 = .ok (.aload_n 0, 1) := by decide +kernel
theorem dX12_told_26 : decode cX12_told 26 = .ok (.getfield 97, 3) := by decide +kernel
theorem dX12_told_29 : decode cX12_told 29 = .ok (.getfield 226, 3) := by decide +kernel
theorem dX12_told_32 : decode cX12_told 32 = .ok (.getfield 248, 3) := by decide +kernel
theorem dX12_told_35 : decode cX12_told 35 = .ok (.iload_n 1, 1) := by decide +kernel
theorem dX12_told_36 : decode cX12_told 36 = .ok (.invokestatic 235, 3) := by decide +kernel
theorem dX12_told_39 : decode cX12_told 39 = .ok (.ireturn, 1) := by decide +kernel
theorem dX12_told_17 : decode cX12_told 17 = .ok (.aload_n 0, 1) := by decide +kernel
theorem dX12_told_18 : decode cX12_told 18 = .ok (.getfield 35, 3) := by decide +kernel
theorem dX12_told_21 : decode cX12_told 21 = .ok (.iconst 3, 1) := by decide +kernel
theorem dX12_told_22 : decode cX12_told 22 = .ok (.if_icmp .ne 18, 3) := by decide +kernel
theorem dX12_told_40 : decode cX12_told 40 = .ok (.aload_n 0, 1) := by decide +kernel
theorem dX12_told_41 : decode cX12_told 41 = .ok (.getfield 38, 3) := by decide +kernel
theorem dX12_told_44 : decode cX12_told 44 = .ok (.ifCond .ne 20, 3) := by decide +kernel
theorem dX12_told_64 : decode cX12_told 64 = .ok (.aload_n 0, 1) := by decide +kernel
theorem dX12_told_65 : decode cX12_told 65 = .ok (.getfield 97, 3) := by decide +kernel
theorem dX12_told_68 : decode cX12_told 68 = .ok (.getfield 207, 3) := by decide +kernel
theorem dX12_told_71 : decode cX12_told 71 = .ok (.getfield 254, 3) := by decide +kernel
theorem dX12_told_74 : decode cX12_told 74 = .ok (.iconst 3, 1) := by decide +kernel
theorem dX12_told_75 : decode cX12_told 75 = .ok (.aload_n 0, 1) := by decide +kernel
theorem dX12_told_76 : decode cX12_told 76 = .ok (.getfield 38, 3) := by decide +kernel
theorem dX12_told_79 : decode cX12_told 79 = .ok (.iconst 1, 1) := by decide +kernel
theorem dX12_told_80 : decode cX12_told 80 = .ok (.isub, 1) := by decide +kernel
theorem dX12_told_81 : decode cX12_told 81 = .ok (.imul, 1) := by decide +kernel
theorem dX12_told_82 : decode cX12_told 82 = .ok (.iload_n 1, 1) := by decide +kernel
theorem dX12_told_83 : decode cX12_told 83 = .ok (.iadd, 1) := by decide +kernel
theorem dX12_told_84 : decode cX12_told 84 = .ok (.invokestatic 235, 3) := by decide +kernel
theorem dX12_told_87 : decode cX12_told 87 = .ok (.ireturn, 1) := by decide +kernel
theorem dX12_told_47 : decode cX12_told 47 = .ok (.iload_n 1, 1) := by decide +kernel
theorem dX12_told_48 : decode cX12_told 48 = .ok (.iconst 2, 1) := by decide +kernel
theorem dX12_told_49 : decode cX12_told 49 = .ok (.if_icmp .ne 13, 3) := by decide +kernel
theorem dX12_told_63 : decode cX12_told 63 = .ok (.ireturn, 1) := by decide +kernel
theorem dX12_told_62 : decode cX12_told 62 = .ok (.iconst 0, 1) := by decide +kernel
theorem dX12_told_52 : decode cX12_told 52 = .ok (.aload_n 0, 1) := by decide +kernel
theorem dX12_told_53 : decode cX12_told 53 = .ok (.getfield 97, 3) := by decide +kernel
theorem dX12_told_56 : decode cX12_told 56 = .ok (.getfield 251, 3) := by decide +kernel
theorem dX12_told_59 : decode cX12_told 59 = .ok (.goto 4, 3) := by decide +kernel
theorem dX12_told_7 : decode cX12_told 7 = .ok (.iconst 0, 1) := by decide +kernel
theorem dX12_told_8 : decode cX12_told 8 = .ok (.ireturn, 1) := by decide +kernel
theorem dX12_error_0 : decode cX12_error 0 = .ok (.iload_n 1, 1) := by decide +kernel
theorem dX12_error_1 : decode cX12_error 1 = .ok (.ifCond .lt 28, 3) := by decide +kernel
theorem dX12_error_29 : decode cX12_error 29 = .ok (.iconst (-1), 1) := by decide +kernel
theorem dX12_error_30 : decode cX12_error 30 = .ok (.ireturn, 1) := by decide +kernel
theorem dX12_error_4 : decode cX12_error 4 = .ok (.iload_n 1, 1) := by decide +kernel
theorem dX12_error_5 : decode cX12_error 5 = .ok (.sipush 400, 3) := by decide +kernel
theorem dX12_error_8 : decode cX12_error 8 = .ok (.if_icmp .ge 21, 3) := by decide +kernel
theorem dX12_error_11 : decode cX12_error 11 = .ok (.iload_n 2, 1) := by decide +kernel
theorem dX12_error_12 : decode cX12_error 12 = .ok (.ifCond .lt 17, 3) := by decide +kernel
theorem dX12_error_15 : decode cX12_error 15 = .ok (.iload_n 2, 1) := by decide +kernel
theorem dX12_error_16 : decode cX12_error 16 = .ok (.iconst 2, 1) := by decide +kernel
theorem dX12_error_17 : decode cX12_error 17 = .ok (.if_icmp .gt 12, 3) := by decide +kernel
theorem dX12_error_20 : decode cX12_error 20 = .ok (.iload_n 1, 1) := by decide +kernel
theorem dX12_error_21 : decode cX12_error 21 = .ok (.aload_n 0, 1) := by decide +kernel
theorem dX12_error_22 : decode cX12_error 22 = .ok (.iconst 0, 1) := by decide +kernel
theorem dX12_error_23 : decode cX12_error 23 = .ok (.invokevirtual 223, 3) := by decide +kernel
theorem dX12_error_26 : decode cX12_error 26 = .ok (.if_icmp .lt 5, 3) := by decide +kernel
theorem dX12_error_31 : decode cX12_error 31 = .ok (.aload_n 0, 1) := by decide +kernel
theorem dX12_error_32 : decode cX12_error 32 = .ok (.getfield 97, 3) := by decide +kernel
theorem dX12_error_35 : decode cX12_error 35 = .ok (.getfield 226, 3) := by decide +kernel
theorem dX12_error_38 : decode cX12_error 38 = .ok (.getfield 230, 3) := by decide +kernel
theorem dX12_error_41 : decode cX12_error 41 = .ok (.iconst 3, 1) := by decide +kernel
theorem dX12_error_42 : decode cX12_error 42 = .ok (.iload_n 1, 1) := by decide +kernel
theorem dX12_error_43 : decode cX12_error 43 = .ok (.imul, 1) := by decide +kernel
theorem dX12_error_44 : decode cX12_error 44 = .ok (.iload_n 2, 1) := by decide +kernel
theorem dX12_error_45 : decode cX12_error 45 = .ok (.iadd, 1) := by decide +kernel
theorem dX12_error_46 : decode cX12_error 46 = .ok (.invokestatic 235, 3) := by decide +kernel
theorem dX12_error_49 : decode cX12_error 49 = .ok (.ireturn, 1) := by decide +kernel
theorem dX12_looked_0 : decode cX12_looked 0 = .ok (.iload_n 1, 1) := by decide +kernel
theorem dX12_looked_1 : decode cX12_looked 1 = .ok (.ifCond .lt 28, 3) := by decide +kernel
theorem dX12_looked_29 : decode cX12_looked 29 = .ok (.bipush (-2), 2) := by decide +kernel
theorem dX12_looked_31 : decode cX12_looked 31 = .ok (.ireturn, 1) := by decide +kernel
theorem dX12_looked_4 : decode cX12_looked 4 = .ok (.iload_n 1, 1) := by decide +kernel
theorem dX12_looked_5 : decode cX12_looked 5 = .ok (.sipush 1000, 3) := by decide +kernel
theorem dX12_looked_8 : decode cX12_looked 8 = .ok (.if_icmp .ge 21, 3) := by decide +kernel
theorem dX12_looked_11 : decode cX12_looked 11 = .ok (.iload_n 2, 1) := by decide +kernel
theorem dX12_looked_12 : decode cX12_looked 12 = .ok (.ifCond .lt 17, 3) := by decide +kernel
theorem dX12_looked_15 : decode cX12_looked 15 = .ok (.iload_n 2, 1) := by decide +kernel
theorem dX12_looked_16 : decode cX12_looked 16 = .ok (.iconst 1, 1) := by decide +kernel
theorem dX12_looked_17 : decode cX12_looked 17 = .ok (.if_icmp .gt 12, 3) := by decide +kernel
theorem dX12_looked_20 : decode cX12_looked 20 = .ok (.iload_n 1, 1) := by decide +kernel
theorem dX12_looked_21 : decode cX12_looked 21 = .ok (.aload_n 0, 1) := by decide +kernel
theorem dX12_looked_22 : decode cX12_looked 22 = .ok (.iconst 1, 1) := by decide +kernel
theorem dX12_looked_23 : decode cX12_looked 23 = .ok (.invokevirtual 223, 3) := by decide +kernel
theorem dX12_looked_26 : decode cX12_looked 26 = .ok (.if_icmp .lt 6, 3) := by decide +kernel
theorem dX12_looked_32 : decode cX12_looked 32 = .ok (.aload_n 0, 1) := by decide +kernel
theorem dX12_looked_33 : decode cX12_looked 33 = .ok (.getfield 97, 3) := by decide +kernel
theorem dX12_looked_36 : decode cX12_looked 36 = .ok (.getfield 226, 3) := by decide +kernel
theorem dX12_looked_39 : decode cX12_looked 39 = .ok (.getfield 239, 3) := by decide +kernel
theorem dX12_looked_42 : decode cX12_looked 42 = .ok (.iconst 2, 1) := by decide +kernel
theorem dX12_looked_43 : decode cX12_looked 43 = .ok (.iload_n 1, 1) := by decide +kernel
theorem dX12_looked_44 : decode cX12_looked 44 = .ok (.imul, 1) := by decide +kernel
theorem dX12_looked_45 : decode cX12_looked 45 = .ok (.iload_n 2, 1) := by decide +kernel
theorem dX12_looked_46 : decode cX12_looked 46 = .ok (.iadd, 1) := by decide +kernel
theorem dX12_looked_47 : decode cX12_looked 47 = .ok (.invokestatic 235, 3) := by decide +kernel
theorem dX12_looked_50 : decode cX12_looked 50 = .ok (.ireturn, 1) := by decide +kernel
theorem dX12_look_0 : decode cX12_look 0 = .ok (.iload_n 1, 1) := by decide +kernel
theorem dX12_look_1 : decode cX12_look 1 = .ok (.tableswitch 108 0 8 #[51, 56, 64, 72, 77, 83, 89, 95, 100], 51) := by decide +kernel
theorem dX12_look_52 : decode cX12_look 52 = .ok (.aload_n 0, 1) := by decide +kernel
theorem dX12_look_53 : decode cX12_look 53 = .ok (.getfield 20, 3) := by decide +kernel
theorem dX12_look_56 : decode cX12_look 56 = .ok (.ireturn, 1) := by decide +kernel
theorem dX12_look_57 : decode cX12_look 57 = .ok (.aload_n 0, 1) := by decide +kernel
theorem dX12_look_58 : decode cX12_look 58 = .ok (.getfield 59, 3) := by decide +kernel
theorem dX12_look_61 : decode cX12_look 61 = .ok (.getfield 242, 3) := by decide +kernel
theorem dX12_look_64 : decode cX12_look 64 = .ok (.ireturn, 1) := by decide +kernel
theorem dX12_look_65 : decode cX12_look 65 = .ok (.aload_n 0, 1) := by decide +kernel
theorem dX12_look_66 : decode cX12_look 66 = .ok (.getfield 59, 3) := by decide +kernel
theorem dX12_look_69 : decode cX12_look 69 = .ok (.getfield 193, 3) := by decide +kernel
theorem dX12_look_72 : decode cX12_look 72 = .ok (.ireturn, 1) := by decide +kernel
theorem dX12_look_73 : decode cX12_look 73 = .ok (.aload_n 0, 1) := by decide +kernel
theorem dX12_look_74 : decode cX12_look 74 = .ok (.getfield 38, 3) := by decide +kernel
theorem dX12_look_77 : decode cX12_look 77 = .ok (.ireturn, 1) := by decide +kernel
theorem dX12_look_78 : decode cX12_look 78 = .ok (.aload_n 0, 1) := by decide +kernel
theorem dX12_look_79 : decode cX12_look 79 = .ok (.iconst 0, 1) := by decide +kernel
theorem dX12_look_80 : decode cX12_look 80 = .ok (.invokevirtual 223, 3) := by decide +kernel
theorem dX12_look_83 : decode cX12_look 83 = .ok (.ireturn, 1) := by decide +kernel
theorem dX12_look_84 : decode cX12_look 84 = .ok (.aload_n 0, 1) := by decide +kernel
theorem dX12_look_85 : decode cX12_look 85 = .ok (.iconst 1, 1) := by decide +kernel
theorem dX12_look_86 : decode cX12_look 86 = .ok (.invokevirtual 223, 3) := by decide +kernel
theorem dX12_look_89 : decode cX12_look 89 = .ok (.ireturn, 1) := by decide +kernel
theorem dX12_look_90 : decode cX12_look 90 = .ok (.aload_n 0, 1) := by decide +kernel
theorem dX12_look_91 : decode cX12_look 91 = .ok (.iconst 2, 1) := by decide +kernel
theorem dX12_look_92 : decode cX12_look 92 = .ok (.invokevirtual 223, 3) := by decide +kernel
theorem dX12_look_95 : decode cX12_look 95 = .ok (.ireturn, 1) := by decide +kernel
theorem dX12_look_96 : decode cX12_look 96 = .ok (.aload_n 0, 1) := by decide +kernel
theorem dX12_look_97 : decode cX12_look 97 = .ok (.getfield 35, 3) := by decide +kernel
theorem dX12_look_100 : decode cX12_look 100 = .ok (.ireturn, 1) := by decide +kernel
theorem dX12_look_101 : decode cX12_look 101 = .ok (.aload_n 0, 1) := by decide +kernel
theorem dX12_look_102 : decode cX12_look 102 = .ok (.getfield 59, 3) := by decide +kernel
theorem dX12_look_105 : decode cX12_look 105 = .ok (.getfield 245, 3) := by decide +kernel
theorem dX12_look_108 : decode cX12_look 108 = .ok (.ireturn, 1) := by decide +kernel
theorem dX12_look_109 : decode cX12_look 109 = .ok (.iconst (-1), 1) := by decide +kernel
theorem dX12_look_110 : decode cX12_look 110 = .ok (.ireturn, 1) := by decide +kernel
theorem atg_X11_93 : ∀ w ∈ (vx_at0 "TemplateHouse$Writer" 93 "java/lang/IllegalStateException" exn).filter goodWord, w ∈ zT := fun w hw => List.mem_filter.mpr ⟨(show ∀ w ∈ (vx_at0 "TemplateHouse$Writer" 93 "java/lang/IllegalStateException" exn).filter goodWord, w ∈ lw_tbl by decide +kernel) w hw, (List.mem_filter.mp hw).2⟩
theorem atb_X11_93 : ∀ w ∈ (vx_at0 "TemplateHouse$Writer" 93 "java/lang/IllegalStateException" exn).filter (fun w => !goodWord w), w ∈ zNest := by decide +kernel
theorem ato_X11_93 : ∀ w ∈ vx_at0 "TemplateHouse$Writer" 93 "java/lang/IllegalStateException" exn, vx_ot w = true := by decide +kernel
theorem atg_X12_125 : ∀ w ∈ (vx_at0 "TemplateHouse" 125 "java/lang/IllegalArgumentException" exn).filter goodWord, w ∈ zT := fun w hw => List.mem_filter.mpr ⟨(show ∀ w ∈ (vx_at0 "TemplateHouse" 125 "java/lang/IllegalArgumentException" exn).filter goodWord, w ∈ lw_tbl by decide +kernel) w hw, (List.mem_filter.mp hw).2⟩
theorem atb_X12_125 : ∀ w ∈ (vx_at0 "TemplateHouse" 125 "java/lang/IllegalArgumentException" exn).filter (fun w => !goodWord w), w ∈ zNest := by decide +kernel
theorem ato_X12_125 : ∀ w ∈ vx_at0 "TemplateHouse" 125 "java/lang/IllegalArgumentException" exn, vx_ot w = true := by decide +kernel
theorem atg_X12_196 : ∀ w ∈ (vx_at0 "TemplateHouse" 196 "java/lang/IllegalStateException" exn).filter goodWord, w ∈ zT := fun w hw => List.mem_filter.mpr ⟨(show ∀ w ∈ (vx_at0 "TemplateHouse" 196 "java/lang/IllegalStateException" exn).filter goodWord, w ∈ lw_tbl by decide +kernel) w hw, (List.mem_filter.mp hw).2⟩
theorem atb_X12_196 : ∀ w ∈ (vx_at0 "TemplateHouse" 196 "java/lang/IllegalStateException" exn).filter (fun w => !goodWord w), w ∈ zNest := by decide +kernel
theorem ato_X12_196 : ∀ w ∈ vx_at0 "TemplateHouse" 196 "java/lang/IllegalStateException" exn, vx_ot w = true := by decide +kernel
set_option maxRecDepth 20000 in
theorem kX5_push (l : Launch) (G : zG) (T : tT) (κ : Nat → List Nat) (hst : l.stackTraces = false) (hE : tE G T κ) {a0 : Nat} (h0 : a0 ∈ κ 5) {x1 : Int32} : tMv l G T yX5_push cX5_push 2 ["java/lang/IllegalStateException"] 6 81 1 6 [.ref a0, .int x1] uT (uPv 0x2000000000000000000000000000000000000000000000000000000000000000000000000000000000) := by
  refine tMv.intro hst rfl (Nat.le_of_ble_eq_true rfl) ?_
  intro w0 hw0 _ X hC hR hO hX
  refine z_aload_n hC (pc := 0) 0 dX5_push_0 rfl rfl ?_
  refine u_get hC hw0 (pc := 1) zf5 5 (hE.o5 h0) rfl dX5_push_1 zw647 (kk := fun vx4 tx4 fx4 => ?_)
  obtain ⟨x4, rfl⟩ := tx4
  have j19 : zS X G 2 w0 [] 0 0 19 [] := by
    exact hX "java/lang/IllegalStateException" _ _ _ _ _ _ 134 236 exn (by decide) hw0 dX5_push_19 dX5_push_22 dX5_push_23 dX5_push_26 (by decide +kernel) (by decide +kernel) zw1790 zw20 atg_X5_236 atb_X5_236 ato_X5_236 (by decide) (Nat.le_of_ble_eq_true rfl) (Nat.le_of_ble_eq_true rfl) (Nat.le_of_ble_eq_true rfl)
  refine z_if_lt hC (pc := 4) 19 dX5_push_4 (by decide) (fun c5 => ?_) (fun c5 => ?_)
  · refine z_lvs [] rfl ?_
    exact j19
  · refine z_aload_n hC (pc := 7) 0 dX5_push_7 rfl rfl ?_
    refine u_getK hC (pc := 8) zf5 5 fx4 dX5_push_8 zw647 (kk := ?_)
    refine z_aload_n hC (pc := 11) 0 dX5_push_11 rfl rfl ?_
    refine u_get hC hw0 (pc := 12) zf5 4 (hE.o5 h0) rfl dX5_push_12 zw646 (kk := fun va6 ta6 fa6 => ?_)
    obtain ⟨a6, ma6, rfl⟩ := ta6
    obtain ⟨N7, hN7, AN7⟩ := hE.ints ma6
    refine u_alenI hC hw0 (pc := 15) AN7 dX5_push_15 ?_
    refine z_icmp_lt hC (pc := 16) 27 dX5_push_16 (by decide) (fun c8 => ?_) (fun c8 => ?_)
    · refine z_aload_n hC (pc := 27) 0 dX5_push_27 rfl rfl ?_
      refine u_getK hC (pc := 28) zf5 4 fa6 dX5_push_28 zw646 (kk := ?_)
      refine z_aload_n hC (pc := 31) 0 dX5_push_31 rfl rfl ?_
      refine u_getK hC (pc := 32) zf5 5 fx4 dX5_push_32 zw647 (kk := ?_)
      refine z_iload_n hC (pc := 35) 1 dX5_push_35 rfl rfl ?_
      refine u_iast hC hw0 (pc := 36) AN7 dX5_push_36 (t_inB hN7 c5 (Int32.not_le.mpr c8)) trivial (fun w9 hw9 kw9 => ?_)
      refine z_aload_n hC (pc := 37) 0 dX5_push_37 rfl rfl ?_
      refine z_dup hC (pc := 38) dX5_push_38 rfl ?_
      refine u_getK hC (pc := 39) zf5 5 (tKeep.F kw9 fx4 rfl) dX5_push_39 zw647 (kk := ?_)
      refine z_iconst hC (pc := 42) (v := 1) dX5_push_42 (by decide) ?_
      refine z_iadd hC (pc := 43) (v := (x4 + 1)) dX5_push_43 rfl ?_
      refine u_put hC hw9 (pc := 44) zf5 5 (hE.o5 h0) rfl ⟨_, rfl⟩ dX5_push_44 zw647 rfl rfl rfl (kk := fun w10 hw10 fw10 kw10 => ?_)
      exact hR _ _ _ _ _ dX5_push_47 (Nat.le_of_ble_eq_true rfl) (Nat.le_of_ble_eq_true rfl) ⟨hw10, rfl, rfl, (tKeep.tr (tKeep.tr tKeep.rf kw9 rfl) kw10 rfl)⟩
    · refine z_lvs [] rfl ?_
      exact j19
set_option maxRecDepth 20000 in
theorem kX11_mayWrap (l : Launch) (G : zG) (T : tT) (κ : Nat → List Nat) (hst : l.stackTraces = false) (hE : tE G T κ) {a0 : Nat} (h0 : a0 ∈ κ 11) : tMi l G T yX11_mayWrap cX11_mayWrap 1 .boolean [] 0 0 0 0 [.ref a0] uT (uPz 0x0) := by
  refine tMi.intro hst rfl (Nat.le_of_ble_eq_true rfl) ?_
  intro w0 hw0 _ X hC hR hO hX
  refine z_aload_n hC (pc := 0) 0 dX11_mayWrap_0 rfl rfl ?_
  refine u_get hC hw0 (pc := 1) zf11 8 (hE.o11 h0) rfl dX11_mayWrap_1 zw593 (kk := fun vx3 tx3 fx3 => ?_)
  obtain ⟨x3, rfl⟩ := tx3
  have j37 : ∀ (x4 : Int32), tZ (.int x4) → zS X G 1 w0 [] 0 0 37 [.int x4] := by
    intro x4 zx4
    exact hR _ _ _ _ _ _ dX11_mayWrap_37 (t_nZ zx4) (Nat.le_of_ble_eq_true rfl) (Nat.le_of_ble_eq_true rfl) ⟨hw0, rfl, rfl, tKeep.rf, zx4⟩
  have j36 : zS X G 1 w0 [] 0 0 36 [] := by
    refine z_iconst hC (pc := 36) (v := 0) dX11_mayWrap_36 (by decide) ?_
    exact j37 0 (Or.inl rfl)
  refine z_if_ne hC (pc := 4) 36 dX11_mayWrap_4 (by decide) (fun c5 => ?_) (fun c5 => ?_)
  · refine z_lvs [] rfl ?_
    exact j36
  · refine z_aload_n hC (pc := 7) 0 dX11_mayWrap_7 rfl rfl ?_
    refine u_get hC hw0 (pc := 8) zf11 4 (hE.o11 h0) rfl dX11_mayWrap_8 zw586 (kk := fun vx6 tx6 fx6 => ?_)
    obtain ⟨x6, rfl⟩ := tx6
    refine z_if_le hC (pc := 11) 36 dX11_mayWrap_11 (by decide) (fun c7 => ?_) (fun c7 => ?_)
    · refine z_lvs [] rfl ?_
      exact j36
    · refine z_aload_n hC (pc := 14) 0 dX11_mayWrap_14 rfl rfl ?_
      refine u_get hC hw0 (pc := 15) zf11 6 (hE.o11 h0) rfl dX11_mayWrap_15 zw589 (kk := fun vx8 tx8 fx8 => ?_)
      obtain ⟨x8, rfl, zx8⟩ := t_zof tx8
      refine z_if_ne hC (pc := 18) 36 dX11_mayWrap_18 (by decide) (fun c9 => ?_) (fun c9 => ?_)
      · refine z_lvs [] rfl ?_
        exact j36
      · refine z_aload_n hC (pc := 21) 0 dX11_mayWrap_21 rfl rfl ?_
        refine u_get hC hw0 (pc := 22) zf11 5 (hE.o11 h0) rfl dX11_mayWrap_22 zw587 (kk := fun vx10 tx10 fx10 => ?_)
        obtain ⟨x10, rfl⟩ := tx10
        refine z_aload_n hC (pc := 25) 0 dX11_mayWrap_25 rfl rfl ?_
        refine u_getK hC (pc := 26) zf11 4 fx6 dX11_mayWrap_26 zw586 (kk := ?_)
        refine z_icmp_lt hC (pc := 29) 36 dX11_mayWrap_29 (by decide) (fun c11 => ?_) (fun c11 => ?_)
        · refine z_lvs [] rfl ?_
          exact j36
        · refine z_iconst hC (pc := 32) (v := 1) dX11_mayWrap_32 (by decide) ?_
          refine z_goto hC (pc := 33) 37 dX11_mayWrap_33 (by decide) ?_
          refine z_lvs [] rfl ?_
          exact j37 1 (Or.inr rfl)
set_option maxRecDepth 20000 in
theorem kX11_isFull (l : Launch) (G : zG) (T : tT) (κ : Nat → List Nat) (hst : l.stackTraces = false) (hE : tE G T κ) {a0 : Nat} (h0 : a0 ∈ κ 11) : tMi l G T yX11_isFull cX11_isFull 1 .boolean [] 0 0 0 0 [.ref a0] uT (uPz 0x0) := by
  refine tMi.intro hst rfl (Nat.le_of_ble_eq_true rfl) ?_
  intro w0 hw0 _ X hC hR hO hX
  refine z_aload_n hC (pc := 0) 0 dX11_isFull_0 rfl rfl ?_
  refine u_get hC hw0 (pc := 1) zf11 8 (hE.o11 h0) rfl dX11_isFull_1 zw593 (kk := fun vx3 tx3 fx3 => ?_)
  obtain ⟨x3, rfl⟩ := tx3
  have j22 : ∀ (x4 : Int32), tZ (.int x4) → zS X G 1 w0 [] 0 0 22 [.int x4] := by
    intro x4 zx4
    exact hR _ _ _ _ _ _ dX11_isFull_22 (t_nZ zx4) (Nat.le_of_ble_eq_true rfl) (Nat.le_of_ble_eq_true rfl) ⟨hw0, rfl, rfl, tKeep.rf, zx4⟩
  have j21 : zS X G 1 w0 [] 0 0 21 [] := by
    refine z_iconst hC (pc := 21) (v := 0) dX11_isFull_21 (by decide) ?_
    exact j22 0 (Or.inl rfl)
  refine z_if_le hC (pc := 4) 21 dX11_isFull_4 (by decide) (fun c5 => ?_) (fun c5 => ?_)
  · refine z_lvs [] rfl ?_
    exact j21
  · refine z_aload_n hC (pc := 7) 0 dX11_isFull_7 rfl rfl ?_
    refine u_get hC hw0 (pc := 8) zf11 10 (hE.o11 h0) rfl dX11_isFull_8 zw597 (kk := fun vx6 tx6 fx6 => ?_)
    obtain ⟨x6, rfl⟩ := tx6
    refine z_sipush hC (pc := 11) (v := 1000) dX11_isFull_11 (by decide) ?_
    refine z_icmp_lt hC (pc := 14) 21 dX11_isFull_14 (by decide) (fun c7 => ?_) (fun c7 => ?_)
    · refine z_lvs [] rfl ?_
      exact j21
    · refine z_iconst hC (pc := 17) (v := 1) dX11_isFull_17 (by decide) ?_
      refine z_goto hC (pc := 18) 22 dX11_isFull_18 (by decide) ?_
      refine z_lvs [] rfl ?_
      exact j22 1 (Or.inr rfl)
set_option maxRecDepth 20000 in
theorem kX5_enter (l : Launch) (G : zG) (T : tT) (κ : Nat → List Nat) (hst : l.stackTraces = false) (hE : tE G T κ) {a0 : Nat} (h0 : a0 ∈ κ 5) : tMv l G T yX5_enter cX5_enter 3 ["java/lang/IllegalStateException"] 7 102 1 6 [.ref a0] uT (uPv 0x1b8000000000000000000000000000000000000000000000000000000000000000000000000000000000) := by
  refine tMv.intro hst rfl (Nat.le_of_ble_eq_true rfl) ?_
  intro w0 hw0 _ X hC hR hO hX
  refine z_aload_n hC (pc := 0) 0 dX5_enter_0 rfl rfl ?_
  refine u_get hC hw0 (pc := 1) zf5 6 (hE.o5 h0) rfl dX5_enter_1 zw648 (kk := fun va3 ta3 fa3 => ?_)
  obtain ⟨a3, ma3, rfl⟩ := ta3
  refine z_aload_n hC (pc := 4) 0 dX5_enter_4 rfl rfl ?_
  refine u_get hC hw0 (pc := 5) zf5 7 (hE.o5 h0) rfl dX5_enter_5 zw649 (kk := fun vx4 tx4 fx4 => ?_)
  obtain ⟨x4, rfl⟩ := tx4
  refine z_iconst hC (pc := 8) (v := 2) dX5_enter_8 (by decide) ?_
  refine z_isub hC (pc := 9) (v := (x4 - 2)) dX5_enter_9 rfl ?_
  refine t_callSNi hC hw0 (pc := 10) (As := [.ref a3, .int (x4 - 2)]) (kX12_get l G T κ hst hE ma3) trivial dmX12_get dX5_enter_10 zw1835 rfl rfl (Nat.le_of_ble_eq_true rfl) (Nat.le_of_ble_eq_true rfl) (Nat.le_of_ble_eq_true rfl) (Nat.le_of_ble_eq_true rfl) (Nat.le_of_ble_eq_true rfl) (fun _ _ _ h => nomatch h) (fun x6 cw5 nw5 w5 hw5 pw5 => ?_)
  obtain ⟨rfl, rfl, kw5⟩ := pw5
  refine z_ldc_w hC (pc := 13) (v := 134217727) dX5_enter_13 zw1991 ?_
  refine z_iand hC (pc := 16) (v := (x6 &&& 134217727)) dX5_enter_16 rfl ?_
  refine z_istore_n hC (pc := 17) (lv' := [(1, .int (x6 &&& 134217727)), (0, .ref a0)]) dX5_enter_17 rfl (by decide) rfl ?_
  refine z_aload_n hC (pc := 18) 1 dX5_enter_18 rfl rfl ?_
  refine z_dup hC (pc := 19) dX5_enter_19 rfl ?_
  refine u_getK hC (pc := 20) zf5 7 (tKeep.F kw5 fx4 rfl) dX5_enter_20 zw649 (kk := ?_)
  refine z_iconst hC (pc := 23) (v := 2) dX5_enter_23 (by decide) ?_
  refine z_isub hC (pc := 24) (v := (x4 - 2)) dX5_enter_24 rfl ?_
  refine u_put hC hw5 (pc := 25) zf5 7 (hE.o5 h0) rfl ⟨_, rfl⟩ dX5_enter_25 zw649 rfl rfl rfl (kk := fun w7 hw7 fw7 kw7 => ?_)
  refine z_aload_n hC (pc := 28) 1 dX5_enter_28 rfl rfl ?_
  refine z_aload_n hC (pc := 29) 1 dX5_enter_29 rfl rfl ?_
  refine u_get hC hw7 (pc := 30) zf5 9 (hE.o5 h0) rfl dX5_enter_30 zw651 (kk := fun vx8 tx8 fx8 => ?_)
  obtain ⟨x8, rfl⟩ := tx8
  obtain ⟨q9, hqq9⟩ := hE.o5 h0
  refine t_callVv hC hw7 (pc := 33) (As := [.int x8]) (kX5_start l G T κ hst hE h0) trivial dmX5_start zf5 hqq9 dX5_enter_33 zw1921 rfl rfl (Nat.le_of_ble_eq_true rfl) (Nat.le_of_ble_eq_true rfl) (Nat.le_of_ble_eq_true rfl) (Nat.le_of_ble_eq_true rfl) (Nat.le_of_ble_eq_true rfl) (fun E w q hE hw => hO E w _ _ _ _ _ q hE (Nat.le_of_ble_eq_true rfl) (Nat.le_of_ble_eq_true rfl) hw) (fun cw10 nw10 w10 hw10 pw10 => ?_)
  obtain ⟨rfl, rfl, kw10⟩ := pw10
  refine z_aload_n hC (pc := 36) 1 dX5_enter_36 rfl rfl ?_
  refine z_aload_n hC (pc := 37) 1 dX5_enter_37 rfl rfl ?_
  refine u_get hC hw10 (pc := 38) zf5 8 (hE.o5 h0) rfl dX5_enter_38 zw650 (kk := fun vx12 tx12 fx12 => ?_)
  obtain ⟨x12, rfl⟩ := tx12
  refine t_callVv hC hw10 (pc := 41) (As := [.int x12]) (kX5_start l G T κ hst hE h0) trivial dmX5_start zf5 hqq9 dX5_enter_41 zw1921 rfl rfl (Nat.le_of_ble_eq_true rfl) (Nat.le_of_ble_eq_true rfl) (Nat.le_of_ble_eq_true rfl) (Nat.le_of_ble_eq_true rfl) (Nat.le_of_ble_eq_true rfl) (fun E w q hE hw => hO E w _ _ _ _ _ q hE (Nat.le_of_ble_eq_true rfl) (Nat.le_of_ble_eq_true rfl) hw) (fun cw13 nw13 w13 hw13 pw13 => ?_)
  obtain ⟨rfl, rfl, kw13⟩ := pw13
  refine z_aload_n hC (pc := 44) 1 dX5_enter_44 rfl rfl ?_
  refine z_aload_n hC (pc := 45) 1 dX5_enter_45 rfl rfl ?_
  refine u_get hC hw13 (pc := 46) zf5 11 (hE.o5 h0) rfl dX5_enter_46 zw653 (kk := fun vx15 tx15 fx15 => ?_)
  obtain ⟨x15, rfl⟩ := tx15
  refine t_callVv hC hw13 (pc := 49) (As := [.int x15]) (kX5_start l G T κ hst hE h0) trivial dmX5_start zf5 hqq9 dX5_enter_49 zw1921 rfl rfl (Nat.le_of_ble_eq_true rfl) (Nat.le_of_ble_eq_true rfl) (Nat.le_of_ble_eq_true rfl) (Nat.le_of_ble_eq_true rfl) (Nat.le_of_ble_eq_true rfl) (fun E w q hE hw => hO E w _ _ _ _ _ q hE (Nat.le_of_ble_eq_true rfl) (Nat.le_of_ble_eq_true rfl) hw) (fun cw16 nw16 w16 hw16 pw16 => ?_)
  obtain ⟨rfl, rfl, kw16⟩ := pw16
  refine z_aload_n hC (pc := 52) 1 dX5_enter_52 rfl rfl ?_
  refine z_aload_n hC (pc := 53) 1 dX5_enter_53 rfl rfl ?_
  refine u_get hC hw16 (pc := 54) zf5 10 (hE.o5 h0) rfl dX5_enter_54 zw652 (kk := fun vx18 tx18 fx18 => ?_)
  obtain ⟨x18, rfl⟩ := tx18
  refine t_callVv hC hw16 (pc := 57) (As := [.int x18]) (kX5_start l G T κ hst hE h0) trivial dmX5_start zf5 hqq9 dX5_enter_57 zw1921 rfl rfl (Nat.le_of_ble_eq_true rfl) (Nat.le_of_ble_eq_true rfl) (Nat.le_of_ble_eq_true rfl) (Nat.le_of_ble_eq_true rfl) (Nat.le_of_ble_eq_true rfl) (fun E w q hE hw => hO E w _ _ _ _ _ q hE (Nat.le_of_ble_eq_true rfl) (Nat.le_of_ble_eq_true rfl) hw) (fun cw19 nw19 w19 hw19 pw19 => ?_)
  obtain ⟨rfl, rfl, kw19⟩ := pw19
  refine z_aload_n hC (pc := 60) 1 dX5_enter_60 rfl rfl ?_
  refine z_iconst hC (pc := 61) (v := 0) dX5_enter_61 (by decide) ?_
  refine t_callVv hC hw19 (pc := 62) (As := [.int 0]) (kX5_start l G T κ hst hE h0) trivial dmX5_start zf5 hqq9 dX5_enter_62 zw1921 rfl rfl (Nat.le_of_ble_eq_true rfl) (Nat.le_of_ble_eq_true rfl) (Nat.le_of_ble_eq_true rfl) (Nat.le_of_ble_eq_true rfl) (Nat.le_of_ble_eq_true rfl) (fun E w q hE hw => hO E w _ _ _ _ _ q hE (Nat.le_of_ble_eq_true rfl) (Nat.le_of_ble_eq_true rfl) hw) (fun cw21 nw21 w21 hw21 pw21 => ?_)
  obtain ⟨rfl, rfl, kw21⟩ := pw21
  refine z_aload_n hC (pc := 65) 1 dX5_enter_65 rfl rfl ?_
  refine z_dup hC (pc := 66) dX5_enter_66 rfl ?_
  refine u_get hC hw21 (pc := 67) zf5 12 (hE.o5 h0) rfl dX5_enter_67 zw654 (kk := fun vx23 tx23 fx23 => ?_)
  obtain ⟨x23, rfl⟩ := tx23
  refine z_iconst hC (pc := 70) (v := 1) dX5_enter_70 (by decide) ?_
  refine z_iadd hC (pc := 71) (v := (x23 + 1)) dX5_enter_71 rfl ?_
  refine u_put hC hw21 (pc := 72) zf5 12 (hE.o5 h0) rfl ⟨_, rfl⟩ dX5_enter_72 zw654 rfl rfl rfl (kk := fun w24 hw24 fw24 kw24 => ?_)
  refine z_aload_n hC (pc := 75) 1 dX5_enter_75 rfl rfl ?_
  refine z_iload_n hC (pc := 76) 0 dX5_enter_76 rfl rfl ?_
  refine u_put hC hw24 (pc := 77) zf5 9 (hE.o5 h0) rfl ⟨_, rfl⟩ dX5_enter_77 zw651 rfl rfl rfl (kk := fun w25 hw25 fw25 kw25 => ?_)
  refine z_aload_n hC (pc := 80) 1 dX5_enter_80 rfl rfl ?_
  refine u_get hC hw25 (pc := 81) zf5 2 (hE.o5 h0) rfl dX5_enter_81 zw644 (kk := fun va26 ta26 fa26 => ?_)
  obtain ⟨a26, ma26, rfl⟩ := ta26
  refine u_get hC hw25 (pc := 84) zf3 3 (hE.o3 ma26) rfl dX5_enter_84 zw507 (kk := fun va27 ta27 fa27 => ?_)
  obtain ⟨a27, ma27, rfl⟩ := ta27
  refine z_iload_n hC (pc := 87) 0 dX5_enter_87 rfl rfl ?_
  refine t_callSNi hC hw25 (pc := 88) (As := [.ref a27, .int (x6 &&& 134217727)]) (kX12_get l G T κ hst hE ma27) trivial dmX12_get dX5_enter_88 zw1835 rfl rfl (Nat.le_of_ble_eq_true rfl) (Nat.le_of_ble_eq_true rfl) (Nat.le_of_ble_eq_true rfl) (Nat.le_of_ble_eq_true rfl) (Nat.le_of_ble_eq_true rfl) (fun _ _ _ h => nomatch h) (fun x29 cw28 nw28 w28 hw28 pw28 => ?_)
  obtain ⟨rfl, rfl, kw28⟩ := pw28
  refine z_istore_n hC (pc := 91) (lv' := [(2, .int x29), (1, .int (x6 &&& 134217727)), (0, .ref a0)]) dX5_enter_91 rfl (by decide) rfl ?_
  refine z_aload_n hC (pc := 92) 2 dX5_enter_92 rfl rfl ?_
  refine z_iload_n hC (pc := 93) 0 dX5_enter_93 rfl rfl ?_
  refine z_iconst hC (pc := 94) (v := 3) dX5_enter_94 (by decide) ?_
  refine z_iadd hC (pc := 95) (v := (x29 + 3)) dX5_enter_95 rfl ?_
  refine z_iconst hC (pc := 96) (v := 2) dX5_enter_96 (by decide) ?_
  refine z_aload_n hC (pc := 97) 2 dX5_enter_97 rfl rfl ?_
  refine u_get hC hw28 (pc := 98) zf5 3 (hE.o5 h0) rfl dX5_enter_98 zw645 (kk := fun va30 ta30 fa30 => ?_)
  obtain ⟨a30, ma30, rfl⟩ := ta30
  refine u_get hC hw28 (pc := 101) zf2 2 (hE.o2 ma30) rfl dX5_enter_101 zw240 (kk := fun va31 ta31 fa31 => ?_)
  obtain ⟨a31, ma31, rfl⟩ := ta31
  refine z_iload_n hC (pc := 104) 0 dX5_enter_104 rfl rfl ?_
  refine z_iconst hC (pc := 105) (v := 2) dX5_enter_105 (by decide) ?_
  refine z_iadd hC (pc := 106) (v := (x29 + 2)) dX5_enter_106 rfl ?_
  refine t_callSNi hC hw28 (pc := 107) (As := [.ref a31, .int (x29 + 2)]) (kX12_get l G T κ hst hE ma31) trivial dmX12_get dX5_enter_107 zw1835 rfl rfl (Nat.le_of_ble_eq_true rfl) (Nat.le_of_ble_eq_true rfl) (Nat.le_of_ble_eq_true rfl) (Nat.le_of_ble_eq_true rfl) (Nat.le_of_ble_eq_true rfl) (fun _ _ _ h => nomatch h) (fun x33 cw32 nw32 w32 hw32 pw32 => ?_)
  obtain ⟨rfl, rfl, kw32⟩ := pw32
  refine z_imul hC (pc := 110) (v := ((2 : Int32) * x33)) dX5_enter_110 rfl ?_
  refine z_iadd hC (pc := 111) (v := ((x29 + 3) + ((2 : Int32) * x33))) dX5_enter_111 rfl ?_
  refine u_put hC hw32 (pc := 112) zf5 8 (hE.o5 h0) rfl ⟨_, rfl⟩ dX5_enter_112 zw650 rfl rfl rfl (kk := fun w34 hw34 fw34 kw34 => ?_)
  refine z_aload_n hC (pc := 115) 2 dX5_enter_115 rfl rfl ?_
  refine z_aload_n hC (pc := 116) 2 dX5_enter_116 rfl rfl ?_
  refine u_get hC hw34 (pc := 117) zf5 1 (hE.o5 h0) rfl dX5_enter_117 zw642 (kk := fun va35 ta35 fa35 => ?_)
  obtain ⟨a35, ma35, rfl⟩ := ta35
  refine u_get hC hw34 (pc := 120) zf11 7 (hE.o11 ma35) rfl dX5_enter_120 zw592 (kk := fun vx36 tx36 fx36 => ?_)
  obtain ⟨x36, rfl⟩ := tx36
  refine u_put hC hw34 (pc := 123) zf5 11 (hE.o5 h0) rfl ⟨_, rfl⟩ dX5_enter_123 zw653 rfl rfl rfl (kk := fun w37 hw37 fw37 kw37 => ?_)
  exact hR _ _ _ _ _ dX5_enter_126 (Nat.le_of_ble_eq_true rfl) (Nat.le_of_ble_eq_true rfl) ⟨hw37, rfl, rfl, (tKeep.tr (tKeep.tr (tKeep.tr (tKeep.tr (tKeep.tr (tKeep.tr (tKeep.tr (tKeep.tr (tKeep.tr (tKeep.tr (tKeep.tr (tKeep.tr (tKeep.tr tKeep.rf kw5 rfl) kw7 rfl) kw10 rfl) kw13 rfl) kw16 rfl) kw19 rfl) kw21 rfl) kw24 rfl) kw25 rfl) kw28 rfl) kw32 rfl) kw34 rfl) kw37 rfl)⟩
set_option maxRecDepth 20000 in
theorem kX9_noteLook (l : Launch) (G : zG) (T : tT) (κ : Nat → List Nat) (hst : l.stackTraces = false) (hE : tE G T κ) {a0 : Nat} (h0 : a0 ∈ κ 9) {x1 : Int32} {x2 : Int32} : tMv l G T yX9_noteLook cX9_noteLook 4 [] 1 22 0 0 [.ref a0, .int x1, .int x2] uT (uPv 0x0) := by
  refine tMv.intro hst rfl (Nat.le_of_ble_eq_true rfl) ?_
  intro w0 hw0 _ X hC hR hO hX
  refine z_aload_n hC (pc := 0) 0 dX9_noteLook_0 rfl rfl ?_
  refine u_get hC hw0 (pc := 1) zf9 2 (hE.o9 h0) rfl dX9_noteLook_1 zw482 (kk := fun va5 ta5 fa5 => ?_)
  obtain ⟨a5, ma5, rfl⟩ := ta5
  refine z_iconst hC (pc := 4) (v := 1) dX9_noteLook_4 (by decide) ?_
  refine t_callSNi hC hw0 (pc := 5) (As := [.ref a5, .int 1]) (kX12_get l G T κ hst hE ma5) trivial dmX12_get dX9_noteLook_5 zw2021 rfl rfl (Nat.le_of_ble_eq_true rfl) (Nat.le_of_ble_eq_true rfl) (Nat.le_of_ble_eq_true rfl) (Nat.le_of_ble_eq_true rfl) (Nat.le_of_ble_eq_true rfl) (fun _ _ _ h => nomatch h) (fun x7 cw6 nw6 w6 hw6 pw6 => ?_)
  obtain ⟨rfl, rfl, kw6⟩ := pw6
  refine z_istore_n hC (pc := 8) (lv' := [(3, .int x7), (0, .ref a0), (1, .int x1), (2, .int x2)]) dX9_noteLook_8 rfl (by decide) rfl ?_
  refine z_iload_n hC (pc := 9) 0 dX9_noteLook_9 rfl rfl ?_
  refine z_sipush hC (pc := 10) (v := 1000) dX9_noteLook_10 (by decide) ?_
  have j40 : ∀ (w8 : va_W), tW T w8 → tKeep 0x0 w6 w8 → zS X G 4 w8 [(0, .ref a0), (3, .int x7)] 0 0 40 [] := by
    intro w8 hw8 kw8
    refine z_aload_n hC (pc := 40) 0 dX9_noteLook_40 rfl rfl ?_
    refine u_getK hC (pc := 41) zf9 2 (tKeep.F kw8 (tKeep.F kw6 fa5 rfl) rfl) dX9_noteLook_41 zw482 (kk := ?_)
    refine z_iconst hC (pc := 44) (v := 1) dX9_noteLook_44 (by decide) ?_
    refine z_iload_n hC (pc := 45) 1 dX9_noteLook_45 rfl rfl ?_
    refine z_iconst hC (pc := 46) (v := 1) dX9_noteLook_46 (by decide) ?_
    refine z_iadd hC (pc := 47) (v := (x7 + 1)) dX9_noteLook_47 rfl ?_
    refine t_callSNv hC hw8 (pc := 48) (As := [.ref a5, .int 1, .int (x7 + 1)]) (kX12_set l G T κ hst hE ma5) trivial dmX12_set dX9_noteLook_48 zw2022 rfl rfl (Nat.le_of_ble_eq_true rfl) (Nat.le_of_ble_eq_true rfl) (Nat.le_of_ble_eq_true rfl) (Nat.le_of_ble_eq_true rfl) (Nat.le_of_ble_eq_true rfl) (fun _ _ _ h => nomatch h) (fun cw9 nw9 w9 hw9 pw9 => ?_)
    obtain ⟨rfl, rfl, kw9⟩ := pw9
    exact hR _ _ _ _ _ dX9_noteLook_51 (Nat.le_of_ble_eq_true rfl) (Nat.le_of_ble_eq_true rfl) ⟨hw9, rfl, rfl, (tKeep.tr (tKeep.tr (tKeep.tr tKeep.rf kw6 rfl) kw8 rfl) kw9 rfl)⟩
  refine z_icmp_ge hC (pc := 13) 40 dX9_noteLook_13 (by decide) (fun c11 => ?_) (fun c11 => ?_)
  · refine z_lvs [1, 0] rfl ?_
    exact j40 w6 hw6 tKeep.rf
  · refine z_aload_n hC (pc := 16) 1 dX9_noteLook_16 rfl rfl ?_
    refine u_get hC hw6 (pc := 17) zf9 1 (hE.o9 h0) rfl dX9_noteLook_17 zw480 (kk := fun va12 ta12 fa12 => ?_)
    obtain ⟨a12, ma12, rfl⟩ := ta12
    refine z_iconst hC (pc := 20) (v := 2) dX9_noteLook_20 (by decide) ?_
    refine z_iload_n hC (pc := 21) 0 dX9_noteLook_21 rfl rfl ?_
    refine z_imul hC (pc := 22) (v := ((2 : Int32) * x7)) dX9_noteLook_22 rfl ?_
    refine z_iload_n hC (pc := 23) 2 dX9_noteLook_23 rfl rfl ?_
    refine t_callSNv hC hw6 (pc := 24) (As := [.ref a12, .int ((2 : Int32) * x7), .int x1]) (kX12_set l G T κ hst hE ma12) trivial dmX12_set dX9_noteLook_24 zw2022 rfl rfl (Nat.le_of_ble_eq_true rfl) (Nat.le_of_ble_eq_true rfl) (Nat.le_of_ble_eq_true rfl) (Nat.le_of_ble_eq_true rfl) (Nat.le_of_ble_eq_true rfl) (fun _ _ _ h => nomatch h) (fun cw13 nw13 w13 hw13 pw13 => ?_)
    obtain ⟨rfl, rfl, kw13⟩ := pw13
    refine z_aload_n hC (pc := 27) 1 dX9_noteLook_27 rfl rfl ?_
    refine u_getK hC (pc := 28) zf9 1 (tKeep.F kw13 fa12 rfl) dX9_noteLook_28 zw480 (kk := ?_)
    refine z_iconst hC (pc := 31) (v := 2) dX9_noteLook_31 (by decide) ?_
    refine z_iload_n hC (pc := 32) 0 dX9_noteLook_32 rfl rfl ?_
    refine z_imul hC (pc := 33) (v := ((2 : Int32) * x7)) dX9_noteLook_33 rfl ?_
    refine z_iconst hC (pc := 34) (v := 1) dX9_noteLook_34 (by decide) ?_
    refine z_iadd hC (pc := 35) (v := (((2 : Int32) * x7) + 1)) dX9_noteLook_35 rfl ?_
    refine z_iload_n hC (pc := 36) 3 dX9_noteLook_36 rfl rfl ?_
    refine t_callSNv hC hw13 (pc := 37) (As := [.ref a12, .int (((2 : Int32) * x7) + 1), .int x2]) (kX12_set l G T κ hst hE ma12) trivial dmX12_set dX9_noteLook_37 zw2022 rfl rfl (Nat.le_of_ble_eq_true rfl) (Nat.le_of_ble_eq_true rfl) (Nat.le_of_ble_eq_true rfl) (Nat.le_of_ble_eq_true rfl) (Nat.le_of_ble_eq_true rfl) (fun _ _ _ h => nomatch h) (fun cw15 nw15 w15 hw15 pw15 => ?_)
    obtain ⟨rfl, rfl, kw15⟩ := pw15
    refine z_lvs [1, 0] rfl ?_
    exact j40 w15 hw15 (tKeep.tr (tKeep.tr tKeep.rf kw13 rfl) kw15 rfl)
set_option maxRecDepth 20000 in
theorem kX3_isYes (l : Launch) (G : zG) (T : tT) (κ : Nat → List Nat) (hst : l.stackTraces = false) (hE : tE G T κ) {a0 : Nat} (h0 : a0 ∈ κ 3) {x1 : Int32} : tMi l G T yX3_isYes cX3_isYes 2 .boolean [] 0 0 0 0 [.ref a0, .int x1] uT (uPz 0x0) := by
  refine tMi.intro hst rfl (Nat.le_of_ble_eq_true rfl) ?_
  intro w0 hw0 _ X hC hR hO hX
  refine z_iload_n hC (pc := 0) 1 dX3_isYes_0 rfl rfl ?_
  have j35 : ∀ (x4 : Int32), tZ (.int x4) → zS X G 2 w0 [] 0 0 35 [.int x4] := by
    intro x4 zx4
    exact hR _ _ _ _ _ _ dX3_isYes_35 (t_nZ zx4) (Nat.le_of_ble_eq_true rfl) (Nat.le_of_ble_eq_true rfl) ⟨hw0, rfl, rfl, tKeep.rf, zx4⟩
  have j34 : zS X G 2 w0 [] 0 0 34 [] := by
    refine z_iconst hC (pc := 34) (v := 0) dX3_isYes_34 (by decide) ?_
    exact j35 0 (Or.inl rfl)
  refine z_if_lt hC (pc := 1) 34 dX3_isYes_1 (by decide) (fun c5 => ?_) (fun c5 => ?_)
  · refine z_lvs [] rfl ?_
    exact j34
  · refine z_iload_n hC (pc := 4) 1 dX3_isYes_4 rfl rfl ?_
    refine z_aload_n hC (pc := 5) 0 dX3_isYes_5 rfl rfl ?_
    refine u_get hC hw0 (pc := 6) zf3 0 (hE.o3 h0) rfl dX3_isYes_6 zw502 (kk := fun va6 ta6 fa6 => ?_)
    obtain ⟨a6, ma6, rfl⟩ := ta6
    refine u_get hC hw0 (pc := 9) zf8 1 (hE.o8 ma6) rfl dX3_isYes_9 zw50 (kk := fun va7 ta7 fa7 => ?_)
    obtain ⟨a7, ma7, rfl⟩ := ta7
    obtain ⟨N8, hN8, AN8⟩ := hE.lngs ma7
    refine u_alenL hC hw0 (pc := 12) AN8 dX3_isYes_12 ?_
    refine z_icmp_ge hC (pc := 13) 34 dX3_isYes_13 (by decide) (fun c9 => ?_) (fun c9 => ?_)
    · refine z_lvs [] rfl ?_
      exact j34
    · refine z_aload_n hC (pc := 16) 0 dX3_isYes_16 rfl rfl ?_
      refine u_getK hC (pc := 17) zf3 0 fa6 dX3_isYes_17 zw502 (kk := ?_)
      refine u_getK hC (pc := 20) zf8 1 fa7 dX3_isYes_20 zw50 (kk := ?_)
      refine z_iload_n hC (pc := 23) 1 dX3_isYes_23 rfl rfl ?_
      refine t_lald hC hw0 (pc := 24) AN8 dX3_isYes_24 (t_inB hN8 c5 c9) (fun y10 _ => ?_)
      refine z_lconst hC (pc := 25) (v := 0) dX3_isYes_25 (by decide) ?_
      refine z_lcmp hC (pc := 26) (v := (lg_cmp y10 0)) dX3_isYes_26 rfl ?_
      generalize (lg_cmp y10 0) = x11
      refine z_if_eq hC (pc := 27) 34 dX3_isYes_27 (by decide) (fun c12 => ?_) (fun c12 => ?_)
      · refine z_lvs [] rfl ?_
        exact j34
      · refine z_iconst hC (pc := 30) (v := 1) dX3_isYes_30 (by decide) ?_
        refine z_goto hC (pc := 31) 35 dX3_isYes_31 (by decide) ?_
        refine z_lvs [] rfl ?_
        exact j35 1 (Or.inr rfl)
set_option maxRecDepth 20000 in
theorem kX5_hex (l : Launch) (G : zG) (T : tT) (κ : Nat → List Nat) (hst : l.stackTraces = false) (hE : tE G T κ) {x0 : Int32} : tMi l G T yX5_hex cX5_hex 1 .int [] 0 0 0 0 [.int x0] uT (uPi 0x0) := by
  refine tMi.intro hst rfl (Nat.le_of_ble_eq_true rfl) ?_
  intro w0 hw0 _ X hC hR hO hX
  refine z_iload_n hC (pc := 0) 0 dX5_hex_0 rfl rfl ?_
  refine z_bipush hC (pc := 1) (v := 10) dX5_hex_1 (by decide) ?_
  have j20 : ∀ (x3 : Int32), zS X G 1 w0 [] 0 0 20 [.int x3] := by
    intro x3
    exact hR _ _ _ _ _ _ dX5_hex_20 rfl (Nat.le_of_ble_eq_true rfl) (Nat.le_of_ble_eq_true rfl) ⟨hw0, rfl, rfl, tKeep.rf⟩
  refine z_icmp_ge hC (pc := 3) 13 dX5_hex_3 (by decide) (fun c4 => ?_) (fun c4 => ?_)
  · refine z_bipush hC (pc := 13) (v := 65) dX5_hex_13 (by decide) ?_
    refine z_iload_n hC (pc := 15) 0 dX5_hex_15 rfl rfl ?_
    refine z_iadd hC (pc := 16) (v := ((65 : Int32) + x0)) dX5_hex_16 rfl ?_
    refine z_bipush hC (pc := 17) (v := 10) dX5_hex_17 (by decide) ?_
    refine z_isub hC (pc := 19) (v := (((65 : Int32) + x0) - 10)) dX5_hex_19 rfl ?_
    refine z_lvs [] rfl ?_
    exact j20 (((65 : Int32) + x0) - 10)
  · refine z_bipush hC (pc := 6) (v := 48) dX5_hex_6 (by decide) ?_
    refine z_iload_n hC (pc := 8) 0 dX5_hex_8 rfl rfl ?_
    refine z_iadd hC (pc := 9) (v := ((48 : Int32) + x0)) dX5_hex_9 rfl ?_
    refine z_goto hC (pc := 10) 20 dX5_hex_10 (by decide) ?_
    refine z_lvs [] rfl ?_
    exact j20 ((48 : Int32) + x0)
set_option maxRecDepth 20000 in
theorem kX5_code (l : Launch) (G : zG) (T : tT) (κ : Nat → List Nat) (hst : l.stackTraces = false) (hE : tE G T κ) {a0 : Nat} (h0 : a0 ∈ κ 5) {x1 : Int32} : tMi l G T yX5_code cX5_code 2 .int [] 1 21 0 0 [.ref a0, .int x1] uT (uPi 0x0) := by
  refine tMi.intro hst rfl (Nat.le_of_ble_eq_true rfl) ?_
  intro w0 hw0 _ X hC hR hO hX
  refine z_aload_n hC (pc := 0) 0 dX5_code_0 rfl rfl ?_
  refine u_get hC hw0 (pc := 1) zf5 3 (hE.o5 h0) rfl dX5_code_1 zw645 (kk := fun va4 ta4 fa4 => ?_)
  obtain ⟨a4, ma4, rfl⟩ := ta4
  refine u_get hC hw0 (pc := 4) zf2 2 (hE.o2 ma4) rfl dX5_code_4 zw240 (kk := fun va5 ta5 fa5 => ?_)
  obtain ⟨a5, ma5, rfl⟩ := ta5
  refine z_aload_n hC (pc := 7) 0 dX5_code_7 rfl rfl ?_
  refine u_get hC hw0 (pc := 8) zf5 8 (hE.o5 h0) rfl dX5_code_8 zw650 (kk := fun vx6 tx6 fx6 => ?_)
  obtain ⟨x6, rfl⟩ := tx6
  refine z_iload_n hC (pc := 11) 1 dX5_code_11 rfl rfl ?_
  refine z_iadd hC (pc := 12) (v := (x6 + x1)) dX5_code_12 rfl ?_
  refine t_callSNi hC hw0 (pc := 13) (As := [.ref a5, .int (x6 + x1)]) (kX12_get l G T κ hst hE ma5) trivial dmX12_get dX5_code_13 zw1835 rfl rfl (Nat.le_of_ble_eq_true rfl) (Nat.le_of_ble_eq_true rfl) (Nat.le_of_ble_eq_true rfl) (Nat.le_of_ble_eq_true rfl) (Nat.le_of_ble_eq_true rfl) (fun _ _ _ h => nomatch h) (fun x8 cw7 nw7 w7 hw7 pw7 => ?_)
  obtain ⟨rfl, rfl, kw7⟩ := pw7
  exact hR _ _ _ _ _ _ dX5_code_16 rfl (Nat.le_of_ble_eq_true rfl) (Nat.le_of_ble_eq_true rfl) ⟨hw7, rfl, rfl, (tKeep.tr tKeep.rf kw7 rfl)⟩
set_option maxRecDepth 20000 in
theorem kX5_tag (l : Launch) (G : zG) (T : tT) (κ : Nat → List Nat) (hst : l.stackTraces = false) (hE : tE G T κ) {a0 : Nat} (h0 : a0 ∈ κ 5) : tMv l G T yX5_tag cX5_tag 2 ["java/lang/IllegalStateException"] 7 102 1 6 [.ref a0] uT (uPv 0x52000000000000000000000000000000000000000000000000000000000000000000000000000000000) := by
  refine tMv.intro hst rfl (Nat.le_of_ble_eq_true rfl) ?_
  intro w0 hw0 _ X hC hR hO hX
  refine z_aload_n hC (pc := 0) 0 dX5_tag_0 rfl rfl ?_
  refine z_aload_n hC (pc := 1) 0 dX5_tag_1 rfl rfl ?_
  refine z_iconst hC (pc := 2) (v := 1) dX5_tag_2 (by decide) ?_
  obtain ⟨q3, hqq3⟩ := hE.o5 h0
  refine t_callVi hC hw0 (pc := 3) (As := [.int 1]) (kX5_code l G T κ hst hE h0) trivial dmX5_code zf5 hqq3 dX5_tag_3 zw2078 rfl rfl (Nat.le_of_ble_eq_true rfl) (Nat.le_of_ble_eq_true rfl) (Nat.le_of_ble_eq_true rfl) (Nat.le_of_ble_eq_true rfl) (Nat.le_of_ble_eq_true rfl) (fun _ _ _ h => nomatch h) (fun x5 cw4 nw4 w4 hw4 pw4 => ?_)
  obtain ⟨rfl, rfl, kw4⟩ := pw4
  refine u_put hC hw4 (pc := 6) zf5 10 (hE.o5 h0) rfl ⟨_, rfl⟩ dX5_tag_6 zw652 rfl rfl rfl (kk := fun w6 hw6 fw6 kw6 => ?_)
  refine z_aload_n hC (pc := 9) 0 dX5_tag_9 rfl rfl ?_
  refine z_iconst hC (pc := 10) (v := 2) dX5_tag_10 (by decide) ?_
  refine t_callVi hC hw6 (pc := 11) (As := [.int 2]) (kX5_code l G T κ hst hE h0) trivial dmX5_code zf5 hqq3 dX5_tag_11 zw2078 rfl rfl (Nat.le_of_ble_eq_true rfl) (Nat.le_of_ble_eq_true rfl) (Nat.le_of_ble_eq_true rfl) (Nat.le_of_ble_eq_true rfl) (Nat.le_of_ble_eq_true rfl) (fun _ _ _ h => nomatch h) (fun x8 cw7 nw7 w7 hw7 pw7 => ?_)
  obtain ⟨rfl, rfl, kw7⟩ := pw7
  refine z_istore_n hC (pc := 14) (lv' := [(1, .int x8), (0, .ref a0)]) dX5_tag_14 rfl (by decide) rfl ?_
  refine z_iload_n hC (pc := 15) 0 dX5_tag_15 rfl rfl ?_
  refine z_if_ne hC (pc := 16) 30 dX5_tag_16 (by decide) (fun c9 => ?_) (fun c9 => ?_)
  · refine z_aload_n hC (pc := 30) 1 dX5_tag_30 rfl rfl ?_
    refine z_iconst hC (pc := 31) (v := (-1)) dX5_tag_31 (by decide) ?_
    refine t_callVv hC hw7 (pc := 32) (As := [.int (-1)]) (kX5_push l G T κ hst hE h0) trivial dmX5_push zf5 hqq3 dX5_tag_32 zw1979 rfl rfl (Nat.le_of_ble_eq_true rfl) (Nat.le_of_ble_eq_true rfl) (Nat.le_of_ble_eq_true rfl) (Nat.le_of_ble_eq_true rfl) (Nat.le_of_ble_eq_true rfl) (fun E w q hE hw => hO E w _ _ _ _ _ q hE (Nat.le_of_ble_eq_true rfl) (Nat.le_of_ble_eq_true rfl) hw) (fun cw10 nw10 w10 hw10 pw10 => ?_)
    obtain ⟨rfl, rfl, kw10⟩ := pw10
    refine z_aload_n hC (pc := 35) 1 dX5_tag_35 rfl rfl ?_
    refine z_iconst hC (pc := 36) (v := (-1)) dX5_tag_36 (by decide) ?_
    refine t_callVv hC hw10 (pc := 37) (As := [.int (-1)]) (kX5_push l G T κ hst hE h0) trivial dmX5_push zf5 hqq3 dX5_tag_37 zw1979 rfl rfl (Nat.le_of_ble_eq_true rfl) (Nat.le_of_ble_eq_true rfl) (Nat.le_of_ble_eq_true rfl) (Nat.le_of_ble_eq_true rfl) (Nat.le_of_ble_eq_true rfl) (fun E w q hE hw => hO E w _ _ _ _ _ q hE (Nat.le_of_ble_eq_true rfl) (Nat.le_of_ble_eq_true rfl) hw) (fun cw12 nw12 w12 hw12 pw12 => ?_)
    obtain ⟨rfl, rfl, kw12⟩ := pw12
    refine z_aload_n hC (pc := 40) 1 dX5_tag_40 rfl rfl ?_
    refine z_iconst hC (pc := 41) (v := 0) dX5_tag_41 (by decide) ?_
    refine t_callVv hC hw12 (pc := 42) (As := [.int 0]) (kX5_push l G T κ hst hE h0) trivial dmX5_push zf5 hqq3 dX5_tag_42 zw1979 rfl rfl (Nat.le_of_ble_eq_true rfl) (Nat.le_of_ble_eq_true rfl) (Nat.le_of_ble_eq_true rfl) (Nat.le_of_ble_eq_true rfl) (Nat.le_of_ble_eq_true rfl) (fun E w q hE hw => hO E w _ _ _ _ _ q hE (Nat.le_of_ble_eq_true rfl) (Nat.le_of_ble_eq_true rfl) hw) (fun cw14 nw14 w14 hw14 pw14 => ?_)
    obtain ⟨rfl, rfl, kw14⟩ := pw14
    refine z_aload_n hC (pc := 45) 1 dX5_tag_45 rfl rfl ?_
    refine z_iconst hC (pc := 46) (v := (-1)) dX5_tag_46 (by decide) ?_
    refine t_callVv hC hw14 (pc := 47) (As := [.int (-1)]) (kX5_push l G T κ hst hE h0) trivial dmX5_push zf5 hqq3 dX5_tag_47 zw1979 rfl rfl (Nat.le_of_ble_eq_true rfl) (Nat.le_of_ble_eq_true rfl) (Nat.le_of_ble_eq_true rfl) (Nat.le_of_ble_eq_true rfl) (Nat.le_of_ble_eq_true rfl) (fun E w q hE hw => hO E w _ _ _ _ _ q hE (Nat.le_of_ble_eq_true rfl) (Nat.le_of_ble_eq_true rfl) hw) (fun cw16 nw16 w16 hw16 pw16 => ?_)
    obtain ⟨rfl, rfl, kw16⟩ := pw16
    refine z_aload_n hC (pc := 50) 1 dX5_tag_50 rfl rfl ?_
    refine z_ldc_w hC (pc := 51) (v := 134217728) dX5_tag_51 zw2094 ?_
    refine t_callVv hC hw16 (pc := 54) (As := [.int 134217728]) (kX5_push l G T κ hst hE h0) trivial dmX5_push zf5 hqq3 dX5_tag_54 zw1979 rfl rfl (Nat.le_of_ble_eq_true rfl) (Nat.le_of_ble_eq_true rfl) (Nat.le_of_ble_eq_true rfl) (Nat.le_of_ble_eq_true rfl) (Nat.le_of_ble_eq_true rfl) (fun E w q hE hw => hO E w _ _ _ _ _ q hE (Nat.le_of_ble_eq_true rfl) (Nat.le_of_ble_eq_true rfl) hw) (fun cw18 nw18 w18 hw18 pw18 => ?_)
    obtain ⟨rfl, rfl, kw18⟩ := pw18
    refine z_aload_n hC (pc := 57) 1 dX5_tag_57 rfl rfl ?_
    refine z_iload_n hC (pc := 58) 0 dX5_tag_58 rfl rfl ?_
    refine u_put hC hw18 (pc := 59) zf5 8 (hE.o5 h0) rfl ⟨_, rfl⟩ dX5_tag_59 zw650 rfl rfl rfl (kk := fun w20 hw20 fw20 kw20 => ?_)
    exact hR _ _ _ _ _ dX5_tag_62 (Nat.le_of_ble_eq_true rfl) (Nat.le_of_ble_eq_true rfl) ⟨hw20, rfl, rfl, (tKeep.tr (tKeep.tr (tKeep.tr (tKeep.tr (tKeep.tr (tKeep.tr (tKeep.tr (tKeep.tr (tKeep.tr tKeep.rf kw4 rfl) kw6 rfl) kw7 rfl) kw10 rfl) kw12 rfl) kw14 rfl) kw16 rfl) kw18 rfl) kw20 rfl)⟩
  · refine z_aload_n hC (pc := 19) 1 dX5_tag_19 rfl rfl ?_
    refine z_dup hC (pc := 20) dX5_tag_20 rfl ?_
    refine u_get hC hw7 (pc := 21) zf5 8 (hE.o5 h0) rfl dX5_tag_21 zw650 (kk := fun vx21 tx21 fx21 => ?_)
    obtain ⟨x21, rfl⟩ := tx21
    refine z_iconst hC (pc := 24) (v := 3) dX5_tag_24 (by decide) ?_
    refine z_iadd hC (pc := 25) (v := (x21 + 3)) dX5_tag_25 rfl ?_
    refine u_put hC hw7 (pc := 26) zf5 8 (hE.o5 h0) rfl ⟨_, rfl⟩ dX5_tag_26 zw650 rfl rfl rfl (kk := fun w22 hw22 fw22 kw22 => ?_)
    exact hR _ _ _ _ _ dX5_tag_29 (Nat.le_of_ble_eq_true rfl) (Nat.le_of_ble_eq_true rfl) ⟨hw22, rfl, rfl, (tKeep.tr (tKeep.tr (tKeep.tr (tKeep.tr tKeep.rf kw4 rfl) kw6 rfl) kw7 rfl) kw22 rfl)⟩
set_option maxRecDepth 20000 in
theorem kX3_isTrue (l : Launch) (G : zG) (T : tT) (κ : Nat → List Nat) (hst : l.stackTraces = false) (hE : tE G T κ) {a0 : Nat} (h0 : a0 ∈ κ 3) {x1 : Int32} : tMi l G T yX3_isTrue cX3_isTrue 2 .boolean [] 2 42 0 0 [.ref a0, .int x1] uT (uPz 0x0) := by
  refine tMi.intro hst rfl (Nat.le_of_ble_eq_true rfl) ?_
  intro w0 hw0 _ X hC hR hO hX
  refine z_iload_n hC (pc := 0) 1 dX3_isTrue_0 rfl rfl ?_
  refine z_iconst hC (pc := 1) (v := (-1)) dX3_isTrue_1 (by decide) ?_
  have j28 : ∀ (w4 : va_W), tW T w4 → tKeep 0x0 w0 w4 → zS X G 2 w4 [] 0 0 28 [] := by
    intro w4 hw4 kw4
    refine z_iconst hC (pc := 28) (v := 0) dX3_isTrue_28 (by decide) ?_
    exact hR _ _ _ _ _ _ dX3_isTrue_29 rfl (Nat.le_of_ble_eq_true rfl) (Nat.le_of_ble_eq_true rfl) ⟨hw4, rfl, rfl, (tKeep.tr tKeep.rf kw4 rfl), (Or.inl rfl)⟩
  refine z_icmp_eq hC (pc := 2) 28 dX3_isTrue_2 (by decide) (fun c5 => ?_) (fun c5 => ?_)
  · refine z_lvs [] rfl ?_
    exact j28 w0 hw0 tKeep.rf
  · refine z_iload_n hC (pc := 5) 1 dX3_isTrue_5 rfl rfl ?_
    refine z_ldc hC (pc := 6) (v := 134217728) dX3_isTrue_6 zw2032 ?_
    refine z_icmp_eq hC (pc := 8) 28 dX3_isTrue_8 (by decide) (fun c6 => ?_) (fun c6 => ?_)
    · refine z_lvs [] rfl ?_
      exact j28 w0 hw0 tKeep.rf
    · refine z_aload_n hC (pc := 11) 0 dX3_isTrue_11 rfl rfl ?_
      refine z_iload_n hC (pc := 12) 1 dX3_isTrue_12 rfl rfl ?_
      refine z_iconst hC (pc := 13) (v := 0) dX3_isTrue_13 (by decide) ?_
      obtain ⟨q7, hqq7⟩ := hE.o3 h0
      refine t_callVi hC hw0 (pc := 14) (As := [.int x1, .int 0]) (kX3_isHouse l G T κ hst hE h0) trivial dmX3_isHouse zf3 hqq7 dX3_isTrue_14 zw2031 rfl rfl (Nat.le_of_ble_eq_true rfl) (Nat.le_of_ble_eq_true rfl) (Nat.le_of_ble_eq_true rfl) (Nat.le_of_ble_eq_true rfl) (Nat.le_of_ble_eq_true rfl) (fun _ _ _ h => nomatch h) (fun x9 cw8 nw8 w8 hw8 pw8 => ?_)
      obtain ⟨rfl, rfl, kw8, zx9⟩ := pw8
      have j30 : ∀ (w10 : va_W), tW T w10 → tKeep 0x0 w8 w10 → zS X G 2 w10 [(0, .ref a0), (1, .int x1)] 0 0 30 [] := by
        intro w10 hw10 kw10
        refine z_iload_n hC (pc := 30) 1 dX3_isTrue_30 rfl rfl ?_
        refine t_callSi hC hw10 (pc := 31) (As := [.int x1]) (kX3_sortOf l G T κ hst hE) trivial dmX3_sortOf dX3_isTrue_31 zw1844 rfl rfl (Nat.le_of_ble_eq_true rfl) (Nat.le_of_ble_eq_true rfl) (Nat.le_of_ble_eq_true rfl) (Nat.le_of_ble_eq_true rfl) (Nat.le_of_ble_eq_true rfl) (fun _ _ _ h => nomatch h) (fun x12 cw11 nw11 w11 hw11 pw11 => ?_)
        obtain ⟨rfl, rfl, kw11⟩ := pw11
        refine z_ldc hC (pc := 34) (v := 1073741824) dX3_isTrue_34 zw1905 ?_
        refine z_icmp_ne hC (pc := 36) 64 dX3_isTrue_36 (by decide) (fun c13 => ?_) (fun c13 => ?_)
        · refine z_aload_n hC (pc := 64) 0 dX3_isTrue_64 rfl rfl ?_
          refine z_iload_n hC (pc := 65) 1 dX3_isTrue_65 rfl rfl ?_
          refine t_callVi hC hw11 (pc := 66) (As := [.int x1]) (kX3_isMany l G T κ hst hE h0) trivial dmX3_isMany zf3 hqq7 dX3_isTrue_66 zw1851 rfl rfl (Nat.le_of_ble_eq_true rfl) (Nat.le_of_ble_eq_true rfl) (Nat.le_of_ble_eq_true rfl) (Nat.le_of_ble_eq_true rfl) (Nat.le_of_ble_eq_true rfl) (fun _ _ _ h => nomatch h) (fun x15 cw14 nw14 w14 hw14 pw14 => ?_)
          obtain ⟨rfl, rfl, kw14, zx15⟩ := pw14
          have j85 : ∀ (w16 : va_W), tW T w16 → tKeep 0x0 w14 w16 → ∀ (x17 : Int32), tZ (.int x17) → zS X G 2 w16 [] 0 0 85 [.int x17] := by
            intro w16 hw16 kw16 x17 zx17
            exact hR _ _ _ _ _ _ dX3_isTrue_85 (t_nZ zx17) (Nat.le_of_ble_eq_true rfl) (Nat.le_of_ble_eq_true rfl) ⟨hw16, rfl, rfl, (tKeep.tr (tKeep.tr (tKeep.tr (tKeep.tr (tKeep.tr tKeep.rf kw8 rfl) kw10 rfl) kw11 rfl) kw14 rfl) kw16 rfl), zx17⟩
          have j80 : ∀ (w18 : va_W), tW T w18 → tKeep 0x0 w14 w18 → zS X G 2 w18 [] 0 0 80 [] := by
            intro w18 hw18 kw18
            refine z_iconst hC (pc := 80) (v := 1) dX3_isTrue_80 (by decide) ?_
            refine z_goto hC (pc := 81) 85 dX3_isTrue_81 (by decide) ?_
            exact j85 w18 hw18 (tKeep.tr tKeep.rf kw18 rfl) 1 (Or.inr rfl)
          refine z_if_eq hC (pc := 69) 80 dX3_isTrue_69 (by decide) (fun c19 => ?_) (fun c19 => ?_)
          · refine z_lvs [] rfl ?_
            exact j80 w14 hw14 tKeep.rf
          · refine z_aload_n hC (pc := 72) 0 dX3_isTrue_72 rfl rfl ?_
            refine z_iload_n hC (pc := 73) 1 dX3_isTrue_73 rfl rfl ?_
            refine t_callVi hC hw14 (pc := 74) (As := [.int x1]) (kX3_countOf l G T κ hst hE h0) trivial dmX3_countOf zf3 hqq7 dX3_isTrue_74 zw2107 rfl rfl (Nat.le_of_ble_eq_true rfl) (Nat.le_of_ble_eq_true rfl) (Nat.le_of_ble_eq_true rfl) (Nat.le_of_ble_eq_true rfl) (Nat.le_of_ble_eq_true rfl) (fun _ _ _ h => nomatch h) (fun x21 cw20 nw20 w20 hw20 pw20 => ?_)
            obtain ⟨rfl, rfl, kw20⟩ := pw20
            refine z_if_le hC (pc := 77) 84 dX3_isTrue_77 (by decide) (fun c22 => ?_) (fun c22 => ?_)
            · refine z_iconst hC (pc := 84) (v := 0) dX3_isTrue_84 (by decide) ?_
              refine z_lvs [] rfl ?_
              exact j85 w20 hw20 (tKeep.tr tKeep.rf kw20 rfl) 0 (Or.inl rfl)
            · refine z_lvs [] rfl ?_
              exact j80 w20 hw20 (tKeep.tr tKeep.rf kw20 rfl)
        · refine z_aload_n hC (pc := 39) 0 dX3_isTrue_39 rfl rfl ?_
          refine u_get hC hw11 (pc := 40) zf3 2 (hE.o3 h0) rfl dX3_isTrue_40 zw505 (kk := fun va23 ta23 fa23 => ?_)
          obtain ⟨a23, ma23, rfl⟩ := ta23
          refine u_get hC hw11 (pc := 43) zf2 2 (hE.o2 ma23) rfl dX3_isTrue_43 zw243 (kk := fun va24 ta24 fa24 => ?_)
          obtain ⟨a24, ma24, rfl⟩ := ta24
          refine z_iload_n hC (pc := 46) 1 dX3_isTrue_46 rfl rfl ?_
          refine z_ldc hC (pc := 47) (v := 134217727) dX3_isTrue_47 zw1849 ?_
          refine z_iand hC (pc := 49) (v := (x1 &&& 134217727)) dX3_isTrue_49 rfl ?_
          refine z_iconst hC (pc := 50) (v := 2) dX3_isTrue_50 (by decide) ?_
          refine z_iadd hC (pc := 51) (v := ((x1 &&& 134217727) + 2)) dX3_isTrue_51 rfl ?_
          refine t_callSNi hC hw11 (pc := 52) (As := [.ref a24, .int ((x1 &&& 134217727) + 2)]) (kX12_get l G T κ hst hE ma24) trivial dmX12_get dX3_isTrue_52 zw1850 rfl rfl (Nat.le_of_ble_eq_true rfl) (Nat.le_of_ble_eq_true rfl) (Nat.le_of_ble_eq_true rfl) (Nat.le_of_ble_eq_true rfl) (Nat.le_of_ble_eq_true rfl) (fun _ _ _ h => nomatch h) (fun x26 cw25 nw25 w25 hw25 pw25 => ?_)
          obtain ⟨rfl, rfl, kw25⟩ := pw25
          have j63 : ∀ (x27 : Int32), tZ (.int x27) → zS X G 2 w25 [] 0 0 63 [.int x27] := by
            intro x27 zx27
            exact hR _ _ _ _ _ _ dX3_isTrue_63 (t_nZ zx27) (Nat.le_of_ble_eq_true rfl) (Nat.le_of_ble_eq_true rfl) ⟨hw25, rfl, rfl, (tKeep.tr (tKeep.tr (tKeep.tr (tKeep.tr tKeep.rf kw8 rfl) kw10 rfl) kw11 rfl) kw25 rfl), zx27⟩
          refine z_if_le hC (pc := 55) 62 dX3_isTrue_55 (by decide) (fun c28 => ?_) (fun c28 => ?_)
          · refine z_iconst hC (pc := 62) (v := 0) dX3_isTrue_62 (by decide) ?_
            refine z_lvs [] rfl ?_
            exact j63 0 (Or.inl rfl)
          · refine z_iconst hC (pc := 58) (v := 1) dX3_isTrue_58 (by decide) ?_
            refine z_goto hC (pc := 59) 63 dX3_isTrue_59 (by decide) ?_
            refine z_lvs [] rfl ?_
            exact j63 1 (Or.inr rfl)
      refine z_if_eq hC (pc := 17) 30 dX3_isTrue_17 (by decide) (fun c29 => ?_) (fun c29 => ?_)
      · exact j30 w8 hw8 tKeep.rf
      · refine z_aload_n hC (pc := 20) 0 dX3_isTrue_20 rfl rfl ?_
        refine z_iload_n hC (pc := 21) 1 dX3_isTrue_21 rfl rfl ?_
        refine t_callVi hC hw8 (pc := 22) (As := [.int x1]) (kX3_isYes l G T κ hst hE h0) trivial dmX3_isYes zf3 hqq7 dX3_isTrue_22 zw2034 rfl rfl (Nat.le_of_ble_eq_true rfl) (Nat.le_of_ble_eq_true rfl) (Nat.le_of_ble_eq_true rfl) (Nat.le_of_ble_eq_true rfl) (Nat.le_of_ble_eq_true rfl) (fun _ _ _ h => nomatch h) (fun x31 cw30 nw30 w30 hw30 pw30 => ?_)
        obtain ⟨rfl, rfl, kw30, zx31⟩ := pw30
        refine z_if_ne hC (pc := 25) 30 dX3_isTrue_25 (by decide) (fun c32 => ?_) (fun c32 => ?_)
        · exact j30 w30 hw30 (tKeep.tr tKeep.rf kw30 rfl)
        · refine z_lvs [] rfl ?_
          exact j28 w30 hw30 (tKeep.tr (tKeep.tr tKeep.rf kw8 rfl) kw30 rfl)
set_option maxRecDepth 20000 in
theorem kX11_indent (l : Launch) (G : zG) (T : tT) (κ : Nat → List Nat) (hst : l.stackTraces = false) (hE : tE G T κ) {a0 : Nat} (h0 : a0 ∈ κ 11) {x1 : Int32} {x2 : Int32} : tMv l G T yX11_indent cX11_indent 3 [] 1 22 0 0 [.ref a0, .int x1, .int x2] uT (uPv 0x400000000000000000000000000000000000000000000000000000000000000000000000000000000000000000000000000000000000000000000000000000000000000000000000000000000000000000000000000000000000) := by
  refine tMv.intro hst rfl (Nat.le_of_ble_eq_true rfl) ?_
  intro w0 hw0 _ X hC hR hO hX
  refine z_aload_n hC (pc := 0) 0 dX11_indent_0 rfl rfl ?_
  refine u_get hC hw0 (pc := 1) zf11 12 (hE.o11 h0) rfl dX11_indent_1 zw600 (kk := fun va5 ta5 fa5 => ?_)
  obtain ⟨a5, ma5, rfl⟩ := ta5
  refine z_iconst hC (pc := 4) (v := 2) dX11_indent_4 (by decide) ?_
  refine z_aload_n hC (pc := 5) 0 dX11_indent_5 rfl rfl ?_
  refine u_get hC hw0 (pc := 6) zf11 14 (hE.o11 h0) rfl dX11_indent_6 zw603 (kk := fun vx6 tx6 fx6 => ?_)
  obtain ⟨x6, rfl⟩ := tx6
  refine z_imul hC (pc := 9) (v := ((2 : Int32) * x6)) dX11_indent_9 rfl ?_
  refine z_iload_n hC (pc := 10) 1 dX11_indent_10 rfl rfl ?_
  refine t_callSNv hC hw0 (pc := 11) (As := [.ref a5, .int ((2 : Int32) * x6), .int x1]) (kX12_set l G T κ hst hE ma5) trivial dmX12_set dX11_indent_11 zw2112 rfl rfl (Nat.le_of_ble_eq_true rfl) (Nat.le_of_ble_eq_true rfl) (Nat.le_of_ble_eq_true rfl) (Nat.le_of_ble_eq_true rfl) (Nat.le_of_ble_eq_true rfl) (fun _ _ _ h => nomatch h) (fun cw7 nw7 w7 hw7 pw7 => ?_)
  obtain ⟨rfl, rfl, kw7⟩ := pw7
  refine z_aload_n hC (pc := 14) 0 dX11_indent_14 rfl rfl ?_
  refine u_getK hC (pc := 15) zf11 12 (tKeep.F kw7 fa5 rfl) dX11_indent_15 zw600 (kk := ?_)
  refine z_iconst hC (pc := 18) (v := 2) dX11_indent_18 (by decide) ?_
  refine z_aload_n hC (pc := 19) 0 dX11_indent_19 rfl rfl ?_
  refine u_getK hC (pc := 20) zf11 14 (tKeep.F kw7 fx6 rfl) dX11_indent_20 zw603 (kk := ?_)
  refine z_imul hC (pc := 23) (v := ((2 : Int32) * x6)) dX11_indent_23 rfl ?_
  refine z_iconst hC (pc := 24) (v := 1) dX11_indent_24 (by decide) ?_
  refine z_iadd hC (pc := 25) (v := (((2 : Int32) * x6) + 1)) dX11_indent_25 rfl ?_
  refine z_iload_n hC (pc := 26) 2 dX11_indent_26 rfl rfl ?_
  refine t_callSNv hC hw7 (pc := 27) (As := [.ref a5, .int (((2 : Int32) * x6) + 1), .int x2]) (kX12_set l G T κ hst hE ma5) trivial dmX12_set dX11_indent_27 zw2112 rfl rfl (Nat.le_of_ble_eq_true rfl) (Nat.le_of_ble_eq_true rfl) (Nat.le_of_ble_eq_true rfl) (Nat.le_of_ble_eq_true rfl) (Nat.le_of_ble_eq_true rfl) (fun _ _ _ h => nomatch h) (fun cw9 nw9 w9 hw9 pw9 => ?_)
  obtain ⟨rfl, rfl, kw9⟩ := pw9
  refine z_aload_n hC (pc := 30) 0 dX11_indent_30 rfl rfl ?_
  refine z_dup hC (pc := 31) dX11_indent_31 rfl ?_
  refine u_getK hC (pc := 32) zf11 14 (tKeep.F kw9 (tKeep.F kw7 fx6 rfl) rfl) dX11_indent_32 zw603 (kk := ?_)
  refine z_iconst hC (pc := 35) (v := 1) dX11_indent_35 (by decide) ?_
  refine z_iadd hC (pc := 36) (v := (x6 + 1)) dX11_indent_36 rfl ?_
  refine u_put hC hw9 (pc := 37) zf11 14 (hE.o11 h0) rfl ⟨_, rfl⟩ dX11_indent_37 zw603 rfl rfl rfl (kk := fun w11 hw11 fw11 kw11 => ?_)
  exact hR _ _ _ _ _ dX11_indent_40 (Nat.le_of_ble_eq_true rfl) (Nat.le_of_ble_eq_true rfl) ⟨hw11, rfl, rfl, (tKeep.tr (tKeep.tr (tKeep.tr tKeep.rf kw7 rfl) kw9 rfl) kw11 rfl)⟩
set_option maxRecDepth 20000 in
theorem kX5_isBlank (l : Launch) (G : zG) (T : tT) (κ : Nat → List Nat) (hst : l.stackTraces = false) (hE : tE G T κ) {x0 : Int32} : tMi l G T yX5_isBlank cX5_isBlank 1 .boolean [] 0 0 0 0 [.int x0] uT (uPz 0x0) := by
  refine tMi.intro hst rfl (Nat.le_of_ble_eq_true rfl) ?_
  intro w0 hw0 _ X hC hR hO hX
  refine z_iload_n hC (pc := 0) 0 dX5_isBlank_0 rfl rfl ?_
  refine z_bipush hC (pc := 1) (v := 32) dX5_isBlank_1 (by decide) ?_
  have j23 : ∀ (x3 : Int32), tZ (.int x3) → zS X G 1 w0 [] 0 0 23 [.int x3] := by
    intro x3 zx3
    exact hR _ _ _ _ _ _ dX5_isBlank_23 (t_nZ zx3) (Nat.le_of_ble_eq_true rfl) (Nat.le_of_ble_eq_true rfl) ⟨hw0, rfl, rfl, tKeep.rf, zx3⟩
  have j18 : zS X G 1 w0 [] 0 0 18 [] := by
    refine z_iconst hC (pc := 18) (v := 1) dX5_isBlank_18 (by decide) ?_
    refine z_goto hC (pc := 19) 23 dX5_isBlank_19 (by decide) ?_
    exact j23 1 (Or.inr rfl)
  refine z_icmp_eq hC (pc := 3) 18 dX5_isBlank_3 (by decide) (fun c4 => ?_) (fun c4 => ?_)
  · refine z_lvs [] rfl ?_
    exact j18
  · refine z_iload_n hC (pc := 6) 0 dX5_isBlank_6 rfl rfl ?_
    refine z_bipush hC (pc := 7) (v := 9) dX5_isBlank_7 (by decide) ?_
    refine z_icmp_eq hC (pc := 9) 18 dX5_isBlank_9 (by decide) (fun c5 => ?_) (fun c5 => ?_)
    · refine z_lvs [] rfl ?_
      exact j18
    · refine z_iload_n hC (pc := 12) 0 dX5_isBlank_12 rfl rfl ?_
      refine z_bipush hC (pc := 13) (v := 10) dX5_isBlank_13 (by decide) ?_
      refine z_icmp_ne hC (pc := 15) 22 dX5_isBlank_15 (by decide) (fun c6 => ?_) (fun c6 => ?_)
      · refine z_iconst hC (pc := 22) (v := 0) dX5_isBlank_22 (by decide) ?_
        refine z_lvs [] rfl ?_
        exact j23 0 (Or.inl rfl)
      · refine z_lvs [] rfl ?_
        exact j18
set_option maxRecDepth 20000 in
theorem kX5_trimmed (l : Launch) (G : zG) (T : tT) (κ : Nat → List Nat) (hst : l.stackTraces = false) (hE : tE G T κ) {a0 : Nat} (h0 : a0 ∈ κ 5) {x1 : Int32} : tMi l G T yX5_trimmed cX5_trimmed 4 .int [] 1 21 0 0 [.ref a0, .int x1] uT (uPi 0x0) := by
  refine tMi.intro hst rfl (Nat.le_of_ble_eq_true rfl) ?_
  intro w0 hw0 _ X hC hR hO hX
  refine z_iload_n hC (pc := 0) 1 dX5_trimmed_0 rfl rfl ?_
  refine z_ldc_w hC (pc := 1) (v := 134217727) dX5_trimmed_1 zw1991 ?_
  refine z_iand hC (pc := 4) (v := (x1 &&& 134217727)) dX5_trimmed_4 rfl ?_
  refine z_bipush hC (pc := 5) (v := 10) dX5_trimmed_5 (by decide) ?_
  refine z_iushr hC (pc := 7) (v := (((x1 &&& 134217727) : Int32).toUInt32 >>> ((10 : Int32).toUInt32 &&& Int32.toUInt32 31)).toInt32) dX5_trimmed_7 rfl ?_
  refine z_istore_n hC (pc := 8) (lv' := [(2, .int ((((x1 &&& 134217727) : Int32).toUInt32 >>> ((10 : Int32).toUInt32 &&& Int32.toUInt32 31)).toInt32)), (0, .ref a0), (1, .int x1)]) dX5_trimmed_8 rfl (by decide) rfl ?_
  refine z_iload_n hC (pc := 9) 2 dX5_trimmed_9 rfl rfl ?_
  refine z_sipush hC (pc := 10) (v := 1023) dX5_trimmed_10 (by decide) ?_
  refine z_iand hC (pc := 13) (v := (x1 &&& 1023)) dX5_trimmed_13 rfl ?_
  refine z_istore_n hC (pc := 14) (lv' := [(3, .int (x1 &&& 1023)), (2, .int ((((x1 &&& 134217727) : Int32).toUInt32 >>> ((10 : Int32).toUInt32 &&& Int32.toUInt32 31)).toInt32)), (0, .ref a0), (1, .int x1)]) dX5_trimmed_14 rfl (by decide) rfl ?_
  have j15 : ∀ (d15 : Nat), ∀ (w4 : va_W), tW T w4 → tKeep 0x0 w0 w4 → ∀ (x5 : Int32), (((x5 : Int32).toInt + 1).toNat + 1) ≤ d15 → zS X G 4 w4 [(0, .ref a0), (2, .int ((((x1 &&& 134217727) : Int32).toUInt32 >>> ((10 : Int32).toUInt32 &&& Int32.toUInt32 31)).toInt32)), (3, .int x5)] 0 0 15 [] := by
    intro d15
    induction d15 with
    | zero => intro w4 hw4 kw4 x5 hd15; exact absurd hd15 (Nat.not_succ_le_zero _)
    | succ d15 ih15 =>
      intro w4 hw4 kw4 x5 hd15
      refine z_iload_n hC (pc := 15) 2 dX5_trimmed_15 rfl rfl ?_
      have j46 : ∀ (d46 : Nat), ∀ (w6 : va_W), tW T w6 → tKeep 0x0 w4 w6 → ∀ (x7 : Int32), ∀ (x8 : Int32), (((x8 : Int32).toInt + 1).toNat + 1) ≤ d46 → zS X G 4 w6 [(0, .ref a0), (2, .int x7), (3, .int x8)] 0 0 46 [] := by
        intro d46
        induction d46 with
        | zero => intro w6 hw6 kw6 x7 x8 hd46; exact absurd hd46 (Nat.not_succ_le_zero _)
        | succ d46 ih46 =>
          intro w6 hw6 kw6 x7 x8 hd46
          refine z_iload_n hC (pc := 46) 2 dX5_trimmed_46 rfl rfl ?_
          have j76 : ∀ (w9 : va_W), tW T w9 → tKeep 0x0 w6 w9 → zS X G 4 w9 [(2, .int x7), (3, .int x8)] 0 0 76 [] := by
            intro w9 hw9 kw9
            refine z_ldc_w hC (pc := 76) (v := 536870912) dX5_trimmed_76 zw2225 ?_
            refine z_iload_n hC (pc := 79) 0 dX5_trimmed_79 rfl rfl ?_
            refine z_bipush hC (pc := 80) (v := 10) dX5_trimmed_80 (by decide) ?_
            refine z_ishl hC (pc := 82) (v := (x7 <<< (10 &&& 31))) dX5_trimmed_82 rfl ?_
            refine z_ior hC (pc := 83) (v := ((536870912 : Int32) ||| (x7 <<< (10 &&& 31)))) dX5_trimmed_83 rfl ?_
            refine z_iload_n hC (pc := 84) 1 dX5_trimmed_84 rfl rfl ?_
            refine z_ior hC (pc := 85) (v := (((536870912 : Int32) ||| (x7 <<< (10 &&& 31))) ||| x8)) dX5_trimmed_85 rfl ?_
            exact hR _ _ _ _ _ _ dX5_trimmed_86 rfl (Nat.le_of_ble_eq_true rfl) (Nat.le_of_ble_eq_true rfl) ⟨hw9, rfl, rfl, (tKeep.tr (tKeep.tr (tKeep.tr tKeep.rf kw4 rfl) kw6 rfl) kw9 rfl)⟩
          refine z_if_le hC (pc := 47) 76 dX5_trimmed_47 (by decide) (fun c10 => ?_) (fun c10 => ?_)
          · refine z_lvs [1, 2] rfl ?_
            exact j76 w6 hw6 tKeep.rf
          · refine z_aload_n hC (pc := 50) 0 dX5_trimmed_50 rfl rfl ?_
            refine u_get hC hw6 (pc := 51) zf5 2 (hE.o5 h0) rfl dX5_trimmed_51 zw644 (kk := fun va11 ta11 fa11 => ?_)
            obtain ⟨a11, ma11, rfl⟩ := ta11
            refine u_get hC hw6 (pc := 54) zf3 11 (hE.o3 ma11) rfl dX5_trimmed_54 zw518 (kk := fun va12 ta12 fa12 => ?_)
            obtain ⟨a12, ma12, rfl⟩ := ta12
            refine z_iload_n hC (pc := 57) 1 dX5_trimmed_57 rfl rfl ?_
            refine t_callSNi hC hw6 (pc := 58) (As := [.ref a12, .int x7]) (kX12_getByte l G T κ hst hE (Or.inl ma12)) trivial dmX12_getByte dX5_trimmed_58 zw1992 rfl rfl (Nat.le_of_ble_eq_true rfl) (Nat.le_of_ble_eq_true rfl) (Nat.le_of_ble_eq_true rfl) (Nat.le_of_ble_eq_true rfl) (Nat.le_of_ble_eq_true rfl) (fun _ _ _ h => nomatch h) (fun x14 cw13 nw13 w13 hw13 pw13 => ?_)
            obtain ⟨rfl, rfl, kw13⟩ := pw13
            refine t_callSi hC hw13 (pc := 61) (As := [.int x14]) (kX5_isBlank l G T κ hst hE) trivial dmX5_isBlank dX5_trimmed_61 zw2222 rfl rfl (Nat.le_of_ble_eq_true rfl) (Nat.le_of_ble_eq_true rfl) (Nat.le_of_ble_eq_true rfl) (Nat.le_of_ble_eq_true rfl) (Nat.le_of_ble_eq_true rfl) (fun _ _ _ h => nomatch h) (fun x16 cw15 nw15 w15 hw15 pw15 => ?_)
            obtain ⟨rfl, rfl, kw15, zx16⟩ := pw15
            refine z_if_eq hC (pc := 64) 76 dX5_trimmed_64 (by decide) (fun c17 => ?_) (fun c17 => ?_)
            · refine z_lvs [1, 2] rfl ?_
              exact j76 w15 hw15 (tKeep.tr (tKeep.tr tKeep.rf kw13 rfl) kw15 rfl)
            · refine z_iinc hC (pc := 67) (v := (x7 + 1)) (lv' := [(2, .int (x7 + 1)), (0, .ref a0), (3, .int x8)]) 1 dX5_trimmed_67 rfl (congrArg _ (by decide)) (by decide) rfl ?_
              refine z_iinc hC (pc := 70) (v := (x8 + -1)) (lv' := [(3, .int (x8 + -1)), (2, .int (x7 + 1)), (0, .ref a0)]) 2 dX5_trimmed_70 rfl (congrArg _ (by decide)) (by decide) rfl ?_
              refine z_goto hC (pc := 73) 46 dX5_trimmed_73 (by decide) ?_
              refine z_lvs [2, 1, 0] rfl ?_
              exact ih46 w15 hw15 (tKeep.tr (tKeep.tr (tKeep.tr tKeep.rf kw6 rfl) kw13 rfl) kw15 rfl) (x7 + 1) (x8 + -1) (t_down (Int32.le_of_lt (Int32.not_le.mp c10)) hd46)
      refine z_if_le hC (pc := 16) 46 dX5_trimmed_16 (by decide) (fun c18 => ?_) (fun c18 => ?_)
      · exact j46 _ w4 hw4 tKeep.rf ((((x1 &&& 134217727) : Int32).toUInt32 >>> ((10 : Int32).toUInt32 &&& Int32.toUInt32 31)).toInt32) x5 (Nat.le_refl _)
      · refine z_aload_n hC (pc := 19) 0 dX5_trimmed_19 rfl rfl ?_
        refine u_get hC hw4 (pc := 20) zf5 2 (hE.o5 h0) rfl dX5_trimmed_20 zw644 (kk := fun va19 ta19 fa19 => ?_)
        obtain ⟨a19, ma19, rfl⟩ := ta19
        refine u_get hC hw4 (pc := 23) zf3 11 (hE.o3 ma19) rfl dX5_trimmed_23 zw518 (kk := fun va20 ta20 fa20 => ?_)
        obtain ⟨a20, ma20, rfl⟩ := ta20
        refine z_iload_n hC (pc := 26) 1 dX5_trimmed_26 rfl rfl ?_
        refine z_iload_n hC (pc := 27) 2 dX5_trimmed_27 rfl rfl ?_
        refine z_iadd hC (pc := 28) (v := ((((x1 &&& 134217727) : Int32).toUInt32 >>> ((10 : Int32).toUInt32 &&& Int32.toUInt32 31)).toInt32 + x5)) dX5_trimmed_28 rfl ?_
        refine z_iconst hC (pc := 29) (v := 1) dX5_trimmed_29 (by decide) ?_
        refine z_isub hC (pc := 30) (v := (((((x1 &&& 134217727) : Int32).toUInt32 >>> ((10 : Int32).toUInt32 &&& Int32.toUInt32 31)).toInt32 + x5) - 1)) dX5_trimmed_30 rfl ?_
        refine t_callSNi hC hw4 (pc := 31) (As := [.ref a20, .int (((((x1 &&& 134217727) : Int32).toUInt32 >>> ((10 : Int32).toUInt32 &&& Int32.toUInt32 31)).toInt32 + x5) - 1)]) (kX12_getByte l G T κ hst hE (Or.inl ma20)) trivial dmX12_getByte dX5_trimmed_31 zw1992 rfl rfl (Nat.le_of_ble_eq_true rfl) (Nat.le_of_ble_eq_true rfl) (Nat.le_of_ble_eq_true rfl) (Nat.le_of_ble_eq_true rfl) (Nat.le_of_ble_eq_true rfl) (fun _ _ _ h => nomatch h) (fun x22 cw21 nw21 w21 hw21 pw21 => ?_)
        obtain ⟨rfl, rfl, kw21⟩ := pw21
        refine t_callSi hC hw21 (pc := 34) (As := [.int x22]) (kX5_isBlank l G T κ hst hE) trivial dmX5_isBlank dX5_trimmed_34 zw2222 rfl rfl (Nat.le_of_ble_eq_true rfl) (Nat.le_of_ble_eq_true rfl) (Nat.le_of_ble_eq_true rfl) (Nat.le_of_ble_eq_true rfl) (Nat.le_of_ble_eq_true rfl) (fun _ _ _ h => nomatch h) (fun x24 cw23 nw23 w23 hw23 pw23 => ?_)
        obtain ⟨rfl, rfl, kw23, zx24⟩ := pw23
        refine z_if_eq hC (pc := 37) 46 dX5_trimmed_37 (by decide) (fun c25 => ?_) (fun c25 => ?_)
        · exact j46 _ w23 hw23 (tKeep.tr (tKeep.tr tKeep.rf kw21 rfl) kw23 rfl) ((((x1 &&& 134217727) : Int32).toUInt32 >>> ((10 : Int32).toUInt32 &&& Int32.toUInt32 31)).toInt32) x5 (Nat.le_refl _)
        · refine z_iinc hC (pc := 40) (v := (x5 + -1)) (lv' := [(3, .int (x5 + -1)), (0, .ref a0), (2, .int ((((x1 &&& 134217727) : Int32).toUInt32 >>> ((10 : Int32).toUInt32 &&& Int32.toUInt32 31)).toInt32))]) 2 dX5_trimmed_40 rfl (congrArg _ (by decide)) (by decide) rfl ?_
          refine z_goto hC (pc := 43) 15 dX5_trimmed_43 (by decide) ?_
          refine z_lvs [1, 2, 0] rfl ?_
          exact ih15 w23 hw23 (tKeep.tr (tKeep.tr (tKeep.tr tKeep.rf kw4 rfl) kw21 rfl) kw23 rfl) (x5 + -1) (t_down (Int32.le_of_lt (Int32.not_le.mp c18)) hd15)
  refine z_lvs [2, 1, 0] rfl ?_
  exact j15 _ w0 hw0 tKeep.rf (x1 &&& 1023) (Nat.le_refl _)
set_option maxRecDepth 20000 in
theorem kX5_collect (l : Launch) (G : zG) (T : tT) (κ : Nat → List Nat) (hst : l.stackTraces = false) (hE : tE G T κ) {a0 : Nat} (h0 : a0 ∈ κ 5) {x1 : Int32} : tMv l G T yX5_collect cX5_collect 2 ["java/lang/IllegalStateException"] 7 102 1 6 [.ref a0, .int x1] uT (uPv 0x12000000000000000000000000000000400000000000000000000000000000000000000000000000000) := by
  refine tMv.intro hst rfl (Nat.le_of_ble_eq_true rfl) ?_
  intro w0 hw0 _ X hC hR hO hX
  refine z_iload_n hC (pc := 0) 1 dX5_collect_0 rfl rfl ?_
  refine z_iconst hC (pc := 1) (v := (-1)) dX5_collect_1 (by decide) ?_
  have j33 : ∀ (w4 : va_W), tW T w4 → tKeep 0x0 w0 w4 → zS X G 2 w4 [(0, .ref a0), (1, .int x1)] 0 0 33 [] := by
    intro w4 hw4 kw4
    refine z_aload_n hC (pc := 33) 0 dX5_collect_33 rfl rfl ?_
    refine u_get hC hw4 (pc := 34) zf5 4 (hE.o5 h0) rfl dX5_collect_34 zw646 (kk := fun va5 ta5 fa5 => ?_)
    obtain ⟨a5, ma5, rfl⟩ := ta5
    refine z_aload_n hC (pc := 37) 0 dX5_collect_37 rfl rfl ?_
    refine u_get hC hw4 (pc := 38) zf5 13 (hE.o5 h0) rfl dX5_collect_38 zw655 (kk := fun vx6 tx6 fx6 => ?_)
    obtain ⟨x6, rfl⟩ := tx6
    refine z_iconst hC (pc := 41) (v := 3) dX5_collect_41 (by decide) ?_
    refine z_iadd hC (pc := 42) (v := (x6 + 3)) dX5_collect_42 rfl ?_
    refine t_callSNi hC hw4 (pc := 43) (As := [.ref a5, .int (x6 + 3)]) (kX12_get l G T κ hst hE ma5) trivial dmX12_get dX5_collect_43 zw1835 rfl rfl (Nat.le_of_ble_eq_true rfl) (Nat.le_of_ble_eq_true rfl) (Nat.le_of_ble_eq_true rfl) (Nat.le_of_ble_eq_true rfl) (Nat.le_of_ble_eq_true rfl) (fun _ _ _ h => nomatch h) (fun x8 cw7 nw7 w7 hw7 pw7 => ?_)
    obtain ⟨rfl, rfl, kw7⟩ := pw7
    refine z_iconst hC (pc := 46) (v := 1) dX5_collect_46 (by decide) ?_
    have j58 : ∀ (w9 : va_W), tW T w9 → tKeep 0x400000000000000000000000000000000000000000000000000 w7 w9 → zS X G 2 w9 [(0, .ref a0), (1, .int x1)] 0 0 58 [] := by
      intro w9 hw9 kw9
      refine z_aload_n hC (pc := 58) 0 dX5_collect_58 rfl rfl ?_
      refine z_iload_n hC (pc := 59) 1 dX5_collect_59 rfl rfl ?_
      obtain ⟨q10, hqq10⟩ := hE.o5 h0
      refine t_callVv hC hw9 (pc := 60) (As := [.int x1]) (kX5_push l G T κ hst hE h0) trivial dmX5_push zf5 hqq10 dX5_collect_60 zw1979 rfl rfl (Nat.le_of_ble_eq_true rfl) (Nat.le_of_ble_eq_true rfl) (Nat.le_of_ble_eq_true rfl) (Nat.le_of_ble_eq_true rfl) (Nat.le_of_ble_eq_true rfl) (fun E w q hE hw => hO E w _ _ _ _ _ q hE (Nat.le_of_ble_eq_true rfl) (Nat.le_of_ble_eq_true rfl) hw) (fun cw11 nw11 w11 hw11 pw11 => ?_)
      obtain ⟨rfl, rfl, kw11⟩ := pw11
      refine z_aload_n hC (pc := 63) 0 dX5_collect_63 rfl rfl ?_
      refine z_aload_n hC (pc := 64) 0 dX5_collect_64 rfl rfl ?_
      refine u_getK hC (pc := 65) zf5 4 (tKeep.F kw11 (tKeep.F kw9 (tKeep.F kw7 fa5 rfl) rfl) rfl) dX5_collect_65 zw646 (kk := ?_)
      refine z_aload_n hC (pc := 68) 0 dX5_collect_68 rfl rfl ?_
      refine u_getK hC (pc := 69) zf5 13 (tKeep.F kw11 (tKeep.F kw9 (tKeep.F kw7 fx6 rfl) rfl) rfl) dX5_collect_69 zw655 (kk := ?_)
      refine z_iconst hC (pc := 72) (v := 4) dX5_collect_72 (by decide) ?_
      refine z_iadd hC (pc := 73) (v := (x6 + 4)) dX5_collect_73 rfl ?_
      refine t_callSNi hC hw11 (pc := 74) (As := [.ref a5, .int (x6 + 4)]) (kX12_get l G T κ hst hE ma5) trivial dmX12_get dX5_collect_74 zw1835 rfl rfl (Nat.le_of_ble_eq_true rfl) (Nat.le_of_ble_eq_true rfl) (Nat.le_of_ble_eq_true rfl) (Nat.le_of_ble_eq_true rfl) (Nat.le_of_ble_eq_true rfl) (fun _ _ _ h => nomatch h) (fun x14 cw13 nw13 w13 hw13 pw13 => ?_)
      obtain ⟨rfl, rfl, kw13⟩ := pw13
      refine u_put hC hw13 (pc := 77) zf5 8 (hE.o5 h0) rfl ⟨_, rfl⟩ dX5_collect_77 zw650 rfl rfl rfl (kk := fun w15 hw15 fw15 kw15 => ?_)
      exact hR _ _ _ _ _ dX5_collect_80 (Nat.le_of_ble_eq_true rfl) (Nat.le_of_ble_eq_true rfl) ⟨hw15, rfl, rfl, (tKeep.tr (tKeep.tr (tKeep.tr (tKeep.tr (tKeep.tr (tKeep.tr tKeep.rf kw4 rfl) kw7 rfl) kw9 rfl) kw11 rfl) kw13 rfl) kw15 rfl)⟩
    refine z_icmp_ne hC (pc := 47) 58 dX5_collect_47 (by decide) (fun c16 => ?_) (fun c16 => ?_)
    · exact j58 w7 hw7 tKeep.rf
    · refine z_aload_n hC (pc := 50) 0 dX5_collect_50 rfl rfl ?_
      refine u_get hC hw7 (pc := 51) zf5 2 (hE.o5 h0) rfl dX5_collect_51 zw644 (kk := fun va17 ta17 fa17 => ?_)
      obtain ⟨a17, ma17, rfl⟩ := ta17
      refine z_iconst hC (pc := 54) (v := 1) dX5_collect_54 (by decide) ?_
      obtain ⟨q18, hqq18⟩ := hE.o3 ma17
      refine t_callVv hC hw7 (pc := 55) (As := [.int 1]) (kX3_counted l G T κ hst hE ma17) trivial dmX3_counted zf3 hqq18 dX5_collect_55 zw2250 rfl rfl (Nat.le_of_ble_eq_true rfl) (Nat.le_of_ble_eq_true rfl) (Nat.le_of_ble_eq_true rfl) (Nat.le_of_ble_eq_true rfl) (Nat.le_of_ble_eq_true rfl) (fun E w q hE hw => hO E w _ _ _ _ _ q hE (Nat.le_of_ble_eq_true rfl) (Nat.le_of_ble_eq_true rfl) hw) (fun cw19 nw19 w19 hw19 pw19 => ?_)
      obtain ⟨rfl, rfl, kw19⟩ := pw19
      exact j58 w19 hw19 (tKeep.tr tKeep.rf kw19 rfl)
  refine z_icmp_eq hC (pc := 2) 33 dX5_collect_2 (by decide) (fun c21 => ?_) (fun c21 => ?_)
  · exact j33 w0 hw0 tKeep.rf
  · refine z_aload_n hC (pc := 5) 0 dX5_collect_5 rfl rfl ?_
    refine u_get hC hw0 (pc := 6) zf5 2 (hE.o5 h0) rfl dX5_collect_6 zw644 (kk := fun va22 ta22 fa22 => ?_)
    obtain ⟨a22, ma22, rfl⟩ := ta22
    refine u_get hC hw0 (pc := 9) zf3 5 (hE.o3 ma22) rfl dX5_collect_9 zw510 (kk := fun va23 ta23 fa23 => ?_)
    obtain ⟨a23, ma23, rfl⟩ := ta23
    refine z_iload_n hC (pc := 12) 1 dX5_collect_12 rfl rfl ?_
    refine z_ldc_w hC (pc := 13) (v := 134217727) dX5_collect_13 zw1991 ?_
    refine z_iand hC (pc := 16) (v := (x1 &&& 134217727)) dX5_collect_16 rfl ?_
    refine z_aload_n hC (pc := 17) 0 dX5_collect_17 rfl rfl ?_
    refine u_get hC hw0 (pc := 18) zf5 4 (hE.o5 h0) rfl dX5_collect_18 zw646 (kk := fun va24 ta24 fa24 => ?_)
    obtain ⟨a24, ma24, rfl⟩ := ta24
    refine z_aload_n hC (pc := 21) 0 dX5_collect_21 rfl rfl ?_
    refine u_get hC hw0 (pc := 22) zf5 13 (hE.o5 h0) rfl dX5_collect_22 zw655 (kk := fun vx25 tx25 fx25 => ?_)
    obtain ⟨x25, rfl⟩ := tx25
    refine z_iconst hC (pc := 25) (v := 2) dX5_collect_25 (by decide) ?_
    refine z_iadd hC (pc := 26) (v := (x25 + 2)) dX5_collect_26 rfl ?_
    refine t_callSNi hC hw0 (pc := 27) (As := [.ref a24, .int (x25 + 2)]) (kX12_get l G T κ hst hE ma24) trivial dmX12_get dX5_collect_27 zw1835 rfl rfl (Nat.le_of_ble_eq_true rfl) (Nat.le_of_ble_eq_true rfl) (Nat.le_of_ble_eq_true rfl) (Nat.le_of_ble_eq_true rfl) (Nat.le_of_ble_eq_true rfl) (fun _ _ _ h => nomatch h) (fun x27 cw26 nw26 w26 hw26 pw26 => ?_)
    obtain ⟨rfl, rfl, kw26⟩ := pw26
    refine t_callSNv hC hw26 (pc := 30) (As := [.ref a23, .int (x1 &&& 134217727), .int x27]) (kX12_set l G T κ hst hE ma23) trivial dmX12_set dX5_collect_30 zw1882 rfl rfl (Nat.le_of_ble_eq_true rfl) (Nat.le_of_ble_eq_true rfl) (Nat.le_of_ble_eq_true rfl) (Nat.le_of_ble_eq_true rfl) (Nat.le_of_ble_eq_true rfl) (fun _ _ _ h => nomatch h) (fun cw28 nw28 w28 hw28 pw28 => ?_)
    obtain ⟨rfl, rfl, kw28⟩ := pw28
    exact j33 w28 hw28 (tKeep.tr (tKeep.tr tKeep.rf kw26 rfl) kw28 rfl)
set_option maxRecDepth 20000 in
theorem kX5_current (l : Launch) (G : zG) (T : tT) (κ : Nat → List Nat) (hst : l.stackTraces = false) (hE : tE G T κ) {a0 : Nat} (h0 : a0 ∈ κ 5) : tMi l G T yX5_current cX5_current 1 .int [] 2 43 0 0 [.ref a0] uT (uPi 0x0) := by
  refine tMi.intro hst rfl (Nat.le_of_ble_eq_true rfl) ?_
  intro w0 hw0 _ X hC hR hO hX
  refine z_aload_n hC (pc := 0) 0 dX5_current_0 rfl rfl ?_
  refine u_get hC hw0 (pc := 1) zf5 2 (hE.o5 h0) rfl dX5_current_1 zw644 (kk := fun va3 ta3 fa3 => ?_)
  obtain ⟨a3, ma3, rfl⟩ := ta3
  refine z_aload_n hC (pc := 4) 0 dX5_current_4 rfl rfl ?_
  refine u_get hC hw0 (pc := 5) zf5 4 (hE.o5 h0) rfl dX5_current_5 zw646 (kk := fun va4 ta4 fa4 => ?_)
  obtain ⟨a4, ma4, rfl⟩ := ta4
  refine z_aload_n hC (pc := 8) 0 dX5_current_8 rfl rfl ?_
  refine u_get hC hw0 (pc := 9) zf5 13 (hE.o5 h0) rfl dX5_current_9 zw655 (kk := fun vx5 tx5 fx5 => ?_)
  obtain ⟨x5, rfl⟩ := tx5
  refine z_iconst hC (pc := 12) (v := 1) dX5_current_12 (by decide) ?_
  refine z_iadd hC (pc := 13) (v := (x5 + 1)) dX5_current_13 rfl ?_
  refine t_callSNi hC hw0 (pc := 14) (As := [.ref a4, .int (x5 + 1)]) (kX12_get l G T κ hst hE ma4) trivial dmX12_get dX5_current_14 zw1835 rfl rfl (Nat.le_of_ble_eq_true rfl) (Nat.le_of_ble_eq_true rfl) (Nat.le_of_ble_eq_true rfl) (Nat.le_of_ble_eq_true rfl) (Nat.le_of_ble_eq_true rfl) (fun _ _ _ h => nomatch h) (fun x7 cw6 nw6 w6 hw6 pw6 => ?_)
  obtain ⟨rfl, rfl, kw6⟩ := pw6
  refine z_aload_n hC (pc := 17) 0 dX5_current_17 rfl rfl ?_
  refine u_getK hC (pc := 18) zf5 4 (tKeep.F kw6 fa4 rfl) dX5_current_18 zw646 (kk := ?_)
  refine z_aload_n hC (pc := 21) 0 dX5_current_21 rfl rfl ?_
  refine u_getK hC (pc := 22) zf5 13 (tKeep.F kw6 fx5 rfl) dX5_current_22 zw655 (kk := ?_)
  refine z_iconst hC (pc := 25) (v := 2) dX5_current_25 (by decide) ?_
  refine z_iadd hC (pc := 26) (v := (x5 + 2)) dX5_current_26 rfl ?_
  refine t_callSNi hC hw6 (pc := 27) (As := [.ref a4, .int (x5 + 2)]) (kX12_get l G T κ hst hE ma4) trivial dmX12_get dX5_current_27 zw1835 rfl rfl (Nat.le_of_ble_eq_true rfl) (Nat.le_of_ble_eq_true rfl) (Nat.le_of_ble_eq_true rfl) (Nat.le_of_ble_eq_true rfl) (Nat.le_of_ble_eq_true rfl) (fun _ _ _ h => nomatch h) (fun x9 cw8 nw8 w8 hw8 pw8 => ?_)
  obtain ⟨rfl, rfl, kw8⟩ := pw8
  refine z_iconst hC (pc := 30) (v := 1) dX5_current_30 (by decide) ?_
  refine z_isub hC (pc := 31) (v := (x9 - 1)) dX5_current_31 rfl ?_
  obtain ⟨q10, hqq10⟩ := hE.o3 ma3
  refine t_callVi hC hw8 (pc := 32) (As := [.int x7, .int (x9 - 1)]) (kX3_valueOf l G T κ hst hE ma3) trivial dmX3_valueOf zf3 hqq10 dX5_current_32 zw1871 rfl rfl (Nat.le_of_ble_eq_true rfl) (Nat.le_of_ble_eq_true rfl) (Nat.le_of_ble_eq_true rfl) (Nat.le_of_ble_eq_true rfl) (Nat.le_of_ble_eq_true rfl) (fun _ _ _ h => nomatch h) (fun x12 cw11 nw11 w11 hw11 pw11 => ?_)
  obtain ⟨rfl, rfl, kw11⟩ := pw11
  exact hR _ _ _ _ _ _ dX5_current_35 rfl (Nat.le_of_ble_eq_true rfl) (Nat.le_of_ble_eq_true rfl) ⟨hw11, rfl, rfl, (tKeep.tr (tKeep.tr (tKeep.tr tKeep.rf kw6 rfl) kw8 rfl) kw11 rfl)⟩
set_option maxRecDepth 20000 in
theorem kX5_eachText (l : Launch) (G : zG) (T : tT) (κ : Nat → List Nat) (hst : l.stackTraces = false) (hE : tE G T κ) {a0 : Nat} (h0 : a0 ∈ κ 5) : tMi l G T yX5_eachText cX5_eachText 1 .int [] 2 42 0 0 [.ref a0] uT (uPi 0x0) := by
  refine tMi.intro hst rfl (Nat.le_of_ble_eq_true rfl) ?_
  intro w0 hw0 _ X hC hR hO hX
  refine z_aload_n hC (pc := 0) 0 dX5_eachText_0 rfl rfl ?_
  refine u_get hC hw0 (pc := 1) zf5 4 (hE.o5 h0) rfl dX5_eachText_1 zw646 (kk := fun va3 ta3 fa3 => ?_)
  obtain ⟨a3, ma3, rfl⟩ := ta3
  refine z_aload_n hC (pc := 4) 0 dX5_eachText_4 rfl rfl ?_
  refine u_get hC hw0 (pc := 5) zf5 13 (hE.o5 h0) rfl dX5_eachText_5 zw655 (kk := fun vx4 tx4 fx4 => ?_)
  obtain ⟨x4, rfl⟩ := tx4
  refine z_iconst hC (pc := 8) (v := 5) dX5_eachText_8 (by decide) ?_
  refine z_iadd hC (pc := 9) (v := (x4 + 5)) dX5_eachText_9 rfl ?_
  refine z_aload_n hC (pc := 10) 0 dX5_eachText_10 rfl rfl ?_
  refine z_iconst hC (pc := 11) (v := 5) dX5_eachText_11 (by decide) ?_
  obtain ⟨q5, hqq5⟩ := hE.o5 h0
  refine t_callVi hC hw0 (pc := 12) (As := [.int 5]) (kX5_code l G T κ hst hE h0) trivial dmX5_code zf5 hqq5 dX5_eachText_12 zw2078 rfl rfl (Nat.le_of_ble_eq_true rfl) (Nat.le_of_ble_eq_true rfl) (Nat.le_of_ble_eq_true rfl) (Nat.le_of_ble_eq_true rfl) (Nat.le_of_ble_eq_true rfl) (fun _ _ _ h => nomatch h) (fun x7 cw6 nw6 w6 hw6 pw6 => ?_)
  obtain ⟨rfl, rfl, kw6⟩ := pw6
  refine z_iadd hC (pc := 15) (v := ((x4 + 5) + x7)) dX5_eachText_15 rfl ?_
  refine t_callSNi hC hw6 (pc := 16) (As := [.ref a3, .int ((x4 + 5) + x7)]) (kX12_get l G T κ hst hE ma3) trivial dmX12_get dX5_eachText_16 zw1835 rfl rfl (Nat.le_of_ble_eq_true rfl) (Nat.le_of_ble_eq_true rfl) (Nat.le_of_ble_eq_true rfl) (Nat.le_of_ble_eq_true rfl) (Nat.le_of_ble_eq_true rfl) (fun _ _ _ h => nomatch h) (fun x9 cw8 nw8 w8 hw8 pw8 => ?_)
  obtain ⟨rfl, rfl, kw8⟩ := pw8
  exact hR _ _ _ _ _ _ dX5_eachText_19 rfl (Nat.le_of_ble_eq_true rfl) (Nat.le_of_ble_eq_true rfl) ⟨hw8, rfl, rfl, (tKeep.tr (tKeep.tr tKeep.rf kw6 rfl) kw8 rfl)⟩
set_option maxRecDepth 20000 in
theorem kX12_run (l : Launch) (G : zG) (T : tT) (κ : Nat → List Nat) (hst : l.stackTraces = false) (hE : tE G T κ) {a0 : Nat} (h0 : a0 ∈ κ 12) {x1 : Int32} : tMi l G T yX12_run cX12_run 3 .int ["java/lang/IllegalArgumentException", "java/lang/IllegalStateException"] 6 81 1 6 [.ref a0, .int x1] uT (uPi 0x60000000000000000000000000000000000000000000000000000000000000000000000000000000000000000000000000000000000000000000000000000000000000000000000000000000000000000000000000000000000000000000000000000) := by
  refine tMi.intro hst rfl (Nat.le_of_ble_eq_true rfl) ?_
  intro w0 hw0 _ X hC hR hO hX
  refine z_iload_n hC (pc := 0) 1 dX12_run_0 rfl rfl ?_
  refine z_iconst hC (pc := 1) (v := 1) dX12_run_1 (by decide) ?_
  have j12 : zS X G 3 w0 [] 0 0 12 [] := by
    exact hX "java/lang/IllegalArgumentException" _ _ _ _ _ _ 123 125 exn (by decide) hw0 dX12_run_12 dX12_run_15 dX12_run_16 dX12_run_19 (by decide +kernel) (by decide +kernel) zw1740 zw27 atg_X12_125 atb_X12_125 ato_X12_125 (by decide) (Nat.le_of_ble_eq_true rfl) (Nat.le_of_ble_eq_true rfl) (Nat.le_of_ble_eq_true rfl)
  refine z_icmp_lt hC (pc := 2) 12 dX12_run_2 (by decide) (fun c4 => ?_) (fun c4 => ?_)
  · refine z_lvs [] rfl ?_
    exact j12
  · refine z_iload_n hC (pc := 5) 1 dX12_run_5 rfl rfl ?_
    refine z_sipush hC (pc := 6) (v := 12000) dX12_run_6 (by decide) ?_
    refine z_icmp_le hC (pc := 9) 20 dX12_run_9 (by decide) (fun c5 => ?_) (fun c5 => ?_)
    · refine z_aload_n hC (pc := 20) 0 dX12_run_20 rfl rfl ?_
      refine u_get hC hw0 (pc := 21) zf12 17 (hE.o12 h0) rfl dX12_run_21 zw725 (kk := fun vx6 tx6 fx6 => ?_)
      obtain ⟨x6, rfl⟩ := tx6
      refine z_iconst hC (pc := 24) (v := 1) dX12_run_24 (by decide) ?_
      refine z_icmp_eq hC (pc := 25) 36 dX12_run_25 (by decide) (fun c7 => ?_) (fun c7 => ?_)
      · refine z_aload_n hC (pc := 36) 0 dX12_run_36 rfl rfl ?_
        refine u_get hC hw0 (pc := 37) zf12 11 (hE.o12 h0) rfl dX12_run_37 zw719 (kk := fun va8 ta8 fa8 => ?_)
        obtain ⟨a8, ma8, rfl⟩ := ta8
        refine u_get hC hw0 (pc := 40) zf5 1 (hE.o5 ma8) rfl dX12_run_40 zw643 (kk := fun va9 ta9 fa9 => ?_)
        obtain ⟨a9, ma9, rfl⟩ := ta9
        refine u_get hC hw0 (pc := 43) zf11 3 (hE.o11 ma9) rfl dX12_run_43 zw585 (kk := fun vx10 tx10 fx10 => ?_)
        obtain ⟨x10, rfl⟩ := tx10
        refine z_istore_n hC (pc := 46) (lv' := [(2, .int x10), (0, .ref a0), (1, .int x1)]) dX12_run_46 rfl (by decide) rfl ?_
        refine z_iload_n hC (pc := 47) 0 dX12_run_47 rfl rfl ?_
        refine z_aload_n hC (pc := 48) 1 dX12_run_48 rfl rfl ?_
        refine u_get hC hw0 (pc := 49) zf12 18 (hE.o12 h0) rfl dX12_run_49 zw726 (kk := fun vx11 tx11 fx11 => ?_)
        obtain ⟨x11, rfl⟩ := tx11
        refine z_isub hC (pc := 52) (v := (x10 - x11)) dX12_run_52 rfl ?_
        refine z_iload_n hC (pc := 53) 2 dX12_run_53 rfl rfl ?_
        refine z_icmp_lt hC (pc := 54) 69 dX12_run_54 (by decide) (fun c12 => ?_) (fun c12 => ?_)
        · refine z_aload_n hC (pc := 69) 1 dX12_run_69 rfl rfl ?_
          refine z_iload_n hC (pc := 70) 0 dX12_run_70 rfl rfl ?_
          refine u_put hC hw0 (pc := 71) zf12 18 (hE.o12 h0) rfl ⟨_, rfl⟩ dX12_run_71 zw726 rfl rfl rfl (kk := fun w13 hw13 fw13 kw13 => ?_)
          refine z_aload_n hC (pc := 74) 1 dX12_run_74 rfl rfl ?_
          refine z_aload_n hC (pc := 75) 1 dX12_run_75 rfl rfl ?_
          refine u_getK hC (pc := 76) zf12 11 (tKeep.F kw13 fa8 rfl) dX12_run_76 zw719 (kk := ?_)
          refine u_get hC hw13 (pc := 79) zf5 19 (hE.o5 ma8) rfl dX12_run_79 zw662 (kk := fun vx14 tx14 fx14 => ?_)
          obtain ⟨x14, rfl, zx14⟩ := t_zof tx14
          have j90 : ∀ (x15 : Int32), zS X G 3 w13 [(0, .ref a0)] 0 0 90 [.int x15, .ref a0] := by
            intro x15
            refine u_put hC hw13 (pc := 90) zf12 17 (hE.o12 h0) rfl ⟨_, rfl⟩ dX12_run_90 zw725 rfl rfl rfl (kk := fun w16 hw16 fw16 kw16 => ?_)
            refine z_aload_n hC (pc := 93) 0 dX12_run_93 rfl rfl ?_
            refine u_getK hC (pc := 94) zf12 17 fw16 dX12_run_94 zw725 (kk := ?_)
            refine z_iconst hC (pc := 97) (v := 1) dX12_run_97 (by decide) ?_
            refine z_isub hC (pc := 98) (v := (x15 - 1)) dX12_run_98 rfl ?_
            exact hR _ _ _ _ _ _ dX12_run_99 rfl (Nat.le_of_ble_eq_true rfl) (Nat.le_of_ble_eq_true rfl) ⟨hw16, rfl, rfl, (tKeep.tr (tKeep.tr tKeep.rf kw13 rfl) kw16 rfl)⟩
          refine z_if_eq hC (pc := 82) 89 dX12_run_82 (by decide) (fun c17 => ?_) (fun c17 => ?_)
          · refine z_iconst hC (pc := 89) (v := 2) dX12_run_89 (by decide) ?_
            refine z_lvs [1] rfl ?_
            exact j90 2
          · refine z_iconst hC (pc := 85) (v := 3) dX12_run_85 (by decide) ?_
            refine z_goto hC (pc := 86) 90 dX12_run_86 (by decide) ?_
            refine z_lvs [1] rfl ?_
            exact j90 3
        · refine z_aload_n hC (pc := 57) 1 dX12_run_57 rfl rfl ?_
          refine z_dup hC (pc := 58) dX12_run_58 rfl ?_
          refine u_getK hC (pc := 59) zf12 18 fx11 dX12_run_59 zw726 (kk := ?_)
          refine z_iload_n hC (pc := 62) 2 dX12_run_62 rfl rfl ?_
          refine z_iadd hC (pc := 63) (v := (x11 + x1)) dX12_run_63 rfl ?_
          refine u_put hC hw0 (pc := 64) zf12 18 (hE.o12 h0) rfl ⟨_, rfl⟩ dX12_run_64 zw726 rfl rfl rfl (kk := fun w18 hw18 fw18 kw18 => ?_)
          refine z_iconst hC (pc := 67) (v := 0) dX12_run_67 (by decide) ?_
          exact hR _ _ _ _ _ _ dX12_run_68 rfl (Nat.le_of_ble_eq_true rfl) (Nat.le_of_ble_eq_true rfl) ⟨hw18, rfl, rfl, (tKeep.tr tKeep.rf kw18 rfl)⟩
      · exact hX "java/lang/IllegalStateException" _ _ _ _ _ _ 154 196 exn (by decide) hw0 dX12_run_28 dX12_run_31 dX12_run_32 dX12_run_35 (by decide +kernel) (by decide +kernel) zw936 zw20 atg_X12_196 atb_X12_196 ato_X12_196 (by decide) (Nat.le_of_ble_eq_true rfl) (Nat.le_of_ble_eq_true rfl) (Nat.le_of_ble_eq_true rfl)
    · refine z_lvs [] rfl ?_
      exact j12
set_option maxRecDepth 20000 in
theorem kX12_stop (l : Launch) (G : zG) (T : tT) (κ : Nat → List Nat) (hst : l.stackTraces = false) (hE : tE G T κ) {a0 : Nat} (h0 : a0 ∈ κ 12) : tMi l G T yX12_stop cX12_stop 1 .boolean [] 0 0 0 0 [.ref a0] uT (uPz 0x20000000000000000000000000000000000000000000000000000000000000000000000000000000000000000000000000000000000000000000000000000000000000000000000000000000000000000000000000000000000000000000000000000) := by
  refine tMi.intro hst rfl (Nat.le_of_ble_eq_true rfl) ?_
  intro w0 hw0 _ X hC hR hO hX
  refine z_aload_n hC (pc := 0) 0 dX12_stop_0 rfl rfl ?_
  refine u_get hC hw0 (pc := 1) zf12 17 (hE.o12 h0) rfl dX12_stop_1 zw725 (kk := fun vx3 tx3 fx3 => ?_)
  obtain ⟨x3, rfl⟩ := tx3
  refine z_iconst hC (pc := 4) (v := 1) dX12_stop_4 (by decide) ?_
  refine z_icmp_eq hC (pc := 5) 10 dX12_stop_5 (by decide) (fun c4 => ?_) (fun c4 => ?_)
  · refine z_aload_n hC (pc := 10) 0 dX12_stop_10 rfl rfl ?_
    refine z_iconst hC (pc := 11) (v := 4) dX12_stop_11 (by decide) ?_
    refine u_put hC hw0 (pc := 12) zf12 17 (hE.o12 h0) rfl ⟨_, rfl⟩ dX12_stop_12 zw725 rfl rfl rfl (kk := fun w5 hw5 fw5 kw5 => ?_)
    refine z_iconst hC (pc := 15) (v := 1) dX12_stop_15 (by decide) ?_
    exact hR _ _ _ _ _ _ dX12_stop_16 rfl (Nat.le_of_ble_eq_true rfl) (Nat.le_of_ble_eq_true rfl) ⟨hw5, rfl, rfl, (tKeep.tr tKeep.rf kw5 rfl), (Or.inr rfl)⟩
  · refine z_iconst hC (pc := 8) (v := 0) dX12_stop_8 (by decide) ?_
    exact hR _ _ _ _ _ _ dX12_stop_9 rfl (Nat.le_of_ble_eq_true rfl) (Nat.le_of_ble_eq_true rfl) ⟨hw0, rfl, rfl, tKeep.rf, (Or.inl rfl)⟩
set_option maxRecDepth 20000 in
theorem kX12_byteOf (l : Launch) (G : zG) (T : tT) (κ : Nat → List Nat) (hst : l.stackTraces = false) (hE : tE G T κ) {a0 : Nat} (h0 : a0 ∈ κ 12) {x1 : Int32} : tMi l G T yX12_byteOf cX12_byteOf 2 .int [] 1 21 0 0 [.ref a0, .int x1] uT (uPi 0x0) := by
  refine tMi.intro hst rfl (Nat.le_of_ble_eq_true rfl) ?_
  intro w0 hw0 _ X hC hR hO hX
  refine z_aload_n hC (pc := 0) 0 dX12_byteOf_0 rfl rfl ?_
  refine u_get hC hw0 (pc := 1) zf12 17 (hE.o12 h0) rfl dX12_byteOf_1 zw725 (kk := fun vx4 tx4 fx4 => ?_)
  obtain ⟨x4, rfl⟩ := tx4
  have j37 : ∀ (w5 : va_W), tW T w5 → tKeep 0x0 w0 w5 → ∀ (x6 : Int32), zS X G 2 w5 [] 0 0 37 [.int x6] := by
    intro w5 hw5 kw5 x6
    exact hR _ _ _ _ _ _ dX12_byteOf_37 rfl (Nat.le_of_ble_eq_true rfl) (Nat.le_of_ble_eq_true rfl) ⟨hw5, rfl, rfl, (tKeep.tr tKeep.rf kw5 rfl)⟩
  have j19 : zS X G 2 w0 [] 0 0 19 [] := by
    refine z_iconst hC (pc := 19) (v := (-1)) dX12_byteOf_19 (by decide) ?_
    refine z_goto hC (pc := 20) 37 dX12_byteOf_20 (by decide) ?_
    exact j37 w0 hw0 tKeep.rf (-1)
  refine z_if_eq hC (pc := 4) 19 dX12_byteOf_4 (by decide) (fun c7 => ?_) (fun c7 => ?_)
  · refine z_lvs [] rfl ?_
    exact j19
  · refine z_iload_n hC (pc := 7) 1 dX12_byteOf_7 rfl rfl ?_
    refine z_if_lt hC (pc := 8) 19 dX12_byteOf_8 (by decide) (fun c8 => ?_) (fun c8 => ?_)
    · refine z_lvs [] rfl ?_
      exact j19
    · refine z_iload_n hC (pc := 11) 1 dX12_byteOf_11 rfl rfl ?_
      refine z_aload_n hC (pc := 12) 0 dX12_byteOf_12 rfl rfl ?_
      refine u_get hC hw0 (pc := 13) zf12 18 (hE.o12 h0) rfl dX12_byteOf_13 zw726 (kk := fun vx9 tx9 fx9 => ?_)
      obtain ⟨x9, rfl⟩ := tx9
      refine z_icmp_lt hC (pc := 16) 23 dX12_byteOf_16 (by decide) (fun c10 => ?_) (fun c10 => ?_)
      · refine z_aload_n hC (pc := 23) 0 dX12_byteOf_23 rfl rfl ?_
        refine u_get hC hw0 (pc := 24) zf12 11 (hE.o12 h0) rfl dX12_byteOf_24 zw719 (kk := fun va11 ta11 fa11 => ?_)
        obtain ⟨a11, ma11, rfl⟩ := ta11
        refine u_get hC hw0 (pc := 27) zf5 1 (hE.o5 ma11) rfl dX12_byteOf_27 zw643 (kk := fun va12 ta12 fa12 => ?_)
        obtain ⟨a12, ma12, rfl⟩ := ta12
        refine u_get hC hw0 (pc := 30) zf11 1 (hE.o11 ma12) rfl dX12_byteOf_30 zw581 (kk := fun va13 ta13 fa13 => ?_)
        obtain ⟨a13, ma13, rfl⟩ := ta13
        refine z_iload_n hC (pc := 33) 1 dX12_byteOf_33 rfl rfl ?_
        refine t_callSi hC hw0 (pc := 34) (As := [.ref a13, .int x1]) (kX12_getByte l G T κ hst hE (Or.inl ma13)) trivial dmX12_getByte dX12_byteOf_34 zw781 rfl rfl (Nat.le_of_ble_eq_true rfl) (Nat.le_of_ble_eq_true rfl) (Nat.le_of_ble_eq_true rfl) (Nat.le_of_ble_eq_true rfl) (Nat.le_of_ble_eq_true rfl) (fun _ _ _ h => nomatch h) (fun x15 cw14 nw14 w14 hw14 pw14 => ?_)
        obtain ⟨rfl, rfl, kw14⟩ := pw14
        refine z_lvs [] rfl ?_
        exact j37 w14 hw14 (tKeep.tr tKeep.rf kw14 rfl) x15
      · refine z_lvs [] rfl ?_
        exact j19
set_option maxRecDepth 20000 in
theorem kX12_told (l : Launch) (G : zG) (T : tT) (κ : Nat → List Nat) (hst : l.stackTraces = false) (hE : tE G T κ) {a0 : Nat} (h0 : a0 ∈ κ 12) {x1 : Int32} : tMi l G T yX12_told cX12_told 2 .int [] 1 21 0 0 [.ref a0, .int x1] uT (uPi 0x0) := by
  refine tMi.intro hst rfl (Nat.le_of_ble_eq_true rfl) ?_
  intro w0 hw0 _ X hC hR hO hX
  refine z_aload_n hC (pc := 0) 0 dX12_told_0 rfl rfl ?_
  refine u_get hC hw0 (pc := 1) zf12 17 (hE.o12 h0) rfl dX12_told_1 zw725 (kk := fun vx4 tx4 fx4 => ?_)
  obtain ⟨x4, rfl⟩ := tx4
  refine z_if_ne hC (pc := 4) 9 dX12_told_4 (by decide) (fun c5 => ?_) (fun c5 => ?_)
  · refine z_aload_n hC (pc := 9) 0 dX12_told_9 rfl rfl ?_
    refine u_getK hC (pc := 10) zf12 17 fx4 dX12_told_10 zw725 (kk := ?_)
    refine z_iconst hC (pc := 13) (v := 2) dX12_told_13 (by decide) ?_
    have j25 : zS X G 2 w0 [(0, .ref a0), (1, .int x1)] 0 0 25 [] := by
      refine z_aload_n hC (pc := 25) 0 dX12_told_25 rfl rfl ?_
      refine u_get hC hw0 (pc := 26) zf12 11 (hE.o12 h0) rfl dX12_told_26 zw719 (kk := fun va6 ta6 fa6 => ?_)
      obtain ⟨a6, ma6, rfl⟩ := ta6
      refine u_get hC hw0 (pc := 29) zf5 0 (hE.o5 ma6) rfl dX12_told_29 zw641 (kk := fun va7 ta7 fa7 => ?_)
      obtain ⟨a7, ma7, rfl⟩ := ta7
      refine u_get hC hw0 (pc := 32) zf9 2 (hE.o9 ma7) rfl dX12_told_32 zw486 (kk := fun va8 ta8 fa8 => ?_)
      obtain ⟨a8, ma8, rfl⟩ := ta8
      refine z_iload_n hC (pc := 35) 1 dX12_told_35 rfl rfl ?_
      refine t_callSi hC hw0 (pc := 36) (As := [.ref a8, .int x1]) (kX12_get l G T κ hst hE ma8) trivial dmX12_get dX12_told_36 zw915 rfl rfl (Nat.le_of_ble_eq_true rfl) (Nat.le_of_ble_eq_true rfl) (Nat.le_of_ble_eq_true rfl) (Nat.le_of_ble_eq_true rfl) (Nat.le_of_ble_eq_true rfl) (fun _ _ _ h => nomatch h) (fun x10 cw9 nw9 w9 hw9 pw9 => ?_)
      obtain ⟨rfl, rfl, kw9⟩ := pw9
      exact hR _ _ _ _ _ _ dX12_told_39 rfl (Nat.le_of_ble_eq_true rfl) (Nat.le_of_ble_eq_true rfl) ⟨hw9, rfl, rfl, (tKeep.tr tKeep.rf kw9 rfl)⟩
    refine z_icmp_eq hC (pc := 14) 25 dX12_told_14 (by decide) (fun c11 => ?_) (fun c11 => ?_)
    · exact j25
    · refine z_aload_n hC (pc := 17) 0 dX12_told_17 rfl rfl ?_
      refine u_getK hC (pc := 18) zf12 17 fx4 dX12_told_18 zw725 (kk := ?_)
      refine z_iconst hC (pc := 21) (v := 3) dX12_told_21 (by decide) ?_
      refine z_icmp_ne hC (pc := 22) 40 dX12_told_22 (by decide) (fun c12 => ?_) (fun c12 => ?_)
      · refine z_aload_n hC (pc := 40) 0 dX12_told_40 rfl rfl ?_
        refine u_get hC hw0 (pc := 41) zf12 18 (hE.o12 h0) rfl dX12_told_41 zw726 (kk := fun vx13 tx13 fx13 => ?_)
        obtain ⟨x13, rfl⟩ := tx13
        refine z_if_ne hC (pc := 44) 64 dX12_told_44 (by decide) (fun c14 => ?_) (fun c14 => ?_)
        · refine z_aload_n hC (pc := 64) 0 dX12_told_64 rfl rfl ?_
          refine u_get hC hw0 (pc := 65) zf12 11 (hE.o12 h0) rfl dX12_told_65 zw719 (kk := fun va15 ta15 fa15 => ?_)
          obtain ⟨a15, ma15, rfl⟩ := ta15
          refine u_get hC hw0 (pc := 68) zf5 1 (hE.o5 ma15) rfl dX12_told_68 zw643 (kk := fun va16 ta16 fa16 => ?_)
          obtain ⟨a16, ma16, rfl⟩ := ta16
          refine u_get hC hw0 (pc := 71) zf11 2 (hE.o11 ma16) rfl dX12_told_71 zw583 (kk := fun va17 ta17 fa17 => ?_)
          obtain ⟨a17, ma17, rfl⟩ := ta17
          refine z_iconst hC (pc := 74) (v := 3) dX12_told_74 (by decide) ?_
          refine z_aload_n hC (pc := 75) 0 dX12_told_75 rfl rfl ?_
          refine u_getK hC (pc := 76) zf12 18 fx13 dX12_told_76 zw726 (kk := ?_)
          refine z_iconst hC (pc := 79) (v := 1) dX12_told_79 (by decide) ?_
          refine z_isub hC (pc := 80) (v := (x13 - 1)) dX12_told_80 rfl ?_
          refine z_imul hC (pc := 81) (v := ((3 : Int32) * (x13 - 1))) dX12_told_81 rfl ?_
          refine z_iload_n hC (pc := 82) 1 dX12_told_82 rfl rfl ?_
          refine z_iadd hC (pc := 83) (v := (((3 : Int32) * (x13 - 1)) + x1)) dX12_told_83 rfl ?_
          refine t_callSi hC hw0 (pc := 84) (As := [.ref a17, .int (((3 : Int32) * (x13 - 1)) + x1)]) (kX12_get l G T κ hst hE ma17) trivial dmX12_get dX12_told_84 zw915 rfl rfl (Nat.le_of_ble_eq_true rfl) (Nat.le_of_ble_eq_true rfl) (Nat.le_of_ble_eq_true rfl) (Nat.le_of_ble_eq_true rfl) (Nat.le_of_ble_eq_true rfl) (fun _ _ _ h => nomatch h) (fun x19 cw18 nw18 w18 hw18 pw18 => ?_)
          obtain ⟨rfl, rfl, kw18⟩ := pw18
          exact hR _ _ _ _ _ _ dX12_told_87 rfl (Nat.le_of_ble_eq_true rfl) (Nat.le_of_ble_eq_true rfl) ⟨hw18, rfl, rfl, (tKeep.tr tKeep.rf kw18 rfl)⟩
        · refine z_iload_n hC (pc := 47) 1 dX12_told_47 rfl rfl ?_
          refine z_iconst hC (pc := 48) (v := 2) dX12_told_48 (by decide) ?_
          have j63 : ∀ (x20 : Int32), zS X G 2 w0 [] 0 0 63 [.int x20] := by
            intro x20
            exact hR _ _ _ _ _ _ dX12_told_63 rfl (Nat.le_of_ble_eq_true rfl) (Nat.le_of_ble_eq_true rfl) ⟨hw0, rfl, rfl, tKeep.rf⟩
          refine z_icmp_ne hC (pc := 49) 62 dX12_told_49 (by decide) (fun c21 => ?_) (fun c21 => ?_)
          · refine z_iconst hC (pc := 62) (v := 0) dX12_told_62 (by decide) ?_
            refine z_lvs [] rfl ?_
            exact j63 0
          · refine z_aload_n hC (pc := 52) 0 dX12_told_52 rfl rfl ?_
            refine u_get hC hw0 (pc := 53) zf12 11 (hE.o12 h0) rfl dX12_told_53 zw719 (kk := fun va22 ta22 fa22 => ?_)
            obtain ⟨a22, ma22, rfl⟩ := ta22
            refine u_get hC hw0 (pc := 56) zf5 20 (hE.o5 ma22) rfl dX12_told_56 zw664 (kk := fun vx23 tx23 fx23 => ?_)
            obtain ⟨x23, rfl⟩ := tx23
            refine z_goto hC (pc := 59) 63 dX12_told_59 (by decide) ?_
            refine z_lvs [] rfl ?_
            exact j63 x23
      · exact j25
  · refine z_iconst hC (pc := 7) (v := 0) dX12_told_7 (by decide) ?_
    exact hR _ _ _ _ _ _ dX12_told_8 rfl (Nat.le_of_ble_eq_true rfl) (Nat.le_of_ble_eq_true rfl) ⟨hw0, rfl, rfl, tKeep.rf⟩
set_option maxRecDepth 20000 in
theorem kX12_error (l : Launch) (G : zG) (T : tT) (κ : Nat → List Nat) (hst : l.stackTraces = false) (hE : tE G T κ) {a0 : Nat} (h0 : a0 ∈ κ 12) {x1 : Int32} {x2 : Int32} : tMi l G T yX12_error cX12_error 3 .int [] 2 42 0 0 [.ref a0, .int x1, .int x2] uT (uPi 0x0) := by
  refine tMi.intro hst rfl (Nat.le_of_ble_eq_true rfl) ?_
  intro w0 hw0 _ X hC hR hO hX
  refine z_iload_n hC (pc := 0) 1 dX12_error_0 rfl rfl ?_
  have j29 : ∀ (w5 : va_W), tW T w5 → tKeep 0x0 w0 w5 → zS X G 3 w5 [] 0 0 29 [] := by
    intro w5 hw5 kw5
    refine z_iconst hC (pc := 29) (v := (-1)) dX12_error_29 (by decide) ?_
    exact hR _ _ _ _ _ _ dX12_error_30 rfl (Nat.le_of_ble_eq_true rfl) (Nat.le_of_ble_eq_true rfl) ⟨hw5, rfl, rfl, (tKeep.tr tKeep.rf kw5 rfl)⟩
  refine z_if_lt hC (pc := 1) 29 dX12_error_1 (by decide) (fun c6 => ?_) (fun c6 => ?_)
  · refine z_lvs [] rfl ?_
    exact j29 w0 hw0 tKeep.rf
  · refine z_iload_n hC (pc := 4) 1 dX12_error_4 rfl rfl ?_
    refine z_sipush hC (pc := 5) (v := 400) dX12_error_5 (by decide) ?_
    refine z_icmp_ge hC (pc := 8) 29 dX12_error_8 (by decide) (fun c7 => ?_) (fun c7 => ?_)
    · refine z_lvs [] rfl ?_
      exact j29 w0 hw0 tKeep.rf
    · refine z_iload_n hC (pc := 11) 2 dX12_error_11 rfl rfl ?_
      refine z_if_lt hC (pc := 12) 29 dX12_error_12 (by decide) (fun c8 => ?_) (fun c8 => ?_)
      · refine z_lvs [] rfl ?_
        exact j29 w0 hw0 tKeep.rf
      · refine z_iload_n hC (pc := 15) 2 dX12_error_15 rfl rfl ?_
        refine z_iconst hC (pc := 16) (v := 2) dX12_error_16 (by decide) ?_
        refine z_icmp_gt hC (pc := 17) 29 dX12_error_17 (by decide) (fun c9 => ?_) (fun c9 => ?_)
        · refine z_lvs [] rfl ?_
          exact j29 w0 hw0 tKeep.rf
        · refine z_iload_n hC (pc := 20) 1 dX12_error_20 rfl rfl ?_
          refine z_aload_n hC (pc := 21) 0 dX12_error_21 rfl rfl ?_
          refine z_iconst hC (pc := 22) (v := 0) dX12_error_22 (by decide) ?_
          obtain ⟨q10, hqq10⟩ := hE.o12 h0
          refine t_callVi hC hw0 (pc := 23) (As := [.int 0]) (kX12_told l G T κ hst hE h0) trivial dmX12_told zf12 hqq10 dX12_error_23 zw911 rfl rfl (Nat.le_of_ble_eq_true rfl) (Nat.le_of_ble_eq_true rfl) (Nat.le_of_ble_eq_true rfl) (Nat.le_of_ble_eq_true rfl) (Nat.le_of_ble_eq_true rfl) (fun _ _ _ h => nomatch h) (fun x12 cw11 nw11 w11 hw11 pw11 => ?_)
          obtain ⟨rfl, rfl, kw11⟩ := pw11
          refine z_icmp_lt hC (pc := 26) 31 dX12_error_26 (by decide) (fun c13 => ?_) (fun c13 => ?_)
          · refine z_aload_n hC (pc := 31) 0 dX12_error_31 rfl rfl ?_
            refine u_get hC hw11 (pc := 32) zf12 11 (hE.o12 h0) rfl dX12_error_32 zw719 (kk := fun va14 ta14 fa14 => ?_)
            obtain ⟨a14, ma14, rfl⟩ := ta14
            refine u_get hC hw11 (pc := 35) zf5 0 (hE.o5 ma14) rfl dX12_error_35 zw641 (kk := fun va15 ta15 fa15 => ?_)
            obtain ⟨a15, ma15, rfl⟩ := ta15
            refine u_get hC hw11 (pc := 38) zf9 0 (hE.o9 ma15) rfl dX12_error_38 zw479 (kk := fun va16 ta16 fa16 => ?_)
            obtain ⟨a16, ma16, rfl⟩ := ta16
            refine z_iconst hC (pc := 41) (v := 3) dX12_error_41 (by decide) ?_
            refine z_iload_n hC (pc := 42) 1 dX12_error_42 rfl rfl ?_
            refine z_imul hC (pc := 43) (v := ((3 : Int32) * x1)) dX12_error_43 rfl ?_
            refine z_iload_n hC (pc := 44) 2 dX12_error_44 rfl rfl ?_
            refine z_iadd hC (pc := 45) (v := (((3 : Int32) * x1) + x2)) dX12_error_45 rfl ?_
            refine t_callSi hC hw11 (pc := 46) (As := [.ref a16, .int (((3 : Int32) * x1) + x2)]) (kX12_get l G T κ hst hE ma16) trivial dmX12_get dX12_error_46 zw915 rfl rfl (Nat.le_of_ble_eq_true rfl) (Nat.le_of_ble_eq_true rfl) (Nat.le_of_ble_eq_true rfl) (Nat.le_of_ble_eq_true rfl) (Nat.le_of_ble_eq_true rfl) (fun _ _ _ h => nomatch h) (fun x18 cw17 nw17 w17 hw17 pw17 => ?_)
            obtain ⟨rfl, rfl, kw17⟩ := pw17
            exact hR _ _ _ _ _ _ dX12_error_49 rfl (Nat.le_of_ble_eq_true rfl) (Nat.le_of_ble_eq_true rfl) ⟨hw17, rfl, rfl, (tKeep.tr (tKeep.tr tKeep.rf kw11 rfl) kw17 rfl)⟩
          · refine z_lvs [] rfl ?_
            exact j29 w11 hw11 (tKeep.tr tKeep.rf kw11 rfl)
set_option maxRecDepth 20000 in
theorem kX12_looked (l : Launch) (G : zG) (T : tT) (κ : Nat → List Nat) (hst : l.stackTraces = false) (hE : tE G T κ) {a0 : Nat} (h0 : a0 ∈ κ 12) {x1 : Int32} {x2 : Int32} : tMi l G T yX12_looked cX12_looked 3 .int [] 2 42 0 0 [.ref a0, .int x1, .int x2] uT (uPi 0x0) := by
  refine tMi.intro hst rfl (Nat.le_of_ble_eq_true rfl) ?_
  intro w0 hw0 _ X hC hR hO hX
  refine z_iload_n hC (pc := 0) 1 dX12_looked_0 rfl rfl ?_
  have j29 : ∀ (w5 : va_W), tW T w5 → tKeep 0x0 w0 w5 → zS X G 3 w5 [] 0 0 29 [] := by
    intro w5 hw5 kw5
    refine z_bipush hC (pc := 29) (v := (-2)) dX12_looked_29 (by decide) ?_
    exact hR _ _ _ _ _ _ dX12_looked_31 rfl (Nat.le_of_ble_eq_true rfl) (Nat.le_of_ble_eq_true rfl) ⟨hw5, rfl, rfl, (tKeep.tr tKeep.rf kw5 rfl)⟩
  refine z_if_lt hC (pc := 1) 29 dX12_looked_1 (by decide) (fun c6 => ?_) (fun c6 => ?_)
  · refine z_lvs [] rfl ?_
    exact j29 w0 hw0 tKeep.rf
  · refine z_iload_n hC (pc := 4) 1 dX12_looked_4 rfl rfl ?_
    refine z_sipush hC (pc := 5) (v := 1000) dX12_looked_5 (by decide) ?_
    refine z_icmp_ge hC (pc := 8) 29 dX12_looked_8 (by decide) (fun c7 => ?_) (fun c7 => ?_)
    · refine z_lvs [] rfl ?_
      exact j29 w0 hw0 tKeep.rf
    · refine z_iload_n hC (pc := 11) 2 dX12_looked_11 rfl rfl ?_
      refine z_if_lt hC (pc := 12) 29 dX12_looked_12 (by decide) (fun c8 => ?_) (fun c8 => ?_)
      · refine z_lvs [] rfl ?_
        exact j29 w0 hw0 tKeep.rf
      · refine z_iload_n hC (pc := 15) 2 dX12_looked_15 rfl rfl ?_
        refine z_iconst hC (pc := 16) (v := 1) dX12_looked_16 (by decide) ?_
        refine z_icmp_gt hC (pc := 17) 29 dX12_looked_17 (by decide) (fun c9 => ?_) (fun c9 => ?_)
        · refine z_lvs [] rfl ?_
          exact j29 w0 hw0 tKeep.rf
        · refine z_iload_n hC (pc := 20) 1 dX12_looked_20 rfl rfl ?_
          refine z_aload_n hC (pc := 21) 0 dX12_looked_21 rfl rfl ?_
          refine z_iconst hC (pc := 22) (v := 1) dX12_looked_22 (by decide) ?_
          obtain ⟨q10, hqq10⟩ := hE.o12 h0
          refine t_callVi hC hw0 (pc := 23) (As := [.int 1]) (kX12_told l G T κ hst hE h0) trivial dmX12_told zf12 hqq10 dX12_looked_23 zw911 rfl rfl (Nat.le_of_ble_eq_true rfl) (Nat.le_of_ble_eq_true rfl) (Nat.le_of_ble_eq_true rfl) (Nat.le_of_ble_eq_true rfl) (Nat.le_of_ble_eq_true rfl) (fun _ _ _ h => nomatch h) (fun x12 cw11 nw11 w11 hw11 pw11 => ?_)
          obtain ⟨rfl, rfl, kw11⟩ := pw11
          refine z_icmp_lt hC (pc := 26) 32 dX12_looked_26 (by decide) (fun c13 => ?_) (fun c13 => ?_)
          · refine z_aload_n hC (pc := 32) 0 dX12_looked_32 rfl rfl ?_
            refine u_get hC hw11 (pc := 33) zf12 11 (hE.o12 h0) rfl dX12_looked_33 zw719 (kk := fun va14 ta14 fa14 => ?_)
            obtain ⟨a14, ma14, rfl⟩ := ta14
            refine u_get hC hw11 (pc := 36) zf5 0 (hE.o5 ma14) rfl dX12_looked_36 zw641 (kk := fun va15 ta15 fa15 => ?_)
            obtain ⟨a15, ma15, rfl⟩ := ta15
            refine u_get hC hw11 (pc := 39) zf9 1 (hE.o9 ma15) rfl dX12_looked_39 zw481 (kk := fun va16 ta16 fa16 => ?_)
            obtain ⟨a16, ma16, rfl⟩ := ta16
            refine z_iconst hC (pc := 42) (v := 2) dX12_looked_42 (by decide) ?_
            refine z_iload_n hC (pc := 43) 1 dX12_looked_43 rfl rfl ?_
            refine z_imul hC (pc := 44) (v := ((2 : Int32) * x1)) dX12_looked_44 rfl ?_
            refine z_iload_n hC (pc := 45) 2 dX12_looked_45 rfl rfl ?_
            refine z_iadd hC (pc := 46) (v := (((2 : Int32) * x1) + x2)) dX12_looked_46 rfl ?_
            refine t_callSi hC hw11 (pc := 47) (As := [.ref a16, .int (((2 : Int32) * x1) + x2)]) (kX12_get l G T κ hst hE ma16) trivial dmX12_get dX12_looked_47 zw915 rfl rfl (Nat.le_of_ble_eq_true rfl) (Nat.le_of_ble_eq_true rfl) (Nat.le_of_ble_eq_true rfl) (Nat.le_of_ble_eq_true rfl) (Nat.le_of_ble_eq_true rfl) (fun _ _ _ h => nomatch h) (fun x18 cw17 nw17 w17 hw17 pw17 => ?_)
            obtain ⟨rfl, rfl, kw17⟩ := pw17
            exact hR _ _ _ _ _ _ dX12_looked_50 rfl (Nat.le_of_ble_eq_true rfl) (Nat.le_of_ble_eq_true rfl) ⟨hw17, rfl, rfl, (tKeep.tr (tKeep.tr tKeep.rf kw11 rfl) kw17 rfl)⟩
          · refine z_lvs [] rfl ?_
            exact j29 w11 hw11 (tKeep.tr tKeep.rf kw11 rfl)
set_option maxRecDepth 20000 in
theorem kX12_look (l : Launch) (G : zG) (T : tT) (κ : Nat → List Nat) (hst : l.stackTraces = false) (hE : tE G T κ) {a0 : Nat} (h0 : a0 ∈ κ 12) {x1 : Int32} : tMi l G T yX12_look cX12_look 2 .int [] 2 42 0 0 [.ref a0, .int x1] uT (uPi 0x0) := by
  refine tMi.intro hst rfl (Nat.le_of_ble_eq_true rfl) ?_
  intro w0 hw0 _ X hC hR hO hX
  refine z_iload_n hC (pc := 0) 1 dX12_look_0 rfl rfl ?_
  by_cases e4 : x1 = 0
  · refine z_tableInE hC (pc := 1) (v := 0) e4 52 dX12_look_1 (by decide) (by decide) rfl (by decide) ?_
    refine z_aload_n hC (pc := 52) 0 dX12_look_52 rfl rfl ?_
    refine u_get hC hw0 (pc := 53) zf12 12 (hE.o12 h0) rfl dX12_look_53 zw720 (kk := fun vx5 tx5 fx5 => ?_)
    obtain ⟨x5, rfl⟩ := tx5
    exact hR _ _ _ _ _ _ dX12_look_56 rfl (Nat.le_of_ble_eq_true rfl) (Nat.le_of_ble_eq_true rfl) ⟨hw0, rfl, rfl, tKeep.rf⟩
  by_cases e6 : x1 = 1
  · refine z_tableInE hC (pc := 1) (v := 1) e6 57 dX12_look_1 (by decide) (by decide) rfl (by decide) ?_
    refine z_aload_n hC (pc := 57) 0 dX12_look_57 rfl rfl ?_
    refine u_get hC hw0 (pc := 58) zf12 5 (hE.o12 h0) rfl dX12_look_58 zw713 (kk := fun va7 ta7 fa7 => ?_)
    obtain ⟨a7, ma7, rfl⟩ := ta7
    refine u_get hC hw0 (pc := 61) zf8 7 (hE.o8 ma7) rfl dX12_look_61 zw64 (kk := fun vx8 tx8 fx8 => ?_)
    obtain ⟨x8, rfl⟩ := tx8
    exact hR _ _ _ _ _ _ dX12_look_64 rfl (Nat.le_of_ble_eq_true rfl) (Nat.le_of_ble_eq_true rfl) ⟨hw0, rfl, rfl, tKeep.rf⟩
  by_cases e9 : x1 = 2
  · refine z_tableInE hC (pc := 1) (v := 2) e9 65 dX12_look_1 (by decide) (by decide) rfl (by decide) ?_
    refine z_aload_n hC (pc := 65) 0 dX12_look_65 rfl rfl ?_
    refine u_get hC hw0 (pc := 66) zf12 5 (hE.o12 h0) rfl dX12_look_66 zw713 (kk := fun va10 ta10 fa10 => ?_)
    obtain ⟨a10, ma10, rfl⟩ := ta10
    refine u_get hC hw0 (pc := 69) zf8 13 (hE.o8 ma10) rfl dX12_look_69 zw76 (kk := fun vx11 tx11 fx11 => ?_)
    obtain ⟨x11, rfl⟩ := tx11
    exact hR _ _ _ _ _ _ dX12_look_72 rfl (Nat.le_of_ble_eq_true rfl) (Nat.le_of_ble_eq_true rfl) ⟨hw0, rfl, rfl, tKeep.rf⟩
  by_cases e12 : x1 = 3
  · refine z_tableInE hC (pc := 1) (v := 3) e12 73 dX12_look_1 (by decide) (by decide) rfl (by decide) ?_
    refine z_aload_n hC (pc := 73) 0 dX12_look_73 rfl rfl ?_
    refine u_get hC hw0 (pc := 74) zf12 18 (hE.o12 h0) rfl dX12_look_74 zw726 (kk := fun vx13 tx13 fx13 => ?_)
    obtain ⟨x13, rfl⟩ := tx13
    exact hR _ _ _ _ _ _ dX12_look_77 rfl (Nat.le_of_ble_eq_true rfl) (Nat.le_of_ble_eq_true rfl) ⟨hw0, rfl, rfl, tKeep.rf⟩
  by_cases e14 : x1 = 4
  · refine z_tableInE hC (pc := 1) (v := 4) e14 78 dX12_look_1 (by decide) (by decide) rfl (by decide) ?_
    refine z_aload_n hC (pc := 78) 0 dX12_look_78 rfl rfl ?_
    refine z_iconst hC (pc := 79) (v := 0) dX12_look_79 (by decide) ?_
    obtain ⟨q15, hqq15⟩ := hE.o12 h0
    refine t_callVi hC hw0 (pc := 80) (As := [.int 0]) (kX12_told l G T κ hst hE h0) trivial dmX12_told zf12 hqq15 dX12_look_80 zw911 rfl rfl (Nat.le_of_ble_eq_true rfl) (Nat.le_of_ble_eq_true rfl) (Nat.le_of_ble_eq_true rfl) (Nat.le_of_ble_eq_true rfl) (Nat.le_of_ble_eq_true rfl) (fun _ _ _ h => nomatch h) (fun x17 cw16 nw16 w16 hw16 pw16 => ?_)
    obtain ⟨rfl, rfl, kw16⟩ := pw16
    exact hR _ _ _ _ _ _ dX12_look_83 rfl (Nat.le_of_ble_eq_true rfl) (Nat.le_of_ble_eq_true rfl) ⟨hw16, rfl, rfl, (tKeep.tr tKeep.rf kw16 rfl)⟩
  by_cases e18 : x1 = 5
  · refine z_tableInE hC (pc := 1) (v := 5) e18 84 dX12_look_1 (by decide) (by decide) rfl (by decide) ?_
    refine z_aload_n hC (pc := 84) 0 dX12_look_84 rfl rfl ?_
    refine z_iconst hC (pc := 85) (v := 1) dX12_look_85 (by decide) ?_
    obtain ⟨q19, hqq19⟩ := hE.o12 h0
    refine t_callVi hC hw0 (pc := 86) (As := [.int 1]) (kX12_told l G T κ hst hE h0) trivial dmX12_told zf12 hqq19 dX12_look_86 zw911 rfl rfl (Nat.le_of_ble_eq_true rfl) (Nat.le_of_ble_eq_true rfl) (Nat.le_of_ble_eq_true rfl) (Nat.le_of_ble_eq_true rfl) (Nat.le_of_ble_eq_true rfl) (fun _ _ _ h => nomatch h) (fun x21 cw20 nw20 w20 hw20 pw20 => ?_)
    obtain ⟨rfl, rfl, kw20⟩ := pw20
    exact hR _ _ _ _ _ _ dX12_look_89 rfl (Nat.le_of_ble_eq_true rfl) (Nat.le_of_ble_eq_true rfl) ⟨hw20, rfl, rfl, (tKeep.tr tKeep.rf kw20 rfl)⟩
  by_cases e22 : x1 = 6
  · refine z_tableInE hC (pc := 1) (v := 6) e22 90 dX12_look_1 (by decide) (by decide) rfl (by decide) ?_
    refine z_aload_n hC (pc := 90) 0 dX12_look_90 rfl rfl ?_
    refine z_iconst hC (pc := 91) (v := 2) dX12_look_91 (by decide) ?_
    obtain ⟨q23, hqq23⟩ := hE.o12 h0
    refine t_callVi hC hw0 (pc := 92) (As := [.int 2]) (kX12_told l G T κ hst hE h0) trivial dmX12_told zf12 hqq23 dX12_look_92 zw911 rfl rfl (Nat.le_of_ble_eq_true rfl) (Nat.le_of_ble_eq_true rfl) (Nat.le_of_ble_eq_true rfl) (Nat.le_of_ble_eq_true rfl) (Nat.le_of_ble_eq_true rfl) (fun _ _ _ h => nomatch h) (fun x25 cw24 nw24 w24 hw24 pw24 => ?_)
    obtain ⟨rfl, rfl, kw24⟩ := pw24
    exact hR _ _ _ _ _ _ dX12_look_95 rfl (Nat.le_of_ble_eq_true rfl) (Nat.le_of_ble_eq_true rfl) ⟨hw24, rfl, rfl, (tKeep.tr tKeep.rf kw24 rfl)⟩
  by_cases e26 : x1 = 7
  · refine z_tableInE hC (pc := 1) (v := 7) e26 96 dX12_look_1 (by decide) (by decide) rfl (by decide) ?_
    refine z_aload_n hC (pc := 96) 0 dX12_look_96 rfl rfl ?_
    refine u_get hC hw0 (pc := 97) zf12 17 (hE.o12 h0) rfl dX12_look_97 zw725 (kk := fun vx27 tx27 fx27 => ?_)
    obtain ⟨x27, rfl⟩ := tx27
    exact hR _ _ _ _ _ _ dX12_look_100 rfl (Nat.le_of_ble_eq_true rfl) (Nat.le_of_ble_eq_true rfl) ⟨hw0, rfl, rfl, tKeep.rf⟩
  by_cases e28 : x1 = 8
  · refine z_tableInE hC (pc := 1) (v := 8) e28 101 dX12_look_1 (by decide) (by decide) rfl (by decide) ?_
    refine z_aload_n hC (pc := 101) 0 dX12_look_101 rfl rfl ?_
    refine u_get hC hw0 (pc := 102) zf12 5 (hE.o12 h0) rfl dX12_look_102 zw713 (kk := fun va29 ta29 fa29 => ?_)
    obtain ⟨a29, ma29, rfl⟩ := ta29
    refine u_get hC hw0 (pc := 105) zf8 8 (hE.o8 ma29) rfl dX12_look_105 zw66 (kk := fun vx30 tx30 fx30 => ?_)
    obtain ⟨x30, rfl⟩ := tx30
    exact hR _ _ _ _ _ _ dX12_look_108 rfl (Nat.le_of_ble_eq_true rfl) (Nat.le_of_ble_eq_true rfl) ⟨hw0, rfl, rfl, tKeep.rf⟩
  have e4t := t_nei e4
  have e6t := t_nei e6
  have e9t := t_nei e9
  have e12t := t_nei e12
  have e14t := t_nei e14
  have e18t := t_nei e18
  have e22t := t_nei e22
  have e26t := t_nei e26
  have e28t := t_nei e28
  simp only [Int32.reduceToInt] at e4t e6t e9t e12t e14t e18t e22t e26t e28t
  refine z_tableOut hC (pc := 1) 109 dX12_look_1 (by omega) (by decide) ?_
  refine z_iconst hC (pc := 109) (v := (-1)) dX12_look_109 (by decide) ?_
  exact hR _ _ _ _ _ _ dX12_look_110 rfl (Nat.le_of_ble_eq_true rfl) (Nat.le_of_ble_eq_true rfl) ⟨hw0, rfl, rfl, tKeep.rf⟩
