theorem zw278 : Cond.fieldLink "TemplateHouse$Heap" 182 "TemplateHouse$Gen" "dictionary" "[I" ∈ zT := zsub2 38 (by decide +kernel) (by decide +kernel)
theorem zw1905 : Cond.constant "TemplateHouse$Heap" 136 (1073741824 : Int32) ∈ zT := zsub8 225 (by decide +kernel) (by decide +kernel)
theorem zw1899 : Cond.methodLink "TemplateHouse$Heap" 179 ⟨"TemplateHouse$Heap", "ownOf", "(II)I"⟩ ∈ zT := zsub8 219 (by decide +kernel) (by decide +kernel)
theorem zw243 : Cond.fieldLink "TemplateHouse$Heap" 137 "TemplateHouse$Gen" "code" "[I" ∈ zT := zsub2 3 (by decide +kernel) (by decide +kernel)
theorem zw1891 : Cond.constant "TemplateHouse$Heap" 153 (1207959552 : Int32) ∈ zT := zsub8 211 (by decide +kernel) (by decide +kernel)
theorem zw1894 : Cond.constant "TemplateHouse$Heap" 185 (1476395008 : Int32) ∈ zT := zsub8 214 (by decide +kernel) (by decide +kernel)
theorem zw1895 : Cond.methodLink "TemplateHouse$Heap" 186 ⟨"TemplateHouse$Heap", "named", "(II)I"⟩ ∈ zT := zsub8 215 (by decide +kernel) (by decide +kernel)
theorem zw1892 : Cond.constant "TemplateHouse$Heap" 154 (939524096 : Int32) ∈ zT := zsub8 212 (by decide +kernel) (by decide +kernel)
theorem zw1893 : Cond.methodLink "TemplateHouse$Heap" 155 ⟨"TemplateHouse$Heap", "make", "(III)I"⟩ ∈ zT := zsub8 213 (by decide +kernel) (by decide +kernel)
theorem zw656 : Cond.fieldLink "TemplateHouse$Maker" 45 "TemplateHouse$Maker" "written" "I" ∈ zT := zsub3 176 (by decide +kernel) (by decide +kernel)
theorem zw1915 : Cond.constant "TemplateHouse$Maker" 308 (60000 : Int32) ∈ zT := zsub8 235 (by decide +kernel) (by decide +kernel)
theorem zw1790 : Cond.classLink "TemplateHouse$Maker" 134 "java/lang/IllegalStateException" ∈ zT := zsub8 110 (by decide +kernel) (by decide +kernel)
theorem zw649 : Cond.fieldLink "TemplateHouse$Maker" 24 "TemplateHouse$Maker" "begun" "I" ∈ zT := zsub3 169 (by decide +kernel) (by decide +kernel)
theorem zw648 : Cond.fieldLink "TemplateHouse$Maker" 21 "TemplateHouse$Maker" "frames" "[I" ∈ zT := zsub3 168 (by decide +kernel) (by decide +kernel)
theorem zw1921 : Cond.methodLink "TemplateHouse$Maker" 299 ⟨"TemplateHouse$Maker", "start", "(I)V"⟩ ∈ zT := zsub9 1 (by decide +kernel) (by decide +kernel)
theorem zw642 : Cond.fieldLink "TemplateHouse$Maker" 92 "TemplateHouse$Maker" "writer" "LTemplateHouse$Writer;" ∈ zT := zsub3 162 (by decide +kernel) (by decide +kernel)
theorem zw604 : Cond.fieldLink "TemplateHouse$Maker" 302 "TemplateHouse$Writer" "indentEnd" "I" ∈ zT := zsub3 124 (by decide +kernel) (by decide +kernel)
theorem zw606 : Cond.fieldLink "TemplateHouse$Maker" 296 "TemplateHouse$Writer" "anchor" "I" ∈ zT := zsub3 126 (by decide +kernel) (by decide +kernel)
theorem zw478 : Cond.fieldLink "TemplateHouse$Teller" 7 "TemplateHouse$Teller" "errors" "[I" ∈ zT := zsub2 238 (by decide +kernel) (by decide +kernel)
theorem zw1954 : Cond.constant "TemplateHouse$Heap" 159 (1342177280 : Int32) ∈ zT := zsub9 34 (by decide +kernel) (by decide +kernel)
theorem zw1949 : Cond.methodLink "TemplateHouse$Heap" 142 ⟨"TemplateHouse$Heap", "newRow", "(I)I"⟩ ∈ zT := zsub9 29 (by decide +kernel) (by decide +kernel)
theorem zw1950 : Cond.methodLink "TemplateHouse$Heap" 145 ⟨"TemplateHouse$Heap", "content", "(II)I"⟩ ∈ zT := zsub9 30 (by decide +kernel) (by decide +kernel)
theorem zw1955 : Cond.methodLink "TemplateHouse$Heap" 149 ⟨"TemplateHouse$Heap", "put", "(III)V"⟩ ∈ zT := zsub9 35 (by decide +kernel) (by decide +kernel)
theorem zw1960 : Cond.methodLink "TemplateHouse$Maker" 305 ⟨"TemplateHouse$Maker", "done", "()I"⟩ ∈ zT := zsub9 40 (by decide +kernel) (by decide +kernel)
theorem zw517 : Cond.fieldLink "TemplateHouse$Heap" 39 "TemplateHouse$Heap" "words" "[B" ∈ zT := zsub3 37 (by decide +kernel) (by decide +kernel)
theorem zw1978 : Cond.constant "TemplateHouse$Heap" 109 (536870912 : Int32) ∈ zT := zsub9 58 (by decide +kernel) (by decide +kernel)
theorem zw1976 : Cond.methodLinkNest "TemplateHouse$Heap" 101 ⟨"TemplateHouse", "getByte", "([BI)I"⟩ "TemplateHouse" ∈ zNest := zsubN9 56 (by decide +kernel) (by decide +kernel)
theorem zw1977 : Cond.methodLinkNest "TemplateHouse$Heap" 105 ⟨"TemplateHouse", "setByte", "([BII)V"⟩ "TemplateHouse" ∈ zNest := zsubN9 57 (by decide +kernel) (by decide +kernel)
theorem zw647 : Cond.fieldLink "TemplateHouse$Maker" 16 "TemplateHouse$Maker" "top" "I" ∈ zT := zsub3 167 (by decide +kernel) (by decide +kernel)
theorem zw646 : Cond.fieldLink "TemplateHouse$Maker" 10 "TemplateHouse$Maker" "stack" "[I" ∈ zT := zsub3 166 (by decide +kernel) (by decide +kernel)
theorem zw596 : Cond.fieldLink "TemplateHouse$Maker" 372 "TemplateHouse$Writer" "words" "[B" ∈ zT := zsub3 116 (by decide +kernel) (by decide +kernel)
theorem zw1968 : Cond.methodLink "TemplateHouse$Maker" 373 ⟨"TemplateHouse$Writer", "wordAt", "()I"⟩ ∈ zT := zsub9 48 (by decide +kernel) (by decide +kernel)
theorem zw598 : Cond.fieldLink "TemplateHouse$Maker" 360 "TemplateHouse$Writer" "wordLength" "I" ∈ zT := zsub3 118 (by decide +kernel) (by decide +kernel)
theorem zw1972 : Cond.methodLink "TemplateHouse$Maker" 376 ⟨"TemplateHouse$Heap", "newWord", "([BII)I"⟩ ∈ zT := zsub9 52 (by decide +kernel) (by decide +kernel)
theorem zw1956 : Cond.methodLink "TemplateHouse$Maker" 322 ⟨"TemplateHouse$Maker", "optionsBack", "()V"⟩ ∈ zT := zsub9 36 (by decide +kernel) (by decide +kernel)
theorem zw594 : Cond.fieldLink "TemplateHouse$Maker" 366 "TemplateHouse$Writer" "level" "I" ∈ zT := zsub3 114 (by decide +kernel) (by decide +kernel)
theorem zw602 : Cond.fieldLink "TemplateHouse$Maker" 363 "TemplateHouse$Writer" "indentBase" "I" ∈ zT := zsub3 122 (by decide +kernel) (by decide +kernel)
theorem zw592 : Cond.fieldLink "TemplateHouse$Maker" 262 "TemplateHouse$Writer" "puts" "I" ∈ zT := zsub3 112 (by decide +kernel) (by decide +kernel)
theorem zw590 : Cond.fieldLink "TemplateHouse$Maker" 354 "TemplateHouse$Writer" "atStart" "Z" ∈ zT := zsub3 110 (by decide +kernel) (by decide +kernel)
theorem zw588 : Cond.fieldLink "TemplateHouse$Maker" 293 "TemplateHouse$Writer" "column" "I" ∈ zT := zsub3 108 (by decide +kernel) (by decide +kernel)
theorem zw1979 : Cond.methodLink "TemplateHouse$Maker" 259 ⟨"TemplateHouse$Maker", "push", "(I)V"⟩ ∈ zT := zsub9 59 (by decide +kernel) (by decide +kernel)
theorem zw2005 : Cond.classLink "TemplateHouse$Writer" 91 "java/lang/IllegalStateException" ∈ zT := zsub9 85 (by decide +kernel) (by decide +kernel)
theorem zw580 : Cond.fieldLink "TemplateHouse$Writer" 9 "TemplateHouse$Writer" "text" "[B" ∈ zT := zsub3 100 (by decide +kernel) (by decide +kernel)
theorem zw582 : Cond.fieldLink "TemplateHouse$Writer" 14 "TemplateHouse$Writer" "noted" "[I" ∈ zT := zsub3 102 (by decide +kernel) (by decide +kernel)
theorem zw579 : Cond.fieldLink "TemplateHouse$Writer" 57 "TemplateHouse$Writer" "teller" "LTemplateHouse$Teller;" ∈ zT := zsub3 99 (by decide +kernel) (by decide +kernel)
theorem zw485 : Cond.fieldLink "TemplateHouse$Writer" 94 "TemplateHouse$Teller" "counts" "[I" ∈ zT := zsub3 5 (by decide +kernel) (by decide +kernel)
theorem zw595 : Cond.fieldLink "TemplateHouse$Writer" 39 "TemplateHouse$Writer" "words" "[B" ∈ zT := zsub3 115 (by decide +kernel) (by decide +kernel)
theorem zw2001 : Cond.methodLink "TemplateHouse$Writer" 80 ⟨"TemplateHouse$Writer", "raw", "(I)V"⟩ ∈ zT := zsub9 81 (by decide +kernel) (by decide +kernel)
theorem zw600 : Cond.fieldLink "TemplateHouse$Writer" 45 "TemplateHouse$Writer" "indents" "[I" ∈ zT := zsub3 120 (by decide +kernel) (by decide +kernel)
theorem zw2011 : Cond.methodLinkNest "TemplateHouse$Writer" 87 ⟨"TemplateHouse", "get", "([II)I"⟩ "TemplateHouse" ∈ zNest := zsubN9 91 (by decide +kernel) (by decide +kernel)
theorem zw1997 : Cond.methodLink "TemplateHouse$Writer" 76 ⟨"TemplateHouse$Writer", "isFull", "()Z"⟩ ∈ zT := zsub9 77 (by decide +kernel) (by decide +kernel)
theorem zw2007 : Cond.methodLink "TemplateHouse$Writer" 84 ⟨"TemplateHouse$Writer", "margin", "()V"⟩ ∈ zT := zsub9 87 (by decide +kernel) (by decide +kernel)
theorem zw1987 : Cond.methodLink "TemplateHouse$Maker" 346 ⟨"TemplateHouse$Writer", "mayWrap", "()Z"⟩ ∈ zT := zsub9 67 (by decide +kernel) (by decide +kernel)
theorem zw1991 : Cond.constant "TemplateHouse$Maker" 350 (134217727 : Int32) ∈ zT := zsub9 71 (by decide +kernel) (by decide +kernel)
theorem zw518 : Cond.fieldLink "TemplateHouse$Maker" 351 "TemplateHouse$Heap" "words" "[B" ∈ zT := zsub3 38 (by decide +kernel) (by decide +kernel)
theorem zw1992 : Cond.methodLinkNest "TemplateHouse$Maker" 277 ⟨"TemplateHouse", "getByte", "([BI)I"⟩ "TemplateHouse" ∈ zNest := zsubN9 72 (by decide +kernel) (by decide +kernel)
theorem zw1993 : Cond.methodLink "TemplateHouse$Maker" 281 ⟨"TemplateHouse$Writer", "put", "(I)V"⟩ ∈ zT := zsub9 73 (by decide +kernel) (by decide +kernel)
theorem zw2012 : Cond.methodLink "TemplateHouse$Maker" 357 ⟨"TemplateHouse$Writer", "margin", "()V"⟩ ∈ zT := zsub9 92 (by decide +kernel) (by decide +kernel)
theorem zw1898 : Cond.code ⟨"TemplateHouse$Heap", "named", "(II)I"⟩ prog_5_method_20_code 6 (Option.some Jvm.ClassFile.FieldType.int) ∈ zT := zsub8 218 rfl rfl
theorem zw1896 : Cond.instanceMethod ⟨"TemplateHouse$Heap", "named", "(II)I"⟩ ∈ zT := zsub8 216 (by decide +kernel) (by decide +kernel)
theorem zw1897 : Cond.selects "TemplateHouse$Heap" ⟨"TemplateHouse$Heap", "named", "(II)I"⟩ ⟨"TemplateHouse$Heap", "named", "(II)I"⟩ ∈ zT := zsub8 217 (by decide +kernel) (by decide +kernel)
theorem zw1890 : Cond.code ⟨"TemplateHouse$Heap", "fillIn", "(IZI)V"⟩ prog_5_method_21_code 9 (Option.none : Option Jvm.ClassFile.FieldType) ∈ zT := zsub8 210 rfl rfl
theorem zw1888 : Cond.instanceMethod ⟨"TemplateHouse$Heap", "fillIn", "(IZI)V"⟩ ∈ zT := zsub8 208 (by decide +kernel) (by decide +kernel)
theorem zw1889 : Cond.selects "TemplateHouse$Heap" ⟨"TemplateHouse$Heap", "fillIn", "(IZI)V"⟩ ⟨"TemplateHouse$Heap", "fillIn", "(IZI)V"⟩ ∈ zT := zsub8 209 (by decide +kernel) (by decide +kernel)
theorem zw1914 : Cond.code ⟨"TemplateHouse$Maker", "counted", "()V"⟩ prog_7_method_22_code 1 (Option.none : Option Jvm.ClassFile.FieldType) ∈ zT := zsub8 234 rfl rfl
theorem zw1913 : Cond.instanceMethod ⟨"TemplateHouse$Maker", "counted", "()V"⟩ ∈ zT := zsub8 233 (by decide +kernel) (by decide +kernel)
theorem zwp40 : Cond.selects "TemplateHouse$Maker" ⟨"TemplateHouse$Maker", "counted", "()V"⟩ ⟨"TemplateHouse$Maker", "counted", "()V"⟩ ∈ zT := zin 40 (by decide +kernel) (by decide +kernel)
theorem zw1924 : Cond.code ⟨"TemplateHouse$Maker", "start", "(I)V"⟩ prog_7_method_11_code 2 (Option.none : Option Jvm.ClassFile.FieldType) ∈ zT := zsub9 4 rfl rfl
theorem zw1923 : Cond.instanceMethod ⟨"TemplateHouse$Maker", "start", "(I)V"⟩ ∈ zT := zsub9 3 (by decide +kernel) (by decide +kernel)
theorem zwp84 : Cond.selects "TemplateHouse$Maker" ⟨"TemplateHouse$Maker", "start", "(I)V"⟩ ⟨"TemplateHouse$Maker", "start", "(I)V"⟩ ∈ zT := zin 84 (by decide +kernel) (by decide +kernel)
theorem zw1920 : Cond.code ⟨"TemplateHouse$Maker", "options", "()V"⟩ prog_7_method_20_code 1 (Option.none : Option Jvm.ClassFile.FieldType) ∈ zT := zsub9 0 rfl rfl
theorem zw1919 : Cond.instanceMethod ⟨"TemplateHouse$Maker", "options", "()V"⟩ ∈ zT := zsub8 239 (by decide +kernel) (by decide +kernel)
theorem zwp66 : Cond.selects "TemplateHouse$Maker" ⟨"TemplateHouse$Maker", "options", "()V"⟩ ⟨"TemplateHouse$Maker", "options", "()V"⟩ ∈ zT := zin 66 (by decide +kernel) (by decide +kernel)
theorem zw1935 : Cond.code ⟨"TemplateHouse$Teller", "noteError", "(III)V"⟩ prog_11_method_3_code 5 (Option.none : Option Jvm.ClassFile.FieldType) ∈ zT := zsub9 15 rfl rfl
theorem zw1933 : Cond.instanceMethod ⟨"TemplateHouse$Teller", "noteError", "(III)V"⟩ ∈ zT := zsub9 13 (by decide +kernel) (by decide +kernel)
theorem zw1934 : Cond.selects "TemplateHouse$Teller" ⟨"TemplateHouse$Teller", "noteError", "(III)V"⟩ ⟨"TemplateHouse$Teller", "noteError", "(III)V"⟩ ∈ zT := zsub9 14 (by decide +kernel) (by decide +kernel)
theorem zw1953 : Cond.code ⟨"TemplateHouse$Heap", "content", "(II)I"⟩ prog_5_method_16_code 3 (Option.some Jvm.ClassFile.FieldType.int) ∈ zT := zsub9 33 rfl rfl
theorem zw1951 : Cond.instanceMethod ⟨"TemplateHouse$Heap", "content", "(II)I"⟩ ∈ zT := zsub9 31 (by decide +kernel) (by decide +kernel)
theorem zw1952 : Cond.selects "TemplateHouse$Heap" ⟨"TemplateHouse$Heap", "content", "(II)I"⟩ ⟨"TemplateHouse$Heap", "content", "(II)I"⟩ ∈ zT := zsub9 32 (by decide +kernel) (by decide +kernel)
theorem zw1948 : Cond.code ⟨"TemplateHouse$Heap", "opened", "(I)I"⟩ prog_5_method_15_code 6 (Option.some Jvm.ClassFile.FieldType.int) ∈ zT := zsub9 28 rfl rfl
theorem zw1946 : Cond.instanceMethod ⟨"TemplateHouse$Heap", "opened", "(I)I"⟩ ∈ zT := zsub9 26 (by decide +kernel) (by decide +kernel)
theorem zw1947 : Cond.selects "TemplateHouse$Heap" ⟨"TemplateHouse$Heap", "opened", "(I)I"⟩ ⟨"TemplateHouse$Heap", "opened", "(I)I"⟩ ∈ zT := zsub9 27 (by decide +kernel) (by decide +kernel)
theorem zw1963 : Cond.code ⟨"TemplateHouse$Maker", "done", "()I"⟩ prog_7_method_12_code 1 (Option.some Jvm.ClassFile.FieldType.int) ∈ zT := zsub9 43 rfl rfl
theorem zw1962 : Cond.instanceMethod ⟨"TemplateHouse$Maker", "done", "()I"⟩ ∈ zT := zsub9 42 (by decide +kernel) (by decide +kernel)
theorem zwp42 : Cond.selects "TemplateHouse$Maker" ⟨"TemplateHouse$Maker", "done", "()I"⟩ ⟨"TemplateHouse$Maker", "done", "()I"⟩ ∈ zT := zin 42 (by decide +kernel) (by decide +kernel)
theorem zw1959 : Cond.code ⟨"TemplateHouse$Maker", "optionsBack", "()V"⟩ prog_7_method_21_code 1 (Option.none : Option Jvm.ClassFile.FieldType) ∈ zT := zsub9 39 rfl rfl
theorem zw1958 : Cond.instanceMethod ⟨"TemplateHouse$Maker", "optionsBack", "()V"⟩ ∈ zT := zsub9 38 (by decide +kernel) (by decide +kernel)
theorem zwp67 : Cond.selects "TemplateHouse$Maker" ⟨"TemplateHouse$Maker", "optionsBack", "()V"⟩ ⟨"TemplateHouse$Maker", "optionsBack", "()V"⟩ ∈ zT := zin 67 (by decide +kernel) (by decide +kernel)
theorem zw1971 : Cond.code ⟨"TemplateHouse$Writer", "wordAt", "()I"⟩ prog_13_method_5_code 1 (Option.some Jvm.ClassFile.FieldType.int) ∈ zT := zsub9 51 rfl rfl
theorem zw1969 : Cond.instanceMethod ⟨"TemplateHouse$Writer", "wordAt", "()I"⟩ ∈ zT := zsub9 49 (by decide +kernel) (by decide +kernel)
theorem zw1970 : Cond.selects "TemplateHouse$Writer" ⟨"TemplateHouse$Writer", "wordAt", "()I"⟩ ⟨"TemplateHouse$Writer", "wordAt", "()I"⟩ ∈ zT := zsub9 50 (by decide +kernel) (by decide +kernel)
theorem zw1975 : Cond.code ⟨"TemplateHouse$Heap", "newWord", "([BII)I"⟩ prog_5_method_9_code 6 (Option.some Jvm.ClassFile.FieldType.int) ∈ zT := zsub9 55 rfl rfl
theorem zw1973 : Cond.instanceMethod ⟨"TemplateHouse$Heap", "newWord", "([BII)I"⟩ ∈ zT := zsub9 53 (by decide +kernel) (by decide +kernel)
theorem zw1974 : Cond.selects "TemplateHouse$Heap" ⟨"TemplateHouse$Heap", "newWord", "([BII)I"⟩ ⟨"TemplateHouse$Heap", "newWord", "([BII)I"⟩ ∈ zT := zsub9 54 (by decide +kernel) (by decide +kernel)
theorem zw1982 : Cond.code ⟨"TemplateHouse$Maker", "push", "(I)V"⟩ prog_7_method_9_code 2 (Option.none : Option Jvm.ClassFile.FieldType) ∈ zT := zsub9 62 rfl rfl
theorem zw1981 : Cond.instanceMethod ⟨"TemplateHouse$Maker", "push", "(I)V"⟩ ∈ zT := zsub9 61 (by decide +kernel) (by decide +kernel)
theorem zwp73 : Cond.selects "TemplateHouse$Maker" ⟨"TemplateHouse$Maker", "push", "(I)V"⟩ ⟨"TemplateHouse$Maker", "push", "(I)V"⟩ ∈ zT := zin 73 (by decide +kernel) (by decide +kernel)
theorem zw1967 : Cond.code ⟨"TemplateHouse$Maker", "wordOver", "()V"⟩ prog_7_method_30_code 2 (Option.none : Option Jvm.ClassFile.FieldType) ∈ zT := zsub9 47 rfl rfl
theorem zw1966 : Cond.instanceMethod ⟨"TemplateHouse$Maker", "wordOver", "()V"⟩ ∈ zT := zsub9 46 (by decide +kernel) (by decide +kernel)
theorem zwp93 : Cond.selects "TemplateHouse$Maker" ⟨"TemplateHouse$Maker", "wordOver", "()V"⟩ ⟨"TemplateHouse$Maker", "wordOver", "()V"⟩ ∈ zT := zin 93 (by decide +kernel) (by decide +kernel)
theorem zw1990 : Cond.code ⟨"TemplateHouse$Writer", "mayWrap", "()Z"⟩ prog_13_method_10_code 1 (Option.some Jvm.ClassFile.FieldType.boolean) ∈ zT := zsub9 70 rfl rfl
theorem zw1988 : Cond.instanceMethod ⟨"TemplateHouse$Writer", "mayWrap", "()Z"⟩ ∈ zT := zsub9 68 (by decide +kernel) (by decide +kernel)
theorem zw1989 : Cond.selects "TemplateHouse$Writer" ⟨"TemplateHouse$Writer", "mayWrap", "()Z"⟩ ⟨"TemplateHouse$Writer", "mayWrap", "()Z"⟩ ∈ zT := zsub9 69 (by decide +kernel) (by decide +kernel)
theorem zw2000 : Cond.code ⟨"TemplateHouse$Writer", "isFull", "()Z"⟩ prog_13_method_6_code 1 (Option.some Jvm.ClassFile.FieldType.boolean) ∈ zT := zsub9 80 rfl rfl
theorem zw1998 : Cond.instanceMethod ⟨"TemplateHouse$Writer", "isFull", "()Z"⟩ ∈ zT := zsub9 78 (by decide +kernel) (by decide +kernel)
theorem zw1999 : Cond.selects "TemplateHouse$Writer" ⟨"TemplateHouse$Writer", "isFull", "()Z"⟩ ⟨"TemplateHouse$Writer", "isFull", "()Z"⟩ ∈ zT := zsub9 79 (by decide +kernel) (by decide +kernel)
theorem zw2004 : Cond.code ⟨"TemplateHouse$Writer", "raw", "(I)V"⟩ prog_13_method_9_code 4 (Option.none : Option Jvm.ClassFile.FieldType) ∈ zT := zsub9 84 rfl rfl
theorem zw2003 : Cond.instanceMethod ⟨"TemplateHouse$Writer", "raw", "(I)V"⟩ ∈ zT := zsub9 83 (by decide +kernel) (by decide +kernel)
theorem zwp142 : Cond.selects "TemplateHouse$Writer" ⟨"TemplateHouse$Writer", "raw", "(I)V"⟩ ⟨"TemplateHouse$Writer", "raw", "(I)V"⟩ ∈ zT := zin 142 (by decide +kernel) (by decide +kernel)
theorem zw2010 : Cond.code ⟨"TemplateHouse$Writer", "margin", "()V"⟩ prog_13_method_8_code 5 (Option.none : Option Jvm.ClassFile.FieldType) ∈ zT := zsub9 90 rfl rfl
theorem zw2008 : Cond.instanceMethod ⟨"TemplateHouse$Writer", "margin", "()V"⟩ ∈ zT := zsub9 88 (by decide +kernel) (by decide +kernel)
theorem zw2009 : Cond.selects "TemplateHouse$Writer" ⟨"TemplateHouse$Writer", "margin", "()V"⟩ ⟨"TemplateHouse$Writer", "margin", "()V"⟩ ∈ zT := zsub9 89 (by decide +kernel) (by decide +kernel)
theorem zw1996 : Cond.code ⟨"TemplateHouse$Writer", "put", "(I)V"⟩ prog_13_method_7_code 2 (Option.none : Option Jvm.ClassFile.FieldType) ∈ zT := zsub9 76 rfl rfl
theorem zw1994 : Cond.instanceMethod ⟨"TemplateHouse$Writer", "put", "(I)V"⟩ ∈ zT := zsub9 74 (by decide +kernel) (by decide +kernel)
theorem zw1995 : Cond.selects "TemplateHouse$Writer" ⟨"TemplateHouse$Writer", "put", "(I)V"⟩ ⟨"TemplateHouse$Writer", "put", "(I)V"⟩ ∈ zT := zsub9 75 (by decide +kernel) (by decide +kernel)
theorem zw1986 : Cond.code ⟨"TemplateHouse$Maker", "wrapLine", "()V"⟩ prog_7_method_26_code 5 (Option.none : Option Jvm.ClassFile.FieldType) ∈ zT := zsub9 66 rfl rfl
theorem zw1985 : Cond.instanceMethod ⟨"TemplateHouse$Maker", "wrapLine", "()V"⟩ ∈ zT := zsub9 65 (by decide +kernel) (by decide +kernel)
theorem zwp94 : Cond.selects "TemplateHouse$Maker" ⟨"TemplateHouse$Maker", "wrapLine", "()V"⟩ ⟨"TemplateHouse$Maker", "wrapLine", "()V"⟩ ∈ zT := zin 94 (by decide +kernel) (by decide +kernel)
abbrev cX3_named : ByteArray := prog_5_method_20_code
abbrev yX3_named : MethodName := ⟨"TemplateHouse$Heap", "named", "(II)I"⟩
theorem dmX3_named : zDv yX3_named cX3_named 6 (some .int) 2 := ⟨⟨⟨by decide +kernel, by decide +kernel, by decide +kernel⟩, zw1898, zw12⟩, zw1896, zw1897⟩
abbrev cX3_fillIn : ByteArray := prog_5_method_21_code
abbrev yX3_fillIn : MethodName := ⟨"TemplateHouse$Heap", "fillIn", "(IZI)V"⟩
theorem dmX3_fillIn : zDv yX3_fillIn cX3_fillIn 9 none 3 := ⟨⟨⟨by decide +kernel, by decide +kernel, by decide +kernel⟩, zw1890, zw12⟩, zw1888, zw1889⟩
abbrev cX5_counted : ByteArray := prog_7_method_22_code
abbrev yX5_counted : MethodName := ⟨"TemplateHouse$Maker", "counted", "()V"⟩
theorem dmX5_counted : zDv yX5_counted cX5_counted 1 none 0 := ⟨⟨⟨by decide +kernel, by decide +kernel, by decide +kernel⟩, zw1914, zw10⟩, zw1913, zwp40⟩
abbrev cX5_start : ByteArray := prog_7_method_11_code
abbrev yX5_start : MethodName := ⟨"TemplateHouse$Maker", "start", "(I)V"⟩
theorem dmX5_start : zDv yX5_start cX5_start 2 none 1 := ⟨⟨⟨by decide +kernel, by decide +kernel, by decide +kernel⟩, zw1924, zw10⟩, zw1923, zwp84⟩
abbrev cX5_options : ByteArray := prog_7_method_20_code
abbrev yX5_options : MethodName := ⟨"TemplateHouse$Maker", "options", "()V"⟩
theorem dmX5_options : zDv yX5_options cX5_options 1 none 0 := ⟨⟨⟨by decide +kernel, by decide +kernel, by decide +kernel⟩, zw1920, zw10⟩, zw1919, zwp66⟩
abbrev cX9_noteError : ByteArray := prog_11_method_3_code
abbrev yX9_noteError : MethodName := ⟨"TemplateHouse$Teller", "noteError", "(III)V"⟩
theorem dmX9_noteError : zDv yX9_noteError cX9_noteError 5 none 3 := ⟨⟨⟨by decide +kernel, by decide +kernel, by decide +kernel⟩, zw1935, zw11⟩, zw1933, zw1934⟩
abbrev cX3_content : ByteArray := prog_5_method_16_code
abbrev yX3_content : MethodName := ⟨"TemplateHouse$Heap", "content", "(II)I"⟩
theorem dmX3_content : zDv yX3_content cX3_content 3 (some .int) 2 := ⟨⟨⟨by decide +kernel, by decide +kernel, by decide +kernel⟩, zw1953, zw12⟩, zw1951, zw1952⟩
abbrev cX3_opened : ByteArray := prog_5_method_15_code
abbrev yX3_opened : MethodName := ⟨"TemplateHouse$Heap", "opened", "(I)I"⟩
theorem dmX3_opened : zDv yX3_opened cX3_opened 6 (some .int) 1 := ⟨⟨⟨by decide +kernel, by decide +kernel, by decide +kernel⟩, zw1948, zw12⟩, zw1946, zw1947⟩
abbrev cX5_done : ByteArray := prog_7_method_12_code
abbrev yX5_done : MethodName := ⟨"TemplateHouse$Maker", "done", "()I"⟩
theorem dmX5_done : zDv yX5_done cX5_done 1 (some .int) 0 := ⟨⟨⟨by decide +kernel, by decide +kernel, by decide +kernel⟩, zw1963, zw10⟩, zw1962, zwp42⟩
abbrev cX5_optionsBack : ByteArray := prog_7_method_21_code
abbrev yX5_optionsBack : MethodName := ⟨"TemplateHouse$Maker", "optionsBack", "()V"⟩
theorem dmX5_optionsBack : zDv yX5_optionsBack cX5_optionsBack 1 none 0 := ⟨⟨⟨by decide +kernel, by decide +kernel, by decide +kernel⟩, zw1959, zw10⟩, zw1958, zwp67⟩
abbrev cX11_wordAt : ByteArray := prog_13_method_5_code
abbrev yX11_wordAt : MethodName := ⟨"TemplateHouse$Writer", "wordAt", "()I"⟩
theorem dmX11_wordAt : zDv yX11_wordAt cX11_wordAt 1 (some .int) 0 := ⟨⟨⟨by decide +kernel, by decide +kernel, by decide +kernel⟩, zw1971, zw13⟩, zw1969, zw1970⟩
abbrev cX3_newWord : ByteArray := prog_5_method_9_code
abbrev yX3_newWord : MethodName := ⟨"TemplateHouse$Heap", "newWord", "([BII)I"⟩
theorem dmX3_newWord : zDv yX3_newWord cX3_newWord 6 (some .int) 3 := ⟨⟨⟨by decide +kernel, by decide +kernel, by decide +kernel⟩, zw1975, zw12⟩, zw1973, zw1974⟩
abbrev cX5_push : ByteArray := prog_7_method_9_code
abbrev yX5_push : MethodName := ⟨"TemplateHouse$Maker", "push", "(I)V"⟩
theorem dmX5_push : zDv yX5_push cX5_push 2 none 1 := ⟨⟨⟨by decide +kernel, by decide +kernel, by decide +kernel⟩, zw1982, zw10⟩, zw1981, zwp73⟩
abbrev cX5_wordOver : ByteArray := prog_7_method_30_code
abbrev yX5_wordOver : MethodName := ⟨"TemplateHouse$Maker", "wordOver", "()V"⟩
theorem dmX5_wordOver : zDv yX5_wordOver cX5_wordOver 2 none 0 := ⟨⟨⟨by decide +kernel, by decide +kernel, by decide +kernel⟩, zw1967, zw10⟩, zw1966, zwp93⟩
abbrev cX11_mayWrap : ByteArray := prog_13_method_10_code
abbrev yX11_mayWrap : MethodName := ⟨"TemplateHouse$Writer", "mayWrap", "()Z"⟩
theorem dmX11_mayWrap : zDv yX11_mayWrap cX11_mayWrap 1 (some .boolean) 0 := ⟨⟨⟨by decide +kernel, by decide +kernel, by decide +kernel⟩, zw1990, zw13⟩, zw1988, zw1989⟩
abbrev cX11_isFull : ByteArray := prog_13_method_6_code
abbrev yX11_isFull : MethodName := ⟨"TemplateHouse$Writer", "isFull", "()Z"⟩
theorem dmX11_isFull : zDv yX11_isFull cX11_isFull 1 (some .boolean) 0 := ⟨⟨⟨by decide +kernel, by decide +kernel, by decide +kernel⟩, zw2000, zw13⟩, zw1998, zw1999⟩
abbrev cX11_raw : ByteArray := prog_13_method_9_code
abbrev yX11_raw : MethodName := ⟨"TemplateHouse$Writer", "raw", "(I)V"⟩
theorem dmX11_raw : zDv yX11_raw cX11_raw 4 none 1 := ⟨⟨⟨by decide +kernel, by decide +kernel, by decide +kernel⟩, zw2004, zw13⟩, zw2003, zwp142⟩
abbrev cX11_margin : ByteArray := prog_13_method_8_code
abbrev yX11_margin : MethodName := ⟨"TemplateHouse$Writer", "margin", "()V"⟩
theorem dmX11_margin : zDv yX11_margin cX11_margin 5 none 0 := ⟨⟨⟨by decide +kernel, by decide +kernel, by decide +kernel⟩, zw2010, zw13⟩, zw2008, zw2009⟩
abbrev cX11_put : ByteArray := prog_13_method_7_code
abbrev yX11_put : MethodName := ⟨"TemplateHouse$Writer", "put", "(I)V"⟩
theorem dmX11_put : zDv yX11_put cX11_put 2 none 1 := ⟨⟨⟨by decide +kernel, by decide +kernel, by decide +kernel⟩, zw1996, zw13⟩, zw1994, zw1995⟩
abbrev cX5_wrapLine : ByteArray := prog_7_method_26_code
abbrev yX5_wrapLine : MethodName := ⟨"TemplateHouse$Maker", "wrapLine", "()V"⟩
theorem dmX5_wrapLine : zDv yX5_wrapLine cX5_wrapLine 5 none 0 := ⟨⟨⟨by decide +kernel, by decide +kernel, by decide +kernel⟩, zw1986, zw10⟩, zw1985, zwp94⟩
theorem dX3_named_0 : decode cX3_named 0 = .ok (.iload_n 1, 1) := by decide +kernel
theorem dX3_named_1 : decode cX3_named 1 = .ok (.istore_n 3, 1) := by decide +kernel
theorem dX3_named_2 : decode cX3_named 2 = .ok (.iconst 0, 1) := by decide +kernel
theorem dX3_named_3 : decode cX3_named 3 = .ok (.istore 4, 2) := by decide +kernel
theorem dX3_named_5 : decode cX3_named 5 = .ok (.iload 4, 2) := by decide +kernel
theorem dX3_named_7 : decode cX3_named 7 = .ok (.sipush 2000, 3) := by decide +kernel
theorem dX3_named_10 : decode cX3_named 10 = .ok (.if_icmp .gt 40, 3) := by decide +kernel
theorem dX3_named_50 : decode cX3_named 50 = .ok (.aload_n 0, 1) := by decide +kernel
theorem dX3_named_51 : decode cX3_named 51 = .ok (.getfield 75, 3) := by decide +kernel
theorem dX3_named_54 : decode cX3_named 54 = .ok (.getfield 182, 3) := by decide +kernel
theorem dX3_named_57 : decode cX3_named 57 = .ok (.iload_n 2, 1) := by decide +kernel
theorem dX3_named_58 : decode cX3_named 58 = .ok (.invokestatic 122, 3) := by decide +kernel
theorem dX3_named_61 : decode cX3_named 61 = .ok (.istore 4, 2) := by decide +kernel
theorem dX3_named_63 : decode cX3_named 63 = .ok (.iload 4, 2) := by decide +kernel
theorem dX3_named_65 : decode cX3_named 65 = .ok (.ifCond .le 11, 3) := by decide +kernel
theorem dX3_named_78 : decode cX3_named 78 = .ok (.ireturn, 1) := by decide +kernel
theorem dX3_named_76 : decode cX3_named 76 = .ok (.bipush (-2), 2) := by decide +kernel
theorem dX3_named_68 : decode cX3_named 68 = .ok (.ldc 136, 2) := by decide +kernel
theorem dX3_named_70 : decode cX3_named 70 = .ok (.iload 4, 2) := by decide +kernel
theorem dX3_named_72 : decode cX3_named 72 = .ok (.ior, 1) := by decide +kernel
theorem dX3_named_73 : decode cX3_named 73 = .ok (.goto 5, 3) := by decide +kernel
theorem dX3_named_13 : decode cX3_named 13 = .ok (.iload_n 3, 1) := by decide +kernel
theorem dX3_named_14 : decode cX3_named 14 = .ok (.ifCond .lt 36, 3) := by decide +kernel
theorem dX3_named_17 : decode cX3_named 17 = .ok (.aload_n 0, 1) := by decide +kernel
theorem dX3_named_18 : decode cX3_named 18 = .ok (.iload_n 3, 1) := by decide +kernel
theorem dX3_named_19 : decode cX3_named 19 = .ok (.iload_n 2, 1) := by decide +kernel
theorem dX3_named_20 : decode cX3_named 20 = .ok (.invokevirtual 179, 3) := by decide +kernel
theorem dX3_named_23 : decode cX3_named 23 = .ok (.istore 5, 2) := by decide +kernel
theorem dX3_named_25 : decode cX3_named 25 = .ok (.iload 5, 2) := by decide +kernel
theorem dX3_named_27 : decode cX3_named 27 = .ok (.bipush (-2), 2) := by decide +kernel
theorem dX3_named_29 : decode cX3_named 29 = .ok (.if_icmp .eq 6, 3) := by decide +kernel
theorem dX3_named_35 : decode cX3_named 35 = .ok (.aload_n 0, 1) := by decide +kernel
theorem dX3_named_36 : decode cX3_named 36 = .ok (.getfield 15, 3) := by decide +kernel
theorem dX3_named_39 : decode cX3_named 39 = .ok (.iload_n 3, 1) := by decide +kernel
theorem dX3_named_40 : decode cX3_named 40 = .ok (.invokestatic 122, 3) := by decide +kernel
theorem dX3_named_43 : decode cX3_named 43 = .ok (.istore_n 3, 1) := by decide +kernel
theorem dX3_named_44 : decode cX3_named 44 = .ok (.iinc 4 1, 3) := by decide +kernel
theorem dX3_named_47 : decode cX3_named 47 = .ok (.goto (-42), 3) := by decide +kernel
theorem dX3_named_32 : decode cX3_named 32 = .ok (.iload 5, 2) := by decide +kernel
theorem dX3_named_34 : decode cX3_named 34 = .ok (.ireturn, 1) := by decide +kernel
theorem dX3_fillIn_0 : decode cX3_fillIn 0 = .ok (.aload_n 0, 1) := by decide +kernel
theorem dX3_fillIn_1 : decode cX3_fillIn 1 = .ok (.getfield 9, 3) := by decide +kernel
theorem dX3_fillIn_4 : decode cX3_fillIn 4 = .ok (.iload_n 1, 1) := by decide +kernel
theorem dX3_fillIn_5 : decode cX3_fillIn 5 = .ok (.invokestatic 122, 3) := by decide +kernel
theorem dX3_fillIn_8 : decode cX3_fillIn 8 = .ok (.istore 4, 2) := by decide +kernel
theorem dX3_fillIn_10 : decode cX3_fillIn 10 = .ok (.aload_n 0, 1) := by decide +kernel
theorem dX3_fillIn_11 : decode cX3_fillIn 11 = .ok (.getfield 75, 3) := by decide +kernel
theorem dX3_fillIn_14 : decode cX3_fillIn 14 = .ok (.getfield 137, 3) := by decide +kernel
theorem dX3_fillIn_17 : decode cX3_fillIn 17 = .ok (.iload 4, 2) := by decide +kernel
theorem dX3_fillIn_19 : decode cX3_fillIn 19 = .ok (.iconst 2, 1) := by decide +kernel
theorem dX3_fillIn_20 : decode cX3_fillIn 20 = .ok (.iadd, 1) := by decide +kernel
theorem dX3_fillIn_21 : decode cX3_fillIn 21 = .ok (.invokestatic 122, 3) := by decide +kernel
theorem dX3_fillIn_24 : decode cX3_fillIn 24 = .ok (.istore 5, 2) := by decide +kernel
theorem dX3_fillIn_26 : decode cX3_fillIn 26 = .ok (.iconst 0, 1) := by decide +kernel
theorem dX3_fillIn_27 : decode cX3_fillIn 27 = .ok (.istore 6, 2) := by decide +kernel
theorem dX3_fillIn_29 : decode cX3_fillIn 29 = .ok (.iload 6, 2) := by decide +kernel
theorem dX3_fillIn_31 : decode cX3_fillIn 31 = .ok (.iload 5, 2) := by decide +kernel
theorem dX3_fillIn_33 : decode cX3_fillIn 33 = .ok (.if_icmp .ge 145, 3) := by decide +kernel
theorem dX3_fillIn_178 : decode cX3_fillIn 178 = .ok (.return_, 1) := by decide +kernel
theorem dX3_fillIn_36 : decode cX3_fillIn 36 = .ok (.iload_n 1, 1) := by decide +kernel
theorem dX3_fillIn_37 : decode cX3_fillIn 37 = .ok (.bipush 12, 2) := by decide +kernel
theorem dX3_fillIn_39 : decode cX3_fillIn 39 = .ok (.imul, 1) := by decide +kernel
theorem dX3_fillIn_40 : decode cX3_fillIn 40 = .ok (.iload 6, 2) := by decide +kernel
theorem dX3_fillIn_42 : decode cX3_fillIn 42 = .ok (.iadd, 1) := by decide +kernel
theorem dX3_fillIn_43 : decode cX3_fillIn 43 = .ok (.istore 7, 2) := by decide +kernel
theorem dX3_fillIn_45 : decode cX3_fillIn 45 = .ok (.aload_n 0, 1) := by decide +kernel
theorem dX3_fillIn_46 : decode cX3_fillIn 46 = .ok (.getfield 21, 3) := by decide +kernel
theorem dX3_fillIn_49 : decode cX3_fillIn 49 = .ok (.iload 7, 2) := by decide +kernel
theorem dX3_fillIn_51 : decode cX3_fillIn 51 = .ok (.invokestatic 122, 3) := by decide +kernel
theorem dX3_fillIn_54 : decode cX3_fillIn 54 = .ok (.bipush (-2), 2) := by decide +kernel
theorem dX3_fillIn_56 : decode cX3_fillIn 56 = .ok (.if_icmp .ne 116, 3) := by decide +kernel
theorem dX3_fillIn_172 : decode cX3_fillIn 172 = .ok (.iinc 6 1, 3) := by decide +kernel
theorem dX3_fillIn_175 : decode cX3_fillIn 175 = .ok (.goto (-146), 3) := by decide +kernel
theorem dX3_fillIn_59 : decode cX3_fillIn 59 = .ok (.aload_n 0, 1) := by decide +kernel
theorem dX3_fillIn_60 : decode cX3_fillIn 60 = .ok (.getfield 75, 3) := by decide +kernel
theorem dX3_fillIn_63 : decode cX3_fillIn 63 = .ok (.getfield 137, 3) := by decide +kernel
theorem dX3_fillIn_66 : decode cX3_fillIn 66 = .ok (.iload 4, 2) := by decide +kernel
theorem dX3_fillIn_68 : decode cX3_fillIn 68 = .ok (.iconst 4, 1) := by decide +kernel
theorem dX3_fillIn_69 : decode cX3_fillIn 69 = .ok (.iadd, 1) := by decide +kernel
theorem dX3_fillIn_70 : decode cX3_fillIn 70 = .ok (.iconst 2, 1) := by decide +kernel
theorem dX3_fillIn_71 : decode cX3_fillIn 71 = .ok (.iload 6, 2) := by decide +kernel
theorem dX3_fillIn_73 : decode cX3_fillIn 73 = .ok (.imul, 1) := by decide +kernel
theorem dX3_fillIn_74 : decode cX3_fillIn 74 = .ok (.iadd, 1) := by decide +kernel
theorem dX3_fillIn_75 : decode cX3_fillIn 75 = .ok (.invokestatic 122, 3) := by decide +kernel
theorem dX3_fillIn_78 : decode cX3_fillIn 78 = .ok (.istore 8, 2) := by decide +kernel
theorem dX3_fillIn_80 : decode cX3_fillIn 80 = .ok (.iload 8, 2) := by decide +kernel
theorem dX3_fillIn_82 : decode cX3_fillIn 82 = .ok (.invokestatic 119, 3) := by decide +kernel
theorem dX3_fillIn_85 : decode cX3_fillIn 85 = .ok (.ldc 153, 2) := by decide +kernel
theorem dX3_fillIn_87 : decode cX3_fillIn 87 = .ok (.if_icmp .ne 22, 3) := by decide +kernel
theorem dX3_fillIn_150 : decode cX3_fillIn 150 = .ok (.aload_n 0, 1) := by decide +kernel
theorem dX3_fillIn_151 : decode cX3_fillIn 151 = .ok (.getfield 21, 3) := by decide +kernel
theorem dX3_fillIn_154 : decode cX3_fillIn 154 = .ok (.iload 7, 2) := by decide +kernel
theorem dX3_fillIn_156 : decode cX3_fillIn 156 = .ok (.iload 8, 2) := by decide +kernel
theorem dX3_fillIn_158 : decode cX3_fillIn 158 = .ok (.bipush (-2), 2) := by decide +kernel
theorem dX3_fillIn_160 : decode cX3_fillIn 160 = .ok (.if_icmp .ne 7, 3) := by decide +kernel
theorem dX3_fillIn_169 : decode cX3_fillIn 169 = .ok (.invokestatic 87, 3) := by decide +kernel
theorem dX3_fillIn_167 : decode cX3_fillIn 167 = .ok (.iload 8, 2) := by decide +kernel
theorem dX3_fillIn_163 : decode cX3_fillIn 163 = .ok (.iconst (-1), 1) := by decide +kernel
theorem dX3_fillIn_164 : decode cX3_fillIn 164 = .ok (.goto 5, 3) := by decide +kernel
theorem dX3_fillIn_109 : decode cX3_fillIn 109 = .ok (.iload 8, 2) := by decide +kernel
theorem dX3_fillIn_111 : decode cX3_fillIn 111 = .ok (.ldc 185, 2) := by decide +kernel
theorem dX3_fillIn_113 : decode cX3_fillIn 113 = .ok (.if_icmp .ne 37, 3) := by decide +kernel
theorem dX3_fillIn_116 : decode cX3_fillIn 116 = .ok (.iload_n 2, 1) := by decide +kernel
theorem dX3_fillIn_117 : decode cX3_fillIn 117 = .ok (.ifCond .eq 30, 3) := by decide +kernel
theorem dX3_fillIn_148 : decode cX3_fillIn 148 = .ok (.istore 8, 2) := by decide +kernel
theorem dX3_fillIn_147 : decode cX3_fillIn 147 = .ok (.iconst (-1), 1) := by decide +kernel
theorem dX3_fillIn_120 : decode cX3_fillIn 120 = .ok (.aload_n 0, 1) := by decide +kernel
theorem dX3_fillIn_121 : decode cX3_fillIn 121 = .ok (.iload_n 3, 1) := by decide +kernel
theorem dX3_fillIn_122 : decode cX3_fillIn 122 = .ok (.aload_n 0, 1) := by decide +kernel
theorem dX3_fillIn_123 : decode cX3_fillIn 123 = .ok (.getfield 75, 3) := by decide +kernel
theorem dX3_fillIn_126 : decode cX3_fillIn 126 = .ok (.getfield 137, 3) := by decide +kernel
theorem dX3_fillIn_129 : decode cX3_fillIn 129 = .ok (.iload 4, 2) := by decide +kernel
theorem dX3_fillIn_131 : decode cX3_fillIn 131 = .ok (.iconst 3, 1) := by decide +kernel
theorem dX3_fillIn_132 : decode cX3_fillIn 132 = .ok (.iadd, 1) := by decide +kernel
theorem dX3_fillIn_133 : decode cX3_fillIn 133 = .ok (.iconst 2, 1) := by decide +kernel
theorem dX3_fillIn_134 : decode cX3_fillIn 134 = .ok (.iload 6, 2) := by decide +kernel
theorem dX3_fillIn_136 : decode cX3_fillIn 136 = .ok (.imul, 1) := by decide +kernel
theorem dX3_fillIn_137 : decode cX3_fillIn 137 = .ok (.iadd, 1) := by decide +kernel
theorem dX3_fillIn_138 : decode cX3_fillIn 138 = .ok (.invokestatic 122, 3) := by decide +kernel
theorem dX3_fillIn_141 : decode cX3_fillIn 141 = .ok (.invokevirtual 186, 3) := by decide +kernel
theorem dX3_fillIn_144 : decode cX3_fillIn 144 = .ok (.goto 4, 3) := by decide +kernel
theorem dX3_fillIn_90 : decode cX3_fillIn 90 = .ok (.ldc 154, 2) := by decide +kernel
theorem dX3_fillIn_92 : decode cX3_fillIn 92 = .ok (.aload_n 0, 1) := by decide +kernel
theorem dX3_fillIn_93 : decode cX3_fillIn 93 = .ok (.iload 8, 2) := by decide +kernel
theorem dX3_fillIn_95 : decode cX3_fillIn 95 = .ok (.ldc 100, 2) := by decide +kernel
theorem dX3_fillIn_97 : decode cX3_fillIn 97 = .ok (.iand, 1) := by decide +kernel
theorem dX3_fillIn_98 : decode cX3_fillIn 98 = .ok (.iload_n 1, 1) := by decide +kernel
theorem dX3_fillIn_99 : decode cX3_fillIn 99 = .ok (.iconst (-1), 1) := by decide +kernel
theorem dX3_fillIn_100 : decode cX3_fillIn 100 = .ok (.invokevirtual 155, 3) := by decide +kernel
theorem dX3_fillIn_103 : decode cX3_fillIn 103 = .ok (.ior, 1) := by decide +kernel
theorem dX3_fillIn_104 : decode cX3_fillIn 104 = .ok (.istore 8, 2) := by decide +kernel
theorem dX3_fillIn_106 : decode cX3_fillIn 106 = .ok (.goto 44, 3) := by decide +kernel
theorem dX5_counted_0 : decode cX5_counted 0 = .ok (.aload_n 0, 1) := by decide +kernel
theorem dX5_counted_1 : decode cX5_counted 1 = .ok (.getfield 45, 3) := by decide +kernel
theorem dX5_counted_4 : decode cX5_counted 4 = .ok (.ldc_w 308, 3) := by decide +kernel
theorem dX5_counted_7 : decode cX5_counted 7 = .ok (.if_icmp .lt 11, 3) := by decide +kernel
theorem dX5_counted_18 : decode cX5_counted 18 = .ok (.aload_n 0, 1) := by decide +kernel
theorem dX5_counted_19 : decode cX5_counted 19 = .ok (.dup, 1) := by decide +kernel
theorem dX5_counted_20 : decode cX5_counted 20 = .ok (.getfield 45, 3) := by decide +kernel
theorem dX5_counted_23 : decode cX5_counted 23 = .ok (.iconst 1, 1) := by decide +kernel
theorem dX5_counted_24 : decode cX5_counted 24 = .ok (.iadd, 1) := by decide +kernel
theorem dX5_counted_25 : decode cX5_counted 25 = .ok (.putfield 45, 3) := by decide +kernel
theorem dX5_counted_28 : decode cX5_counted 28 = .ok (.return_, 1) := by decide +kernel
theorem dX5_counted_10 : decode cX5_counted 10 = .ok (.new 134, 3) := by decide +kernel
theorem dX5_counted_13 : decode cX5_counted 13 = .ok (.dup, 1) := by decide +kernel
theorem dX5_counted_14 : decode cX5_counted 14 = .ok (.invokespecial 236, 3) := by decide +kernel
theorem dX5_counted_17 : decode cX5_counted 17 = .ok (.athrow, 1) := by decide +kernel
theorem dX5_start_0 : decode cX5_start 0 = .ok (.aload_n 0, 1) := by decide +kernel
theorem dX5_start_1 : decode cX5_start 1 = .ok (.getfield 24, 3) := by decide +kernel
theorem dX5_start_4 : decode cX5_start 4 = .ok (.ifCond .lt 15, 3) := by decide +kernel
theorem dX5_start_19 : decode cX5_start 19 = .ok (.new 134, 3) := by decide +kernel
theorem dX5_start_22 : decode cX5_start 22 = .ok (.dup, 1) := by decide +kernel
theorem dX5_start_23 : decode cX5_start 23 = .ok (.invokespecial 236, 3) := by decide +kernel
theorem dX5_start_26 : decode cX5_start 26 = .ok (.athrow, 1) := by decide +kernel
theorem dX5_start_7 : decode cX5_start 7 = .ok (.aload_n 0, 1) := by decide +kernel
theorem dX5_start_8 : decode cX5_start 8 = .ok (.getfield 24, 3) := by decide +kernel
theorem dX5_start_11 : decode cX5_start 11 = .ok (.aload_n 0, 1) := by decide +kernel
theorem dX5_start_12 : decode cX5_start 12 = .ok (.getfield 21, 3) := by decide +kernel
theorem dX5_start_15 : decode cX5_start 15 = .ok (.arraylength, 1) := by decide +kernel
theorem dX5_start_16 : decode cX5_start 16 = .ok (.if_icmp .lt 11, 3) := by decide +kernel
theorem dX5_start_27 : decode cX5_start 27 = .ok (.aload_n 0, 1) := by decide +kernel
theorem dX5_start_28 : decode cX5_start 28 = .ok (.getfield 21, 3) := by decide +kernel
theorem dX5_start_31 : decode cX5_start 31 = .ok (.aload_n 0, 1) := by decide +kernel
theorem dX5_start_32 : decode cX5_start 32 = .ok (.getfield 24, 3) := by decide +kernel
theorem dX5_start_35 : decode cX5_start 35 = .ok (.iload_n 1, 1) := by decide +kernel
theorem dX5_start_36 : decode cX5_start 36 = .ok (.iastore, 1) := by decide +kernel
theorem dX5_start_37 : decode cX5_start 37 = .ok (.aload_n 0, 1) := by decide +kernel
theorem dX5_start_38 : decode cX5_start 38 = .ok (.dup, 1) := by decide +kernel
theorem dX5_start_39 : decode cX5_start 39 = .ok (.getfield 24, 3) := by decide +kernel
theorem dX5_start_42 : decode cX5_start 42 = .ok (.iconst 1, 1) := by decide +kernel
theorem dX5_start_43 : decode cX5_start 43 = .ok (.iadd, 1) := by decide +kernel
theorem dX5_start_44 : decode cX5_start 44 = .ok (.putfield 24, 3) := by decide +kernel
theorem dX5_start_47 : decode cX5_start 47 = .ok (.return_, 1) := by decide +kernel
theorem dX5_options_0 : decode cX5_options 0 = .ok (.aload_n 0, 1) := by decide +kernel
theorem dX5_options_1 : decode cX5_options 1 = .ok (.aload_n 0, 1) := by decide +kernel
theorem dX5_options_2 : decode cX5_options 2 = .ok (.getfield 48, 3) := by decide +kernel
theorem dX5_options_5 : decode cX5_options 5 = .ok (.invokevirtual 299, 3) := by decide +kernel
theorem dX5_options_8 : decode cX5_options 8 = .ok (.aload_n 0, 1) := by decide +kernel
theorem dX5_options_9 : decode cX5_options 9 = .ok (.aload_n 0, 1) := by decide +kernel
theorem dX5_options_10 : decode cX5_options 10 = .ok (.getfield 51, 3) := by decide +kernel
theorem dX5_options_13 : decode cX5_options 13 = .ok (.invokevirtual 299, 3) := by decide +kernel
theorem dX5_options_16 : decode cX5_options 16 = .ok (.aload_n 0, 1) := by decide +kernel
theorem dX5_options_17 : decode cX5_options 17 = .ok (.aload_n 0, 1) := by decide +kernel
theorem dX5_options_18 : decode cX5_options 18 = .ok (.getfield 54, 3) := by decide +kernel
theorem dX5_options_21 : decode cX5_options 21 = .ok (.invokevirtual 299, 3) := by decide +kernel
theorem dX5_options_24 : decode cX5_options 24 = .ok (.aload_n 0, 1) := by decide +kernel
theorem dX5_options_25 : decode cX5_options 25 = .ok (.aload_n 0, 1) := by decide +kernel
theorem dX5_options_26 : decode cX5_options 26 = .ok (.getfield 57, 3) := by decide +kernel
theorem dX5_options_29 : decode cX5_options 29 = .ok (.invokevirtual 299, 3) := by decide +kernel
theorem dX5_options_32 : decode cX5_options 32 = .ok (.aload_n 0, 1) := by decide +kernel
theorem dX5_options_33 : decode cX5_options 33 = .ok (.aload_n 0, 1) := by decide +kernel
theorem dX5_options_34 : decode cX5_options 34 = .ok (.getfield 92, 3) := by decide +kernel
theorem dX5_options_37 : decode cX5_options 37 = .ok (.getfield 302, 3) := by decide +kernel
theorem dX5_options_40 : decode cX5_options 40 = .ok (.invokevirtual 299, 3) := by decide +kernel
theorem dX5_options_43 : decode cX5_options 43 = .ok (.aload_n 0, 1) := by decide +kernel
theorem dX5_options_44 : decode cX5_options 44 = .ok (.aload_n 0, 1) := by decide +kernel
theorem dX5_options_45 : decode cX5_options 45 = .ok (.getfield 92, 3) := by decide +kernel
theorem dX5_options_48 : decode cX5_options 48 = .ok (.getfield 296, 3) := by decide +kernel
theorem dX5_options_51 : decode cX5_options 51 = .ok (.invokevirtual 299, 3) := by decide +kernel
theorem dX5_options_54 : decode cX5_options 54 = .ok (.aload_n 0, 1) := by decide +kernel
theorem dX5_options_55 : decode cX5_options 55 = .ok (.iconst 2, 1) := by decide +kernel
theorem dX5_options_56 : decode cX5_options 56 = .ok (.invokevirtual 299, 3) := by decide +kernel
theorem dX5_options_59 : decode cX5_options 59 = .ok (.return_, 1) := by decide +kernel
theorem dX9_noteError_0 : decode cX9_noteError 0 = .ok (.iconst 3, 1) := by decide +kernel
theorem dX9_noteError_1 : decode cX9_noteError 1 = .ok (.aload_n 0, 1) := by decide +kernel
theorem dX9_noteError_2 : decode cX9_noteError 2 = .ok (.getfield 16, 3) := by decide +kernel
theorem dX9_noteError_5 : decode cX9_noteError 5 = .ok (.iconst 0, 1) := by decide +kernel
theorem dX9_noteError_6 : decode cX9_noteError 6 = .ok (.iaload, 1) := by decide +kernel
theorem dX9_noteError_7 : decode cX9_noteError 7 = .ok (.imul, 1) := by decide +kernel
theorem dX9_noteError_8 : decode cX9_noteError 8 = .ok (.istore 4, 2) := by decide +kernel
theorem dX9_noteError_10 : decode cX9_noteError 10 = .ok (.iload 4, 2) := by decide +kernel
theorem dX9_noteError_12 : decode cX9_noteError 12 = .ok (.ifCond .lt 43, 3) := by decide +kernel
theorem dX9_noteError_55 : decode cX9_noteError 55 = .ok (.aload_n 0, 1) := by decide +kernel
theorem dX9_noteError_56 : decode cX9_noteError 56 = .ok (.getfield 16, 3) := by decide +kernel
theorem dX9_noteError_59 : decode cX9_noteError 59 = .ok (.iconst 0, 1) := by decide +kernel
theorem dX9_noteError_60 : decode cX9_noteError 60 = .ok (.dup2, 1) := by decide +kernel
theorem dX9_noteError_61 : decode cX9_noteError 61 = .ok (.iaload, 1) := by decide +kernel
theorem dX9_noteError_62 : decode cX9_noteError 62 = .ok (.iconst 1, 1) := by decide +kernel
theorem dX9_noteError_63 : decode cX9_noteError 63 = .ok (.iadd, 1) := by decide +kernel
theorem dX9_noteError_64 : decode cX9_noteError 64 = .ok (.iastore, 1) := by decide +kernel
theorem dX9_noteError_65 : decode cX9_noteError 65 = .ok (.return_, 1) := by decide +kernel
theorem dX9_noteError_15 : decode cX9_noteError 15 = .ok (.iload 4, 2) := by decide +kernel
theorem dX9_noteError_17 : decode cX9_noteError 17 = .ok (.iconst 2, 1) := by decide +kernel
theorem dX9_noteError_18 : decode cX9_noteError 18 = .ok (.iadd, 1) := by decide +kernel
theorem dX9_noteError_19 : decode cX9_noteError 19 = .ok (.aload_n 0, 1) := by decide +kernel
theorem dX9_noteError_20 : decode cX9_noteError 20 = .ok (.getfield 7, 3) := by decide +kernel
theorem dX9_noteError_23 : decode cX9_noteError 23 = .ok (.arraylength, 1) := by decide +kernel
theorem dX9_noteError_24 : decode cX9_noteError 24 = .ok (.if_icmp .ge 31, 3) := by decide +kernel
theorem dX9_noteError_27 : decode cX9_noteError 27 = .ok (.aload_n 0, 1) := by decide +kernel
theorem dX9_noteError_28 : decode cX9_noteError 28 = .ok (.getfield 7, 3) := by decide +kernel
theorem dX9_noteError_31 : decode cX9_noteError 31 = .ok (.iload 4, 2) := by decide +kernel
theorem dX9_noteError_33 : decode cX9_noteError 33 = .ok (.iload_n 1, 1) := by decide +kernel
theorem dX9_noteError_34 : decode cX9_noteError 34 = .ok (.iastore, 1) := by decide +kernel
theorem dX3_content_0 : decode cX3_content 0 = .ok (.iload_n 1, 1) := by decide +kernel
theorem dX3_content_1 : decode cX3_content 1 = .ok (.invokestatic 119, 3) := by decide +kernel
theorem dX3_content_4 : decode cX3_content 4 = .ok (.ldc 153, 2) := by decide +kernel
theorem dX3_content_6 : decode cX3_content 6 = .ok (.if_icmp .ne 17, 3) := by decide +kernel
theorem dX3_content_23 : decode cX3_content 23 = .ok (.iload_n 1, 1) := by decide +kernel
theorem dX3_content_24 : decode cX3_content 24 = .ok (.ldc 159, 2) := by decide +kernel
theorem dX3_content_26 : decode cX3_content 26 = .ok (.if_icmp .ne 7, 3) := by decide +kernel
theorem dX3_content_34 : decode cX3_content 34 = .ok (.ireturn, 1) := by decide +kernel
theorem dX3_content_33 : decode cX3_content 33 = .ok (.iload_n 1, 1) := by decide +kernel
theorem dX3_content_29 : decode cX3_content 29 = .ok (.iload_n 2, 1) := by decide +kernel
theorem dX3_content_30 : decode cX3_content 30 = .ok (.goto 4, 3) := by decide +kernel
theorem dX3_content_9 : decode cX3_content 9 = .ok (.ldc 154, 2) := by decide +kernel
theorem dX3_content_11 : decode cX3_content 11 = .ok (.aload_n 0, 1) := by decide +kernel
theorem dX3_content_12 : decode cX3_content 12 = .ok (.iload_n 1, 1) := by decide +kernel
theorem dX3_content_13 : decode cX3_content 13 = .ok (.ldc 100, 2) := by decide +kernel
theorem dX3_content_15 : decode cX3_content 15 = .ok (.iand, 1) := by decide +kernel
theorem dX3_content_16 : decode cX3_content 16 = .ok (.iconst (-1), 1) := by decide +kernel
theorem dX3_content_17 : decode cX3_content 17 = .ok (.iconst (-1), 1) := by decide +kernel
theorem dX3_content_18 : decode cX3_content 18 = .ok (.invokevirtual 155, 3) := by decide +kernel
theorem dX3_content_21 : decode cX3_content 21 = .ok (.ior, 1) := by decide +kernel
theorem dX3_content_22 : decode cX3_content 22 = .ok (.ireturn, 1) := by decide +kernel
theorem dX3_opened_0 : decode cX3_opened 0 = .ok (.iload_n 1, 1) := by decide +kernel
theorem dX3_opened_1 : decode cX3_opened 1 = .ok (.invokestatic 119, 3) := by decide +kernel
theorem dX3_opened_4 : decode cX3_opened 4 = .ok (.ldc 136, 2) := by decide +kernel
theorem dX3_opened_6 : decode cX3_opened 6 = .ok (.if_icmp .eq 5, 3) := by decide +kernel
theorem dX3_opened_11 : decode cX3_opened 11 = .ok (.iload_n 1, 1) := by decide +kernel
theorem dX3_opened_12 : decode cX3_opened 12 = .ok (.ldc 100, 2) := by decide +kernel
theorem dX3_opened_14 : decode cX3_opened 14 = .ok (.iand, 1) := by decide +kernel
theorem dX3_opened_15 : decode cX3_opened 15 = .ok (.istore_n 2, 1) := by decide +kernel
theorem dX3_opened_16 : decode cX3_opened 16 = .ok (.aload_n 0, 1) := by decide +kernel
theorem dX3_opened_17 : decode cX3_opened 17 = .ok (.getfield 75, 3) := by decide +kernel
theorem dX3_opened_20 : decode cX3_opened 20 = .ok (.getfield 137, 3) := by decide +kernel
theorem dX3_opened_23 : decode cX3_opened 23 = .ok (.iload_n 2, 1) := by decide +kernel
theorem dX3_opened_24 : decode cX3_opened 24 = .ok (.iconst 2, 1) := by decide +kernel
theorem dX3_opened_25 : decode cX3_opened 25 = .ok (.iadd, 1) := by decide +kernel
theorem dX3_opened_26 : decode cX3_opened 26 = .ok (.invokestatic 122, 3) := by decide +kernel
theorem dX3_opened_29 : decode cX3_opened 29 = .ok (.istore_n 3, 1) := by decide +kernel
theorem dX3_opened_30 : decode cX3_opened 30 = .ok (.aload_n 0, 1) := by decide +kernel
theorem dX3_opened_31 : decode cX3_opened 31 = .ok (.iload_n 3, 1) := by decide +kernel
theorem dX3_opened_32 : decode cX3_opened 32 = .ok (.invokevirtual 142, 3) := by decide +kernel
theorem dX3_opened_35 : decode cX3_opened 35 = .ok (.istore 4, 2) := by decide +kernel
theorem dX3_opened_37 : decode cX3_opened 37 = .ok (.iconst 0, 1) := by decide +kernel
theorem dX3_opened_38 : decode cX3_opened 38 = .ok (.istore 5, 2) := by decide +kernel
theorem dX3_opened_40 : decode cX3_opened 40 = .ok (.iload 5, 2) := by decide +kernel
theorem dX3_opened_42 : decode cX3_opened 42 = .ok (.iload_n 3, 1) := by decide +kernel
theorem dX3_opened_43 : decode cX3_opened 43 = .ok (.if_icmp .ge 57, 3) := by decide +kernel
theorem dX3_opened_100 : decode cX3_opened 100 = .ok (.iload 4, 2) := by decide +kernel
theorem dX3_opened_102 : decode cX3_opened 102 = .ok (.ireturn, 1) := by decide +kernel
theorem dX3_opened_46 : decode cX3_opened 46 = .ok (.aload_n 0, 1) := by decide +kernel
theorem dX3_opened_47 : decode cX3_opened 47 = .ok (.iload 4, 2) := by decide +kernel
theorem dX3_opened_49 : decode cX3_opened 49 = .ok (.iload 5, 2) := by decide +kernel
theorem dX3_opened_51 : decode cX3_opened 51 = .ok (.aload_n 0, 1) := by decide +kernel
theorem dX3_opened_52 : decode cX3_opened 52 = .ok (.aload_n 0, 1) := by decide +kernel
theorem dX3_opened_53 : decode cX3_opened 53 = .ok (.getfield 75, 3) := by decide +kernel
theorem dX3_opened_56 : decode cX3_opened 56 = .ok (.getfield 137, 3) := by decide +kernel
theorem dX3_opened_59 : decode cX3_opened 59 = .ok (.iload_n 2, 1) := by decide +kernel
theorem dX3_opened_60 : decode cX3_opened 60 = .ok (.iconst 5, 1) := by decide +kernel
theorem dX3_opened_61 : decode cX3_opened 61 = .ok (.iadd, 1) := by decide +kernel
theorem dX3_opened_62 : decode cX3_opened 62 = .ok (.iconst 2, 1) := by decide +kernel
theorem dX3_opened_63 : decode cX3_opened 63 = .ok (.iload 5, 2) := by decide +kernel
theorem dX3_opened_65 : decode cX3_opened 65 = .ok (.imul, 1) := by decide +kernel
theorem dX3_opened_66 : decode cX3_opened 66 = .ok (.iadd, 1) := by decide +kernel
theorem dX3_opened_67 : decode cX3_opened 67 = .ok (.invokestatic 122, 3) := by decide +kernel
theorem dX3_opened_70 : decode cX3_opened 70 = .ok (.aload_n 0, 1) := by decide +kernel
theorem dX3_opened_71 : decode cX3_opened 71 = .ok (.getfield 75, 3) := by decide +kernel
theorem dX3_opened_74 : decode cX3_opened 74 = .ok (.getfield 137, 3) := by decide +kernel
theorem dX3_opened_77 : decode cX3_opened 77 = .ok (.iload_n 2, 1) := by decide +kernel
theorem dX3_opened_78 : decode cX3_opened 78 = .ok (.iconst 4, 1) := by decide +kernel
theorem dX3_opened_79 : decode cX3_opened 79 = .ok (.iadd, 1) := by decide +kernel
theorem dX3_opened_80 : decode cX3_opened 80 = .ok (.iconst 2, 1) := by decide +kernel
theorem dX3_opened_81 : decode cX3_opened 81 = .ok (.iload 5, 2) := by decide +kernel
theorem dX3_opened_83 : decode cX3_opened 83 = .ok (.imul, 1) := by decide +kernel
theorem dX3_opened_84 : decode cX3_opened 84 = .ok (.iadd, 1) := by decide +kernel
theorem dX3_opened_85 : decode cX3_opened 85 = .ok (.invokestatic 122, 3) := by decide +kernel
theorem dX3_opened_88 : decode cX3_opened 88 = .ok (.invokevirtual 145, 3) := by decide +kernel
theorem dX3_opened_91 : decode cX3_opened 91 = .ok (.invokevirtual 149, 3) := by decide +kernel
theorem dX3_opened_94 : decode cX3_opened 94 = .ok (.iinc 5 1, 3) := by decide +kernel
theorem dX3_opened_97 : decode cX3_opened 97 = .ok (.goto (-57), 3) := by decide +kernel
theorem dX3_opened_9 : decode cX3_opened 9 = .ok (.iload_n 1, 1) := by decide +kernel
theorem dX3_opened_10 : decode cX3_opened 10 = .ok (.ireturn, 1) := by decide +kernel
theorem dX5_done_0 : decode cX5_done 0 = .ok (.aload_n 0, 1) := by decide +kernel
theorem dX5_done_1 : decode cX5_done 1 = .ok (.getfield 24, 3) := by decide +kernel
theorem dX5_done_4 : decode cX5_done 4 = .ok (.ifCond .le 15, 3) := by decide +kernel
theorem dX5_done_19 : decode cX5_done 19 = .ok (.iconst (-1), 1) := by decide +kernel
theorem dX5_done_20 : decode cX5_done 20 = .ok (.ireturn, 1) := by decide +kernel
theorem dX5_done_7 : decode cX5_done 7 = .ok (.aload_n 0, 1) := by decide +kernel
theorem dX5_done_8 : decode cX5_done 8 = .ok (.getfield 24, 3) := by decide +kernel
theorem dX5_done_11 : decode cX5_done 11 = .ok (.aload_n 0, 1) := by decide +kernel
theorem dX5_done_12 : decode cX5_done 12 = .ok (.getfield 21, 3) := by decide +kernel
theorem dX5_done_15 : decode cX5_done 15 = .ok (.arraylength, 1) := by decide +kernel
theorem dX5_done_16 : decode cX5_done 16 = .ok (.if_icmp .le 5, 3) := by decide +kernel
theorem dX5_done_21 : decode cX5_done 21 = .ok (.aload_n 0, 1) := by decide +kernel
theorem dX5_done_22 : decode cX5_done 22 = .ok (.dup, 1) := by decide +kernel
theorem dX5_done_23 : decode cX5_done 23 = .ok (.getfield 24, 3) := by decide +kernel
theorem dX5_done_26 : decode cX5_done 26 = .ok (.iconst 1, 1) := by decide +kernel
theorem dX5_done_27 : decode cX5_done 27 = .ok (.isub, 1) := by decide +kernel
theorem dX5_done_28 : decode cX5_done 28 = .ok (.putfield 24, 3) := by decide +kernel
theorem dX5_done_31 : decode cX5_done 31 = .ok (.aload_n 0, 1) := by decide +kernel
theorem dX5_done_32 : decode cX5_done 32 = .ok (.getfield 21, 3) := by decide +kernel
theorem dX5_done_35 : decode cX5_done 35 = .ok (.aload_n 0, 1) := by decide +kernel
theorem dX5_done_36 : decode cX5_done 36 = .ok (.getfield 24, 3) := by decide +kernel
theorem dX5_done_39 : decode cX5_done 39 = .ok (.iaload, 1) := by decide +kernel
theorem dX5_done_40 : decode cX5_done 40 = .ok (.ireturn, 1) := by decide +kernel
theorem dX5_optionsBack_0 : decode cX5_optionsBack 0 = .ok (.aload_n 0, 1) := by decide +kernel
theorem dX5_optionsBack_1 : decode cX5_optionsBack 1 = .ok (.invokevirtual 305, 3) := by decide +kernel
theorem dX5_optionsBack_4 : decode cX5_optionsBack 4 = .ok (.pop, 1) := by decide +kernel
theorem dX5_optionsBack_5 : decode cX5_optionsBack 5 = .ok (.aload_n 0, 1) := by decide +kernel
theorem dX5_optionsBack_6 : decode cX5_optionsBack 6 = .ok (.getfield 92, 3) := by decide +kernel
theorem dX5_optionsBack_9 : decode cX5_optionsBack 9 = .ok (.aload_n 0, 1) := by decide +kernel
theorem dX5_optionsBack_10 : decode cX5_optionsBack 10 = .ok (.invokevirtual 305, 3) := by decide +kernel
theorem dX5_optionsBack_13 : decode cX5_optionsBack 13 = .ok (.putfield 296, 3) := by decide +kernel
theorem dX5_optionsBack_16 : decode cX5_optionsBack 16 = .ok (.aload_n 0, 1) := by decide +kernel
theorem dX5_optionsBack_17 : decode cX5_optionsBack 17 = .ok (.getfield 92, 3) := by decide +kernel
theorem dX5_optionsBack_20 : decode cX5_optionsBack 20 = .ok (.aload_n 0, 1) := by decide +kernel
theorem dX5_optionsBack_21 : decode cX5_optionsBack 21 = .ok (.invokevirtual 305, 3) := by decide +kernel
theorem dX5_optionsBack_24 : decode cX5_optionsBack 24 = .ok (.putfield 302, 3) := by decide +kernel
theorem dX5_optionsBack_27 : decode cX5_optionsBack 27 = .ok (.aload_n 0, 1) := by decide +kernel
theorem dX5_optionsBack_28 : decode cX5_optionsBack 28 = .ok (.aload_n 0, 1) := by decide +kernel
theorem dX5_optionsBack_29 : decode cX5_optionsBack 29 = .ok (.invokevirtual 305, 3) := by decide +kernel
theorem dX5_optionsBack_32 : decode cX5_optionsBack 32 = .ok (.putfield 57, 3) := by decide +kernel
theorem dX5_optionsBack_35 : decode cX5_optionsBack 35 = .ok (.aload_n 0, 1) := by decide +kernel
theorem dX5_optionsBack_36 : decode cX5_optionsBack 36 = .ok (.aload_n 0, 1) := by decide +kernel
theorem dX5_optionsBack_37 : decode cX5_optionsBack 37 = .ok (.invokevirtual 305, 3) := by decide +kernel
theorem dX5_optionsBack_40 : decode cX5_optionsBack 40 = .ok (.putfield 54, 3) := by decide +kernel
theorem dX5_optionsBack_43 : decode cX5_optionsBack 43 = .ok (.aload_n 0, 1) := by decide +kernel
theorem dX5_optionsBack_44 : decode cX5_optionsBack 44 = .ok (.aload_n 0, 1) := by decide +kernel
theorem dX5_optionsBack_45 : decode cX5_optionsBack 45 = .ok (.invokevirtual 305, 3) := by decide +kernel
theorem dX5_optionsBack_48 : decode cX5_optionsBack 48 = .ok (.putfield 51, 3) := by decide +kernel
theorem dX5_optionsBack_51 : decode cX5_optionsBack 51 = .ok (.aload_n 0, 1) := by decide +kernel
theorem dX5_optionsBack_52 : decode cX5_optionsBack 52 = .ok (.aload_n 0, 1) := by decide +kernel
theorem dX5_optionsBack_53 : decode cX5_optionsBack 53 = .ok (.invokevirtual 305, 3) := by decide +kernel
theorem dX5_optionsBack_56 : decode cX5_optionsBack 56 = .ok (.putfield 48, 3) := by decide +kernel
theorem dX5_optionsBack_59 : decode cX5_optionsBack 59 = .ok (.return_, 1) := by decide +kernel
theorem dX11_wordAt_0 : decode cX11_wordAt 0 = .ok (.aload_n 0, 1) := by decide +kernel
theorem dX11_wordAt_1 : decode cX11_wordAt 1 = .ok (.getfield 35, 3) := by decide +kernel
theorem dX11_wordAt_4 : decode cX11_wordAt 4 = .ok (.iconst 1, 1) := by decide +kernel
theorem dX11_wordAt_5 : decode cX11_wordAt 5 = .ok (.isub, 1) := by decide +kernel
theorem dX11_wordAt_6 : decode cX11_wordAt 6 = .ok (.sipush 1000, 3) := by decide +kernel
theorem dX11_wordAt_9 : decode cX11_wordAt 9 = .ok (.imul, 1) := by decide +kernel
theorem dX11_wordAt_10 : decode cX11_wordAt 10 = .ok (.ireturn, 1) := by decide +kernel
theorem dX3_newWord_0 : decode cX3_newWord 0 = .ok (.aload_n 0, 1) := by decide +kernel
theorem dX3_newWord_1 : decode cX3_newWord 1 = .ok (.getfield 43, 3) := by decide +kernel
theorem dX3_newWord_4 : decode cX3_newWord 4 = .ok (.iload_n 3, 1) := by decide +kernel
theorem dX3_newWord_5 : decode cX3_newWord 5 = .ok (.iadd, 1) := by decide +kernel
theorem dX3_newWord_6 : decode cX3_newWord 6 = .ok (.aload_n 0, 1) := by decide +kernel
theorem dX3_newWord_7 : decode cX3_newWord 7 = .ok (.getfield 39, 3) := by decide +kernel
theorem dX3_newWord_10 : decode cX3_newWord 10 = .ok (.arraylength, 1) := by decide +kernel
theorem dX3_newWord_11 : decode cX3_newWord 11 = .ok (.if_icmp .le 11, 3) := by decide +kernel
theorem dX3_newWord_22 : decode cX3_newWord 22 = .ok (.aload_n 0, 1) := by decide +kernel
theorem dX3_newWord_23 : decode cX3_newWord 23 = .ok (.getfield 43, 3) := by decide +kernel
theorem dX3_newWord_26 : decode cX3_newWord 26 = .ok (.istore 4, 2) := by decide +kernel
theorem dX3_newWord_28 : decode cX3_newWord 28 = .ok (.iconst 0, 1) := by decide +kernel
theorem dX3_newWord_29 : decode cX3_newWord 29 = .ok (.istore 5, 2) := by decide +kernel
theorem dX3_newWord_31 : decode cX3_newWord 31 = .ok (.iload 5, 2) := by decide +kernel
theorem dX3_newWord_33 : decode cX3_newWord 33 = .ok (.iload_n 3, 1) := by decide +kernel
theorem dX3_newWord_34 : decode cX3_newWord 34 = .ok (.if_icmp .ge 29, 3) := by decide +kernel
theorem dX3_newWord_63 : decode cX3_newWord 63 = .ok (.aload_n 0, 1) := by decide +kernel
theorem dX3_newWord_64 : decode cX3_newWord 64 = .ok (.dup, 1) := by decide +kernel
theorem dX3_newWord_65 : decode cX3_newWord 65 = .ok (.getfield 43, 3) := by decide +kernel
theorem dX3_newWord_68 : decode cX3_newWord 68 = .ok (.iload_n 3, 1) := by decide +kernel
theorem dX3_newWord_69 : decode cX3_newWord 69 = .ok (.iadd, 1) := by decide +kernel
theorem dX3_newWord_70 : decode cX3_newWord 70 = .ok (.putfield 43, 3) := by decide +kernel
theorem dX3_newWord_73 : decode cX3_newWord 73 = .ok (.ldc 109, 2) := by decide +kernel
theorem dX3_newWord_75 : decode cX3_newWord 75 = .ok (.iload 4, 2) := by decide +kernel
theorem dX3_newWord_77 : decode cX3_newWord 77 = .ok (.bipush 10, 2) := by decide +kernel
theorem dX3_newWord_79 : decode cX3_newWord 79 = .ok (.ishl, 1) := by decide +kernel
theorem dX3_newWord_80 : decode cX3_newWord 80 = .ok (.ior, 1) := by decide +kernel
theorem dX3_newWord_81 : decode cX3_newWord 81 = .ok (.iload_n 3, 1) := by decide +kernel
theorem dX3_newWord_82 : decode cX3_newWord 82 = .ok (.ior, 1) := by decide +kernel
theorem dX3_newWord_83 : decode cX3_newWord 83 = .ok (.ireturn, 1) := by decide +kernel
theorem dX3_newWord_37 : decode cX3_newWord 37 = .ok (.aload_n 0, 1) := by decide +kernel
theorem dX3_newWord_38 : decode cX3_newWord 38 = .ok (.getfield 39, 3) := by decide +kernel
theorem dX3_newWord_41 : decode cX3_newWord 41 = .ok (.iload 4, 2) := by decide +kernel
theorem dX3_newWord_43 : decode cX3_newWord 43 = .ok (.iload 5, 2) := by decide +kernel
theorem dX3_newWord_45 : decode cX3_newWord 45 = .ok (.iadd, 1) := by decide +kernel
theorem dX3_newWord_46 : decode cX3_newWord 46 = .ok (.aload_n 1, 1) := by decide +kernel
theorem dX3_newWord_47 : decode cX3_newWord 47 = .ok (.iload_n 2, 1) := by decide +kernel
theorem dX3_newWord_48 : decode cX3_newWord 48 = .ok (.iload 5, 2) := by decide +kernel
theorem dX3_newWord_50 : decode cX3_newWord 50 = .ok (.iadd, 1) := by decide +kernel
theorem dX3_newWord_51 : decode cX3_newWord 51 = .ok (.invokestatic 101, 3) := by decide +kernel
theorem dX3_newWord_54 : decode cX3_newWord 54 = .ok (.invokestatic 105, 3) := by decide +kernel
theorem dX3_newWord_57 : decode cX3_newWord 57 = .ok (.iinc 5 1, 3) := by decide +kernel
theorem dX3_newWord_60 : decode cX3_newWord 60 = .ok (.goto (-29), 3) := by decide +kernel
theorem dX3_newWord_14 : decode cX3_newWord 14 = .ok (.new 79, 3) := by decide +kernel
theorem dX3_newWord_17 : decode cX3_newWord 17 = .ok (.dup, 1) := by decide +kernel
theorem dX3_newWord_18 : decode cX3_newWord 18 = .ok (.invokespecial 81, 3) := by decide +kernel
theorem dX3_newWord_21 : decode cX3_newWord 21 = .ok (.athrow, 1) := by decide +kernel
theorem dX5_push_0 : decode cX5_push 0 = .ok (.aload_n 0, 1) := by decide +kernel
theorem dX5_push_1 : decode cX5_push 1 = .ok (.getfield 16, 3) := by decide +kernel
theorem dX5_push_4 : decode cX5_push 4 = .ok (.ifCond .lt 15, 3) := by decide +kernel
theorem dX5_push_19 : decode cX5_push 19 = .ok (.new 134, 3) := by decide +kernel
theorem dX5_push_22 : decode cX5_push 22 = .ok (.dup, 1) := by decide +kernel
theorem dX5_push_23 : decode cX5_push 23 = .ok (.invokespecial 236, 3) := by decide +kernel
theorem dX5_push_26 : decode cX5_push 26 = .ok (.athrow, 1) := by decide +kernel
theorem dX5_push_7 : decode cX5_push 7 = .ok (.aload_n 0, 1) := by decide +kernel
theorem dX5_push_8 : decode cX5_push 8 = .ok (.getfield 16, 3) := by decide +kernel
theorem dX5_push_11 : decode cX5_push 11 = .ok (.aload_n 0, 1) := by decide +kernel
theorem dX5_push_12 : decode cX5_push 12 = .ok (.getfield 10, 3) := by decide +kernel
theorem dX5_push_15 : decode cX5_push 15 = .ok (.arraylength, 1) := by decide +kernel
theorem dX5_push_16 : decode cX5_push 16 = .ok (.if_icmp .lt 11, 3) := by decide +kernel
theorem dX5_push_27 : decode cX5_push 27 = .ok (.aload_n 0, 1) := by decide +kernel
theorem dX5_push_28 : decode cX5_push 28 = .ok (.getfield 10, 3) := by decide +kernel
theorem dX5_push_31 : decode cX5_push 31 = .ok (.aload_n 0, 1) := by decide +kernel
theorem dX5_push_32 : decode cX5_push 32 = .ok (.getfield 16, 3) := by decide +kernel
theorem dX5_push_35 : decode cX5_push 35 = .ok (.iload_n 1, 1) := by decide +kernel
theorem dX5_push_36 : decode cX5_push 36 = .ok (.iastore, 1) := by decide +kernel
theorem dX5_push_37 : decode cX5_push 37 = .ok (.aload_n 0, 1) := by decide +kernel
theorem dX5_push_38 : decode cX5_push 38 = .ok (.dup, 1) := by decide +kernel
theorem dX5_push_39 : decode cX5_push 39 = .ok (.getfield 16, 3) := by decide +kernel
theorem dX5_push_42 : decode cX5_push 42 = .ok (.iconst 1, 1) := by decide +kernel
theorem dX5_push_43 : decode cX5_push 43 = .ok (.iadd, 1) := by decide +kernel
theorem dX5_push_44 : decode cX5_push 44 = .ok (.putfield 16, 3) := by decide +kernel
theorem dX5_push_47 : decode cX5_push 47 = .ok (.return_, 1) := by decide +kernel
theorem dX5_wordOver_0 : decode cX5_wordOver 0 = .ok (.aload_n 0, 1) := by decide +kernel
theorem dX5_wordOver_1 : decode cX5_wordOver 1 = .ok (.getfield 83, 3) := by decide +kernel
theorem dX5_wordOver_4 : decode cX5_wordOver 4 = .ok (.aload_n 0, 1) := by decide +kernel
theorem dX5_wordOver_5 : decode cX5_wordOver 5 = .ok (.getfield 92, 3) := by decide +kernel
theorem dX5_wordOver_8 : decode cX5_wordOver 8 = .ok (.getfield 372, 3) := by decide +kernel
theorem dX5_wordOver_11 : decode cX5_wordOver 11 = .ok (.aload_n 0, 1) := by decide +kernel
theorem dX5_wordOver_12 : decode cX5_wordOver 12 = .ok (.getfield 92, 3) := by decide +kernel
theorem dX5_wordOver_15 : decode cX5_wordOver 15 = .ok (.invokevirtual 373, 3) := by decide +kernel
theorem dX5_wordOver_18 : decode cX5_wordOver 18 = .ok (.aload_n 0, 1) := by decide +kernel
theorem dX5_wordOver_19 : decode cX5_wordOver 19 = .ok (.getfield 92, 3) := by decide +kernel
theorem dX5_wordOver_22 : decode cX5_wordOver 22 = .ok (.getfield 360, 3) := by decide +kernel
theorem dX5_wordOver_25 : decode cX5_wordOver 25 = .ok (.invokevirtual 376, 3) := by decide +kernel
theorem dX5_wordOver_28 : decode cX5_wordOver 28 = .ok (.istore_n 1, 1) := by decide +kernel
theorem dX5_wordOver_29 : decode cX5_wordOver 29 = .ok (.aload_n 0, 1) := by decide +kernel
theorem dX5_wordOver_30 : decode cX5_wordOver 30 = .ok (.invokevirtual 322, 3) := by decide +kernel
theorem dX5_wordOver_33 : decode cX5_wordOver 33 = .ok (.aload_n 0, 1) := by decide +kernel
theorem dX5_wordOver_34 : decode cX5_wordOver 34 = .ok (.getfield 92, 3) := by decide +kernel
theorem dX5_wordOver_37 : decode cX5_wordOver 37 = .ok (.dup, 1) := by decide +kernel
theorem dX5_wordOver_38 : decode cX5_wordOver 38 = .ok (.getfield 366, 3) := by decide +kernel
theorem dX5_wordOver_41 : decode cX5_wordOver 41 = .ok (.iconst 1, 1) := by decide +kernel
theorem dX5_wordOver_42 : decode cX5_wordOver 42 = .ok (.isub, 1) := by decide +kernel
theorem dX5_wordOver_43 : decode cX5_wordOver 43 = .ok (.putfield 366, 3) := by decide +kernel
theorem dX5_wordOver_46 : decode cX5_wordOver 46 = .ok (.aload_n 0, 1) := by decide +kernel
theorem dX5_wordOver_47 : decode cX5_wordOver 47 = .ok (.getfield 92, 3) := by decide +kernel
theorem dX5_wordOver_50 : decode cX5_wordOver 50 = .ok (.aload_n 0, 1) := by decide +kernel
theorem dX5_wordOver_51 : decode cX5_wordOver 51 = .ok (.invokevirtual 305, 3) := by decide +kernel
theorem dX5_wordOver_54 : decode cX5_wordOver 54 = .ok (.putfield 296, 3) := by decide +kernel
theorem dX5_wordOver_57 : decode cX5_wordOver 57 = .ok (.aload_n 0, 1) := by decide +kernel
theorem dX5_wordOver_58 : decode cX5_wordOver 58 = .ok (.getfield 92, 3) := by decide +kernel
theorem dX5_wordOver_61 : decode cX5_wordOver 61 = .ok (.aload_n 0, 1) := by decide +kernel
theorem dX5_wordOver_62 : decode cX5_wordOver 62 = .ok (.invokevirtual 305, 3) := by decide +kernel
theorem dX5_wordOver_65 : decode cX5_wordOver 65 = .ok (.putfield 363, 3) := by decide +kernel
theorem dX5_wordOver_68 : decode cX5_wordOver 68 = .ok (.aload_n 0, 1) := by decide +kernel
theorem dX5_wordOver_69 : decode cX5_wordOver 69 = .ok (.getfield 92, 3) := by decide +kernel
theorem dX5_wordOver_72 : decode cX5_wordOver 72 = .ok (.aload_n 0, 1) := by decide +kernel
theorem dX5_wordOver_73 : decode cX5_wordOver 73 = .ok (.invokevirtual 305, 3) := by decide +kernel
theorem dX5_wordOver_76 : decode cX5_wordOver 76 = .ok (.putfield 360, 3) := by decide +kernel
theorem dX5_wordOver_79 : decode cX5_wordOver 79 = .ok (.aload_n 0, 1) := by decide +kernel
theorem dX5_wordOver_80 : decode cX5_wordOver 80 = .ok (.getfield 92, 3) := by decide +kernel
theorem dX5_wordOver_83 : decode cX5_wordOver 83 = .ok (.aload_n 0, 1) := by decide +kernel
theorem dX5_wordOver_84 : decode cX5_wordOver 84 = .ok (.invokevirtual 305, 3) := by decide +kernel
theorem dX5_wordOver_87 : decode cX5_wordOver 87 = .ok (.putfield 262, 3) := by decide +kernel
theorem dX5_wordOver_90 : decode cX5_wordOver 90 = .ok (.aload_n 0, 1) := by decide +kernel
theorem dX5_wordOver_91 : decode cX5_wordOver 91 = .ok (.getfield 92, 3) := by decide +kernel
theorem dX5_wordOver_94 : decode cX5_wordOver 94 = .ok (.aload_n 0, 1) := by decide +kernel
theorem dX5_wordOver_95 : decode cX5_wordOver 95 = .ok (.invokevirtual 305, 3) := by decide +kernel
theorem dX5_wordOver_98 : decode cX5_wordOver 98 = .ok (.iconst 1, 1) := by decide +kernel
theorem dX5_wordOver_99 : decode cX5_wordOver 99 = .ok (.if_icmp .ne 7, 3) := by decide +kernel
theorem dX5_wordOver_107 : decode cX5_wordOver 107 = .ok (.putfield 354, 3) := by decide +kernel
theorem dX5_wordOver_110 : decode cX5_wordOver 110 = .ok (.aload_n 0, 1) := by decide +kernel
theorem dX5_wordOver_111 : decode cX5_wordOver 111 = .ok (.getfield 92, 3) := by decide +kernel
theorem dX5_wordOver_114 : decode cX5_wordOver 114 = .ok (.aload_n 0, 1) := by decide +kernel
theorem dX5_wordOver_115 : decode cX5_wordOver 115 = .ok (.invokevirtual 305, 3) := by decide +kernel
theorem dX5_wordOver_118 : decode cX5_wordOver 118 = .ok (.putfield 293, 3) := by decide +kernel
theorem dX5_wordOver_121 : decode cX5_wordOver 121 = .ok (.aload_n 0, 1) := by decide +kernel
theorem dX5_wordOver_122 : decode cX5_wordOver 122 = .ok (.iload_n 1, 1) := by decide +kernel
theorem dX5_wordOver_123 : decode cX5_wordOver 123 = .ok (.invokevirtual 259, 3) := by decide +kernel
theorem dX5_wordOver_126 : decode cX5_wordOver 126 = .ok (.return_, 1) := by decide +kernel
theorem dX5_wordOver_106 : decode cX5_wordOver 106 = .ok (.iconst 0, 1) := by decide +kernel
theorem dX5_wordOver_102 : decode cX5_wordOver 102 = .ok (.iconst 1, 1) := by decide +kernel
theorem dX5_wordOver_103 : decode cX5_wordOver 103 = .ok (.goto 4, 3) := by decide +kernel
theorem dX11_mayWrap_0 : decode cX11_mayWrap 0 = .ok (.aload_n 0, 1) := by decide +kernel
theorem dX11_mayWrap_1 : decode cX11_mayWrap 1 = .ok (.getfield 35, 3) := by decide +kernel
theorem dX11_mayWrap_4 : decode cX11_mayWrap 4 = .ok (.ifCond .ne 32, 3) := by decide +kernel
theorem dX11_mayWrap_37 : decode cX11_mayWrap 37 = .ok (.ireturn, 1) := by decide +kernel
theorem dX11_mayWrap_36 : decode cX11_mayWrap 36 = .ok (.iconst 0, 1) := by decide +kernel
theorem dX11_mayWrap_7 : decode cX11_mayWrap 7 = .ok (.aload_n 0, 1) := by decide +kernel
theorem dX11_mayWrap_8 : decode cX11_mayWrap 8 = .ok (.getfield 22, 3) := by decide +kernel
theorem dX11_mayWrap_11 : decode cX11_mayWrap 11 = .ok (.ifCond .le 25, 3) := by decide +kernel
theorem dX11_mayWrap_14 : decode cX11_mayWrap 14 = .ok (.aload_n 0, 1) := by decide +kernel
theorem dX11_mayWrap_15 : decode cX11_mayWrap 15 = .ok (.getfield 28, 3) := by decide +kernel
theorem dX11_mayWrap_18 : decode cX11_mayWrap 18 = .ok (.ifCond .ne 18, 3) := by decide +kernel
theorem dX11_mayWrap_21 : decode cX11_mayWrap 21 = .ok (.aload_n 0, 1) := by decide +kernel
theorem dX11_mayWrap_22 : decode cX11_mayWrap 22 = .ok (.getfield 25, 3) := by decide +kernel
theorem dX11_mayWrap_25 : decode cX11_mayWrap 25 = .ok (.aload_n 0, 1) := by decide +kernel
theorem dX11_mayWrap_26 : decode cX11_mayWrap 26 = .ok (.getfield 22, 3) := by decide +kernel
theorem dX11_mayWrap_29 : decode cX11_mayWrap 29 = .ok (.if_icmp .lt 7, 3) := by decide +kernel
theorem dX11_mayWrap_32 : decode cX11_mayWrap 32 = .ok (.iconst 1, 1) := by decide +kernel
theorem dX11_mayWrap_33 : decode cX11_mayWrap 33 = .ok (.goto 4, 3) := by decide +kernel
theorem dX11_isFull_0 : decode cX11_isFull 0 = .ok (.aload_n 0, 1) := by decide +kernel
theorem dX11_isFull_1 : decode cX11_isFull 1 = .ok (.getfield 35, 3) := by decide +kernel
theorem dX11_isFull_4 : decode cX11_isFull 4 = .ok (.ifCond .le 17, 3) := by decide +kernel
theorem dX11_isFull_22 : decode cX11_isFull 22 = .ok (.ireturn, 1) := by decide +kernel
theorem dX11_isFull_21 : decode cX11_isFull 21 = .ok (.iconst 0, 1) := by decide +kernel
theorem dX11_isFull_7 : decode cX11_isFull 7 = .ok (.aload_n 0, 1) := by decide +kernel
theorem dX11_isFull_8 : decode cX11_isFull 8 = .ok (.getfield 42, 3) := by decide +kernel
theorem dX11_isFull_11 : decode cX11_isFull 11 = .ok (.sipush 1000, 3) := by decide +kernel
theorem dX11_isFull_14 : decode cX11_isFull 14 = .ok (.if_icmp .lt 7, 3) := by decide +kernel
theorem dX11_isFull_17 : decode cX11_isFull 17 = .ok (.iconst 1, 1) := by decide +kernel
theorem dX11_isFull_18 : decode cX11_isFull 18 = .ok (.goto 4, 3) := by decide +kernel
theorem dX11_raw_0 : decode cX11_raw 0 = .ok (.aload_n 0, 1) := by decide +kernel
theorem dX11_raw_1 : decode cX11_raw 1 = .ok (.dup, 1) := by decide +kernel
theorem dX11_raw_2 : decode cX11_raw 2 = .ok (.getfield 32, 3) := by decide +kernel
theorem dX11_raw_5 : decode cX11_raw 5 = .ok (.iconst 1, 1) := by decide +kernel
theorem dX11_raw_6 : decode cX11_raw 6 = .ok (.iadd, 1) := by decide +kernel
theorem dX11_raw_7 : decode cX11_raw 7 = .ok (.putfield 32, 3) := by decide +kernel
theorem dX11_raw_10 : decode cX11_raw 10 = .ok (.aload_n 0, 1) := by decide +kernel
theorem dX11_raw_11 : decode cX11_raw 11 = .ok (.getfield 35, 3) := by decide +kernel
theorem dX11_raw_14 : decode cX11_raw 14 = .ok (.ifCond .le 61, 3) := by decide +kernel
theorem dX11_raw_75 : decode cX11_raw 75 = .ok (.aload_n 0, 1) := by decide +kernel
theorem dX11_raw_76 : decode cX11_raw 76 = .ok (.getfield 18, 3) := by decide +kernel
theorem dX11_raw_79 : decode cX11_raw 79 = .ok (.ifCond .lt 15, 3) := by decide +kernel
theorem dX11_raw_94 : decode cX11_raw 94 = .ok (.new 91, 3) := by decide +kernel
theorem dX11_raw_97 : decode cX11_raw 97 = .ok (.dup, 1) := by decide +kernel
theorem dX11_raw_98 : decode cX11_raw 98 = .ok (.invokespecial 93, 3) := by decide +kernel
theorem dX11_raw_101 : decode cX11_raw 101 = .ok (.athrow, 1) := by decide +kernel
theorem dX11_raw_82 : decode cX11_raw 82 = .ok (.aload_n 0, 1) := by decide +kernel
theorem dX11_raw_83 : decode cX11_raw 83 = .ok (.getfield 18, 3) := by decide +kernel
theorem dX11_raw_86 : decode cX11_raw 86 = .ok (.aload_n 0, 1) := by decide +kernel
theorem dX11_raw_87 : decode cX11_raw 87 = .ok (.getfield 9, 3) := by decide +kernel
theorem dX11_raw_90 : decode cX11_raw 90 = .ok (.arraylength, 1) := by decide +kernel
theorem dX11_raw_91 : decode cX11_raw 91 = .ok (.if_icmp .lt 11, 3) := by decide +kernel
theorem dX11_raw_102 : decode cX11_raw 102 = .ok (.aload_n 0, 1) := by decide +kernel
theorem dX11_raw_103 : decode cX11_raw 103 = .ok (.getfield 9, 3) := by decide +kernel
theorem dX11_raw_106 : decode cX11_raw 106 = .ok (.aload_n 0, 1) := by decide +kernel
theorem dX11_raw_107 : decode cX11_raw 107 = .ok (.getfield 18, 3) := by decide +kernel
theorem dX11_raw_110 : decode cX11_raw 110 = .ok (.iload_n 1, 1) := by decide +kernel
theorem dX11_raw_111 : decode cX11_raw 111 = .ok (.i2b, 1) := by decide +kernel
theorem dX11_raw_112 : decode cX11_raw 112 = .ok (.bastore, 1) := by decide +kernel
theorem dX11_raw_113 : decode cX11_raw 113 = .ok (.iconst 3, 1) := by decide +kernel
theorem dX11_raw_114 : decode cX11_raw 114 = .ok (.aload_n 0, 1) := by decide +kernel
theorem dX11_raw_115 : decode cX11_raw 115 = .ok (.getfield 18, 3) := by decide +kernel
theorem dX11_raw_118 : decode cX11_raw 118 = .ok (.imul, 1) := by decide +kernel
theorem dX11_raw_119 : decode cX11_raw 119 = .ok (.istore_n 2, 1) := by decide +kernel
theorem dX11_raw_120 : decode cX11_raw 120 = .ok (.iconst 0, 1) := by decide +kernel
theorem dX11_raw_121 : decode cX11_raw 121 = .ok (.istore_n 3, 1) := by decide +kernel
theorem dX11_raw_122 : decode cX11_raw 122 = .ok (.iload_n 3, 1) := by decide +kernel
theorem dX11_raw_123 : decode cX11_raw 123 = .ok (.iconst 3, 1) := by decide +kernel
theorem dX11_raw_124 : decode cX11_raw 124 = .ok (.if_icmp .ge 49, 3) := by decide +kernel
theorem dX11_raw_173 : decode cX11_raw 173 = .ok (.aload_n 0, 1) := by decide +kernel
theorem dX11_raw_174 : decode cX11_raw 174 = .ok (.dup, 1) := by decide +kernel
theorem dX11_raw_175 : decode cX11_raw 175 = .ok (.getfield 18, 3) := by decide +kernel
theorem dX11_raw_178 : decode cX11_raw 178 = .ok (.iconst 1, 1) := by decide +kernel
theorem dX11_raw_179 : decode cX11_raw 179 = .ok (.iadd, 1) := by decide +kernel
theorem dX11_raw_180 : decode cX11_raw 180 = .ok (.putfield 18, 3) := by decide +kernel
theorem dX11_raw_183 : decode cX11_raw 183 = .ok (.return_, 1) := by decide +kernel
theorem dX11_raw_127 : decode cX11_raw 127 = .ok (.iload_n 2, 1) := by decide +kernel
theorem dX11_raw_128 : decode cX11_raw 128 = .ok (.iload_n 3, 1) := by decide +kernel
theorem dX11_raw_129 : decode cX11_raw 129 = .ok (.iadd, 1) := by decide +kernel
theorem dX11_raw_130 : decode cX11_raw 130 = .ok (.aload_n 0, 1) := by decide +kernel
theorem dX11_raw_131 : decode cX11_raw 131 = .ok (.getfield 14, 3) := by decide +kernel
theorem dX11_raw_134 : decode cX11_raw 134 = .ok (.arraylength, 1) := by decide +kernel
theorem dX11_raw_135 : decode cX11_raw 135 = .ok (.if_icmp .ge 38, 3) := by decide +kernel
theorem dX11_raw_138 : decode cX11_raw 138 = .ok (.iload_n 3, 1) := by decide +kernel
theorem dX11_raw_139 : decode cX11_raw 139 = .ok (.aload_n 0, 1) := by decide +kernel
theorem dX11_raw_140 : decode cX11_raw 140 = .ok (.getfield 57, 3) := by decide +kernel
theorem dX11_raw_143 : decode cX11_raw 143 = .ok (.getfield 94, 3) := by decide +kernel
theorem dX11_raw_146 : decode cX11_raw 146 = .ok (.arraylength, 1) := by decide +kernel
theorem dX11_raw_147 : decode cX11_raw 147 = .ok (.if_icmp .ge 26, 3) := by decide +kernel
theorem dX11_raw_150 : decode cX11_raw 150 = .ok (.aload_n 0, 1) := by decide +kernel
theorem dX11_raw_151 : decode cX11_raw 151 = .ok (.getfield 14, 3) := by decide +kernel
theorem dX11_raw_154 : decode cX11_raw 154 = .ok (.iload_n 2, 1) := by decide +kernel
theorem dX11_raw_155 : decode cX11_raw 155 = .ok (.iload_n 3, 1) := by decide +kernel
theorem dX11_raw_156 : decode cX11_raw 156 = .ok (.iadd, 1) := by decide +kernel
theorem dX11_raw_157 : decode cX11_raw 157 = .ok (.aload_n 0, 1) := by decide +kernel
theorem dX11_raw_158 : decode cX11_raw 158 = .ok (.getfield 57, 3) := by decide +kernel
theorem dX11_raw_161 : decode cX11_raw 161 = .ok (.getfield 94, 3) := by decide +kernel
theorem dX11_raw_164 : decode cX11_raw 164 = .ok (.iload_n 3, 1) := by decide +kernel
theorem dX11_raw_165 : decode cX11_raw 165 = .ok (.iaload, 1) := by decide +kernel
theorem dX11_raw_166 : decode cX11_raw 166 = .ok (.iastore, 1) := by decide +kernel
theorem dX11_raw_167 : decode cX11_raw 167 = .ok (.iinc 3 1, 3) := by decide +kernel
theorem dX11_raw_170 : decode cX11_raw 170 = .ok (.goto (-48), 3) := by decide +kernel
theorem dX11_raw_17 : decode cX11_raw 17 = .ok (.aload_n 0, 1) := by decide +kernel
theorem dX11_raw_18 : decode cX11_raw 18 = .ok (.getfield 35, 3) := by decide +kernel
theorem dX11_raw_21 : decode cX11_raw 21 = .ok (.iconst 1, 1) := by decide +kernel
theorem dX11_raw_22 : decode cX11_raw 22 = .ok (.isub, 1) := by decide +kernel
theorem dX11_raw_23 : decode cX11_raw 23 = .ok (.sipush 1000, 3) := by decide +kernel
theorem dX11_raw_26 : decode cX11_raw 26 = .ok (.imul, 1) := by decide +kernel
theorem dX11_raw_27 : decode cX11_raw 27 = .ok (.aload_n 0, 1) := by decide +kernel
theorem dX11_raw_28 : decode cX11_raw 28 = .ok (.getfield 42, 3) := by decide +kernel
theorem dX11_raw_31 : decode cX11_raw 31 = .ok (.iadd, 1) := by decide +kernel
theorem dX11_raw_32 : decode cX11_raw 32 = .ok (.istore_n 2, 1) := by decide +kernel
theorem dX11_raw_33 : decode cX11_raw 33 = .ok (.aload_n 0, 1) := by decide +kernel
theorem dX11_raw_34 : decode cX11_raw 34 = .ok (.getfield 42, 3) := by decide +kernel
theorem dX11_raw_37 : decode cX11_raw 37 = .ok (.sipush 1000, 3) := by decide +kernel
theorem dX11_raw_40 : decode cX11_raw 40 = .ok (.if_icmp .ge 34, 3) := by decide +kernel
theorem dX11_raw_74 : decode cX11_raw 74 = .ok (.return_, 1) := by decide +kernel
theorem dX11_raw_43 : decode cX11_raw 43 = .ok (.iload_n 2, 1) := by decide +kernel
theorem dX11_raw_44 : decode cX11_raw 44 = .ok (.ifCond .lt 30, 3) := by decide +kernel
theorem dX11_raw_47 : decode cX11_raw 47 = .ok (.iload_n 2, 1) := by decide +kernel
theorem dX11_raw_48 : decode cX11_raw 48 = .ok (.aload_n 0, 1) := by decide +kernel
theorem dX11_raw_49 : decode cX11_raw 49 = .ok (.getfield 39, 3) := by decide +kernel
theorem dX11_raw_52 : decode cX11_raw 52 = .ok (.arraylength, 1) := by decide +kernel
theorem dX11_raw_53 : decode cX11_raw 53 = .ok (.if_icmp .ge 21, 3) := by decide +kernel
theorem dX11_raw_56 : decode cX11_raw 56 = .ok (.aload_n 0, 1) := by decide +kernel
theorem dX11_raw_57 : decode cX11_raw 57 = .ok (.getfield 39, 3) := by decide +kernel
theorem dX11_raw_60 : decode cX11_raw 60 = .ok (.iload_n 2, 1) := by decide +kernel
theorem dX11_raw_61 : decode cX11_raw 61 = .ok (.iload_n 1, 1) := by decide +kernel
theorem dX11_raw_62 : decode cX11_raw 62 = .ok (.i2b, 1) := by decide +kernel
theorem dX11_raw_63 : decode cX11_raw 63 = .ok (.bastore, 1) := by decide +kernel
theorem dX11_raw_64 : decode cX11_raw 64 = .ok (.aload_n 0, 1) := by decide +kernel
theorem dX11_raw_65 : decode cX11_raw 65 = .ok (.dup, 1) := by decide +kernel
theorem dX11_raw_66 : decode cX11_raw 66 = .ok (.getfield 42, 3) := by decide +kernel
theorem dX11_raw_69 : decode cX11_raw 69 = .ok (.iconst 1, 1) := by decide +kernel
theorem dX11_raw_70 : decode cX11_raw 70 = .ok (.iadd, 1) := by decide +kernel
theorem dX11_raw_71 : decode cX11_raw 71 = .ok (.putfield 42, 3) := by decide +kernel
theorem dX11_margin_0 : decode cX11_margin 0 = .ok (.aload_n 0, 1) := by decide +kernel
theorem dX11_margin_1 : decode cX11_margin 1 = .ok (.getfield 48, 3) := by decide +kernel
theorem dX11_margin_4 : decode cX11_margin 4 = .ok (.istore_n 1, 1) := by decide +kernel
theorem dX11_margin_5 : decode cX11_margin 5 = .ok (.iload_n 1, 1) := by decide +kernel
theorem dX11_margin_6 : decode cX11_margin 6 = .ok (.aload_n 0, 1) := by decide +kernel
theorem dX11_margin_7 : decode cX11_margin 7 = .ok (.getfield 51, 3) := by decide +kernel
theorem dX11_margin_10 : decode cX11_margin 10 = .ok (.if_icmp .ge 95, 3) := by decide +kernel
theorem dX11_margin_105 : decode cX11_margin 105 = .ok (.aload_n 0, 1) := by decide +kernel
theorem dX11_margin_106 : decode cX11_margin 106 = .ok (.getfield 25, 3) := by decide +kernel
theorem dX11_margin_109 : decode cX11_margin 109 = .ok (.aload_n 0, 1) := by decide +kernel
theorem dX11_margin_110 : decode cX11_margin 110 = .ok (.getfield 54, 3) := by decide +kernel
theorem dX11_margin_113 : decode cX11_margin 113 = .ok (.if_icmp .ge 22, 3) := by decide +kernel
theorem dX11_margin_135 : decode cX11_margin 135 = .ok (.return_, 1) := by decide +kernel
theorem dX11_margin_116 : decode cX11_margin 116 = .ok (.aload_n 0, 1) := by decide +kernel
theorem dX11_margin_117 : decode cX11_margin 117 = .ok (.bipush 32, 2) := by decide +kernel
theorem dX11_margin_119 : decode cX11_margin 119 = .ok (.invokevirtual 80, 3) := by decide +kernel
theorem dX11_margin_122 : decode cX11_margin 122 = .ok (.aload_n 0, 1) := by decide +kernel
theorem dX11_margin_123 : decode cX11_margin 123 = .ok (.dup, 1) := by decide +kernel
theorem dX11_margin_124 : decode cX11_margin 124 = .ok (.getfield 25, 3) := by decide +kernel
theorem dX11_margin_127 : decode cX11_margin 127 = .ok (.iconst 1, 1) := by decide +kernel
theorem dX11_margin_128 : decode cX11_margin 128 = .ok (.iadd, 1) := by decide +kernel
theorem dX11_margin_129 : decode cX11_margin 129 = .ok (.putfield 25, 3) := by decide +kernel
theorem dX11_margin_132 : decode cX11_margin 132 = .ok (.goto (-27), 3) := by decide +kernel
theorem dX11_margin_13 : decode cX11_margin 13 = .ok (.aload_n 0, 1) := by decide +kernel
theorem dX11_margin_14 : decode cX11_margin 14 = .ok (.getfield 45, 3) := by decide +kernel
theorem dX11_margin_17 : decode cX11_margin 17 = .ok (.iconst 2, 1) := by decide +kernel
theorem dX11_margin_18 : decode cX11_margin 18 = .ok (.iload_n 1, 1) := by decide +kernel
theorem dX11_margin_19 : decode cX11_margin 19 = .ok (.imul, 1) := by decide +kernel
theorem dX11_margin_20 : decode cX11_margin 20 = .ok (.invokestatic 87, 3) := by decide +kernel
theorem dX11_margin_23 : decode cX11_margin 23 = .ok (.istore_n 2, 1) := by decide +kernel
theorem dX11_margin_24 : decode cX11_margin 24 = .ok (.aload_n 0, 1) := by decide +kernel
theorem dX11_margin_25 : decode cX11_margin 25 = .ok (.getfield 45, 3) := by decide +kernel
theorem dX11_margin_28 : decode cX11_margin 28 = .ok (.iconst 2, 1) := by decide +kernel
theorem dX11_margin_29 : decode cX11_margin 29 = .ok (.iload_n 1, 1) := by decide +kernel
theorem dX11_margin_30 : decode cX11_margin 30 = .ok (.imul, 1) := by decide +kernel
theorem dX11_margin_31 : decode cX11_margin 31 = .ok (.iconst 1, 1) := by decide +kernel
theorem dX11_margin_32 : decode cX11_margin 32 = .ok (.iadd, 1) := by decide +kernel
theorem dX11_margin_33 : decode cX11_margin 33 = .ok (.invokestatic 87, 3) := by decide +kernel
theorem dX11_margin_36 : decode cX11_margin 36 = .ok (.istore_n 3, 1) := by decide +kernel
theorem dX11_margin_37 : decode cX11_margin 37 = .ok (.iconst 0, 1) := by decide +kernel
theorem dX11_margin_38 : decode cX11_margin 38 = .ok (.istore 4, 2) := by decide +kernel
theorem dX11_margin_40 : decode cX11_margin 40 = .ok (.iload 4, 2) := by decide +kernel
theorem dX11_margin_42 : decode cX11_margin 42 = .ok (.iload_n 3, 1) := by decide +kernel
theorem dX11_margin_43 : decode cX11_margin 43 = .ok (.if_icmp .ge 56, 3) := by decide +kernel
theorem dX11_margin_99 : decode cX11_margin 99 = .ok (.iinc 1 1, 3) := by decide +kernel
theorem dX11_margin_102 : decode cX11_margin 102 = .ok (.goto (-97), 3) := by decide +kernel
theorem dX11_margin_46 : decode cX11_margin 46 = .ok (.aload_n 0, 1) := by decide +kernel
theorem dX11_margin_47 : decode cX11_margin 47 = .ok (.iload_n 2, 1) := by decide +kernel
theorem dX11_margin_48 : decode cX11_margin 48 = .ok (.iload 4, 2) := by decide +kernel
theorem dX11_margin_50 : decode cX11_margin 50 = .ok (.iadd, 1) := by decide +kernel
theorem dX11_margin_51 : decode cX11_margin 51 = .ok (.ifCond .lt 27, 3) := by decide +kernel
theorem dX11_margin_80 : decode cX11_margin 80 = .ok (.invokevirtual 80, 3) := by decide +kernel
theorem dX11_margin_83 : decode cX11_margin 83 = .ok (.aload_n 0, 1) := by decide +kernel
theorem dX11_margin_84 : decode cX11_margin 84 = .ok (.dup, 1) := by decide +kernel
theorem dX11_margin_85 : decode cX11_margin 85 = .ok (.getfield 25, 3) := by decide +kernel
theorem dX11_margin_88 : decode cX11_margin 88 = .ok (.iconst 1, 1) := by decide +kernel
theorem dX11_margin_89 : decode cX11_margin 89 = .ok (.iadd, 1) := by decide +kernel
theorem dX11_margin_90 : decode cX11_margin 90 = .ok (.putfield 25, 3) := by decide +kernel
theorem dX11_margin_93 : decode cX11_margin 93 = .ok (.iinc 4 1, 3) := by decide +kernel
theorem dX11_margin_96 : decode cX11_margin 96 = .ok (.goto (-56), 3) := by decide +kernel
theorem dX11_margin_78 : decode cX11_margin 78 = .ok (.bipush 32, 2) := by decide +kernel
theorem dX11_margin_54 : decode cX11_margin 54 = .ok (.iload_n 2, 1) := by decide +kernel
theorem dX11_margin_55 : decode cX11_margin 55 = .ok (.iload 4, 2) := by decide +kernel
theorem dX11_margin_57 : decode cX11_margin 57 = .ok (.iadd, 1) := by decide +kernel
theorem dX11_margin_58 : decode cX11_margin 58 = .ok (.aload_n 0, 1) := by decide +kernel
theorem dX11_margin_59 : decode cX11_margin 59 = .ok (.getfield 66, 3) := by decide +kernel
theorem dX11_margin_62 : decode cX11_margin 62 = .ok (.arraylength, 1) := by decide +kernel
theorem dX11_margin_63 : decode cX11_margin 63 = .ok (.if_icmp .ge 15, 3) := by decide +kernel
theorem dX11_margin_66 : decode cX11_margin 66 = .ok (.aload_n 0, 1) := by decide +kernel
theorem dX11_margin_67 : decode cX11_margin 67 = .ok (.getfield 66, 3) := by decide +kernel
theorem dX11_margin_70 : decode cX11_margin 70 = .ok (.iload_n 2, 1) := by decide +kernel
theorem dX11_margin_71 : decode cX11_margin 71 = .ok (.iload 4, 2) := by decide +kernel
theorem dX11_margin_73 : decode cX11_margin 73 = .ok (.iadd, 1) := by decide +kernel
theorem dX11_margin_74 : decode cX11_margin 74 = .ok (.baload, 1) := by decide +kernel
theorem dX11_margin_75 : decode cX11_margin 75 = .ok (.goto 5, 3) := by decide +kernel
theorem dX11_put_0 : decode cX11_put 0 = .ok (.aload_n 0, 1) := by decide +kernel
theorem dX11_put_1 : decode cX11_put 1 = .ok (.invokevirtual 76, 3) := by decide +kernel
theorem dX11_put_4 : decode cX11_put 4 = .ok (.ifCond .eq 4, 3) := by decide +kernel
theorem dX11_put_8 : decode cX11_put 8 = .ok (.iload_n 1, 1) := by decide +kernel
theorem dX11_put_9 : decode cX11_put 9 = .ok (.bipush 10, 2) := by decide +kernel
theorem dX11_put_11 : decode cX11_put 11 = .ok (.if_icmp .ne 19, 3) := by decide +kernel
theorem dX11_put_30 : decode cX11_put 30 = .ok (.aload_n 0, 1) := by decide +kernel
theorem dX11_put_31 : decode cX11_put 31 = .ok (.getfield 28, 3) := by decide +kernel
theorem dX11_put_34 : decode cX11_put 34 = .ok (.ifCond .eq 12, 3) := by decide +kernel
theorem dX11_put_46 : decode cX11_put 46 = .ok (.aload_n 0, 1) := by decide +kernel
theorem dX11_put_47 : decode cX11_put 47 = .ok (.iload_n 1, 1) := by decide +kernel
theorem dX11_put_48 : decode cX11_put 48 = .ok (.invokevirtual 80, 3) := by decide +kernel
theorem dX11_put_51 : decode cX11_put 51 = .ok (.aload_n 0, 1) := by decide +kernel
theorem dX11_put_52 : decode cX11_put 52 = .ok (.dup, 1) := by decide +kernel
theorem dX11_put_53 : decode cX11_put 53 = .ok (.getfield 25, 3) := by decide +kernel
theorem dX11_put_56 : decode cX11_put 56 = .ok (.iconst 1, 1) := by decide +kernel
theorem dX11_put_57 : decode cX11_put 57 = .ok (.iadd, 1) := by decide +kernel
theorem dX11_put_58 : decode cX11_put 58 = .ok (.putfield 25, 3) := by decide +kernel
theorem dX11_put_61 : decode cX11_put 61 = .ok (.return_, 1) := by decide +kernel
theorem dX11_put_37 : decode cX11_put 37 = .ok (.aload_n 0, 1) := by decide +kernel
theorem dX11_put_38 : decode cX11_put 38 = .ok (.iconst 0, 1) := by decide +kernel
theorem dX11_put_39 : decode cX11_put 39 = .ok (.putfield 28, 3) := by decide +kernel
theorem dX11_put_42 : decode cX11_put 42 = .ok (.aload_n 0, 1) := by decide +kernel
theorem dX11_put_43 : decode cX11_put 43 = .ok (.invokevirtual 84, 3) := by decide +kernel
theorem dX11_put_14 : decode cX11_put 14 = .ok (.aload_n 0, 1) := by decide +kernel
theorem dX11_put_15 : decode cX11_put 15 = .ok (.iload_n 1, 1) := by decide +kernel
theorem dX11_put_16 : decode cX11_put 16 = .ok (.invokevirtual 80, 3) := by decide +kernel
theorem dX11_put_19 : decode cX11_put 19 = .ok (.aload_n 0, 1) := by decide +kernel
theorem dX11_put_20 : decode cX11_put 20 = .ok (.iconst 0, 1) := by decide +kernel
theorem dX11_put_21 : decode cX11_put 21 = .ok (.putfield 25, 3) := by decide +kernel
theorem dX11_put_24 : decode cX11_put 24 = .ok (.aload_n 0, 1) := by decide +kernel
theorem dX11_put_25 : decode cX11_put 25 = .ok (.iconst 1, 1) := by decide +kernel
theorem dX11_put_26 : decode cX11_put 26 = .ok (.putfield 28, 3) := by decide +kernel
theorem dX11_put_29 : decode cX11_put 29 = .ok (.return_, 1) := by decide +kernel
theorem dX11_put_7 : decode cX11_put 7 = .ok (.return_, 1) := by decide +kernel
theorem dX5_wrapLine_0 : decode cX5_wrapLine 0 = .ok (.aload_n 0, 1) := by decide +kernel
theorem dX5_wrapLine_1 : decode cX5_wrapLine 1 = .ok (.getfield 57, 3) := by decide +kernel
theorem dX5_wrapLine_4 : decode cX5_wrapLine 4 = .ok (.iconst (-1), 1) := by decide +kernel
theorem dX5_wrapLine_5 : decode cX5_wrapLine 5 = .ok (.if_icmp .eq 13, 3) := by decide +kernel
theorem dX5_wrapLine_18 : decode cX5_wrapLine 18 = .ok (.return_, 1) := by decide +kernel
theorem dX5_wrapLine_8 : decode cX5_wrapLine 8 = .ok (.aload_n 0, 1) := by decide +kernel
theorem dX5_wrapLine_9 : decode cX5_wrapLine 9 = .ok (.getfield 92, 3) := by decide +kernel
theorem dX5_wrapLine_12 : decode cX5_wrapLine 12 = .ok (.invokevirtual 346, 3) := by decide +kernel
theorem dX5_wrapLine_15 : decode cX5_wrapLine 15 = .ok (.ifCond .ne 4, 3) := by decide +kernel
theorem dX5_wrapLine_19 : decode cX5_wrapLine 19 = .ok (.aload_n 0, 1) := by decide +kernel
theorem dX5_wrapLine_20 : decode cX5_wrapLine 20 = .ok (.getfield 57, 3) := by decide +kernel
theorem dX5_wrapLine_23 : decode cX5_wrapLine 23 = .ok (.ldc_w 350, 3) := by decide +kernel
theorem dX5_wrapLine_26 : decode cX5_wrapLine 26 = .ok (.iand, 1) := by decide +kernel
theorem dX5_wrapLine_27 : decode cX5_wrapLine 27 = .ok (.bipush 10, 2) := by decide +kernel
theorem dX5_wrapLine_29 : decode cX5_wrapLine 29 = .ok (.iushr, 1) := by decide +kernel
theorem dX5_wrapLine_30 : decode cX5_wrapLine 30 = .ok (.istore_n 1, 1) := by decide +kernel
theorem dX5_wrapLine_31 : decode cX5_wrapLine 31 = .ok (.aload_n 0, 1) := by decide +kernel
theorem dX5_wrapLine_32 : decode cX5_wrapLine 32 = .ok (.getfield 57, 3) := by decide +kernel
theorem dX5_wrapLine_35 : decode cX5_wrapLine 35 = .ok (.sipush 1023, 3) := by decide +kernel
theorem dX5_wrapLine_38 : decode cX5_wrapLine 38 = .ok (.iand, 1) := by decide +kernel
theorem dX5_wrapLine_39 : decode cX5_wrapLine 39 = .ok (.istore_n 2, 1) := by decide +kernel
theorem dX5_wrapLine_40 : decode cX5_wrapLine 40 = .ok (.iconst 0, 1) := by decide +kernel
theorem dX5_wrapLine_41 : decode cX5_wrapLine 41 = .ok (.istore_n 3, 1) := by decide +kernel
theorem dX5_wrapLine_42 : decode cX5_wrapLine 42 = .ok (.iload_n 3, 1) := by decide +kernel
theorem dX5_wrapLine_43 : decode cX5_wrapLine 43 = .ok (.iload_n 2, 1) := by decide +kernel
theorem dX5_wrapLine_44 : decode cX5_wrapLine 44 = .ok (.if_icmp .ge 55, 3) := by decide +kernel
theorem dX5_wrapLine_99 : decode cX5_wrapLine 99 = .ok (.return_, 1) := by decide +kernel
theorem dX5_wrapLine_47 : decode cX5_wrapLine 47 = .ok (.aload_n 0, 1) := by decide +kernel
theorem dX5_wrapLine_48 : decode cX5_wrapLine 48 = .ok (.getfield 83, 3) := by decide +kernel
theorem dX5_wrapLine_51 : decode cX5_wrapLine 51 = .ok (.getfield 351, 3) := by decide +kernel
theorem dX5_wrapLine_54 : decode cX5_wrapLine 54 = .ok (.iload_n 1, 1) := by decide +kernel
theorem dX5_wrapLine_55 : decode cX5_wrapLine 55 = .ok (.iload_n 3, 1) := by decide +kernel
theorem dX5_wrapLine_56 : decode cX5_wrapLine 56 = .ok (.iadd, 1) := by decide +kernel
theorem dX5_wrapLine_57 : decode cX5_wrapLine 57 = .ok (.invokestatic 277, 3) := by decide +kernel
theorem dX5_wrapLine_60 : decode cX5_wrapLine 60 = .ok (.istore 4, 2) := by decide +kernel
theorem dX5_wrapLine_62 : decode cX5_wrapLine 62 = .ok (.aload_n 0, 1) := by decide +kernel
theorem dX5_wrapLine_63 : decode cX5_wrapLine 63 = .ok (.getfield 92, 3) := by decide +kernel
theorem dX5_wrapLine_66 : decode cX5_wrapLine 66 = .ok (.iload 4, 2) := by decide +kernel
theorem dX5_wrapLine_68 : decode cX5_wrapLine 68 = .ok (.invokevirtual 281, 3) := by decide +kernel
theorem dX5_wrapLine_71 : decode cX5_wrapLine 71 = .ok (.iload 4, 2) := by decide +kernel
theorem dX5_wrapLine_73 : decode cX5_wrapLine 73 = .ok (.bipush 10, 2) := by decide +kernel
theorem dX5_wrapLine_75 : decode cX5_wrapLine 75 = .ok (.if_icmp .ne 18, 3) := by decide +kernel
theorem dX5_wrapLine_93 : decode cX5_wrapLine 93 = .ok (.iinc 3 1, 3) := by decide +kernel
theorem dX5_wrapLine_96 : decode cX5_wrapLine 96 = .ok (.goto (-54), 3) := by decide +kernel
theorem dX5_wrapLine_78 : decode cX5_wrapLine 78 = .ok (.aload_n 0, 1) := by decide +kernel
theorem dX5_wrapLine_79 : decode cX5_wrapLine 79 = .ok (.getfield 92, 3) := by decide +kernel
theorem dX5_wrapLine_82 : decode cX5_wrapLine 82 = .ok (.iconst 0, 1) := by decide +kernel
theorem dX5_wrapLine_83 : decode cX5_wrapLine 83 = .ok (.putfield 354, 3) := by decide +kernel
theorem dX5_wrapLine_86 : decode cX5_wrapLine 86 = .ok (.aload_n 0, 1) := by decide +kernel
theorem dX5_wrapLine_87 : decode cX5_wrapLine 87 = .ok (.getfield 92, 3) := by decide +kernel
theorem dX5_wrapLine_90 : decode cX5_wrapLine 90 = .ok (.invokevirtual 357, 3) := by decide +kernel
theorem atg_X5_236 : ∀ w ∈ (vx_at0 "TemplateHouse$Maker" 236 "java/lang/IllegalStateException" exn).filter goodWord, w ∈ zT := fun w hw => List.mem_filter.mpr ⟨(show ∀ w ∈ (vx_at0 "TemplateHouse$Maker" 236 "java/lang/IllegalStateException" exn).filter goodWord, w ∈ lw_tbl by decide +kernel) w hw, (List.mem_filter.mp hw).2⟩
theorem atb_X5_236 : ∀ w ∈ (vx_at0 "TemplateHouse$Maker" 236 "java/lang/IllegalStateException" exn).filter (fun w => !goodWord w), w ∈ zNest := by decide +kernel
theorem ato_X5_236 : ∀ w ∈ vx_at0 "TemplateHouse$Maker" 236 "java/lang/IllegalStateException" exn, vx_ot w = true := by decide +kernel
theorem atg_X11_93 : ∀ w ∈ (vx_at0 "TemplateHouse$Writer" 93 "java/lang/IllegalStateException" exn).filter goodWord, w ∈ zT := fun w hw => List.mem_filter.mpr ⟨(show ∀ w ∈ (vx_at0 "TemplateHouse$Writer" 93 "java/lang/IllegalStateException" exn).filter goodWord, w ∈ lw_tbl by decide +kernel) w hw, (List.mem_filter.mp hw).2⟩
theorem atb_X11_93 : ∀ w ∈ (vx_at0 "TemplateHouse$Writer" 93 "java/lang/IllegalStateException" exn).filter (fun w => !goodWord w), w ∈ zNest := by decide +kernel
theorem ato_X11_93 : ∀ w ∈ vx_at0 "TemplateHouse$Writer" 93 "java/lang/IllegalStateException" exn, vx_ot w = true := by decide +kernel
set_option maxRecDepth 20000 in
theorem kX3_named (l : Launch) (G : zG) (T : tT) (κ : Nat → List Nat) (hst : l.stackTraces = false) (hE : tE G T κ) {a0 : Nat} (h0 : a0 ∈ κ 3) {x1 : Int32} {x2 : Int32} : tMi l G T yX3_named cX3_named 6 .int [] 2 49 0 0 [.ref a0, .int x1, .int x2] uT (uPi 0x0) := by
  refine tMi.intro hst rfl (Nat.le_of_ble_eq_true rfl) ?_
  intro w0 hw0 _ X hC hR hO hX
  refine z_iload_n hC (pc := 0) 1 dX3_named_0 rfl rfl ?_
  refine z_istore_n hC (pc := 1) (lv' := [(3, .int x1), (0, .ref a0), (1, .int x1), (2, .int x2)]) dX3_named_1 rfl (by decide) rfl ?_
  refine z_iconst hC (pc := 2) (v := 0) dX3_named_2 (by decide) ?_
  refine z_istore hC (pc := 3) (lv' := [(4, .int 0), (3, .int x1), (0, .ref a0), (1, .int x1), (2, .int x2)]) dX3_named_3 (by decide) rfl ?_
  have j5 : ∀ (d5 : Nat), ∀ (w5 : va_W), tW T w5 → tKeep 0x0 w0 w5 → ∀ (x6 : Int32), ∀ (x7 : Int32), ¬ x7 < 0 → (2 ^ 31 - (x7 : Int32).toInt).toNat ≤ d5 → zS X G 6 w5 [(0, .ref a0), (2, .int x2), (3, .int x6), (4, .int x7)] 0 0 5 [] := by
    intro d5
    induction d5 with
    | zero => intro w5 hw5 kw5 x6 x7 v8 hd5; exact (t_zero hd5).elim
    | succ d5 ih5 =>
      intro w5 hw5 kw5 x6 x7 v8 hd5
      refine z_iload hC (pc := 5) 3 dX3_named_5 rfl ?_
      refine z_sipush hC (pc := 7) (v := 2000) dX3_named_7 (by decide) ?_
      have j50 : zS X G 6 w5 [(0, .ref a0), (2, .int x2)] 0 0 50 [] := by
        refine z_aload_n hC (pc := 50) 0 dX3_named_50 rfl rfl ?_
        refine u_get hC hw5 (pc := 51) zf3 2 (hE.o3 h0) rfl dX3_named_51 zw505 (kk := fun va9 ta9 fa9 => ?_)
        obtain ⟨a9, ma9, rfl⟩ := ta9
        refine u_get hC hw5 (pc := 54) zf2 15 (hE.o2 ma9) rfl dX3_named_54 zw278 (kk := fun va10 ta10 fa10 => ?_)
        obtain ⟨a10, ma10, rfl⟩ := ta10
        refine z_iload_n hC (pc := 57) 1 dX3_named_57 rfl rfl ?_
        refine t_callSNi hC hw5 (pc := 58) (As := [.ref a10, .int x2]) (kX12_get l G T κ hst hE ma10) trivial dmX12_get dX3_named_58 zw1850 rfl rfl (Nat.le_of_ble_eq_true rfl) (Nat.le_of_ble_eq_true rfl) (Nat.le_of_ble_eq_true rfl) (Nat.le_of_ble_eq_true rfl) (Nat.le_of_ble_eq_true rfl) (fun _ _ _ h => nomatch h) (fun x12 cw11 nw11 w11 hw11 pw11 => ?_)
        obtain ⟨rfl, rfl, kw11⟩ := pw11
        refine z_istore hC (pc := 61) (lv' := [(4, .int x12), (0, .ref a0), (2, .int x2)]) dX3_named_61 (by decide) rfl ?_
        refine z_iload hC (pc := 63) 0 dX3_named_63 rfl ?_
        have j78 : ∀ (x13 : Int32), zS X G 6 w11 [] 0 0 78 [.int x13] := by
          intro x13
          exact hR _ _ _ _ _ _ dX3_named_78 rfl (Nat.le_of_ble_eq_true rfl) (Nat.le_of_ble_eq_true rfl) ⟨hw11, rfl, rfl, (tKeep.tr (tKeep.tr tKeep.rf kw5 rfl) kw11 rfl)⟩
        refine z_if_le hC (pc := 65) 76 dX3_named_65 (by decide) (fun c14 => ?_) (fun c14 => ?_)
        · refine z_bipush hC (pc := 76) (v := (-2)) dX3_named_76 (by decide) ?_
          refine z_lvs [] rfl ?_
          exact j78 (-2)
        · refine z_ldc hC (pc := 68) (v := 1073741824) dX3_named_68 zw1905 ?_
          refine z_iload hC (pc := 70) 0 dX3_named_70 rfl ?_
          refine z_ior hC (pc := 72) (v := ((1073741824 : Int32) ||| x12)) dX3_named_72 rfl ?_
          refine z_goto hC (pc := 73) 78 dX3_named_73 (by decide) ?_
          refine z_lvs [] rfl ?_
          exact j78 ((1073741824 : Int32) ||| x12)
      refine z_icmp_gt hC (pc := 10) 50 dX3_named_10 (by decide) (fun c15 => ?_) (fun c15 => ?_)
      · refine z_lvs [0, 1] rfl ?_
        exact j50
      · refine z_iload_n hC (pc := 13) 2 dX3_named_13 rfl rfl ?_
        refine z_if_lt hC (pc := 14) 50 dX3_named_14 (by decide) (fun c16 => ?_) (fun c16 => ?_)
        · refine z_lvs [0, 1] rfl ?_
          exact j50
        · refine z_aload_n hC (pc := 17) 0 dX3_named_17 rfl rfl ?_
          refine z_iload_n hC (pc := 18) 2 dX3_named_18 rfl rfl ?_
          refine z_iload_n hC (pc := 19) 1 dX3_named_19 rfl rfl ?_
          obtain ⟨q17, hqq17⟩ := hE.o3 h0
          refine t_callVi hC hw5 (pc := 20) (As := [.int x6, .int x2]) (kX3_ownOf l G T κ hst hE h0) trivial dmX3_ownOf zf3 hqq17 dX3_named_20 zw1899 rfl rfl (Nat.le_of_ble_eq_true rfl) (Nat.le_of_ble_eq_true rfl) (Nat.le_of_ble_eq_true rfl) (Nat.le_of_ble_eq_true rfl) (Nat.le_of_ble_eq_true rfl) (fun _ _ _ h => nomatch h) (fun x19 cw18 nw18 w18 hw18 pw18 => ?_)
          obtain ⟨rfl, rfl, kw18⟩ := pw18
          refine z_istore hC (pc := 23) (lv' := [(5, .int x19), (0, .ref a0), (2, .int x2), (3, .int x6), (4, .int x7)]) dX3_named_23 (by decide) rfl ?_
          refine z_iload hC (pc := 25) 0 dX3_named_25 rfl ?_
          refine z_bipush hC (pc := 27) (v := (-2)) dX3_named_27 (by decide) ?_
          refine z_icmp_eq hC (pc := 29) 35 dX3_named_29 (by decide) (fun c20 => ?_) (fun c20 => ?_)
          · refine z_aload_n hC (pc := 35) 1 dX3_named_35 rfl rfl ?_
            refine u_get hC hw18 (pc := 36) zf3 4 (hE.o3 h0) rfl dX3_named_36 zw508 (kk := fun va21 ta21 fa21 => ?_)
            obtain ⟨a21, ma21, rfl⟩ := ta21
            refine z_iload_n hC (pc := 39) 3 dX3_named_39 rfl rfl ?_
            refine t_callSNi hC hw18 (pc := 40) (As := [.ref a21, .int x6]) (kX12_get l G T κ hst hE ma21) trivial dmX12_get dX3_named_40 zw1850 rfl rfl (Nat.le_of_ble_eq_true rfl) (Nat.le_of_ble_eq_true rfl) (Nat.le_of_ble_eq_true rfl) (Nat.le_of_ble_eq_true rfl) (Nat.le_of_ble_eq_true rfl) (fun _ _ _ h => nomatch h) (fun x23 cw22 nw22 w22 hw22 pw22 => ?_)
            obtain ⟨rfl, rfl, kw22⟩ := pw22
            refine z_istore_n hC (pc := 43) (lv' := [(3, .int x23), (5, .int x19), (0, .ref a0), (2, .int x2), (4, .int x7)]) dX3_named_43 rfl (by decide) rfl ?_
            refine z_iinc hC (pc := 44) (v := (x7 + 1)) (lv' := [(4, .int (x7 + 1)), (3, .int x23), (5, .int x19), (0, .ref a0), (2, .int x2)]) 4 dX3_named_44 rfl (congrArg _ (by decide)) (by decide) rfl ?_
            refine z_goto hC (pc := 47) 5 dX3_named_47 (by decide) ?_
            refine z_lvs [3, 4, 1, 0] rfl ?_
            exact ih5 w22 hw22 (tKeep.tr (tKeep.tr (tKeep.tr tKeep.rf kw5 rfl) kw18 rfl) kw22 rfl) x23 (x7 + 1) (t_nnI v8 (t_lec (Int32.not_lt.mp c15) (by decide))) (t_up (t_lec (Int32.not_lt.mp c15) (by decide)) hd5)
          · refine z_iload hC (pc := 32) 0 dX3_named_32 rfl ?_
            exact hR _ _ _ _ _ _ dX3_named_34 rfl (Nat.le_of_ble_eq_true rfl) (Nat.le_of_ble_eq_true rfl) ⟨hw18, rfl, rfl, (tKeep.tr (tKeep.tr tKeep.rf kw5 rfl) kw18 rfl)⟩
  refine z_lvs [2, 4, 1, 0] rfl ?_
  exact j5 _ w0 hw0 tKeep.rf x1 0 (by decide) (Nat.le_refl _)
set_option maxRecDepth 20000 in
theorem kX3_fillIn (l : Launch) (G : zG) (T : tT) (κ : Nat → List Nat) (hst : l.stackTraces = false) (hE : tE G T κ) {a0 : Nat} (h0 : a0 ∈ κ 3) {x1 : Int32} {x2 : Int32} {x3 : Int32} : tMv l G T yX3_fillIn cX3_fillIn 9 ["java/lang/IllegalStateException"] 7 106 1 6 [.ref a0, .int x1, .int x2, .int x3] uT (uPv 0x80000000000000000000000000000000000000000000000000) := by
  refine tMv.intro hst rfl (Nat.le_of_ble_eq_true rfl) ?_
  intro w0 hw0 _ X hC hR hO hX
  refine z_aload_n hC (pc := 0) 0 dX3_fillIn_0 rfl rfl ?_
  refine u_get hC hw0 (pc := 1) zf3 3 (hE.o3 h0) rfl dX3_fillIn_1 zw506 (kk := fun va6 ta6 fa6 => ?_)
  obtain ⟨a6, ma6, rfl⟩ := ta6
  refine z_iload_n hC (pc := 4) 1 dX3_fillIn_4 rfl rfl ?_
  refine t_callSNi hC hw0 (pc := 5) (As := [.ref a6, .int x1]) (kX12_get l G T κ hst hE (hE.subT ma6)) trivial dmX12_get dX3_fillIn_5 zw1850 rfl rfl (Nat.le_of_ble_eq_true rfl) (Nat.le_of_ble_eq_true rfl) (Nat.le_of_ble_eq_true rfl) (Nat.le_of_ble_eq_true rfl) (Nat.le_of_ble_eq_true rfl) (fun _ _ _ h => nomatch h) (fun x8 cw7 nw7 w7 hw7 pw7 => ?_)
  obtain ⟨rfl, rfl, kw7⟩ := pw7
  refine z_istore hC (pc := 8) (lv' := [(4, .int x8), (0, .ref a0), (1, .int x1), (2, .int x2), (3, .int x3)]) dX3_fillIn_8 (by decide) rfl ?_
  refine z_aload_n hC (pc := 10) 1 dX3_fillIn_10 rfl rfl ?_
  refine u_get hC hw7 (pc := 11) zf3 2 (hE.o3 h0) rfl dX3_fillIn_11 zw505 (kk := fun va9 ta9 fa9 => ?_)
  obtain ⟨a9, ma9, rfl⟩ := ta9
  refine u_get hC hw7 (pc := 14) zf2 2 (hE.o2 ma9) rfl dX3_fillIn_14 zw243 (kk := fun va10 ta10 fa10 => ?_)
  obtain ⟨a10, ma10, rfl⟩ := ta10
  refine z_iload hC (pc := 17) 0 dX3_fillIn_17 rfl ?_
  refine z_iconst hC (pc := 19) (v := 2) dX3_fillIn_19 (by decide) ?_
  refine z_iadd hC (pc := 20) (v := (x8 + 2)) dX3_fillIn_20 rfl ?_
  refine t_callSNi hC hw7 (pc := 21) (As := [.ref a10, .int (x8 + 2)]) (kX12_get l G T κ hst hE ma10) trivial dmX12_get dX3_fillIn_21 zw1850 rfl rfl (Nat.le_of_ble_eq_true rfl) (Nat.le_of_ble_eq_true rfl) (Nat.le_of_ble_eq_true rfl) (Nat.le_of_ble_eq_true rfl) (Nat.le_of_ble_eq_true rfl) (fun _ _ _ h => nomatch h) (fun x12 cw11 nw11 w11 hw11 pw11 => ?_)
  obtain ⟨rfl, rfl, kw11⟩ := pw11
  refine z_istore hC (pc := 24) (lv' := [(5, .int x12), (4, .int x8), (0, .ref a0), (1, .int x1), (2, .int x2), (3, .int x3)]) dX3_fillIn_24 (by decide) rfl ?_
  refine z_iconst hC (pc := 26) (v := 0) dX3_fillIn_26 (by decide) ?_
  refine z_istore hC (pc := 27) (lv' := [(6, .int 0), (5, .int x12), (4, .int x8), (0, .ref a0), (1, .int x1), (2, .int x2), (3, .int x3)]) dX3_fillIn_27 (by decide) rfl ?_
  have j29 : ∀ (d29 : Nat), ∀ (w13 : va_W), tW T w13 → tKeep 0x80000000000000000000000000000000000000000000000000 w11 w13 → ∀ (x14 : Int32), ¬ x14 < 0 → (2 ^ 31 - (x14 : Int32).toInt).toNat ≤ d29 → zS X G 9 w13 [(0, .ref a0), (1, .int x1), (2, .int x2), (3, .int x3), (4, .int x8), (5, .int x12), (6, .int x14)] 0 0 29 [] := by
    intro d29
    induction d29 with
    | zero => intro w13 hw13 kw13 x14 v15 hd29; exact (t_zero hd29).elim
    | succ d29 ih29 =>
      intro w13 hw13 kw13 x14 v15 hd29
      refine z_iload hC (pc := 29) 6 dX3_fillIn_29 rfl ?_
      refine z_iload hC (pc := 31) 5 dX3_fillIn_31 rfl ?_
      refine z_icmp_ge hC (pc := 33) 178 dX3_fillIn_33 (by decide) (fun c16 => ?_) (fun c16 => ?_)
      · exact hR _ _ _ _ _ dX3_fillIn_178 (Nat.le_of_ble_eq_true rfl) (Nat.le_of_ble_eq_true rfl) ⟨hw13, rfl, rfl, (tKeep.tr (tKeep.tr (tKeep.tr tKeep.rf kw7 rfl) kw11 rfl) kw13 rfl)⟩
      · refine z_iload_n hC (pc := 36) 1 dX3_fillIn_36 rfl rfl ?_
        refine z_bipush hC (pc := 37) (v := 12) dX3_fillIn_37 (by decide) ?_
        refine z_imul hC (pc := 39) (v := (x1 * 12)) dX3_fillIn_39 rfl ?_
        refine z_iload hC (pc := 40) 6 dX3_fillIn_40 rfl ?_
        refine z_iadd hC (pc := 42) (v := ((x1 * 12) + x14)) dX3_fillIn_42 rfl ?_
        refine z_istore hC (pc := 43) (lv' := [(7, .int ((x1 * 12) + x14)), (0, .ref a0), (1, .int x1), (2, .int x2), (3, .int x3), (4, .int x8), (5, .int x12), (6, .int x14)]) dX3_fillIn_43 (by decide) rfl ?_
        refine z_aload_n hC (pc := 45) 1 dX3_fillIn_45 rfl rfl ?_
        refine u_get hC hw13 (pc := 46) zf3 6 (hE.o3 h0) rfl dX3_fillIn_46 zw511 (kk := fun va17 ta17 fa17 => ?_)
        obtain ⟨a17, ma17, rfl⟩ := ta17
        refine z_iload hC (pc := 49) 0 dX3_fillIn_49 rfl ?_
        refine t_callSNi hC hw13 (pc := 51) (As := [.ref a17, .int ((x1 * 12) + x14)]) (kX12_get l G T κ hst hE ma17) trivial dmX12_get dX3_fillIn_51 zw1850 rfl rfl (Nat.le_of_ble_eq_true rfl) (Nat.le_of_ble_eq_true rfl) (Nat.le_of_ble_eq_true rfl) (Nat.le_of_ble_eq_true rfl) (Nat.le_of_ble_eq_true rfl) (fun _ _ _ h => nomatch h) (fun x19 cw18 nw18 w18 hw18 pw18 => ?_)
        obtain ⟨rfl, rfl, kw18⟩ := pw18
        refine z_bipush hC (pc := 54) (v := (-2)) dX3_fillIn_54 (by decide) ?_
        have j172 : ∀ (w20 : va_W), tW T w20 → tKeep 0x80000000000000000000000000000000000000000000000000 w18 w20 → zS X G 9 w20 [(0, .ref a0), (1, .int x1), (2, .int x2), (3, .int x3), (4, .int x8), (5, .int x12), (6, .int x14)] 0 0 172 [] := by
          intro w20 hw20 kw20
          refine z_iinc hC (pc := 172) (v := (x14 + 1)) (lv' := [(6, .int (x14 + 1)), (0, .ref a0), (1, .int x1), (2, .int x2), (3, .int x3), (4, .int x8), (5, .int x12)]) 6 dX3_fillIn_172 rfl (congrArg _ (by decide)) (by decide) rfl ?_
          refine z_goto hC (pc := 175) 29 dX3_fillIn_175 (by decide) ?_
          refine z_lvs [1, 2, 3, 4, 5, 6, 0] rfl ?_
          exact ih29 w20 hw20 (tKeep.tr (tKeep.tr (tKeep.tr tKeep.rf kw13 rfl) kw18 rfl) kw20 rfl) (x14 + 1) (t_nnI v15 (Int32.not_le.mp c16)) (t_up (Int32.not_le.mp c16) hd29)
        refine z_icmp_ne hC (pc := 56) 172 dX3_fillIn_56 (by decide) (fun c21 => ?_) (fun c21 => ?_)
        · refine z_lvs [1, 2, 3, 4, 5, 6, 7] rfl ?_
          exact j172 w18 hw18 tKeep.rf
        · refine z_aload_n hC (pc := 59) 1 dX3_fillIn_59 rfl rfl ?_
          refine u_getK hC (pc := 60) zf3 2 (tKeep.F kw18 (tKeep.F kw13 (tKeep.F kw11 fa9 rfl) rfl) rfl) dX3_fillIn_60 zw505 (kk := ?_)
          refine u_getK hC (pc := 63) zf2 2 (tKeep.F kw18 (tKeep.F kw13 (tKeep.F kw11 fa10 rfl) rfl) rfl) dX3_fillIn_63 zw243 (kk := ?_)
          refine z_iload hC (pc := 66) 5 dX3_fillIn_66 rfl ?_
          refine z_iconst hC (pc := 68) (v := 4) dX3_fillIn_68 (by decide) ?_
          refine z_iadd hC (pc := 69) (v := (x8 + 4)) dX3_fillIn_69 rfl ?_
          refine z_iconst hC (pc := 70) (v := 2) dX3_fillIn_70 (by decide) ?_
          refine z_iload hC (pc := 71) 7 dX3_fillIn_71 rfl ?_
          refine z_imul hC (pc := 73) (v := ((2 : Int32) * x14)) dX3_fillIn_73 rfl ?_
          refine z_iadd hC (pc := 74) (v := ((x8 + 4) + ((2 : Int32) * x14))) dX3_fillIn_74 rfl ?_
          refine t_callSNi hC hw18 (pc := 75) (As := [.ref a10, .int ((x8 + 4) + ((2 : Int32) * x14))]) (kX12_get l G T κ hst hE ma10) trivial dmX12_get dX3_fillIn_75 zw1850 rfl rfl (Nat.le_of_ble_eq_true rfl) (Nat.le_of_ble_eq_true rfl) (Nat.le_of_ble_eq_true rfl) (Nat.le_of_ble_eq_true rfl) (Nat.le_of_ble_eq_true rfl) (fun _ _ _ h => nomatch h) (fun x23 cw22 nw22 w22 hw22 pw22 => ?_)
          obtain ⟨rfl, rfl, kw22⟩ := pw22
          refine z_istore hC (pc := 78) (lv' := [(8, .int x23), (7, .int ((x1 * 12) + x14)), (0, .ref a0), (1, .int x1), (2, .int x2), (3, .int x3), (4, .int x8), (5, .int x12), (6, .int x14)]) dX3_fillIn_78 (by decide) rfl ?_
          refine z_iload hC (pc := 80) 0 dX3_fillIn_80 rfl ?_
          refine t_callSi hC hw22 (pc := 82) (As := [.int x23]) (kX3_sortOf l G T κ hst hE) trivial dmX3_sortOf dX3_fillIn_82 zw1844 rfl rfl (Nat.le_of_ble_eq_true rfl) (Nat.le_of_ble_eq_true rfl) (Nat.le_of_ble_eq_true rfl) (Nat.le_of_ble_eq_true rfl) (Nat.le_of_ble_eq_true rfl) (fun _ _ _ h => nomatch h) (fun x25 cw24 nw24 w24 hw24 pw24 => ?_)
          obtain ⟨rfl, rfl, kw24⟩ := pw24
          refine z_ldc hC (pc := 85) (v := 1207959552) dX3_fillIn_85 zw1891 ?_
          have j150 : ∀ (w26 : va_W), tW T w26 → tKeep 0x80000000000000000000000000000000000000000000000000 w24 w26 → ∀ (x27 : Int32), zS X G 9 w26 [(0, .ref a0), (1, .int x1), (2, .int x2), (3, .int x3), (4, .int x8), (5, .int x12), (6, .int x14), (7, .int ((x1 * 12) + x14)), (8, .int x27)] 0 0 150 [] := by
            intro w26 hw26 kw26 x27
            refine z_aload_n hC (pc := 150) 0 dX3_fillIn_150 rfl rfl ?_
            refine u_getK hC (pc := 151) zf3 6 (tKeep.F kw26 (tKeep.F kw24 (tKeep.F kw22 (tKeep.F kw18 fa17 rfl) rfl) rfl) rfl) dX3_fillIn_151 zw511 (kk := ?_)
            refine z_iload hC (pc := 154) 7 dX3_fillIn_154 rfl ?_
            refine z_iload hC (pc := 156) 8 dX3_fillIn_156 rfl ?_
            refine z_bipush hC (pc := 158) (v := (-2)) dX3_fillIn_158 (by decide) ?_
            have j169 : ∀ (x28 : Int32), zS X G 9 w26 [(0, .ref a0), (1, .int x1), (2, .int x2), (3, .int x3), (4, .int x8), (5, .int x12), (6, .int x14)] 0 0 169 [.int x28, .int ((x1 * 12) + x14), .ref a17] := by
              intro x28
              refine t_callSNv hC hw26 (pc := 169) (As := [.ref a17, .int ((x1 * 12) + x14), .int x28]) (kX12_set l G T κ hst hE ma17) trivial dmX12_set dX3_fillIn_169 zw1879 rfl rfl (Nat.le_of_ble_eq_true rfl) (Nat.le_of_ble_eq_true rfl) (Nat.le_of_ble_eq_true rfl) (Nat.le_of_ble_eq_true rfl) (Nat.le_of_ble_eq_true rfl) (fun _ _ _ h => nomatch h) (fun cw29 nw29 w29 hw29 pw29 => ?_)
              obtain ⟨rfl, rfl, kw29⟩ := pw29
              exact j172 w29 hw29 (tKeep.tr (tKeep.tr (tKeep.tr (tKeep.tr tKeep.rf kw22 rfl) kw24 rfl) kw26 rfl) kw29 rfl)
            refine z_icmp_ne hC (pc := 160) 167 dX3_fillIn_160 (by decide) (fun c31 => ?_) (fun c31 => ?_)
            · refine z_iload hC (pc := 167) 8 dX3_fillIn_167 rfl ?_
              refine z_lvs [0, 1, 2, 3, 4, 5, 6] rfl ?_
              exact j169 x27
            · refine z_iconst hC (pc := 163) (v := (-1)) dX3_fillIn_163 (by decide) ?_
              refine z_goto hC (pc := 164) 169 dX3_fillIn_164 (by decide) ?_
              refine z_lvs [0, 1, 2, 3, 4, 5, 6] rfl ?_
              exact j169 (-1)
          refine z_icmp_ne hC (pc := 87) 109 dX3_fillIn_87 (by decide) (fun c32 => ?_) (fun c32 => ?_)
          · refine z_iload hC (pc := 109) 0 dX3_fillIn_109 rfl ?_
            refine z_ldc hC (pc := 111) (v := 1476395008) dX3_fillIn_111 zw1894 ?_
            refine z_icmp_ne hC (pc := 113) 150 dX3_fillIn_113 (by decide) (fun c33 => ?_) (fun c33 => ?_)
            · refine z_lvs [2, 3, 4, 5, 6, 7, 8, 1, 0] rfl ?_
              exact j150 w24 hw24 tKeep.rf x23
            · refine z_iload_n hC (pc := 116) 4 dX3_fillIn_116 rfl rfl ?_
              have j148 : ∀ (w34 : va_W), tW T w34 → tKeep 0x0 w24 w34 → ∀ (x35 : Int32), zS X G 9 w34 [(0, .ref a0), (1, .int x1), (2, .int x2), (3, .int x3), (4, .int x8), (5, .int x12), (6, .int x14), (7, .int ((x1 * 12) + x14))] 0 0 148 [.int x35] := by
                intro w34 hw34 kw34 x35
                refine z_istore hC (pc := 148) (lv' := [(8, .int x35), (0, .ref a0), (1, .int x1), (2, .int x2), (3, .int x3), (4, .int x8), (5, .int x12), (6, .int x14), (7, .int ((x1 * 12) + x14))]) dX3_fillIn_148 (by decide) rfl ?_
                refine z_lvs [1, 2, 3, 4, 5, 6, 7, 8, 0] rfl ?_
                exact j150 w34 hw34 (tKeep.tr tKeep.rf kw34 rfl) x35
              refine z_if_eq hC (pc := 117) 147 dX3_fillIn_117 (by decide) (fun c36 => ?_) (fun c36 => ?_)
              · refine z_iconst hC (pc := 147) (v := (-1)) dX3_fillIn_147 (by decide) ?_
                refine z_lvs [2, 3, 4, 5, 6, 7, 8, 1] rfl ?_
                exact j148 w24 hw24 tKeep.rf (-1)
              · refine z_aload_n hC (pc := 120) 2 dX3_fillIn_120 rfl rfl ?_
                refine z_iload_n hC (pc := 121) 5 dX3_fillIn_121 rfl rfl ?_
                refine z_aload_n hC (pc := 122) 2 dX3_fillIn_122 rfl rfl ?_
                refine u_getK hC (pc := 123) zf3 2 (tKeep.F kw24 (tKeep.F kw22 (tKeep.F kw18 (tKeep.F kw13 (tKeep.F kw11 fa9 rfl) rfl) rfl) rfl) rfl) dX3_fillIn_123 zw505 (kk := ?_)
                refine u_getK hC (pc := 126) zf2 2 (tKeep.F kw24 (tKeep.F kw22 (tKeep.F kw18 (tKeep.F kw13 (tKeep.F kw11 fa10 rfl) rfl) rfl) rfl) rfl) dX3_fillIn_126 zw243 (kk := ?_)
                refine z_iload hC (pc := 129) 6 dX3_fillIn_129 rfl ?_
                refine z_iconst hC (pc := 131) (v := 3) dX3_fillIn_131 (by decide) ?_
                refine z_iadd hC (pc := 132) (v := (x8 + 3)) dX3_fillIn_132 rfl ?_
                refine z_iconst hC (pc := 133) (v := 2) dX3_fillIn_133 (by decide) ?_
                refine z_iload hC (pc := 134) 8 dX3_fillIn_134 rfl ?_
                refine z_imul hC (pc := 136) (v := ((2 : Int32) * x14)) dX3_fillIn_136 rfl ?_
                refine z_iadd hC (pc := 137) (v := ((x8 + 3) + ((2 : Int32) * x14))) dX3_fillIn_137 rfl ?_
                refine t_callSNi hC hw24 (pc := 138) (As := [.ref a10, .int ((x8 + 3) + ((2 : Int32) * x14))]) (kX12_get l G T κ hst hE ma10) trivial dmX12_get dX3_fillIn_138 zw1850 rfl rfl (Nat.le_of_ble_eq_true rfl) (Nat.le_of_ble_eq_true rfl) (Nat.le_of_ble_eq_true rfl) (Nat.le_of_ble_eq_true rfl) (Nat.le_of_ble_eq_true rfl) (fun _ _ _ h => nomatch h) (fun x38 cw37 nw37 w37 hw37 pw37 => ?_)
                obtain ⟨rfl, rfl, kw37⟩ := pw37
                obtain ⟨q39, hqq39⟩ := hE.o3 h0
                refine t_callVi hC hw37 (pc := 141) (As := [.int x3, .int x38]) (kX3_named l G T κ hst hE h0) trivial dmX3_named zf3 hqq39 dX3_fillIn_141 zw1895 rfl rfl (Nat.le_of_ble_eq_true rfl) (Nat.le_of_ble_eq_true rfl) (Nat.le_of_ble_eq_true rfl) (Nat.le_of_ble_eq_true rfl) (Nat.le_of_ble_eq_true rfl) (fun _ _ _ h => nomatch h) (fun x41 cw40 nw40 w40 hw40 pw40 => ?_)
                obtain ⟨rfl, rfl, kw40⟩ := pw40
                refine z_goto hC (pc := 144) 148 dX3_fillIn_144 (by decide) ?_
                refine z_lvs [2, 3, 4, 5, 6, 7, 8, 1] rfl ?_
                exact j148 w40 hw40 (tKeep.tr (tKeep.tr tKeep.rf kw37 rfl) kw40 rfl) x41
          · refine z_ldc hC (pc := 90) (v := 939524096) dX3_fillIn_90 zw1892 ?_
            refine z_aload_n hC (pc := 92) 2 dX3_fillIn_92 rfl rfl ?_
            refine z_iload hC (pc := 93) 0 dX3_fillIn_93 rfl ?_
            refine z_ldc hC (pc := 95) (v := 134217727) dX3_fillIn_95 zw1849 ?_
            refine z_iand hC (pc := 97) (v := (x23 &&& 134217727)) dX3_fillIn_97 rfl ?_
            refine z_iload_n hC (pc := 98) 3 dX3_fillIn_98 rfl rfl ?_
            refine z_iconst hC (pc := 99) (v := (-1)) dX3_fillIn_99 (by decide) ?_
            obtain ⟨q42, hqq42⟩ := hE.o3 h0
            refine t_callVi hC hw24 (pc := 100) (As := [.int (x23 &&& 134217727), .int x1, .int (-1)]) (kX3_make l G T κ hst hE h0) trivial dmX3_make zf3 hqq42 dX3_fillIn_100 zw1893 rfl rfl (Nat.le_of_ble_eq_true rfl) (Nat.le_of_ble_eq_true rfl) (Nat.le_of_ble_eq_true rfl) (Nat.le_of_ble_eq_true rfl) (Nat.le_of_ble_eq_true rfl) (fun E w q hE hw => hO E w _ _ _ _ _ q hE (Nat.le_of_ble_eq_true rfl) (Nat.le_of_ble_eq_true rfl) hw) (fun x44 cw43 nw43 w43 hw43 pw43 => ?_)
            obtain ⟨rfl, rfl, kw43⟩ := pw43
            refine z_ior hC (pc := 103) (v := ((939524096 : Int32) ||| x44)) dX3_fillIn_103 rfl ?_
            refine z_istore hC (pc := 104) (lv' := [(8, .int ((939524096 : Int32) ||| x44)), (7, .int ((x1 * 12) + x14)), (0, .ref a0), (1, .int x1), (2, .int x2), (3, .int x3), (4, .int x8), (5, .int x12), (6, .int x14)]) dX3_fillIn_104 (by decide) rfl ?_
            refine z_goto hC (pc := 106) 150 dX3_fillIn_106 (by decide) ?_
            refine z_lvs [2, 3, 4, 5, 6, 7, 8, 1, 0] rfl ?_
            exact j150 w43 hw43 (tKeep.tr tKeep.rf kw43 rfl) ((939524096 : Int32) ||| x44)
  refine z_lvs [3, 4, 5, 6, 2, 1, 0] rfl ?_
  exact j29 _ w11 hw11 tKeep.rf 0 (by decide) (Nat.le_refl _)
set_option maxRecDepth 20000 in
theorem kX5_counted (l : Launch) (G : zG) (T : tT) (κ : Nat → List Nat) (hst : l.stackTraces = false) (hE : tE G T κ) {a0 : Nat} (h0 : a0 ∈ κ 5) : tMv l G T yX5_counted cX5_counted 1 ["java/lang/IllegalStateException"] 6 81 1 6 [.ref a0] uT (uPv 0x400000000000000000000000000000000000000000000000000000000000000000000000000000000000) := by
  refine tMv.intro hst rfl (Nat.le_of_ble_eq_true rfl) ?_
  intro w0 hw0 _ X hC hR hO hX
  refine z_aload_n hC (pc := 0) 0 dX5_counted_0 rfl rfl ?_
  refine u_get hC hw0 (pc := 1) zf5 14 (hE.o5 h0) rfl dX5_counted_1 zw656 (kk := fun vx3 tx3 fx3 => ?_)
  obtain ⟨x3, rfl⟩ := tx3
  refine z_ldc_w hC (pc := 4) (v := 60000) dX5_counted_4 zw1915 ?_
  refine z_icmp_lt hC (pc := 7) 18 dX5_counted_7 (by decide) (fun c4 => ?_) (fun c4 => ?_)
  · refine z_aload_n hC (pc := 18) 0 dX5_counted_18 rfl rfl ?_
    refine z_dup hC (pc := 19) dX5_counted_19 rfl ?_
    refine u_getK hC (pc := 20) zf5 14 fx3 dX5_counted_20 zw656 (kk := ?_)
    refine z_iconst hC (pc := 23) (v := 1) dX5_counted_23 (by decide) ?_
    refine z_iadd hC (pc := 24) (v := (x3 + 1)) dX5_counted_24 rfl ?_
    refine u_put hC hw0 (pc := 25) zf5 14 (hE.o5 h0) rfl ⟨_, rfl⟩ dX5_counted_25 zw656 rfl rfl rfl (kk := fun w5 hw5 fw5 kw5 => ?_)
    exact hR _ _ _ _ _ dX5_counted_28 (Nat.le_of_ble_eq_true rfl) (Nat.le_of_ble_eq_true rfl) ⟨hw5, rfl, rfl, (tKeep.tr tKeep.rf kw5 rfl)⟩
  · exact hX "java/lang/IllegalStateException" _ _ _ _ _ _ 134 236 exn (by decide) hw0 dX5_counted_10 dX5_counted_13 dX5_counted_14 dX5_counted_17 (by decide +kernel) (by decide +kernel) zw1790 zw20 atg_X5_236 atb_X5_236 ato_X5_236 (by decide) (Nat.le_of_ble_eq_true rfl) (Nat.le_of_ble_eq_true rfl) (Nat.le_of_ble_eq_true rfl)
set_option maxRecDepth 20000 in
theorem kX5_start (l : Launch) (G : zG) (T : tT) (κ : Nat → List Nat) (hst : l.stackTraces = false) (hE : tE G T κ) {a0 : Nat} (h0 : a0 ∈ κ 5) {x1 : Int32} : tMv l G T yX5_start cX5_start 2 ["java/lang/IllegalStateException"] 6 81 1 6 [.ref a0, .int x1] uT (uPv 0x8000000000000000000000000000000000000000000000000000000000000000000000000000000000) := by
  refine tMv.intro hst rfl (Nat.le_of_ble_eq_true rfl) ?_
  intro w0 hw0 _ X hC hR hO hX
  refine z_aload_n hC (pc := 0) 0 dX5_start_0 rfl rfl ?_
  refine u_get hC hw0 (pc := 1) zf5 7 (hE.o5 h0) rfl dX5_start_1 zw649 (kk := fun vx4 tx4 fx4 => ?_)
  obtain ⟨x4, rfl⟩ := tx4
  have j19 : zS X G 2 w0 [] 0 0 19 [] := by
    exact hX "java/lang/IllegalStateException" _ _ _ _ _ _ 134 236 exn (by decide) hw0 dX5_start_19 dX5_start_22 dX5_start_23 dX5_start_26 (by decide +kernel) (by decide +kernel) zw1790 zw20 atg_X5_236 atb_X5_236 ato_X5_236 (by decide) (Nat.le_of_ble_eq_true rfl) (Nat.le_of_ble_eq_true rfl) (Nat.le_of_ble_eq_true rfl)
  refine z_if_lt hC (pc := 4) 19 dX5_start_4 (by decide) (fun c5 => ?_) (fun c5 => ?_)
  · refine z_lvs [] rfl ?_
    exact j19
  · refine z_aload_n hC (pc := 7) 0 dX5_start_7 rfl rfl ?_
    refine u_getK hC (pc := 8) zf5 7 fx4 dX5_start_8 zw649 (kk := ?_)
    refine z_aload_n hC (pc := 11) 0 dX5_start_11 rfl rfl ?_
    refine u_get hC hw0 (pc := 12) zf5 6 (hE.o5 h0) rfl dX5_start_12 zw648 (kk := fun va6 ta6 fa6 => ?_)
    obtain ⟨a6, ma6, rfl⟩ := ta6
    obtain ⟨N7, hN7, AN7⟩ := hE.ints ma6
    refine u_alenI hC hw0 (pc := 15) AN7 dX5_start_15 ?_
    refine z_icmp_lt hC (pc := 16) 27 dX5_start_16 (by decide) (fun c8 => ?_) (fun c8 => ?_)
    · refine z_aload_n hC (pc := 27) 0 dX5_start_27 rfl rfl ?_
      refine u_getK hC (pc := 28) zf5 6 fa6 dX5_start_28 zw648 (kk := ?_)
      refine z_aload_n hC (pc := 31) 0 dX5_start_31 rfl rfl ?_
      refine u_getK hC (pc := 32) zf5 7 fx4 dX5_start_32 zw649 (kk := ?_)
      refine z_iload_n hC (pc := 35) 1 dX5_start_35 rfl rfl ?_
      refine u_iast hC hw0 (pc := 36) AN7 dX5_start_36 (t_inB hN7 c5 (Int32.not_le.mpr c8)) trivial (fun w9 hw9 kw9 => ?_)
      refine z_aload_n hC (pc := 37) 0 dX5_start_37 rfl rfl ?_
      refine z_dup hC (pc := 38) dX5_start_38 rfl ?_
      refine u_getK hC (pc := 39) zf5 7 (tKeep.F kw9 fx4 rfl) dX5_start_39 zw649 (kk := ?_)
      refine z_iconst hC (pc := 42) (v := 1) dX5_start_42 (by decide) ?_
      refine z_iadd hC (pc := 43) (v := (x4 + 1)) dX5_start_43 rfl ?_
      refine u_put hC hw9 (pc := 44) zf5 7 (hE.o5 h0) rfl ⟨_, rfl⟩ dX5_start_44 zw649 rfl rfl rfl (kk := fun w10 hw10 fw10 kw10 => ?_)
      exact hR _ _ _ _ _ dX5_start_47 (Nat.le_of_ble_eq_true rfl) (Nat.le_of_ble_eq_true rfl) ⟨hw10, rfl, rfl, (tKeep.tr (tKeep.tr tKeep.rf kw9 rfl) kw10 rfl)⟩
    · refine z_lvs [] rfl ?_
      exact j19
set_option maxRecDepth 20000 in
theorem kX5_options (l : Launch) (G : zG) (T : tT) (κ : Nat → List Nat) (hst : l.stackTraces = false) (hE : tE G T κ) {a0 : Nat} (h0 : a0 ∈ κ 5) : tMv l G T yX5_options cX5_options 1 ["java/lang/IllegalStateException"] 7 102 1 6 [.ref a0] uT (uPv 0x8000000000000000000000000000000000000000000000000000000000000000000000000000000000) := by
  refine tMv.intro hst rfl (Nat.le_of_ble_eq_true rfl) ?_
  intro w0 hw0 _ X hC hR hO hX
  refine z_aload_n hC (pc := 0) 0 dX5_options_0 rfl rfl ?_
  refine z_aload_n hC (pc := 1) 0 dX5_options_1 rfl rfl ?_
  refine u_get hC hw0 (pc := 2) zf5 15 (hE.o5 h0) rfl dX5_options_2 zw657 (kk := fun vx3 tx3 fx3 => ?_)
  obtain ⟨x3, rfl⟩ := tx3
  obtain ⟨q4, hqq4⟩ := hE.o5 h0
  refine t_callVv hC hw0 (pc := 5) (As := [.int x3]) (kX5_start l G T κ hst hE h0) trivial dmX5_start zf5 hqq4 dX5_options_5 zw1921 rfl rfl (Nat.le_of_ble_eq_true rfl) (Nat.le_of_ble_eq_true rfl) (Nat.le_of_ble_eq_true rfl) (Nat.le_of_ble_eq_true rfl) (Nat.le_of_ble_eq_true rfl) (fun E w q hE hw => hO E w _ _ _ _ _ q hE (Nat.le_of_ble_eq_true rfl) (Nat.le_of_ble_eq_true rfl) hw) (fun cw5 nw5 w5 hw5 pw5 => ?_)
  obtain ⟨rfl, rfl, kw5⟩ := pw5
  refine z_aload_n hC (pc := 8) 0 dX5_options_8 rfl rfl ?_
  refine z_aload_n hC (pc := 9) 0 dX5_options_9 rfl rfl ?_
  refine u_get hC hw5 (pc := 10) zf5 16 (hE.o5 h0) rfl dX5_options_10 zw658 (kk := fun vx7 tx7 fx7 => ?_)
  obtain ⟨x7, rfl⟩ := tx7
  refine t_callVv hC hw5 (pc := 13) (As := [.int x7]) (kX5_start l G T κ hst hE h0) trivial dmX5_start zf5 hqq4 dX5_options_13 zw1921 rfl rfl (Nat.le_of_ble_eq_true rfl) (Nat.le_of_ble_eq_true rfl) (Nat.le_of_ble_eq_true rfl) (Nat.le_of_ble_eq_true rfl) (Nat.le_of_ble_eq_true rfl) (fun E w q hE hw => hO E w _ _ _ _ _ q hE (Nat.le_of_ble_eq_true rfl) (Nat.le_of_ble_eq_true rfl) hw) (fun cw8 nw8 w8 hw8 pw8 => ?_)
  obtain ⟨rfl, rfl, kw8⟩ := pw8
  refine z_aload_n hC (pc := 16) 0 dX5_options_16 rfl rfl ?_
  refine z_aload_n hC (pc := 17) 0 dX5_options_17 rfl rfl ?_
  refine u_get hC hw8 (pc := 18) zf5 17 (hE.o5 h0) rfl dX5_options_18 zw659 (kk := fun vx10 tx10 fx10 => ?_)
  obtain ⟨x10, rfl⟩ := tx10
  refine t_callVv hC hw8 (pc := 21) (As := [.int x10]) (kX5_start l G T κ hst hE h0) trivial dmX5_start zf5 hqq4 dX5_options_21 zw1921 rfl rfl (Nat.le_of_ble_eq_true rfl) (Nat.le_of_ble_eq_true rfl) (Nat.le_of_ble_eq_true rfl) (Nat.le_of_ble_eq_true rfl) (Nat.le_of_ble_eq_true rfl) (fun E w q hE hw => hO E w _ _ _ _ _ q hE (Nat.le_of_ble_eq_true rfl) (Nat.le_of_ble_eq_true rfl) hw) (fun cw11 nw11 w11 hw11 pw11 => ?_)
  obtain ⟨rfl, rfl, kw11⟩ := pw11
  refine z_aload_n hC (pc := 24) 0 dX5_options_24 rfl rfl ?_
  refine z_aload_n hC (pc := 25) 0 dX5_options_25 rfl rfl ?_
  refine u_get hC hw11 (pc := 26) zf5 18 (hE.o5 h0) rfl dX5_options_26 zw660 (kk := fun vx13 tx13 fx13 => ?_)
  obtain ⟨x13, rfl⟩ := tx13
  refine t_callVv hC hw11 (pc := 29) (As := [.int x13]) (kX5_start l G T κ hst hE h0) trivial dmX5_start zf5 hqq4 dX5_options_29 zw1921 rfl rfl (Nat.le_of_ble_eq_true rfl) (Nat.le_of_ble_eq_true rfl) (Nat.le_of_ble_eq_true rfl) (Nat.le_of_ble_eq_true rfl) (Nat.le_of_ble_eq_true rfl) (fun E w q hE hw => hO E w _ _ _ _ _ q hE (Nat.le_of_ble_eq_true rfl) (Nat.le_of_ble_eq_true rfl) hw) (fun cw14 nw14 w14 hw14 pw14 => ?_)
  obtain ⟨rfl, rfl, kw14⟩ := pw14
  refine z_aload_n hC (pc := 32) 0 dX5_options_32 rfl rfl ?_
  refine z_aload_n hC (pc := 33) 0 dX5_options_33 rfl rfl ?_
  refine u_get hC hw14 (pc := 34) zf5 1 (hE.o5 h0) rfl dX5_options_34 zw642 (kk := fun va16 ta16 fa16 => ?_)
  obtain ⟨a16, ma16, rfl⟩ := ta16
  refine u_get hC hw14 (pc := 37) zf11 14 (hE.o11 ma16) rfl dX5_options_37 zw604 (kk := fun vx17 tx17 fx17 => ?_)
  obtain ⟨x17, rfl⟩ := tx17
  refine t_callVv hC hw14 (pc := 40) (As := [.int x17]) (kX5_start l G T κ hst hE h0) trivial dmX5_start zf5 hqq4 dX5_options_40 zw1921 rfl rfl (Nat.le_of_ble_eq_true rfl) (Nat.le_of_ble_eq_true rfl) (Nat.le_of_ble_eq_true rfl) (Nat.le_of_ble_eq_true rfl) (Nat.le_of_ble_eq_true rfl) (fun E w q hE hw => hO E w _ _ _ _ _ q hE (Nat.le_of_ble_eq_true rfl) (Nat.le_of_ble_eq_true rfl) hw) (fun cw18 nw18 w18 hw18 pw18 => ?_)
  obtain ⟨rfl, rfl, kw18⟩ := pw18
  refine z_aload_n hC (pc := 43) 0 dX5_options_43 rfl rfl ?_
  refine z_aload_n hC (pc := 44) 0 dX5_options_44 rfl rfl ?_
  refine u_getK hC (pc := 45) zf5 1 (tKeep.F kw18 fa16 rfl) dX5_options_45 zw642 (kk := ?_)
  refine u_get hC hw18 (pc := 48) zf11 15 (hE.o11 ma16) rfl dX5_options_48 zw606 (kk := fun vx20 tx20 fx20 => ?_)
  obtain ⟨x20, rfl⟩ := tx20
  refine t_callVv hC hw18 (pc := 51) (As := [.int x20]) (kX5_start l G T κ hst hE h0) trivial dmX5_start zf5 hqq4 dX5_options_51 zw1921 rfl rfl (Nat.le_of_ble_eq_true rfl) (Nat.le_of_ble_eq_true rfl) (Nat.le_of_ble_eq_true rfl) (Nat.le_of_ble_eq_true rfl) (Nat.le_of_ble_eq_true rfl) (fun E w q hE hw => hO E w _ _ _ _ _ q hE (Nat.le_of_ble_eq_true rfl) (Nat.le_of_ble_eq_true rfl) hw) (fun cw21 nw21 w21 hw21 pw21 => ?_)
  obtain ⟨rfl, rfl, kw21⟩ := pw21
  refine z_aload_n hC (pc := 54) 0 dX5_options_54 rfl rfl ?_
  refine z_iconst hC (pc := 55) (v := 2) dX5_options_55 (by decide) ?_
  refine t_callVv hC hw21 (pc := 56) (As := [.int 2]) (kX5_start l G T κ hst hE h0) trivial dmX5_start zf5 hqq4 dX5_options_56 zw1921 rfl rfl (Nat.le_of_ble_eq_true rfl) (Nat.le_of_ble_eq_true rfl) (Nat.le_of_ble_eq_true rfl) (Nat.le_of_ble_eq_true rfl) (Nat.le_of_ble_eq_true rfl) (fun E w q hE hw => hO E w _ _ _ _ _ q hE (Nat.le_of_ble_eq_true rfl) (Nat.le_of_ble_eq_true rfl) hw) (fun cw23 nw23 w23 hw23 pw23 => ?_)
  obtain ⟨rfl, rfl, kw23⟩ := pw23
  exact hR _ _ _ _ _ dX5_options_59 (Nat.le_of_ble_eq_true rfl) (Nat.le_of_ble_eq_true rfl) ⟨hw23, rfl, rfl, (tKeep.tr (tKeep.tr (tKeep.tr (tKeep.tr (tKeep.tr (tKeep.tr (tKeep.tr tKeep.rf kw5 rfl) kw8 rfl) kw11 rfl) kw14 rfl) kw18 rfl) kw21 rfl) kw23 rfl)⟩
set_option maxRecDepth 20000 in
theorem kX3_content (l : Launch) (G : zG) (T : tT) (κ : Nat → List Nat) (hst : l.stackTraces = false) (hE : tE G T κ) {a0 : Nat} (h0 : a0 ∈ κ 3) {x1 : Int32} {x2 : Int32} : tMi l G T yX3_content cX3_content 3 .int ["java/lang/IllegalStateException"] 7 106 1 6 [.ref a0, .int x1, .int x2] uT (uPi 0x80000000000000000000000000000000000000000000000000) := by
  refine tMi.intro hst rfl (Nat.le_of_ble_eq_true rfl) ?_
  intro w0 hw0 _ X hC hR hO hX
  refine z_iload_n hC (pc := 0) 1 dX3_content_0 rfl rfl ?_
  refine t_callSi hC hw0 (pc := 1) (As := [.int x1]) (kX3_sortOf l G T κ hst hE) trivial dmX3_sortOf dX3_content_1 zw1844 rfl rfl (Nat.le_of_ble_eq_true rfl) (Nat.le_of_ble_eq_true rfl) (Nat.le_of_ble_eq_true rfl) (Nat.le_of_ble_eq_true rfl) (Nat.le_of_ble_eq_true rfl) (fun _ _ _ h => nomatch h) (fun x6 cw5 nw5 w5 hw5 pw5 => ?_)
  obtain ⟨rfl, rfl, kw5⟩ := pw5
  refine z_ldc hC (pc := 4) (v := 1207959552) dX3_content_4 zw1891 ?_
  refine z_icmp_ne hC (pc := 6) 23 dX3_content_6 (by decide) (fun c7 => ?_) (fun c7 => ?_)
  · refine z_iload_n hC (pc := 23) 1 dX3_content_23 rfl rfl ?_
    refine z_ldc hC (pc := 24) (v := 1342177280) dX3_content_24 zw1954 ?_
    have j34 : ∀ (x8 : Int32), zS X G 3 w5 [] 0 0 34 [.int x8] := by
      intro x8
      exact hR _ _ _ _ _ _ dX3_content_34 rfl (Nat.le_of_ble_eq_true rfl) (Nat.le_of_ble_eq_true rfl) ⟨hw5, rfl, rfl, (tKeep.tr tKeep.rf kw5 rfl)⟩
    refine z_icmp_ne hC (pc := 26) 33 dX3_content_26 (by decide) (fun c9 => ?_) (fun c9 => ?_)
    · refine z_iload_n hC (pc := 33) 1 dX3_content_33 rfl rfl ?_
      refine z_lvs [] rfl ?_
      exact j34 x1
    · refine z_iload_n hC (pc := 29) 2 dX3_content_29 rfl rfl ?_
      refine z_goto hC (pc := 30) 34 dX3_content_30 (by decide) ?_
      refine z_lvs [] rfl ?_
      exact j34 x2
  · refine z_ldc hC (pc := 9) (v := 939524096) dX3_content_9 zw1892 ?_
    refine z_aload_n hC (pc := 11) 0 dX3_content_11 rfl rfl ?_
    refine z_iload_n hC (pc := 12) 1 dX3_content_12 rfl rfl ?_
    refine z_ldc hC (pc := 13) (v := 134217727) dX3_content_13 zw1849 ?_
    refine z_iand hC (pc := 15) (v := (x1 &&& 134217727)) dX3_content_15 rfl ?_
    refine z_iconst hC (pc := 16) (v := (-1)) dX3_content_16 (by decide) ?_
    refine z_iconst hC (pc := 17) (v := (-1)) dX3_content_17 (by decide) ?_
    obtain ⟨q10, hqq10⟩ := hE.o3 h0
    refine t_callVi hC hw5 (pc := 18) (As := [.int (x1 &&& 134217727), .int (-1), .int (-1)]) (kX3_make l G T κ hst hE h0) trivial dmX3_make zf3 hqq10 dX3_content_18 zw1893 rfl rfl (Nat.le_of_ble_eq_true rfl) (Nat.le_of_ble_eq_true rfl) (Nat.le_of_ble_eq_true rfl) (Nat.le_of_ble_eq_true rfl) (Nat.le_of_ble_eq_true rfl) (fun E w q hE hw => hO E w _ _ _ _ _ q hE (Nat.le_of_ble_eq_true rfl) (Nat.le_of_ble_eq_true rfl) hw) (fun x12 cw11 nw11 w11 hw11 pw11 => ?_)
    obtain ⟨rfl, rfl, kw11⟩ := pw11
    refine z_ior hC (pc := 21) (v := ((939524096 : Int32) ||| x12)) dX3_content_21 rfl ?_
    exact hR _ _ _ _ _ _ dX3_content_22 rfl (Nat.le_of_ble_eq_true rfl) (Nat.le_of_ble_eq_true rfl) ⟨hw11, rfl, rfl, (tKeep.tr (tKeep.tr tKeep.rf kw5 rfl) kw11 rfl)⟩
set_option maxRecDepth 20000 in
theorem kX3_opened (l : Launch) (G : zG) (T : tT) (κ : Nat → List Nat) (hst : l.stackTraces = false) (hE : tE G T κ) {a0 : Nat} (h0 : a0 ∈ κ 3) {x1 : Int32} : tMi l G T yX3_opened cX3_opened 6 .int ["java/lang/IllegalStateException"] 8 128 1 6 [.ref a0, .int x1] uT (uPi 0x680000000000000000000000000000000000000000000000000) := by
  refine tMi.intro hst rfl (Nat.le_of_ble_eq_true rfl) ?_
  intro w0 hw0 _ X hC hR hO hX
  refine z_iload_n hC (pc := 0) 1 dX3_opened_0 rfl rfl ?_
  refine t_callSi hC hw0 (pc := 1) (As := [.int x1]) (kX3_sortOf l G T κ hst hE) trivial dmX3_sortOf dX3_opened_1 zw1844 rfl rfl (Nat.le_of_ble_eq_true rfl) (Nat.le_of_ble_eq_true rfl) (Nat.le_of_ble_eq_true rfl) (Nat.le_of_ble_eq_true rfl) (Nat.le_of_ble_eq_true rfl) (fun _ _ _ h => nomatch h) (fun x5 cw4 nw4 w4 hw4 pw4 => ?_)
  obtain ⟨rfl, rfl, kw4⟩ := pw4
  refine z_ldc hC (pc := 4) (v := 1073741824) dX3_opened_4 zw1905 ?_
  refine z_icmp_eq hC (pc := 6) 11 dX3_opened_6 (by decide) (fun c6 => ?_) (fun c6 => ?_)
  · refine z_iload_n hC (pc := 11) 1 dX3_opened_11 rfl rfl ?_
    refine z_ldc hC (pc := 12) (v := 134217727) dX3_opened_12 zw1849 ?_
    refine z_iand hC (pc := 14) (v := (x1 &&& 134217727)) dX3_opened_14 rfl ?_
    refine z_istore_n hC (pc := 15) (lv' := [(2, .int (x1 &&& 134217727)), (0, .ref a0), (1, .int x1)]) dX3_opened_15 rfl (by decide) rfl ?_
    refine z_aload_n hC (pc := 16) 1 dX3_opened_16 rfl rfl ?_
    refine u_get hC hw4 (pc := 17) zf3 2 (hE.o3 h0) rfl dX3_opened_17 zw505 (kk := fun va7 ta7 fa7 => ?_)
    obtain ⟨a7, ma7, rfl⟩ := ta7
    refine u_get hC hw4 (pc := 20) zf2 2 (hE.o2 ma7) rfl dX3_opened_20 zw243 (kk := fun va8 ta8 fa8 => ?_)
    obtain ⟨a8, ma8, rfl⟩ := ta8
    refine z_iload_n hC (pc := 23) 0 dX3_opened_23 rfl rfl ?_
    refine z_iconst hC (pc := 24) (v := 2) dX3_opened_24 (by decide) ?_
    refine z_iadd hC (pc := 25) (v := ((x1 &&& 134217727) + 2)) dX3_opened_25 rfl ?_
    refine t_callSNi hC hw4 (pc := 26) (As := [.ref a8, .int ((x1 &&& 134217727) + 2)]) (kX12_get l G T κ hst hE ma8) trivial dmX12_get dX3_opened_26 zw1850 rfl rfl (Nat.le_of_ble_eq_true rfl) (Nat.le_of_ble_eq_true rfl) (Nat.le_of_ble_eq_true rfl) (Nat.le_of_ble_eq_true rfl) (Nat.le_of_ble_eq_true rfl) (fun _ _ _ h => nomatch h) (fun x10 cw9 nw9 w9 hw9 pw9 => ?_)
    obtain ⟨rfl, rfl, kw9⟩ := pw9
    refine z_istore_n hC (pc := 29) (lv' := [(3, .int x10), (2, .int (x1 &&& 134217727)), (0, .ref a0), (1, .int x1)]) dX3_opened_29 rfl (by decide) rfl ?_
    refine z_aload_n hC (pc := 30) 2 dX3_opened_30 rfl rfl ?_
    refine z_iload_n hC (pc := 31) 0 dX3_opened_31 rfl rfl ?_
    obtain ⟨q11, hqq11⟩ := hE.o3 h0
    refine t_callVi hC hw9 (pc := 32) (As := [.int x10]) (kX3_newRow l G T κ hst hE h0) trivial dmX3_newRow zf3 hqq11 dX3_opened_32 zw1949 rfl rfl (Nat.le_of_ble_eq_true rfl) (Nat.le_of_ble_eq_true rfl) (Nat.le_of_ble_eq_true rfl) (Nat.le_of_ble_eq_true rfl) (Nat.le_of_ble_eq_true rfl) (fun E w q hE hw => hO E w _ _ _ _ _ q hE (Nat.le_of_ble_eq_true rfl) (Nat.le_of_ble_eq_true rfl) hw) (fun x13 cw12 nw12 w12 hw12 pw12 => ?_)
    obtain ⟨rfl, rfl, kw12⟩ := pw12
    refine z_istore hC (pc := 35) (lv' := [(4, .int x13), (3, .int x10), (2, .int (x1 &&& 134217727)), (0, .ref a0), (1, .int x1)]) dX3_opened_35 (by decide) rfl ?_
    refine z_iconst hC (pc := 37) (v := 0) dX3_opened_37 (by decide) ?_
    refine z_istore hC (pc := 38) (lv' := [(5, .int 0), (4, .int x13), (3, .int x10), (2, .int (x1 &&& 134217727)), (0, .ref a0), (1, .int x1)]) dX3_opened_38 (by decide) rfl ?_
    have j40 : ∀ (d40 : Nat), ∀ (w14 : va_W), tW T w14 → tKeep 0x80000000000000000000000000000000000000000000000000 w12 w14 → ∀ (x15 : Int32), ¬ x15 < 0 → (2 ^ 31 - (x15 : Int32).toInt).toNat ≤ d40 → zS X G 6 w14 [(0, .ref a0), (2, .int (x1 &&& 134217727)), (3, .int x10), (4, .int x13), (5, .int x15)] 0 0 40 [] := by
      intro d40
      induction d40 with
      | zero => intro w14 hw14 kw14 x15 v16 hd40; exact (t_zero hd40).elim
      | succ d40 ih40 =>
        intro w14 hw14 kw14 x15 v16 hd40
        refine z_iload hC (pc := 40) 4 dX3_opened_40 rfl ?_
        refine z_iload_n hC (pc := 42) 2 dX3_opened_42 rfl rfl ?_
        refine z_icmp_ge hC (pc := 43) 100 dX3_opened_43 (by decide) (fun c17 => ?_) (fun c17 => ?_)
        · refine z_iload hC (pc := 100) 3 dX3_opened_100 rfl ?_
          exact hR _ _ _ _ _ _ dX3_opened_102 rfl (Nat.le_of_ble_eq_true rfl) (Nat.le_of_ble_eq_true rfl) ⟨hw14, rfl, rfl, (tKeep.tr (tKeep.tr (tKeep.tr (tKeep.tr tKeep.rf kw4 rfl) kw9 rfl) kw12 rfl) kw14 rfl)⟩
        · refine z_aload_n hC (pc := 46) 0 dX3_opened_46 rfl rfl ?_
          refine z_iload hC (pc := 47) 3 dX3_opened_47 rfl ?_
          refine z_iload hC (pc := 49) 4 dX3_opened_49 rfl ?_
          refine z_aload_n hC (pc := 51) 0 dX3_opened_51 rfl rfl ?_
          refine z_aload_n hC (pc := 52) 0 dX3_opened_52 rfl rfl ?_
          refine u_getK hC (pc := 53) zf3 2 (tKeep.F kw14 (tKeep.F kw12 (tKeep.F kw9 fa7 rfl) rfl) rfl) dX3_opened_53 zw505 (kk := ?_)
          refine u_getK hC (pc := 56) zf2 2 (tKeep.F kw14 (tKeep.F kw12 (tKeep.F kw9 fa8 rfl) rfl) rfl) dX3_opened_56 zw243 (kk := ?_)
          refine z_iload_n hC (pc := 59) 1 dX3_opened_59 rfl rfl ?_
          refine z_iconst hC (pc := 60) (v := 5) dX3_opened_60 (by decide) ?_
          refine z_iadd hC (pc := 61) (v := ((x1 &&& 134217727) + 5)) dX3_opened_61 rfl ?_
          refine z_iconst hC (pc := 62) (v := 2) dX3_opened_62 (by decide) ?_
          refine z_iload hC (pc := 63) 4 dX3_opened_63 rfl ?_
          refine z_imul hC (pc := 65) (v := ((2 : Int32) * x15)) dX3_opened_65 rfl ?_
          refine z_iadd hC (pc := 66) (v := (((x1 &&& 134217727) + 5) + ((2 : Int32) * x15))) dX3_opened_66 rfl ?_
          refine t_callSNi hC hw14 (pc := 67) (As := [.ref a8, .int (((x1 &&& 134217727) + 5) + ((2 : Int32) * x15))]) (kX12_get l G T κ hst hE ma8) trivial dmX12_get dX3_opened_67 zw1850 rfl rfl (Nat.le_of_ble_eq_true rfl) (Nat.le_of_ble_eq_true rfl) (Nat.le_of_ble_eq_true rfl) (Nat.le_of_ble_eq_true rfl) (Nat.le_of_ble_eq_true rfl) (fun _ _ _ h => nomatch h) (fun x19 cw18 nw18 w18 hw18 pw18 => ?_)
          obtain ⟨rfl, rfl, kw18⟩ := pw18
          refine z_aload_n hC (pc := 70) 0 dX3_opened_70 rfl rfl ?_
          refine u_getK hC (pc := 71) zf3 2 (tKeep.F kw18 (tKeep.F kw14 (tKeep.F kw12 (tKeep.F kw9 fa7 rfl) rfl) rfl) rfl) dX3_opened_71 zw505 (kk := ?_)
          refine u_getK hC (pc := 74) zf2 2 (tKeep.F kw18 (tKeep.F kw14 (tKeep.F kw12 (tKeep.F kw9 fa8 rfl) rfl) rfl) rfl) dX3_opened_74 zw243 (kk := ?_)
          refine z_iload_n hC (pc := 77) 1 dX3_opened_77 rfl rfl ?_
          refine z_iconst hC (pc := 78) (v := 4) dX3_opened_78 (by decide) ?_
          refine z_iadd hC (pc := 79) (v := ((x1 &&& 134217727) + 4)) dX3_opened_79 rfl ?_
          refine z_iconst hC (pc := 80) (v := 2) dX3_opened_80 (by decide) ?_
          refine z_iload hC (pc := 81) 4 dX3_opened_81 rfl ?_
          refine z_imul hC (pc := 83) (v := ((2 : Int32) * x15)) dX3_opened_83 rfl ?_
          refine z_iadd hC (pc := 84) (v := (((x1 &&& 134217727) + 4) + ((2 : Int32) * x15))) dX3_opened_84 rfl ?_
          refine t_callSNi hC hw18 (pc := 85) (As := [.ref a8, .int (((x1 &&& 134217727) + 4) + ((2 : Int32) * x15))]) (kX12_get l G T κ hst hE ma8) trivial dmX12_get dX3_opened_85 zw1850 rfl rfl (Nat.le_of_ble_eq_true rfl) (Nat.le_of_ble_eq_true rfl) (Nat.le_of_ble_eq_true rfl) (Nat.le_of_ble_eq_true rfl) (Nat.le_of_ble_eq_true rfl) (fun _ _ _ h => nomatch h) (fun x21 cw20 nw20 w20 hw20 pw20 => ?_)
          obtain ⟨rfl, rfl, kw20⟩ := pw20
          refine t_callVi hC hw20 (pc := 88) (As := [.int x19, .int x21]) (kX3_content l G T κ hst hE h0) trivial dmX3_content zf3 hqq11 dX3_opened_88 zw1950 rfl rfl (Nat.le_of_ble_eq_true rfl) (Nat.le_of_ble_eq_true rfl) (Nat.le_of_ble_eq_true rfl) (Nat.le_of_ble_eq_true rfl) (Nat.le_of_ble_eq_true rfl) (fun E w q hE hw => hO E w _ _ _ _ _ q hE (Nat.le_of_ble_eq_true rfl) (Nat.le_of_ble_eq_true rfl) hw) (fun x23 cw22 nw22 w22 hw22 pw22 => ?_)
          obtain ⟨rfl, rfl, kw22⟩ := pw22
          refine t_callVv hC hw22 (pc := 91) (As := [.int x13, .int x15, .int x23]) (kX3_put l G T κ hst hE h0) trivial dmX3_put zf3 hqq11 dX3_opened_91 zw1955 rfl rfl (Nat.le_of_ble_eq_true rfl) (Nat.le_of_ble_eq_true rfl) (Nat.le_of_ble_eq_true rfl) (Nat.le_of_ble_eq_true rfl) (Nat.le_of_ble_eq_true rfl) (fun _ _ _ h => nomatch h) (fun cw24 nw24 w24 hw24 pw24 => ?_)
          obtain ⟨rfl, rfl, kw24⟩ := pw24
          refine z_iinc hC (pc := 94) (v := (x15 + 1)) (lv' := [(5, .int (x15 + 1)), (0, .ref a0), (2, .int (x1 &&& 134217727)), (3, .int x10), (4, .int x13)]) 4 dX3_opened_94 rfl (congrArg _ (by decide)) (by decide) rfl ?_
          refine z_goto hC (pc := 97) 40 dX3_opened_97 (by decide) ?_
          refine z_lvs [1, 2, 3, 4, 0] rfl ?_
          exact ih40 w24 hw24 (tKeep.tr (tKeep.tr (tKeep.tr (tKeep.tr (tKeep.tr tKeep.rf kw14 rfl) kw18 rfl) kw20 rfl) kw22 rfl) kw24 rfl) (x15 + 1) (t_nnI v16 (Int32.not_le.mp c17)) (t_up (Int32.not_le.mp c17) hd40)
    refine z_lvs [4, 3, 2, 1, 0] rfl ?_
    exact j40 _ w12 hw12 tKeep.rf 0 (by decide) (Nat.le_refl _)
  · refine z_iload_n hC (pc := 9) 1 dX3_opened_9 rfl rfl ?_
    exact hR _ _ _ _ _ _ dX3_opened_10 rfl (Nat.le_of_ble_eq_true rfl) (Nat.le_of_ble_eq_true rfl) ⟨hw4, rfl, rfl, (tKeep.tr tKeep.rf kw4 rfl)⟩
set_option maxRecDepth 20000 in
theorem kX5_done (l : Launch) (G : zG) (T : tT) (κ : Nat → List Nat) (hst : l.stackTraces = false) (hE : tE G T κ) {a0 : Nat} (h0 : a0 ∈ κ 5) : tMi l G T yX5_done cX5_done 1 .int [] 0 0 0 0 [.ref a0] uT (uPi 0x8000000000000000000000000000000000000000000000000000000000000000000000000000000000) := by
  refine tMi.intro hst rfl (Nat.le_of_ble_eq_true rfl) ?_
  intro w0 hw0 _ X hC hR hO hX
  refine z_aload_n hC (pc := 0) 0 dX5_done_0 rfl rfl ?_
  refine u_get hC hw0 (pc := 1) zf5 7 (hE.o5 h0) rfl dX5_done_1 zw649 (kk := fun vx3 tx3 fx3 => ?_)
  obtain ⟨x3, rfl⟩ := tx3
  have j19 : zS X G 1 w0 [] 0 0 19 [] := by
    refine z_iconst hC (pc := 19) (v := (-1)) dX5_done_19 (by decide) ?_
    exact hR _ _ _ _ _ _ dX5_done_20 rfl (Nat.le_of_ble_eq_true rfl) (Nat.le_of_ble_eq_true rfl) ⟨hw0, rfl, rfl, tKeep.rf⟩
  refine z_if_le hC (pc := 4) 19 dX5_done_4 (by decide) (fun c4 => ?_) (fun c4 => ?_)
  · refine z_lvs [] rfl ?_
    exact j19
  · refine z_aload_n hC (pc := 7) 0 dX5_done_7 rfl rfl ?_
    refine u_getK hC (pc := 8) zf5 7 fx3 dX5_done_8 zw649 (kk := ?_)
    refine z_aload_n hC (pc := 11) 0 dX5_done_11 rfl rfl ?_
    refine u_get hC hw0 (pc := 12) zf5 6 (hE.o5 h0) rfl dX5_done_12 zw648 (kk := fun va5 ta5 fa5 => ?_)
    obtain ⟨a5, ma5, rfl⟩ := ta5
    obtain ⟨N6, hN6, AN6⟩ := hE.ints ma5
    refine u_alenI hC hw0 (pc := 15) AN6 dX5_done_15 ?_
    refine z_icmp_le hC (pc := 16) 21 dX5_done_16 (by decide) (fun c7 => ?_) (fun c7 => ?_)
    · refine z_aload_n hC (pc := 21) 0 dX5_done_21 rfl rfl ?_
      refine z_dup hC (pc := 22) dX5_done_22 rfl ?_
      refine u_getK hC (pc := 23) zf5 7 fx3 dX5_done_23 zw649 (kk := ?_)
      refine z_iconst hC (pc := 26) (v := 1) dX5_done_26 (by decide) ?_
      refine z_isub hC (pc := 27) (v := (x3 - 1)) dX5_done_27 rfl ?_
      refine u_put hC hw0 (pc := 28) zf5 7 (hE.o5 h0) rfl ⟨_, rfl⟩ dX5_done_28 zw649 rfl rfl rfl (kk := fun w8 hw8 fw8 kw8 => ?_)
      refine z_aload_n hC (pc := 31) 0 dX5_done_31 rfl rfl ?_
      refine u_getK hC (pc := 32) zf5 6 (tKeep.F kw8 fa5 rfl) dX5_done_32 zw648 (kk := ?_)
      refine z_aload_n hC (pc := 35) 0 dX5_done_35 rfl rfl ?_
      refine u_getK hC (pc := 36) zf5 7 fw8 dX5_done_36 zw649 (kk := ?_)
      refine t_iald hC hw8 (pc := 39) AN6 dX5_done_39 (by have o1 := Int32.le_toInt x3; have o2 := Int32.toInt_lt x3; have o3 : (0 : Int32).toInt = 0 := (by decide); have o4 := t_fne c4; have o5 : (Int32.ofNat N6).toInt = N6 := nI_toInt hN6; have o6 := hN6; have o7 := t_fe c7; have o8 : (1 : Int32).toInt = 1 := (by decide); have o9 := t_subO x3 1; rw [vp_in_iff]; omega) (fun x9 _ => ?_)
      exact hR _ _ _ _ _ _ dX5_done_40 rfl (Nat.le_of_ble_eq_true rfl) (Nat.le_of_ble_eq_true rfl) ⟨hw8, rfl, rfl, (tKeep.tr tKeep.rf kw8 rfl)⟩
    · refine z_lvs [] rfl ?_
      exact j19
set_option maxRecDepth 20000 in
theorem kX5_optionsBack (l : Launch) (G : zG) (T : tT) (κ : Nat → List Nat) (hst : l.stackTraces = false) (hE : tE G T κ) {a0 : Nat} (h0 : a0 ∈ κ 5) : tMv l G T yX5_optionsBack cX5_optionsBack 1 [] 1 20 0 0 [.ref a0] uT (uPv 0xc00000000000000000000000000000000000000000000000000000000000000000000000000000000000000000000007808000000000000000000000000000000000000000000000000000000000000000000000000000000000) := by
  refine tMv.intro hst rfl (Nat.le_of_ble_eq_true rfl) ?_
  intro w0 hw0 _ X hC hR hO hX
  refine z_aload_n hC (pc := 0) 0 dX5_optionsBack_0 rfl rfl ?_
  obtain ⟨q3, hqq3⟩ := hE.o5 h0
  refine t_callVi hC hw0 (pc := 1) (As := []) (kX5_done l G T κ hst hE h0) trivial dmX5_done zf5 hqq3 dX5_optionsBack_1 zw1960 rfl rfl (Nat.le_of_ble_eq_true rfl) (Nat.le_of_ble_eq_true rfl) (Nat.le_of_ble_eq_true rfl) (Nat.le_of_ble_eq_true rfl) (Nat.le_of_ble_eq_true rfl) (fun _ _ _ h => nomatch h) (fun x5 cw4 nw4 w4 hw4 pw4 => ?_)
  obtain ⟨rfl, rfl, kw4⟩ := pw4
  refine z_pop hC (pc := 4) dX5_optionsBack_4 rfl ?_
  refine z_aload_n hC (pc := 5) 0 dX5_optionsBack_5 rfl rfl ?_
  refine u_get hC hw4 (pc := 6) zf5 1 (hE.o5 h0) rfl dX5_optionsBack_6 zw642 (kk := fun va6 ta6 fa6 => ?_)
  obtain ⟨a6, ma6, rfl⟩ := ta6
  refine z_aload_n hC (pc := 9) 0 dX5_optionsBack_9 rfl rfl ?_
  refine t_callVi hC hw4 (pc := 10) (As := []) (kX5_done l G T κ hst hE h0) trivial dmX5_done zf5 hqq3 dX5_optionsBack_10 zw1960 rfl rfl (Nat.le_of_ble_eq_true rfl) (Nat.le_of_ble_eq_true rfl) (Nat.le_of_ble_eq_true rfl) (Nat.le_of_ble_eq_true rfl) (Nat.le_of_ble_eq_true rfl) (fun _ _ _ h => nomatch h) (fun x8 cw7 nw7 w7 hw7 pw7 => ?_)
  obtain ⟨rfl, rfl, kw7⟩ := pw7
  refine u_put hC hw7 (pc := 13) zf11 15 (hE.o11 ma6) rfl ⟨_, rfl⟩ dX5_optionsBack_13 zw606 rfl rfl rfl (kk := fun w9 hw9 fw9 kw9 => ?_)
  refine z_aload_n hC (pc := 16) 0 dX5_optionsBack_16 rfl rfl ?_
  refine u_getK hC (pc := 17) zf5 1 (tKeep.F kw9 (tKeep.F kw7 fa6 rfl) rfl) dX5_optionsBack_17 zw642 (kk := ?_)
  refine z_aload_n hC (pc := 20) 0 dX5_optionsBack_20 rfl rfl ?_
  refine t_callVi hC hw9 (pc := 21) (As := []) (kX5_done l G T κ hst hE h0) trivial dmX5_done zf5 hqq3 dX5_optionsBack_21 zw1960 rfl rfl (Nat.le_of_ble_eq_true rfl) (Nat.le_of_ble_eq_true rfl) (Nat.le_of_ble_eq_true rfl) (Nat.le_of_ble_eq_true rfl) (Nat.le_of_ble_eq_true rfl) (fun _ _ _ h => nomatch h) (fun x11 cw10 nw10 w10 hw10 pw10 => ?_)
  obtain ⟨rfl, rfl, kw10⟩ := pw10
  refine u_put hC hw10 (pc := 24) zf11 14 (hE.o11 ma6) rfl ⟨_, rfl⟩ dX5_optionsBack_24 zw604 rfl rfl rfl (kk := fun w12 hw12 fw12 kw12 => ?_)
  refine z_aload_n hC (pc := 27) 0 dX5_optionsBack_27 rfl rfl ?_
  refine z_aload_n hC (pc := 28) 0 dX5_optionsBack_28 rfl rfl ?_
  refine t_callVi hC hw12 (pc := 29) (As := []) (kX5_done l G T κ hst hE h0) trivial dmX5_done zf5 hqq3 dX5_optionsBack_29 zw1960 rfl rfl (Nat.le_of_ble_eq_true rfl) (Nat.le_of_ble_eq_true rfl) (Nat.le_of_ble_eq_true rfl) (Nat.le_of_ble_eq_true rfl) (Nat.le_of_ble_eq_true rfl) (fun _ _ _ h => nomatch h) (fun x14 cw13 nw13 w13 hw13 pw13 => ?_)
  obtain ⟨rfl, rfl, kw13⟩ := pw13
  refine u_put hC hw13 (pc := 32) zf5 18 (hE.o5 h0) rfl ⟨_, rfl⟩ dX5_optionsBack_32 zw660 rfl rfl rfl (kk := fun w15 hw15 fw15 kw15 => ?_)
  refine z_aload_n hC (pc := 35) 0 dX5_optionsBack_35 rfl rfl ?_
  refine z_aload_n hC (pc := 36) 0 dX5_optionsBack_36 rfl rfl ?_
  refine t_callVi hC hw15 (pc := 37) (As := []) (kX5_done l G T κ hst hE h0) trivial dmX5_done zf5 hqq3 dX5_optionsBack_37 zw1960 rfl rfl (Nat.le_of_ble_eq_true rfl) (Nat.le_of_ble_eq_true rfl) (Nat.le_of_ble_eq_true rfl) (Nat.le_of_ble_eq_true rfl) (Nat.le_of_ble_eq_true rfl) (fun _ _ _ h => nomatch h) (fun x17 cw16 nw16 w16 hw16 pw16 => ?_)
  obtain ⟨rfl, rfl, kw16⟩ := pw16
  refine u_put hC hw16 (pc := 40) zf5 17 (hE.o5 h0) rfl ⟨_, rfl⟩ dX5_optionsBack_40 zw659 rfl rfl rfl (kk := fun w18 hw18 fw18 kw18 => ?_)
  refine z_aload_n hC (pc := 43) 0 dX5_optionsBack_43 rfl rfl ?_
  refine z_aload_n hC (pc := 44) 0 dX5_optionsBack_44 rfl rfl ?_
  refine t_callVi hC hw18 (pc := 45) (As := []) (kX5_done l G T κ hst hE h0) trivial dmX5_done zf5 hqq3 dX5_optionsBack_45 zw1960 rfl rfl (Nat.le_of_ble_eq_true rfl) (Nat.le_of_ble_eq_true rfl) (Nat.le_of_ble_eq_true rfl) (Nat.le_of_ble_eq_true rfl) (Nat.le_of_ble_eq_true rfl) (fun _ _ _ h => nomatch h) (fun x20 cw19 nw19 w19 hw19 pw19 => ?_)
  obtain ⟨rfl, rfl, kw19⟩ := pw19
  refine u_put hC hw19 (pc := 48) zf5 16 (hE.o5 h0) rfl ⟨_, rfl⟩ dX5_optionsBack_48 zw658 rfl rfl rfl (kk := fun w21 hw21 fw21 kw21 => ?_)
  refine z_aload_n hC (pc := 51) 0 dX5_optionsBack_51 rfl rfl ?_
  refine z_aload_n hC (pc := 52) 0 dX5_optionsBack_52 rfl rfl ?_
  refine t_callVi hC hw21 (pc := 53) (As := []) (kX5_done l G T κ hst hE h0) trivial dmX5_done zf5 hqq3 dX5_optionsBack_53 zw1960 rfl rfl (Nat.le_of_ble_eq_true rfl) (Nat.le_of_ble_eq_true rfl) (Nat.le_of_ble_eq_true rfl) (Nat.le_of_ble_eq_true rfl) (Nat.le_of_ble_eq_true rfl) (fun _ _ _ h => nomatch h) (fun x23 cw22 nw22 w22 hw22 pw22 => ?_)
  obtain ⟨rfl, rfl, kw22⟩ := pw22
  refine u_put hC hw22 (pc := 56) zf5 15 (hE.o5 h0) rfl ⟨_, rfl⟩ dX5_optionsBack_56 zw657 rfl rfl rfl (kk := fun w24 hw24 fw24 kw24 => ?_)
  exact hR _ _ _ _ _ dX5_optionsBack_59 (Nat.le_of_ble_eq_true rfl) (Nat.le_of_ble_eq_true rfl) ⟨hw24, rfl, rfl, (tKeep.tr (tKeep.tr (tKeep.tr (tKeep.tr (tKeep.tr (tKeep.tr (tKeep.tr (tKeep.tr (tKeep.tr (tKeep.tr (tKeep.tr (tKeep.tr (tKeep.tr tKeep.rf kw4 rfl) kw7 rfl) kw9 rfl) kw10 rfl) kw12 rfl) kw13 rfl) kw15 rfl) kw16 rfl) kw18 rfl) kw19 rfl) kw21 rfl) kw22 rfl) kw24 rfl)⟩
set_option maxRecDepth 20000 in
theorem kX11_wordAt (l : Launch) (G : zG) (T : tT) (κ : Nat → List Nat) (hst : l.stackTraces = false) (hE : tE G T κ) {a0 : Nat} (h0 : a0 ∈ κ 11) : tMi l G T yX11_wordAt cX11_wordAt 1 .int [] 0 0 0 0 [.ref a0] uT (uPi 0x0) := by
  refine tMi.intro hst rfl (Nat.le_of_ble_eq_true rfl) ?_
  intro w0 hw0 _ X hC hR hO hX
  refine z_aload_n hC (pc := 0) 0 dX11_wordAt_0 rfl rfl ?_
  refine u_get hC hw0 (pc := 1) zf11 8 (hE.o11 h0) rfl dX11_wordAt_1 zw593 (kk := fun vx3 tx3 fx3 => ?_)
  obtain ⟨x3, rfl⟩ := tx3
  refine z_iconst hC (pc := 4) (v := 1) dX11_wordAt_4 (by decide) ?_
  refine z_isub hC (pc := 5) (v := (x3 - 1)) dX11_wordAt_5 rfl ?_
  refine z_sipush hC (pc := 6) (v := 1000) dX11_wordAt_6 (by decide) ?_
  refine z_imul hC (pc := 9) (v := ((x3 - 1) * 1000)) dX11_wordAt_9 rfl ?_
  exact hR _ _ _ _ _ _ dX11_wordAt_10 rfl (Nat.le_of_ble_eq_true rfl) (Nat.le_of_ble_eq_true rfl) ⟨hw0, rfl, rfl, tKeep.rf⟩
set_option maxRecDepth 20000 in
theorem kX3_newWord (l : Launch) (G : zG) (T : tT) (κ : Nat → List Nat) (hst : l.stackTraces = false) (hE : tE G T κ) {a0 : Nat} (h0 : a0 ∈ κ 3) {a1 : Nat} (h1 : tRd G κ a1) {x2 : Int32} {x3 : Int32} : tMi l G T yX3_newWord cX3_newWord 6 .int ["java/lang/IllegalStateException"] 6 81 1 6 [.ref a0, .ref a1, .int x2, .int x3] uT (uPi 0x1000000000000000000000000000000000000000000000000000) := by
  refine tMi.intro hst rfl (Nat.le_of_ble_eq_true rfl) ?_
  intro w0 hw0 _ X hC hR hO hX
  refine z_aload_n hC (pc := 0) 0 dX3_newWord_0 rfl rfl ?_
  refine u_get hC hw0 (pc := 1) zf3 12 (hE.o3 h0) rfl dX3_newWord_1 zw519 (kk := fun vx6 tx6 fx6 => ?_)
  obtain ⟨x6, rfl⟩ := tx6
  refine z_iload_n hC (pc := 4) 3 dX3_newWord_4 rfl rfl ?_
  refine z_iadd hC (pc := 5) (v := (x6 + x3)) dX3_newWord_5 rfl ?_
  refine z_aload_n hC (pc := 6) 0 dX3_newWord_6 rfl rfl ?_
  refine u_get hC hw0 (pc := 7) zf3 11 (hE.o3 h0) rfl dX3_newWord_7 zw517 (kk := fun va7 ta7 fa7 => ?_)
  obtain ⟨a7, ma7, rfl⟩ := ta7
  obtain ⟨N8, hN8, AN8⟩ := hE.byts ma7
  refine u_alenB hC hw0 (pc := 10) (Or.inl AN8) dX3_newWord_10 ?_
  refine z_icmp_le hC (pc := 11) 22 dX3_newWord_11 (by decide) (fun c9 => ?_) (fun c9 => ?_)
  · refine z_aload_n hC (pc := 22) 0 dX3_newWord_22 rfl rfl ?_
    refine u_getK hC (pc := 23) zf3 12 fx6 dX3_newWord_23 zw519 (kk := ?_)
    refine z_istore hC (pc := 26) (lv' := [(4, .int x6), (0, .ref a0), (1, .ref a1), (2, .int x2), (3, .int x3)]) dX3_newWord_26 (by decide) rfl ?_
    refine z_iconst hC (pc := 28) (v := 0) dX3_newWord_28 (by decide) ?_
    refine z_istore hC (pc := 29) (lv' := [(5, .int 0), (4, .int x6), (0, .ref a0), (1, .ref a1), (2, .int x2), (3, .int x3)]) dX3_newWord_29 (by decide) rfl ?_
    have j31 : ∀ (d31 : Nat), ∀ (w10 : va_W), tW T w10 → tKeep 0x0 w0 w10 → ∀ (x11 : Int32), ¬ x11 < 0 → (2 ^ 31 - (x11 : Int32).toInt).toNat ≤ d31 → zS X G 6 w10 [(0, .ref a0), (1, .ref a1), (2, .int x2), (3, .int x3), (4, .int x6), (5, .int x11)] 0 0 31 [] := by
      intro d31
      induction d31 with
      | zero => intro w10 hw10 kw10 x11 v12 hd31; exact (t_zero hd31).elim
      | succ d31 ih31 =>
        intro w10 hw10 kw10 x11 v12 hd31
        refine z_iload hC (pc := 31) 5 dX3_newWord_31 rfl ?_
        refine z_iload_n hC (pc := 33) 3 dX3_newWord_33 rfl rfl ?_
        refine z_icmp_ge hC (pc := 34) 63 dX3_newWord_34 (by decide) (fun c13 => ?_) (fun c13 => ?_)
        · refine z_aload_n hC (pc := 63) 0 dX3_newWord_63 rfl rfl ?_
          refine z_dup hC (pc := 64) dX3_newWord_64 rfl ?_
          refine u_getK hC (pc := 65) zf3 12 (tKeep.F kw10 fx6 rfl) dX3_newWord_65 zw519 (kk := ?_)
          refine z_iload_n hC (pc := 68) 3 dX3_newWord_68 rfl rfl ?_
          refine z_iadd hC (pc := 69) (v := (x6 + x3)) dX3_newWord_69 rfl ?_
          refine u_put hC hw10 (pc := 70) zf3 12 (hE.o3 h0) rfl ⟨_, rfl⟩ dX3_newWord_70 zw519 rfl rfl rfl (kk := fun w14 hw14 fw14 kw14 => ?_)
          refine z_ldc hC (pc := 73) (v := 536870912) dX3_newWord_73 zw1978 ?_
          refine z_iload hC (pc := 75) 4 dX3_newWord_75 rfl ?_
          refine z_bipush hC (pc := 77) (v := 10) dX3_newWord_77 (by decide) ?_
          refine z_ishl hC (pc := 79) (v := (x6 <<< (10 &&& 31))) dX3_newWord_79 rfl ?_
          refine z_ior hC (pc := 80) (v := ((536870912 : Int32) ||| (x6 <<< (10 &&& 31)))) dX3_newWord_80 rfl ?_
          refine z_iload_n hC (pc := 81) 3 dX3_newWord_81 rfl rfl ?_
          refine z_ior hC (pc := 82) (v := (((536870912 : Int32) ||| (x6 <<< (10 &&& 31))) ||| x3)) dX3_newWord_82 rfl ?_
          exact hR _ _ _ _ _ _ dX3_newWord_83 rfl (Nat.le_of_ble_eq_true rfl) (Nat.le_of_ble_eq_true rfl) ⟨hw14, rfl, rfl, (tKeep.tr (tKeep.tr tKeep.rf kw10 rfl) kw14 rfl)⟩
        · refine z_aload_n hC (pc := 37) 0 dX3_newWord_37 rfl rfl ?_
          refine u_getK hC (pc := 38) zf3 11 (tKeep.F kw10 fa7 rfl) dX3_newWord_38 zw517 (kk := ?_)
          refine z_iload hC (pc := 41) 4 dX3_newWord_41 rfl ?_
          refine z_iload hC (pc := 43) 5 dX3_newWord_43 rfl ?_
          refine z_iadd hC (pc := 45) (v := (x6 + x11)) dX3_newWord_45 rfl ?_
          refine z_aload_n hC (pc := 46) 1 dX3_newWord_46 rfl rfl ?_
          refine z_iload_n hC (pc := 47) 2 dX3_newWord_47 rfl rfl ?_
          refine z_iload hC (pc := 48) 5 dX3_newWord_48 rfl ?_
          refine z_iadd hC (pc := 50) (v := (x2 + x11)) dX3_newWord_50 rfl ?_
          refine t_callSNi hC hw10 (pc := 51) (As := [.ref a1, .int (x2 + x11)]) (kX12_getByte l G T κ hst hE h1) trivial dmX12_getByte dX3_newWord_51 zw1976 rfl rfl (Nat.le_of_ble_eq_true rfl) (Nat.le_of_ble_eq_true rfl) (Nat.le_of_ble_eq_true rfl) (Nat.le_of_ble_eq_true rfl) (Nat.le_of_ble_eq_true rfl) (fun _ _ _ h => nomatch h) (fun x16 cw15 nw15 w15 hw15 pw15 => ?_)
          obtain ⟨rfl, rfl, kw15⟩ := pw15
          refine t_callSNv hC hw15 (pc := 54) (As := [.ref a7, .int (x6 + x11), .int x16]) (kX12_setByte l G T κ hst hE ma7) trivial dmX12_setByte dX3_newWord_54 zw1977 rfl rfl (Nat.le_of_ble_eq_true rfl) (Nat.le_of_ble_eq_true rfl) (Nat.le_of_ble_eq_true rfl) (Nat.le_of_ble_eq_true rfl) (Nat.le_of_ble_eq_true rfl) (fun _ _ _ h => nomatch h) (fun cw17 nw17 w17 hw17 pw17 => ?_)
          obtain ⟨rfl, rfl, kw17⟩ := pw17
          refine z_iinc hC (pc := 57) (v := (x11 + 1)) (lv' := [(5, .int (x11 + 1)), (0, .ref a0), (1, .ref a1), (2, .int x2), (3, .int x3), (4, .int x6)]) 5 dX3_newWord_57 rfl (congrArg _ (by decide)) (by decide) rfl ?_
          refine z_goto hC (pc := 60) 31 dX3_newWord_60 (by decide) ?_
          refine z_lvs [1, 2, 3, 4, 5, 0] rfl ?_
          exact ih31 w17 hw17 (tKeep.tr (tKeep.tr (tKeep.tr tKeep.rf kw10 rfl) kw15 rfl) kw17 rfl) (x11 + 1) (t_nnI v12 (Int32.not_le.mp c13)) (t_up (Int32.not_le.mp c13) hd31)
    refine z_lvs [2, 3, 4, 5, 1, 0] rfl ?_
    exact j31 _ w0 hw0 tKeep.rf 0 (by decide) (Nat.le_refl _)
  · exact hX "java/lang/IllegalStateException" _ _ _ _ _ _ 79 81 exn (by decide) hw0 dX3_newWord_14 dX3_newWord_17 dX3_newWord_18 dX3_newWord_21 (by decide +kernel) (by decide +kernel) zw1820 zw20 atg_X3_81 atb_X3_81 ato_X3_81 (by decide) (Nat.le_of_ble_eq_true rfl) (Nat.le_of_ble_eq_true rfl) (Nat.le_of_ble_eq_true rfl)
set_option maxRecDepth 20000 in
theorem kX5_push (l : Launch) (G : zG) (T : tT) (κ : Nat → List Nat) (hst : l.stackTraces = false) (hE : tE G T κ) {a0 : Nat} (h0 : a0 ∈ κ 5) {x1 : Int32} : tMv l G T yX5_push cX5_push 2 ["java/lang/IllegalStateException"] 6 81 1 6 [.ref a0, .int x1] uT (uPv 0x2000000000000000000000000000000000000000000000000000000000000000000000000000000000) := by
  refine tMv.intro hst rfl (Nat.le_of_ble_eq_true rfl) ?_
  intro w0 hw0 _ X hC hR hO hX
  refine z_aload_n hC (pc := 0) 0 dX5_push_0 rfl rfl ?_
  refine u_get hC hw0 (pc := 1) zf5 5 (hE.o5 h0) rfl dX5_push_1 zw647 (kk := fun vx4 tx4 fx4 => ?_)
  obtain ⟨x4, rfl⟩ := tx4
  have j19 : zS X G 2 w0 [] 0 0 19 [] := by
    exact hX "java/lang/IllegalStateException" _ _ _ _ _ _ 134 236 exn (by decide) hw0 dX5_push_19 dX5_push_22 dX5_push_23 dX5_push_26 (by decide +kernel) (by decide +kernel) zw1790 zw20 atg_X5_236 atb_X5_236 ato_X5_236 (by decide) (Nat.le_of_ble_eq_true rfl) (Nat.le_of_ble_eq_true rfl) (Nat.le_of_ble_eq_true rfl)
  refine z_if_lt hC (pc := 4) 19 dX5_push_4 (by decide) (fun c5 => ?_) (fun c5 => ?_)
  · refine z_lvs [] rfl ?_
    exact j19
  · refine z_aload_n hC (pc := 7) 0 dX5_push_7 rfl rfl ?_
    refine u_getK hC (pc := 8) zf5 5 fx4 dX5_push_8 zw647 (kk := ?_)
    refine z_aload_n hC (pc := 11) 0 dX5_push_11 rfl rfl ?_
    refine u_get hC hw0 (pc := 12) zf5 4 (hE.o5 h0) rfl dX5_push_12 zw646 (kk := fun va6 ta6 fa6 => ?_)
    obtain ⟨a6, ma6, rfl⟩ := ta6
    obtain ⟨N7, hN7, AN7⟩ := hE.ints ma6
    refine u_alenI hC hw0 (pc := 15) AN7 dX5_push_15 ?_
    refine z_icmp_lt hC (pc := 16) 27 dX5_push_16 (by decide) (fun c8 => ?_) (fun c8 => ?_)
    · refine z_aload_n hC (pc := 27) 0 dX5_push_27 rfl rfl ?_
      refine u_getK hC (pc := 28) zf5 4 fa6 dX5_push_28 zw646 (kk := ?_)
      refine z_aload_n hC (pc := 31) 0 dX5_push_31 rfl rfl ?_
      refine u_getK hC (pc := 32) zf5 5 fx4 dX5_push_32 zw647 (kk := ?_)
      refine z_iload_n hC (pc := 35) 1 dX5_push_35 rfl rfl ?_
      refine u_iast hC hw0 (pc := 36) AN7 dX5_push_36 (t_inB hN7 c5 (Int32.not_le.mpr c8)) trivial (fun w9 hw9 kw9 => ?_)
      refine z_aload_n hC (pc := 37) 0 dX5_push_37 rfl rfl ?_
      refine z_dup hC (pc := 38) dX5_push_38 rfl ?_
      refine u_getK hC (pc := 39) zf5 5 (tKeep.F kw9 fx4 rfl) dX5_push_39 zw647 (kk := ?_)
      refine z_iconst hC (pc := 42) (v := 1) dX5_push_42 (by decide) ?_
      refine z_iadd hC (pc := 43) (v := (x4 + 1)) dX5_push_43 rfl ?_
      refine u_put hC hw9 (pc := 44) zf5 5 (hE.o5 h0) rfl ⟨_, rfl⟩ dX5_push_44 zw647 rfl rfl rfl (kk := fun w10 hw10 fw10 kw10 => ?_)
      exact hR _ _ _ _ _ dX5_push_47 (Nat.le_of_ble_eq_true rfl) (Nat.le_of_ble_eq_true rfl) ⟨hw10, rfl, rfl, (tKeep.tr (tKeep.tr tKeep.rf kw9 rfl) kw10 rfl)⟩
    · refine z_lvs [] rfl ?_
      exact j19
set_option maxRecDepth 20000 in
theorem kX5_wordOver (l : Launch) (G : zG) (T : tT) (κ : Nat → List Nat) (hst : l.stackTraces = false) (hE : tE G T κ) {a0 : Nat} (h0 : a0 ∈ κ 5) : tMv l G T yX5_wordOver cX5_wordOver 2 ["java/lang/IllegalStateException"] 7 106 1 6 [.ref a0] uT (uPv 0xe5e00000000000000000000000000000000000000000000000000000000000000000000000000000000000000000000780a000000000000000000000000000001000000000000000000000000000000000000000000000000000) := by
  refine tMv.intro hst rfl (Nat.le_of_ble_eq_true rfl) ?_
  intro w0 hw0 _ X hC hR hO hX
  refine z_aload_n hC (pc := 0) 0 dX5_wordOver_0 rfl rfl ?_
  refine u_get hC hw0 (pc := 1) zf5 2 (hE.o5 h0) rfl dX5_wordOver_1 zw644 (kk := fun va3 ta3 fa3 => ?_)
  obtain ⟨a3, ma3, rfl⟩ := ta3
  refine z_aload_n hC (pc := 4) 0 dX5_wordOver_4 rfl rfl ?_
  refine u_get hC hw0 (pc := 5) zf5 1 (hE.o5 h0) rfl dX5_wordOver_5 zw642 (kk := fun va4 ta4 fa4 => ?_)
  obtain ⟨a4, ma4, rfl⟩ := ta4
  refine u_get hC hw0 (pc := 8) zf11 9 (hE.o11 ma4) rfl dX5_wordOver_8 zw596 (kk := fun va5 ta5 fa5 => ?_)
  obtain ⟨a5, ma5, rfl⟩ := ta5
  refine z_aload_n hC (pc := 11) 0 dX5_wordOver_11 rfl rfl ?_
  refine u_getK hC (pc := 12) zf5 1 fa4 dX5_wordOver_12 zw642 (kk := ?_)
  obtain ⟨q6, hqq6⟩ := hE.o11 ma4
  refine t_callVi hC hw0 (pc := 15) (As := []) (kX11_wordAt l G T κ hst hE ma4) trivial dmX11_wordAt zf11 hqq6 dX5_wordOver_15 zw1968 rfl rfl (Nat.le_of_ble_eq_true rfl) (Nat.le_of_ble_eq_true rfl) (Nat.le_of_ble_eq_true rfl) (Nat.le_of_ble_eq_true rfl) (Nat.le_of_ble_eq_true rfl) (fun _ _ _ h => nomatch h) (fun x8 cw7 nw7 w7 hw7 pw7 => ?_)
  obtain ⟨rfl, rfl, kw7⟩ := pw7
  refine z_aload_n hC (pc := 18) 0 dX5_wordOver_18 rfl rfl ?_
  refine u_getK hC (pc := 19) zf5 1 (tKeep.F kw7 fa4 rfl) dX5_wordOver_19 zw642 (kk := ?_)
  refine u_get hC hw7 (pc := 22) zf11 10 (hE.o11 ma4) rfl dX5_wordOver_22 zw598 (kk := fun vx9 tx9 fx9 => ?_)
  obtain ⟨x9, rfl⟩ := tx9
  obtain ⟨q10, hqq10⟩ := hE.o3 ma3
  refine t_callVi hC hw7 (pc := 25) (As := [.ref a5, .int x8, .int x9]) (kX3_newWord l G T κ hst hE ma3 (Or.inl ma5)) trivial dmX3_newWord zf3 hqq10 dX5_wordOver_25 zw1972 rfl rfl (Nat.le_of_ble_eq_true rfl) (Nat.le_of_ble_eq_true rfl) (Nat.le_of_ble_eq_true rfl) (Nat.le_of_ble_eq_true rfl) (Nat.le_of_ble_eq_true rfl) (fun E w q hE hw => hO E w _ _ _ _ _ q hE (Nat.le_of_ble_eq_true rfl) (Nat.le_of_ble_eq_true rfl) hw) (fun x12 cw11 nw11 w11 hw11 pw11 => ?_)
  obtain ⟨rfl, rfl, kw11⟩ := pw11
  refine z_istore_n hC (pc := 28) (lv' := [(1, .int x12), (0, .ref a0)]) dX5_wordOver_28 rfl (by decide) rfl ?_
  refine z_aload_n hC (pc := 29) 1 dX5_wordOver_29 rfl rfl ?_
  obtain ⟨q13, hqq13⟩ := hE.o5 h0
  refine t_callVv hC hw11 (pc := 30) (As := []) (kX5_optionsBack l G T κ hst hE h0) trivial dmX5_optionsBack zf5 hqq13 dX5_wordOver_30 zw1956 rfl rfl (Nat.le_of_ble_eq_true rfl) (Nat.le_of_ble_eq_true rfl) (Nat.le_of_ble_eq_true rfl) (Nat.le_of_ble_eq_true rfl) (Nat.le_of_ble_eq_true rfl) (fun _ _ _ h => nomatch h) (fun cw14 nw14 w14 hw14 pw14 => ?_)
  obtain ⟨rfl, rfl, kw14⟩ := pw14
  refine z_aload_n hC (pc := 33) 1 dX5_wordOver_33 rfl rfl ?_
  refine u_getK hC (pc := 34) zf5 1 (tKeep.F kw14 (tKeep.F kw11 (tKeep.F kw7 fa4 rfl) rfl) rfl) dX5_wordOver_34 zw642 (kk := ?_)
  refine z_dup hC (pc := 37) dX5_wordOver_37 rfl ?_
  refine u_get hC hw14 (pc := 38) zf11 8 (hE.o11 ma4) rfl dX5_wordOver_38 zw594 (kk := fun vx16 tx16 fx16 => ?_)
  obtain ⟨x16, rfl⟩ := tx16
  refine z_iconst hC (pc := 41) (v := 1) dX5_wordOver_41 (by decide) ?_
  refine z_isub hC (pc := 42) (v := (x16 - 1)) dX5_wordOver_42 rfl ?_
  refine u_put hC hw14 (pc := 43) zf11 8 (hE.o11 ma4) rfl ⟨_, rfl⟩ dX5_wordOver_43 zw594 rfl rfl rfl (kk := fun w17 hw17 fw17 kw17 => ?_)
  refine z_aload_n hC (pc := 46) 1 dX5_wordOver_46 rfl rfl ?_
  refine u_getK hC (pc := 47) zf5 1 (tKeep.F kw17 (tKeep.F kw14 (tKeep.F kw11 (tKeep.F kw7 fa4 rfl) rfl) rfl) rfl) dX5_wordOver_47 zw642 (kk := ?_)
  refine z_aload_n hC (pc := 50) 1 dX5_wordOver_50 rfl rfl ?_
  refine t_callVi hC hw17 (pc := 51) (As := []) (kX5_done l G T κ hst hE h0) trivial dmX5_done zf5 hqq13 dX5_wordOver_51 zw1960 rfl rfl (Nat.le_of_ble_eq_true rfl) (Nat.le_of_ble_eq_true rfl) (Nat.le_of_ble_eq_true rfl) (Nat.le_of_ble_eq_true rfl) (Nat.le_of_ble_eq_true rfl) (fun _ _ _ h => nomatch h) (fun x19 cw18 nw18 w18 hw18 pw18 => ?_)
  obtain ⟨rfl, rfl, kw18⟩ := pw18
  refine u_put hC hw18 (pc := 54) zf11 15 (hE.o11 ma4) rfl ⟨_, rfl⟩ dX5_wordOver_54 zw606 rfl rfl rfl (kk := fun w20 hw20 fw20 kw20 => ?_)
  refine z_aload_n hC (pc := 57) 1 dX5_wordOver_57 rfl rfl ?_
  refine u_getK hC (pc := 58) zf5 1 (tKeep.F kw20 (tKeep.F kw18 (tKeep.F kw17 (tKeep.F kw14 (tKeep.F kw11 (tKeep.F kw7 fa4 rfl) rfl) rfl) rfl) rfl) rfl) dX5_wordOver_58 zw642 (kk := ?_)
  refine z_aload_n hC (pc := 61) 1 dX5_wordOver_61 rfl rfl ?_
  refine t_callVi hC hw20 (pc := 62) (As := []) (kX5_done l G T κ hst hE h0) trivial dmX5_done zf5 hqq13 dX5_wordOver_62 zw1960 rfl rfl (Nat.le_of_ble_eq_true rfl) (Nat.le_of_ble_eq_true rfl) (Nat.le_of_ble_eq_true rfl) (Nat.le_of_ble_eq_true rfl) (Nat.le_of_ble_eq_true rfl) (fun _ _ _ h => nomatch h) (fun x22 cw21 nw21 w21 hw21 pw21 => ?_)
  obtain ⟨rfl, rfl, kw21⟩ := pw21
  refine u_put hC hw21 (pc := 65) zf11 13 (hE.o11 ma4) rfl ⟨_, rfl⟩ dX5_wordOver_65 zw602 rfl rfl rfl (kk := fun w23 hw23 fw23 kw23 => ?_)
  refine z_aload_n hC (pc := 68) 1 dX5_wordOver_68 rfl rfl ?_
  refine u_getK hC (pc := 69) zf5 1 (tKeep.F kw23 (tKeep.F kw21 (tKeep.F kw20 (tKeep.F kw18 (tKeep.F kw17 (tKeep.F kw14 (tKeep.F kw11 (tKeep.F kw7 fa4 rfl) rfl) rfl) rfl) rfl) rfl) rfl) rfl) dX5_wordOver_69 zw642 (kk := ?_)
  refine z_aload_n hC (pc := 72) 1 dX5_wordOver_72 rfl rfl ?_
  refine t_callVi hC hw23 (pc := 73) (As := []) (kX5_done l G T κ hst hE h0) trivial dmX5_done zf5 hqq13 dX5_wordOver_73 zw1960 rfl rfl (Nat.le_of_ble_eq_true rfl) (Nat.le_of_ble_eq_true rfl) (Nat.le_of_ble_eq_true rfl) (Nat.le_of_ble_eq_true rfl) (Nat.le_of_ble_eq_true rfl) (fun _ _ _ h => nomatch h) (fun x25 cw24 nw24 w24 hw24 pw24 => ?_)
  obtain ⟨rfl, rfl, kw24⟩ := pw24
  refine u_put hC hw24 (pc := 76) zf11 10 (hE.o11 ma4) rfl ⟨_, rfl⟩ dX5_wordOver_76 zw598 rfl rfl rfl (kk := fun w26 hw26 fw26 kw26 => ?_)
  refine z_aload_n hC (pc := 79) 1 dX5_wordOver_79 rfl rfl ?_
  refine u_getK hC (pc := 80) zf5 1 (tKeep.F kw26 (tKeep.F kw24 (tKeep.F kw23 (tKeep.F kw21 (tKeep.F kw20 (tKeep.F kw18 (tKeep.F kw17 (tKeep.F kw14 (tKeep.F kw11 (tKeep.F kw7 fa4 rfl) rfl) rfl) rfl) rfl) rfl) rfl) rfl) rfl) rfl) dX5_wordOver_80 zw642 (kk := ?_)
  refine z_aload_n hC (pc := 83) 1 dX5_wordOver_83 rfl rfl ?_
  refine t_callVi hC hw26 (pc := 84) (As := []) (kX5_done l G T κ hst hE h0) trivial dmX5_done zf5 hqq13 dX5_wordOver_84 zw1960 rfl rfl (Nat.le_of_ble_eq_true rfl) (Nat.le_of_ble_eq_true rfl) (Nat.le_of_ble_eq_true rfl) (Nat.le_of_ble_eq_true rfl) (Nat.le_of_ble_eq_true rfl) (fun _ _ _ h => nomatch h) (fun x28 cw27 nw27 w27 hw27 pw27 => ?_)
  obtain ⟨rfl, rfl, kw27⟩ := pw27
  refine u_put hC hw27 (pc := 87) zf11 7 (hE.o11 ma4) rfl ⟨_, rfl⟩ dX5_wordOver_87 zw592 rfl rfl rfl (kk := fun w29 hw29 fw29 kw29 => ?_)
  refine z_aload_n hC (pc := 90) 1 dX5_wordOver_90 rfl rfl ?_
  refine u_getK hC (pc := 91) zf5 1 (tKeep.F kw29 (tKeep.F kw27 (tKeep.F kw26 (tKeep.F kw24 (tKeep.F kw23 (tKeep.F kw21 (tKeep.F kw20 (tKeep.F kw18 (tKeep.F kw17 (tKeep.F kw14 (tKeep.F kw11 (tKeep.F kw7 fa4 rfl) rfl) rfl) rfl) rfl) rfl) rfl) rfl) rfl) rfl) rfl) rfl) dX5_wordOver_91 zw642 (kk := ?_)
  refine z_aload_n hC (pc := 94) 1 dX5_wordOver_94 rfl rfl ?_
  refine t_callVi hC hw29 (pc := 95) (As := []) (kX5_done l G T κ hst hE h0) trivial dmX5_done zf5 hqq13 dX5_wordOver_95 zw1960 rfl rfl (Nat.le_of_ble_eq_true rfl) (Nat.le_of_ble_eq_true rfl) (Nat.le_of_ble_eq_true rfl) (Nat.le_of_ble_eq_true rfl) (Nat.le_of_ble_eq_true rfl) (fun _ _ _ h => nomatch h) (fun x31 cw30 nw30 w30 hw30 pw30 => ?_)
  obtain ⟨rfl, rfl, kw30⟩ := pw30
  refine z_iconst hC (pc := 98) (v := 1) dX5_wordOver_98 (by decide) ?_
  have j107 : ∀ (x32 : Int32), tZ (.int x32) → zS X G 2 w30 [(0, .ref a0), (1, .int x12)] 0 0 107 [.int x32, .ref a4] := by
    intro x32 zx32
    refine u_put hC hw30 (pc := 107) zf11 6 (hE.o11 ma4) rfl zx32 dX5_wordOver_107 zw590 rfl (t_nZ zx32) (t_fZ zx32) (kk := fun w33 hw33 fw33 kw33 => ?_)
    refine z_aload_n hC (pc := 110) 0 dX5_wordOver_110 rfl rfl ?_
    refine u_getK hC (pc := 111) zf5 1 (tKeep.F kw33 (tKeep.F kw30 (tKeep.F kw29 (tKeep.F kw27 (tKeep.F kw26 (tKeep.F kw24 (tKeep.F kw23 (tKeep.F kw21 (tKeep.F kw20 (tKeep.F kw18 (tKeep.F kw17 (tKeep.F kw14 (tKeep.F kw11 (tKeep.F kw7 fa4 rfl) rfl) rfl) rfl) rfl) rfl) rfl) rfl) rfl) rfl) rfl) rfl) rfl) rfl) dX5_wordOver_111 zw642 (kk := ?_)
    refine z_aload_n hC (pc := 114) 0 dX5_wordOver_114 rfl rfl ?_
    refine t_callVi hC hw33 (pc := 115) (As := []) (kX5_done l G T κ hst hE h0) trivial dmX5_done zf5 hqq13 dX5_wordOver_115 zw1960 rfl rfl (Nat.le_of_ble_eq_true rfl) (Nat.le_of_ble_eq_true rfl) (Nat.le_of_ble_eq_true rfl) (Nat.le_of_ble_eq_true rfl) (Nat.le_of_ble_eq_true rfl) (fun _ _ _ h => nomatch h) (fun x35 cw34 nw34 w34 hw34 pw34 => ?_)
    obtain ⟨rfl, rfl, kw34⟩ := pw34
    refine u_put hC hw34 (pc := 118) zf11 5 (hE.o11 ma4) rfl ⟨_, rfl⟩ dX5_wordOver_118 zw588 rfl rfl rfl (kk := fun w36 hw36 fw36 kw36 => ?_)
    refine z_aload_n hC (pc := 121) 0 dX5_wordOver_121 rfl rfl ?_
    refine z_iload_n hC (pc := 122) 1 dX5_wordOver_122 rfl rfl ?_
    refine t_callVv hC hw36 (pc := 123) (As := [.int x12]) (kX5_push l G T κ hst hE h0) trivial dmX5_push zf5 hqq13 dX5_wordOver_123 zw1979 rfl rfl (Nat.le_of_ble_eq_true rfl) (Nat.le_of_ble_eq_true rfl) (Nat.le_of_ble_eq_true rfl) (Nat.le_of_ble_eq_true rfl) (Nat.le_of_ble_eq_true rfl) (fun E w q hE hw => hO E w _ _ _ _ _ q hE (Nat.le_of_ble_eq_true rfl) (Nat.le_of_ble_eq_true rfl) hw) (fun cw37 nw37 w37 hw37 pw37 => ?_)
    obtain ⟨rfl, rfl, kw37⟩ := pw37
    exact hR _ _ _ _ _ dX5_wordOver_126 (Nat.le_of_ble_eq_true rfl) (Nat.le_of_ble_eq_true rfl) ⟨hw37, rfl, rfl, (tKeep.tr (tKeep.tr (tKeep.tr (tKeep.tr (tKeep.tr (tKeep.tr (tKeep.tr (tKeep.tr (tKeep.tr (tKeep.tr (tKeep.tr (tKeep.tr (tKeep.tr (tKeep.tr (tKeep.tr (tKeep.tr (tKeep.tr tKeep.rf kw7 rfl) kw11 rfl) kw14 rfl) kw17 rfl) kw18 rfl) kw20 rfl) kw21 rfl) kw23 rfl) kw24 rfl) kw26 rfl) kw27 rfl) kw29 rfl) kw30 rfl) kw33 rfl) kw34 rfl) kw36 rfl) kw37 rfl)⟩
  refine z_icmp_ne hC (pc := 99) 106 dX5_wordOver_99 (by decide) (fun c39 => ?_) (fun c39 => ?_)
  · refine z_iconst hC (pc := 106) (v := 0) dX5_wordOver_106 (by decide) ?_
    refine z_lvs [1, 0] rfl ?_
    exact j107 0 (Or.inl rfl)
  · refine z_iconst hC (pc := 102) (v := 1) dX5_wordOver_102 (by decide) ?_
    refine z_goto hC (pc := 103) 107 dX5_wordOver_103 (by decide) ?_
    refine z_lvs [1, 0] rfl ?_
    exact j107 1 (Or.inr rfl)
set_option maxRecDepth 20000 in
theorem kX11_mayWrap (l : Launch) (G : zG) (T : tT) (κ : Nat → List Nat) (hst : l.stackTraces = false) (hE : tE G T κ) {a0 : Nat} (h0 : a0 ∈ κ 11) : tMi l G T yX11_mayWrap cX11_mayWrap 1 .boolean [] 0 0 0 0 [.ref a0] uT (uPz 0x0) := by
  refine tMi.intro hst rfl (Nat.le_of_ble_eq_true rfl) ?_
  intro w0 hw0 _ X hC hR hO hX
  refine z_aload_n hC (pc := 0) 0 dX11_mayWrap_0 rfl rfl ?_
  refine u_get hC hw0 (pc := 1) zf11 8 (hE.o11 h0) rfl dX11_mayWrap_1 zw593 (kk := fun vx3 tx3 fx3 => ?_)
  obtain ⟨x3, rfl⟩ := tx3
  have j37 : ∀ (x4 : Int32), tZ (.int x4) → zS X G 1 w0 [] 0 0 37 [.int x4] := by
    intro x4 zx4
    exact hR _ _ _ _ _ _ dX11_mayWrap_37 (t_nZ zx4) (Nat.le_of_ble_eq_true rfl) (Nat.le_of_ble_eq_true rfl) ⟨hw0, rfl, rfl, tKeep.rf, zx4⟩
  have j36 : zS X G 1 w0 [] 0 0 36 [] := by
    refine z_iconst hC (pc := 36) (v := 0) dX11_mayWrap_36 (by decide) ?_
    exact j37 0 (Or.inl rfl)
  refine z_if_ne hC (pc := 4) 36 dX11_mayWrap_4 (by decide) (fun c5 => ?_) (fun c5 => ?_)
  · refine z_lvs [] rfl ?_
    exact j36
  · refine z_aload_n hC (pc := 7) 0 dX11_mayWrap_7 rfl rfl ?_
    refine u_get hC hw0 (pc := 8) zf11 4 (hE.o11 h0) rfl dX11_mayWrap_8 zw586 (kk := fun vx6 tx6 fx6 => ?_)
    obtain ⟨x6, rfl⟩ := tx6
    refine z_if_le hC (pc := 11) 36 dX11_mayWrap_11 (by decide) (fun c7 => ?_) (fun c7 => ?_)
    · refine z_lvs [] rfl ?_
      exact j36
    · refine z_aload_n hC (pc := 14) 0 dX11_mayWrap_14 rfl rfl ?_
      refine u_get hC hw0 (pc := 15) zf11 6 (hE.o11 h0) rfl dX11_mayWrap_15 zw589 (kk := fun vx8 tx8 fx8 => ?_)
      obtain ⟨x8, rfl, zx8⟩ := t_zof tx8
      refine z_if_ne hC (pc := 18) 36 dX11_mayWrap_18 (by decide) (fun c9 => ?_) (fun c9 => ?_)
      · refine z_lvs [] rfl ?_
        exact j36
      · refine z_aload_n hC (pc := 21) 0 dX11_mayWrap_21 rfl rfl ?_
        refine u_get hC hw0 (pc := 22) zf11 5 (hE.o11 h0) rfl dX11_mayWrap_22 zw587 (kk := fun vx10 tx10 fx10 => ?_)
        obtain ⟨x10, rfl⟩ := tx10
        refine z_aload_n hC (pc := 25) 0 dX11_mayWrap_25 rfl rfl ?_
        refine u_getK hC (pc := 26) zf11 4 fx6 dX11_mayWrap_26 zw586 (kk := ?_)
        refine z_icmp_lt hC (pc := 29) 36 dX11_mayWrap_29 (by decide) (fun c11 => ?_) (fun c11 => ?_)
        · refine z_lvs [] rfl ?_
          exact j36
        · refine z_iconst hC (pc := 32) (v := 1) dX11_mayWrap_32 (by decide) ?_
          refine z_goto hC (pc := 33) 37 dX11_mayWrap_33 (by decide) ?_
          refine z_lvs [] rfl ?_
          exact j37 1 (Or.inr rfl)
set_option maxRecDepth 20000 in
theorem kX11_isFull (l : Launch) (G : zG) (T : tT) (κ : Nat → List Nat) (hst : l.stackTraces = false) (hE : tE G T κ) {a0 : Nat} (h0 : a0 ∈ κ 11) : tMi l G T yX11_isFull cX11_isFull 1 .boolean [] 0 0 0 0 [.ref a0] uT (uPz 0x0) := by
  refine tMi.intro hst rfl (Nat.le_of_ble_eq_true rfl) ?_
  intro w0 hw0 _ X hC hR hO hX
  refine z_aload_n hC (pc := 0) 0 dX11_isFull_0 rfl rfl ?_
  refine u_get hC hw0 (pc := 1) zf11 8 (hE.o11 h0) rfl dX11_isFull_1 zw593 (kk := fun vx3 tx3 fx3 => ?_)
  obtain ⟨x3, rfl⟩ := tx3
  have j22 : ∀ (x4 : Int32), tZ (.int x4) → zS X G 1 w0 [] 0 0 22 [.int x4] := by
    intro x4 zx4
    exact hR _ _ _ _ _ _ dX11_isFull_22 (t_nZ zx4) (Nat.le_of_ble_eq_true rfl) (Nat.le_of_ble_eq_true rfl) ⟨hw0, rfl, rfl, tKeep.rf, zx4⟩
  have j21 : zS X G 1 w0 [] 0 0 21 [] := by
    refine z_iconst hC (pc := 21) (v := 0) dX11_isFull_21 (by decide) ?_
    exact j22 0 (Or.inl rfl)
  refine z_if_le hC (pc := 4) 21 dX11_isFull_4 (by decide) (fun c5 => ?_) (fun c5 => ?_)
  · refine z_lvs [] rfl ?_
    exact j21
  · refine z_aload_n hC (pc := 7) 0 dX11_isFull_7 rfl rfl ?_
    refine u_get hC hw0 (pc := 8) zf11 10 (hE.o11 h0) rfl dX11_isFull_8 zw597 (kk := fun vx6 tx6 fx6 => ?_)
    obtain ⟨x6, rfl⟩ := tx6
    refine z_sipush hC (pc := 11) (v := 1000) dX11_isFull_11 (by decide) ?_
    refine z_icmp_lt hC (pc := 14) 21 dX11_isFull_14 (by decide) (fun c7 => ?_) (fun c7 => ?_)
    · refine z_lvs [] rfl ?_
      exact j21
    · refine z_iconst hC (pc := 17) (v := 1) dX11_isFull_17 (by decide) ?_
      refine z_goto hC (pc := 18) 22 dX11_isFull_18 (by decide) ?_
      refine z_lvs [] rfl ?_
      exact j22 1 (Or.inr rfl)
set_option maxRecDepth 20000 in
theorem kX11_raw (l : Launch) (G : zG) (T : tT) (κ : Nat → List Nat) (hst : l.stackTraces = false) (hE : tE G T κ) {a0 : Nat} (h0 : a0 ∈ κ 11) {x1 : Int32} : tMv l G T yX11_raw cX11_raw 4 ["java/lang/IllegalStateException"] 6 81 1 6 [.ref a0, .int x1] uT (uPv 0x48800000000000000000000000000000000000000000000000000000000000000000000000000000000000000000000000000000000000000000000000000000000000000000000000000000000000000000000000000000000) := by
  refine tMv.intro hst rfl (Nat.le_of_ble_eq_true rfl) ?_
  intro w0 hw0 _ X hC hR hO hX
  refine z_aload_n hC (pc := 0) 0 dX11_raw_0 rfl rfl ?_
  refine z_dup hC (pc := 1) dX11_raw_1 rfl ?_
  refine u_get hC hw0 (pc := 2) zf11 7 (hE.o11 h0) rfl dX11_raw_2 zw591 (kk := fun vx4 tx4 fx4 => ?_)
  obtain ⟨x4, rfl⟩ := tx4
  refine z_iconst hC (pc := 5) (v := 1) dX11_raw_5 (by decide) ?_
  refine z_iadd hC (pc := 6) (v := (x4 + 1)) dX11_raw_6 rfl ?_
  refine u_put hC hw0 (pc := 7) zf11 7 (hE.o11 h0) rfl ⟨_, rfl⟩ dX11_raw_7 zw591 rfl rfl rfl (kk := fun w5 hw5 fw5 kw5 => ?_)
  refine z_aload_n hC (pc := 10) 0 dX11_raw_10 rfl rfl ?_
  refine u_get hC hw5 (pc := 11) zf11 8 (hE.o11 h0) rfl dX11_raw_11 zw593 (kk := fun vx6 tx6 fx6 => ?_)
  obtain ⟨x6, rfl⟩ := tx6
  refine z_if_le hC (pc := 14) 75 dX11_raw_14 (by decide) (fun c7 => ?_) (fun c7 => ?_)
  · refine z_aload_n hC (pc := 75) 0 dX11_raw_75 rfl rfl ?_
    refine u_get hC hw5 (pc := 76) zf11 3 (hE.o11 h0) rfl dX11_raw_76 zw584 (kk := fun vx8 tx8 fx8 => ?_)
    obtain ⟨x8, rfl⟩ := tx8
    have j94 : zS X G 4 w5 [] 0 0 94 [] := by
      exact hX "java/lang/IllegalStateException" _ _ _ _ _ _ 91 93 exn (by decide) hw5 dX11_raw_94 dX11_raw_97 dX11_raw_98 dX11_raw_101 (by decide +kernel) (by decide +kernel) zw2005 zw20 atg_X11_93 atb_X11_93 ato_X11_93 (by decide) (Nat.le_of_ble_eq_true rfl) (Nat.le_of_ble_eq_true rfl) (Nat.le_of_ble_eq_true rfl)
    refine z_if_lt hC (pc := 79) 94 dX11_raw_79 (by decide) (fun c9 => ?_) (fun c9 => ?_)
    · refine z_lvs [] rfl ?_
      exact j94
    · refine z_aload_n hC (pc := 82) 0 dX11_raw_82 rfl rfl ?_
      refine u_getK hC (pc := 83) zf11 3 fx8 dX11_raw_83 zw584 (kk := ?_)
      refine z_aload_n hC (pc := 86) 0 dX11_raw_86 rfl rfl ?_
      refine u_get hC hw5 (pc := 87) zf11 1 (hE.o11 h0) rfl dX11_raw_87 zw580 (kk := fun va10 ta10 fa10 => ?_)
      obtain ⟨a10, ma10, rfl⟩ := ta10
      have A11 := hE.text ma10
      refine u_alenB hC hw5 (pc := 90) (Or.inl A11) dX11_raw_90 ?_
      refine z_icmp_lt hC (pc := 91) 102 dX11_raw_91 (by decide) (fun c12 => ?_) (fun c12 => ?_)
      · refine z_aload_n hC (pc := 102) 0 dX11_raw_102 rfl rfl ?_
        refine u_getK hC (pc := 103) zf11 1 fa10 dX11_raw_103 zw580 (kk := ?_)
        refine z_aload_n hC (pc := 106) 0 dX11_raw_106 rfl rfl ?_
        refine u_getK hC (pc := 107) zf11 3 fx8 dX11_raw_107 zw584 (kk := ?_)
        refine z_iload_n hC (pc := 110) 1 dX11_raw_110 rfl rfl ?_
        refine z_i2b hC (pc := 111) (v := (x1 : Int32).toInt8.toInt32) dX11_raw_111 rfl ?_
        generalize (x1 : Int32).toInt8.toInt32 = x13
        refine u_bast hC hw5 (pc := 112) A11 dX11_raw_112 (t_inB (by decide) c9 (Int32.not_le.mpr c12)) trivial (fun w14 hw14 kw14 => ?_)
        refine z_iconst hC (pc := 113) (v := 3) dX11_raw_113 (by decide) ?_
        refine z_aload_n hC (pc := 114) 0 dX11_raw_114 rfl rfl ?_
        refine u_getK hC (pc := 115) zf11 3 (tKeep.F kw14 fx8 rfl) dX11_raw_115 zw584 (kk := ?_)
        refine z_imul hC (pc := 118) (v := ((3 : Int32) * x8)) dX11_raw_118 rfl ?_
        refine z_istore_n hC (pc := 119) (lv' := [(2, .int ((3 : Int32) * x8)), (0, .ref a0), (1, .int x1)]) dX11_raw_119 rfl (by decide) rfl ?_
        refine z_iconst hC (pc := 120) (v := 0) dX11_raw_120 (by decide) ?_
        refine z_istore_n hC (pc := 121) (lv' := [(3, .int 0), (2, .int ((3 : Int32) * x8)), (0, .ref a0), (1, .int x1)]) dX11_raw_121 rfl (by decide) rfl ?_
        have j122 : ∀ (d122 : Nat), ∀ (w15 : va_W), tW T w15 → tKeep 0x0 w14 w15 → ∀ (x16 : Int32), ¬ x16 < 0 → (2 ^ 31 - (x16 : Int32).toInt).toNat ≤ d122 → zS X G 4 w15 [(0, .ref a0), (2, .int ((3 : Int32) * x8)), (3, .int x16)] 0 0 122 [] := by
          intro d122
          induction d122 with
          | zero => intro w15 hw15 kw15 x16 v17 hd122; exact (t_zero hd122).elim
          | succ d122 ih122 =>
            intro w15 hw15 kw15 x16 v17 hd122
            refine z_iload_n hC (pc := 122) 2 dX11_raw_122 rfl rfl ?_
            refine z_iconst hC (pc := 123) (v := 3) dX11_raw_123 (by decide) ?_
            have j173 : zS X G 4 w15 [(0, .ref a0)] 0 0 173 [] := by
              refine z_aload_n hC (pc := 173) 0 dX11_raw_173 rfl rfl ?_
              refine z_dup hC (pc := 174) dX11_raw_174 rfl ?_
              refine u_getK hC (pc := 175) zf11 3 (tKeep.F kw15 (tKeep.F kw14 fx8 rfl) rfl) dX11_raw_175 zw584 (kk := ?_)
              refine z_iconst hC (pc := 178) (v := 1) dX11_raw_178 (by decide) ?_
              refine z_iadd hC (pc := 179) (v := (x8 + 1)) dX11_raw_179 rfl ?_
              refine u_put hC hw15 (pc := 180) zf11 3 (hE.o11 h0) rfl ⟨_, rfl⟩ dX11_raw_180 zw584 rfl rfl rfl (kk := fun w18 hw18 fw18 kw18 => ?_)
              exact hR _ _ _ _ _ dX11_raw_183 (Nat.le_of_ble_eq_true rfl) (Nat.le_of_ble_eq_true rfl) ⟨hw18, rfl, rfl, (tKeep.tr (tKeep.tr (tKeep.tr (tKeep.tr tKeep.rf kw5 rfl) kw14 rfl) kw15 rfl) kw18 rfl)⟩
            refine z_icmp_ge hC (pc := 124) 173 dX11_raw_124 (by decide) (fun c19 => ?_) (fun c19 => ?_)
            · refine z_lvs [0] rfl ?_
              exact j173
            · refine z_iload_n hC (pc := 127) 1 dX11_raw_127 rfl rfl ?_
              refine z_iload_n hC (pc := 128) 2 dX11_raw_128 rfl rfl ?_
              refine z_iadd hC (pc := 129) (v := (((3 : Int32) * x8) + x16)) dX11_raw_129 rfl ?_
              refine z_aload_n hC (pc := 130) 0 dX11_raw_130 rfl rfl ?_
              refine u_get hC hw15 (pc := 131) zf11 2 (hE.o11 h0) rfl dX11_raw_131 zw582 (kk := fun va20 ta20 fa20 => ?_)
              obtain ⟨a20, ma20, rfl⟩ := ta20
              obtain ⟨N21, hN21, AN21⟩ := hE.ints ma20
              refine u_alenI hC hw15 (pc := 134) AN21 dX11_raw_134 ?_
              refine z_icmp_ge hC (pc := 135) 173 dX11_raw_135 (by decide) (fun c22 => ?_) (fun c22 => ?_)
              · refine z_lvs [0] rfl ?_
                exact j173
              · refine z_iload_n hC (pc := 138) 2 dX11_raw_138 rfl rfl ?_
                refine z_aload_n hC (pc := 139) 0 dX11_raw_139 rfl rfl ?_
                refine u_get hC hw15 (pc := 140) zf11 0 (hE.o11 h0) rfl dX11_raw_140 zw579 (kk := fun va23 ta23 fa23 => ?_)
                obtain ⟨a23, ma23, rfl⟩ := ta23
                refine u_get hC hw15 (pc := 143) zf9 2 (hE.o9 ma23) rfl dX11_raw_143 zw485 (kk := fun va24 ta24 fa24 => ?_)
                obtain ⟨a24, ma24, rfl⟩ := ta24
                have A25 := hE.three ma24
                refine u_alenI hC hw15 (pc := 146) A25 dX11_raw_146 ?_
                refine z_icmp_ge hC (pc := 147) 173 dX11_raw_147 (by decide) (fun c26 => ?_) (fun c26 => ?_)
                · refine z_lvs [0] rfl ?_
                  exact j173
                · refine z_aload_n hC (pc := 150) 0 dX11_raw_150 rfl rfl ?_
                  refine u_getK hC (pc := 151) zf11 2 fa20 dX11_raw_151 zw582 (kk := ?_)
                  refine z_iload_n hC (pc := 154) 1 dX11_raw_154 rfl rfl ?_
                  refine z_iload_n hC (pc := 155) 2 dX11_raw_155 rfl rfl ?_
                  refine z_iadd hC (pc := 156) (v := (((3 : Int32) * x8) + x16)) dX11_raw_156 rfl ?_
                  refine z_aload_n hC (pc := 157) 0 dX11_raw_157 rfl rfl ?_
                  refine u_getK hC (pc := 158) zf11 0 fa23 dX11_raw_158 zw579 (kk := ?_)
                  refine u_getK hC (pc := 161) zf9 2 fa24 dX11_raw_161 zw485 (kk := ?_)
                  refine z_iload_n hC (pc := 164) 2 dX11_raw_164 rfl rfl ?_
                  refine t_iald hC hw15 (pc := 165) A25 dX11_raw_165 (by have o1 := Int32.le_toInt x8; have o2 := Int32.toInt_lt x8; have o3 : (0 : Int32).toInt = 0 := (by decide); have o4 := t_fnl c9; have o5 : (Int32.ofNat 12000).toInt = 12000 := nI_toInt (by decide); have o6 := (by decide); have o7 := t_fl c12; have o8 := Int32.le_toInt x16; have o9 := Int32.toInt_lt x16; have o10 := t_fnl v17; have o11 : (3 : Int32).toInt = 3 := (by decide); have o12 := t_fne c19; obtain ⟨ko13, o13⟩ := t_mulO (3 : Int32) x8 (3) (by decide); have o14 := t_addO ((3 : Int32) * x8) x16; have o15 : (Int32.ofNat N21).toInt = N21 := nI_toInt hN21; have o16 := hN21; have o17 := t_fne c22; have o18 : (Int32.ofNat 3).toInt = 3 := nI_toInt (by decide); have o19 := (by decide); have o20 := t_fne c26; rw [vp_in_iff]; omega) (fun x27 _ => ?_)
                  refine u_iast hC hw15 (pc := 166) AN21 dX11_raw_166 (by have o1 := Int32.le_toInt x8; have o2 := Int32.toInt_lt x8; have o3 : (0 : Int32).toInt = 0 := (by decide); have o4 := t_fnl c9; have o5 : (Int32.ofNat 12000).toInt = 12000 := nI_toInt (by decide); have o6 := (by decide); have o7 := t_fl c12; have o8 := Int32.le_toInt x16; have o9 := Int32.toInt_lt x16; have o10 := t_fnl v17; have o11 : (3 : Int32).toInt = 3 := (by decide); have o12 := t_fne c19; obtain ⟨ko13, o13⟩ := t_mulO (3 : Int32) x8 (3) (by decide); have o14 := t_addO ((3 : Int32) * x8) x16; have o15 : (Int32.ofNat N21).toInt = N21 := nI_toInt hN21; have o16 := hN21; have o17 := t_fne c22; have o18 : (Int32.ofNat 3).toInt = 3 := nI_toInt (by decide); have o19 := (by decide); have o20 := t_fne c26; rw [vp_in_iff]; omega) trivial (fun w28 hw28 kw28 => ?_)
                  refine z_iinc hC (pc := 167) (v := (x16 + 1)) (lv' := [(3, .int (x16 + 1)), (0, .ref a0), (2, .int ((3 : Int32) * x8))]) 2 dX11_raw_167 rfl (congrArg _ (by decide)) (by decide) rfl ?_
                  refine z_goto hC (pc := 170) 122 dX11_raw_170 (by decide) ?_
                  refine z_lvs [1, 2, 0] rfl ?_
                  exact ih122 w28 hw28 (tKeep.tr (tKeep.tr tKeep.rf kw15 rfl) kw28 rfl) (x16 + 1) (t_nnI v17 (Int32.not_le.mp c26)) (t_up (Int32.not_le.mp c26) hd122)
        refine z_lvs [2, 1, 0] rfl ?_
        exact j122 _ w14 hw14 tKeep.rf 0 (by decide) (Nat.le_refl _)
      · refine z_lvs [] rfl ?_
        exact j94
  · refine z_aload_n hC (pc := 17) 0 dX11_raw_17 rfl rfl ?_
    refine u_getK hC (pc := 18) zf11 8 fx6 dX11_raw_18 zw593 (kk := ?_)
    refine z_iconst hC (pc := 21) (v := 1) dX11_raw_21 (by decide) ?_
    refine z_isub hC (pc := 22) (v := (x6 - 1)) dX11_raw_22 rfl ?_
    refine z_sipush hC (pc := 23) (v := 1000) dX11_raw_23 (by decide) ?_
    refine z_imul hC (pc := 26) (v := ((x6 - 1) * 1000)) dX11_raw_26 rfl ?_
    refine z_aload_n hC (pc := 27) 0 dX11_raw_27 rfl rfl ?_
    refine u_get hC hw5 (pc := 28) zf11 10 (hE.o11 h0) rfl dX11_raw_28 zw597 (kk := fun vx29 tx29 fx29 => ?_)
    obtain ⟨x29, rfl⟩ := tx29
    refine z_iadd hC (pc := 31) (v := (((x6 - 1) * 1000) + x29)) dX11_raw_31 rfl ?_
    refine z_istore_n hC (pc := 32) (lv' := [(2, .int (((x6 - 1) * 1000) + x29)), (0, .ref a0), (1, .int x1)]) dX11_raw_32 rfl (by decide) rfl ?_
    refine z_aload_n hC (pc := 33) 1 dX11_raw_33 rfl rfl ?_
    refine u_getK hC (pc := 34) zf11 10 fx29 dX11_raw_34 zw597 (kk := ?_)
    refine z_sipush hC (pc := 37) (v := 1000) dX11_raw_37 (by decide) ?_
    have j74 : ∀ (w30 : va_W), tW T w30 → tKeep 0x40000000000000000000000000000000000000000000000000000000000000000000000000000000000000000000000000000000000000000000000000000000000000000000000000000000000000000000000000000000000 w5 w30 → zS X G 4 w30 [] 0 0 74 [] := by
      intro w30 hw30 kw30
      exact hR _ _ _ _ _ dX11_raw_74 (Nat.le_of_ble_eq_true rfl) (Nat.le_of_ble_eq_true rfl) ⟨hw30, rfl, rfl, (tKeep.tr (tKeep.tr tKeep.rf kw5 rfl) kw30 rfl)⟩
    refine z_icmp_ge hC (pc := 40) 74 dX11_raw_40 (by decide) (fun c31 => ?_) (fun c31 => ?_)
    · refine z_lvs [] rfl ?_
      exact j74 w5 hw5 tKeep.rf
    · refine z_iload_n hC (pc := 43) 0 dX11_raw_43 rfl rfl ?_
      refine z_if_lt hC (pc := 44) 74 dX11_raw_44 (by decide) (fun c32 => ?_) (fun c32 => ?_)
      · refine z_lvs [] rfl ?_
        exact j74 w5 hw5 tKeep.rf
      · refine z_iload_n hC (pc := 47) 0 dX11_raw_47 rfl rfl ?_
        refine z_aload_n hC (pc := 48) 1 dX11_raw_48 rfl rfl ?_
        refine u_get hC hw5 (pc := 49) zf11 9 (hE.o11 h0) rfl dX11_raw_49 zw595 (kk := fun va33 ta33 fa33 => ?_)
        obtain ⟨a33, ma33, rfl⟩ := ta33
        obtain ⟨N34, hN34, AN34⟩ := hE.byts ma33
        refine u_alenB hC hw5 (pc := 52) (Or.inl AN34) dX11_raw_52 ?_
        refine z_icmp_ge hC (pc := 53) 74 dX11_raw_53 (by decide) (fun c35 => ?_) (fun c35 => ?_)
        · refine z_lvs [] rfl ?_
          exact j74 w5 hw5 tKeep.rf
        · refine z_aload_n hC (pc := 56) 1 dX11_raw_56 rfl rfl ?_
          refine u_getK hC (pc := 57) zf11 9 fa33 dX11_raw_57 zw595 (kk := ?_)
          refine z_iload_n hC (pc := 60) 0 dX11_raw_60 rfl rfl ?_
          refine z_iload_n hC (pc := 61) 2 dX11_raw_61 rfl rfl ?_
          refine z_i2b hC (pc := 62) (v := (x1 : Int32).toInt8.toInt32) dX11_raw_62 rfl ?_
          generalize (x1 : Int32).toInt8.toInt32 = x36
          refine u_bast hC hw5 (pc := 63) AN34 dX11_raw_63 (t_inB hN34 c32 c35) trivial (fun w37 hw37 kw37 => ?_)
          refine z_aload_n hC (pc := 64) 1 dX11_raw_64 rfl rfl ?_
          refine z_dup hC (pc := 65) dX11_raw_65 rfl ?_
          refine u_getK hC (pc := 66) zf11 10 (tKeep.F kw37 fx29 rfl) dX11_raw_66 zw597 (kk := ?_)
          refine z_iconst hC (pc := 69) (v := 1) dX11_raw_69 (by decide) ?_
          refine z_iadd hC (pc := 70) (v := (x29 + 1)) dX11_raw_70 rfl ?_
          refine u_put hC hw37 (pc := 71) zf11 10 (hE.o11 h0) rfl ⟨_, rfl⟩ dX11_raw_71 zw597 rfl rfl rfl (kk := fun w38 hw38 fw38 kw38 => ?_)
          refine z_lvs [] rfl ?_
          exact j74 w38 hw38 (tKeep.tr (tKeep.tr tKeep.rf kw37 rfl) kw38 rfl)
set_option maxRecDepth 20000 in
theorem kX11_margin (l : Launch) (G : zG) (T : tT) (κ : Nat → List Nat) (hst : l.stackTraces = false) (hE : tE G T κ) {a0 : Nat} (h0 : a0 ∈ κ 11) : tMv l G T yX11_margin cX11_margin 5 ["java/lang/IllegalStateException"] 7 104 1 6 [.ref a0] uT (uPv 0x4a800000000000000000000000000000000000000000000000000000000000000000000000000000000000000000000000000000000000000000000000000000000000000000000000000000000000000000000000000000000) := by
  refine tMv.intro hst rfl (Nat.le_of_ble_eq_true rfl) ?_
  intro w0 hw0 _ X hC hR hO hX
  refine z_aload_n hC (pc := 0) 0 dX11_margin_0 rfl rfl ?_
  refine u_get hC hw0 (pc := 1) zf11 13 (hE.o11 h0) rfl dX11_margin_1 zw601 (kk := fun vx3 tx3 fx3 => ?_)
  obtain ⟨x3, rfl⟩ := tx3
  refine z_istore_n hC (pc := 4) (lv' := [(1, .int x3), (0, .ref a0)]) dX11_margin_4 rfl (by decide) rfl ?_
  have j5 : ∀ (d5 : Nat), ∀ (w4 : va_W), tW T w4 → tKeep 0x4a800000000000000000000000000000000000000000000000000000000000000000000000000000000000000000000000000000000000000000000000000000000000000000000000000000000000000000000000000000000 w0 w4 → ∀ (x5 : Int32), (2 ^ 31 - (x5 : Int32).toInt).toNat ≤ d5 → zS X G 5 w4 [(0, .ref a0), (1, .int x5)] 0 0 5 [] := by
    intro d5
    induction d5 with
    | zero => intro w4 hw4 kw4 x5 hd5; exact (t_zero hd5).elim
    | succ d5 ih5 =>
      intro w4 hw4 kw4 x5 hd5
      refine z_iload_n hC (pc := 5) 1 dX11_margin_5 rfl rfl ?_
      refine z_aload_n hC (pc := 6) 0 dX11_margin_6 rfl rfl ?_
      refine u_get hC hw4 (pc := 7) zf11 14 (hE.o11 h0) rfl dX11_margin_7 zw603 (kk := fun vx6 tx6 fx6 => ?_)
      obtain ⟨x6, rfl⟩ := tx6
      have j105 : ∀ (d105 : Nat), ∀ (w7 : va_W), tW T w7 → tKeep 0x4a800000000000000000000000000000000000000000000000000000000000000000000000000000000000000000000000000000000000000000000000000000000000000000000000000000000000000000000000000000000 w4 w7 → ∀ (x8 : Int32), tF 11 w7 a0 5 (.int x8) → (2 ^ 31 - (x8 : Int32).toInt).toNat ≤ d105 → zS X G 5 w7 [(0, .ref a0)] 0 0 105 [] := by
        intro d105
        induction d105 with
        | zero => intro w7 hw7 kw7 x8 fx8 hd105; exact (t_zero hd105).elim
        | succ d105 ih105 =>
          intro w7 hw7 kw7 x8 fx8 hd105
          refine z_aload_n hC (pc := 105) 0 dX11_margin_105 rfl rfl ?_
          refine u_getK hC (pc := 106) zf11 5 fx8 dX11_margin_106 zw587 (kk := ?_)
          refine z_aload_n hC (pc := 109) 0 dX11_margin_109 rfl rfl ?_
          refine u_get hC hw7 (pc := 110) zf11 15 (hE.o11 h0) rfl dX11_margin_110 zw605 (kk := fun vx9 tx9 fx9 => ?_)
          obtain ⟨x9, rfl⟩ := tx9
          refine z_icmp_ge hC (pc := 113) 135 dX11_margin_113 (by decide) (fun c10 => ?_) (fun c10 => ?_)
          · exact hR _ _ _ _ _ dX11_margin_135 (Nat.le_of_ble_eq_true rfl) (Nat.le_of_ble_eq_true rfl) ⟨hw7, rfl, rfl, (tKeep.tr (tKeep.tr tKeep.rf kw4 rfl) kw7 rfl)⟩
          · refine z_aload_n hC (pc := 116) 0 dX11_margin_116 rfl rfl ?_
            refine z_bipush hC (pc := 117) (v := 32) dX11_margin_117 (by decide) ?_
            obtain ⟨q11, hqq11⟩ := hE.o11 h0
            refine t_callVv hC hw7 (pc := 119) (As := [.int 32]) (kX11_raw l G T κ hst hE h0) trivial dmX11_raw zf11 hqq11 dX11_margin_119 zw2001 rfl rfl (Nat.le_of_ble_eq_true rfl) (Nat.le_of_ble_eq_true rfl) (Nat.le_of_ble_eq_true rfl) (Nat.le_of_ble_eq_true rfl) (Nat.le_of_ble_eq_true rfl) (fun E w q hE hw => hO E w _ _ _ _ _ q hE (Nat.le_of_ble_eq_true rfl) (Nat.le_of_ble_eq_true rfl) hw) (fun cw12 nw12 w12 hw12 pw12 => ?_)
            obtain ⟨rfl, rfl, kw12⟩ := pw12
            refine z_aload_n hC (pc := 122) 0 dX11_margin_122 rfl rfl ?_
            refine z_dup hC (pc := 123) dX11_margin_123 rfl ?_
            refine u_getK hC (pc := 124) zf11 5 (tKeep.F kw12 fx8 rfl) dX11_margin_124 zw587 (kk := ?_)
            refine z_iconst hC (pc := 127) (v := 1) dX11_margin_127 (by decide) ?_
            refine z_iadd hC (pc := 128) (v := (x8 + 1)) dX11_margin_128 rfl ?_
            refine u_put hC hw12 (pc := 129) zf11 5 (hE.o11 h0) rfl ⟨_, rfl⟩ dX11_margin_129 zw587 rfl rfl rfl (kk := fun w14 hw14 fw14 kw14 => ?_)
            refine z_goto hC (pc := 132) 105 dX11_margin_132 (by decide) ?_
            exact ih105 w14 hw14 (tKeep.tr (tKeep.tr (tKeep.tr tKeep.rf kw7 rfl) kw12 rfl) kw14 rfl) (x8 + 1) fw14 (t_up (Int32.not_le.mp c10) hd105)
      refine z_icmp_ge hC (pc := 10) 105 dX11_margin_10 (by decide) (fun c15 => ?_) (fun c15 => ?_)
      · refine z_lvs [0] rfl ?_
        obtain ⟨x16, fx16⟩ := t_fldI hw4 (hE.o11 h0) (f := 5) rfl
        exact j105 _ w4 hw4 tKeep.rf x16 fx16 (Nat.le_refl _)
      · refine z_aload_n hC (pc := 13) 0 dX11_margin_13 rfl rfl ?_
        refine u_get hC hw4 (pc := 14) zf11 12 (hE.o11 h0) rfl dX11_margin_14 zw600 (kk := fun va17 ta17 fa17 => ?_)
        obtain ⟨a17, ma17, rfl⟩ := ta17
        refine z_iconst hC (pc := 17) (v := 2) dX11_margin_17 (by decide) ?_
        refine z_iload_n hC (pc := 18) 1 dX11_margin_18 rfl rfl ?_
        refine z_imul hC (pc := 19) (v := ((2 : Int32) * x5)) dX11_margin_19 rfl ?_
        refine t_callSNi hC hw4 (pc := 20) (As := [.ref a17, .int ((2 : Int32) * x5)]) (kX12_get l G T κ hst hE ma17) trivial dmX12_get dX11_margin_20 zw2011 rfl rfl (Nat.le_of_ble_eq_true rfl) (Nat.le_of_ble_eq_true rfl) (Nat.le_of_ble_eq_true rfl) (Nat.le_of_ble_eq_true rfl) (Nat.le_of_ble_eq_true rfl) (fun _ _ _ h => nomatch h) (fun x19 cw18 nw18 w18 hw18 pw18 => ?_)
        obtain ⟨rfl, rfl, kw18⟩ := pw18
        refine z_istore_n hC (pc := 23) (lv' := [(2, .int x19), (0, .ref a0), (1, .int x5)]) dX11_margin_23 rfl (by decide) rfl ?_
        refine z_aload_n hC (pc := 24) 1 dX11_margin_24 rfl rfl ?_
        refine u_getK hC (pc := 25) zf11 12 (tKeep.F kw18 fa17 rfl) dX11_margin_25 zw600 (kk := ?_)
        refine z_iconst hC (pc := 28) (v := 2) dX11_margin_28 (by decide) ?_
        refine z_iload_n hC (pc := 29) 2 dX11_margin_29 rfl rfl ?_
        refine z_imul hC (pc := 30) (v := ((2 : Int32) * x5)) dX11_margin_30 rfl ?_
        refine z_iconst hC (pc := 31) (v := 1) dX11_margin_31 (by decide) ?_
        refine z_iadd hC (pc := 32) (v := (((2 : Int32) * x5) + 1)) dX11_margin_32 rfl ?_
        refine t_callSNi hC hw18 (pc := 33) (As := [.ref a17, .int (((2 : Int32) * x5) + 1)]) (kX12_get l G T κ hst hE ma17) trivial dmX12_get dX11_margin_33 zw2011 rfl rfl (Nat.le_of_ble_eq_true rfl) (Nat.le_of_ble_eq_true rfl) (Nat.le_of_ble_eq_true rfl) (Nat.le_of_ble_eq_true rfl) (Nat.le_of_ble_eq_true rfl) (fun _ _ _ h => nomatch h) (fun x21 cw20 nw20 w20 hw20 pw20 => ?_)
        obtain ⟨rfl, rfl, kw20⟩ := pw20
        refine z_istore_n hC (pc := 36) (lv' := [(3, .int x21), (2, .int x19), (0, .ref a0), (1, .int x5)]) dX11_margin_36 rfl (by decide) rfl ?_
        refine z_iconst hC (pc := 37) (v := 0) dX11_margin_37 (by decide) ?_
        refine z_istore hC (pc := 38) (lv' := [(4, .int 0), (3, .int x21), (2, .int x19), (0, .ref a0), (1, .int x5)]) dX11_margin_38 (by decide) rfl ?_
        have j40 : ∀ (d40 : Nat), ∀ (w22 : va_W), tW T w22 → tKeep 0x4a800000000000000000000000000000000000000000000000000000000000000000000000000000000000000000000000000000000000000000000000000000000000000000000000000000000000000000000000000000000 w20 w22 → ∀ (x23 : Int32), ¬ x23 < 0 → (2 ^ 31 - (x23 : Int32).toInt).toNat ≤ d40 → zS X G 5 w22 [(0, .ref a0), (1, .int x5), (2, .int x19), (3, .int x21), (4, .int x23)] 0 0 40 [] := by
          intro d40
          induction d40 with
          | zero => intro w22 hw22 kw22 x23 v24 hd40; exact (t_zero hd40).elim
          | succ d40 ih40 =>
            intro w22 hw22 kw22 x23 v24 hd40
            refine z_iload hC (pc := 40) 4 dX11_margin_40 rfl ?_
            refine z_iload_n hC (pc := 42) 3 dX11_margin_42 rfl rfl ?_
            refine z_icmp_ge hC (pc := 43) 99 dX11_margin_43 (by decide) (fun c25 => ?_) (fun c25 => ?_)
            · refine z_iinc hC (pc := 99) (v := (x5 + 1)) (lv' := [(1, .int (x5 + 1)), (0, .ref a0), (2, .int x19), (3, .int x21), (4, .int x23)]) 1 dX11_margin_99 rfl (congrArg _ (by decide)) (by decide) rfl ?_
              refine z_goto hC (pc := 102) 5 dX11_margin_102 (by decide) ?_
              refine z_lvs [1, 0] rfl ?_
              exact ih5 w22 hw22 (tKeep.tr (tKeep.tr (tKeep.tr (tKeep.tr tKeep.rf kw4 rfl) kw18 rfl) kw20 rfl) kw22 rfl) (x5 + 1) (t_up (Int32.not_le.mp c15) hd5)
            · refine z_aload_n hC (pc := 46) 0 dX11_margin_46 rfl rfl ?_
              refine z_iload_n hC (pc := 47) 2 dX11_margin_47 rfl rfl ?_
              refine z_iload hC (pc := 48) 4 dX11_margin_48 rfl ?_
              refine z_iadd hC (pc := 50) (v := (x19 + x23)) dX11_margin_50 rfl ?_
              have j80 : ∀ (x26 : Int32), zS X G 5 w22 [(0, .ref a0), (1, .int x5), (2, .int x19), (3, .int x21), (4, .int x23)] 0 0 80 [.int x26, .ref a0] := by
                intro x26
                obtain ⟨q27, hqq27⟩ := hE.o11 h0
                refine t_callVv hC hw22 (pc := 80) (As := [.int x26]) (kX11_raw l G T κ hst hE h0) trivial dmX11_raw zf11 hqq27 dX11_margin_80 zw2001 rfl rfl (Nat.le_of_ble_eq_true rfl) (Nat.le_of_ble_eq_true rfl) (Nat.le_of_ble_eq_true rfl) (Nat.le_of_ble_eq_true rfl) (Nat.le_of_ble_eq_true rfl) (fun E w q hE hw => hO E w _ _ _ _ _ q hE (Nat.le_of_ble_eq_true rfl) (Nat.le_of_ble_eq_true rfl) hw) (fun cw28 nw28 w28 hw28 pw28 => ?_)
                obtain ⟨rfl, rfl, kw28⟩ := pw28
                refine z_aload_n hC (pc := 83) 0 dX11_margin_83 rfl rfl ?_
                refine z_dup hC (pc := 84) dX11_margin_84 rfl ?_
                refine u_get hC hw28 (pc := 85) zf11 5 (hE.o11 h0) rfl dX11_margin_85 zw587 (kk := fun vx30 tx30 fx30 => ?_)
                obtain ⟨x30, rfl⟩ := tx30
                refine z_iconst hC (pc := 88) (v := 1) dX11_margin_88 (by decide) ?_
                refine z_iadd hC (pc := 89) (v := (x30 + 1)) dX11_margin_89 rfl ?_
                refine u_put hC hw28 (pc := 90) zf11 5 (hE.o11 h0) rfl ⟨_, rfl⟩ dX11_margin_90 zw587 rfl rfl rfl (kk := fun w31 hw31 fw31 kw31 => ?_)
                refine z_iinc hC (pc := 93) (v := (x23 + 1)) (lv' := [(4, .int (x23 + 1)), (0, .ref a0), (1, .int x5), (2, .int x19), (3, .int x21)]) 4 dX11_margin_93 rfl (congrArg _ (by decide)) (by decide) rfl ?_
                refine z_goto hC (pc := 96) 40 dX11_margin_96 (by decide) ?_
                refine z_lvs [1, 2, 3, 4, 0] rfl ?_
                exact ih40 w31 hw31 (tKeep.tr (tKeep.tr (tKeep.tr tKeep.rf kw22 rfl) kw28 rfl) kw31 rfl) (x23 + 1) (t_nnI v24 (Int32.not_le.mp c25)) (t_up (Int32.not_le.mp c25) hd40)
              have j78 : zS X G 5 w22 [(0, .ref a0), (1, .int x5), (2, .int x19), (3, .int x21), (4, .int x23)] 0 0 78 [.ref a0] := by
                refine z_bipush hC (pc := 78) (v := 32) dX11_margin_78 (by decide) ?_
                exact j80 32
              refine z_if_lt hC (pc := 51) 78 dX11_margin_51 (by decide) (fun c32 => ?_) (fun c32 => ?_)
              · exact j78
              · refine z_iload_n hC (pc := 54) 2 dX11_margin_54 rfl rfl ?_
                refine z_iload hC (pc := 55) 4 dX11_margin_55 rfl ?_
                refine z_iadd hC (pc := 57) (v := (x19 + x23)) dX11_margin_57 rfl ?_
                refine z_aload_n hC (pc := 58) 0 dX11_margin_58 rfl rfl ?_
                refine u_get hC hw22 (pc := 59) zf11 11 (hE.o11 h0) rfl dX11_margin_59 zw599 (kk := fun va33 ta33 fa33 => ?_)
                obtain ⟨a33, ma33, rfl⟩ := ta33
                obtain ⟨N34, hN34, AN34⟩ := hE.byts ma33
                refine u_alenB hC hw22 (pc := 62) (Or.inl AN34) dX11_margin_62 ?_
                refine z_icmp_ge hC (pc := 63) 78 dX11_margin_63 (by decide) (fun c35 => ?_) (fun c35 => ?_)
                · exact j78
                · refine z_aload_n hC (pc := 66) 0 dX11_margin_66 rfl rfl ?_
                  refine u_getK hC (pc := 67) zf11 11 fa33 dX11_margin_67 zw599 (kk := ?_)
                  refine z_iload_n hC (pc := 70) 2 dX11_margin_70 rfl rfl ?_
                  refine z_iload hC (pc := 71) 4 dX11_margin_71 rfl ?_
                  refine z_iadd hC (pc := 73) (v := (x19 + x23)) dX11_margin_73 rfl ?_
                  refine u_bald hC hw22 (pc := 74) (Or.inl AN34) dX11_margin_74 (t_inB hN34 c32 c35) (fun x36 => ?_)
                  refine z_goto hC (pc := 75) 80 dX11_margin_75 (by decide) ?_
                  exact j80 x36
        refine z_lvs [3, 4, 2, 1, 0] rfl ?_
        exact j40 _ w20 hw20 tKeep.rf 0 (by decide) (Nat.le_refl _)
  refine z_lvs [1, 0] rfl ?_
  exact j5 _ w0 hw0 tKeep.rf x3 (Nat.le_refl _)
set_option maxRecDepth 20000 in
theorem kX11_put (l : Launch) (G : zG) (T : tT) (κ : Nat → List Nat) (hst : l.stackTraces = false) (hE : tE G T κ) {a0 : Nat} (h0 : a0 ∈ κ 11) {x1 : Int32} : tMv l G T yX11_put cX11_put 2 ["java/lang/IllegalStateException"] 8 128 1 6 [.ref a0, .int x1] uT (uPv 0x4e800000000000000000000000000000000000000000000000000000000000000000000000000000000000000000000000000000000000000000000000000000000000000000000000000000000000000000000000000000000) := by
  refine tMv.intro hst rfl (Nat.le_of_ble_eq_true rfl) ?_
  intro w0 hw0 _ X hC hR hO hX
  refine z_aload_n hC (pc := 0) 0 dX11_put_0 rfl rfl ?_
  obtain ⟨q4, hqq4⟩ := hE.o11 h0
  refine t_callVi hC hw0 (pc := 1) (As := []) (kX11_isFull l G T κ hst hE h0) trivial dmX11_isFull zf11 hqq4 dX11_put_1 zw1997 rfl rfl (Nat.le_of_ble_eq_true rfl) (Nat.le_of_ble_eq_true rfl) (Nat.le_of_ble_eq_true rfl) (Nat.le_of_ble_eq_true rfl) (Nat.le_of_ble_eq_true rfl) (fun _ _ _ h => nomatch h) (fun x6 cw5 nw5 w5 hw5 pw5 => ?_)
  obtain ⟨rfl, rfl, kw5, zx6⟩ := pw5
  refine z_if_eq hC (pc := 4) 8 dX11_put_4 (by decide) (fun c7 => ?_) (fun c7 => ?_)
  · refine z_iload_n hC (pc := 8) 1 dX11_put_8 rfl rfl ?_
    refine z_bipush hC (pc := 9) (v := 10) dX11_put_9 (by decide) ?_
    refine z_icmp_ne hC (pc := 11) 30 dX11_put_11 (by decide) (fun c8 => ?_) (fun c8 => ?_)
    · refine z_aload_n hC (pc := 30) 0 dX11_put_30 rfl rfl ?_
      refine u_get hC hw5 (pc := 31) zf11 6 (hE.o11 h0) rfl dX11_put_31 zw589 (kk := fun vx9 tx9 fx9 => ?_)
      obtain ⟨x9, rfl, zx9⟩ := t_zof tx9
      have j46 : ∀ (w10 : va_W), tW T w10 → tKeep 0x4e800000000000000000000000000000000000000000000000000000000000000000000000000000000000000000000000000000000000000000000000000000000000000000000000000000000000000000000000000000000 w5 w10 → zS X G 2 w10 [(0, .ref a0), (1, .int x1)] 0 0 46 [] := by
        intro w10 hw10 kw10
        refine z_aload_n hC (pc := 46) 0 dX11_put_46 rfl rfl ?_
        refine z_iload_n hC (pc := 47) 1 dX11_put_47 rfl rfl ?_
        refine t_callVv hC hw10 (pc := 48) (As := [.int x1]) (kX11_raw l G T κ hst hE h0) trivial dmX11_raw zf11 hqq4 dX11_put_48 zw2001 rfl rfl (Nat.le_of_ble_eq_true rfl) (Nat.le_of_ble_eq_true rfl) (Nat.le_of_ble_eq_true rfl) (Nat.le_of_ble_eq_true rfl) (Nat.le_of_ble_eq_true rfl) (fun E w q hE hw => hO E w _ _ _ _ _ q hE (Nat.le_of_ble_eq_true rfl) (Nat.le_of_ble_eq_true rfl) hw) (fun cw11 nw11 w11 hw11 pw11 => ?_)
        obtain ⟨rfl, rfl, kw11⟩ := pw11
        refine z_aload_n hC (pc := 51) 0 dX11_put_51 rfl rfl ?_
        refine z_dup hC (pc := 52) dX11_put_52 rfl ?_
        refine u_get hC hw11 (pc := 53) zf11 5 (hE.o11 h0) rfl dX11_put_53 zw587 (kk := fun vx13 tx13 fx13 => ?_)
        obtain ⟨x13, rfl⟩ := tx13
        refine z_iconst hC (pc := 56) (v := 1) dX11_put_56 (by decide) ?_
        refine z_iadd hC (pc := 57) (v := (x13 + 1)) dX11_put_57 rfl ?_
        refine u_put hC hw11 (pc := 58) zf11 5 (hE.o11 h0) rfl ⟨_, rfl⟩ dX11_put_58 zw587 rfl rfl rfl (kk := fun w14 hw14 fw14 kw14 => ?_)
        exact hR _ _ _ _ _ dX11_put_61 (Nat.le_of_ble_eq_true rfl) (Nat.le_of_ble_eq_true rfl) ⟨hw14, rfl, rfl, (tKeep.tr (tKeep.tr (tKeep.tr (tKeep.tr tKeep.rf kw5 rfl) kw10 rfl) kw11 rfl) kw14 rfl)⟩
      refine z_if_eq hC (pc := 34) 46 dX11_put_34 (by decide) (fun c15 => ?_) (fun c15 => ?_)
      · exact j46 w5 hw5 tKeep.rf
      · refine z_aload_n hC (pc := 37) 0 dX11_put_37 rfl rfl ?_
        refine z_iconst hC (pc := 38) (v := 0) dX11_put_38 (by decide) ?_
        refine u_put hC hw5 (pc := 39) zf11 6 (hE.o11 h0) rfl (Or.inl rfl) dX11_put_39 zw589 rfl rfl rfl (kk := fun w16 hw16 fw16 kw16 => ?_)
        refine z_aload_n hC (pc := 42) 0 dX11_put_42 rfl rfl ?_
        refine t_callVv hC hw16 (pc := 43) (As := []) (kX11_margin l G T κ hst hE h0) trivial dmX11_margin zf11 hqq4 dX11_put_43 zw2007 rfl rfl (Nat.le_of_ble_eq_true rfl) (Nat.le_of_ble_eq_true rfl) (Nat.le_of_ble_eq_true rfl) (Nat.le_of_ble_eq_true rfl) (Nat.le_of_ble_eq_true rfl) (fun E w q hE hw => hO E w _ _ _ _ _ q hE (Nat.le_of_ble_eq_true rfl) (Nat.le_of_ble_eq_true rfl) hw) (fun cw17 nw17 w17 hw17 pw17 => ?_)
        obtain ⟨rfl, rfl, kw17⟩ := pw17
        exact j46 w17 hw17 (tKeep.tr (tKeep.tr tKeep.rf kw16 rfl) kw17 rfl)
    · refine z_aload_n hC (pc := 14) 0 dX11_put_14 rfl rfl ?_
      refine z_iload_n hC (pc := 15) 1 dX11_put_15 rfl rfl ?_
      refine t_callVv hC hw5 (pc := 16) (As := [.int x1]) (kX11_raw l G T κ hst hE h0) trivial dmX11_raw zf11 hqq4 dX11_put_16 zw2001 rfl rfl (Nat.le_of_ble_eq_true rfl) (Nat.le_of_ble_eq_true rfl) (Nat.le_of_ble_eq_true rfl) (Nat.le_of_ble_eq_true rfl) (Nat.le_of_ble_eq_true rfl) (fun E w q hE hw => hO E w _ _ _ _ _ q hE (Nat.le_of_ble_eq_true rfl) (Nat.le_of_ble_eq_true rfl) hw) (fun cw19 nw19 w19 hw19 pw19 => ?_)
      obtain ⟨rfl, rfl, kw19⟩ := pw19
      refine z_aload_n hC (pc := 19) 0 dX11_put_19 rfl rfl ?_
      refine z_iconst hC (pc := 20) (v := 0) dX11_put_20 (by decide) ?_
      refine u_put hC hw19 (pc := 21) zf11 5 (hE.o11 h0) rfl ⟨_, rfl⟩ dX11_put_21 zw587 rfl rfl rfl (kk := fun w21 hw21 fw21 kw21 => ?_)
      refine z_aload_n hC (pc := 24) 0 dX11_put_24 rfl rfl ?_
      refine z_iconst hC (pc := 25) (v := 1) dX11_put_25 (by decide) ?_
      refine u_put hC hw21 (pc := 26) zf11 6 (hE.o11 h0) rfl (Or.inr rfl) dX11_put_26 zw589 rfl rfl rfl (kk := fun w22 hw22 fw22 kw22 => ?_)
      exact hR _ _ _ _ _ dX11_put_29 (Nat.le_of_ble_eq_true rfl) (Nat.le_of_ble_eq_true rfl) ⟨hw22, rfl, rfl, (tKeep.tr (tKeep.tr (tKeep.tr (tKeep.tr tKeep.rf kw5 rfl) kw19 rfl) kw21 rfl) kw22 rfl)⟩
  · exact hR _ _ _ _ _ dX11_put_7 (Nat.le_of_ble_eq_true rfl) (Nat.le_of_ble_eq_true rfl) ⟨hw5, rfl, rfl, (tKeep.tr tKeep.rf kw5 rfl)⟩
set_option maxRecDepth 20000 in
theorem kX5_wrapLine (l : Launch) (G : zG) (T : tT) (κ : Nat → List Nat) (hst : l.stackTraces = false) (hE : tE G T κ) {a0 : Nat} (h0 : a0 ∈ κ 5) : tMv l G T yX5_wrapLine cX5_wrapLine 5 ["java/lang/IllegalStateException"] 9 149 1 6 [.ref a0] uT (uPv 0x4e800000000000000000000000000000000000000000000000000000000000000000000000000000000000000000000000000000000000000000000000000000000000000000000000000000000000000000000000000000000) := by
  refine tMv.intro hst rfl (Nat.le_of_ble_eq_true rfl) ?_
  intro w0 hw0 _ X hC hR hO hX
  refine z_aload_n hC (pc := 0) 0 dX5_wrapLine_0 rfl rfl ?_
  refine u_get hC hw0 (pc := 1) zf5 18 (hE.o5 h0) rfl dX5_wrapLine_1 zw660 (kk := fun vx3 tx3 fx3 => ?_)
  obtain ⟨x3, rfl⟩ := tx3
  refine z_iconst hC (pc := 4) (v := (-1)) dX5_wrapLine_4 (by decide) ?_
  have j18 : ∀ (w4 : va_W), tW T w4 → tKeep 0x0 w0 w4 → zS X G 5 w4 [] 0 0 18 [] := by
    intro w4 hw4 kw4
    exact hR _ _ _ _ _ dX5_wrapLine_18 (Nat.le_of_ble_eq_true rfl) (Nat.le_of_ble_eq_true rfl) ⟨hw4, rfl, rfl, (tKeep.tr tKeep.rf kw4 rfl)⟩
  refine z_icmp_eq hC (pc := 5) 18 dX5_wrapLine_5 (by decide) (fun c5 => ?_) (fun c5 => ?_)
  · refine z_lvs [] rfl ?_
    exact j18 w0 hw0 tKeep.rf
  · refine z_aload_n hC (pc := 8) 0 dX5_wrapLine_8 rfl rfl ?_
    refine u_get hC hw0 (pc := 9) zf5 1 (hE.o5 h0) rfl dX5_wrapLine_9 zw642 (kk := fun va6 ta6 fa6 => ?_)
    obtain ⟨a6, ma6, rfl⟩ := ta6
    obtain ⟨q7, hqq7⟩ := hE.o11 ma6
    refine t_callVi hC hw0 (pc := 12) (As := []) (kX11_mayWrap l G T κ hst hE ma6) trivial dmX11_mayWrap zf11 hqq7 dX5_wrapLine_12 zw1987 rfl rfl (Nat.le_of_ble_eq_true rfl) (Nat.le_of_ble_eq_true rfl) (Nat.le_of_ble_eq_true rfl) (Nat.le_of_ble_eq_true rfl) (Nat.le_of_ble_eq_true rfl) (fun _ _ _ h => nomatch h) (fun x9 cw8 nw8 w8 hw8 pw8 => ?_)
    obtain ⟨rfl, rfl, kw8, zx9⟩ := pw8
    refine z_if_ne hC (pc := 15) 19 dX5_wrapLine_15 (by decide) (fun c10 => ?_) (fun c10 => ?_)
    · refine z_aload_n hC (pc := 19) 0 dX5_wrapLine_19 rfl rfl ?_
      refine u_getK hC (pc := 20) zf5 18 (tKeep.F kw8 fx3 rfl) dX5_wrapLine_20 zw660 (kk := ?_)
      refine z_ldc_w hC (pc := 23) (v := 134217727) dX5_wrapLine_23 zw1991 ?_
      refine z_iand hC (pc := 26) (v := (x3 &&& 134217727)) dX5_wrapLine_26 rfl ?_
      refine z_bipush hC (pc := 27) (v := 10) dX5_wrapLine_27 (by decide) ?_
      refine z_iushr hC (pc := 29) (v := (((x3 &&& 134217727) : Int32).toUInt32 >>> ((10 : Int32).toUInt32 &&& Int32.toUInt32 31)).toInt32) dX5_wrapLine_29 rfl ?_
      refine z_istore_n hC (pc := 30) (lv' := [(1, .int ((((x3 &&& 134217727) : Int32).toUInt32 >>> ((10 : Int32).toUInt32 &&& Int32.toUInt32 31)).toInt32)), (0, .ref a0)]) dX5_wrapLine_30 rfl (by decide) rfl ?_
      refine z_aload_n hC (pc := 31) 1 dX5_wrapLine_31 rfl rfl ?_
      refine u_getK hC (pc := 32) zf5 18 (tKeep.F kw8 fx3 rfl) dX5_wrapLine_32 zw660 (kk := ?_)
      refine z_sipush hC (pc := 35) (v := 1023) dX5_wrapLine_35 (by decide) ?_
      refine z_iand hC (pc := 38) (v := (x3 &&& 1023)) dX5_wrapLine_38 rfl ?_
      refine z_istore_n hC (pc := 39) (lv' := [(2, .int (x3 &&& 1023)), (1, .int ((((x3 &&& 134217727) : Int32).toUInt32 >>> ((10 : Int32).toUInt32 &&& Int32.toUInt32 31)).toInt32)), (0, .ref a0)]) dX5_wrapLine_39 rfl (by decide) rfl ?_
      refine z_iconst hC (pc := 40) (v := 0) dX5_wrapLine_40 (by decide) ?_
      refine z_istore_n hC (pc := 41) (lv' := [(3, .int 0), (2, .int (x3 &&& 1023)), (1, .int ((((x3 &&& 134217727) : Int32).toUInt32 >>> ((10 : Int32).toUInt32 &&& Int32.toUInt32 31)).toInt32)), (0, .ref a0)]) dX5_wrapLine_41 rfl (by decide) rfl ?_
      have j42 : ∀ (d42 : Nat), ∀ (w11 : va_W), tW T w11 → tKeep 0x4e800000000000000000000000000000000000000000000000000000000000000000000000000000000000000000000000000000000000000000000000000000000000000000000000000000000000000000000000000000000 w8 w11 → ∀ (x12 : Int32), ¬ x12 < 0 → (2 ^ 31 - (x12 : Int32).toInt).toNat ≤ d42 → zS X G 5 w11 [(0, .ref a0), (1, .int ((((x3 &&& 134217727) : Int32).toUInt32 >>> ((10 : Int32).toUInt32 &&& Int32.toUInt32 31)).toInt32)), (2, .int (x3 &&& 1023)), (3, .int x12)] 0 0 42 [] := by
        intro d42
        induction d42 with
        | zero => intro w11 hw11 kw11 x12 v13 hd42; exact (t_zero hd42).elim
        | succ d42 ih42 =>
          intro w11 hw11 kw11 x12 v13 hd42
          refine z_iload_n hC (pc := 42) 3 dX5_wrapLine_42 rfl rfl ?_
          refine z_iload_n hC (pc := 43) 2 dX5_wrapLine_43 rfl rfl ?_
          refine z_icmp_ge hC (pc := 44) 99 dX5_wrapLine_44 (by decide) (fun c14 => ?_) (fun c14 => ?_)
          · exact hR _ _ _ _ _ dX5_wrapLine_99 (Nat.le_of_ble_eq_true rfl) (Nat.le_of_ble_eq_true rfl) ⟨hw11, rfl, rfl, (tKeep.tr (tKeep.tr tKeep.rf kw8 rfl) kw11 rfl)⟩
          · refine z_aload_n hC (pc := 47) 0 dX5_wrapLine_47 rfl rfl ?_
            refine u_get hC hw11 (pc := 48) zf5 2 (hE.o5 h0) rfl dX5_wrapLine_48 zw644 (kk := fun va15 ta15 fa15 => ?_)
            obtain ⟨a15, ma15, rfl⟩ := ta15
            refine u_get hC hw11 (pc := 51) zf3 11 (hE.o3 ma15) rfl dX5_wrapLine_51 zw518 (kk := fun va16 ta16 fa16 => ?_)
            obtain ⟨a16, ma16, rfl⟩ := ta16
            refine z_iload_n hC (pc := 54) 1 dX5_wrapLine_54 rfl rfl ?_
            refine z_iload_n hC (pc := 55) 3 dX5_wrapLine_55 rfl rfl ?_
            refine z_iadd hC (pc := 56) (v := ((((x3 &&& 134217727) : Int32).toUInt32 >>> ((10 : Int32).toUInt32 &&& Int32.toUInt32 31)).toInt32 + x12)) dX5_wrapLine_56 rfl ?_
            refine t_callSNi hC hw11 (pc := 57) (As := [.ref a16, .int ((((x3 &&& 134217727) : Int32).toUInt32 >>> ((10 : Int32).toUInt32 &&& Int32.toUInt32 31)).toInt32 + x12)]) (kX12_getByte l G T κ hst hE (Or.inl ma16)) trivial dmX12_getByte dX5_wrapLine_57 zw1992 rfl rfl (Nat.le_of_ble_eq_true rfl) (Nat.le_of_ble_eq_true rfl) (Nat.le_of_ble_eq_true rfl) (Nat.le_of_ble_eq_true rfl) (Nat.le_of_ble_eq_true rfl) (fun _ _ _ h => nomatch h) (fun x18 cw17 nw17 w17 hw17 pw17 => ?_)
            obtain ⟨rfl, rfl, kw17⟩ := pw17
            refine z_istore hC (pc := 60) (lv' := [(4, .int x18), (0, .ref a0), (1, .int ((((x3 &&& 134217727) : Int32).toUInt32 >>> ((10 : Int32).toUInt32 &&& Int32.toUInt32 31)).toInt32)), (2, .int (x3 &&& 1023)), (3, .int x12)]) dX5_wrapLine_60 (by decide) rfl ?_
            refine z_aload_n hC (pc := 62) 1 dX5_wrapLine_62 rfl rfl ?_
            refine u_getK hC (pc := 63) zf5 1 (tKeep.F kw17 (tKeep.F kw11 (tKeep.F kw8 fa6 rfl) rfl) rfl) dX5_wrapLine_63 zw642 (kk := ?_)
            refine z_iload hC (pc := 66) 0 dX5_wrapLine_66 rfl ?_
            refine t_callVv hC hw17 (pc := 68) (As := [.int x18]) (kX11_put l G T κ hst hE ma6) trivial dmX11_put zf11 hqq7 dX5_wrapLine_68 zw1993 rfl rfl (Nat.le_of_ble_eq_true rfl) (Nat.le_of_ble_eq_true rfl) (Nat.le_of_ble_eq_true rfl) (Nat.le_of_ble_eq_true rfl) (Nat.le_of_ble_eq_true rfl) (fun E w q hE hw => hO E w _ _ _ _ _ q hE (Nat.le_of_ble_eq_true rfl) (Nat.le_of_ble_eq_true rfl) hw) (fun cw19 nw19 w19 hw19 pw19 => ?_)
            obtain ⟨rfl, rfl, kw19⟩ := pw19
            refine z_iload hC (pc := 71) 0 dX5_wrapLine_71 rfl ?_
            refine z_bipush hC (pc := 73) (v := 10) dX5_wrapLine_73 (by decide) ?_
            have j93 : ∀ (w21 : va_W), tW T w21 → tKeep 0x4e800000000000000000000000000000000000000000000000000000000000000000000000000000000000000000000000000000000000000000000000000000000000000000000000000000000000000000000000000000000 w19 w21 → zS X G 5 w21 [(0, .ref a0), (1, .int ((((x3 &&& 134217727) : Int32).toUInt32 >>> ((10 : Int32).toUInt32 &&& Int32.toUInt32 31)).toInt32)), (2, .int (x3 &&& 1023)), (3, .int x12)] 0 0 93 [] := by
              intro w21 hw21 kw21
              refine z_iinc hC (pc := 93) (v := (x12 + 1)) (lv' := [(3, .int (x12 + 1)), (0, .ref a0), (1, .int ((((x3 &&& 134217727) : Int32).toUInt32 >>> ((10 : Int32).toUInt32 &&& Int32.toUInt32 31)).toInt32)), (2, .int (x3 &&& 1023))]) 3 dX5_wrapLine_93 rfl (congrArg _ (by decide)) (by decide) rfl ?_
              refine z_goto hC (pc := 96) 42 dX5_wrapLine_96 (by decide) ?_
              refine z_lvs [1, 2, 3, 0] rfl ?_
              exact ih42 w21 hw21 (tKeep.tr (tKeep.tr (tKeep.tr (tKeep.tr tKeep.rf kw11 rfl) kw17 rfl) kw19 rfl) kw21 rfl) (x12 + 1) (t_nnI v13 (Int32.not_le.mp c14)) (t_up (Int32.not_le.mp c14) hd42)
            refine z_icmp_ne hC (pc := 75) 93 dX5_wrapLine_75 (by decide) (fun c22 => ?_) (fun c22 => ?_)
            · refine z_lvs [1, 2, 3, 4] rfl ?_
              exact j93 w19 hw19 tKeep.rf
            · refine z_aload_n hC (pc := 78) 1 dX5_wrapLine_78 rfl rfl ?_
              refine u_getK hC (pc := 79) zf5 1 (tKeep.F kw19 (tKeep.F kw17 (tKeep.F kw11 (tKeep.F kw8 fa6 rfl) rfl) rfl) rfl) dX5_wrapLine_79 zw642 (kk := ?_)
              refine z_iconst hC (pc := 82) (v := 0) dX5_wrapLine_82 (by decide) ?_
              refine u_put hC hw19 (pc := 83) zf11 6 (hE.o11 ma6) rfl (Or.inl rfl) dX5_wrapLine_83 zw590 rfl rfl rfl (kk := fun w23 hw23 fw23 kw23 => ?_)
              refine z_aload_n hC (pc := 86) 1 dX5_wrapLine_86 rfl rfl ?_
              refine u_getK hC (pc := 87) zf5 1 (tKeep.F kw23 (tKeep.F kw19 (tKeep.F kw17 (tKeep.F kw11 (tKeep.F kw8 fa6 rfl) rfl) rfl) rfl) rfl) dX5_wrapLine_87 zw642 (kk := ?_)
              refine t_callVv hC hw23 (pc := 90) (As := []) (kX11_margin l G T κ hst hE ma6) trivial dmX11_margin zf11 hqq7 dX5_wrapLine_90 zw2012 rfl rfl (Nat.le_of_ble_eq_true rfl) (Nat.le_of_ble_eq_true rfl) (Nat.le_of_ble_eq_true rfl) (Nat.le_of_ble_eq_true rfl) (Nat.le_of_ble_eq_true rfl) (fun E w q hE hw => hO E w _ _ _ _ _ q hE (Nat.le_of_ble_eq_true rfl) (Nat.le_of_ble_eq_true rfl) hw) (fun cw24 nw24 w24 hw24 pw24 => ?_)
              obtain ⟨rfl, rfl, kw24⟩ := pw24
              refine z_lvs [1, 2, 3, 4] rfl ?_
              exact j93 w24 hw24 (tKeep.tr (tKeep.tr tKeep.rf kw23 rfl) kw24 rfl)
      refine z_lvs [3, 2, 1, 0] rfl ?_
      exact j42 _ w8 hw8 tKeep.rf 0 (by decide) (Nat.le_refl _)
    · refine z_lvs [] rfl ?_
      exact j18 w8 hw8 (tKeep.tr tKeep.rf kw8 rfl)
