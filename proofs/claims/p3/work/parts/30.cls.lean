theorem zw708 : Cond.fieldLink "TemplateHouse" 9 "TemplateHouse" "ready" "[B" ∈ zT := zsub3 228 (by decide +kernel) (by decide +kernel)
theorem zw774 : Cond.methodLink "TemplateHouse" 105 ⟨"TemplateHouse", "setByte", "([BII)V"⟩ ∈ zT := zsub4 54 (by decide +kernel) (by decide +kernel)
theorem zw770 : Cond.methodLink "TemplateHouse" 101 ⟨"TemplateHouse", "fourReady", "(II)V"⟩ ∈ zT := zsub4 50 (by decide +kernel) (by decide +kernel)
theorem zw710 : Cond.fieldLink "TemplateHouse" 16 "TemplateHouse" "taped" "I" ∈ zT := zsub3 230 (by decide +kernel) (by decide +kernel)
theorem zw784 : Cond.methodLink "TemplateHouse" 113 ⟨"java/util/Arrays", "fill", "([BB)V"⟩ ∈ zT := zsub4 64 (by decide +kernel) (by decide +kernel)
theorem zw709 : Cond.fieldLink "TemplateHouse" 13 "TemplateHouse" "tape" "[B" ∈ zT := zsub3 229 (by decide +kernel) (by decide +kernel)
theorem zw781 : Cond.methodLink "TemplateHouse" 109 ⟨"TemplateHouse", "getByte", "([BI)I"⟩ ∈ zT := zsub4 61 (by decide +kernel) (by decide +kernel)
theorem zw711 : Cond.fieldLink "TemplateHouse" 52 "TemplateHouse" "files" "[[B" ∈ zT := zsub3 231 (by decide +kernel) (by decide +kernel)
theorem zw184 : Cond.fieldLink "TemplateHouse$Names" 25 "TemplateHouse$Names" "count" "I" ∈ zT := zsub1 184 (by decide +kernel) (by decide +kernel)
theorem zw178 : Cond.fieldLink "TemplateHouse$Names" 15 "TemplateHouse$Names" "from" "[I" ∈ zT := zsub1 178 (by decide +kernel) (by decide +kernel)
theorem zw208 : Cond.fieldLink "TemplateHouse$Imports" 13 "TemplateHouse$Imports" "directs" "[I" ∈ zT := zsub1 208 (by decide +kernel) (by decide +kernel)
theorem zw978 : Cond.methodLink "TemplateHouse$Imports" 29 ⟨"java/util/Arrays", "fill", "([II)V"⟩ ∈ zT := zsub5 18 (by decide +kernel) (by decide +kernel)
theorem zw211 : Cond.fieldLink "TemplateHouse$Imports" 19 "TemplateHouse$Imports" "wayLengths" "[I" ∈ zT := zsub1 211 (by decide +kernel) (by decide +kernel)
theorem zw214 : Cond.fieldLink "TemplateHouse$Imports" 25 "TemplateHouse$Imports" "reads" "I" ∈ zT := zsub1 214 (by decide +kernel) (by decide +kernel)
theorem zw253 : Cond.fieldLink "TemplateHouse$Gen" 41 "TemplateHouse$Gen" "poolEnd" "I" ∈ zT := zsub2 13 (by decide +kernel) (by decide +kernel)
theorem zw247 : Cond.fieldLink "TemplateHouse$Gen" 34 "TemplateHouse$Gen" "pool" "[B" ∈ zT := zsub2 7 (by decide +kernel) (by decide +kernel)
theorem zw251 : Cond.fieldLink "TemplateHouse$Gen" 38 "TemplateHouse$Gen" "places" "[I" ∈ zT := zsub2 11 (by decide +kernel) (by decide +kernel)
theorem zw212 : Cond.fieldLink "TemplateHouse$Imports" 22 "TemplateHouse$Imports" "read" "[I" ∈ zT := zsub1 212 (by decide +kernel) (by decide +kernel)
theorem zw992 : Cond.methodLinkNest "TemplateHouse$Imports" 35 ⟨"TemplateHouse", "get", "([II)I"⟩ "TemplateHouse" ∈ zNest := zsubN5 32 (by decide +kernel) (by decide +kernel)
theorem zw998 : Cond.methodLinkNest "TemplateHouse$Imports" 41 ⟨"TemplateHouse", "set", "([III)V"⟩ "TemplateHouse" ∈ zNest := zsubN5 38 (by decide +kernel) (by decide +kernel)
theorem zw125 : Cond.fieldLink "TemplateHouse$Source" 33 "TemplateHouse$Source" "file" "I" ∈ zT := zsub1 125 (by decide +kernel) (by decide +kernel)
theorem zw115 : Cond.fieldLink "TemplateHouse$Source" 9 "TemplateHouse$Source" "src" "[B" ∈ zT := zsub1 115 (by decide +kernel) (by decide +kernel)
theorem zw134 : Cond.fieldLink "TemplateHouse$Source" 42 "TemplateHouse$Source" "whole" "[B" ∈ zT := zsub1 134 (by decide +kernel) (by decide +kernel)
theorem zw135 : Cond.fieldLink "TemplateHouse$Source" 45 "TemplateHouse$Source" "wholeLim" "I" ∈ zT := zsub1 135 (by decide +kernel) (by decide +kernel)
theorem zw119 : Cond.fieldLink "TemplateHouse$Source" 26 "TemplateHouse$Source" "lim" "I" ∈ zT := zsub1 119 (by decide +kernel) (by decide +kernel)
theorem zw122 : Cond.fieldLink "TemplateHouse$Source" 30 "TemplateHouse$Source" "pos" "I" ∈ zT := zsub1 122 (by decide +kernel) (by decide +kernel)
theorem zw116 : Cond.fieldLink "TemplateHouse$Source" 15 "TemplateHouse$Source" "isFile" "Z" ∈ zT := zsub1 116 (by decide +kernel) (by decide +kernel)
theorem zw331 : Cond.fieldLink "TemplateHouse$TextReader" 62 "TemplateHouse$TextReader" "g" "LTemplateHouse$Gen;" ∈ zT := zsub2 91 (by decide +kernel) (by decide +kernel)
theorem zw332 : Cond.fieldLink "TemplateHouse$TextReader" 9 "TemplateHouse$TextReader" "open" "I" ∈ zT := zsub2 92 (by decide +kernel) (by decide +kernel)
theorem zw334 : Cond.fieldLink "TemplateHouse$TextReader" 15 "TemplateHouse$TextReader" "close" "I" ∈ zT := zsub2 94 (by decide +kernel) (by decide +kernel)
theorem zw130 : Cond.fieldLink "TemplateHouse$Source" 36 "TemplateHouse$Source" "number" "I" ∈ zT := zsub1 130 (by decide +kernel) (by decide +kernel)
theorem zw132 : Cond.fieldLink "TemplateHouse$Source" 39 "TemplateHouse$Source" "where" "I" ∈ zT := zsub1 132 (by decide +kernel) (by decide +kernel)
theorem zw1024 : Cond.classLink "TemplateHouse$Source" 67 "java/lang/IllegalStateException" ∈ zT := zsub5 64 (by decide +kernel) (by decide +kernel)
theorem zw20 : Cond.initialized "java/lang/IllegalStateException" ∈ zT := zsub1 20 (by decide +kernel) (by decide +kernel)
theorem zw118 : Cond.fieldLink "TemplateHouse$Source" 22 "TemplateHouse$Source" "places" "[I" ∈ zT := zsub1 118 (by decide +kernel) (by decide +kernel)
theorem zw1160 : Cond.methodLink "TemplateHouse$Source" 112 ⟨"TemplateHouse$Source", "peek", "()I"⟩ ∈ zT := zsub5 200 (by decide +kernel) (by decide +kernel)
theorem zw1165 : Cond.methodLink "TemplateHouse$Source" 125 ⟨"TemplateHouse$Source", "placeOf", "(I)I"⟩ ∈ zT := zsub5 205 (by decide +kernel) (by decide +kernel)
theorem zw1020 : Cond.methodLink "TemplateHouse$Source" 105 ⟨"TemplateHouse$Source", "fail", "(II)V"⟩ ∈ zT := zsub5 60 (by decide +kernel) (by decide +kernel)
theorem zw1161 : Cond.methodLink "TemplateHouse$Source" 122 ⟨"TemplateHouse$Source", "at", "(I)I"⟩ ∈ zT := zsub5 201 (by decide +kernel) (by decide +kernel)
theorem zw398 : Cond.fieldLink "TemplateHouse$FileReader" 41 "TemplateHouse$FileReader" "deep" "I" ∈ zT := zsub2 158 (by decide +kernel) (by decide +kernel)
theorem zw396 : Cond.fieldLink "TemplateHouse$FileReader" 35 "TemplateHouse$FileReader" "way" "[I" ∈ zT := zsub2 156 (by decide +kernel) (by decide +kernel)
theorem zw999 : Cond.methodLinkNest "TemplateHouse$FileReader" 101 ⟨"TemplateHouse", "get", "([II)I"⟩ "TemplateHouse" ∈ zNest := zsubN5 39 (by decide +kernel) (by decide +kernel)
theorem zw206 : Cond.fieldLink "TemplateHouse$Imports" 7 "TemplateHouse$Imports" "direct" "[I" ∈ zT := zsub1 206 (by decide +kernel) (by decide +kernel)
theorem zw259 : Cond.fieldLink "TemplateHouse$Gen" 47 "TemplateHouse$Gen" "defCount" "I" ∈ zT := zsub2 19 (by decide +kernel) (by decide +kernel)
theorem zw256 : Cond.fieldLink "TemplateHouse$Gen" 44 "TemplateHouse$Gen" "defs" "[I" ∈ zT := zsub2 16 (by decide +kernel) (by decide +kernel)
theorem zw1289 : Cond.methodLinkNest "TemplateHouse$Gen" 98 ⟨"TemplateHouse", "set", "([III)V"⟩ "TemplateHouse" ∈ zNest := zsubN6 89 (by decide +kernel) (by decide +kernel)
theorem zw1307 : Cond.methodLinkNest "TemplateHouse$Source" 63 ⟨"TemplateHouse", "set", "([III)V"⟩ "TemplateHouse" ∈ zNest := zsubN6 107 (by decide +kernel) (by decide +kernel)
theorem zw117 : Cond.fieldLink "TemplateHouse$Source" 19 "TemplateHouse$Source" "packed" "[B" ∈ zT := zsub1 117 (by decide +kernel) (by decide +kernel)
theorem zw136 : Cond.fieldLink "TemplateHouse$Source" 48 "TemplateHouse$Source" "after" "I" ∈ zT := zsub1 136 (by decide +kernel) (by decide +kernel)
theorem zw1302 : Cond.methodLinkNest "TemplateHouse$Source" 51 ⟨"TemplateHouse", "getByte", "([BI)I"⟩ "TemplateHouse" ∈ zNest := zsubN6 102 (by decide +kernel) (by decide +kernel)
theorem zw336 : Cond.fieldLink "TemplateHouse$TextReader" 18 "TemplateHouse$TextReader" "kind" "I" ∈ zT := zsub2 96 (by decide +kernel) (by decide +kernel)
theorem zw337 : Cond.fieldLink "TemplateHouse$TextReader" 21 "TemplateHouse$TextReader" "owner" "I" ∈ zT := zsub2 97 (by decide +kernel) (by decide +kernel)
theorem zw338 : Cond.fieldLink "TemplateHouse$TextReader" 24 "TemplateHouse$TextReader" "filled" "I" ∈ zT := zsub2 98 (by decide +kernel) (by decide +kernel)
theorem zw266 : Cond.fieldLink "TemplateHouse$TextReader" 66 "TemplateHouse$Gen" "partCount" "I" ∈ zT := zsub2 26 (by decide +kernel) (by decide +kernel)
theorem zw339 : Cond.fieldLink "TemplateHouse$TextReader" 27 "TemplateHouse$TextReader" "firstPart" "I" ∈ zT := zsub2 99 (by decide +kernel) (by decide +kernel)
theorem zw244 : Cond.fieldLink "TemplateHouse$Gen" 30 "TemplateHouse$Gen" "codeEnd" "I" ∈ zT := zsub2 4 (by decide +kernel) (by decide +kernel)
theorem zw239 : Cond.fieldLink "TemplateHouse$Gen" 26 "TemplateHouse$Gen" "code" "[I" ∈ zT := zsub1 239 (by decide +kernel) (by decide +kernel)
theorem zw1316 : Cond.methodLink "TemplateHouse$Gen" 88 ⟨"TemplateHouse$Gen", "emit", "(I)V"⟩ ∈ zT := zsub6 116 (by decide +kernel) (by decide +kernel)
theorem zw391 : Cond.fieldLink "TemplateHouse$FileReader" 18 "TemplateHouse$FileReader" "params" "I" ∈ zT := zsub2 151 (by decide +kernel) (by decide +kernel)
theorem zw386 : Cond.fieldLink "TemplateHouse$FileReader" 68 "TemplateHouse$FileReader" "s" "LTemplateHouse$Source;" ∈ zT := zsub2 146 (by decide +kernel) (by decide +kernel)
theorem zw1155 : Cond.methodLink "TemplateHouse$FileReader" 168 ⟨"TemplateHouse$Source", "fail", "(II)V"⟩ ∈ zT := zsub5 195 (by decide +kernel) (by decide +kernel)
theorem zw389 : Cond.fieldLink "TemplateHouse$FileReader" 9 "TemplateHouse$FileReader" "names" "[I" ∈ zT := zsub2 149 (by decide +kernel) (by decide +kernel)
theorem zw1351 : Cond.constant "TemplateHouse$Gen" 92 (402653184 : Int32) ∈ zT := zsub6 151 (by decide +kernel) (by decide +kernel)
theorem zw255 : Cond.fieldLink "TemplateHouse$Source" 128 "TemplateHouse$Gen" "poolEnd" "I" ∈ zT := zsub2 15 (by decide +kernel) (by decide +kernel)
theorem zw1347 : Cond.methodLink "TemplateHouse$Source" 136 ⟨"TemplateHouse$Gen", "stringFrom", "(I)I"⟩ ∈ zT := zsub6 147 (by decide +kernel) (by decide +kernel)
theorem zw1346 : Cond.methodLink "TemplateHouse$Source" 133 ⟨"TemplateHouse$Gen", "keep", "(II)V"⟩ ∈ zT := zsub6 146 (by decide +kernel) (by decide +kernel)
theorem zw1363 : Cond.methodLink "TemplateHouse$TextReader" 71 ⟨"TemplateHouse$TextReader", "define", "(III)V"⟩ ∈ zT := zsub6 163 (by decide +kernel) (by decide +kernel)
theorem zw340 : Cond.fieldLink "TemplateHouse$TextReader" 30 "TemplateHouse$TextReader" "inSub" "Z" ∈ zT := zsub2 100 (by decide +kernel) (by decide +kernel)
theorem zw776 : Cond.code ⟨"TemplateHouse", "setByte", "([BII)V"⟩ prog_1_method_33_code 3 (Option.none : Option Jvm.ClassFile.FieldType) ∈ zT := zsub4 56 rfl rfl
theorem zw1 : Cond.initialized "TemplateHouse" ∈ zT := zsub1 1 (by decide +kernel) (by decide +kernel)
theorem zw775 : Cond.static ⟨"TemplateHouse", "setByte", "([BII)V"⟩ ∈ zT := zsub4 55 (by decide +kernel) (by decide +kernel)
theorem zw773 : Cond.code ⟨"TemplateHouse", "fourReady", "(II)V"⟩ prog_1_method_3_code 4 (Option.none : Option Jvm.ClassFile.FieldType) ∈ zT := zsub4 53 rfl rfl
theorem zw772 : Cond.instanceMethod ⟨"TemplateHouse", "fourReady", "(II)V"⟩ ∈ zT := zsub4 52 (by decide +kernel) (by decide +kernel)
theorem zwp0 : Cond.selects "TemplateHouse" ⟨"TemplateHouse", "fourReady", "(II)V"⟩ ⟨"TemplateHouse", "fourReady", "(II)V"⟩ ∈ zT := zin 0 (by decide +kernel) (by decide +kernel)
theorem zw769 : Cond.code ⟨"TemplateHouse", "feed", "(IIIII)V"⟩ prog_1_method_2_code 6 (Option.none : Option Jvm.ClassFile.FieldType) ∈ zT := zsub4 49 rfl rfl
theorem zw767 : Cond.instanceMethod ⟨"TemplateHouse", "feed", "(IIIII)V"⟩ ∈ zT := zsub4 47 (by decide +kernel) (by decide +kernel)
theorem zw768 : Cond.selects "TemplateHouse" ⟨"TemplateHouse", "feed", "(IIIII)V"⟩ ⟨"TemplateHouse", "feed", "(IIIII)V"⟩ ∈ zT := zsub4 48 (by decide +kernel) (by decide +kernel)
theorem zw783 : Cond.code ⟨"TemplateHouse", "getByte", "([BI)I"⟩ prog_1_method_32_code 2 (Option.some Jvm.ClassFile.FieldType.int) ∈ zT := zsub4 63 rfl rfl
theorem zw782 : Cond.static ⟨"TemplateHouse", "getByte", "([BI)I"⟩ ∈ zT := zsub4 62 (by decide +kernel) (by decide +kernel)
theorem zw786 : Cond.code ⟨"java/util/Arrays", "fill", "([BB)V"⟩ prog_34_method_109_code 4 (Option.none : Option Jvm.ClassFile.FieldType) ∈ zT := zsub4 66 rfl rfl
theorem zw16 : Cond.initialized "java/util/Arrays" ∈ zT := zsub1 16 (by decide +kernel) (by decide +kernel)
theorem zw785 : Cond.static ⟨"java/util/Arrays", "fill", "([BB)V"⟩ ∈ zT := zsub4 65 (by decide +kernel) (by decide +kernel)
theorem zw780 : Cond.code ⟨"TemplateHouse", "end", "(I)I"⟩ prog_1_method_4_code 3 (Option.some Jvm.ClassFile.FieldType.int) ∈ zT := zsub4 60 rfl rfl
theorem zw778 : Cond.instanceMethod ⟨"TemplateHouse", "end", "(I)I"⟩ ∈ zT := zsub4 58 (by decide +kernel) (by decide +kernel)
theorem zw779 : Cond.selects "TemplateHouse" ⟨"TemplateHouse", "end", "(I)I"⟩ ⟨"TemplateHouse", "end", "(I)I"⟩ ∈ zT := zsub4 59 (by decide +kernel) (by decide +kernel)
theorem zw790 : Cond.code ⟨"TemplateHouse", "file", "(I)Z"⟩ prog_1_method_5_code 5 (Option.some Jvm.ClassFile.FieldType.boolean) ∈ zT := zsub4 70 rfl rfl
theorem zw788 : Cond.instanceMethod ⟨"TemplateHouse", "file", "(I)Z"⟩ ∈ zT := zsub4 68 (by decide +kernel) (by decide +kernel)
theorem zw789 : Cond.selects "TemplateHouse" ⟨"TemplateHouse", "file", "(I)Z"⟩ ⟨"TemplateHouse", "file", "(I)Z"⟩ ∈ zT := zsub4 69 (by decide +kernel) (by decide +kernel)
theorem zw951 : Cond.code ⟨"java/util/Arrays", "fill", "([II)V"⟩ prog_34_method_103_code 4 (Option.none : Option Jvm.ClassFile.FieldType) ∈ zT := zsub4 231 rfl rfl
theorem zw950 : Cond.static ⟨"java/util/Arrays", "fill", "([II)V"⟩ ∈ zT := zsub4 230 (by decide +kernel) (by decide +kernel)
theorem zw964 : Cond.code ⟨"TemplateHouse$Names", "hash", "([BII)I"⟩ prog_8_method_5_code 5 (Option.some Jvm.ClassFile.FieldType.int) ∈ zT := zsub5 4 rfl rfl
theorem zw5 : Cond.initialized "TemplateHouse$Names" ∈ zT := zsub1 5 (by decide +kernel) (by decide +kernel)
theorem zw963 : Cond.static ⟨"TemplateHouse$Names", "hash", "([BII)I"⟩ ∈ zT := zsub5 3 (by decide +kernel) (by decide +kernel)
theorem zw846 : Cond.code ⟨"TemplateHouse", "get", "([II)I"⟩ prog_1_method_30_code 2 (Option.some Jvm.ClassFile.FieldType.int) ∈ zT := zsub4 126 rfl rfl
theorem zw845 : Cond.static ⟨"TemplateHouse", "get", "([II)I"⟩ ∈ zT := zsub4 125 (by decide +kernel) (by decide +kernel)
theorem zw969 : Cond.code ⟨"TemplateHouse$Names", "lengthOf", "(I)I"⟩ prog_8_method_3_code 2 (Option.some Jvm.ClassFile.FieldType.int) ∈ zT := zsub5 9 rfl rfl
theorem zw967 : Cond.instanceMethod ⟨"TemplateHouse$Names", "lengthOf", "(I)I"⟩ ∈ zT := zsub5 7 (by decide +kernel) (by decide +kernel)
theorem zw968 : Cond.selects "TemplateHouse$Names" ⟨"TemplateHouse$Names", "lengthOf", "(I)I"⟩ ⟨"TemplateHouse$Names", "lengthOf", "(I)I"⟩ ∈ zT := zsub5 8 (by decide +kernel) (by decide +kernel)
theorem zw869 : Cond.code ⟨"TemplateHouse", "same", "([BI[BII)Z"⟩ prog_1_method_34_code 6 (Option.some Jvm.ClassFile.FieldType.boolean) ∈ zT := zsub4 149 rfl rfl
theorem zw868 : Cond.static ⟨"TemplateHouse", "same", "([BI[BII)Z"⟩ ∈ zT := zsub4 148 (by decide +kernel) (by decide +kernel)
theorem zw805 : Cond.code ⟨"TemplateHouse", "set", "([III)V"⟩ prog_1_method_31_code 3 (Option.none : Option Jvm.ClassFile.FieldType) ∈ zT := zsub4 85 rfl rfl
theorem zw804 : Cond.static ⟨"TemplateHouse", "set", "([III)V"⟩ ∈ zT := zsub4 84 (by decide +kernel) (by decide +kernel)
theorem zw977 : Cond.code ⟨"TemplateHouse$Imports", "forget", "()V"⟩ prog_6_method_2_code 1 (Option.none : Option Jvm.ClassFile.FieldType) ∈ zT := zsub5 17 rfl rfl
theorem zw6 : Cond.initialized "TemplateHouse$Imports" ∈ zT := zsub1 6 (by decide +kernel) (by decide +kernel)
theorem zw975 : Cond.instanceMethod ⟨"TemplateHouse$Imports", "forget", "()V"⟩ ∈ zT := zsub5 15 (by decide +kernel) (by decide +kernel)
theorem zw976 : Cond.selects "TemplateHouse$Imports" ⟨"TemplateHouse$Imports", "forget", "()V"⟩ ⟨"TemplateHouse$Imports", "forget", "()V"⟩ ∈ zT := zsub5 16 (by decide +kernel) (by decide +kernel)
theorem zw983 : Cond.code ⟨"TemplateHouse$Gen", "keep", "(II)V"⟩ prog_4_method_8_code 3 (Option.none : Option Jvm.ClassFile.FieldType) ∈ zT := zsub5 23 rfl rfl
theorem zw4 : Cond.initialized "TemplateHouse$Gen" ∈ zT := zsub1 4 (by decide +kernel) (by decide +kernel)
theorem zw981 : Cond.instanceMethod ⟨"TemplateHouse$Gen", "keep", "(II)V"⟩ ∈ zT := zsub5 21 (by decide +kernel) (by decide +kernel)
theorem zw982 : Cond.selects "TemplateHouse$Gen" ⟨"TemplateHouse$Gen", "keep", "(II)V"⟩ ⟨"TemplateHouse$Gen", "keep", "(II)V"⟩ ∈ zT := zsub5 22 (by decide +kernel) (by decide +kernel)
theorem zw991 : Cond.code ⟨"TemplateHouse$Imports", "wasRead", "(I)Z"⟩ prog_6_method_3_code 3 (Option.some Jvm.ClassFile.FieldType.boolean) ∈ zT := zsub5 31 rfl rfl
theorem zw989 : Cond.instanceMethod ⟨"TemplateHouse$Imports", "wasRead", "(I)Z"⟩ ∈ zT := zsub5 29 (by decide +kernel) (by decide +kernel)
theorem zw990 : Cond.selects "TemplateHouse$Imports" ⟨"TemplateHouse$Imports", "wasRead", "(I)Z"⟩ ⟨"TemplateHouse$Imports", "wasRead", "(I)Z"⟩ ∈ zT := zsub5 30 (by decide +kernel) (by decide +kernel)
theorem zw997 : Cond.code ⟨"TemplateHouse$Imports", "noteRead", "(I)V"⟩ prog_6_method_4_code 2 (Option.none : Option Jvm.ClassFile.FieldType) ∈ zT := zsub5 37 rfl rfl
theorem zw995 : Cond.instanceMethod ⟨"TemplateHouse$Imports", "noteRead", "(I)V"⟩ ∈ zT := zsub5 35 (by decide +kernel) (by decide +kernel)
theorem zw996 : Cond.selects "TemplateHouse$Imports" ⟨"TemplateHouse$Imports", "noteRead", "(I)V"⟩ ⟨"TemplateHouse$Imports", "noteRead", "(I)V"⟩ ∈ zT := zsub5 36 (by decide +kernel) (by decide +kernel)
theorem zw1003 : Cond.code ⟨"TemplateHouse$Source", "openFile", "(I[BI)V"⟩ prog_9_method_2_code 4 (Option.none : Option Jvm.ClassFile.FieldType) ∈ zT := zsub5 43 rfl rfl
theorem zw3 : Cond.initialized "TemplateHouse$Source" ∈ zT := zsub1 3 (by decide +kernel) (by decide +kernel)
theorem zw1001 : Cond.instanceMethod ⟨"TemplateHouse$Source", "openFile", "(I[BI)V"⟩ ∈ zT := zsub5 41 (by decide +kernel) (by decide +kernel)
theorem zw1002 : Cond.selects "TemplateHouse$Source" ⟨"TemplateHouse$Source", "openFile", "(I[BI)V"⟩ ⟨"TemplateHouse$Source", "openFile", "(I[BI)V"⟩ ∈ zT := zsub5 42 (by decide +kernel) (by decide +kernel)
theorem zw1007 : Cond.code ⟨"TemplateHouse$TextReader", "openFile", "(LTemplateHouse$Gen;)V"⟩ prog_12_method_2_code 2 (Option.none : Option Jvm.ClassFile.FieldType) ∈ zT := zsub5 47 rfl rfl
theorem zw8 : Cond.initialized "TemplateHouse$TextReader" ∈ zT := zsub1 8 (by decide +kernel) (by decide +kernel)
theorem zw1005 : Cond.instanceMethod ⟨"TemplateHouse$TextReader", "openFile", "(LTemplateHouse$Gen;)V"⟩ ∈ zT := zsub5 45 (by decide +kernel) (by decide +kernel)
theorem zw1006 : Cond.selects "TemplateHouse$TextReader" ⟨"TemplateHouse$TextReader", "openFile", "(LTemplateHouse$Gen;)V"⟩ ⟨"TemplateHouse$TextReader", "openFile", "(LTemplateHouse$Gen;)V"⟩ ∈ zT := zsub5 46 (by decide +kernel) (by decide +kernel)
theorem zw1019 : Cond.code ⟨"TemplateHouse$Source", "past", "(I)I"⟩ prog_9_method_22_code 6 (Option.some Jvm.ClassFile.FieldType.int) ∈ zT := zsub5 59 rfl rfl
theorem zw1017 : Cond.instanceMethod ⟨"TemplateHouse$Source", "past", "(I)I"⟩ ∈ zT := zsub5 57 (by decide +kernel) (by decide +kernel)
theorem zw1018 : Cond.selects "TemplateHouse$Source" ⟨"TemplateHouse$Source", "past", "(I)I"⟩ ⟨"TemplateHouse$Source", "past", "(I)I"⟩ ∈ zT := zsub5 58 (by decide +kernel) (by decide +kernel)
theorem zw1023 : Cond.code ⟨"TemplateHouse$Source", "fail", "(II)V"⟩ prog_9_method_10_code 3 (Option.none : Option Jvm.ClassFile.FieldType) ∈ zT := zsub5 63 rfl rfl
theorem zw1021 : Cond.instanceMethod ⟨"TemplateHouse$Source", "fail", "(II)V"⟩ ∈ zT := zsub5 61 (by decide +kernel) (by decide +kernel)
theorem zw1022 : Cond.selects "TemplateHouse$Source" ⟨"TemplateHouse$Source", "fail", "(II)V"⟩ ⟨"TemplateHouse$Source", "fail", "(II)V"⟩ ∈ zT := zsub5 62 (by decide +kernel) (by decide +kernel)
theorem zw1090 : Cond.code ⟨"TemplateHouse$Source", "rowEnd", "(I)I"⟩ prog_9_method_13_code 5 (Option.some Jvm.ClassFile.FieldType.int) ∈ zT := zsub5 130 rfl rfl
theorem zw1088 : Cond.instanceMethod ⟨"TemplateHouse$Source", "rowEnd", "(I)I"⟩ ∈ zT := zsub5 128 (by decide +kernel) (by decide +kernel)
theorem zw1089 : Cond.selects "TemplateHouse$Source" ⟨"TemplateHouse$Source", "rowEnd", "(I)I"⟩ ⟨"TemplateHouse$Source", "rowEnd", "(I)I"⟩ ∈ zT := zsub5 129 (by decide +kernel) (by decide +kernel)
theorem zw1098 : Cond.code ⟨"TemplateHouse", "isText", "([BIILjava/lang/String;)Z"⟩ prog_1_method_35_code 5 (Option.some Jvm.ClassFile.FieldType.boolean) ∈ zT := zsub5 138 rfl rfl
theorem zw1097 : Cond.static ⟨"TemplateHouse", "isText", "([BIILjava/lang/String;)Z"⟩ ∈ zT := zsub5 137 (by decide +kernel) (by decide +kernel)
theorem zw1154 : Cond.code ⟨"TemplateHouse$Source", "peek", "()I"⟩ prog_9_method_7_code 1 (Option.some Jvm.ClassFile.FieldType.int) ∈ zT := zsub5 194 rfl rfl
theorem zw1152 : Cond.instanceMethod ⟨"TemplateHouse$Source", "peek", "()I"⟩ ∈ zT := zsub5 192 (by decide +kernel) (by decide +kernel)
theorem zw1153 : Cond.selects "TemplateHouse$Source" ⟨"TemplateHouse$Source", "peek", "()I"⟩ ⟨"TemplateHouse$Source", "peek", "()I"⟩ ∈ zT := zsub5 193 (by decide +kernel) (by decide +kernel)
theorem zw1164 : Cond.code ⟨"TemplateHouse$Source", "at", "(I)I"⟩ prog_9_method_6_code 2 (Option.some Jvm.ClassFile.FieldType.int) ∈ zT := zsub5 204 rfl rfl
theorem zw1162 : Cond.instanceMethod ⟨"TemplateHouse$Source", "at", "(I)I"⟩ ∈ zT := zsub5 202 (by decide +kernel) (by decide +kernel)
theorem zw1163 : Cond.selects "TemplateHouse$Source" ⟨"TemplateHouse$Source", "at", "(I)I"⟩ ⟨"TemplateHouse$Source", "at", "(I)I"⟩ ∈ zT := zsub5 203 (by decide +kernel) (by decide +kernel)
theorem zw1168 : Cond.code ⟨"TemplateHouse$Source", "placeOf", "(I)I"⟩ prog_9_method_8_code 2 (Option.some Jvm.ClassFile.FieldType.int) ∈ zT := zsub5 208 rfl rfl
theorem zw1166 : Cond.instanceMethod ⟨"TemplateHouse$Source", "placeOf", "(I)I"⟩ ∈ zT := zsub5 206 (by decide +kernel) (by decide +kernel)
theorem zw1167 : Cond.selects "TemplateHouse$Source" ⟨"TemplateHouse$Source", "placeOf", "(I)I"⟩ ⟨"TemplateHouse$Source", "placeOf", "(I)I"⟩ ∈ zT := zsub5 207 (by decide +kernel) (by decide +kernel)
theorem zw1159 : Cond.code ⟨"TemplateHouse$Source", "stringEnd", "()I"⟩ prog_9_method_20_code 3 (Option.some Jvm.ClassFile.FieldType.int) ∈ zT := zsub5 199 rfl rfl
theorem zw1157 : Cond.instanceMethod ⟨"TemplateHouse$Source", "stringEnd", "()I"⟩ ∈ zT := zsub5 197 (by decide +kernel) (by decide +kernel)
theorem zw1158 : Cond.selects "TemplateHouse$Source" ⟨"TemplateHouse$Source", "stringEnd", "()I"⟩ ⟨"TemplateHouse$Source", "stringEnd", "()I"⟩ ∈ zT := zsub5 198 (by decide +kernel) (by decide +kernel)
theorem zw1172 : Cond.code ⟨"TemplateHouse", "isRow", "(I)Z"⟩ prog_1_method_38_code 1 (Option.some Jvm.ClassFile.FieldType.boolean) ∈ zT := zsub5 212 rfl rfl
theorem zw1171 : Cond.static ⟨"TemplateHouse", "isRow", "(I)Z"⟩ ∈ zT := zsub5 211 (by decide +kernel) (by decide +kernel)
theorem zw1241 : Cond.code ⟨"TemplateHouse$Source", "isBecomes", "()Z"⟩ prog_9_method_26_code 1 (Option.some Jvm.ClassFile.FieldType.boolean) ∈ zT := zsub6 41 rfl rfl
theorem zw1240 : Cond.instanceMethod ⟨"TemplateHouse$Source", "isBecomes", "()Z"⟩ ∈ zT := zsub6 40 (by decide +kernel) (by decide +kernel)
theorem zwp98 : Cond.selects "TemplateHouse$Source" ⟨"TemplateHouse$Source", "isBecomes", "()Z"⟩ ⟨"TemplateHouse$Source", "isBecomes", "()Z"⟩ ∈ zT := zin 98 (by decide +kernel) (by decide +kernel)
theorem zw1246 : Cond.code ⟨"TemplateHouse$FileReader", "isOnTheWay", "(I)Z"⟩ prog_3_method_6_code 3 (Option.some Jvm.ClassFile.FieldType.boolean) ∈ zT := zsub6 46 rfl rfl
theorem zw7 : Cond.initialized "TemplateHouse$FileReader" ∈ zT := zsub1 7 (by decide +kernel) (by decide +kernel)
theorem zw1245 : Cond.instanceMethod ⟨"TemplateHouse$FileReader", "isOnTheWay", "(I)Z"⟩ ∈ zT := zsub6 45 (by decide +kernel) (by decide +kernel)
theorem zwp25 : Cond.selects "TemplateHouse$FileReader" ⟨"TemplateHouse$FileReader", "isOnTheWay", "(I)Z"⟩ ⟨"TemplateHouse$FileReader", "isOnTheWay", "(I)Z"⟩ ∈ zT := zin 25 (by decide +kernel) (by decide +kernel)
theorem zw1250 : Cond.code ⟨"TemplateHouse$Imports", "note", "(II)V"⟩ prog_6_method_5_code 5 (Option.none : Option Jvm.ClassFile.FieldType) ∈ zT := zsub6 50 rfl rfl
theorem zw1248 : Cond.instanceMethod ⟨"TemplateHouse$Imports", "note", "(II)V"⟩ ∈ zT := zsub6 48 (by decide +kernel) (by decide +kernel)
theorem zw1249 : Cond.selects "TemplateHouse$Imports" ⟨"TemplateHouse$Imports", "note", "(II)V"⟩ ⟨"TemplateHouse$Imports", "note", "(II)V"⟩ ∈ zT := zsub6 49 (by decide +kernel) (by decide +kernel)
theorem zw1272 : Cond.code ⟨"TemplateHouse", "isLetter", "(I)Z"⟩ prog_1_method_37_code 1 (Option.some Jvm.ClassFile.FieldType.boolean) ∈ zT := zsub6 72 rfl rfl
theorem zw1271 : Cond.static ⟨"TemplateHouse", "isLetter", "(I)Z"⟩ ∈ zT := zsub6 71 (by decide +kernel) (by decide +kernel)
theorem zw1275 : Cond.code ⟨"TemplateHouse", "wordIn", "(Ljava/lang/String;[BII)I"⟩ prog_1_method_36_code 8 (Option.some Jvm.ClassFile.FieldType.int) ∈ zT := zsub6 75 rfl rfl
theorem zw1274 : Cond.static ⟨"TemplateHouse", "wordIn", "(Ljava/lang/String;[BII)I"⟩ ∈ zT := zsub6 74 (by decide +kernel) (by decide +kernel)
theorem zw1279 : Cond.code ⟨"TemplateHouse$Source", "here", "()I"⟩ prog_9_method_9_code 1 (Option.some Jvm.ClassFile.FieldType.int) ∈ zT := zsub6 79 rfl rfl
theorem zw1277 : Cond.instanceMethod ⟨"TemplateHouse$Source", "here", "()I"⟩ ∈ zT := zsub6 77 (by decide +kernel) (by decide +kernel)
theorem zw1278 : Cond.selects "TemplateHouse$Source" ⟨"TemplateHouse$Source", "here", "()I"⟩ ⟨"TemplateHouse$Source", "here", "()I"⟩ ∈ zT := zsub6 78 (by decide +kernel) (by decide +kernel)
theorem zw1288 : Cond.code ⟨"TemplateHouse$Gen", "newDef", "(IIII)I"⟩ prog_4_method_11_code 6 (Option.some Jvm.ClassFile.FieldType.int) ∈ zT := zsub6 88 rfl rfl
theorem zw1286 : Cond.instanceMethod ⟨"TemplateHouse$Gen", "newDef", "(IIII)I"⟩ ∈ zT := zsub6 86 (by decide +kernel) (by decide +kernel)
theorem zw1287 : Cond.selects "TemplateHouse$Gen" ⟨"TemplateHouse$Gen", "newDef", "(IIII)I"⟩ ⟨"TemplateHouse$Gen", "newDef", "(IIII)I"⟩ ∈ zT := zsub6 87 (by decide +kernel) (by decide +kernel)
theorem zw1305 : Cond.code ⟨"TemplateHouse$Source", "isSpace", "(I)Z"⟩ prog_9_method_5_code 1 (Option.some Jvm.ClassFile.FieldType.boolean) ∈ zT := zsub6 105 rfl rfl
theorem zw1304 : Cond.static ⟨"TemplateHouse$Source", "isSpace", "(I)Z"⟩ ∈ zT := zsub6 104 (by decide +kernel) (by decide +kernel)
theorem zw1301 : Cond.code ⟨"TemplateHouse$Source", "openBody", "(IIZII)V"⟩ prog_9_method_3_code 9 (Option.none : Option Jvm.ClassFile.FieldType) ∈ zT := zsub6 101 rfl rfl
theorem zw1299 : Cond.instanceMethod ⟨"TemplateHouse$Source", "openBody", "(IIZII)V"⟩ ∈ zT := zsub6 99 (by decide +kernel) (by decide +kernel)
theorem zw1300 : Cond.selects "TemplateHouse$Source" ⟨"TemplateHouse$Source", "openBody", "(IIZII)V"⟩ ⟨"TemplateHouse$Source", "openBody", "(IIZII)V"⟩ ∈ zT := zsub6 100 (by decide +kernel) (by decide +kernel)
theorem zw1311 : Cond.code ⟨"TemplateHouse$TextReader", "define", "(III)V"⟩ prog_12_method_3_code 4 (Option.none : Option Jvm.ClassFile.FieldType) ∈ zT := zsub6 111 rfl rfl
theorem zw1309 : Cond.instanceMethod ⟨"TemplateHouse$TextReader", "define", "(III)V"⟩ ∈ zT := zsub6 109 (by decide +kernel) (by decide +kernel)
theorem zw1310 : Cond.selects "TemplateHouse$TextReader" ⟨"TemplateHouse$TextReader", "define", "(III)V"⟩ ⟨"TemplateHouse$TextReader", "define", "(III)V"⟩ ∈ zT := zsub6 110 (by decide +kernel) (by decide +kernel)
theorem zw1319 : Cond.code ⟨"TemplateHouse$Gen", "emit", "(I)V"⟩ prog_4_method_3_code 2 (Option.none : Option Jvm.ClassFile.FieldType) ∈ zT := zsub6 119 rfl rfl
theorem zw1317 : Cond.instanceMethod ⟨"TemplateHouse$Gen", "emit", "(I)V"⟩ ∈ zT := zsub6 117 (by decide +kernel) (by decide +kernel)
theorem zw1318 : Cond.selects "TemplateHouse$Gen" ⟨"TemplateHouse$Gen", "emit", "(I)V"⟩ ⟨"TemplateHouse$Gen", "emit", "(I)V"⟩ ∈ zT := zsub6 118 (by decide +kernel) (by decide +kernel)
theorem zw1315 : Cond.code ⟨"TemplateHouse$Gen", "emit", "(III)V"⟩ prog_4_method_5_code 4 (Option.none : Option Jvm.ClassFile.FieldType) ∈ zT := zsub6 115 rfl rfl
theorem zw1313 : Cond.instanceMethod ⟨"TemplateHouse$Gen", "emit", "(III)V"⟩ ∈ zT := zsub6 113 (by decide +kernel) (by decide +kernel)
theorem zw1314 : Cond.selects "TemplateHouse$Gen" ⟨"TemplateHouse$Gen", "emit", "(III)V"⟩ ⟨"TemplateHouse$Gen", "emit", "(III)V"⟩ ∈ zT := zsub6 114 (by decide +kernel) (by decide +kernel)
theorem zw1332 : Cond.code ⟨"TemplateHouse$FileReader", "checkParam", "(IIZ)V"⟩ prog_3_method_13_code 5 (Option.none : Option Jvm.ClassFile.FieldType) ∈ zT := zsub6 132 rfl rfl
theorem zw1331 : Cond.instanceMethod ⟨"TemplateHouse$FileReader", "checkParam", "(IIZ)V"⟩ ∈ zT := zsub6 131 (by decide +kernel) (by decide +kernel)
theorem zwp19 : Cond.selects "TemplateHouse$FileReader" ⟨"TemplateHouse$FileReader", "checkParam", "(IIZ)V"⟩ ⟨"TemplateHouse$FileReader", "checkParam", "(IIZ)V"⟩ ∈ zT := zin 19 (by decide +kernel) (by decide +kernel)
theorem zw1350 : Cond.code ⟨"TemplateHouse$Gen", "stringFrom", "(I)I"⟩ prog_4_method_9_code 2 (Option.some Jvm.ClassFile.FieldType.int) ∈ zT := zsub6 150 rfl rfl
theorem zw1348 : Cond.instanceMethod ⟨"TemplateHouse$Gen", "stringFrom", "(I)I"⟩ ∈ zT := zsub6 148 (by decide +kernel) (by decide +kernel)
theorem zw1349 : Cond.selects "TemplateHouse$Gen" ⟨"TemplateHouse$Gen", "stringFrom", "(I)I"⟩ ⟨"TemplateHouse$Gen", "stringFrom", "(I)I"⟩ ∈ zT := zsub6 149 (by decide +kernel) (by decide +kernel)
theorem zw1345 : Cond.code ⟨"TemplateHouse$Source", "string", "(LTemplateHouse$Gen;I)I"⟩ prog_9_method_21_code 6 (Option.some Jvm.ClassFile.FieldType.int) ∈ zT := zsub6 145 rfl rfl
theorem zw1343 : Cond.instanceMethod ⟨"TemplateHouse$Source", "string", "(LTemplateHouse$Gen;I)I"⟩ ∈ zT := zsub6 143 (by decide +kernel) (by decide +kernel)
theorem zw1344 : Cond.selects "TemplateHouse$Source" ⟨"TemplateHouse$Source", "string", "(LTemplateHouse$Gen;I)I"⟩ ⟨"TemplateHouse$Source", "string", "(LTemplateHouse$Gen;I)I"⟩ ∈ zT := zsub6 144 (by decide +kernel) (by decide +kernel)
theorem zw1362 : Cond.code ⟨"TemplateHouse$TextReader", "startConstant", "()V"⟩ prog_12_method_4_code 1 (Option.none : Option Jvm.ClassFile.FieldType) ∈ zT := zsub6 162 rfl rfl
theorem zw1360 : Cond.instanceMethod ⟨"TemplateHouse$TextReader", "startConstant", "()V"⟩ ∈ zT := zsub6 160 (by decide +kernel) (by decide +kernel)
theorem zw1361 : Cond.selects "TemplateHouse$TextReader" ⟨"TemplateHouse$TextReader", "startConstant", "()V"⟩ ⟨"TemplateHouse$TextReader", "startConstant", "()V"⟩ ∈ zT := zsub6 161 (by decide +kernel) (by decide +kernel)
theorem zw1378 : Cond.code ⟨"TemplateHouse$Source", "blanksEnd", "(I)I"⟩ prog_9_method_12_code 3 (Option.some Jvm.ClassFile.FieldType.int) ∈ zT := zsub6 178 rfl rfl
theorem zw1376 : Cond.instanceMethod ⟨"TemplateHouse$Source", "blanksEnd", "(I)I"⟩ ∈ zT := zsub6 176 (by decide +kernel) (by decide +kernel)
theorem zw1377 : Cond.selects "TemplateHouse$Source" ⟨"TemplateHouse$Source", "blanksEnd", "(I)I"⟩ ⟨"TemplateHouse$Source", "blanksEnd", "(I)I"⟩ ∈ zT := zsub6 177 (by decide +kernel) (by decide +kernel)
abbrev cX12_setByte : ByteArray := prog_1_method_33_code
abbrev yX12_setByte : MethodName := ⟨"TemplateHouse", "setByte", "([BII)V"⟩
theorem dmX12_setByte : zDs yX12_setByte cX12_setByte 3 none 3 := ⟨⟨⟨by decide +kernel, by decide +kernel, by decide +kernel⟩, zw776, zw1⟩, zw775⟩
abbrev cX12_fourReady : ByteArray := prog_1_method_3_code
abbrev yX12_fourReady : MethodName := ⟨"TemplateHouse", "fourReady", "(II)V"⟩
theorem dmX12_fourReady : zDv yX12_fourReady cX12_fourReady 4 none 2 := ⟨⟨⟨by decide +kernel, by decide +kernel, by decide +kernel⟩, zw773, zw1⟩, zw772, zwp0⟩
abbrev cX12_feed : ByteArray := prog_1_method_2_code
abbrev yX12_feed : MethodName := ⟨"TemplateHouse", "feed", "(IIIII)V"⟩
theorem dmX12_feed : zDv yX12_feed cX12_feed 6 none 5 := ⟨⟨⟨by decide +kernel, by decide +kernel, by decide +kernel⟩, zw769, zw1⟩, zw767, zw768⟩
abbrev cX12_getByte : ByteArray := prog_1_method_32_code
abbrev yX12_getByte : MethodName := ⟨"TemplateHouse", "getByte", "([BI)I"⟩
theorem dmX12_getByte : zDs yX12_getByte cX12_getByte 2 (some .int) 2 := ⟨⟨⟨by decide +kernel, by decide +kernel, by decide +kernel⟩, zw783, zw1⟩, zw782⟩
abbrev cJ7_fill_031fb : ByteArray := prog_34_method_109_code
abbrev yJ7_fill_031fb : MethodName := ⟨"java/util/Arrays", "fill", "([BB)V"⟩
theorem dmJ7_fill_031fb : zDs yJ7_fill_031fb cJ7_fill_031fb 4 none 2 := ⟨⟨⟨by decide +kernel, by decide +kernel, by decide +kernel⟩, zw786, zw16⟩, zw785⟩
abbrev cX12_end : ByteArray := prog_1_method_4_code
abbrev yX12_end : MethodName := ⟨"TemplateHouse", "end", "(I)I"⟩
theorem dmX12_end : zDv yX12_end cX12_end 3 (some .int) 1 := ⟨⟨⟨by decide +kernel, by decide +kernel, by decide +kernel⟩, zw780, zw1⟩, zw778, zw779⟩
abbrev cX12_file : ByteArray := prog_1_method_5_code
abbrev yX12_file : MethodName := ⟨"TemplateHouse", "file", "(I)Z"⟩
theorem dmX12_file : zDv yX12_file cX12_file 5 (some .boolean) 1 := ⟨⟨⟨by decide +kernel, by decide +kernel, by decide +kernel⟩, zw790, zw1⟩, zw788, zw789⟩
abbrev cJ7_fill_53178 : ByteArray := prog_34_method_103_code
abbrev yJ7_fill_53178 : MethodName := ⟨"java/util/Arrays", "fill", "([II)V"⟩
theorem dmJ7_fill_53178 : zDs yJ7_fill_53178 cJ7_fill_53178 4 none 2 := ⟨⟨⟨by decide +kernel, by decide +kernel, by decide +kernel⟩, zw951, zw16⟩, zw950⟩
abbrev cX6_hash : ByteArray := prog_8_method_5_code
abbrev yX6_hash : MethodName := ⟨"TemplateHouse$Names", "hash", "([BII)I"⟩
theorem dmX6_hash : zDs yX6_hash cX6_hash 5 (some .int) 3 := ⟨⟨⟨by decide +kernel, by decide +kernel, by decide +kernel⟩, zw964, zw5⟩, zw963⟩
abbrev cX12_get : ByteArray := prog_1_method_30_code
abbrev yX12_get : MethodName := ⟨"TemplateHouse", "get", "([II)I"⟩
theorem dmX12_get : zDs yX12_get cX12_get 2 (some .int) 2 := ⟨⟨⟨by decide +kernel, by decide +kernel, by decide +kernel⟩, zw846, zw1⟩, zw845⟩
abbrev cX6_lengthOf : ByteArray := prog_8_method_3_code
abbrev yX6_lengthOf : MethodName := ⟨"TemplateHouse$Names", "lengthOf", "(I)I"⟩
theorem dmX6_lengthOf : zDv yX6_lengthOf cX6_lengthOf 2 (some .int) 1 := ⟨⟨⟨by decide +kernel, by decide +kernel, by decide +kernel⟩, zw969, zw5⟩, zw967, zw968⟩
abbrev cX12_same : ByteArray := prog_1_method_34_code
abbrev yX12_same : MethodName := ⟨"TemplateHouse", "same", "([BI[BII)Z"⟩
theorem dmX12_same : zDs yX12_same cX12_same 6 (some .boolean) 5 := ⟨⟨⟨by decide +kernel, by decide +kernel, by decide +kernel⟩, zw869, zw1⟩, zw868⟩
abbrev cX12_set : ByteArray := prog_1_method_31_code
abbrev yX12_set : MethodName := ⟨"TemplateHouse", "set", "([III)V"⟩
theorem dmX12_set : zDs yX12_set cX12_set 3 none 3 := ⟨⟨⟨by decide +kernel, by decide +kernel, by decide +kernel⟩, zw805, zw1⟩, zw804⟩
abbrev cX4_forget : ByteArray := prog_6_method_2_code
abbrev yX4_forget : MethodName := ⟨"TemplateHouse$Imports", "forget", "()V"⟩
theorem dmX4_forget : zDv yX4_forget cX4_forget 1 none 0 := ⟨⟨⟨by decide +kernel, by decide +kernel, by decide +kernel⟩, zw977, zw6⟩, zw975, zw976⟩
abbrev cX2_keep : ByteArray := prog_4_method_8_code
abbrev yX2_keep : MethodName := ⟨"TemplateHouse$Gen", "keep", "(II)V"⟩
theorem dmX2_keep : zDv yX2_keep cX2_keep 3 none 2 := ⟨⟨⟨by decide +kernel, by decide +kernel, by decide +kernel⟩, zw983, zw4⟩, zw981, zw982⟩
abbrev cX4_wasRead : ByteArray := prog_6_method_3_code
abbrev yX4_wasRead : MethodName := ⟨"TemplateHouse$Imports", "wasRead", "(I)Z"⟩
theorem dmX4_wasRead : zDv yX4_wasRead cX4_wasRead 3 (some .boolean) 1 := ⟨⟨⟨by decide +kernel, by decide +kernel, by decide +kernel⟩, zw991, zw6⟩, zw989, zw990⟩
abbrev cX4_noteRead : ByteArray := prog_6_method_4_code
abbrev yX4_noteRead : MethodName := ⟨"TemplateHouse$Imports", "noteRead", "(I)V"⟩
theorem dmX4_noteRead : zDv yX4_noteRead cX4_noteRead 2 none 1 := ⟨⟨⟨by decide +kernel, by decide +kernel, by decide +kernel⟩, zw997, zw6⟩, zw995, zw996⟩
abbrev cX7_openFile : ByteArray := prog_9_method_2_code
abbrev yX7_openFile : MethodName := ⟨"TemplateHouse$Source", "openFile", "(I[BI)V"⟩
theorem dmX7_openFile : zDv yX7_openFile cX7_openFile 4 none 3 := ⟨⟨⟨by decide +kernel, by decide +kernel, by decide +kernel⟩, zw1003, zw3⟩, zw1001, zw1002⟩
abbrev cX10_openFile : ByteArray := prog_12_method_2_code
abbrev yX10_openFile : MethodName := ⟨"TemplateHouse$TextReader", "openFile", "(LTemplateHouse$Gen;)V"⟩
theorem dmX10_openFile : zDv yX10_openFile cX10_openFile 2 none 1 := ⟨⟨⟨by decide +kernel, by decide +kernel, by decide +kernel⟩, zw1007, zw8⟩, zw1005, zw1006⟩
abbrev cX7_past : ByteArray := prog_9_method_22_code
abbrev yX7_past : MethodName := ⟨"TemplateHouse$Source", "past", "(I)I"⟩
theorem dmX7_past : zDv yX7_past cX7_past 6 (some .int) 1 := ⟨⟨⟨by decide +kernel, by decide +kernel, by decide +kernel⟩, zw1019, zw3⟩, zw1017, zw1018⟩
abbrev cX7_fail : ByteArray := prog_9_method_10_code
abbrev yX7_fail : MethodName := ⟨"TemplateHouse$Source", "fail", "(II)V"⟩
theorem dmX7_fail : zDv yX7_fail cX7_fail 3 none 2 := ⟨⟨⟨by decide +kernel, by decide +kernel, by decide +kernel⟩, zw1023, zw3⟩, zw1021, zw1022⟩
abbrev cX7_rowEnd : ByteArray := prog_9_method_13_code
abbrev yX7_rowEnd : MethodName := ⟨"TemplateHouse$Source", "rowEnd", "(I)I"⟩
theorem dmX7_rowEnd : zDv yX7_rowEnd cX7_rowEnd 5 (some .int) 1 := ⟨⟨⟨by decide +kernel, by decide +kernel, by decide +kernel⟩, zw1090, zw3⟩, zw1088, zw1089⟩
abbrev cX12_isText : ByteArray := prog_1_method_35_code
abbrev yX12_isText : MethodName := ⟨"TemplateHouse", "isText", "([BIILjava/lang/String;)Z"⟩
theorem dmX12_isText : zDs yX12_isText cX12_isText 5 (some .boolean) 4 := ⟨⟨⟨by decide +kernel, by decide +kernel, by decide +kernel⟩, zw1098, zw1⟩, zw1097⟩
abbrev cX7_peek : ByteArray := prog_9_method_7_code
abbrev yX7_peek : MethodName := ⟨"TemplateHouse$Source", "peek", "()I"⟩
theorem dmX7_peek : zDv yX7_peek cX7_peek 1 (some .int) 0 := ⟨⟨⟨by decide +kernel, by decide +kernel, by decide +kernel⟩, zw1154, zw3⟩, zw1152, zw1153⟩
abbrev cX7_at : ByteArray := prog_9_method_6_code
abbrev yX7_at : MethodName := ⟨"TemplateHouse$Source", "at", "(I)I"⟩
theorem dmX7_at : zDv yX7_at cX7_at 2 (some .int) 1 := ⟨⟨⟨by decide +kernel, by decide +kernel, by decide +kernel⟩, zw1164, zw3⟩, zw1162, zw1163⟩
abbrev cX7_placeOf : ByteArray := prog_9_method_8_code
abbrev yX7_placeOf : MethodName := ⟨"TemplateHouse$Source", "placeOf", "(I)I"⟩
theorem dmX7_placeOf : zDv yX7_placeOf cX7_placeOf 2 (some .int) 1 := ⟨⟨⟨by decide +kernel, by decide +kernel, by decide +kernel⟩, zw1168, zw3⟩, zw1166, zw1167⟩
abbrev cX7_stringEnd : ByteArray := prog_9_method_20_code
abbrev yX7_stringEnd : MethodName := ⟨"TemplateHouse$Source", "stringEnd", "()I"⟩
theorem dmX7_stringEnd : zDv yX7_stringEnd cX7_stringEnd 3 (some .int) 0 := ⟨⟨⟨by decide +kernel, by decide +kernel, by decide +kernel⟩, zw1159, zw3⟩, zw1157, zw1158⟩
abbrev cX12_isRow : ByteArray := prog_1_method_38_code
abbrev yX12_isRow : MethodName := ⟨"TemplateHouse", "isRow", "(I)Z"⟩
theorem dmX12_isRow : zDs yX12_isRow cX12_isRow 1 (some .boolean) 1 := ⟨⟨⟨by decide +kernel, by decide +kernel, by decide +kernel⟩, zw1172, zw1⟩, zw1171⟩
abbrev cX7_isBecomes : ByteArray := prog_9_method_26_code
abbrev yX7_isBecomes : MethodName := ⟨"TemplateHouse$Source", "isBecomes", "()Z"⟩
theorem dmX7_isBecomes : zDv yX7_isBecomes cX7_isBecomes 1 (some .boolean) 0 := ⟨⟨⟨by decide +kernel, by decide +kernel, by decide +kernel⟩, zw1241, zw3⟩, zw1240, zwp98⟩
abbrev cX1_isOnTheWay : ByteArray := prog_3_method_6_code
abbrev yX1_isOnTheWay : MethodName := ⟨"TemplateHouse$FileReader", "isOnTheWay", "(I)Z"⟩
theorem dmX1_isOnTheWay : zDv yX1_isOnTheWay cX1_isOnTheWay 3 (some .boolean) 1 := ⟨⟨⟨by decide +kernel, by decide +kernel, by decide +kernel⟩, zw1246, zw7⟩, zw1245, zwp25⟩
abbrev cX4_note : ByteArray := prog_6_method_5_code
abbrev yX4_note : MethodName := ⟨"TemplateHouse$Imports", "note", "(II)V"⟩
theorem dmX4_note : zDv yX4_note cX4_note 5 none 2 := ⟨⟨⟨by decide +kernel, by decide +kernel, by decide +kernel⟩, zw1250, zw6⟩, zw1248, zw1249⟩
abbrev cX12_isLetter : ByteArray := prog_1_method_37_code
abbrev yX12_isLetter : MethodName := ⟨"TemplateHouse", "isLetter", "(I)Z"⟩
theorem dmX12_isLetter : zDs yX12_isLetter cX12_isLetter 1 (some .boolean) 1 := ⟨⟨⟨by decide +kernel, by decide +kernel, by decide +kernel⟩, zw1272, zw1⟩, zw1271⟩
abbrev cX12_wordIn : ByteArray := prog_1_method_36_code
abbrev yX12_wordIn : MethodName := ⟨"TemplateHouse", "wordIn", "(Ljava/lang/String;[BII)I"⟩
theorem dmX12_wordIn : zDs yX12_wordIn cX12_wordIn 8 (some .int) 4 := ⟨⟨⟨by decide +kernel, by decide +kernel, by decide +kernel⟩, zw1275, zw1⟩, zw1274⟩
abbrev cX7_here : ByteArray := prog_9_method_9_code
abbrev yX7_here : MethodName := ⟨"TemplateHouse$Source", "here", "()I"⟩
theorem dmX7_here : zDv yX7_here cX7_here 1 (some .int) 0 := ⟨⟨⟨by decide +kernel, by decide +kernel, by decide +kernel⟩, zw1279, zw3⟩, zw1277, zw1278⟩
abbrev cX2_newDef : ByteArray := prog_4_method_11_code
abbrev yX2_newDef : MethodName := ⟨"TemplateHouse$Gen", "newDef", "(IIII)I"⟩
theorem dmX2_newDef : zDv yX2_newDef cX2_newDef 6 (some .int) 4 := ⟨⟨⟨by decide +kernel, by decide +kernel, by decide +kernel⟩, zw1288, zw4⟩, zw1286, zw1287⟩
abbrev cX7_isSpace : ByteArray := prog_9_method_5_code
abbrev yX7_isSpace : MethodName := ⟨"TemplateHouse$Source", "isSpace", "(I)Z"⟩
theorem dmX7_isSpace : zDs yX7_isSpace cX7_isSpace 1 (some .boolean) 1 := ⟨⟨⟨by decide +kernel, by decide +kernel, by decide +kernel⟩, zw1305, zw3⟩, zw1304⟩
abbrev cX7_openBody : ByteArray := prog_9_method_3_code
abbrev yX7_openBody : MethodName := ⟨"TemplateHouse$Source", "openBody", "(IIZII)V"⟩
theorem dmX7_openBody : zDv yX7_openBody cX7_openBody 9 none 5 := ⟨⟨⟨by decide +kernel, by decide +kernel, by decide +kernel⟩, zw1301, zw3⟩, zw1299, zw1300⟩
abbrev cX10_define : ByteArray := prog_12_method_3_code
abbrev yX10_define : MethodName := ⟨"TemplateHouse$TextReader", "define", "(III)V"⟩
theorem dmX10_define : zDv yX10_define cX10_define 4 none 3 := ⟨⟨⟨by decide +kernel, by decide +kernel, by decide +kernel⟩, zw1311, zw8⟩, zw1309, zw1310⟩
abbrev cX2_emit : ByteArray := prog_4_method_3_code
abbrev yX2_emit : MethodName := ⟨"TemplateHouse$Gen", "emit", "(I)V"⟩
theorem dmX2_emit : zDv yX2_emit cX2_emit 2 none 1 := ⟨⟨⟨by decide +kernel, by decide +kernel, by decide +kernel⟩, zw1319, zw4⟩, zw1317, zw1318⟩
abbrev cX2_emit__ : ByteArray := prog_4_method_5_code
abbrev yX2_emit__ : MethodName := ⟨"TemplateHouse$Gen", "emit", "(III)V"⟩
theorem dmX2_emit__ : zDv yX2_emit__ cX2_emit__ 4 none 3 := ⟨⟨⟨by decide +kernel, by decide +kernel, by decide +kernel⟩, zw1315, zw4⟩, zw1313, zw1314⟩
abbrev cX1_checkParam : ByteArray := prog_3_method_13_code
abbrev yX1_checkParam : MethodName := ⟨"TemplateHouse$FileReader", "checkParam", "(IIZ)V"⟩
theorem dmX1_checkParam : zDv yX1_checkParam cX1_checkParam 5 none 3 := ⟨⟨⟨by decide +kernel, by decide +kernel, by decide +kernel⟩, zw1332, zw7⟩, zw1331, zwp19⟩
abbrev cX2_stringFrom : ByteArray := prog_4_method_9_code
abbrev yX2_stringFrom : MethodName := ⟨"TemplateHouse$Gen", "stringFrom", "(I)I"⟩
theorem dmX2_stringFrom : zDv yX2_stringFrom cX2_stringFrom 2 (some .int) 1 := ⟨⟨⟨by decide +kernel, by decide +kernel, by decide +kernel⟩, zw1350, zw4⟩, zw1348, zw1349⟩
abbrev cX7_string : ByteArray := prog_9_method_21_code
abbrev yX7_string : MethodName := ⟨"TemplateHouse$Source", "string", "(LTemplateHouse$Gen;I)I"⟩
theorem dmX7_string : zDv yX7_string cX7_string 6 (some .int) 2 := ⟨⟨⟨by decide +kernel, by decide +kernel, by decide +kernel⟩, zw1345, zw3⟩, zw1343, zw1344⟩
abbrev cX10_startConstant : ByteArray := prog_12_method_4_code
abbrev yX10_startConstant : MethodName := ⟨"TemplateHouse$TextReader", "startConstant", "()V"⟩
theorem dmX10_startConstant : zDv yX10_startConstant cX10_startConstant 1 none 0 := ⟨⟨⟨by decide +kernel, by decide +kernel, by decide +kernel⟩, zw1362, zw8⟩, zw1360, zw1361⟩
abbrev cX7_blanksEnd : ByteArray := prog_9_method_12_code
abbrev yX7_blanksEnd : MethodName := ⟨"TemplateHouse$Source", "blanksEnd", "(I)I"⟩
theorem dmX7_blanksEnd : zDv yX7_blanksEnd cX7_blanksEnd 3 (some .int) 1 := ⟨⟨⟨by decide +kernel, by decide +kernel, by decide +kernel⟩, zw1378, zw3⟩, zw1376, zw1377⟩
theorem dX12_setByte_0 : decode cX12_setByte 0 = .ok (.iload_n 1, 1) := by decide +kernel
theorem dX12_setByte_1 : decode cX12_setByte 1 = .ok (.ifCond .lt 14, 3) := by decide +kernel
theorem dX12_setByte_15 : decode cX12_setByte 15 = .ok (.return_, 1) := by decide +kernel
theorem dX12_setByte_4 : decode cX12_setByte 4 = .ok (.iload_n 1, 1) := by decide +kernel
theorem dX12_setByte_5 : decode cX12_setByte 5 = .ok (.aload_n 0, 1) := by decide +kernel
theorem dX12_setByte_6 : decode cX12_setByte 6 = .ok (.arraylength, 1) := by decide +kernel
theorem dX12_setByte_7 : decode cX12_setByte 7 = .ok (.if_icmp .ge 8, 3) := by decide +kernel
theorem dX12_setByte_10 : decode cX12_setByte 10 = .ok (.aload_n 0, 1) := by decide +kernel
theorem dX12_setByte_11 : decode cX12_setByte 11 = .ok (.iload_n 1, 1) := by decide +kernel
theorem dX12_setByte_12 : decode cX12_setByte 12 = .ok (.iload_n 2, 1) := by decide +kernel
theorem dX12_setByte_13 : decode cX12_setByte 13 = .ok (.i2b, 1) := by decide +kernel
theorem dX12_setByte_14 : decode cX12_setByte 14 = .ok (.bastore, 1) := by decide +kernel
theorem dX12_fourReady_0 : decode cX12_fourReady 0 = .ok (.iconst 0, 1) := by decide +kernel
theorem dX12_fourReady_1 : decode cX12_fourReady 1 = .ok (.istore_n 3, 1) := by decide +kernel
theorem dX12_fourReady_2 : decode cX12_fourReady 2 = .ok (.iload_n 3, 1) := by decide +kernel
theorem dX12_fourReady_3 : decode cX12_fourReady 3 = .ok (.iconst 4, 1) := by decide +kernel
theorem dX12_fourReady_4 : decode cX12_fourReady 4 = .ok (.if_icmp .ge 28, 3) := by decide +kernel
theorem dX12_fourReady_32 : decode cX12_fourReady 32 = .ok (.return_, 1) := by decide +kernel
theorem dX12_fourReady_7 : decode cX12_fourReady 7 = .ok (.aload_n 0, 1) := by decide +kernel
theorem dX12_fourReady_8 : decode cX12_fourReady 8 = .ok (.getfield 9, 3) := by decide +kernel
theorem dX12_fourReady_11 : decode cX12_fourReady 11 = .ok (.iload_n 1, 1) := by decide +kernel
theorem dX12_fourReady_12 : decode cX12_fourReady 12 = .ok (.iload_n 3, 1) := by decide +kernel
theorem dX12_fourReady_13 : decode cX12_fourReady 13 = .ok (.iadd, 1) := by decide +kernel
theorem dX12_fourReady_14 : decode cX12_fourReady 14 = .ok (.iload_n 2, 1) := by decide +kernel
theorem dX12_fourReady_15 : decode cX12_fourReady 15 = .ok (.bipush 24, 2) := by decide +kernel
theorem dX12_fourReady_17 : decode cX12_fourReady 17 = .ok (.bipush 8, 2) := by decide +kernel
theorem dX12_fourReady_19 : decode cX12_fourReady 19 = .ok (.iload_n 3, 1) := by decide +kernel
theorem dX12_fourReady_20 : decode cX12_fourReady 20 = .ok (.imul, 1) := by decide +kernel
theorem dX12_fourReady_21 : decode cX12_fourReady 21 = .ok (.isub, 1) := by decide +kernel
theorem dX12_fourReady_22 : decode cX12_fourReady 22 = .ok (.iushr, 1) := by decide +kernel
theorem dX12_fourReady_23 : decode cX12_fourReady 23 = .ok (.invokestatic 105, 3) := by decide +kernel
theorem dX12_fourReady_26 : decode cX12_fourReady 26 = .ok (.iinc 3 1, 3) := by decide +kernel
theorem dX12_fourReady_29 : decode cX12_fourReady 29 = .ok (.goto (-27), 3) := by decide +kernel
theorem dX12_feed_0 : decode cX12_feed 0 = .ok (.aload_n 0, 1) := by decide +kernel
theorem dX12_feed_1 : decode cX12_feed 1 = .ok (.iconst 0, 1) := by decide +kernel
theorem dX12_feed_2 : decode cX12_feed 2 = .ok (.iload_n 1, 1) := by decide +kernel
theorem dX12_feed_3 : decode cX12_feed 3 = .ok (.invokevirtual 101, 3) := by decide +kernel
theorem dX12_feed_6 : decode cX12_feed 6 = .ok (.aload_n 0, 1) := by decide +kernel
theorem dX12_feed_7 : decode cX12_feed 7 = .ok (.iconst 4, 1) := by decide +kernel
theorem dX12_feed_8 : decode cX12_feed 8 = .ok (.iload_n 2, 1) := by decide +kernel
theorem dX12_feed_9 : decode cX12_feed 9 = .ok (.invokevirtual 101, 3) := by decide +kernel
theorem dX12_feed_12 : decode cX12_feed 12 = .ok (.aload_n 0, 1) := by decide +kernel
theorem dX12_feed_13 : decode cX12_feed 13 = .ok (.bipush 8, 2) := by decide +kernel
theorem dX12_feed_15 : decode cX12_feed 15 = .ok (.iload_n 3, 1) := by decide +kernel
theorem dX12_feed_16 : decode cX12_feed 16 = .ok (.invokevirtual 101, 3) := by decide +kernel
theorem dX12_feed_19 : decode cX12_feed 19 = .ok (.aload_n 0, 1) := by decide +kernel
theorem dX12_feed_20 : decode cX12_feed 20 = .ok (.bipush 12, 2) := by decide +kernel
theorem dX12_feed_22 : decode cX12_feed 22 = .ok (.iload 4, 2) := by decide +kernel
theorem dX12_feed_24 : decode cX12_feed 24 = .ok (.invokevirtual 101, 3) := by decide +kernel
theorem dX12_feed_27 : decode cX12_feed 27 = .ok (.aload_n 0, 1) := by decide +kernel
theorem dX12_feed_28 : decode cX12_feed 28 = .ok (.bipush 16, 2) := by decide +kernel
theorem dX12_feed_30 : decode cX12_feed 30 = .ok (.iload 5, 2) := by decide +kernel
theorem dX12_feed_32 : decode cX12_feed 32 = .ok (.invokevirtual 101, 3) := by decide +kernel
theorem dX12_feed_35 : decode cX12_feed 35 = .ok (.return_, 1) := by decide +kernel
theorem dX12_getByte_0 : decode cX12_getByte 0 = .ok (.iload_n 1, 1) := by decide +kernel
theorem dX12_getByte_1 : decode cX12_getByte 1 = .ok (.ifCond .lt 19, 3) := by decide +kernel
theorem dX12_getByte_21 : decode cX12_getByte 21 = .ok (.ireturn, 1) := by decide +kernel
theorem dX12_getByte_20 : decode cX12_getByte 20 = .ok (.iconst 0, 1) := by decide +kernel
theorem dX12_getByte_4 : decode cX12_getByte 4 = .ok (.iload_n 1, 1) := by decide +kernel
theorem dX12_getByte_5 : decode cX12_getByte 5 = .ok (.aload_n 0, 1) := by decide +kernel
theorem dX12_getByte_6 : decode cX12_getByte 6 = .ok (.arraylength, 1) := by decide +kernel
theorem dX12_getByte_7 : decode cX12_getByte 7 = .ok (.if_icmp .ge 13, 3) := by decide +kernel
theorem dX12_getByte_10 : decode cX12_getByte 10 = .ok (.aload_n 0, 1) := by decide +kernel
theorem dX12_getByte_11 : decode cX12_getByte 11 = .ok (.iload_n 1, 1) := by decide +kernel
theorem dX12_getByte_12 : decode cX12_getByte 12 = .ok (.baload, 1) := by decide +kernel
theorem dX12_getByte_13 : decode cX12_getByte 13 = .ok (.sipush 255, 3) := by decide +kernel
theorem dX12_getByte_16 : decode cX12_getByte 16 = .ok (.iand, 1) := by decide +kernel
theorem dX12_getByte_17 : decode cX12_getByte 17 = .ok (.goto 4, 3) := by decide +kernel
theorem dJ7_fill_031fb_0 : decode cJ7_fill_031fb 0 = .ok (.iconst 0, 1) := by decide +kernel
theorem dJ7_fill_031fb_1 : decode cJ7_fill_031fb 1 = .ok (.istore_n 2, 1) := by decide +kernel
theorem dJ7_fill_031fb_2 : decode cJ7_fill_031fb 2 = .ok (.aload_n 0, 1) := by decide +kernel
theorem dJ7_fill_031fb_3 : decode cJ7_fill_031fb 3 = .ok (.arraylength, 1) := by decide +kernel
theorem dJ7_fill_031fb_4 : decode cJ7_fill_031fb 4 = .ok (.istore_n 3, 1) := by decide +kernel
theorem dJ7_fill_031fb_5 : decode cJ7_fill_031fb 5 = .ok (.iload_n 2, 1) := by decide +kernel
theorem dJ7_fill_031fb_6 : decode cJ7_fill_031fb 6 = .ok (.iload_n 3, 1) := by decide +kernel
theorem dJ7_fill_031fb_7 : decode cJ7_fill_031fb 7 = .ok (.if_icmp .ge 13, 3) := by decide +kernel
theorem dJ7_fill_031fb_20 : decode cJ7_fill_031fb 20 = .ok (.return_, 1) := by decide +kernel
theorem dJ7_fill_031fb_10 : decode cJ7_fill_031fb 10 = .ok (.aload_n 0, 1) := by decide +kernel
theorem dJ7_fill_031fb_11 : decode cJ7_fill_031fb 11 = .ok (.iload_n 2, 1) := by decide +kernel
theorem dJ7_fill_031fb_12 : decode cJ7_fill_031fb 12 = .ok (.iload_n 1, 1) := by decide +kernel
theorem dJ7_fill_031fb_13 : decode cJ7_fill_031fb 13 = .ok (.bastore, 1) := by decide +kernel
theorem dJ7_fill_031fb_14 : decode cJ7_fill_031fb 14 = .ok (.iinc 2 1, 3) := by decide +kernel
theorem dJ7_fill_031fb_17 : decode cJ7_fill_031fb 17 = .ok (.goto (-12), 3) := by decide +kernel
theorem dX12_end_0 : decode cX12_end 0 = .ok (.iload_n 1, 1) := by decide +kernel
theorem dX12_end_1 : decode cX12_end 1 = .ok (.ifCond .lt 21, 3) := by decide +kernel
theorem dX12_end_22 : decode cX12_end 22 = .ok (.iconst (-1), 1) := by decide +kernel
theorem dX12_end_23 : decode cX12_end 23 = .ok (.ireturn, 1) := by decide +kernel
theorem dX12_end_4 : decode cX12_end 4 = .ok (.iload_n 1, 1) := by decide +kernel
theorem dX12_end_5 : decode cX12_end 5 = .ok (.bipush 20, 2) := by decide +kernel
theorem dX12_end_7 : decode cX12_end 7 = .ok (.if_icmp .gt 15, 3) := by decide +kernel
theorem dX12_end_10 : decode cX12_end 10 = .ok (.aload_n 0, 1) := by decide +kernel
theorem dX12_end_11 : decode cX12_end 11 = .ok (.getfield 16, 3) := by decide +kernel
theorem dX12_end_14 : decode cX12_end 14 = .ok (.iload_n 1, 1) := by decide +kernel
theorem dX12_end_15 : decode cX12_end 15 = .ok (.iadd, 1) := by decide +kernel
theorem dX12_end_16 : decode cX12_end 16 = .ok (.sipush 4000, 3) := by decide +kernel
theorem dX12_end_19 : decode cX12_end 19 = .ok (.if_icmp .le 5, 3) := by decide +kernel
theorem dX12_end_24 : decode cX12_end 24 = .ok (.iconst 0, 1) := by decide +kernel
theorem dX12_end_25 : decode cX12_end 25 = .ok (.istore_n 2, 1) := by decide +kernel
theorem dX12_end_26 : decode cX12_end 26 = .ok (.iload_n 2, 1) := by decide +kernel
theorem dX12_end_27 : decode cX12_end 27 = .ok (.iload_n 1, 1) := by decide +kernel
theorem dX12_end_28 : decode cX12_end 28 = .ok (.if_icmp .ge 30, 3) := by decide +kernel
theorem dX12_end_58 : decode cX12_end 58 = .ok (.aload_n 0, 1) := by decide +kernel
theorem dX12_end_59 : decode cX12_end 59 = .ok (.dup, 1) := by decide +kernel
theorem dX12_end_60 : decode cX12_end 60 = .ok (.getfield 16, 3) := by decide +kernel
theorem dX12_end_63 : decode cX12_end 63 = .ok (.iload_n 1, 1) := by decide +kernel
theorem dX12_end_64 : decode cX12_end 64 = .ok (.iadd, 1) := by decide +kernel
theorem dX12_end_65 : decode cX12_end 65 = .ok (.putfield 16, 3) := by decide +kernel
theorem dX12_end_68 : decode cX12_end 68 = .ok (.aload_n 0, 1) := by decide +kernel
theorem dX12_end_69 : decode cX12_end 69 = .ok (.getfield 9, 3) := by decide +kernel
theorem dX12_end_72 : decode cX12_end 72 = .ok (.iconst 0, 1) := by decide +kernel
theorem dX12_end_73 : decode cX12_end 73 = .ok (.invokestatic 113, 3) := by decide +kernel
theorem dX12_end_76 : decode cX12_end 76 = .ok (.aload_n 0, 1) := by decide +kernel
theorem dX12_end_77 : decode cX12_end 77 = .ok (.getfield 16, 3) := by decide +kernel
theorem dX12_end_80 : decode cX12_end 80 = .ok (.ireturn, 1) := by decide +kernel
theorem dX12_end_31 : decode cX12_end 31 = .ok (.aload_n 0, 1) := by decide +kernel
theorem dX12_end_32 : decode cX12_end 32 = .ok (.getfield 13, 3) := by decide +kernel
theorem dX12_end_35 : decode cX12_end 35 = .ok (.aload_n 0, 1) := by decide +kernel
theorem dX12_end_36 : decode cX12_end 36 = .ok (.getfield 16, 3) := by decide +kernel
theorem dX12_end_39 : decode cX12_end 39 = .ok (.iload_n 2, 1) := by decide +kernel
theorem dX12_end_40 : decode cX12_end 40 = .ok (.iadd, 1) := by decide +kernel
theorem dX12_end_41 : decode cX12_end 41 = .ok (.aload_n 0, 1) := by decide +kernel
theorem dX12_end_42 : decode cX12_end 42 = .ok (.getfield 9, 3) := by decide +kernel
theorem dX12_end_45 : decode cX12_end 45 = .ok (.iload_n 2, 1) := by decide +kernel
theorem dX12_end_46 : decode cX12_end 46 = .ok (.invokestatic 109, 3) := by decide +kernel
theorem dX12_end_49 : decode cX12_end 49 = .ok (.invokestatic 105, 3) := by decide +kernel
theorem dX12_end_52 : decode cX12_end 52 = .ok (.iinc 2 1, 3) := by decide +kernel
theorem dX12_end_55 : decode cX12_end 55 = .ok (.goto (-29), 3) := by decide +kernel
theorem dX12_file_0 : decode cX12_file 0 = .ok (.aload_n 0, 1) := by decide +kernel
theorem dX12_file_1 : decode cX12_file 1 = .ok (.getfield 16, 3) := by decide +kernel
theorem dX12_file_4 : decode cX12_file 4 = .ok (.istore_n 2, 1) := by decide +kernel
theorem dX12_file_5 : decode cX12_file 5 = .ok (.aload_n 0, 1) := by decide +kernel
theorem dX12_file_6 : decode cX12_file 6 = .ok (.iconst 0, 1) := by decide +kernel
theorem dX12_file_7 : decode cX12_file 7 = .ok (.putfield 16, 3) := by decide +kernel
theorem dX12_file_10 : decode cX12_file 10 = .ok (.iload_n 1, 1) := by decide +kernel
theorem dX12_file_11 : decode cX12_file 11 = .ok (.ifCond .lt 9, 3) := by decide +kernel
theorem dX12_file_20 : decode cX12_file 20 = .ok (.iconst 0, 1) := by decide +kernel
theorem dX12_file_21 : decode cX12_file 21 = .ok (.ireturn, 1) := by decide +kernel
theorem dX12_file_14 : decode cX12_file 14 = .ok (.iload_n 1, 1) := by decide +kernel
theorem dX12_file_15 : decode cX12_file 15 = .ok (.bipush 8, 2) := by decide +kernel
theorem dX12_file_17 : decode cX12_file 17 = .ok (.if_icmp .lt 5, 3) := by decide +kernel
theorem dX12_file_22 : decode cX12_file 22 = .ok (.iconst 0, 1) := by decide +kernel
theorem dX12_file_23 : decode cX12_file 23 = .ok (.istore_n 3, 1) := by decide +kernel
theorem dX12_file_24 : decode cX12_file 24 = .ok (.iload_n 3, 1) := by decide +kernel
theorem dX12_file_25 : decode cX12_file 25 = .ok (.iload_n 2, 1) := by decide +kernel
theorem dX12_file_26 : decode cX12_file 26 = .ok (.if_icmp .ge 49, 3) := by decide +kernel
theorem dX12_file_75 : decode cX12_file 75 = .ok (.aload_n 0, 1) := by decide +kernel
theorem dX12_file_76 : decode cX12_file 76 = .ok (.getfield 52, 3) := by decide +kernel
theorem dX12_file_79 : decode cX12_file 79 = .ok (.iload_n 1, 1) := by decide +kernel
theorem dX12_file_80 : decode cX12_file 80 = .ok (.aaload, 1) := by decide +kernel
theorem dJ7_fill_53178_0 : decode cJ7_fill_53178 0 = .ok (.iconst 0, 1) := by decide +kernel
theorem dJ7_fill_53178_1 : decode cJ7_fill_53178 1 = .ok (.istore_n 2, 1) := by decide +kernel
theorem dJ7_fill_53178_2 : decode cJ7_fill_53178 2 = .ok (.aload_n 0, 1) := by decide +kernel
theorem dJ7_fill_53178_3 : decode cJ7_fill_53178 3 = .ok (.arraylength, 1) := by decide +kernel
theorem dJ7_fill_53178_4 : decode cJ7_fill_53178 4 = .ok (.istore_n 3, 1) := by decide +kernel
theorem dJ7_fill_53178_5 : decode cJ7_fill_53178 5 = .ok (.iload_n 2, 1) := by decide +kernel
theorem dJ7_fill_53178_6 : decode cJ7_fill_53178 6 = .ok (.iload_n 3, 1) := by decide +kernel
theorem dJ7_fill_53178_7 : decode cJ7_fill_53178 7 = .ok (.if_icmp .ge 13, 3) := by decide +kernel
theorem dJ7_fill_53178_20 : decode cJ7_fill_53178 20 = .ok (.return_, 1) := by decide +kernel
theorem dJ7_fill_53178_10 : decode cJ7_fill_53178 10 = .ok (.aload_n 0, 1) := by decide +kernel
theorem dJ7_fill_53178_11 : decode cJ7_fill_53178 11 = .ok (.iload_n 2, 1) := by decide +kernel
theorem dJ7_fill_53178_12 : decode cJ7_fill_53178 12 = .ok (.iload_n 1, 1) := by decide +kernel
theorem dJ7_fill_53178_13 : decode cJ7_fill_53178 13 = .ok (.iastore, 1) := by decide +kernel
theorem dJ7_fill_53178_14 : decode cJ7_fill_53178 14 = .ok (.iinc 2 1, 3) := by decide +kernel
theorem dJ7_fill_53178_17 : decode cJ7_fill_53178 17 = .ok (.goto (-12), 3) := by decide +kernel
theorem dX6_hash_0 : decode cX6_hash 0 = .ok (.iload_n 2, 1) := by decide +kernel
theorem dX6_hash_1 : decode cX6_hash 1 = .ok (.istore_n 3, 1) := by decide +kernel
theorem dX6_hash_2 : decode cX6_hash 2 = .ok (.iload_n 1, 1) := by decide +kernel
theorem dX6_hash_3 : decode cX6_hash 3 = .ok (.istore 4, 2) := by decide +kernel
theorem dX6_hash_5 : decode cX6_hash 5 = .ok (.iload 4, 2) := by decide +kernel
theorem dX6_hash_7 : decode cX6_hash 7 = .ok (.iload_n 1, 1) := by decide +kernel
theorem dX6_hash_8 : decode cX6_hash 8 = .ok (.iload_n 2, 1) := by decide +kernel
theorem dX6_hash_9 : decode cX6_hash 9 = .ok (.iadd, 1) := by decide +kernel
theorem dX6_hash_10 : decode cX6_hash 10 = .ok (.if_icmp .ge 31, 3) := by decide +kernel
theorem dX6_hash_41 : decode cX6_hash 41 = .ok (.iload_n 3, 1) := by decide +kernel
theorem dX6_hash_42 : decode cX6_hash 42 = .ok (.iload_n 3, 1) := by decide +kernel
theorem dX6_hash_43 : decode cX6_hash 43 = .ok (.bipush 13, 2) := by decide +kernel
theorem dX6_hash_45 : decode cX6_hash 45 = .ok (.iushr, 1) := by decide +kernel
theorem dX6_hash_46 : decode cX6_hash 46 = .ok (.ixor, 1) := by decide +kernel
theorem dX6_hash_47 : decode cX6_hash 47 = .ok (.sipush 8191, 3) := by decide +kernel
theorem dX6_hash_50 : decode cX6_hash 50 = .ok (.iand, 1) := by decide +kernel
theorem dX6_hash_51 : decode cX6_hash 51 = .ok (.ireturn, 1) := by decide +kernel
theorem dX6_hash_13 : decode cX6_hash 13 = .ok (.iload 4, 2) := by decide +kernel
theorem dX6_hash_15 : decode cX6_hash 15 = .ok (.ifCond .lt 26, 3) := by decide +kernel
theorem dX6_hash_18 : decode cX6_hash 18 = .ok (.iload 4, 2) := by decide +kernel
theorem dX6_hash_20 : decode cX6_hash 20 = .ok (.aload_n 0, 1) := by decide +kernel
theorem dX6_hash_21 : decode cX6_hash 21 = .ok (.arraylength, 1) := by decide +kernel
theorem dX6_hash_22 : decode cX6_hash 22 = .ok (.if_icmp .ge 19, 3) := by decide +kernel
theorem dX6_hash_25 : decode cX6_hash 25 = .ok (.iload_n 3, 1) := by decide +kernel
theorem dX6_hash_26 : decode cX6_hash 26 = .ok (.bipush 31, 2) := by decide +kernel
theorem dX6_hash_28 : decode cX6_hash 28 = .ok (.imul, 1) := by decide +kernel
theorem dX6_hash_29 : decode cX6_hash 29 = .ok (.aload_n 0, 1) := by decide +kernel
theorem dX6_hash_30 : decode cX6_hash 30 = .ok (.iload 4, 2) := by decide +kernel
theorem dX6_hash_32 : decode cX6_hash 32 = .ok (.baload, 1) := by decide +kernel
theorem dX6_hash_33 : decode cX6_hash 33 = .ok (.iadd, 1) := by decide +kernel
theorem dX6_hash_34 : decode cX6_hash 34 = .ok (.istore_n 3, 1) := by decide +kernel
theorem dX6_hash_35 : decode cX6_hash 35 = .ok (.iinc 4 1, 3) := by decide +kernel
theorem dX6_hash_38 : decode cX6_hash 38 = .ok (.goto (-33), 3) := by decide +kernel
theorem dX12_get_0 : decode cX12_get 0 = .ok (.iload_n 1, 1) := by decide +kernel
theorem dX12_get_1 : decode cX12_get 1 = .ok (.ifCond .lt 15, 3) := by decide +kernel
theorem dX12_get_17 : decode cX12_get 17 = .ok (.ireturn, 1) := by decide +kernel
theorem dX12_get_16 : decode cX12_get 16 = .ok (.iconst 0, 1) := by decide +kernel
theorem dX12_get_4 : decode cX12_get 4 = .ok (.iload_n 1, 1) := by decide +kernel
theorem dX12_get_5 : decode cX12_get 5 = .ok (.aload_n 0, 1) := by decide +kernel
theorem dX12_get_6 : decode cX12_get 6 = .ok (.arraylength, 1) := by decide +kernel
theorem dX12_get_7 : decode cX12_get 7 = .ok (.if_icmp .ge 9, 3) := by decide +kernel
theorem dX12_get_10 : decode cX12_get 10 = .ok (.aload_n 0, 1) := by decide +kernel
theorem dX12_get_11 : decode cX12_get 11 = .ok (.iload_n 1, 1) := by decide +kernel
theorem dX12_get_12 : decode cX12_get 12 = .ok (.iaload, 1) := by decide +kernel
theorem dX12_get_13 : decode cX12_get 13 = .ok (.goto 4, 3) := by decide +kernel
theorem dX6_lengthOf_0 : decode cX6_lengthOf 0 = .ok (.iload_n 1, 1) := by decide +kernel
theorem dX6_lengthOf_1 : decode cX6_lengthOf 1 = .ok (.ifCond .lt 22, 3) := by decide +kernel
theorem dX6_lengthOf_42 : decode cX6_lengthOf 42 = .ok (.ireturn, 1) := by decide +kernel
theorem dX6_lengthOf_23 : decode cX6_lengthOf 23 = .ok (.iconst 0, 1) := by decide +kernel
theorem dX6_lengthOf_24 : decode cX6_lengthOf 24 = .ok (.goto 18, 3) := by decide +kernel
theorem dX6_lengthOf_4 : decode cX6_lengthOf 4 = .ok (.iload_n 1, 1) := by decide +kernel
theorem dX6_lengthOf_5 : decode cX6_lengthOf 5 = .ok (.aload_n 0, 1) := by decide +kernel
theorem dX6_lengthOf_6 : decode cX6_lengthOf 6 = .ok (.getfield 25, 3) := by decide +kernel
theorem dX6_lengthOf_9 : decode cX6_lengthOf 9 = .ok (.if_icmp .ge 14, 3) := by decide +kernel
theorem dX6_lengthOf_12 : decode cX6_lengthOf 12 = .ok (.iload_n 1, 1) := by decide +kernel
theorem dX6_lengthOf_13 : decode cX6_lengthOf 13 = .ok (.iconst 1, 1) := by decide +kernel
theorem dX6_lengthOf_14 : decode cX6_lengthOf 14 = .ok (.iadd, 1) := by decide +kernel
theorem dX6_lengthOf_15 : decode cX6_lengthOf 15 = .ok (.aload_n 0, 1) := by decide +kernel
theorem dX6_lengthOf_16 : decode cX6_lengthOf 16 = .ok (.getfield 15, 3) := by decide +kernel
theorem dX6_lengthOf_19 : decode cX6_lengthOf 19 = .ok (.arraylength, 1) := by decide +kernel
theorem dX6_lengthOf_20 : decode cX6_lengthOf 20 = .ok (.if_icmp .lt 7, 3) := by decide +kernel
theorem dX6_lengthOf_27 : decode cX6_lengthOf 27 = .ok (.aload_n 0, 1) := by decide +kernel
theorem dX6_lengthOf_28 : decode cX6_lengthOf 28 = .ok (.getfield 15, 3) := by decide +kernel
theorem dX6_lengthOf_31 : decode cX6_lengthOf 31 = .ok (.iload_n 1, 1) := by decide +kernel
theorem dX6_lengthOf_32 : decode cX6_lengthOf 32 = .ok (.iconst 1, 1) := by decide +kernel
theorem dX6_lengthOf_33 : decode cX6_lengthOf 33 = .ok (.iadd, 1) := by decide +kernel
theorem dX6_lengthOf_34 : decode cX6_lengthOf 34 = .ok (.iaload, 1) := by decide +kernel
theorem dX12_same_0 : decode cX12_same 0 = .ok (.iload_n 1, 1) := by decide +kernel
theorem dX12_same_1 : decode cX12_same 1 = .ok (.ifCond .lt 30, 3) := by decide +kernel
theorem dX12_same_31 : decode cX12_same 31 = .ok (.iconst 0, 1) := by decide +kernel
theorem dX12_same_32 : decode cX12_same 32 = .ok (.ireturn, 1) := by decide +kernel
theorem dX12_same_4 : decode cX12_same 4 = .ok (.iload_n 3, 1) := by decide +kernel
theorem dX12_same_5 : decode cX12_same 5 = .ok (.ifCond .lt 26, 3) := by decide +kernel
theorem dX12_same_8 : decode cX12_same 8 = .ok (.iload 4, 2) := by decide +kernel
theorem dX12_same_10 : decode cX12_same 10 = .ok (.ifCond .lt 21, 3) := by decide +kernel
theorem dX12_same_13 : decode cX12_same 13 = .ok (.iload_n 1, 1) := by decide +kernel
theorem dX12_same_14 : decode cX12_same 14 = .ok (.aload_n 0, 1) := by decide +kernel
theorem dX12_same_15 : decode cX12_same 15 = .ok (.arraylength, 1) := by decide +kernel
theorem dX12_same_16 : decode cX12_same 16 = .ok (.iload 4, 2) := by decide +kernel
theorem dX12_same_18 : decode cX12_same 18 = .ok (.isub, 1) := by decide +kernel
theorem dX12_same_19 : decode cX12_same 19 = .ok (.if_icmp .gt 12, 3) := by decide +kernel
theorem dX12_same_22 : decode cX12_same 22 = .ok (.iload_n 3, 1) := by decide +kernel
theorem dX12_same_23 : decode cX12_same 23 = .ok (.aload_n 2, 1) := by decide +kernel
theorem dX12_same_24 : decode cX12_same 24 = .ok (.arraylength, 1) := by decide +kernel
theorem dX12_same_25 : decode cX12_same 25 = .ok (.iload 4, 2) := by decide +kernel
theorem dX12_same_27 : decode cX12_same 27 = .ok (.isub, 1) := by decide +kernel
theorem dX12_same_28 : decode cX12_same 28 = .ok (.if_icmp .le 5, 3) := by decide +kernel
theorem dX12_same_33 : decode cX12_same 33 = .ok (.iconst 0, 1) := by decide +kernel
theorem dX12_same_34 : decode cX12_same 34 = .ok (.istore 5, 2) := by decide +kernel
theorem dX12_same_36 : decode cX12_same 36 = .ok (.iload 5, 2) := by decide +kernel
theorem dX12_same_38 : decode cX12_same 38 = .ok (.iload 4, 2) := by decide +kernel
theorem dX12_same_40 : decode cX12_same 40 = .ok (.if_icmp .ge 26, 3) := by decide +kernel
theorem dX12_same_66 : decode cX12_same 66 = .ok (.iconst 1, 1) := by decide +kernel
theorem dX12_same_67 : decode cX12_same 67 = .ok (.ireturn, 1) := by decide +kernel
theorem dX12_same_43 : decode cX12_same 43 = .ok (.aload_n 0, 1) := by decide +kernel
theorem dX12_same_44 : decode cX12_same 44 = .ok (.iload_n 1, 1) := by decide +kernel
theorem dX12_same_45 : decode cX12_same 45 = .ok (.iload 5, 2) := by decide +kernel
theorem dX12_same_47 : decode cX12_same 47 = .ok (.iadd, 1) := by decide +kernel
theorem dX12_same_48 : decode cX12_same 48 = .ok (.baload, 1) := by decide +kernel
theorem dX12_set_0 : decode cX12_set 0 = .ok (.iload_n 1, 1) := by decide +kernel
theorem dX12_set_1 : decode cX12_set 1 = .ok (.ifCond .lt 13, 3) := by decide +kernel
theorem dX12_set_14 : decode cX12_set 14 = .ok (.return_, 1) := by decide +kernel
theorem dX12_set_4 : decode cX12_set 4 = .ok (.iload_n 1, 1) := by decide +kernel
theorem dX12_set_5 : decode cX12_set 5 = .ok (.aload_n 0, 1) := by decide +kernel
theorem dX12_set_6 : decode cX12_set 6 = .ok (.arraylength, 1) := by decide +kernel
theorem dX12_set_7 : decode cX12_set 7 = .ok (.if_icmp .ge 7, 3) := by decide +kernel
theorem dX12_set_10 : decode cX12_set 10 = .ok (.aload_n 0, 1) := by decide +kernel
theorem dX12_set_11 : decode cX12_set 11 = .ok (.iload_n 1, 1) := by decide +kernel
theorem dX12_set_12 : decode cX12_set 12 = .ok (.iload_n 2, 1) := by decide +kernel
theorem dX12_set_13 : decode cX12_set 13 = .ok (.iastore, 1) := by decide +kernel
theorem dX4_forget_0 : decode cX4_forget 0 = .ok (.aload_n 0, 1) := by decide +kernel
theorem dX4_forget_1 : decode cX4_forget 1 = .ok (.getfield 13, 3) := by decide +kernel
theorem dX4_forget_4 : decode cX4_forget 4 = .ok (.iconst 0, 1) := by decide +kernel
theorem dX4_forget_5 : decode cX4_forget 5 = .ok (.invokestatic 29, 3) := by decide +kernel
theorem dX4_forget_8 : decode cX4_forget 8 = .ok (.aload_n 0, 1) := by decide +kernel
theorem dX4_forget_9 : decode cX4_forget 9 = .ok (.getfield 19, 3) := by decide +kernel
theorem dX4_forget_12 : decode cX4_forget 12 = .ok (.iconst 0, 1) := by decide +kernel
theorem dX4_forget_13 : decode cX4_forget 13 = .ok (.invokestatic 29, 3) := by decide +kernel
theorem dX4_forget_16 : decode cX4_forget 16 = .ok (.aload_n 0, 1) := by decide +kernel
theorem dX4_forget_17 : decode cX4_forget 17 = .ok (.iconst 0, 1) := by decide +kernel
theorem dX4_forget_18 : decode cX4_forget 18 = .ok (.putfield 25, 3) := by decide +kernel
theorem dX4_forget_21 : decode cX4_forget 21 = .ok (.return_, 1) := by decide +kernel
theorem dX2_keep_0 : decode cX2_keep 0 = .ok (.aload_n 0, 1) := by decide +kernel
theorem dX2_keep_1 : decode cX2_keep 1 = .ok (.getfield 41, 3) := by decide +kernel
theorem dX2_keep_4 : decode cX2_keep 4 = .ok (.ifCond .lt 58, 3) := by decide +kernel
theorem dX2_keep_62 : decode cX2_keep 62 = .ok (.return_, 1) := by decide +kernel
theorem dX2_keep_7 : decode cX2_keep 7 = .ok (.aload_n 0, 1) := by decide +kernel
theorem dX2_keep_8 : decode cX2_keep 8 = .ok (.getfield 41, 3) := by decide +kernel
theorem dX2_keep_11 : decode cX2_keep 11 = .ok (.aload_n 0, 1) := by decide +kernel
theorem dX2_keep_12 : decode cX2_keep 12 = .ok (.getfield 34, 3) := by decide +kernel
theorem dX2_keep_15 : decode cX2_keep 15 = .ok (.arraylength, 1) := by decide +kernel
theorem dX2_keep_16 : decode cX2_keep 16 = .ok (.if_icmp .ge 46, 3) := by decide +kernel
theorem dX2_keep_19 : decode cX2_keep 19 = .ok (.aload_n 0, 1) := by decide +kernel
theorem dX2_keep_20 : decode cX2_keep 20 = .ok (.getfield 41, 3) := by decide +kernel
theorem dX2_keep_23 : decode cX2_keep 23 = .ok (.aload_n 0, 1) := by decide +kernel
theorem dX2_keep_24 : decode cX2_keep 24 = .ok (.getfield 38, 3) := by decide +kernel
theorem dX2_keep_27 : decode cX2_keep 27 = .ok (.arraylength, 1) := by decide +kernel
theorem dX2_keep_28 : decode cX2_keep 28 = .ok (.if_icmp .ge 34, 3) := by decide +kernel
theorem dX2_keep_31 : decode cX2_keep 31 = .ok (.aload_n 0, 1) := by decide +kernel
theorem dX2_keep_32 : decode cX2_keep 32 = .ok (.getfield 34, 3) := by decide +kernel
theorem dX2_keep_35 : decode cX2_keep 35 = .ok (.aload_n 0, 1) := by decide +kernel
theorem dX2_keep_36 : decode cX2_keep 36 = .ok (.getfield 41, 3) := by decide +kernel
theorem dX2_keep_39 : decode cX2_keep 39 = .ok (.iload_n 1, 1) := by decide +kernel
theorem dX2_keep_40 : decode cX2_keep 40 = .ok (.i2b, 1) := by decide +kernel
theorem dX2_keep_41 : decode cX2_keep 41 = .ok (.bastore, 1) := by decide +kernel
theorem dX2_keep_42 : decode cX2_keep 42 = .ok (.aload_n 0, 1) := by decide +kernel
theorem dX2_keep_43 : decode cX2_keep 43 = .ok (.getfield 38, 3) := by decide +kernel
theorem dX2_keep_46 : decode cX2_keep 46 = .ok (.aload_n 0, 1) := by decide +kernel
theorem dX2_keep_47 : decode cX2_keep 47 = .ok (.getfield 41, 3) := by decide +kernel
theorem dX2_keep_50 : decode cX2_keep 50 = .ok (.iload_n 2, 1) := by decide +kernel
theorem dX2_keep_51 : decode cX2_keep 51 = .ok (.iastore, 1) := by decide +kernel
theorem dX2_keep_52 : decode cX2_keep 52 = .ok (.aload_n 0, 1) := by decide +kernel
theorem dX2_keep_53 : decode cX2_keep 53 = .ok (.dup, 1) := by decide +kernel
theorem dX2_keep_54 : decode cX2_keep 54 = .ok (.getfield 41, 3) := by decide +kernel
theorem dX2_keep_57 : decode cX2_keep 57 = .ok (.iconst 1, 1) := by decide +kernel
theorem dX2_keep_58 : decode cX2_keep 58 = .ok (.iadd, 1) := by decide +kernel
theorem dX2_keep_59 : decode cX2_keep 59 = .ok (.putfield 41, 3) := by decide +kernel
theorem dX4_wasRead_0 : decode cX4_wasRead 0 = .ok (.iconst 0, 1) := by decide +kernel
theorem dX4_wasRead_1 : decode cX4_wasRead 1 = .ok (.istore_n 2, 1) := by decide +kernel
theorem dX4_wasRead_2 : decode cX4_wasRead 2 = .ok (.iload_n 2, 1) := by decide +kernel
theorem dX4_wasRead_3 : decode cX4_wasRead 3 = .ok (.aload_n 0, 1) := by decide +kernel
theorem dX4_wasRead_4 : decode cX4_wasRead 4 = .ok (.getfield 25, 3) := by decide +kernel
theorem dX4_wasRead_7 : decode cX4_wasRead 7 = .ok (.if_icmp .ge 23, 3) := by decide +kernel
theorem dX4_wasRead_30 : decode cX4_wasRead 30 = .ok (.iconst 0, 1) := by decide +kernel
theorem dX4_wasRead_31 : decode cX4_wasRead 31 = .ok (.ireturn, 1) := by decide +kernel
theorem dX4_wasRead_10 : decode cX4_wasRead 10 = .ok (.aload_n 0, 1) := by decide +kernel
theorem dX4_wasRead_11 : decode cX4_wasRead 11 = .ok (.getfield 22, 3) := by decide +kernel
theorem dX4_wasRead_14 : decode cX4_wasRead 14 = .ok (.iload_n 2, 1) := by decide +kernel
theorem dX4_wasRead_15 : decode cX4_wasRead 15 = .ok (.invokestatic 35, 3) := by decide +kernel
theorem dX4_wasRead_18 : decode cX4_wasRead 18 = .ok (.iload_n 1, 1) := by decide +kernel
theorem dX4_wasRead_19 : decode cX4_wasRead 19 = .ok (.if_icmp .ne 5, 3) := by decide +kernel
theorem dX4_wasRead_24 : decode cX4_wasRead 24 = .ok (.iinc 2 1, 3) := by decide +kernel
theorem dX4_wasRead_27 : decode cX4_wasRead 27 = .ok (.goto (-25), 3) := by decide +kernel
theorem dX4_wasRead_22 : decode cX4_wasRead 22 = .ok (.iconst 1, 1) := by decide +kernel
theorem dX4_wasRead_23 : decode cX4_wasRead 23 = .ok (.ireturn, 1) := by decide +kernel
theorem dX4_noteRead_0 : decode cX4_noteRead 0 = .ok (.aload_n 0, 1) := by decide +kernel
theorem dX4_noteRead_1 : decode cX4_noteRead 1 = .ok (.getfield 25, 3) := by decide +kernel
theorem dX4_noteRead_4 : decode cX4_noteRead 4 = .ok (.bipush 8, 2) := by decide +kernel
theorem dX4_noteRead_6 : decode cX4_noteRead 6 = .ok (.if_icmp .ge 25, 3) := by decide +kernel
theorem dX4_noteRead_31 : decode cX4_noteRead 31 = .ok (.return_, 1) := by decide +kernel
theorem dX4_noteRead_9 : decode cX4_noteRead 9 = .ok (.aload_n 0, 1) := by decide +kernel
theorem dX4_noteRead_10 : decode cX4_noteRead 10 = .ok (.getfield 22, 3) := by decide +kernel
theorem dX4_noteRead_13 : decode cX4_noteRead 13 = .ok (.aload_n 0, 1) := by decide +kernel
theorem dX4_noteRead_14 : decode cX4_noteRead 14 = .ok (.getfield 25, 3) := by decide +kernel
theorem dX4_noteRead_17 : decode cX4_noteRead 17 = .ok (.iload_n 1, 1) := by decide +kernel
theorem dX4_noteRead_18 : decode cX4_noteRead 18 = .ok (.invokestatic 41, 3) := by decide +kernel
theorem dX4_noteRead_21 : decode cX4_noteRead 21 = .ok (.aload_n 0, 1) := by decide +kernel
theorem dX4_noteRead_22 : decode cX4_noteRead 22 = .ok (.dup, 1) := by decide +kernel
theorem dX4_noteRead_23 : decode cX4_noteRead 23 = .ok (.getfield 25, 3) := by decide +kernel
theorem dX4_noteRead_26 : decode cX4_noteRead 26 = .ok (.iconst 1, 1) := by decide +kernel
theorem dX4_noteRead_27 : decode cX4_noteRead 27 = .ok (.iadd, 1) := by decide +kernel
theorem dX4_noteRead_28 : decode cX4_noteRead 28 = .ok (.putfield 25, 3) := by decide +kernel
theorem dX7_openFile_0 : decode cX7_openFile 0 = .ok (.aload_n 0, 1) := by decide +kernel
theorem dX7_openFile_1 : decode cX7_openFile 1 = .ok (.iload_n 1, 1) := by decide +kernel
theorem dX7_openFile_2 : decode cX7_openFile 2 = .ok (.putfield 33, 3) := by decide +kernel
theorem dX7_openFile_5 : decode cX7_openFile 5 = .ok (.aload_n 0, 1) := by decide +kernel
theorem dX7_openFile_6 : decode cX7_openFile 6 = .ok (.aload_n 2, 1) := by decide +kernel
theorem dX7_openFile_7 : decode cX7_openFile 7 = .ok (.putfield 9, 3) := by decide +kernel
theorem dX7_openFile_10 : decode cX7_openFile 10 = .ok (.aload_n 0, 1) := by decide +kernel
theorem dX7_openFile_11 : decode cX7_openFile 11 = .ok (.aload_n 2, 1) := by decide +kernel
theorem dX7_openFile_12 : decode cX7_openFile 12 = .ok (.putfield 42, 3) := by decide +kernel
theorem dX7_openFile_15 : decode cX7_openFile 15 = .ok (.aload_n 0, 1) := by decide +kernel
theorem dX7_openFile_16 : decode cX7_openFile 16 = .ok (.iload_n 3, 1) := by decide +kernel
theorem dX7_openFile_17 : decode cX7_openFile 17 = .ok (.putfield 45, 3) := by decide +kernel
theorem dX7_openFile_20 : decode cX7_openFile 20 = .ok (.aload_n 0, 1) := by decide +kernel
theorem dX7_openFile_21 : decode cX7_openFile 21 = .ok (.iload_n 3, 1) := by decide +kernel
theorem dX7_openFile_22 : decode cX7_openFile 22 = .ok (.putfield 26, 3) := by decide +kernel
theorem dX7_openFile_25 : decode cX7_openFile 25 = .ok (.aload_n 0, 1) := by decide +kernel
theorem dX7_openFile_26 : decode cX7_openFile 26 = .ok (.iconst 0, 1) := by decide +kernel
theorem dX7_openFile_27 : decode cX7_openFile 27 = .ok (.putfield 30, 3) := by decide +kernel
theorem dX7_openFile_30 : decode cX7_openFile 30 = .ok (.aload_n 0, 1) := by decide +kernel
theorem dX7_openFile_31 : decode cX7_openFile 31 = .ok (.iconst 1, 1) := by decide +kernel
theorem dX7_openFile_32 : decode cX7_openFile 32 = .ok (.putfield 15, 3) := by decide +kernel
theorem dX7_openFile_35 : decode cX7_openFile 35 = .ok (.return_, 1) := by decide +kernel
theorem dX10_openFile_0 : decode cX10_openFile 0 = .ok (.aload_n 0, 1) := by decide +kernel
theorem dX10_openFile_1 : decode cX10_openFile 1 = .ok (.aload_n 1, 1) := by decide +kernel
theorem dX10_openFile_2 : decode cX10_openFile 2 = .ok (.putfield 62, 3) := by decide +kernel
theorem dX10_openFile_5 : decode cX10_openFile 5 = .ok (.aload_n 0, 1) := by decide +kernel
theorem dX10_openFile_6 : decode cX10_openFile 6 = .ok (.bipush 60, 2) := by decide +kernel
theorem dX10_openFile_8 : decode cX10_openFile 8 = .ok (.putfield 9, 3) := by decide +kernel
theorem dX10_openFile_11 : decode cX10_openFile 11 = .ok (.aload_n 0, 1) := by decide +kernel
theorem dX10_openFile_12 : decode cX10_openFile 12 = .ok (.bipush 62, 2) := by decide +kernel
theorem dX10_openFile_14 : decode cX10_openFile 14 = .ok (.putfield 15, 3) := by decide +kernel
theorem dX10_openFile_17 : decode cX10_openFile 17 = .ok (.return_, 1) := by decide +kernel
theorem dX7_past_0 : decode cX7_past 0 = .ok (.iload_n 1, 1) := by decide +kernel
theorem dX7_past_1 : decode cX7_past 1 = .ok (.istore_n 2, 1) := by decide +kernel
theorem dX7_past_2 : decode cX7_past 2 = .ok (.iconst 0, 1) := by decide +kernel
theorem dX7_past_3 : decode cX7_past 3 = .ok (.istore_n 3, 1) := by decide +kernel
theorem dX7_past_4 : decode cX7_past 4 = .ok (.iload_n 3, 1) := by decide +kernel
theorem dX7_past_5 : decode cX7_past 5 = .ok (.sipush 4000, 3) := by decide +kernel
theorem dX7_past_8 : decode cX7_past 8 = .ok (.if_icmp .gt 236, 3) := by decide +kernel
theorem dX7_past_244 : decode cX7_past 244 = .ok (.aload_n 0, 1) := by decide +kernel
theorem dX7_past_245 : decode cX7_past 245 = .ok (.getfield 26, 3) := by decide +kernel
theorem dX7_past_248 : decode cX7_past 248 = .ok (.ireturn, 1) := by decide +kernel
theorem dX7_past_11 : decode cX7_past 11 = .ok (.iload_n 2, 1) := by decide +kernel
theorem dX7_past_12 : decode cX7_past 12 = .ok (.ifCond .lt 232, 3) := by decide +kernel
theorem dX7_past_15 : decode cX7_past 15 = .ok (.iload_n 2, 1) := by decide +kernel
theorem dX7_past_16 : decode cX7_past 16 = .ok (.aload_n 0, 1) := by decide +kernel
theorem dX7_past_17 : decode cX7_past 17 = .ok (.getfield 26, 3) := by decide +kernel
theorem dX7_past_20 : decode cX7_past 20 = .ok (.if_icmp .ge 224, 3) := by decide +kernel
theorem dX7_past_23 : decode cX7_past 23 = .ok (.iload_n 2, 1) := by decide +kernel
theorem dX7_past_24 : decode cX7_past 24 = .ok (.aload_n 0, 1) := by decide +kernel
theorem dX7_past_25 : decode cX7_past 25 = .ok (.getfield 9, 3) := by decide +kernel
theorem dX7_past_28 : decode cX7_past 28 = .ok (.arraylength, 1) := by decide +kernel
theorem dX7_past_29 : decode cX7_past 29 = .ok (.if_icmp .ge 215, 3) := by decide +kernel
theorem dX7_past_32 : decode cX7_past 32 = .ok (.aload_n 0, 1) := by decide +kernel
theorem dX7_past_33 : decode cX7_past 33 = .ok (.getfield 9, 3) := by decide +kernel
theorem dX7_past_36 : decode cX7_past 36 = .ok (.iload_n 2, 1) := by decide +kernel
theorem dX7_past_37 : decode cX7_past 37 = .ok (.baload, 1) := by decide +kernel
theorem dX7_past_38 : decode cX7_past 38 = .ok (.istore 4, 2) := by decide +kernel
theorem dX7_past_40 : decode cX7_past 40 = .ok (.iload_n 2, 1) := by decide +kernel
theorem dX7_past_41 : decode cX7_past 41 = .ok (.iconst 1, 1) := by decide +kernel
theorem dX7_past_42 : decode cX7_past 42 = .ok (.iadd, 1) := by decide +kernel
theorem dX7_past_43 : decode cX7_past 43 = .ok (.aload_n 0, 1) := by decide +kernel
theorem dX7_past_44 : decode cX7_past 44 = .ok (.getfield 26, 3) := by decide +kernel
theorem dX7_past_47 : decode cX7_past 47 = .ok (.if_icmp .ge 25, 3) := by decide +kernel
theorem dX7_past_73 : decode cX7_past 73 = .ok (.istore 5, 2) := by decide +kernel
theorem dX7_past_75 : decode cX7_past 75 = .ok (.iload 4, 2) := by decide +kernel
theorem dX7_past_77 : decode cX7_past 77 = .ok (.bipush 47, 2) := by decide +kernel
theorem dX7_past_79 : decode cX7_past 79 = .ok (.if_icmp .ne 44, 3) := by decide +kernel
theorem dX7_past_238 : decode cX7_past 238 = .ok (.iinc 3 1, 3) := by decide +kernel
theorem dX7_past_241 : decode cX7_past 241 = .ok (.goto (-237), 3) := by decide +kernel
theorem dX7_past_123 : decode cX7_past 123 = .ok (.iload 4, 2) := by decide +kernel
theorem dX7_past_125 : decode cX7_past 125 = .ok (.bipush 47, 2) := by decide +kernel
theorem dX7_past_127 : decode cX7_past 127 = .ok (.if_icmp .ne 82, 3) := by decide +kernel
theorem dX7_past_209 : decode cX7_past 209 = .ok (.iload 4, 2) := by decide +kernel
theorem dX7_past_211 : decode cX7_past 211 = .ok (.bipush 10, 2) := by decide +kernel
theorem dX7_past_213 : decode cX7_past 213 = .ok (.if_icmp .eq 17, 3) := by decide +kernel
theorem dX7_past_230 : decode cX7_past 230 = .ok (.iinc 2 1, 3) := by decide +kernel
theorem dX7_past_233 : decode cX7_past 233 = .ok (.goto 5, 3) := by decide +kernel
theorem dX7_past_216 : decode cX7_past 216 = .ok (.iload 4, 2) := by decide +kernel
theorem dX7_past_218 : decode cX7_past 218 = .ok (.bipush 32, 2) := by decide +kernel
theorem dX7_past_220 : decode cX7_past 220 = .ok (.if_icmp .eq 10, 3) := by decide +kernel
theorem dX7_past_223 : decode cX7_past 223 = .ok (.iload 4, 2) := by decide +kernel
theorem dX7_past_225 : decode cX7_past 225 = .ok (.bipush 9, 2) := by decide +kernel
theorem dX7_past_227 : decode cX7_past 227 = .ok (.if_icmp .ne 9, 3) := by decide +kernel
theorem dX7_past_236 : decode cX7_past 236 = .ok (.iload_n 2, 1) := by decide +kernel
theorem dX7_past_237 : decode cX7_past 237 = .ok (.ireturn, 1) := by decide +kernel
theorem dX7_past_130 : decode cX7_past 130 = .ok (.iload 5, 2) := by decide +kernel
theorem dX7_past_132 : decode cX7_past 132 = .ok (.bipush 42, 2) := by decide +kernel
theorem dX7_past_134 : decode cX7_past 134 = .ok (.if_icmp .ne 75, 3) := by decide +kernel
theorem dX7_past_137 : decode cX7_past 137 = .ok (.iinc 2 2, 3) := by decide +kernel
theorem dX7_past_140 : decode cX7_past 140 = .ok (.iload_n 2, 1) := by decide +kernel
theorem dX7_past_141 : decode cX7_past 141 = .ok (.iconst 1, 1) := by decide +kernel
theorem dX7_past_142 : decode cX7_past 142 = .ok (.iadd, 1) := by decide +kernel
theorem dX7_past_143 : decode cX7_past 143 = .ok (.aload_n 0, 1) := by decide +kernel
theorem dX7_past_144 : decode cX7_past 144 = .ok (.getfield 26, 3) := by decide +kernel
theorem dX7_past_147 : decode cX7_past 147 = .ok (.if_icmp .ge 44, 3) := by decide +kernel
theorem dX7_past_191 : decode cX7_past 191 = .ok (.iload_n 2, 1) := by decide +kernel
theorem dX7_past_192 : decode cX7_past 192 = .ok (.iconst 1, 1) := by decide +kernel
theorem dX7_past_193 : decode cX7_past 193 = .ok (.iadd, 1) := by decide +kernel
theorem dX7_past_194 : decode cX7_past 194 = .ok (.aload_n 0, 1) := by decide +kernel
theorem dX7_past_195 : decode cX7_past 195 = .ok (.getfield 26, 3) := by decide +kernel
theorem dX7_past_198 : decode cX7_past 198 = .ok (.if_icmp .lt 5, 3) := by decide +kernel
theorem dX7_past_203 : decode cX7_past 203 = .ok (.iinc 2 2, 3) := by decide +kernel
theorem dX7_past_206 : decode cX7_past 206 = .ok (.goto 32, 3) := by decide +kernel
theorem dX7_past_201 : decode cX7_past 201 = .ok (.iconst (-1), 1) := by decide +kernel
theorem dX7_past_202 : decode cX7_past 202 = .ok (.ireturn, 1) := by decide +kernel
theorem dX7_past_150 : decode cX7_past 150 = .ok (.iload_n 2, 1) := by decide +kernel
theorem dX7_past_151 : decode cX7_past 151 = .ok (.iconst 1, 1) := by decide +kernel
theorem dX7_past_152 : decode cX7_past 152 = .ok (.iadd, 1) := by decide +kernel
theorem dX7_past_153 : decode cX7_past 153 = .ok (.aload_n 0, 1) := by decide +kernel
theorem dX7_past_154 : decode cX7_past 154 = .ok (.getfield 9, 3) := by decide +kernel
theorem dX7_past_157 : decode cX7_past 157 = .ok (.arraylength, 1) := by decide +kernel
theorem dX7_past_158 : decode cX7_past 158 = .ok (.if_icmp .ge 33, 3) := by decide +kernel
theorem dX7_past_161 : decode cX7_past 161 = .ok (.aload_n 0, 1) := by decide +kernel
theorem dX7_past_162 : decode cX7_past 162 = .ok (.getfield 9, 3) := by decide +kernel
theorem dX7_past_165 : decode cX7_past 165 = .ok (.iload_n 2, 1) := by decide +kernel
theorem dX7_past_166 : decode cX7_past 166 = .ok (.baload, 1) := by decide +kernel
theorem dX7_fail_0 : decode cX7_fail 0 = .ok (.aload_n 0, 1) := by decide +kernel
theorem dX7_fail_1 : decode cX7_fail 1 = .ok (.iload_n 1, 1) := by decide +kernel
theorem dX7_fail_2 : decode cX7_fail 2 = .ok (.putfield 36, 3) := by decide +kernel
theorem dX7_fail_5 : decode cX7_fail 5 = .ok (.aload_n 0, 1) := by decide +kernel
theorem dX7_fail_6 : decode cX7_fail 6 = .ok (.iload_n 2, 1) := by decide +kernel
theorem dX7_fail_7 : decode cX7_fail 7 = .ok (.putfield 39, 3) := by decide +kernel
theorem dX7_fail_10 : decode cX7_fail 10 = .ok (.new 67, 3) := by decide +kernel
theorem dX7_fail_13 : decode cX7_fail 13 = .ok (.dup, 1) := by decide +kernel
theorem dX7_fail_14 : decode cX7_fail 14 = .ok (.invokespecial 69, 3) := by decide +kernel
theorem dX7_fail_17 : decode cX7_fail 17 = .ok (.athrow, 1) := by decide +kernel
theorem dX7_rowEnd_0 : decode cX7_rowEnd 0 = .ok (.iload_n 1, 1) := by decide +kernel
theorem dX7_rowEnd_1 : decode cX7_rowEnd 1 = .ok (.istore_n 2, 1) := by decide +kernel
theorem dX7_rowEnd_2 : decode cX7_rowEnd 2 = .ok (.iconst 1, 1) := by decide +kernel
theorem dX7_rowEnd_3 : decode cX7_rowEnd 3 = .ok (.istore_n 3, 1) := by decide +kernel
theorem dX12_isText_0 : decode cX12_isText 0 = .ok (.iload_n 2, 1) := by decide +kernel
theorem dX12_isText_1 : decode cX12_isText 1 = .ok (.aload_n 3, 1) := by decide +kernel
theorem dX12_isText_2 : decode cX12_isText 2 = .ok (.invokevirtual 257, 3) := by decide +kernel
theorem dX7_peek_0 : decode cX7_peek 0 = .ok (.aload_n 0, 1) := by decide +kernel
theorem dX7_peek_1 : decode cX7_peek 1 = .ok (.getfield 30, 3) := by decide +kernel
theorem dX7_peek_4 : decode cX7_peek 4 = .ok (.ifCond .lt 38, 3) := by decide +kernel
theorem dX7_peek_43 : decode cX7_peek 43 = .ok (.ireturn, 1) := by decide +kernel
theorem dX7_peek_42 : decode cX7_peek 42 = .ok (.iconst (-1), 1) := by decide +kernel
theorem dX7_peek_7 : decode cX7_peek 7 = .ok (.aload_n 0, 1) := by decide +kernel
theorem dX7_peek_8 : decode cX7_peek 8 = .ok (.getfield 30, 3) := by decide +kernel
theorem dX7_peek_11 : decode cX7_peek 11 = .ok (.aload_n 0, 1) := by decide +kernel
theorem dX7_peek_12 : decode cX7_peek 12 = .ok (.getfield 26, 3) := by decide +kernel
theorem dX7_peek_15 : decode cX7_peek 15 = .ok (.if_icmp .ge 27, 3) := by decide +kernel
theorem dX7_peek_18 : decode cX7_peek 18 = .ok (.aload_n 0, 1) := by decide +kernel
theorem dX7_peek_19 : decode cX7_peek 19 = .ok (.getfield 30, 3) := by decide +kernel
theorem dX7_peek_22 : decode cX7_peek 22 = .ok (.aload_n 0, 1) := by decide +kernel
theorem dX7_peek_23 : decode cX7_peek 23 = .ok (.getfield 9, 3) := by decide +kernel
theorem dX7_peek_26 : decode cX7_peek 26 = .ok (.arraylength, 1) := by decide +kernel
theorem dX7_peek_27 : decode cX7_peek 27 = .ok (.if_icmp .ge 15, 3) := by decide +kernel
theorem dX7_peek_30 : decode cX7_peek 30 = .ok (.aload_n 0, 1) := by decide +kernel
theorem dX7_peek_31 : decode cX7_peek 31 = .ok (.getfield 9, 3) := by decide +kernel
theorem dX7_peek_34 : decode cX7_peek 34 = .ok (.aload_n 0, 1) := by decide +kernel
theorem dX7_peek_35 : decode cX7_peek 35 = .ok (.getfield 30, 3) := by decide +kernel
theorem dX7_peek_38 : decode cX7_peek 38 = .ok (.baload, 1) := by decide +kernel
theorem dX7_peek_39 : decode cX7_peek 39 = .ok (.goto 4, 3) := by decide +kernel
theorem dX7_at_0 : decode cX7_at 0 = .ok (.iload_n 1, 1) := by decide +kernel
theorem dX7_at_1 : decode cX7_at 1 = .ok (.ifCond .lt 29, 3) := by decide +kernel
theorem dX7_at_31 : decode cX7_at 31 = .ok (.ireturn, 1) := by decide +kernel
theorem dX7_at_30 : decode cX7_at 30 = .ok (.iconst (-1), 1) := by decide +kernel
theorem dX7_at_4 : decode cX7_at 4 = .ok (.iload_n 1, 1) := by decide +kernel
theorem dX7_at_5 : decode cX7_at 5 = .ok (.aload_n 0, 1) := by decide +kernel
theorem dX7_at_6 : decode cX7_at 6 = .ok (.getfield 26, 3) := by decide +kernel
theorem dX7_at_9 : decode cX7_at 9 = .ok (.if_icmp .ge 21, 3) := by decide +kernel
theorem dX7_at_12 : decode cX7_at 12 = .ok (.iload_n 1, 1) := by decide +kernel
theorem dX7_at_13 : decode cX7_at 13 = .ok (.aload_n 0, 1) := by decide +kernel
theorem dX7_at_14 : decode cX7_at 14 = .ok (.getfield 9, 3) := by decide +kernel
theorem dX7_at_17 : decode cX7_at 17 = .ok (.arraylength, 1) := by decide +kernel
theorem dX7_at_18 : decode cX7_at 18 = .ok (.if_icmp .ge 12, 3) := by decide +kernel
theorem dX7_at_21 : decode cX7_at 21 = .ok (.aload_n 0, 1) := by decide +kernel
theorem dX7_at_22 : decode cX7_at 22 = .ok (.getfield 9, 3) := by decide +kernel
theorem dX7_at_25 : decode cX7_at 25 = .ok (.iload_n 1, 1) := by decide +kernel
theorem dX7_at_26 : decode cX7_at 26 = .ok (.baload, 1) := by decide +kernel
theorem dX7_at_27 : decode cX7_at 27 = .ok (.goto 4, 3) := by decide +kernel
theorem dX7_placeOf_0 : decode cX7_placeOf 0 = .ok (.aload_n 0, 1) := by decide +kernel
theorem dX7_placeOf_1 : decode cX7_placeOf 1 = .ok (.getfield 15, 3) := by decide +kernel
theorem dX7_placeOf_4 : decode cX7_placeOf 4 = .ok (.ifCond .eq 7, 3) := by decide +kernel
theorem dX7_placeOf_34 : decode cX7_placeOf 34 = .ok (.ireturn, 1) := by decide +kernel
theorem dX7_placeOf_11 : decode cX7_placeOf 11 = .ok (.iload_n 1, 1) := by decide +kernel
theorem dX7_placeOf_12 : decode cX7_placeOf 12 = .ok (.ifCond .lt 21, 3) := by decide +kernel
theorem dX7_placeOf_33 : decode cX7_placeOf 33 = .ok (.iconst 0, 1) := by decide +kernel
theorem dX7_placeOf_15 : decode cX7_placeOf 15 = .ok (.iload_n 1, 1) := by decide +kernel
theorem dX7_placeOf_16 : decode cX7_placeOf 16 = .ok (.aload_n 0, 1) := by decide +kernel
theorem dX7_placeOf_17 : decode cX7_placeOf 17 = .ok (.getfield 22, 3) := by decide +kernel
theorem dX7_placeOf_20 : decode cX7_placeOf 20 = .ok (.arraylength, 1) := by decide +kernel
theorem dX7_placeOf_21 : decode cX7_placeOf 21 = .ok (.if_icmp .ge 12, 3) := by decide +kernel
theorem dX7_placeOf_24 : decode cX7_placeOf 24 = .ok (.aload_n 0, 1) := by decide +kernel
theorem dX7_placeOf_25 : decode cX7_placeOf 25 = .ok (.getfield 22, 3) := by decide +kernel
theorem dX7_placeOf_28 : decode cX7_placeOf 28 = .ok (.iload_n 1, 1) := by decide +kernel
theorem dX7_placeOf_29 : decode cX7_placeOf 29 = .ok (.iaload, 1) := by decide +kernel
theorem dX7_placeOf_30 : decode cX7_placeOf 30 = .ok (.goto 4, 3) := by decide +kernel
theorem dX7_placeOf_7 : decode cX7_placeOf 7 = .ok (.iload_n 1, 1) := by decide +kernel
theorem dX7_placeOf_8 : decode cX7_placeOf 8 = .ok (.goto 26, 3) := by decide +kernel
theorem dX7_stringEnd_0 : decode cX7_stringEnd 0 = .ok (.aload_n 0, 1) := by decide +kernel
theorem dX7_stringEnd_1 : decode cX7_stringEnd 1 = .ok (.invokevirtual 112, 3) := by decide +kernel
theorem dX7_stringEnd_4 : decode cX7_stringEnd 4 = .ok (.istore_n 1, 1) := by decide +kernel
theorem dX7_stringEnd_5 : decode cX7_stringEnd 5 = .ok (.aload_n 0, 1) := by decide +kernel
theorem dX7_stringEnd_6 : decode cX7_stringEnd 6 = .ok (.getfield 30, 3) := by decide +kernel
theorem dX7_stringEnd_9 : decode cX7_stringEnd 9 = .ok (.iconst 1, 1) := by decide +kernel
theorem dX7_stringEnd_10 : decode cX7_stringEnd 10 = .ok (.iadd, 1) := by decide +kernel
theorem dX7_stringEnd_11 : decode cX7_stringEnd 11 = .ok (.istore_n 2, 1) := by decide +kernel
theorem dX7_stringEnd_12 : decode cX7_stringEnd 12 = .ok (.iload_n 2, 1) := by decide +kernel
theorem dX7_stringEnd_13 : decode cX7_stringEnd 13 = .ok (.aload_n 0, 1) := by decide +kernel
theorem dX7_stringEnd_14 : decode cX7_stringEnd 14 = .ok (.getfield 26, 3) := by decide +kernel
theorem dX7_stringEnd_17 : decode cX7_stringEnd 17 = .ok (.if_icmp .ge 38, 3) := by decide +kernel
theorem dX7_stringEnd_55 : decode cX7_stringEnd 55 = .ok (.iload_n 2, 1) := by decide +kernel
theorem dX7_stringEnd_56 : decode cX7_stringEnd 56 = .ok (.aload_n 0, 1) := by decide +kernel
theorem dX7_stringEnd_57 : decode cX7_stringEnd 57 = .ok (.getfield 26, 3) := by decide +kernel
theorem dX7_stringEnd_60 : decode cX7_stringEnd 60 = .ok (.if_icmp .lt 16, 3) := by decide +kernel
theorem dX7_stringEnd_76 : decode cX7_stringEnd 76 = .ok (.iload_n 2, 1) := by decide +kernel
theorem dX7_stringEnd_77 : decode cX7_stringEnd 77 = .ok (.ireturn, 1) := by decide +kernel
theorem dX7_stringEnd_63 : decode cX7_stringEnd 63 = .ok (.aload_n 0, 1) := by decide +kernel
theorem dX7_stringEnd_64 : decode cX7_stringEnd 64 = .ok (.iconst 1, 1) := by decide +kernel
theorem dX7_stringEnd_65 : decode cX7_stringEnd 65 = .ok (.aload_n 0, 1) := by decide +kernel
theorem dX7_stringEnd_66 : decode cX7_stringEnd 66 = .ok (.aload_n 0, 1) := by decide +kernel
theorem dX7_stringEnd_67 : decode cX7_stringEnd 67 = .ok (.getfield 26, 3) := by decide +kernel
theorem dX7_stringEnd_70 : decode cX7_stringEnd 70 = .ok (.invokevirtual 125, 3) := by decide +kernel
theorem dX7_stringEnd_73 : decode cX7_stringEnd 73 = .ok (.invokevirtual 105, 3) := by decide +kernel
theorem dX7_stringEnd_20 : decode cX7_stringEnd 20 = .ok (.aload_n 0, 1) := by decide +kernel
theorem dX7_stringEnd_21 : decode cX7_stringEnd 21 = .ok (.iload_n 2, 1) := by decide +kernel
theorem dX7_stringEnd_22 : decode cX7_stringEnd 22 = .ok (.invokevirtual 122, 3) := by decide +kernel
theorem dX7_stringEnd_25 : decode cX7_stringEnd 25 = .ok (.iload_n 1, 1) := by decide +kernel
theorem dX7_stringEnd_26 : decode cX7_stringEnd 26 = .ok (.if_icmp .eq 29, 3) := by decide +kernel
theorem dX7_stringEnd_29 : decode cX7_stringEnd 29 = .ok (.aload_n 0, 1) := by decide +kernel
theorem dX7_stringEnd_30 : decode cX7_stringEnd 30 = .ok (.iload_n 2, 1) := by decide +kernel
theorem dX7_stringEnd_31 : decode cX7_stringEnd 31 = .ok (.invokevirtual 122, 3) := by decide +kernel
theorem dX7_stringEnd_34 : decode cX7_stringEnd 34 = .ok (.bipush 10, 2) := by decide +kernel
theorem dX7_stringEnd_36 : decode cX7_stringEnd 36 = .ok (.if_icmp .ne 13, 3) := by decide +kernel
theorem dX7_stringEnd_49 : decode cX7_stringEnd 49 = .ok (.iinc 2 1, 3) := by decide +kernel
theorem dX7_stringEnd_52 : decode cX7_stringEnd 52 = .ok (.goto (-40), 3) := by decide +kernel
theorem dX7_stringEnd_39 : decode cX7_stringEnd 39 = .ok (.aload_n 0, 1) := by decide +kernel
theorem dX7_stringEnd_40 : decode cX7_stringEnd 40 = .ok (.iconst 1, 1) := by decide +kernel
theorem dX7_stringEnd_41 : decode cX7_stringEnd 41 = .ok (.aload_n 0, 1) := by decide +kernel
theorem dX7_stringEnd_42 : decode cX7_stringEnd 42 = .ok (.iload_n 2, 1) := by decide +kernel
theorem dX7_stringEnd_43 : decode cX7_stringEnd 43 = .ok (.invokevirtual 125, 3) := by decide +kernel
theorem dX7_stringEnd_46 : decode cX7_stringEnd 46 = .ok (.invokevirtual 105, 3) := by decide +kernel
theorem dX12_isRow_0 : decode cX12_isRow 0 = .ok (.iload_n 0, 1) := by decide +kernel
theorem dX12_isRow_1 : decode cX12_isRow 1 = .ok (.bipush 97, 2) := by decide +kernel
theorem dX12_isRow_3 : decode cX12_isRow 3 = .ok (.if_icmp .lt 9, 3) := by decide +kernel
theorem dX12_isRow_47 : decode cX12_isRow 47 = .ok (.ireturn, 1) := by decide +kernel
theorem dX12_isRow_42 : decode cX12_isRow 42 = .ok (.iconst 1, 1) := by decide +kernel
theorem dX12_isRow_43 : decode cX12_isRow 43 = .ok (.goto 4, 3) := by decide +kernel
theorem dX12_isRow_12 : decode cX12_isRow 12 = .ok (.iload_n 0, 1) := by decide +kernel
theorem dX12_isRow_13 : decode cX12_isRow 13 = .ok (.bipush 65, 2) := by decide +kernel
theorem dX12_isRow_15 : decode cX12_isRow 15 = .ok (.if_icmp .lt 9, 3) := by decide +kernel
theorem dX12_isRow_24 : decode cX12_isRow 24 = .ok (.iload_n 0, 1) := by decide +kernel
theorem dX12_isRow_25 : decode cX12_isRow 25 = .ok (.bipush 95, 2) := by decide +kernel
theorem dX12_isRow_27 : decode cX12_isRow 27 = .ok (.if_icmp .eq 15, 3) := by decide +kernel
theorem dX12_isRow_30 : decode cX12_isRow 30 = .ok (.iload_n 0, 1) := by decide +kernel
theorem dX12_isRow_31 : decode cX12_isRow 31 = .ok (.bipush 48, 2) := by decide +kernel
theorem dX12_isRow_33 : decode cX12_isRow 33 = .ok (.if_icmp .lt 13, 3) := by decide +kernel
theorem dX12_isRow_46 : decode cX12_isRow 46 = .ok (.iconst 0, 1) := by decide +kernel
theorem dX12_isRow_36 : decode cX12_isRow 36 = .ok (.iload_n 0, 1) := by decide +kernel
theorem dX12_isRow_37 : decode cX12_isRow 37 = .ok (.bipush 57, 2) := by decide +kernel
theorem dX12_isRow_39 : decode cX12_isRow 39 = .ok (.if_icmp .gt 7, 3) := by decide +kernel
theorem dX12_isRow_18 : decode cX12_isRow 18 = .ok (.iload_n 0, 1) := by decide +kernel
theorem dX12_isRow_19 : decode cX12_isRow 19 = .ok (.bipush 90, 2) := by decide +kernel
theorem dX12_isRow_21 : decode cX12_isRow 21 = .ok (.if_icmp .le 21, 3) := by decide +kernel
theorem dX12_isRow_6 : decode cX12_isRow 6 = .ok (.iload_n 0, 1) := by decide +kernel
theorem dX12_isRow_7 : decode cX12_isRow 7 = .ok (.bipush 122, 2) := by decide +kernel
theorem dX12_isRow_9 : decode cX12_isRow 9 = .ok (.if_icmp .le 33, 3) := by decide +kernel
theorem dX7_isBecomes_0 : decode cX7_isBecomes 0 = .ok (.aload_n 0, 1) := by decide +kernel
theorem dX7_isBecomes_1 : decode cX7_isBecomes 1 = .ok (.aload_n 0, 1) := by decide +kernel
theorem dX7_isBecomes_2 : decode cX7_isBecomes 2 = .ok (.getfield 30, 3) := by decide +kernel
theorem dX7_isBecomes_5 : decode cX7_isBecomes 5 = .ok (.invokevirtual 122, 3) := by decide +kernel
theorem dX7_isBecomes_8 : decode cX7_isBecomes 8 = .ok (.bipush 58, 2) := by decide +kernel
theorem dX7_isBecomes_10 : decode cX7_isBecomes 10 = .ok (.if_icmp .ne 37, 3) := by decide +kernel
theorem dX7_isBecomes_48 : decode cX7_isBecomes 48 = .ok (.ireturn, 1) := by decide +kernel
theorem dX7_isBecomes_47 : decode cX7_isBecomes 47 = .ok (.iconst 0, 1) := by decide +kernel
theorem dX7_isBecomes_13 : decode cX7_isBecomes 13 = .ok (.aload_n 0, 1) := by decide +kernel
theorem dX7_isBecomes_14 : decode cX7_isBecomes 14 = .ok (.aload_n 0, 1) := by decide +kernel
theorem dX7_isBecomes_15 : decode cX7_isBecomes 15 = .ok (.getfield 30, 3) := by decide +kernel
theorem dX7_isBecomes_18 : decode cX7_isBecomes 18 = .ok (.iconst 1, 1) := by decide +kernel
theorem dX7_isBecomes_19 : decode cX7_isBecomes 19 = .ok (.iadd, 1) := by decide +kernel
theorem dX7_isBecomes_20 : decode cX7_isBecomes 20 = .ok (.invokevirtual 122, 3) := by decide +kernel
theorem dX7_isBecomes_23 : decode cX7_isBecomes 23 = .ok (.bipush 58, 2) := by decide +kernel
theorem dX7_isBecomes_25 : decode cX7_isBecomes 25 = .ok (.if_icmp .ne 22, 3) := by decide +kernel
theorem dX7_isBecomes_28 : decode cX7_isBecomes 28 = .ok (.aload_n 0, 1) := by decide +kernel
theorem dX7_isBecomes_29 : decode cX7_isBecomes 29 = .ok (.aload_n 0, 1) := by decide +kernel
theorem dX7_isBecomes_30 : decode cX7_isBecomes 30 = .ok (.getfield 30, 3) := by decide +kernel
theorem dX7_isBecomes_33 : decode cX7_isBecomes 33 = .ok (.iconst 2, 1) := by decide +kernel
theorem dX7_isBecomes_34 : decode cX7_isBecomes 34 = .ok (.iadd, 1) := by decide +kernel
theorem dX7_isBecomes_35 : decode cX7_isBecomes 35 = .ok (.invokevirtual 122, 3) := by decide +kernel
theorem dX7_isBecomes_38 : decode cX7_isBecomes 38 = .ok (.bipush 61, 2) := by decide +kernel
theorem dX7_isBecomes_40 : decode cX7_isBecomes 40 = .ok (.if_icmp .ne 7, 3) := by decide +kernel
theorem dX7_isBecomes_43 : decode cX7_isBecomes 43 = .ok (.iconst 1, 1) := by decide +kernel
theorem dX7_isBecomes_44 : decode cX7_isBecomes 44 = .ok (.goto 4, 3) := by decide +kernel
theorem dX1_isOnTheWay_0 : decode cX1_isOnTheWay 0 = .ok (.iconst 0, 1) := by decide +kernel
theorem dX1_isOnTheWay_1 : decode cX1_isOnTheWay 1 = .ok (.istore_n 2, 1) := by decide +kernel
theorem dX1_isOnTheWay_2 : decode cX1_isOnTheWay 2 = .ok (.iload_n 2, 1) := by decide +kernel
theorem dX1_isOnTheWay_3 : decode cX1_isOnTheWay 3 = .ok (.aload_n 0, 1) := by decide +kernel
theorem dX1_isOnTheWay_4 : decode cX1_isOnTheWay 4 = .ok (.getfield 41, 3) := by decide +kernel
theorem dX1_isOnTheWay_7 : decode cX1_isOnTheWay 7 = .ok (.if_icmp .ge 23, 3) := by decide +kernel
theorem dX1_isOnTheWay_30 : decode cX1_isOnTheWay 30 = .ok (.iconst 0, 1) := by decide +kernel
theorem dX1_isOnTheWay_31 : decode cX1_isOnTheWay 31 = .ok (.ireturn, 1) := by decide +kernel
theorem dX1_isOnTheWay_10 : decode cX1_isOnTheWay 10 = .ok (.aload_n 0, 1) := by decide +kernel
theorem dX1_isOnTheWay_11 : decode cX1_isOnTheWay 11 = .ok (.getfield 35, 3) := by decide +kernel
theorem dX1_isOnTheWay_14 : decode cX1_isOnTheWay 14 = .ok (.iload_n 2, 1) := by decide +kernel
theorem dX1_isOnTheWay_15 : decode cX1_isOnTheWay 15 = .ok (.invokestatic 101, 3) := by decide +kernel
theorem dX1_isOnTheWay_18 : decode cX1_isOnTheWay 18 = .ok (.iload_n 1, 1) := by decide +kernel
theorem dX1_isOnTheWay_19 : decode cX1_isOnTheWay 19 = .ok (.if_icmp .ne 5, 3) := by decide +kernel
theorem dX1_isOnTheWay_24 : decode cX1_isOnTheWay 24 = .ok (.iinc 2 1, 3) := by decide +kernel
theorem dX1_isOnTheWay_27 : decode cX1_isOnTheWay 27 = .ok (.goto (-25), 3) := by decide +kernel
theorem dX1_isOnTheWay_22 : decode cX1_isOnTheWay 22 = .ok (.iconst 1, 1) := by decide +kernel
theorem dX1_isOnTheWay_23 : decode cX1_isOnTheWay 23 = .ok (.ireturn, 1) := by decide +kernel
theorem dX4_note_0 : decode cX4_note 0 = .ok (.aload_n 0, 1) := by decide +kernel
theorem dX4_note_1 : decode cX4_note 1 = .ok (.getfield 13, 3) := by decide +kernel
theorem dX4_note_4 : decode cX4_note 4 = .ok (.iload_n 1, 1) := by decide +kernel
theorem dX4_note_5 : decode cX4_note 5 = .ok (.invokestatic 35, 3) := by decide +kernel
theorem dX4_note_8 : decode cX4_note 8 = .ok (.istore_n 3, 1) := by decide +kernel
theorem dX4_note_9 : decode cX4_note 9 = .ok (.iconst 0, 1) := by decide +kernel
theorem dX4_note_10 : decode cX4_note 10 = .ok (.istore 4, 2) := by decide +kernel
theorem dX4_note_12 : decode cX4_note 12 = .ok (.iload 4, 2) := by decide +kernel
theorem dX4_note_14 : decode cX4_note 14 = .ok (.iload_n 3, 1) := by decide +kernel
theorem dX4_note_15 : decode cX4_note 15 = .ok (.if_icmp .ge 28, 3) := by decide +kernel
theorem dX4_note_43 : decode cX4_note 43 = .ok (.iload_n 3, 1) := by decide +kernel
theorem dX4_note_44 : decode cX4_note 44 = .ok (.bipush 8, 2) := by decide +kernel
theorem dX4_note_46 : decode cX4_note 46 = .ok (.if_icmp .ge 28, 3) := by decide +kernel
theorem dX4_note_74 : decode cX4_note 74 = .ok (.return_, 1) := by decide +kernel
theorem dX4_note_49 : decode cX4_note 49 = .ok (.aload_n 0, 1) := by decide +kernel
theorem dX4_note_50 : decode cX4_note 50 = .ok (.getfield 7, 3) := by decide +kernel
theorem dX4_note_53 : decode cX4_note 53 = .ok (.bipush 8, 2) := by decide +kernel
theorem dX4_note_55 : decode cX4_note 55 = .ok (.iload_n 1, 1) := by decide +kernel
theorem dX4_note_56 : decode cX4_note 56 = .ok (.imul, 1) := by decide +kernel
theorem dX4_note_57 : decode cX4_note 57 = .ok (.iload_n 3, 1) := by decide +kernel
theorem dX4_note_58 : decode cX4_note 58 = .ok (.iadd, 1) := by decide +kernel
theorem dX4_note_59 : decode cX4_note 59 = .ok (.iload_n 2, 1) := by decide +kernel
theorem dX4_note_60 : decode cX4_note 60 = .ok (.invokestatic 41, 3) := by decide +kernel
theorem dX4_note_63 : decode cX4_note 63 = .ok (.aload_n 0, 1) := by decide +kernel
theorem dX4_note_64 : decode cX4_note 64 = .ok (.getfield 13, 3) := by decide +kernel
theorem dX4_note_67 : decode cX4_note 67 = .ok (.iload_n 1, 1) := by decide +kernel
theorem dX4_note_68 : decode cX4_note 68 = .ok (.iload_n 3, 1) := by decide +kernel
theorem dX4_note_69 : decode cX4_note 69 = .ok (.iconst 1, 1) := by decide +kernel
theorem dX4_note_70 : decode cX4_note 70 = .ok (.iadd, 1) := by decide +kernel
theorem dX4_note_71 : decode cX4_note 71 = .ok (.invokestatic 41, 3) := by decide +kernel
theorem dX4_note_18 : decode cX4_note 18 = .ok (.aload_n 0, 1) := by decide +kernel
theorem dX4_note_19 : decode cX4_note 19 = .ok (.getfield 7, 3) := by decide +kernel
theorem dX4_note_22 : decode cX4_note 22 = .ok (.bipush 8, 2) := by decide +kernel
theorem dX4_note_24 : decode cX4_note 24 = .ok (.iload_n 1, 1) := by decide +kernel
theorem dX4_note_25 : decode cX4_note 25 = .ok (.imul, 1) := by decide +kernel
theorem dX4_note_26 : decode cX4_note 26 = .ok (.iload 4, 2) := by decide +kernel
theorem dX4_note_28 : decode cX4_note 28 = .ok (.iadd, 1) := by decide +kernel
theorem dX4_note_29 : decode cX4_note 29 = .ok (.invokestatic 35, 3) := by decide +kernel
theorem dX4_note_32 : decode cX4_note 32 = .ok (.iload_n 2, 1) := by decide +kernel
theorem dX4_note_33 : decode cX4_note 33 = .ok (.if_icmp .ne 4, 3) := by decide +kernel
theorem dX4_note_37 : decode cX4_note 37 = .ok (.iinc 4 1, 3) := by decide +kernel
theorem dX4_note_40 : decode cX4_note 40 = .ok (.goto (-28), 3) := by decide +kernel
theorem dX4_note_36 : decode cX4_note 36 = .ok (.return_, 1) := by decide +kernel
theorem dX12_isLetter_0 : decode cX12_isLetter 0 = .ok (.iload_n 0, 1) := by decide +kernel
theorem dX12_isLetter_1 : decode cX12_isLetter 1 = .ok (.bipush 97, 2) := by decide +kernel
theorem dX12_isLetter_3 : decode cX12_isLetter 3 = .ok (.if_icmp .lt 9, 3) := by decide +kernel
theorem dX12_isLetter_35 : decode cX12_isLetter 35 = .ok (.ireturn, 1) := by decide +kernel
theorem dX12_isLetter_30 : decode cX12_isLetter 30 = .ok (.iconst 1, 1) := by decide +kernel
theorem dX12_isLetter_31 : decode cX12_isLetter 31 = .ok (.goto 4, 3) := by decide +kernel
theorem dX12_isLetter_12 : decode cX12_isLetter 12 = .ok (.iload_n 0, 1) := by decide +kernel
theorem dX12_isLetter_13 : decode cX12_isLetter 13 = .ok (.bipush 65, 2) := by decide +kernel
theorem dX12_isLetter_15 : decode cX12_isLetter 15 = .ok (.if_icmp .lt 9, 3) := by decide +kernel
theorem dX12_isLetter_24 : decode cX12_isLetter 24 = .ok (.iload_n 0, 1) := by decide +kernel
theorem dX12_isLetter_25 : decode cX12_isLetter 25 = .ok (.bipush 95, 2) := by decide +kernel
theorem dX12_isLetter_27 : decode cX12_isLetter 27 = .ok (.if_icmp .ne 7, 3) := by decide +kernel
theorem dX12_isLetter_34 : decode cX12_isLetter 34 = .ok (.iconst 0, 1) := by decide +kernel
theorem dX12_isLetter_18 : decode cX12_isLetter 18 = .ok (.iload_n 0, 1) := by decide +kernel
theorem dX12_isLetter_19 : decode cX12_isLetter 19 = .ok (.bipush 90, 2) := by decide +kernel
theorem dX12_isLetter_21 : decode cX12_isLetter 21 = .ok (.if_icmp .le 9, 3) := by decide +kernel
theorem dX12_isLetter_6 : decode cX12_isLetter 6 = .ok (.iload_n 0, 1) := by decide +kernel
theorem dX12_isLetter_7 : decode cX12_isLetter 7 = .ok (.bipush 122, 2) := by decide +kernel
theorem dX12_isLetter_9 : decode cX12_isLetter 9 = .ok (.if_icmp .le 21, 3) := by decide +kernel
theorem dX12_wordIn_0 : decode cX12_wordIn 0 = .ok (.iload_n 2, 1) := by decide +kernel
theorem dX12_wordIn_1 : decode cX12_wordIn 1 = .ok (.ifCond .lt 16, 3) := by decide +kernel
theorem dX12_wordIn_17 : decode cX12_wordIn 17 = .ok (.iconst (-1), 1) := by decide +kernel
theorem dX12_wordIn_18 : decode cX12_wordIn 18 = .ok (.ireturn, 1) := by decide +kernel
theorem dX12_wordIn_4 : decode cX12_wordIn 4 = .ok (.iload_n 3, 1) := by decide +kernel
theorem dX12_wordIn_5 : decode cX12_wordIn 5 = .ok (.iconst 1, 1) := by decide +kernel
theorem dX12_wordIn_6 : decode cX12_wordIn 6 = .ok (.if_icmp .lt 11, 3) := by decide +kernel
theorem dX12_wordIn_9 : decode cX12_wordIn 9 = .ok (.iload_n 2, 1) := by decide +kernel
theorem dX12_wordIn_10 : decode cX12_wordIn 10 = .ok (.aload_n 1, 1) := by decide +kernel
theorem dX12_wordIn_11 : decode cX12_wordIn 11 = .ok (.arraylength, 1) := by decide +kernel
theorem dX12_wordIn_12 : decode cX12_wordIn 12 = .ok (.iload_n 3, 1) := by decide +kernel
theorem dX12_wordIn_13 : decode cX12_wordIn 13 = .ok (.isub, 1) := by decide +kernel
theorem dX12_wordIn_14 : decode cX12_wordIn 14 = .ok (.if_icmp .le 5, 3) := by decide +kernel
theorem dX12_wordIn_19 : decode cX12_wordIn 19 = .ok (.iconst 0, 1) := by decide +kernel
theorem dX12_wordIn_20 : decode cX12_wordIn 20 = .ok (.istore 4, 2) := by decide +kernel
theorem dX12_wordIn_22 : decode cX12_wordIn 22 = .ok (.iconst 0, 1) := by decide +kernel
theorem dX12_wordIn_23 : decode cX12_wordIn 23 = .ok (.istore 5, 2) := by decide +kernel
theorem dX12_wordIn_25 : decode cX12_wordIn 25 = .ok (.iconst 0, 1) := by decide +kernel
theorem dX12_wordIn_26 : decode cX12_wordIn 26 = .ok (.istore 6, 2) := by decide +kernel
theorem dX12_wordIn_28 : decode cX12_wordIn 28 = .ok (.iload 6, 2) := by decide +kernel
theorem dX12_wordIn_30 : decode cX12_wordIn 30 = .ok (.aload_n 0, 1) := by decide +kernel
theorem dX12_wordIn_31 : decode cX12_wordIn 31 = .ok (.invokevirtual 257, 3) := by decide +kernel
theorem dX7_here_0 : decode cX7_here 0 = .ok (.aload_n 0, 1) := by decide +kernel
theorem dX7_here_1 : decode cX7_here 1 = .ok (.getfield 15, 3) := by decide +kernel
theorem dX7_here_4 : decode cX7_here 4 = .ok (.ifCond .eq 10, 3) := by decide +kernel
theorem dX7_here_46 : decode cX7_here 46 = .ok (.ireturn, 1) := by decide +kernel
theorem dX7_here_14 : decode cX7_here 14 = .ok (.aload_n 0, 1) := by decide +kernel
theorem dX7_here_15 : decode cX7_here 15 = .ok (.getfield 30, 3) := by decide +kernel
theorem dX7_here_18 : decode cX7_here 18 = .ok (.ifCond .lt 27, 3) := by decide +kernel
theorem dX7_here_45 : decode cX7_here 45 = .ok (.iconst 0, 1) := by decide +kernel
theorem dX7_here_21 : decode cX7_here 21 = .ok (.aload_n 0, 1) := by decide +kernel
theorem dX7_here_22 : decode cX7_here 22 = .ok (.getfield 30, 3) := by decide +kernel
theorem dX7_here_25 : decode cX7_here 25 = .ok (.aload_n 0, 1) := by decide +kernel
theorem dX7_here_26 : decode cX7_here 26 = .ok (.getfield 22, 3) := by decide +kernel
theorem dX7_here_29 : decode cX7_here 29 = .ok (.arraylength, 1) := by decide +kernel
theorem dX7_here_30 : decode cX7_here 30 = .ok (.if_icmp .ge 15, 3) := by decide +kernel
theorem dX7_here_33 : decode cX7_here 33 = .ok (.aload_n 0, 1) := by decide +kernel
theorem dX7_here_34 : decode cX7_here 34 = .ok (.getfield 22, 3) := by decide +kernel
theorem dX7_here_37 : decode cX7_here 37 = .ok (.aload_n 0, 1) := by decide +kernel
theorem dX7_here_38 : decode cX7_here 38 = .ok (.getfield 30, 3) := by decide +kernel
theorem dX7_here_41 : decode cX7_here 41 = .ok (.iaload, 1) := by decide +kernel
theorem dX7_here_42 : decode cX7_here 42 = .ok (.goto 4, 3) := by decide +kernel
theorem dX7_here_7 : decode cX7_here 7 = .ok (.aload_n 0, 1) := by decide +kernel
theorem dX7_here_8 : decode cX7_here 8 = .ok (.getfield 30, 3) := by decide +kernel
theorem dX7_here_11 : decode cX7_here 11 = .ok (.goto 35, 3) := by decide +kernel
theorem dX2_newDef_0 : decode cX2_newDef 0 = .ok (.aload_n 0, 1) := by decide +kernel
theorem dX2_newDef_1 : decode cX2_newDef 1 = .ok (.getfield 47, 3) := by decide +kernel
theorem dX2_newDef_4 : decode cX2_newDef 4 = .ok (.bipush 7, 2) := by decide +kernel
theorem dX2_newDef_6 : decode cX2_newDef 6 = .ok (.imul, 1) := by decide +kernel
theorem dX2_newDef_7 : decode cX2_newDef 7 = .ok (.istore 5, 2) := by decide +kernel
theorem dX2_newDef_9 : decode cX2_newDef 9 = .ok (.aload_n 0, 1) := by decide +kernel
theorem dX2_newDef_10 : decode cX2_newDef 10 = .ok (.getfield 44, 3) := by decide +kernel
theorem dX2_newDef_13 : decode cX2_newDef 13 = .ok (.iload 5, 2) := by decide +kernel
theorem dX2_newDef_15 : decode cX2_newDef 15 = .ok (.iload_n 1, 1) := by decide +kernel
theorem dX2_newDef_16 : decode cX2_newDef 16 = .ok (.invokestatic 98, 3) := by decide +kernel
theorem dX2_newDef_19 : decode cX2_newDef 19 = .ok (.aload_n 0, 1) := by decide +kernel
theorem dX2_newDef_20 : decode cX2_newDef 20 = .ok (.getfield 44, 3) := by decide +kernel
theorem dX2_newDef_23 : decode cX2_newDef 23 = .ok (.iload 5, 2) := by decide +kernel
theorem dX2_newDef_25 : decode cX2_newDef 25 = .ok (.iconst 1, 1) := by decide +kernel
theorem dX2_newDef_26 : decode cX2_newDef 26 = .ok (.iadd, 1) := by decide +kernel
theorem dX2_newDef_27 : decode cX2_newDef 27 = .ok (.iload_n 2, 1) := by decide +kernel
theorem dX2_newDef_28 : decode cX2_newDef 28 = .ok (.invokestatic 98, 3) := by decide +kernel
theorem dX2_newDef_31 : decode cX2_newDef 31 = .ok (.aload_n 0, 1) := by decide +kernel
theorem dX2_newDef_32 : decode cX2_newDef 32 = .ok (.getfield 44, 3) := by decide +kernel
theorem dX2_newDef_35 : decode cX2_newDef 35 = .ok (.iload 5, 2) := by decide +kernel
theorem dX2_newDef_37 : decode cX2_newDef 37 = .ok (.iconst 2, 1) := by decide +kernel
theorem dX2_newDef_38 : decode cX2_newDef 38 = .ok (.iadd, 1) := by decide +kernel
theorem dX2_newDef_39 : decode cX2_newDef 39 = .ok (.iload_n 3, 1) := by decide +kernel
theorem dX2_newDef_40 : decode cX2_newDef 40 = .ok (.invokestatic 98, 3) := by decide +kernel
theorem dX2_newDef_43 : decode cX2_newDef 43 = .ok (.aload_n 0, 1) := by decide +kernel
theorem dX2_newDef_44 : decode cX2_newDef 44 = .ok (.getfield 44, 3) := by decide +kernel
theorem dX2_newDef_47 : decode cX2_newDef 47 = .ok (.iload 5, 2) := by decide +kernel
theorem dX2_newDef_49 : decode cX2_newDef 49 = .ok (.iconst 3, 1) := by decide +kernel
theorem dX2_newDef_50 : decode cX2_newDef 50 = .ok (.iadd, 1) := by decide +kernel
theorem dX2_newDef_51 : decode cX2_newDef 51 = .ok (.iload 4, 2) := by decide +kernel
theorem dX2_newDef_53 : decode cX2_newDef 53 = .ok (.invokestatic 98, 3) := by decide +kernel
theorem dX2_newDef_56 : decode cX2_newDef 56 = .ok (.aload_n 0, 1) := by decide +kernel
theorem dX2_newDef_57 : decode cX2_newDef 57 = .ok (.dup, 1) := by decide +kernel
theorem dX2_newDef_58 : decode cX2_newDef 58 = .ok (.getfield 47, 3) := by decide +kernel
theorem dX2_newDef_61 : decode cX2_newDef 61 = .ok (.iconst 1, 1) := by decide +kernel
theorem dX2_newDef_62 : decode cX2_newDef 62 = .ok (.iadd, 1) := by decide +kernel
theorem dX2_newDef_63 : decode cX2_newDef 63 = .ok (.putfield 47, 3) := by decide +kernel
theorem dX2_newDef_66 : decode cX2_newDef 66 = .ok (.iload 5, 2) := by decide +kernel
theorem dX2_newDef_68 : decode cX2_newDef 68 = .ok (.ireturn, 1) := by decide +kernel
theorem dX7_isSpace_0 : decode cX7_isSpace 0 = .ok (.iload_n 0, 1) := by decide +kernel
theorem dX7_isSpace_1 : decode cX7_isSpace 1 = .ok (.bipush 32, 2) := by decide +kernel
theorem dX7_isSpace_3 : decode cX7_isSpace 3 = .ok (.if_icmp .eq 9, 3) := by decide +kernel
theorem dX7_isSpace_17 : decode cX7_isSpace 17 = .ok (.ireturn, 1) := by decide +kernel
theorem dX7_isSpace_12 : decode cX7_isSpace 12 = .ok (.iconst 1, 1) := by decide +kernel
theorem dX7_isSpace_13 : decode cX7_isSpace 13 = .ok (.goto 4, 3) := by decide +kernel
theorem dX7_isSpace_6 : decode cX7_isSpace 6 = .ok (.iload_n 0, 1) := by decide +kernel
theorem dX7_isSpace_7 : decode cX7_isSpace 7 = .ok (.bipush 9, 2) := by decide +kernel
theorem dX7_isSpace_9 : decode cX7_isSpace 9 = .ok (.if_icmp .ne 7, 3) := by decide +kernel
theorem dX7_isSpace_16 : decode cX7_isSpace 16 = .ok (.iconst 0, 1) := by decide +kernel
theorem dX7_openBody_0 : decode cX7_openBody 0 = .ok (.iconst 0, 1) := by decide +kernel
theorem dX7_openBody_1 : decode cX7_openBody 1 = .ok (.istore 6, 2) := by decide +kernel
theorem dX7_openBody_3 : decode cX7_openBody 3 = .ok (.iload_n 1, 1) := by decide +kernel
theorem dX7_openBody_4 : decode cX7_openBody 4 = .ok (.istore 7, 2) := by decide +kernel
theorem dX7_openBody_6 : decode cX7_openBody 6 = .ok (.iload 7, 2) := by decide +kernel
theorem dX7_openBody_8 : decode cX7_openBody 8 = .ok (.iload_n 2, 1) := by decide +kernel
theorem dX7_openBody_9 : decode cX7_openBody 9 = .ok (.if_icmp .ge 95, 3) := by decide +kernel
theorem dX7_openBody_104 : decode cX7_openBody 104 = .ok (.aload_n 0, 1) := by decide +kernel
theorem dX7_openBody_105 : decode cX7_openBody 105 = .ok (.getfield 22, 3) := by decide +kernel
theorem dX7_openBody_108 : decode cX7_openBody 108 = .ok (.iload 6, 2) := by decide +kernel
theorem dX7_openBody_110 : decode cX7_openBody 110 = .ok (.iload 4, 2) := by decide +kernel
theorem dX7_openBody_112 : decode cX7_openBody 112 = .ok (.invokestatic 63, 3) := by decide +kernel
theorem dX7_openBody_115 : decode cX7_openBody 115 = .ok (.aload_n 0, 1) := by decide +kernel
theorem dX7_openBody_116 : decode cX7_openBody 116 = .ok (.aload_n 0, 1) := by decide +kernel
theorem dX7_openBody_117 : decode cX7_openBody 117 = .ok (.getfield 19, 3) := by decide +kernel
theorem dX7_openBody_120 : decode cX7_openBody 120 = .ok (.putfield 9, 3) := by decide +kernel
theorem dX7_openBody_123 : decode cX7_openBody 123 = .ok (.aload_n 0, 1) := by decide +kernel
theorem dX7_openBody_124 : decode cX7_openBody 124 = .ok (.iload 6, 2) := by decide +kernel
theorem dX7_openBody_126 : decode cX7_openBody 126 = .ok (.putfield 26, 3) := by decide +kernel
theorem dX7_openBody_129 : decode cX7_openBody 129 = .ok (.aload_n 0, 1) := by decide +kernel
theorem dX7_openBody_130 : decode cX7_openBody 130 = .ok (.iconst 0, 1) := by decide +kernel
theorem dX7_openBody_131 : decode cX7_openBody 131 = .ok (.putfield 30, 3) := by decide +kernel
theorem dX7_openBody_134 : decode cX7_openBody 134 = .ok (.aload_n 0, 1) := by decide +kernel
theorem dX7_openBody_135 : decode cX7_openBody 135 = .ok (.iconst 0, 1) := by decide +kernel
theorem dX7_openBody_136 : decode cX7_openBody 136 = .ok (.putfield 15, 3) := by decide +kernel
theorem dX7_openBody_139 : decode cX7_openBody 139 = .ok (.aload_n 0, 1) := by decide +kernel
theorem dX7_openBody_140 : decode cX7_openBody 140 = .ok (.iload 5, 2) := by decide +kernel
theorem dX7_openBody_142 : decode cX7_openBody 142 = .ok (.putfield 48, 3) := by decide +kernel
theorem dX7_openBody_145 : decode cX7_openBody 145 = .ok (.return_, 1) := by decide +kernel
theorem dX7_openBody_12 : decode cX7_openBody 12 = .ok (.iload 6, 2) := by decide +kernel
theorem dX7_openBody_14 : decode cX7_openBody 14 = .ok (.sipush 4000, 3) := by decide +kernel
theorem dX7_openBody_17 : decode cX7_openBody 17 = .ok (.if_icmp .ge 87, 3) := by decide +kernel
theorem dX7_openBody_20 : decode cX7_openBody 20 = .ok (.aload_n 0, 1) := by decide +kernel
theorem dX7_openBody_21 : decode cX7_openBody 21 = .ok (.getfield 42, 3) := by decide +kernel
theorem dX7_openBody_24 : decode cX7_openBody 24 = .ok (.iload 7, 2) := by decide +kernel
theorem dX7_openBody_26 : decode cX7_openBody 26 = .ok (.invokestatic 51, 3) := by decide +kernel
theorem dX7_openBody_29 : decode cX7_openBody 29 = .ok (.istore 8, 2) := by decide +kernel
theorem dX7_openBody_31 : decode cX7_openBody 31 = .ok (.iload_n 3, 1) := by decide +kernel
theorem dX7_openBody_32 : decode cX7_openBody 32 = .ok (.ifCond .eq 41, 3) := by decide +kernel
theorem dX7_openBody_98 : decode cX7_openBody 98 = .ok (.iinc 7 1, 3) := by decide +kernel
theorem dX7_openBody_101 : decode cX7_openBody 101 = .ok (.goto (-95), 3) := by decide +kernel
theorem dX10_define_0 : decode cX10_define 0 = .ok (.aload_n 0, 1) := by decide +kernel
theorem dX10_define_1 : decode cX10_define 1 = .ok (.iload_n 1, 1) := by decide +kernel
theorem dX10_define_2 : decode cX10_define 2 = .ok (.putfield 18, 3) := by decide +kernel
theorem dX10_define_5 : decode cX10_define 5 = .ok (.aload_n 0, 1) := by decide +kernel
theorem dX10_define_6 : decode cX10_define 6 = .ok (.iload_n 2, 1) := by decide +kernel
theorem dX10_define_7 : decode cX10_define 7 = .ok (.putfield 21, 3) := by decide +kernel
theorem dX10_define_10 : decode cX10_define 10 = .ok (.aload_n 0, 1) := by decide +kernel
theorem dX10_define_11 : decode cX10_define 11 = .ok (.iload_n 3, 1) := by decide +kernel
theorem dX10_define_12 : decode cX10_define 12 = .ok (.putfield 24, 3) := by decide +kernel
theorem dX10_define_15 : decode cX10_define 15 = .ok (.aload_n 0, 1) := by decide +kernel
theorem dX10_define_16 : decode cX10_define 16 = .ok (.aload_n 0, 1) := by decide +kernel
theorem dX10_define_17 : decode cX10_define 17 = .ok (.getfield 62, 3) := by decide +kernel
theorem dX10_define_20 : decode cX10_define 20 = .ok (.getfield 66, 3) := by decide +kernel
theorem dX10_define_23 : decode cX10_define 23 = .ok (.putfield 27, 3) := by decide +kernel
theorem dX10_define_26 : decode cX10_define 26 = .ok (.return_, 1) := by decide +kernel
theorem dX2_emit_0 : decode cX2_emit 0 = .ok (.aload_n 0, 1) := by decide +kernel
theorem dX2_emit_1 : decode cX2_emit 1 = .ok (.getfield 30, 3) := by decide +kernel
theorem dX2_emit_4 : decode cX2_emit 4 = .ok (.ifCond .lt 35, 3) := by decide +kernel
theorem dX2_emit_39 : decode cX2_emit 39 = .ok (.return_, 1) := by decide +kernel
theorem dX2_emit_7 : decode cX2_emit 7 = .ok (.aload_n 0, 1) := by decide +kernel
theorem dX2_emit_8 : decode cX2_emit 8 = .ok (.getfield 30, 3) := by decide +kernel
theorem dX2_emit_11 : decode cX2_emit 11 = .ok (.aload_n 0, 1) := by decide +kernel
theorem dX2_emit_12 : decode cX2_emit 12 = .ok (.getfield 26, 3) := by decide +kernel
theorem dX2_emit_15 : decode cX2_emit 15 = .ok (.arraylength, 1) := by decide +kernel
theorem dX2_emit_16 : decode cX2_emit 16 = .ok (.if_icmp .ge 23, 3) := by decide +kernel
theorem dX2_emit_19 : decode cX2_emit 19 = .ok (.aload_n 0, 1) := by decide +kernel
theorem dX2_emit_20 : decode cX2_emit 20 = .ok (.getfield 26, 3) := by decide +kernel
theorem dX2_emit_23 : decode cX2_emit 23 = .ok (.aload_n 0, 1) := by decide +kernel
theorem dX2_emit_24 : decode cX2_emit 24 = .ok (.getfield 30, 3) := by decide +kernel
theorem dX2_emit_27 : decode cX2_emit 27 = .ok (.iload_n 1, 1) := by decide +kernel
theorem dX2_emit_28 : decode cX2_emit 28 = .ok (.iastore, 1) := by decide +kernel
theorem dX2_emit_29 : decode cX2_emit 29 = .ok (.aload_n 0, 1) := by decide +kernel
theorem dX2_emit_30 : decode cX2_emit 30 = .ok (.dup, 1) := by decide +kernel
theorem dX2_emit_31 : decode cX2_emit 31 = .ok (.getfield 30, 3) := by decide +kernel
theorem dX2_emit_34 : decode cX2_emit 34 = .ok (.iconst 1, 1) := by decide +kernel
theorem dX2_emit_35 : decode cX2_emit 35 = .ok (.iadd, 1) := by decide +kernel
theorem dX2_emit_36 : decode cX2_emit 36 = .ok (.putfield 30, 3) := by decide +kernel
theorem dX2_emit___0 : decode cX2_emit__ 0 = .ok (.aload_n 0, 1) := by decide +kernel
theorem dX2_emit___1 : decode cX2_emit__ 1 = .ok (.iload_n 1, 1) := by decide +kernel
theorem dX2_emit___2 : decode cX2_emit__ 2 = .ok (.invokevirtual 88, 3) := by decide +kernel
theorem dX2_emit___5 : decode cX2_emit__ 5 = .ok (.aload_n 0, 1) := by decide +kernel
theorem dX2_emit___6 : decode cX2_emit__ 6 = .ok (.iload_n 2, 1) := by decide +kernel
theorem dX2_emit___7 : decode cX2_emit__ 7 = .ok (.invokevirtual 88, 3) := by decide +kernel
theorem dX2_emit___10 : decode cX2_emit__ 10 = .ok (.aload_n 0, 1) := by decide +kernel
theorem dX2_emit___11 : decode cX2_emit__ 11 = .ok (.iload_n 3, 1) := by decide +kernel
theorem dX2_emit___12 : decode cX2_emit__ 12 = .ok (.invokevirtual 88, 3) := by decide +kernel
theorem dX2_emit___15 : decode cX2_emit__ 15 = .ok (.return_, 1) := by decide +kernel
theorem dX1_checkParam_0 : decode cX1_checkParam 0 = .ok (.iconst 0, 1) := by decide +kernel
theorem dX1_checkParam_1 : decode cX1_checkParam 1 = .ok (.istore 4, 2) := by decide +kernel
theorem dX1_checkParam_3 : decode cX1_checkParam 3 = .ok (.iload 4, 2) := by decide +kernel
theorem dX1_checkParam_5 : decode cX1_checkParam 5 = .ok (.aload_n 0, 1) := by decide +kernel
theorem dX1_checkParam_6 : decode cX1_checkParam 6 = .ok (.getfield 18, 3) := by decide +kernel
theorem dX1_checkParam_9 : decode cX1_checkParam 9 = .ok (.if_icmp .ge 31, 3) := by decide +kernel
theorem dX1_checkParam_40 : decode cX1_checkParam 40 = .ok (.iload_n 3, 1) := by decide +kernel
theorem dX1_checkParam_41 : decode cX1_checkParam 41 = .ok (.ifCond .eq 12, 3) := by decide +kernel
theorem dX1_checkParam_53 : decode cX1_checkParam 53 = .ok (.aload_n 0, 1) := by decide +kernel
theorem dX1_checkParam_54 : decode cX1_checkParam 54 = .ok (.getfield 18, 3) := by decide +kernel
theorem dX1_checkParam_57 : decode cX1_checkParam 57 = .ok (.bipush 12, 2) := by decide +kernel
theorem dX1_checkParam_59 : decode cX1_checkParam 59 = .ok (.if_icmp .lt 12, 3) := by decide +kernel
theorem dX1_checkParam_71 : decode cX1_checkParam 71 = .ok (.return_, 1) := by decide +kernel
theorem dX1_checkParam_62 : decode cX1_checkParam 62 = .ok (.aload_n 0, 1) := by decide +kernel
theorem dX1_checkParam_63 : decode cX1_checkParam 63 = .ok (.getfield 68, 3) := by decide +kernel
theorem dX1_checkParam_66 : decode cX1_checkParam 66 = .ok (.iconst 4, 1) := by decide +kernel
theorem dX1_checkParam_67 : decode cX1_checkParam 67 = .ok (.iload_n 2, 1) := by decide +kernel
theorem dX1_checkParam_68 : decode cX1_checkParam 68 = .ok (.invokevirtual 168, 3) := by decide +kernel
theorem dX1_checkParam_44 : decode cX1_checkParam 44 = .ok (.aload_n 0, 1) := by decide +kernel
theorem dX1_checkParam_45 : decode cX1_checkParam 45 = .ok (.getfield 68, 3) := by decide +kernel
theorem dX1_checkParam_48 : decode cX1_checkParam 48 = .ok (.iconst 3, 1) := by decide +kernel
theorem dX1_checkParam_49 : decode cX1_checkParam 49 = .ok (.iload_n 2, 1) := by decide +kernel
theorem dX1_checkParam_50 : decode cX1_checkParam 50 = .ok (.invokevirtual 168, 3) := by decide +kernel
theorem dX1_checkParam_12 : decode cX1_checkParam 12 = .ok (.aload_n 0, 1) := by decide +kernel
theorem dX1_checkParam_13 : decode cX1_checkParam 13 = .ok (.getfield 9, 3) := by decide +kernel
theorem dX1_checkParam_16 : decode cX1_checkParam 16 = .ok (.iload 4, 2) := by decide +kernel
theorem dX1_checkParam_18 : decode cX1_checkParam 18 = .ok (.invokestatic 101, 3) := by decide +kernel
theorem dX1_checkParam_21 : decode cX1_checkParam 21 = .ok (.iload_n 1, 1) := by decide +kernel
theorem dX1_checkParam_22 : decode cX1_checkParam 22 = .ok (.if_icmp .ne 12, 3) := by decide +kernel
theorem dX1_checkParam_34 : decode cX1_checkParam 34 = .ok (.iinc 4 1, 3) := by decide +kernel
theorem dX1_checkParam_37 : decode cX1_checkParam 37 = .ok (.goto (-34), 3) := by decide +kernel
theorem dX1_checkParam_25 : decode cX1_checkParam 25 = .ok (.aload_n 0, 1) := by decide +kernel
theorem dX1_checkParam_26 : decode cX1_checkParam 26 = .ok (.getfield 68, 3) := by decide +kernel
theorem dX1_checkParam_29 : decode cX1_checkParam 29 = .ok (.iconst 3, 1) := by decide +kernel
theorem dX1_checkParam_30 : decode cX1_checkParam 30 = .ok (.iload_n 2, 1) := by decide +kernel
theorem dX1_checkParam_31 : decode cX1_checkParam 31 = .ok (.invokevirtual 168, 3) := by decide +kernel
theorem dX2_stringFrom_0 : decode cX2_stringFrom 0 = .ok (.ldc 92, 2) := by decide +kernel
theorem dX2_stringFrom_2 : decode cX2_stringFrom 2 = .ok (.iload_n 1, 1) := by decide +kernel
theorem dX2_stringFrom_3 : decode cX2_stringFrom 3 = .ok (.bipush 12, 2) := by decide +kernel
theorem dX2_stringFrom_5 : decode cX2_stringFrom 5 = .ok (.ishl, 1) := by decide +kernel
theorem dX2_stringFrom_6 : decode cX2_stringFrom 6 = .ok (.ior, 1) := by decide +kernel
theorem dX2_stringFrom_7 : decode cX2_stringFrom 7 = .ok (.aload_n 0, 1) := by decide +kernel
theorem dX2_stringFrom_8 : decode cX2_stringFrom 8 = .ok (.getfield 41, 3) := by decide +kernel
theorem dX2_stringFrom_11 : decode cX2_stringFrom 11 = .ok (.iload_n 1, 1) := by decide +kernel
theorem dX2_stringFrom_12 : decode cX2_stringFrom 12 = .ok (.isub, 1) := by decide +kernel
theorem dX2_stringFrom_13 : decode cX2_stringFrom 13 = .ok (.ior, 1) := by decide +kernel
theorem dX2_stringFrom_14 : decode cX2_stringFrom 14 = .ok (.ireturn, 1) := by decide +kernel
theorem dX7_string_0 : decode cX7_string 0 = .ok (.aload_n 1, 1) := by decide +kernel
theorem dX7_string_1 : decode cX7_string 1 = .ok (.getfield 128, 3) := by decide +kernel
theorem dX7_string_4 : decode cX7_string 4 = .ok (.istore_n 3, 1) := by decide +kernel
theorem dX7_string_5 : decode cX7_string 5 = .ok (.aload_n 0, 1) := by decide +kernel
theorem dX7_string_6 : decode cX7_string 6 = .ok (.getfield 30, 3) := by decide +kernel
theorem dX7_string_9 : decode cX7_string 9 = .ok (.iconst 1, 1) := by decide +kernel
theorem dX7_string_10 : decode cX7_string 10 = .ok (.iadd, 1) := by decide +kernel
theorem dX7_string_11 : decode cX7_string 11 = .ok (.istore 4, 2) := by decide +kernel
theorem dX7_string_13 : decode cX7_string 13 = .ok (.iload 4, 2) := by decide +kernel
theorem dX7_string_15 : decode cX7_string 15 = .ok (.iload_n 2, 1) := by decide +kernel
theorem dX7_string_16 : decode cX7_string 16 = .ok (.if_icmp .ge 82, 3) := by decide +kernel
theorem dX7_string_98 : decode cX7_string 98 = .ok (.aload_n 0, 1) := by decide +kernel
theorem dX7_string_99 : decode cX7_string 99 = .ok (.iload_n 2, 1) := by decide +kernel
theorem dX7_string_100 : decode cX7_string 100 = .ok (.iconst 1, 1) := by decide +kernel
theorem dX7_string_101 : decode cX7_string 101 = .ok (.iadd, 1) := by decide +kernel
theorem dX7_string_102 : decode cX7_string 102 = .ok (.putfield 30, 3) := by decide +kernel
theorem dX7_string_105 : decode cX7_string 105 = .ok (.aload_n 1, 1) := by decide +kernel
theorem dX7_string_106 : decode cX7_string 106 = .ok (.iload_n 3, 1) := by decide +kernel
theorem dX7_string_107 : decode cX7_string 107 = .ok (.invokevirtual 136, 3) := by decide +kernel
theorem dX7_string_110 : decode cX7_string 110 = .ok (.ireturn, 1) := by decide +kernel
theorem dX7_string_19 : decode cX7_string 19 = .ok (.aload_n 0, 1) := by decide +kernel
theorem dX7_string_20 : decode cX7_string 20 = .ok (.iload 4, 2) := by decide +kernel
theorem dX7_string_22 : decode cX7_string 22 = .ok (.invokevirtual 122, 3) := by decide +kernel
theorem dX7_string_25 : decode cX7_string 25 = .ok (.istore 5, 2) := by decide +kernel
theorem dX7_string_27 : decode cX7_string 27 = .ok (.iload 5, 2) := by decide +kernel
theorem dX7_string_29 : decode cX7_string 29 = .ok (.bipush 92, 2) := by decide +kernel
theorem dX7_string_31 : decode cX7_string 31 = .ok (.if_icmp .ne 54, 3) := by decide +kernel
theorem dX7_string_85 : decode cX7_string 85 = .ok (.aload_n 1, 1) := by decide +kernel
theorem dX7_string_86 : decode cX7_string 86 = .ok (.iload 5, 2) := by decide +kernel
theorem dX7_string_88 : decode cX7_string 88 = .ok (.iconst 0, 1) := by decide +kernel
theorem dX7_string_89 : decode cX7_string 89 = .ok (.invokevirtual 133, 3) := by decide +kernel
theorem dX7_string_92 : decode cX7_string 92 = .ok (.iinc 4 1, 3) := by decide +kernel
theorem dX7_string_95 : decode cX7_string 95 = .ok (.goto (-82), 3) := by decide +kernel
theorem dX10_startConstant_0 : decode cX10_startConstant 0 = .ok (.aload_n 0, 1) := by decide +kernel
theorem dX10_startConstant_1 : decode cX10_startConstant 1 = .ok (.iconst 2, 1) := by decide +kernel
theorem dX10_startConstant_2 : decode cX10_startConstant 2 = .ok (.iconst (-1), 1) := by decide +kernel
theorem dX10_startConstant_3 : decode cX10_startConstant 3 = .ok (.iconst (-1), 1) := by decide +kernel
theorem dX10_startConstant_4 : decode cX10_startConstant 4 = .ok (.invokevirtual 71, 3) := by decide +kernel
theorem dX10_startConstant_7 : decode cX10_startConstant 7 = .ok (.aload_n 0, 1) := by decide +kernel
theorem dX10_startConstant_8 : decode cX10_startConstant 8 = .ok (.iconst 0, 1) := by decide +kernel
theorem dX10_startConstant_9 : decode cX10_startConstant 9 = .ok (.putfield 30, 3) := by decide +kernel
theorem dX10_startConstant_12 : decode cX10_startConstant 12 = .ok (.return_, 1) := by decide +kernel
theorem dX7_blanksEnd_0 : decode cX7_blanksEnd 0 = .ok (.iload_n 1, 1) := by decide +kernel
theorem dX7_blanksEnd_1 : decode cX7_blanksEnd 1 = .ok (.istore_n 2, 1) := by decide +kernel
theorem dX7_blanksEnd_2 : decode cX7_blanksEnd 2 = .ok (.iload_n 2, 1) := by decide +kernel
theorem dX7_blanksEnd_3 : decode cX7_blanksEnd 3 = .ok (.ifCond .lt 59, 3) := by decide +kernel
theorem dX7_blanksEnd_62 : decode cX7_blanksEnd 62 = .ok (.iload_n 2, 1) := by decide +kernel
theorem dX7_blanksEnd_63 : decode cX7_blanksEnd 63 = .ok (.ireturn, 1) := by decide +kernel
theorem dX7_blanksEnd_6 : decode cX7_blanksEnd 6 = .ok (.iload_n 2, 1) := by decide +kernel
theorem dX7_blanksEnd_7 : decode cX7_blanksEnd 7 = .ok (.aload_n 0, 1) := by decide +kernel
theorem dX7_blanksEnd_8 : decode cX7_blanksEnd 8 = .ok (.getfield 26, 3) := by decide +kernel
theorem dX7_blanksEnd_11 : decode cX7_blanksEnd 11 = .ok (.if_icmp .ge 51, 3) := by decide +kernel
theorem dX7_blanksEnd_14 : decode cX7_blanksEnd 14 = .ok (.iload_n 2, 1) := by decide +kernel
theorem dX7_blanksEnd_15 : decode cX7_blanksEnd 15 = .ok (.aload_n 0, 1) := by decide +kernel
theorem dX7_blanksEnd_16 : decode cX7_blanksEnd 16 = .ok (.getfield 9, 3) := by decide +kernel
theorem dX7_blanksEnd_19 : decode cX7_blanksEnd 19 = .ok (.arraylength, 1) := by decide +kernel
theorem dX7_blanksEnd_20 : decode cX7_blanksEnd 20 = .ok (.if_icmp .ge 42, 3) := by decide +kernel
theorem dX7_blanksEnd_23 : decode cX7_blanksEnd 23 = .ok (.aload_n 0, 1) := by decide +kernel
theorem dX7_blanksEnd_24 : decode cX7_blanksEnd 24 = .ok (.getfield 9, 3) := by decide +kernel
theorem dX7_blanksEnd_27 : decode cX7_blanksEnd 27 = .ok (.iload_n 2, 1) := by decide +kernel
theorem dX7_blanksEnd_28 : decode cX7_blanksEnd 28 = .ok (.baload, 1) := by decide +kernel
theorem dX7_blanksEnd_29 : decode cX7_blanksEnd 29 = .ok (.bipush 32, 2) := by decide +kernel
theorem dX7_blanksEnd_31 : decode cX7_blanksEnd 31 = .ok (.if_icmp .eq 25, 3) := by decide +kernel
theorem dX7_blanksEnd_56 : decode cX7_blanksEnd 56 = .ok (.iinc 2 1, 3) := by decide +kernel
theorem dX7_blanksEnd_59 : decode cX7_blanksEnd 59 = .ok (.goto (-57), 3) := by decide +kernel
theorem dX7_blanksEnd_34 : decode cX7_blanksEnd 34 = .ok (.aload_n 0, 1) := by decide +kernel
theorem dX7_blanksEnd_35 : decode cX7_blanksEnd 35 = .ok (.getfield 9, 3) := by decide +kernel
theorem dX7_blanksEnd_38 : decode cX7_blanksEnd 38 = .ok (.iload_n 2, 1) := by decide +kernel
theorem dX7_blanksEnd_39 : decode cX7_blanksEnd 39 = .ok (.baload, 1) := by decide +kernel
theorem dX7_blanksEnd_40 : decode cX7_blanksEnd 40 = .ok (.bipush 9, 2) := by decide +kernel
theorem dX7_blanksEnd_42 : decode cX7_blanksEnd 42 = .ok (.if_icmp .eq 14, 3) := by decide +kernel
theorem dX7_blanksEnd_45 : decode cX7_blanksEnd 45 = .ok (.aload_n 0, 1) := by decide +kernel
theorem dX7_blanksEnd_46 : decode cX7_blanksEnd 46 = .ok (.getfield 9, 3) := by decide +kernel
theorem dX7_blanksEnd_49 : decode cX7_blanksEnd 49 = .ok (.iload_n 2, 1) := by decide +kernel
theorem dX7_blanksEnd_50 : decode cX7_blanksEnd 50 = .ok (.baload, 1) := by decide +kernel
theorem dX7_blanksEnd_51 : decode cX7_blanksEnd 51 = .ok (.bipush 10, 2) := by decide +kernel
theorem dX7_blanksEnd_53 : decode cX7_blanksEnd 53 = .ok (.if_icmp .ne 9, 3) := by decide +kernel
theorem atg_X7_69 : ∀ w ∈ (vx_at0 "TemplateHouse$Source" 69 "java/lang/IllegalStateException" exn).filter goodWord, w ∈ zT := fun w hw => List.mem_filter.mpr ⟨(show ∀ w ∈ (vx_at0 "TemplateHouse$Source" 69 "java/lang/IllegalStateException" exn).filter goodWord, w ∈ lw_tbl by decide +kernel) w hw, (List.mem_filter.mp hw).2⟩
theorem atb_X7_69 : ∀ w ∈ (vx_at0 "TemplateHouse$Source" 69 "java/lang/IllegalStateException" exn).filter (fun w => !goodWord w), w ∈ zNest := by decide +kernel
theorem ato_X7_69 : ∀ w ∈ vx_at0 "TemplateHouse$Source" 69 "java/lang/IllegalStateException" exn, vx_ot w = true := by decide +kernel
set_option maxRecDepth 20000 in
theorem kX12_setByte (l : Launch) (G : zG) (T : tT) (κ : Nat → List Nat) (hst : l.stackTraces = false) (hE : tE G T κ) {a0 : Nat} (h0 : a0 ∈ κ 21) {x1 : Int32} {x2 : Int32} : tMv l G T yX12_setByte cX12_setByte 3 [] 0 0 0 0 [.ref a0, .int x1, .int x2] uT (uPv 0x0) := by
  refine tMv.intro hst rfl (Nat.le_of_ble_eq_true rfl) ?_
  intro w0 hw0 _ X hC hR hO hX
  refine z_iload_n hC (pc := 0) 1 dX12_setByte_0 rfl rfl ?_
  have j15 : ∀ (w5 : va_W), tW T w5 → tKeep 0x0 w0 w5 → zS X G 3 w5 [] 0 0 15 [] := by
    intro w5 hw5 kw5
    exact hR _ _ _ _ _ dX12_setByte_15 (Nat.le_of_ble_eq_true rfl) (Nat.le_of_ble_eq_true rfl) ⟨hw5, rfl, rfl, (tKeep.tr tKeep.rf kw5 rfl)⟩
  refine z_if_lt hC (pc := 1) 15 dX12_setByte_1 (by decide) (fun c6 => ?_) (fun c6 => ?_)
  · refine z_lvs [] rfl ?_
    exact j15 w0 hw0 tKeep.rf
  · refine z_iload_n hC (pc := 4) 1 dX12_setByte_4 rfl rfl ?_
    refine z_aload_n hC (pc := 5) 0 dX12_setByte_5 rfl rfl ?_
    obtain ⟨N7, hN7, AN7⟩ := hE.byts h0
    refine u_alenB hC hw0 (pc := 6) (Or.inl AN7) dX12_setByte_6 ?_
    refine z_icmp_ge hC (pc := 7) 15 dX12_setByte_7 (by decide) (fun c8 => ?_) (fun c8 => ?_)
    · refine z_lvs [] rfl ?_
      exact j15 w0 hw0 tKeep.rf
    · refine z_aload_n hC (pc := 10) 0 dX12_setByte_10 rfl rfl ?_
      refine z_iload_n hC (pc := 11) 1 dX12_setByte_11 rfl rfl ?_
      refine z_iload_n hC (pc := 12) 2 dX12_setByte_12 rfl rfl ?_
      refine z_i2b hC (pc := 13) (v := (x2 : Int32).toInt8.toInt32) dX12_setByte_13 rfl ?_
      generalize (x2 : Int32).toInt8.toInt32 = x9
      refine u_bast hC hw0 (pc := 14) AN7 dX12_setByte_14 (t_inB hN7 c6 c8) trivial (fun w10 hw10 kw10 => ?_)
      refine z_lvs [] rfl ?_
      exact j15 w10 hw10 (tKeep.tr tKeep.rf kw10 rfl)
set_option maxRecDepth 20000 in
theorem kX12_fourReady (l : Launch) (G : zG) (T : tT) (κ : Nat → List Nat) (hst : l.stackTraces = false) (hE : tE G T κ) {a0 : Nat} (h0 : a0 ∈ κ 12) {x1 : Int32} {x2 : Int32} : tMv l G T yX12_fourReady cX12_fourReady 4 [] 1 22 0 0 [.ref a0, .int x1, .int x2] uT (uPv 0x0) := by
  refine tMv.intro hst rfl (Nat.le_of_ble_eq_true rfl) ?_
  intro w0 hw0 _ X hC hR hO hX
  refine z_iconst hC (pc := 0) (v := 0) dX12_fourReady_0 (by decide) ?_
  refine z_istore_n hC (pc := 1) (lv' := [(3, .int 0), (0, .ref a0), (1, .int x1), (2, .int x2)]) dX12_fourReady_1 rfl (by decide) rfl ?_
  have j2 : ∀ (d2 : Nat), ∀ (w5 : va_W), tW T w5 → tKeep 0x0 w0 w5 → ∀ (x6 : Int32), ¬ x6 < 0 → (2 ^ 31 - (x6 : Int32).toInt).toNat ≤ d2 → zS X G 4 w5 [(0, .ref a0), (1, .int x1), (2, .int x2), (3, .int x6)] 0 0 2 [] := by
    intro d2
    induction d2 with
    | zero => intro w5 hw5 kw5 x6 v7 hd2; exact (t_zero hd2).elim
    | succ d2 ih2 =>
      intro w5 hw5 kw5 x6 v7 hd2
      refine z_iload_n hC (pc := 2) 3 dX12_fourReady_2 rfl rfl ?_
      refine z_iconst hC (pc := 3) (v := 4) dX12_fourReady_3 (by decide) ?_
      refine z_icmp_ge hC (pc := 4) 32 dX12_fourReady_4 (by decide) (fun c8 => ?_) (fun c8 => ?_)
      · exact hR _ _ _ _ _ dX12_fourReady_32 (Nat.le_of_ble_eq_true rfl) (Nat.le_of_ble_eq_true rfl) ⟨hw5, rfl, rfl, (tKeep.tr tKeep.rf kw5 rfl)⟩
      · refine z_aload_n hC (pc := 7) 0 dX12_fourReady_7 rfl rfl ?_
        refine u_get hC hw5 (pc := 8) zf12 0 (hE.o12 h0) rfl dX12_fourReady_8 zw708 (kk := fun va9 ta9 fa9 => ?_)
        obtain ⟨a9, ma9, rfl⟩ := ta9
        refine z_iload_n hC (pc := 11) 1 dX12_fourReady_11 rfl rfl ?_
        refine z_iload_n hC (pc := 12) 3 dX12_fourReady_12 rfl rfl ?_
        refine z_iadd hC (pc := 13) (v := (x1 + x6)) dX12_fourReady_13 rfl ?_
        refine z_iload_n hC (pc := 14) 2 dX12_fourReady_14 rfl rfl ?_
        refine z_bipush hC (pc := 15) (v := 24) dX12_fourReady_15 (by decide) ?_
        refine z_bipush hC (pc := 17) (v := 8) dX12_fourReady_17 (by decide) ?_
        refine z_iload_n hC (pc := 19) 3 dX12_fourReady_19 rfl rfl ?_
        refine z_imul hC (pc := 20) (v := ((8 : Int32) * x6)) dX12_fourReady_20 rfl ?_
        refine z_isub hC (pc := 21) (v := ((24 : Int32) - ((8 : Int32) * x6))) dX12_fourReady_21 rfl ?_
        refine z_iushr hC (pc := 22) (v := ((x2 : Int32).toUInt32 >>> ((((24 : Int32) - ((8 : Int32) * x6)) : Int32).toUInt32 &&& Int32.toUInt32 31)).toInt32) dX12_fourReady_22 rfl ?_
        refine t_callSv hC hw5 (pc := 23) (As := [.ref a9, .int (x1 + x6), .int (((x2 : Int32).toUInt32 >>> ((((24 : Int32) - ((8 : Int32) * x6)) : Int32).toUInt32 &&& Int32.toUInt32 31)).toInt32)]) (kX12_setByte l G T κ hst hE ma9) trivial dmX12_setByte dX12_fourReady_23 zw774 rfl rfl (Nat.le_of_ble_eq_true rfl) (Nat.le_of_ble_eq_true rfl) (Nat.le_of_ble_eq_true rfl) (Nat.le_of_ble_eq_true rfl) (Nat.le_of_ble_eq_true rfl) (fun _ _ _ h => nomatch h) (fun cw10 nw10 w10 hw10 pw10 => ?_)
        obtain ⟨rfl, rfl, kw10⟩ := pw10
        refine z_iinc hC (pc := 26) (v := (x6 + 1)) (lv' := [(3, .int (x6 + 1)), (0, .ref a0), (1, .int x1), (2, .int x2)]) 3 dX12_fourReady_26 rfl (congrArg _ (by decide)) (by decide) rfl ?_
        refine z_goto hC (pc := 29) 2 dX12_fourReady_29 (by decide) ?_
        refine z_lvs [1, 2, 3, 0] rfl ?_
        exact ih2 w10 hw10 (tKeep.tr (tKeep.tr tKeep.rf kw5 rfl) kw10 rfl) (x6 + 1) (t_nnI v7 (Int32.not_le.mp c8)) (t_up (Int32.not_le.mp c8) hd2)
  refine z_lvs [1, 2, 3, 0] rfl ?_
  exact j2 _ w0 hw0 tKeep.rf 0 (by decide) (Nat.le_refl _)
set_option maxRecDepth 20000 in
theorem kX12_feed (l : Launch) (G : zG) (T : tT) (κ : Nat → List Nat) (hst : l.stackTraces = false) (hE : tE G T κ) {a0 : Nat} (h0 : a0 ∈ κ 12) {x1 : Int32} {x2 : Int32} {x3 : Int32} {x4 : Int32} {x5 : Int32} : tMv l G T yX12_feed cX12_feed 6 [] 2 45 0 0 [.ref a0, .int x1, .int x2, .int x3, .int x4, .int x5] uT (uPv 0x0) := by
  refine tMv.intro hst rfl (Nat.le_of_ble_eq_true rfl) ?_
  intro w0 hw0 _ X hC hR hO hX
  refine z_aload_n hC (pc := 0) 0 dX12_feed_0 rfl rfl ?_
  refine z_iconst hC (pc := 1) (v := 0) dX12_feed_1 (by decide) ?_
  refine z_iload_n hC (pc := 2) 1 dX12_feed_2 rfl rfl ?_
  obtain ⟨q8, hqq8⟩ := hE.o12 h0
  refine t_callVv hC hw0 (pc := 3) (As := [.int 0, .int x1]) (kX12_fourReady l G T κ hst hE h0) trivial dmX12_fourReady zf12 hqq8 dX12_feed_3 zw770 rfl rfl (Nat.le_of_ble_eq_true rfl) (Nat.le_of_ble_eq_true rfl) (Nat.le_of_ble_eq_true rfl) (Nat.le_of_ble_eq_true rfl) (Nat.le_of_ble_eq_true rfl) (fun _ _ _ h => nomatch h) (fun cw9 nw9 w9 hw9 pw9 => ?_)
  obtain ⟨rfl, rfl, kw9⟩ := pw9
  refine z_aload_n hC (pc := 6) 0 dX12_feed_6 rfl rfl ?_
  refine z_iconst hC (pc := 7) (v := 4) dX12_feed_7 (by decide) ?_
  refine z_iload_n hC (pc := 8) 2 dX12_feed_8 rfl rfl ?_
  refine t_callVv hC hw9 (pc := 9) (As := [.int 4, .int x2]) (kX12_fourReady l G T κ hst hE h0) trivial dmX12_fourReady zf12 hqq8 dX12_feed_9 zw770 rfl rfl (Nat.le_of_ble_eq_true rfl) (Nat.le_of_ble_eq_true rfl) (Nat.le_of_ble_eq_true rfl) (Nat.le_of_ble_eq_true rfl) (Nat.le_of_ble_eq_true rfl) (fun _ _ _ h => nomatch h) (fun cw11 nw11 w11 hw11 pw11 => ?_)
  obtain ⟨rfl, rfl, kw11⟩ := pw11
  refine z_aload_n hC (pc := 12) 0 dX12_feed_12 rfl rfl ?_
  refine z_bipush hC (pc := 13) (v := 8) dX12_feed_13 (by decide) ?_
  refine z_iload_n hC (pc := 15) 3 dX12_feed_15 rfl rfl ?_
  refine t_callVv hC hw11 (pc := 16) (As := [.int 8, .int x3]) (kX12_fourReady l G T κ hst hE h0) trivial dmX12_fourReady zf12 hqq8 dX12_feed_16 zw770 rfl rfl (Nat.le_of_ble_eq_true rfl) (Nat.le_of_ble_eq_true rfl) (Nat.le_of_ble_eq_true rfl) (Nat.le_of_ble_eq_true rfl) (Nat.le_of_ble_eq_true rfl) (fun _ _ _ h => nomatch h) (fun cw13 nw13 w13 hw13 pw13 => ?_)
  obtain ⟨rfl, rfl, kw13⟩ := pw13
  refine z_aload_n hC (pc := 19) 0 dX12_feed_19 rfl rfl ?_
  refine z_bipush hC (pc := 20) (v := 12) dX12_feed_20 (by decide) ?_
  refine z_iload hC (pc := 22) 4 dX12_feed_22 rfl ?_
  refine t_callVv hC hw13 (pc := 24) (As := [.int 12, .int x4]) (kX12_fourReady l G T κ hst hE h0) trivial dmX12_fourReady zf12 hqq8 dX12_feed_24 zw770 rfl rfl (Nat.le_of_ble_eq_true rfl) (Nat.le_of_ble_eq_true rfl) (Nat.le_of_ble_eq_true rfl) (Nat.le_of_ble_eq_true rfl) (Nat.le_of_ble_eq_true rfl) (fun _ _ _ h => nomatch h) (fun cw15 nw15 w15 hw15 pw15 => ?_)
  obtain ⟨rfl, rfl, kw15⟩ := pw15
  refine z_aload_n hC (pc := 27) 0 dX12_feed_27 rfl rfl ?_
  refine z_bipush hC (pc := 28) (v := 16) dX12_feed_28 (by decide) ?_
  refine z_iload hC (pc := 30) 5 dX12_feed_30 rfl ?_
  refine t_callVv hC hw15 (pc := 32) (As := [.int 16, .int x5]) (kX12_fourReady l G T κ hst hE h0) trivial dmX12_fourReady zf12 hqq8 dX12_feed_32 zw770 rfl rfl (Nat.le_of_ble_eq_true rfl) (Nat.le_of_ble_eq_true rfl) (Nat.le_of_ble_eq_true rfl) (Nat.le_of_ble_eq_true rfl) (Nat.le_of_ble_eq_true rfl) (fun _ _ _ h => nomatch h) (fun cw17 nw17 w17 hw17 pw17 => ?_)
  obtain ⟨rfl, rfl, kw17⟩ := pw17
  exact hR _ _ _ _ _ dX12_feed_35 (Nat.le_of_ble_eq_true rfl) (Nat.le_of_ble_eq_true rfl) ⟨hw17, rfl, rfl, (tKeep.tr (tKeep.tr (tKeep.tr (tKeep.tr (tKeep.tr tKeep.rf kw9 rfl) kw11 rfl) kw13 rfl) kw15 rfl) kw17 rfl)⟩
set_option maxRecDepth 20000 in
theorem kX12_getByte (l : Launch) (G : zG) (T : tT) (κ : Nat → List Nat) (hst : l.stackTraces = false) (hE : tE G T κ) {a0 : Nat} (h0 : tRd G κ a0) {x1 : Int32} : tMi l G T yX12_getByte cX12_getByte 2 .int [] 0 0 0 0 [.ref a0, .int x1] uT (uPi 0x0) := by
  refine tMi.intro hst rfl (Nat.le_of_ble_eq_true rfl) ?_
  intro w0 hw0 _ X hC hR hO hX
  refine z_iload_n hC (pc := 0) 1 dX12_getByte_0 rfl rfl ?_
  have j21 : ∀ (x4 : Int32), zS X G 2 w0 [] 0 0 21 [.int x4] := by
    intro x4
    exact hR _ _ _ _ _ _ dX12_getByte_21 rfl (Nat.le_of_ble_eq_true rfl) (Nat.le_of_ble_eq_true rfl) ⟨hw0, rfl, rfl, tKeep.rf⟩
  have j20 : zS X G 2 w0 [] 0 0 20 [] := by
    refine z_iconst hC (pc := 20) (v := 0) dX12_getByte_20 (by decide) ?_
    exact j21 0
  refine z_if_lt hC (pc := 1) 20 dX12_getByte_1 (by decide) (fun c5 => ?_) (fun c5 => ?_)
  · refine z_lvs [] rfl ?_
    exact j20
  · refine z_iload_n hC (pc := 4) 1 dX12_getByte_4 rfl rfl ?_
    refine z_aload_n hC (pc := 5) 0 dX12_getByte_5 rfl rfl ?_
    obtain ⟨N6, hN6, AN6⟩ := hE.rd h0
    refine u_alenB hC hw0 (pc := 6) AN6 dX12_getByte_6 ?_
    refine z_icmp_ge hC (pc := 7) 20 dX12_getByte_7 (by decide) (fun c7 => ?_) (fun c7 => ?_)
    · refine z_lvs [] rfl ?_
      exact j20
    · refine z_aload_n hC (pc := 10) 0 dX12_getByte_10 rfl rfl ?_
      refine z_iload_n hC (pc := 11) 1 dX12_getByte_11 rfl rfl ?_
      refine u_bald hC hw0 (pc := 12) AN6 dX12_getByte_12 (t_inB hN6 c5 c7) (fun x8 => ?_)
      refine z_sipush hC (pc := 13) (v := 255) dX12_getByte_13 (by decide) ?_
      refine z_iand hC (pc := 16) (v := (x8 &&& 255)) dX12_getByte_16 rfl ?_
      refine z_goto hC (pc := 17) 21 dX12_getByte_17 (by decide) ?_
      refine z_lvs [] rfl ?_
      exact j21 (x8 &&& 255)
set_option maxRecDepth 20000 in
theorem kJ7_fill_031fb (l : Launch) (G : zG) (T : tT) (κ : Nat → List Nat) (hst : l.stackTraces = false) (hE : tE G T κ) {a0 : Nat} (h0 : a0 ∈ κ 21) {x1 : Int32} : tMv l G T yJ7_fill_031fb cJ7_fill_031fb 4 [] 0 0 0 0 [.ref a0, .int x1] uT (uPv 0x0) := by
  refine tMv.intro hst (by decide +kernel) (Nat.le_of_ble_eq_true rfl) ?_
  intro w0 hw0 _ X hC hR hO hX
  refine z_iconst hC (pc := 0) (v := 0) dJ7_fill_031fb_0 (by decide) ?_
  refine z_istore_n hC (pc := 1) (lv' := [(2, .int 0), (0, .ref a0), (1, .int x1)]) dJ7_fill_031fb_1 rfl (by decide) rfl ?_
  refine z_aload_n hC (pc := 2) 1 dJ7_fill_031fb_2 rfl rfl ?_
  obtain ⟨N4, hN4, AN4⟩ := hE.byts h0
  refine u_alenB hC hw0 (pc := 3) (Or.inl AN4) dJ7_fill_031fb_3 ?_
  refine z_istore_n hC (pc := 4) (lv' := [(3, .int (Int32.ofNat N4)), (2, .int 0), (0, .ref a0), (1, .int x1)]) dJ7_fill_031fb_4 rfl (by decide) rfl ?_
  have j5 : ∀ (d5 : Nat), ∀ (w5 : va_W), tW T w5 → tKeep 0x0 w0 w5 → ∀ (x6 : Int32), ¬ x6 < 0 → (2 ^ 31 - (x6 : Int32).toInt).toNat ≤ d5 → zS X G 4 w5 [(0, .ref a0), (1, .int x1), (2, .int x6), (3, .int (Int32.ofNat N4))] 0 0 5 [] := by
    intro d5
    induction d5 with
    | zero => intro w5 hw5 kw5 x6 v7 hd5; exact (t_zero hd5).elim
    | succ d5 ih5 =>
      intro w5 hw5 kw5 x6 v7 hd5
      refine z_iload_n hC (pc := 5) 2 dJ7_fill_031fb_5 rfl rfl ?_
      refine z_iload_n hC (pc := 6) 3 dJ7_fill_031fb_6 rfl rfl ?_
      refine z_icmp_ge hC (pc := 7) 20 dJ7_fill_031fb_7 (by decide) (fun c8 => ?_) (fun c8 => ?_)
      · exact hR _ _ _ _ _ dJ7_fill_031fb_20 (Nat.le_of_ble_eq_true rfl) (Nat.le_of_ble_eq_true rfl) ⟨hw5, rfl, rfl, (tKeep.tr tKeep.rf kw5 rfl)⟩
      · refine z_aload_n hC (pc := 10) 0 dJ7_fill_031fb_10 rfl rfl ?_
        refine z_iload_n hC (pc := 11) 2 dJ7_fill_031fb_11 rfl rfl ?_
        refine z_iload_n hC (pc := 12) 1 dJ7_fill_031fb_12 rfl rfl ?_
        refine u_bast hC hw5 (pc := 13) AN4 dJ7_fill_031fb_13 (t_inB hN4 v7 c8) trivial (fun w9 hw9 kw9 => ?_)
        refine z_iinc hC (pc := 14) (v := (x6 + 1)) (lv' := [(2, .int (x6 + 1)), (0, .ref a0), (1, .int x1), (3, .int (Int32.ofNat N4))]) 2 dJ7_fill_031fb_14 rfl (congrArg _ (by decide)) (by decide) rfl ?_
        refine z_goto hC (pc := 17) 5 dJ7_fill_031fb_17 (by decide) ?_
        refine z_lvs [1, 2, 0, 3] rfl ?_
        exact ih5 w9 hw9 (tKeep.tr (tKeep.tr tKeep.rf kw5 rfl) kw9 rfl) (x6 + 1) (t_nnI v7 (Int32.not_le.mp c8)) (t_up (Int32.not_le.mp c8) hd5)
  refine z_lvs [2, 3, 1, 0] rfl ?_
  exact j5 _ w0 hw0 tKeep.rf 0 (by decide) (Nat.le_refl _)
set_option maxRecDepth 20000 in
theorem kX12_end (l : Launch) (G : zG) (T : tT) (κ : Nat → List Nat) (hst : l.stackTraces = false) (hE : tE G T κ) {a0 : Nat} (h0 : a0 ∈ κ 12) {x1 : Int32} : tMi l G T yX12_end cX12_end 3 .int [] 1 23 0 0 [.ref a0, .int x1] uT (uPi 0x4000000000000000000000000000000000000000000000000000000000000000000000000000000000000000000000000000000000000000000000000000000000000000000000000000000000000000000000000000000000000000000000000) := by
  refine tMi.intro hst rfl (Nat.le_of_ble_eq_true rfl) ?_
  intro w0 hw0 _ X hC hR hO hX
  refine z_iload_n hC (pc := 0) 1 dX12_end_0 rfl rfl ?_
  have j22 : zS X G 3 w0 [] 0 0 22 [] := by
    refine z_iconst hC (pc := 22) (v := (-1)) dX12_end_22 (by decide) ?_
    exact hR _ _ _ _ _ _ dX12_end_23 rfl (Nat.le_of_ble_eq_true rfl) (Nat.le_of_ble_eq_true rfl) ⟨hw0, rfl, rfl, tKeep.rf⟩
  refine z_if_lt hC (pc := 1) 22 dX12_end_1 (by decide) (fun c4 => ?_) (fun c4 => ?_)
  · refine z_lvs [] rfl ?_
    exact j22
  · refine z_iload_n hC (pc := 4) 1 dX12_end_4 rfl rfl ?_
    refine z_bipush hC (pc := 5) (v := 20) dX12_end_5 (by decide) ?_
    refine z_icmp_gt hC (pc := 7) 22 dX12_end_7 (by decide) (fun c5 => ?_) (fun c5 => ?_)
    · refine z_lvs [] rfl ?_
      exact j22
    · refine z_aload_n hC (pc := 10) 0 dX12_end_10 rfl rfl ?_
      refine u_get hC hw0 (pc := 11) zf12 2 (hE.o12 h0) rfl dX12_end_11 zw710 (kk := fun vx6 tx6 fx6 => ?_)
      obtain ⟨x6, rfl⟩ := tx6
      refine z_iload_n hC (pc := 14) 1 dX12_end_14 rfl rfl ?_
      refine z_iadd hC (pc := 15) (v := (x6 + x1)) dX12_end_15 rfl ?_
      refine z_sipush hC (pc := 16) (v := 4000) dX12_end_16 (by decide) ?_
      refine z_icmp_le hC (pc := 19) 24 dX12_end_19 (by decide) (fun c7 => ?_) (fun c7 => ?_)
      · refine z_iconst hC (pc := 24) (v := 0) dX12_end_24 (by decide) ?_
        refine z_istore_n hC (pc := 25) (lv' := [(2, .int 0), (0, .ref a0), (1, .int x1)]) dX12_end_25 rfl (by decide) rfl ?_
        have j26 : ∀ (d26 : Nat), ∀ (w8 : va_W), tW T w8 → tKeep 0x0 w0 w8 → ∀ (x9 : Int32), ¬ x9 < 0 → (2 ^ 31 - (x9 : Int32).toInt).toNat ≤ d26 → zS X G 3 w8 [(0, .ref a0), (1, .int x1), (2, .int x9)] 0 0 26 [] := by
          intro d26
          induction d26 with
          | zero => intro w8 hw8 kw8 x9 v10 hd26; exact (t_zero hd26).elim
          | succ d26 ih26 =>
            intro w8 hw8 kw8 x9 v10 hd26
            refine z_iload_n hC (pc := 26) 2 dX12_end_26 rfl rfl ?_
            refine z_iload_n hC (pc := 27) 1 dX12_end_27 rfl rfl ?_
            refine z_icmp_ge hC (pc := 28) 58 dX12_end_28 (by decide) (fun c11 => ?_) (fun c11 => ?_)
            · refine z_aload_n hC (pc := 58) 0 dX12_end_58 rfl rfl ?_
              refine z_dup hC (pc := 59) dX12_end_59 rfl ?_
              refine u_getK hC (pc := 60) zf12 2 (tKeep.F kw8 fx6 rfl) dX12_end_60 zw710 (kk := ?_)
              refine z_iload_n hC (pc := 63) 1 dX12_end_63 rfl rfl ?_
              refine z_iadd hC (pc := 64) (v := (x6 + x1)) dX12_end_64 rfl ?_
              refine u_put hC hw8 (pc := 65) zf12 2 (hE.o12 h0) rfl ⟨_, rfl⟩ dX12_end_65 zw710 rfl rfl rfl (kk := fun w12 hw12 fw12 kw12 => ?_)
              refine z_aload_n hC (pc := 68) 0 dX12_end_68 rfl rfl ?_
              refine u_get hC hw12 (pc := 69) zf12 0 (hE.o12 h0) rfl dX12_end_69 zw708 (kk := fun va13 ta13 fa13 => ?_)
              obtain ⟨a13, ma13, rfl⟩ := ta13
              refine z_iconst hC (pc := 72) (v := 0) dX12_end_72 (by decide) ?_
              refine t_callSv hC hw12 (pc := 73) (As := [.ref a13, .int 0]) (kJ7_fill_031fb l G T κ hst hE ma13) trivial dmJ7_fill_031fb dX12_end_73 zw784 rfl rfl (Nat.le_of_ble_eq_true rfl) (Nat.le_of_ble_eq_true rfl) (Nat.le_of_ble_eq_true rfl) (Nat.le_of_ble_eq_true rfl) (Nat.le_of_ble_eq_true rfl) (fun _ _ _ h => nomatch h) (fun cw14 nw14 w14 hw14 pw14 => ?_)
              obtain ⟨rfl, rfl, kw14⟩ := pw14
              refine z_aload_n hC (pc := 76) 0 dX12_end_76 rfl rfl ?_
              refine u_getK hC (pc := 77) zf12 2 (tKeep.F kw14 fw12 rfl) dX12_end_77 zw710 (kk := ?_)
              exact hR _ _ _ _ _ _ dX12_end_80 rfl (Nat.le_of_ble_eq_true rfl) (Nat.le_of_ble_eq_true rfl) ⟨hw14, rfl, rfl, (tKeep.tr (tKeep.tr (tKeep.tr tKeep.rf kw8 rfl) kw12 rfl) kw14 rfl)⟩
            · refine z_aload_n hC (pc := 31) 0 dX12_end_31 rfl rfl ?_
              refine u_get hC hw8 (pc := 32) zf12 1 (hE.o12 h0) rfl dX12_end_32 zw709 (kk := fun va16 ta16 fa16 => ?_)
              obtain ⟨a16, ma16, rfl⟩ := ta16
              refine z_aload_n hC (pc := 35) 0 dX12_end_35 rfl rfl ?_
              refine u_getK hC (pc := 36) zf12 2 (tKeep.F kw8 fx6 rfl) dX12_end_36 zw710 (kk := ?_)
              refine z_iload_n hC (pc := 39) 2 dX12_end_39 rfl rfl ?_
              refine z_iadd hC (pc := 40) (v := (x6 + x9)) dX12_end_40 rfl ?_
              refine z_aload_n hC (pc := 41) 0 dX12_end_41 rfl rfl ?_
              refine u_get hC hw8 (pc := 42) zf12 0 (hE.o12 h0) rfl dX12_end_42 zw708 (kk := fun va17 ta17 fa17 => ?_)
              obtain ⟨a17, ma17, rfl⟩ := ta17
              refine z_iload_n hC (pc := 45) 2 dX12_end_45 rfl rfl ?_
              refine t_callSi hC hw8 (pc := 46) (As := [.ref a17, .int x9]) (kX12_getByte l G T κ hst hE (Or.inl ma17)) trivial dmX12_getByte dX12_end_46 zw781 rfl rfl (Nat.le_of_ble_eq_true rfl) (Nat.le_of_ble_eq_true rfl) (Nat.le_of_ble_eq_true rfl) (Nat.le_of_ble_eq_true rfl) (Nat.le_of_ble_eq_true rfl) (fun _ _ _ h => nomatch h) (fun x19 cw18 nw18 w18 hw18 pw18 => ?_)
              obtain ⟨rfl, rfl, kw18⟩ := pw18
              refine t_callSv hC hw18 (pc := 49) (As := [.ref a16, .int (x6 + x9), .int x19]) (kX12_setByte l G T κ hst hE ma16) trivial dmX12_setByte dX12_end_49 zw774 rfl rfl (Nat.le_of_ble_eq_true rfl) (Nat.le_of_ble_eq_true rfl) (Nat.le_of_ble_eq_true rfl) (Nat.le_of_ble_eq_true rfl) (Nat.le_of_ble_eq_true rfl) (fun _ _ _ h => nomatch h) (fun cw20 nw20 w20 hw20 pw20 => ?_)
              obtain ⟨rfl, rfl, kw20⟩ := pw20
              refine z_iinc hC (pc := 52) (v := (x9 + 1)) (lv' := [(2, .int (x9 + 1)), (0, .ref a0), (1, .int x1)]) 2 dX12_end_52 rfl (congrArg _ (by decide)) (by decide) rfl ?_
              refine z_goto hC (pc := 55) 26 dX12_end_55 (by decide) ?_
              refine z_lvs [1, 2, 0] rfl ?_
              exact ih26 w20 hw20 (tKeep.tr (tKeep.tr (tKeep.tr tKeep.rf kw8 rfl) kw18 rfl) kw20 rfl) (x9 + 1) (t_nnI v10 (Int32.not_le.mp c11)) (t_up (Int32.not_le.mp c11) hd26)
        refine z_lvs [1, 2, 0] rfl ?_
        exact j26 _ w0 hw0 tKeep.rf 0 (by decide) (Nat.le_refl _)
      · refine z_lvs [] rfl ?_
        exact j22
set_option maxRecDepth 20000 in
theorem kJ7_fill_53178 (l : Launch) (G : zG) (T : tT) (κ : Nat → List Nat) (hst : l.stackTraces = false) (hE : tE G T κ) {a0 : Nat} (h0 : a0 ∈ κ 20) {x1 : Int32} : tMv l G T yJ7_fill_53178 cJ7_fill_53178 4 [] 0 0 0 0 [.ref a0, .int x1] uT (uPv 0x0) := by
  refine tMv.intro hst (by decide +kernel) (Nat.le_of_ble_eq_true rfl) ?_
  intro w0 hw0 _ X hC hR hO hX
  refine z_iconst hC (pc := 0) (v := 0) dJ7_fill_53178_0 (by decide) ?_
  refine z_istore_n hC (pc := 1) (lv' := [(2, .int 0), (0, .ref a0), (1, .int x1)]) dJ7_fill_53178_1 rfl (by decide) rfl ?_
  refine z_aload_n hC (pc := 2) 1 dJ7_fill_53178_2 rfl rfl ?_
  obtain ⟨N4, hN4, AN4⟩ := hE.ints h0
  refine u_alenI hC hw0 (pc := 3) AN4 dJ7_fill_53178_3 ?_
  refine z_istore_n hC (pc := 4) (lv' := [(3, .int (Int32.ofNat N4)), (2, .int 0), (0, .ref a0), (1, .int x1)]) dJ7_fill_53178_4 rfl (by decide) rfl ?_
  have j5 : ∀ (d5 : Nat), ∀ (w5 : va_W), tW T w5 → tKeep 0x0 w0 w5 → ∀ (x6 : Int32), ¬ x6 < 0 → (2 ^ 31 - (x6 : Int32).toInt).toNat ≤ d5 → zS X G 4 w5 [(0, .ref a0), (1, .int x1), (2, .int x6), (3, .int (Int32.ofNat N4))] 0 0 5 [] := by
    intro d5
    induction d5 with
    | zero => intro w5 hw5 kw5 x6 v7 hd5; exact (t_zero hd5).elim
    | succ d5 ih5 =>
      intro w5 hw5 kw5 x6 v7 hd5
      refine z_iload_n hC (pc := 5) 2 dJ7_fill_53178_5 rfl rfl ?_
      refine z_iload_n hC (pc := 6) 3 dJ7_fill_53178_6 rfl rfl ?_
      refine z_icmp_ge hC (pc := 7) 20 dJ7_fill_53178_7 (by decide) (fun c8 => ?_) (fun c8 => ?_)
      · exact hR _ _ _ _ _ dJ7_fill_53178_20 (Nat.le_of_ble_eq_true rfl) (Nat.le_of_ble_eq_true rfl) ⟨hw5, rfl, rfl, (tKeep.tr tKeep.rf kw5 rfl)⟩
      · refine z_aload_n hC (pc := 10) 0 dJ7_fill_53178_10 rfl rfl ?_
        refine z_iload_n hC (pc := 11) 2 dJ7_fill_53178_11 rfl rfl ?_
        refine z_iload_n hC (pc := 12) 1 dJ7_fill_53178_12 rfl rfl ?_
        refine u_iast hC hw5 (pc := 13) AN4 dJ7_fill_53178_13 (t_inB hN4 v7 c8) trivial (fun w9 hw9 kw9 => ?_)
        refine z_iinc hC (pc := 14) (v := (x6 + 1)) (lv' := [(2, .int (x6 + 1)), (0, .ref a0), (1, .int x1), (3, .int (Int32.ofNat N4))]) 2 dJ7_fill_53178_14 rfl (congrArg _ (by decide)) (by decide) rfl ?_
        refine z_goto hC (pc := 17) 5 dJ7_fill_53178_17 (by decide) ?_
        refine z_lvs [1, 2, 0, 3] rfl ?_
        exact ih5 w9 hw9 (tKeep.tr (tKeep.tr tKeep.rf kw5 rfl) kw9 rfl) (x6 + 1) (t_nnI v7 (Int32.not_le.mp c8)) (t_up (Int32.not_le.mp c8) hd5)
  refine z_lvs [2, 3, 1, 0] rfl ?_
  exact j5 _ w0 hw0 tKeep.rf 0 (by decide) (Nat.le_refl _)
set_option maxRecDepth 20000 in
theorem kX6_hash (l : Launch) (G : zG) (T : tT) (κ : Nat → List Nat) (hst : l.stackTraces = false) (hE : tE G T κ) {a0 : Nat} (h0 : tRd G κ a0) {x1 : Int32} {x2 : Int32} : tMi l G T yX6_hash cX6_hash 5 .int [] 0 0 0 0 [.ref a0, .int x1, .int x2] uT (uPi 0x0) := by
  refine tMi.intro hst rfl (Nat.le_of_ble_eq_true rfl) ?_
  intro w0 hw0 _ X hC hR hO hX
  refine z_iload_n hC (pc := 0) 2 dX6_hash_0 rfl rfl ?_
  refine z_istore_n hC (pc := 1) (lv' := [(3, .int x2), (0, .ref a0), (1, .int x1), (2, .int x2)]) dX6_hash_1 rfl (by decide) rfl ?_
  refine z_iload_n hC (pc := 2) 2 dX6_hash_2 rfl rfl ?_
  refine z_istore hC (pc := 3) (lv' := [(4, .int x1), (3, .int x2), (0, .ref a0), (1, .int x1), (2, .int x2)]) dX6_hash_3 (by decide) rfl ?_
  have j5 : ∀ (d5 : Nat), ∀ (x5 : Int32), ∀ (x6 : Int32), (2 ^ 31 - (x6 : Int32).toInt).toNat ≤ d5 → zS X G 5 w0 [(0, .ref a0), (1, .int x1), (2, .int x2), (3, .int x5), (4, .int x6)] 0 0 5 [] := by
    intro d5
    induction d5 with
    | zero => intro x5 x6 hd5; exact (t_zero hd5).elim
    | succ d5 ih5 =>
      intro x5 x6 hd5
      refine z_iload hC (pc := 5) 4 dX6_hash_5 rfl ?_
      refine z_iload_n hC (pc := 7) 1 dX6_hash_7 rfl rfl ?_
      refine z_iload_n hC (pc := 8) 2 dX6_hash_8 rfl rfl ?_
      refine z_iadd hC (pc := 9) (v := (x1 + x2)) dX6_hash_9 rfl ?_
      have j41 : zS X G 5 w0 [(3, .int x5)] 0 0 41 [] := by
        refine z_iload_n hC (pc := 41) 0 dX6_hash_41 rfl rfl ?_
        refine z_iload_n hC (pc := 42) 0 dX6_hash_42 rfl rfl ?_
        refine z_bipush hC (pc := 43) (v := 13) dX6_hash_43 (by decide) ?_
        refine z_iushr hC (pc := 45) (v := ((x5 : Int32).toUInt32 >>> ((13 : Int32).toUInt32 &&& Int32.toUInt32 31)).toInt32) dX6_hash_45 rfl ?_
        refine z_ixor hC (pc := 46) (v := (x5 ^^^ ((x5 : Int32).toUInt32 >>> ((13 : Int32).toUInt32 &&& Int32.toUInt32 31)).toInt32)) dX6_hash_46 rfl ?_
        refine z_sipush hC (pc := 47) (v := 8191) dX6_hash_47 (by decide) ?_
        refine z_iand hC (pc := 50) (v := ((x5 ^^^ ((x5 : Int32).toUInt32 >>> ((13 : Int32).toUInt32 &&& Int32.toUInt32 31)).toInt32) &&& 8191)) dX6_hash_50 rfl ?_
        exact hR _ _ _ _ _ _ dX6_hash_51 rfl (Nat.le_of_ble_eq_true rfl) (Nat.le_of_ble_eq_true rfl) ⟨hw0, rfl, rfl, tKeep.rf⟩
      refine z_icmp_ge hC (pc := 10) 41 dX6_hash_10 (by decide) (fun c7 => ?_) (fun c7 => ?_)
      · refine z_lvs [3] rfl ?_
        exact j41
      · refine z_iload hC (pc := 13) 4 dX6_hash_13 rfl ?_
        refine z_if_lt hC (pc := 15) 41 dX6_hash_15 (by decide) (fun c8 => ?_) (fun c8 => ?_)
        · refine z_lvs [3] rfl ?_
          exact j41
        · refine z_iload hC (pc := 18) 4 dX6_hash_18 rfl ?_
          refine z_aload_n hC (pc := 20) 0 dX6_hash_20 rfl rfl ?_
          obtain ⟨N9, hN9, AN9⟩ := hE.rd h0
          refine u_alenB hC hw0 (pc := 21) AN9 dX6_hash_21 ?_
          refine z_icmp_ge hC (pc := 22) 41 dX6_hash_22 (by decide) (fun c10 => ?_) (fun c10 => ?_)
          · refine z_lvs [3] rfl ?_
            exact j41
          · refine z_iload_n hC (pc := 25) 3 dX6_hash_25 rfl rfl ?_
            refine z_bipush hC (pc := 26) (v := 31) dX6_hash_26 (by decide) ?_
            refine z_imul hC (pc := 28) (v := (x5 * 31)) dX6_hash_28 rfl ?_
            refine z_aload_n hC (pc := 29) 0 dX6_hash_29 rfl rfl ?_
            refine z_iload hC (pc := 30) 4 dX6_hash_30 rfl ?_
            refine u_bald hC hw0 (pc := 32) AN9 dX6_hash_32 (t_inB hN9 c8 c10) (fun x11 => ?_)
            refine z_iadd hC (pc := 33) (v := ((x5 * 31) + x11)) dX6_hash_33 rfl ?_
            refine z_istore_n hC (pc := 34) (lv' := [(3, .int ((x5 * 31) + x11)), (0, .ref a0), (1, .int x1), (2, .int x2), (4, .int x6)]) dX6_hash_34 rfl (by decide) rfl ?_
            refine z_iinc hC (pc := 35) (v := (x6 + 1)) (lv' := [(4, .int (x6 + 1)), (3, .int ((x5 * 31) + x11)), (0, .ref a0), (1, .int x1), (2, .int x2)]) 4 dX6_hash_35 rfl (congrArg _ (by decide)) (by decide) rfl ?_
            refine z_goto hC (pc := 38) 5 dX6_hash_38 (by decide) ?_
            refine z_lvs [2, 3, 4, 1, 0] rfl ?_
            exact ih5 ((x5 * 31) + x11) (x6 + 1) (t_up (Int32.not_le.mp c10) hd5)
  refine z_lvs [2, 3, 4, 1, 0] rfl ?_
  exact j5 _ x2 x1 (Nat.le_refl _)
set_option maxRecDepth 20000 in
theorem kX12_get (l : Launch) (G : zG) (T : tT) (κ : Nat → List Nat) (hst : l.stackTraces = false) (hE : tE G T κ) {a0 : Nat} (h0 : a0 ∈ κ 20) {x1 : Int32} : tMi l G T yX12_get cX12_get 2 .int [] 0 0 0 0 [.ref a0, .int x1] uT (uPi 0x0) := by
  refine tMi.intro hst rfl (Nat.le_of_ble_eq_true rfl) ?_
  intro w0 hw0 _ X hC hR hO hX
  refine z_iload_n hC (pc := 0) 1 dX12_get_0 rfl rfl ?_
  have j17 : ∀ (x4 : Int32), zS X G 2 w0 [] 0 0 17 [.int x4] := by
    intro x4
    exact hR _ _ _ _ _ _ dX12_get_17 rfl (Nat.le_of_ble_eq_true rfl) (Nat.le_of_ble_eq_true rfl) ⟨hw0, rfl, rfl, tKeep.rf⟩
  have j16 : zS X G 2 w0 [] 0 0 16 [] := by
    refine z_iconst hC (pc := 16) (v := 0) dX12_get_16 (by decide) ?_
    exact j17 0
  refine z_if_lt hC (pc := 1) 16 dX12_get_1 (by decide) (fun c5 => ?_) (fun c5 => ?_)
  · refine z_lvs [] rfl ?_
    exact j16
  · refine z_iload_n hC (pc := 4) 1 dX12_get_4 rfl rfl ?_
    refine z_aload_n hC (pc := 5) 0 dX12_get_5 rfl rfl ?_
    obtain ⟨N6, hN6, AN6⟩ := hE.ints h0
    refine u_alenI hC hw0 (pc := 6) AN6 dX12_get_6 ?_
    refine z_icmp_ge hC (pc := 7) 16 dX12_get_7 (by decide) (fun c7 => ?_) (fun c7 => ?_)
    · refine z_lvs [] rfl ?_
      exact j16
    · refine z_aload_n hC (pc := 10) 0 dX12_get_10 rfl rfl ?_
      refine z_iload_n hC (pc := 11) 1 dX12_get_11 rfl rfl ?_
      refine t_iald hC hw0 (pc := 12) AN6 dX12_get_12 (t_inB hN6 c5 c7) (fun x8 _ => ?_)
      refine z_goto hC (pc := 13) 17 dX12_get_13 (by decide) ?_
      refine z_lvs [] rfl ?_
      exact j17 x8
set_option maxRecDepth 20000 in
theorem kX12_set (l : Launch) (G : zG) (T : tT) (κ : Nat → List Nat) (hst : l.stackTraces = false) (hE : tE G T κ) {a0 : Nat} (h0 : a0 ∈ κ 20) {x1 : Int32} {x2 : Int32} : tMv l G T yX12_set cX12_set 3 [] 0 0 0 0 [.ref a0, .int x1, .int x2] uT (uPv 0x0) := by
  refine tMv.intro hst rfl (Nat.le_of_ble_eq_true rfl) ?_
  intro w0 hw0 _ X hC hR hO hX
  refine z_iload_n hC (pc := 0) 1 dX12_set_0 rfl rfl ?_
  have j14 : ∀ (w5 : va_W), tW T w5 → tKeep 0x0 w0 w5 → zS X G 3 w5 [] 0 0 14 [] := by
    intro w5 hw5 kw5
    exact hR _ _ _ _ _ dX12_set_14 (Nat.le_of_ble_eq_true rfl) (Nat.le_of_ble_eq_true rfl) ⟨hw5, rfl, rfl, (tKeep.tr tKeep.rf kw5 rfl)⟩
  refine z_if_lt hC (pc := 1) 14 dX12_set_1 (by decide) (fun c6 => ?_) (fun c6 => ?_)
  · refine z_lvs [] rfl ?_
    exact j14 w0 hw0 tKeep.rf
  · refine z_iload_n hC (pc := 4) 1 dX12_set_4 rfl rfl ?_
    refine z_aload_n hC (pc := 5) 0 dX12_set_5 rfl rfl ?_
    obtain ⟨N7, hN7, AN7⟩ := hE.ints h0
    refine u_alenI hC hw0 (pc := 6) AN7 dX12_set_6 ?_
    refine z_icmp_ge hC (pc := 7) 14 dX12_set_7 (by decide) (fun c8 => ?_) (fun c8 => ?_)
    · refine z_lvs [] rfl ?_
      exact j14 w0 hw0 tKeep.rf
    · refine z_aload_n hC (pc := 10) 0 dX12_set_10 rfl rfl ?_
      refine z_iload_n hC (pc := 11) 1 dX12_set_11 rfl rfl ?_
      refine z_iload_n hC (pc := 12) 2 dX12_set_12 rfl rfl ?_
      refine u_iast hC hw0 (pc := 13) AN7 dX12_set_13 (t_inB hN7 c6 c8) trivial (fun w9 hw9 kw9 => ?_)
      refine z_lvs [] rfl ?_
      exact j14 w9 hw9 (tKeep.tr tKeep.rf kw9 rfl)
set_option maxRecDepth 20000 in
theorem kX4_forget (l : Launch) (G : zG) (T : tT) (κ : Nat → List Nat) (hst : l.stackTraces = false) (hE : tE G T κ) {a0 : Nat} (h0 : a0 ∈ κ 4) : tMv l G T yX4_forget cX4_forget 1 [] 1 23 0 0 [.ref a0] uT (uPv 0x200000000000000000000000000000000000000000000000000000000000000000) := by
  refine tMv.intro hst rfl (Nat.le_of_ble_eq_true rfl) ?_
  intro w0 hw0 _ X hC hR hO hX
  refine z_aload_n hC (pc := 0) 0 dX4_forget_0 rfl rfl ?_
  refine u_get hC hw0 (pc := 1) zf4 1 (hE.o4 h0) rfl dX4_forget_1 zw208 (kk := fun va3 ta3 fa3 => ?_)
  obtain ⟨a3, ma3, rfl⟩ := ta3
  refine z_iconst hC (pc := 4) (v := 0) dX4_forget_4 (by decide) ?_
  refine t_callSv hC hw0 (pc := 5) (As := [.ref a3, .int 0]) (kJ7_fill_53178 l G T κ hst hE ma3) trivial dmJ7_fill_53178 dX4_forget_5 zw978 rfl rfl (Nat.le_of_ble_eq_true rfl) (Nat.le_of_ble_eq_true rfl) (Nat.le_of_ble_eq_true rfl) (Nat.le_of_ble_eq_true rfl) (Nat.le_of_ble_eq_true rfl) (fun _ _ _ h => nomatch h) (fun cw4 nw4 w4 hw4 pw4 => ?_)
  obtain ⟨rfl, rfl, kw4⟩ := pw4
  refine z_aload_n hC (pc := 8) 0 dX4_forget_8 rfl rfl ?_
  refine u_get hC hw4 (pc := 9) zf4 3 (hE.o4 h0) rfl dX4_forget_9 zw211 (kk := fun va6 ta6 fa6 => ?_)
  obtain ⟨a6, ma6, rfl⟩ := ta6
  refine z_iconst hC (pc := 12) (v := 0) dX4_forget_12 (by decide) ?_
  refine t_callSv hC hw4 (pc := 13) (As := [.ref a6, .int 0]) (kJ7_fill_53178 l G T κ hst hE ma6) trivial dmJ7_fill_53178 dX4_forget_13 zw978 rfl rfl (Nat.le_of_ble_eq_true rfl) (Nat.le_of_ble_eq_true rfl) (Nat.le_of_ble_eq_true rfl) (Nat.le_of_ble_eq_true rfl) (Nat.le_of_ble_eq_true rfl) (fun _ _ _ h => nomatch h) (fun cw7 nw7 w7 hw7 pw7 => ?_)
  obtain ⟨rfl, rfl, kw7⟩ := pw7
  refine z_aload_n hC (pc := 16) 0 dX4_forget_16 rfl rfl ?_
  refine z_iconst hC (pc := 17) (v := 0) dX4_forget_17 (by decide) ?_
  refine u_put hC hw7 (pc := 18) zf4 5 (hE.o4 h0) rfl ⟨_, rfl⟩ dX4_forget_18 zw214 rfl rfl rfl (kk := fun w9 hw9 fw9 kw9 => ?_)
  exact hR _ _ _ _ _ dX4_forget_21 (Nat.le_of_ble_eq_true rfl) (Nat.le_of_ble_eq_true rfl) ⟨hw9, rfl, rfl, (tKeep.tr (tKeep.tr (tKeep.tr tKeep.rf kw4 rfl) kw7 rfl) kw9 rfl)⟩
set_option maxRecDepth 20000 in
theorem kX2_keep (l : Launch) (G : zG) (T : tT) (κ : Nat → List Nat) (hst : l.stackTraces = false) (hE : tE G T κ) {a0 : Nat} (h0 : a0 ∈ κ 2) {x1 : Int32} {x2 : Int32} : tMv l G T yX2_keep cX2_keep 3 [] 0 0 0 0 [.ref a0, .int x1, .int x2] uT (uPv 0x4000000000000000000000000000000000) := by
  refine tMv.intro hst rfl (Nat.le_of_ble_eq_true rfl) ?_
  intro w0 hw0 _ X hC hR hO hX
  refine z_aload_n hC (pc := 0) 0 dX2_keep_0 rfl rfl ?_
  refine u_get hC hw0 (pc := 1) zf2 6 (hE.o2 h0) rfl dX2_keep_1 zw253 (kk := fun vx5 tx5 fx5 => ?_)
  obtain ⟨x5, rfl⟩ := tx5
  have j62 : ∀ (w6 : va_W), tW T w6 → tKeep 0x4000000000000000000000000000000000 w0 w6 → zS X G 3 w6 [] 0 0 62 [] := by
    intro w6 hw6 kw6
    exact hR _ _ _ _ _ dX2_keep_62 (Nat.le_of_ble_eq_true rfl) (Nat.le_of_ble_eq_true rfl) ⟨hw6, rfl, rfl, (tKeep.tr tKeep.rf kw6 rfl)⟩
  refine z_if_lt hC (pc := 4) 62 dX2_keep_4 (by decide) (fun c7 => ?_) (fun c7 => ?_)
  · refine z_lvs [] rfl ?_
    exact j62 w0 hw0 tKeep.rf
  · refine z_aload_n hC (pc := 7) 0 dX2_keep_7 rfl rfl ?_
    refine u_getK hC (pc := 8) zf2 6 fx5 dX2_keep_8 zw253 (kk := ?_)
    refine z_aload_n hC (pc := 11) 0 dX2_keep_11 rfl rfl ?_
    refine u_get hC hw0 (pc := 12) zf2 4 (hE.o2 h0) rfl dX2_keep_12 zw247 (kk := fun va8 ta8 fa8 => ?_)
    obtain ⟨a8, ma8, rfl⟩ := ta8
    obtain ⟨N9, hN9, AN9⟩ := hE.byts ma8
    refine u_alenB hC hw0 (pc := 15) (Or.inl AN9) dX2_keep_15 ?_
    refine z_icmp_ge hC (pc := 16) 62 dX2_keep_16 (by decide) (fun c10 => ?_) (fun c10 => ?_)
    · refine z_lvs [] rfl ?_
      exact j62 w0 hw0 tKeep.rf
    · refine z_aload_n hC (pc := 19) 0 dX2_keep_19 rfl rfl ?_
      refine u_getK hC (pc := 20) zf2 6 fx5 dX2_keep_20 zw253 (kk := ?_)
      refine z_aload_n hC (pc := 23) 0 dX2_keep_23 rfl rfl ?_
      refine u_get hC hw0 (pc := 24) zf2 5 (hE.o2 h0) rfl dX2_keep_24 zw251 (kk := fun va11 ta11 fa11 => ?_)
      obtain ⟨a11, ma11, rfl⟩ := ta11
      obtain ⟨N12, hN12, AN12⟩ := hE.ints ma11
      refine u_alenI hC hw0 (pc := 27) AN12 dX2_keep_27 ?_
      refine z_icmp_ge hC (pc := 28) 62 dX2_keep_28 (by decide) (fun c13 => ?_) (fun c13 => ?_)
      · refine z_lvs [] rfl ?_
        exact j62 w0 hw0 tKeep.rf
      · refine z_aload_n hC (pc := 31) 0 dX2_keep_31 rfl rfl ?_
        refine u_getK hC (pc := 32) zf2 4 fa8 dX2_keep_32 zw247 (kk := ?_)
        refine z_aload_n hC (pc := 35) 0 dX2_keep_35 rfl rfl ?_
        refine u_getK hC (pc := 36) zf2 6 fx5 dX2_keep_36 zw253 (kk := ?_)
        refine z_iload_n hC (pc := 39) 1 dX2_keep_39 rfl rfl ?_
        refine z_i2b hC (pc := 40) (v := (x1 : Int32).toInt8.toInt32) dX2_keep_40 rfl ?_
        generalize (x1 : Int32).toInt8.toInt32 = x14
        refine u_bast hC hw0 (pc := 41) AN9 dX2_keep_41 (t_inB hN9 c7 c10) trivial (fun w15 hw15 kw15 => ?_)
        refine z_aload_n hC (pc := 42) 0 dX2_keep_42 rfl rfl ?_
        refine u_getK hC (pc := 43) zf2 5 (tKeep.F kw15 fa11 rfl) dX2_keep_43 zw251 (kk := ?_)
        refine z_aload_n hC (pc := 46) 0 dX2_keep_46 rfl rfl ?_
        refine u_getK hC (pc := 47) zf2 6 (tKeep.F kw15 fx5 rfl) dX2_keep_47 zw253 (kk := ?_)
        refine z_iload_n hC (pc := 50) 2 dX2_keep_50 rfl rfl ?_
        refine u_iast hC hw15 (pc := 51) AN12 dX2_keep_51 (t_inB hN12 c7 c13) trivial (fun w16 hw16 kw16 => ?_)
        refine z_aload_n hC (pc := 52) 0 dX2_keep_52 rfl rfl ?_
        refine z_dup hC (pc := 53) dX2_keep_53 rfl ?_
        refine u_getK hC (pc := 54) zf2 6 (tKeep.F kw16 (tKeep.F kw15 fx5 rfl) rfl) dX2_keep_54 zw253 (kk := ?_)
        refine z_iconst hC (pc := 57) (v := 1) dX2_keep_57 (by decide) ?_
        refine z_iadd hC (pc := 58) (v := (x5 + 1)) dX2_keep_58 rfl ?_
        refine u_put hC hw16 (pc := 59) zf2 6 (hE.o2 h0) rfl ⟨_, rfl⟩ dX2_keep_59 zw253 rfl rfl rfl (kk := fun w17 hw17 fw17 kw17 => ?_)
        refine z_lvs [] rfl ?_
        exact j62 w17 hw17 (tKeep.tr (tKeep.tr (tKeep.tr tKeep.rf kw15 rfl) kw16 rfl) kw17 rfl)
set_option maxRecDepth 20000 in
theorem kX4_wasRead (l : Launch) (G : zG) (T : tT) (κ : Nat → List Nat) (hst : l.stackTraces = false) (hE : tE G T κ) {a0 : Nat} (h0 : a0 ∈ κ 4) {x1 : Int32} : tMi l G T yX4_wasRead cX4_wasRead 3 .boolean [] 1 21 0 0 [.ref a0, .int x1] uT (uPz 0x0) := by
  refine tMi.intro hst rfl (Nat.le_of_ble_eq_true rfl) ?_
  intro w0 hw0 _ X hC hR hO hX
  refine z_iconst hC (pc := 0) (v := 0) dX4_wasRead_0 (by decide) ?_
  refine z_istore_n hC (pc := 1) (lv' := [(2, .int 0), (0, .ref a0), (1, .int x1)]) dX4_wasRead_1 rfl (by decide) rfl ?_
  have j2 : ∀ (d2 : Nat), ∀ (w4 : va_W), tW T w4 → tKeep 0x0 w0 w4 → ∀ (x5 : Int32), ¬ x5 < 0 → (2 ^ 31 - (x5 : Int32).toInt).toNat ≤ d2 → zS X G 3 w4 [(0, .ref a0), (1, .int x1), (2, .int x5)] 0 0 2 [] := by
    intro d2
    induction d2 with
    | zero => intro w4 hw4 kw4 x5 v6 hd2; exact (t_zero hd2).elim
    | succ d2 ih2 =>
      intro w4 hw4 kw4 x5 v6 hd2
      refine z_iload_n hC (pc := 2) 2 dX4_wasRead_2 rfl rfl ?_
      refine z_aload_n hC (pc := 3) 0 dX4_wasRead_3 rfl rfl ?_
      refine u_get hC hw4 (pc := 4) zf4 5 (hE.o4 h0) rfl dX4_wasRead_4 zw214 (kk := fun vx7 tx7 fx7 => ?_)
      obtain ⟨x7, rfl⟩ := tx7
      refine z_icmp_ge hC (pc := 7) 30 dX4_wasRead_7 (by decide) (fun c8 => ?_) (fun c8 => ?_)
      · refine z_iconst hC (pc := 30) (v := 0) dX4_wasRead_30 (by decide) ?_
        exact hR _ _ _ _ _ _ dX4_wasRead_31 rfl (Nat.le_of_ble_eq_true rfl) (Nat.le_of_ble_eq_true rfl) ⟨hw4, rfl, rfl, (tKeep.tr tKeep.rf kw4 rfl), (Or.inl rfl)⟩
      · refine z_aload_n hC (pc := 10) 0 dX4_wasRead_10 rfl rfl ?_
        refine u_get hC hw4 (pc := 11) zf4 4 (hE.o4 h0) rfl dX4_wasRead_11 zw212 (kk := fun va9 ta9 fa9 => ?_)
        obtain ⟨a9, ma9, rfl⟩ := ta9
        refine z_iload_n hC (pc := 14) 2 dX4_wasRead_14 rfl rfl ?_
        refine t_callSNi hC hw4 (pc := 15) (As := [.ref a9, .int x5]) (kX12_get l G T κ hst hE ma9) trivial dmX12_get dX4_wasRead_15 zw992 rfl rfl (Nat.le_of_ble_eq_true rfl) (Nat.le_of_ble_eq_true rfl) (Nat.le_of_ble_eq_true rfl) (Nat.le_of_ble_eq_true rfl) (Nat.le_of_ble_eq_true rfl) (fun _ _ _ h => nomatch h) (fun x11 cw10 nw10 w10 hw10 pw10 => ?_)
        obtain ⟨rfl, rfl, kw10⟩ := pw10
        refine z_iload_n hC (pc := 18) 1 dX4_wasRead_18 rfl rfl ?_
        refine z_icmp_ne hC (pc := 19) 24 dX4_wasRead_19 (by decide) (fun c12 => ?_) (fun c12 => ?_)
        · refine z_iinc hC (pc := 24) (v := (x5 + 1)) (lv' := [(2, .int (x5 + 1)), (0, .ref a0), (1, .int x1)]) 2 dX4_wasRead_24 rfl (congrArg _ (by decide)) (by decide) rfl ?_
          refine z_goto hC (pc := 27) 2 dX4_wasRead_27 (by decide) ?_
          refine z_lvs [1, 2, 0] rfl ?_
          exact ih2 w10 hw10 (tKeep.tr (tKeep.tr tKeep.rf kw4 rfl) kw10 rfl) (x5 + 1) (t_nnI v6 (Int32.not_le.mp c8)) (t_up (Int32.not_le.mp c8) hd2)
        · refine z_iconst hC (pc := 22) (v := 1) dX4_wasRead_22 (by decide) ?_
          exact hR _ _ _ _ _ _ dX4_wasRead_23 rfl (Nat.le_of_ble_eq_true rfl) (Nat.le_of_ble_eq_true rfl) ⟨hw10, rfl, rfl, (tKeep.tr (tKeep.tr tKeep.rf kw4 rfl) kw10 rfl), (Or.inr rfl)⟩
  refine z_lvs [1, 2, 0] rfl ?_
  exact j2 _ w0 hw0 tKeep.rf 0 (by decide) (Nat.le_refl _)
set_option maxRecDepth 20000 in
theorem kX4_noteRead (l : Launch) (G : zG) (T : tT) (κ : Nat → List Nat) (hst : l.stackTraces = false) (hE : tE G T κ) {a0 : Nat} (h0 : a0 ∈ κ 4) {x1 : Int32} : tMv l G T yX4_noteRead cX4_noteRead 2 [] 1 22 0 0 [.ref a0, .int x1] uT (uPv 0x200000000000000000000000000000000000000000000000000000000000000000) := by
  refine tMv.intro hst rfl (Nat.le_of_ble_eq_true rfl) ?_
  intro w0 hw0 _ X hC hR hO hX
  refine z_aload_n hC (pc := 0) 0 dX4_noteRead_0 rfl rfl ?_
  refine u_get hC hw0 (pc := 1) zf4 5 (hE.o4 h0) rfl dX4_noteRead_1 zw214 (kk := fun vx4 tx4 fx4 => ?_)
  obtain ⟨x4, rfl⟩ := tx4
  refine z_bipush hC (pc := 4) (v := 8) dX4_noteRead_4 (by decide) ?_
  have j31 : ∀ (w5 : va_W), tW T w5 → tKeep 0x200000000000000000000000000000000000000000000000000000000000000000 w0 w5 → zS X G 2 w5 [] 0 0 31 [] := by
    intro w5 hw5 kw5
    exact hR _ _ _ _ _ dX4_noteRead_31 (Nat.le_of_ble_eq_true rfl) (Nat.le_of_ble_eq_true rfl) ⟨hw5, rfl, rfl, (tKeep.tr tKeep.rf kw5 rfl)⟩
  refine z_icmp_ge hC (pc := 6) 31 dX4_noteRead_6 (by decide) (fun c6 => ?_) (fun c6 => ?_)
  · refine z_lvs [] rfl ?_
    exact j31 w0 hw0 tKeep.rf
  · refine z_aload_n hC (pc := 9) 0 dX4_noteRead_9 rfl rfl ?_
    refine u_get hC hw0 (pc := 10) zf4 4 (hE.o4 h0) rfl dX4_noteRead_10 zw212 (kk := fun va7 ta7 fa7 => ?_)
    obtain ⟨a7, ma7, rfl⟩ := ta7
    refine z_aload_n hC (pc := 13) 0 dX4_noteRead_13 rfl rfl ?_
    refine u_getK hC (pc := 14) zf4 5 fx4 dX4_noteRead_14 zw214 (kk := ?_)
    refine z_iload_n hC (pc := 17) 1 dX4_noteRead_17 rfl rfl ?_
    refine t_callSNv hC hw0 (pc := 18) (As := [.ref a7, .int x4, .int x1]) (kX12_set l G T κ hst hE ma7) trivial dmX12_set dX4_noteRead_18 zw998 rfl rfl (Nat.le_of_ble_eq_true rfl) (Nat.le_of_ble_eq_true rfl) (Nat.le_of_ble_eq_true rfl) (Nat.le_of_ble_eq_true rfl) (Nat.le_of_ble_eq_true rfl) (fun _ _ _ h => nomatch h) (fun cw8 nw8 w8 hw8 pw8 => ?_)
    obtain ⟨rfl, rfl, kw8⟩ := pw8
    refine z_aload_n hC (pc := 21) 0 dX4_noteRead_21 rfl rfl ?_
    refine z_dup hC (pc := 22) dX4_noteRead_22 rfl ?_
    refine u_getK hC (pc := 23) zf4 5 (tKeep.F kw8 fx4 rfl) dX4_noteRead_23 zw214 (kk := ?_)
    refine z_iconst hC (pc := 26) (v := 1) dX4_noteRead_26 (by decide) ?_
    refine z_iadd hC (pc := 27) (v := (x4 + 1)) dX4_noteRead_27 rfl ?_
    refine u_put hC hw8 (pc := 28) zf4 5 (hE.o4 h0) rfl ⟨_, rfl⟩ dX4_noteRead_28 zw214 rfl rfl rfl (kk := fun w10 hw10 fw10 kw10 => ?_)
    refine z_lvs [] rfl ?_
    exact j31 w10 hw10 (tKeep.tr (tKeep.tr tKeep.rf kw8 rfl) kw10 rfl)
set_option maxRecDepth 20000 in
theorem kX7_openFile (l : Launch) (G : zG) (T : tT) (κ : Nat → List Nat) (hst : l.stackTraces = false) (hE : tE G T κ) {a0 : Nat} (h0 : a0 ∈ κ 7) {x1 : Int32} {a2 : Nat} (h2 : a2 ∈ κ 21) {x3 : Int32} : tMv l G T yX7_openFile cX7_openFile 4 [] 0 0 0 0 [.ref a0, .int x1, .ref a2, .int x3] uT (uPv 0x6730000000000000000000000000000000000000000000000000000000000000000000000000000000000000000000000000000000000000000) := by
  refine tMv.intro hst rfl (Nat.le_of_ble_eq_true rfl) ?_
  intro w0 hw0 _ X hC hR hO hX
  refine z_aload_n hC (pc := 0) 0 dX7_openFile_0 rfl rfl ?_
  refine z_iload_n hC (pc := 1) 1 dX7_openFile_1 rfl rfl ?_
  refine u_put hC hw0 (pc := 2) zf7 6 (hE.o7 h0) rfl ⟨_, rfl⟩ dX7_openFile_2 zw125 rfl rfl rfl (kk := fun w6 hw6 fw6 kw6 => ?_)
  refine z_aload_n hC (pc := 5) 0 dX7_openFile_5 rfl rfl ?_
  refine z_aload_n hC (pc := 6) 2 dX7_openFile_6 rfl rfl ?_
  refine u_put hC hw6 (pc := 7) zf7 0 (hE.o7 h0) rfl ⟨_, h2, rfl⟩ dX7_openFile_7 zw115 rfl rfl rfl (kk := fun w7 hw7 fw7 kw7 => ?_)
  refine z_aload_n hC (pc := 10) 0 dX7_openFile_10 rfl rfl ?_
  refine z_aload_n hC (pc := 11) 2 dX7_openFile_11 rfl rfl ?_
  refine u_put hC hw7 (pc := 12) zf7 9 (hE.o7 h0) rfl ⟨_, h2, rfl⟩ dX7_openFile_12 zw134 rfl rfl rfl (kk := fun w8 hw8 fw8 kw8 => ?_)
  refine z_aload_n hC (pc := 15) 0 dX7_openFile_15 rfl rfl ?_
  refine z_iload_n hC (pc := 16) 3 dX7_openFile_16 rfl rfl ?_
  refine u_put hC hw8 (pc := 17) zf7 10 (hE.o7 h0) rfl ⟨_, rfl⟩ dX7_openFile_17 zw135 rfl rfl rfl (kk := fun w9 hw9 fw9 kw9 => ?_)
  refine z_aload_n hC (pc := 20) 0 dX7_openFile_20 rfl rfl ?_
  refine z_iload_n hC (pc := 21) 3 dX7_openFile_21 rfl rfl ?_
  refine u_put hC hw9 (pc := 22) zf7 4 (hE.o7 h0) rfl ⟨_, rfl⟩ dX7_openFile_22 zw119 rfl rfl rfl (kk := fun w10 hw10 fw10 kw10 => ?_)
  refine z_aload_n hC (pc := 25) 0 dX7_openFile_25 rfl rfl ?_
  refine z_iconst hC (pc := 26) (v := 0) dX7_openFile_26 (by decide) ?_
  refine u_put hC hw10 (pc := 27) zf7 5 (hE.o7 h0) rfl ⟨_, rfl⟩ dX7_openFile_27 zw122 rfl rfl rfl (kk := fun w11 hw11 fw11 kw11 => ?_)
  refine z_aload_n hC (pc := 30) 0 dX7_openFile_30 rfl rfl ?_
  refine z_iconst hC (pc := 31) (v := 1) dX7_openFile_31 (by decide) ?_
  refine u_put hC hw11 (pc := 32) zf7 1 (hE.o7 h0) rfl (Or.inr rfl) dX7_openFile_32 zw116 rfl rfl rfl (kk := fun w12 hw12 fw12 kw12 => ?_)
  exact hR _ _ _ _ _ dX7_openFile_35 (Nat.le_of_ble_eq_true rfl) (Nat.le_of_ble_eq_true rfl) ⟨hw12, rfl, rfl, (tKeep.tr (tKeep.tr (tKeep.tr (tKeep.tr (tKeep.tr (tKeep.tr (tKeep.tr tKeep.rf kw6 rfl) kw7 rfl) kw8 rfl) kw9 rfl) kw10 rfl) kw11 rfl) kw12 rfl)⟩
set_option maxRecDepth 20000 in
theorem kX10_openFile (l : Launch) (G : zG) (T : tT) (κ : Nat → List Nat) (hst : l.stackTraces = false) (hE : tE G T κ) {a0 : Nat} (h0 : a0 ∈ κ 10) {a1 : Nat} (h1 : a1 ∈ κ 2) : tMv l G T yX10_openFile cX10_openFile 2 [] 0 0 0 0 [.ref a0, .ref a1] uT (uPv 0xe0000000000000000000000000000000000000000000000000000000000000000000000000000000000000000000000000000000000000000000000000000000000000000000000000000000000000000) := by
  refine tMv.intro hst rfl (Nat.le_of_ble_eq_true rfl) ?_
  intro w0 hw0 _ X hC hR hO hX
  refine z_aload_n hC (pc := 0) 0 dX10_openFile_0 rfl rfl ?_
  refine z_aload_n hC (pc := 1) 1 dX10_openFile_1 rfl rfl ?_
  refine u_put hC hw0 (pc := 2) zf10 1 (hE.o10 h0) rfl ⟨_, h1, rfl⟩ dX10_openFile_2 zw331 rfl rfl rfl (kk := fun w4 hw4 fw4 kw4 => ?_)
  refine z_aload_n hC (pc := 5) 0 dX10_openFile_5 rfl rfl ?_
  refine z_bipush hC (pc := 6) (v := 60) dX10_openFile_6 (by decide) ?_
  refine u_put hC hw4 (pc := 8) zf10 2 (hE.o10 h0) rfl ⟨_, rfl⟩ dX10_openFile_8 zw332 rfl rfl rfl (kk := fun w5 hw5 fw5 kw5 => ?_)
  refine z_aload_n hC (pc := 11) 0 dX10_openFile_11 rfl rfl ?_
  refine z_bipush hC (pc := 12) (v := 62) dX10_openFile_12 (by decide) ?_
  refine u_put hC hw5 (pc := 14) zf10 3 (hE.o10 h0) rfl ⟨_, rfl⟩ dX10_openFile_14 zw334 rfl rfl rfl (kk := fun w6 hw6 fw6 kw6 => ?_)
  exact hR _ _ _ _ _ dX10_openFile_17 (Nat.le_of_ble_eq_true rfl) (Nat.le_of_ble_eq_true rfl) ⟨hw6, rfl, rfl, (tKeep.tr (tKeep.tr (tKeep.tr tKeep.rf kw4 rfl) kw5 rfl) kw6 rfl)⟩
set_option maxRecDepth 20000 in
theorem kX7_fail (l : Launch) (G : zG) (T : tT) (κ : Nat → List Nat) (hst : l.stackTraces = false) (hE : tE G T κ) {a0 : Nat} (h0 : a0 ∈ κ 7) {x1 : Int32} {x2 : Int32} : tMv l G T yX7_fail cX7_fail 3 ["java/lang/IllegalStateException"] 6 81 1 6 [.ref a0, .int x1, .int x2] uT (uPv 0x1800000000000000000000000000000000000000000000000000000000000000000000000000000000000000000000000000000000000000000) := by
  refine tMv.intro hst rfl (Nat.le_of_ble_eq_true rfl) ?_
  intro w0 hw0 _ X hC hR hO hX
  refine z_aload_n hC (pc := 0) 0 dX7_fail_0 rfl rfl ?_
  refine z_iload_n hC (pc := 1) 1 dX7_fail_1 rfl rfl ?_
  refine u_put hC hw0 (pc := 2) zf7 7 (hE.o7 h0) rfl ⟨_, rfl⟩ dX7_fail_2 zw130 rfl rfl rfl (kk := fun w5 hw5 fw5 kw5 => ?_)
  refine z_aload_n hC (pc := 5) 0 dX7_fail_5 rfl rfl ?_
  refine z_iload_n hC (pc := 6) 2 dX7_fail_6 rfl rfl ?_
  refine u_put hC hw5 (pc := 7) zf7 8 (hE.o7 h0) rfl ⟨_, rfl⟩ dX7_fail_7 zw132 rfl rfl rfl (kk := fun w6 hw6 fw6 kw6 => ?_)
  exact hX "java/lang/IllegalStateException" _ _ _ _ _ _ 67 69 exn (by decide) hw6 dX7_fail_10 dX7_fail_13 dX7_fail_14 dX7_fail_17 (by decide +kernel) (by decide +kernel) zw1024 zw20 atg_X7_69 atb_X7_69 ato_X7_69 (by decide) (Nat.le_of_ble_eq_true rfl) (Nat.le_of_ble_eq_true rfl) (Nat.le_of_ble_eq_true rfl)
set_option maxRecDepth 20000 in
theorem kX7_peek (l : Launch) (G : zG) (T : tT) (κ : Nat → List Nat) (hst : l.stackTraces = false) (hE : tE G T κ) {a0 : Nat} (h0 : a0 ∈ κ 7) : tMi l G T yX7_peek cX7_peek 1 .int [] 0 0 0 0 [.ref a0] uT (uPi 0x0) := by
  refine tMi.intro hst rfl (Nat.le_of_ble_eq_true rfl) ?_
  intro w0 hw0 _ X hC hR hO hX
  refine z_aload_n hC (pc := 0) 0 dX7_peek_0 rfl rfl ?_
  refine u_get hC hw0 (pc := 1) zf7 5 (hE.o7 h0) rfl dX7_peek_1 zw122 (kk := fun vx3 tx3 fx3 => ?_)
  obtain ⟨x3, rfl⟩ := tx3
  have j43 : ∀ (x4 : Int32), zS X G 1 w0 [] 0 0 43 [.int x4] := by
    intro x4
    exact hR _ _ _ _ _ _ dX7_peek_43 rfl (Nat.le_of_ble_eq_true rfl) (Nat.le_of_ble_eq_true rfl) ⟨hw0, rfl, rfl, tKeep.rf⟩
  have j42 : zS X G 1 w0 [] 0 0 42 [] := by
    refine z_iconst hC (pc := 42) (v := (-1)) dX7_peek_42 (by decide) ?_
    exact j43 (-1)
  refine z_if_lt hC (pc := 4) 42 dX7_peek_4 (by decide) (fun c5 => ?_) (fun c5 => ?_)
  · refine z_lvs [] rfl ?_
    exact j42
  · refine z_aload_n hC (pc := 7) 0 dX7_peek_7 rfl rfl ?_
    refine u_getK hC (pc := 8) zf7 5 fx3 dX7_peek_8 zw122 (kk := ?_)
    refine z_aload_n hC (pc := 11) 0 dX7_peek_11 rfl rfl ?_
    refine u_get hC hw0 (pc := 12) zf7 4 (hE.o7 h0) rfl dX7_peek_12 zw119 (kk := fun vx6 tx6 fx6 => ?_)
    obtain ⟨x6, rfl⟩ := tx6
    refine z_icmp_ge hC (pc := 15) 42 dX7_peek_15 (by decide) (fun c7 => ?_) (fun c7 => ?_)
    · refine z_lvs [] rfl ?_
      exact j42
    · refine z_aload_n hC (pc := 18) 0 dX7_peek_18 rfl rfl ?_
      refine u_getK hC (pc := 19) zf7 5 fx3 dX7_peek_19 zw122 (kk := ?_)
      refine z_aload_n hC (pc := 22) 0 dX7_peek_22 rfl rfl ?_
      refine u_get hC hw0 (pc := 23) zf7 0 (hE.o7 h0) rfl dX7_peek_23 zw115 (kk := fun va8 ta8 fa8 => ?_)
      obtain ⟨a8, ma8, rfl⟩ := ta8
      obtain ⟨N9, hN9, AN9⟩ := hE.byts ma8
      refine u_alenB hC hw0 (pc := 26) (Or.inl AN9) dX7_peek_26 ?_
      refine z_icmp_ge hC (pc := 27) 42 dX7_peek_27 (by decide) (fun c10 => ?_) (fun c10 => ?_)
      · refine z_lvs [] rfl ?_
        exact j42
      · refine z_aload_n hC (pc := 30) 0 dX7_peek_30 rfl rfl ?_
        refine u_getK hC (pc := 31) zf7 0 fa8 dX7_peek_31 zw115 (kk := ?_)
        refine z_aload_n hC (pc := 34) 0 dX7_peek_34 rfl rfl ?_
        refine u_getK hC (pc := 35) zf7 5 fx3 dX7_peek_35 zw122 (kk := ?_)
        refine u_bald hC hw0 (pc := 38) (Or.inl AN9) dX7_peek_38 (t_inB hN9 c5 c10) (fun x11 => ?_)
        refine z_goto hC (pc := 39) 43 dX7_peek_39 (by decide) ?_
        refine z_lvs [] rfl ?_
        exact j43 x11
set_option maxRecDepth 20000 in
theorem kX7_at (l : Launch) (G : zG) (T : tT) (κ : Nat → List Nat) (hst : l.stackTraces = false) (hE : tE G T κ) {a0 : Nat} (h0 : a0 ∈ κ 7) {x1 : Int32} : tMi l G T yX7_at cX7_at 2 .int [] 0 0 0 0 [.ref a0, .int x1] uT (uPi 0x0) := by
  refine tMi.intro hst rfl (Nat.le_of_ble_eq_true rfl) ?_
  intro w0 hw0 _ X hC hR hO hX
  refine z_iload_n hC (pc := 0) 1 dX7_at_0 rfl rfl ?_
  have j31 : ∀ (x4 : Int32), zS X G 2 w0 [] 0 0 31 [.int x4] := by
    intro x4
    exact hR _ _ _ _ _ _ dX7_at_31 rfl (Nat.le_of_ble_eq_true rfl) (Nat.le_of_ble_eq_true rfl) ⟨hw0, rfl, rfl, tKeep.rf⟩
  have j30 : zS X G 2 w0 [] 0 0 30 [] := by
    refine z_iconst hC (pc := 30) (v := (-1)) dX7_at_30 (by decide) ?_
    exact j31 (-1)
  refine z_if_lt hC (pc := 1) 30 dX7_at_1 (by decide) (fun c5 => ?_) (fun c5 => ?_)
  · refine z_lvs [] rfl ?_
    exact j30
  · refine z_iload_n hC (pc := 4) 1 dX7_at_4 rfl rfl ?_
    refine z_aload_n hC (pc := 5) 0 dX7_at_5 rfl rfl ?_
    refine u_get hC hw0 (pc := 6) zf7 4 (hE.o7 h0) rfl dX7_at_6 zw119 (kk := fun vx6 tx6 fx6 => ?_)
    obtain ⟨x6, rfl⟩ := tx6
    refine z_icmp_ge hC (pc := 9) 30 dX7_at_9 (by decide) (fun c7 => ?_) (fun c7 => ?_)
    · refine z_lvs [] rfl ?_
      exact j30
    · refine z_iload_n hC (pc := 12) 1 dX7_at_12 rfl rfl ?_
      refine z_aload_n hC (pc := 13) 0 dX7_at_13 rfl rfl ?_
      refine u_get hC hw0 (pc := 14) zf7 0 (hE.o7 h0) rfl dX7_at_14 zw115 (kk := fun va8 ta8 fa8 => ?_)
      obtain ⟨a8, ma8, rfl⟩ := ta8
      obtain ⟨N9, hN9, AN9⟩ := hE.byts ma8
      refine u_alenB hC hw0 (pc := 17) (Or.inl AN9) dX7_at_17 ?_
      refine z_icmp_ge hC (pc := 18) 30 dX7_at_18 (by decide) (fun c10 => ?_) (fun c10 => ?_)
      · refine z_lvs [] rfl ?_
        exact j30
      · refine z_aload_n hC (pc := 21) 0 dX7_at_21 rfl rfl ?_
        refine u_getK hC (pc := 22) zf7 0 fa8 dX7_at_22 zw115 (kk := ?_)
        refine z_iload_n hC (pc := 25) 1 dX7_at_25 rfl rfl ?_
        refine u_bald hC hw0 (pc := 26) (Or.inl AN9) dX7_at_26 (t_inB hN9 c5 c10) (fun x11 => ?_)
        refine z_goto hC (pc := 27) 31 dX7_at_27 (by decide) ?_
        refine z_lvs [] rfl ?_
        exact j31 x11
set_option maxRecDepth 20000 in
theorem kX7_placeOf (l : Launch) (G : zG) (T : tT) (κ : Nat → List Nat) (hst : l.stackTraces = false) (hE : tE G T κ) {a0 : Nat} (h0 : a0 ∈ κ 7) {x1 : Int32} : tMi l G T yX7_placeOf cX7_placeOf 2 .int [] 0 0 0 0 [.ref a0, .int x1] uT (uPi 0x0) := by
  refine tMi.intro hst rfl (Nat.le_of_ble_eq_true rfl) ?_
  intro w0 hw0 _ X hC hR hO hX
  refine z_aload_n hC (pc := 0) 0 dX7_placeOf_0 rfl rfl ?_
  refine u_get hC hw0 (pc := 1) zf7 1 (hE.o7 h0) rfl dX7_placeOf_1 zw116 (kk := fun vx4 tx4 fx4 => ?_)
  obtain ⟨x4, rfl, zx4⟩ := t_zof tx4
  have j34 : ∀ (x5 : Int32), zS X G 2 w0 [] 0 0 34 [.int x5] := by
    intro x5
    exact hR _ _ _ _ _ _ dX7_placeOf_34 rfl (Nat.le_of_ble_eq_true rfl) (Nat.le_of_ble_eq_true rfl) ⟨hw0, rfl, rfl, tKeep.rf⟩
  refine z_if_eq hC (pc := 4) 11 dX7_placeOf_4 (by decide) (fun c6 => ?_) (fun c6 => ?_)
  · refine z_iload_n hC (pc := 11) 1 dX7_placeOf_11 rfl rfl ?_
    have j33 : zS X G 2 w0 [] 0 0 33 [] := by
      refine z_iconst hC (pc := 33) (v := 0) dX7_placeOf_33 (by decide) ?_
      exact j34 0
    refine z_if_lt hC (pc := 12) 33 dX7_placeOf_12 (by decide) (fun c7 => ?_) (fun c7 => ?_)
    · refine z_lvs [] rfl ?_
      exact j33
    · refine z_iload_n hC (pc := 15) 1 dX7_placeOf_15 rfl rfl ?_
      refine z_aload_n hC (pc := 16) 0 dX7_placeOf_16 rfl rfl ?_
      refine u_get hC hw0 (pc := 17) zf7 3 (hE.o7 h0) rfl dX7_placeOf_17 zw118 (kk := fun va8 ta8 fa8 => ?_)
      obtain ⟨a8, ma8, rfl⟩ := ta8
      obtain ⟨N9, hN9, AN9⟩ := hE.ints ma8
      refine u_alenI hC hw0 (pc := 20) AN9 dX7_placeOf_20 ?_
      refine z_icmp_ge hC (pc := 21) 33 dX7_placeOf_21 (by decide) (fun c10 => ?_) (fun c10 => ?_)
      · refine z_lvs [] rfl ?_
        exact j33
      · refine z_aload_n hC (pc := 24) 0 dX7_placeOf_24 rfl rfl ?_
        refine u_getK hC (pc := 25) zf7 3 fa8 dX7_placeOf_25 zw118 (kk := ?_)
        refine z_iload_n hC (pc := 28) 1 dX7_placeOf_28 rfl rfl ?_
        refine t_iald hC hw0 (pc := 29) AN9 dX7_placeOf_29 (t_inB hN9 c7 c10) (fun x11 _ => ?_)
        refine z_goto hC (pc := 30) 34 dX7_placeOf_30 (by decide) ?_
        refine z_lvs [] rfl ?_
        exact j34 x11
  · refine z_iload_n hC (pc := 7) 1 dX7_placeOf_7 rfl rfl ?_
    refine z_goto hC (pc := 8) 34 dX7_placeOf_8 (by decide) ?_
    refine z_lvs [] rfl ?_
    exact j34 x1
set_option maxRecDepth 20000 in
theorem kX7_stringEnd (l : Launch) (G : zG) (T : tT) (κ : Nat → List Nat) (hst : l.stackTraces = false) (hE : tE G T κ) {a0 : Nat} (h0 : a0 ∈ κ 7) : tMi l G T yX7_stringEnd cX7_stringEnd 3 .int ["java/lang/IllegalStateException"] 7 103 1 6 [.ref a0] uT (uPi 0x1800000000000000000000000000000000000000000000000000000000000000000000000000000000000000000000000000000000000000000) := by
  refine tMi.intro hst rfl (Nat.le_of_ble_eq_true rfl) ?_
  intro w0 hw0 _ X hC hR hO hX
  refine z_aload_n hC (pc := 0) 0 dX7_stringEnd_0 rfl rfl ?_
  obtain ⟨q3, hqq3⟩ := hE.o7 h0
  refine t_callVi hC hw0 (pc := 1) (As := []) (kX7_peek l G T κ hst hE h0) trivial dmX7_peek zf7 hqq3 dX7_stringEnd_1 zw1160 rfl rfl (Nat.le_of_ble_eq_true rfl) (Nat.le_of_ble_eq_true rfl) (Nat.le_of_ble_eq_true rfl) (Nat.le_of_ble_eq_true rfl) (Nat.le_of_ble_eq_true rfl) (fun _ _ _ h => nomatch h) (fun x5 cw4 nw4 w4 hw4 pw4 => ?_)
  obtain ⟨rfl, rfl, kw4⟩ := pw4
  refine z_istore_n hC (pc := 4) (lv' := [(1, .int x5), (0, .ref a0)]) dX7_stringEnd_4 rfl (by decide) rfl ?_
  refine z_aload_n hC (pc := 5) 1 dX7_stringEnd_5 rfl rfl ?_
  refine u_get hC hw4 (pc := 6) zf7 5 (hE.o7 h0) rfl dX7_stringEnd_6 zw122 (kk := fun vx6 tx6 fx6 => ?_)
  obtain ⟨x6, rfl⟩ := tx6
  refine z_iconst hC (pc := 9) (v := 1) dX7_stringEnd_9 (by decide) ?_
  refine z_iadd hC (pc := 10) (v := (x6 + 1)) dX7_stringEnd_10 rfl ?_
  refine z_istore_n hC (pc := 11) (lv' := [(2, .int (x6 + 1)), (1, .int x5), (0, .ref a0)]) dX7_stringEnd_11 rfl (by decide) rfl ?_
  have j12 : ∀ (d12 : Nat), ∀ (w7 : va_W), tW T w7 → tKeep 0x1800000000000000000000000000000000000000000000000000000000000000000000000000000000000000000000000000000000000000000 w4 w7 → ∀ (x8 : Int32), (2 ^ 31 - (x8 : Int32).toInt).toNat ≤ d12 → zS X G 3 w7 [(0, .ref a0), (1, .int x5), (2, .int x8)] 0 0 12 [] := by
    intro d12
    induction d12 with
    | zero => intro w7 hw7 kw7 x8 hd12; exact (t_zero hd12).elim
    | succ d12 ih12 =>
      intro w7 hw7 kw7 x8 hd12
      refine z_iload_n hC (pc := 12) 2 dX7_stringEnd_12 rfl rfl ?_
      refine z_aload_n hC (pc := 13) 0 dX7_stringEnd_13 rfl rfl ?_
      refine u_get hC hw7 (pc := 14) zf7 4 (hE.o7 h0) rfl dX7_stringEnd_14 zw119 (kk := fun vx9 tx9 fx9 => ?_)
      obtain ⟨x9, rfl⟩ := tx9
      have j55 : ∀ (w10 : va_W), tW T w10 → tKeep 0x0 w7 w10 → zS X G 3 w10 [(0, .ref a0), (2, .int x8)] 0 0 55 [] := by
        intro w10 hw10 kw10
        refine z_iload_n hC (pc := 55) 1 dX7_stringEnd_55 rfl rfl ?_
        refine z_aload_n hC (pc := 56) 0 dX7_stringEnd_56 rfl rfl ?_
        refine u_getK hC (pc := 57) zf7 4 (tKeep.F kw10 fx9 rfl) dX7_stringEnd_57 zw119 (kk := ?_)
        have j76 : ∀ (w11 : va_W), tW T w11 → tKeep 0x1800000000000000000000000000000000000000000000000000000000000000000000000000000000000000000000000000000000000000000 w10 w11 → zS X G 3 w11 [(2, .int x8)] 0 0 76 [] := by
          intro w11 hw11 kw11
          refine z_iload_n hC (pc := 76) 0 dX7_stringEnd_76 rfl rfl ?_
          exact hR _ _ _ _ _ _ dX7_stringEnd_77 rfl (Nat.le_of_ble_eq_true rfl) (Nat.le_of_ble_eq_true rfl) ⟨hw11, rfl, rfl, (tKeep.tr (tKeep.tr (tKeep.tr (tKeep.tr tKeep.rf kw4 rfl) kw7 rfl) kw10 rfl) kw11 rfl)⟩
        refine z_icmp_lt hC (pc := 60) 76 dX7_stringEnd_60 (by decide) (fun c12 => ?_) (fun c12 => ?_)
        · refine z_lvs [1] rfl ?_
          exact j76 w10 hw10 tKeep.rf
        · refine z_aload_n hC (pc := 63) 0 dX7_stringEnd_63 rfl rfl ?_
          refine z_iconst hC (pc := 64) (v := 1) dX7_stringEnd_64 (by decide) ?_
          refine z_aload_n hC (pc := 65) 0 dX7_stringEnd_65 rfl rfl ?_
          refine z_aload_n hC (pc := 66) 0 dX7_stringEnd_66 rfl rfl ?_
          refine u_getK hC (pc := 67) zf7 4 (tKeep.F kw10 fx9 rfl) dX7_stringEnd_67 zw119 (kk := ?_)
          refine t_callVi hC hw10 (pc := 70) (As := [.int x9]) (kX7_placeOf l G T κ hst hE h0) trivial dmX7_placeOf zf7 hqq3 dX7_stringEnd_70 zw1165 rfl rfl (Nat.le_of_ble_eq_true rfl) (Nat.le_of_ble_eq_true rfl) (Nat.le_of_ble_eq_true rfl) (Nat.le_of_ble_eq_true rfl) (Nat.le_of_ble_eq_true rfl) (fun _ _ _ h => nomatch h) (fun x14 cw13 nw13 w13 hw13 pw13 => ?_)
          obtain ⟨rfl, rfl, kw13⟩ := pw13
          refine t_callVv hC hw13 (pc := 73) (As := [.int 1, .int x14]) (kX7_fail l G T κ hst hE h0) trivial dmX7_fail zf7 hqq3 dX7_stringEnd_73 zw1020 rfl rfl (Nat.le_of_ble_eq_true rfl) (Nat.le_of_ble_eq_true rfl) (Nat.le_of_ble_eq_true rfl) (Nat.le_of_ble_eq_true rfl) (Nat.le_of_ble_eq_true rfl) (fun E w q hE hw => hO E w _ _ _ _ _ q hE (Nat.le_of_ble_eq_true rfl) (Nat.le_of_ble_eq_true rfl) hw) (fun cw15 nw15 w15 hw15 pw15 => ?_)
          obtain ⟨rfl, rfl, kw15⟩ := pw15
          refine z_lvs [1] rfl ?_
          exact j76 w15 hw15 (tKeep.tr (tKeep.tr tKeep.rf kw13 rfl) kw15 rfl)
      refine z_icmp_ge hC (pc := 17) 55 dX7_stringEnd_17 (by decide) (fun c17 => ?_) (fun c17 => ?_)
      · refine z_lvs [0, 2] rfl ?_
        exact j55 w7 hw7 tKeep.rf
      · refine z_aload_n hC (pc := 20) 0 dX7_stringEnd_20 rfl rfl ?_
        refine z_iload_n hC (pc := 21) 2 dX7_stringEnd_21 rfl rfl ?_
        refine t_callVi hC hw7 (pc := 22) (As := [.int x8]) (kX7_at l G T κ hst hE h0) trivial dmX7_at zf7 hqq3 dX7_stringEnd_22 zw1161 rfl rfl (Nat.le_of_ble_eq_true rfl) (Nat.le_of_ble_eq_true rfl) (Nat.le_of_ble_eq_true rfl) (Nat.le_of_ble_eq_true rfl) (Nat.le_of_ble_eq_true rfl) (fun _ _ _ h => nomatch h) (fun x19 cw18 nw18 w18 hw18 pw18 => ?_)
        obtain ⟨rfl, rfl, kw18⟩ := pw18
        refine z_iload_n hC (pc := 25) 1 dX7_stringEnd_25 rfl rfl ?_
        refine z_icmp_eq hC (pc := 26) 55 dX7_stringEnd_26 (by decide) (fun c20 => ?_) (fun c20 => ?_)
        · refine z_lvs [0, 2] rfl ?_
          exact j55 w18 hw18 (tKeep.tr tKeep.rf kw18 rfl)
        · refine z_aload_n hC (pc := 29) 0 dX7_stringEnd_29 rfl rfl ?_
          refine z_iload_n hC (pc := 30) 2 dX7_stringEnd_30 rfl rfl ?_
          refine t_callVi hC hw18 (pc := 31) (As := [.int x8]) (kX7_at l G T κ hst hE h0) trivial dmX7_at zf7 hqq3 dX7_stringEnd_31 zw1161 rfl rfl (Nat.le_of_ble_eq_true rfl) (Nat.le_of_ble_eq_true rfl) (Nat.le_of_ble_eq_true rfl) (Nat.le_of_ble_eq_true rfl) (Nat.le_of_ble_eq_true rfl) (fun _ _ _ h => nomatch h) (fun x22 cw21 nw21 w21 hw21 pw21 => ?_)
          obtain ⟨rfl, rfl, kw21⟩ := pw21
          refine z_bipush hC (pc := 34) (v := 10) dX7_stringEnd_34 (by decide) ?_
          have j49 : ∀ (w23 : va_W), tW T w23 → tKeep 0x1800000000000000000000000000000000000000000000000000000000000000000000000000000000000000000000000000000000000000000 w21 w23 → zS X G 3 w23 [(0, .ref a0), (1, .int x5), (2, .int x8)] 0 0 49 [] := by
            intro w23 hw23 kw23
            refine z_iinc hC (pc := 49) (v := (x8 + 1)) (lv' := [(2, .int (x8 + 1)), (0, .ref a0), (1, .int x5)]) 2 dX7_stringEnd_49 rfl (congrArg _ (by decide)) (by decide) rfl ?_
            refine z_goto hC (pc := 52) 12 dX7_stringEnd_52 (by decide) ?_
            refine z_lvs [1, 2, 0] rfl ?_
            exact ih12 w23 hw23 (tKeep.tr (tKeep.tr (tKeep.tr (tKeep.tr tKeep.rf kw7 rfl) kw18 rfl) kw21 rfl) kw23 rfl) (x8 + 1) (t_up (Int32.not_le.mp c17) hd12)
          refine z_icmp_ne hC (pc := 36) 49 dX7_stringEnd_36 (by decide) (fun c24 => ?_) (fun c24 => ?_)
          · exact j49 w21 hw21 tKeep.rf
          · refine z_aload_n hC (pc := 39) 0 dX7_stringEnd_39 rfl rfl ?_
            refine z_iconst hC (pc := 40) (v := 1) dX7_stringEnd_40 (by decide) ?_
            refine z_aload_n hC (pc := 41) 0 dX7_stringEnd_41 rfl rfl ?_
            refine z_iload_n hC (pc := 42) 2 dX7_stringEnd_42 rfl rfl ?_
            refine t_callVi hC hw21 (pc := 43) (As := [.int x8]) (kX7_placeOf l G T κ hst hE h0) trivial dmX7_placeOf zf7 hqq3 dX7_stringEnd_43 zw1165 rfl rfl (Nat.le_of_ble_eq_true rfl) (Nat.le_of_ble_eq_true rfl) (Nat.le_of_ble_eq_true rfl) (Nat.le_of_ble_eq_true rfl) (Nat.le_of_ble_eq_true rfl) (fun _ _ _ h => nomatch h) (fun x26 cw25 nw25 w25 hw25 pw25 => ?_)
            obtain ⟨rfl, rfl, kw25⟩ := pw25
            refine t_callVv hC hw25 (pc := 46) (As := [.int 1, .int x26]) (kX7_fail l G T κ hst hE h0) trivial dmX7_fail zf7 hqq3 dX7_stringEnd_46 zw1020 rfl rfl (Nat.le_of_ble_eq_true rfl) (Nat.le_of_ble_eq_true rfl) (Nat.le_of_ble_eq_true rfl) (Nat.le_of_ble_eq_true rfl) (Nat.le_of_ble_eq_true rfl) (fun E w q hE hw => hO E w _ _ _ _ _ q hE (Nat.le_of_ble_eq_true rfl) (Nat.le_of_ble_eq_true rfl) hw) (fun cw27 nw27 w27 hw27 pw27 => ?_)
            obtain ⟨rfl, rfl, kw27⟩ := pw27
            exact j49 w27 hw27 (tKeep.tr (tKeep.tr tKeep.rf kw25 rfl) kw27 rfl)
  refine z_lvs [2, 1, 0] rfl ?_
  exact j12 _ w4 hw4 tKeep.rf (x6 + 1) (Nat.le_refl _)
set_option maxRecDepth 20000 in
theorem kX12_isRow (l : Launch) (G : zG) (T : tT) (κ : Nat → List Nat) (hst : l.stackTraces = false) (hE : tE G T κ) {x0 : Int32} : tMi l G T yX12_isRow cX12_isRow 1 .boolean [] 0 0 0 0 [.int x0] uT (uPz 0x0) := by
  refine tMi.intro hst rfl (Nat.le_of_ble_eq_true rfl) ?_
  intro w0 hw0 _ X hC hR hO hX
  refine z_iload_n hC (pc := 0) 0 dX12_isRow_0 rfl rfl ?_
  refine z_bipush hC (pc := 1) (v := 97) dX12_isRow_1 (by decide) ?_
  have j47 : ∀ (x3 : Int32), tZ (.int x3) → zS X G 1 w0 [] 0 0 47 [.int x3] := by
    intro x3 zx3
    exact hR _ _ _ _ _ _ dX12_isRow_47 (t_nZ zx3) (Nat.le_of_ble_eq_true rfl) (Nat.le_of_ble_eq_true rfl) ⟨hw0, rfl, rfl, tKeep.rf, zx3⟩
  have j42 : zS X G 1 w0 [] 0 0 42 [] := by
    refine z_iconst hC (pc := 42) (v := 1) dX12_isRow_42 (by decide) ?_
    refine z_goto hC (pc := 43) 47 dX12_isRow_43 (by decide) ?_
    exact j47 1 (Or.inr rfl)
  have j12 : zS X G 1 w0 [(0, .int x0)] 0 0 12 [] := by
    refine z_iload_n hC (pc := 12) 0 dX12_isRow_12 rfl rfl ?_
    refine z_bipush hC (pc := 13) (v := 65) dX12_isRow_13 (by decide) ?_
    have j24 : zS X G 1 w0 [(0, .int x0)] 0 0 24 [] := by
      refine z_iload_n hC (pc := 24) 0 dX12_isRow_24 rfl rfl ?_
      refine z_bipush hC (pc := 25) (v := 95) dX12_isRow_25 (by decide) ?_
      refine z_icmp_eq hC (pc := 27) 42 dX12_isRow_27 (by decide) (fun c4 => ?_) (fun c4 => ?_)
      · refine z_lvs [] rfl ?_
        exact j42
      · refine z_iload_n hC (pc := 30) 0 dX12_isRow_30 rfl rfl ?_
        refine z_bipush hC (pc := 31) (v := 48) dX12_isRow_31 (by decide) ?_
        have j46 : zS X G 1 w0 [] 0 0 46 [] := by
          refine z_iconst hC (pc := 46) (v := 0) dX12_isRow_46 (by decide) ?_
          exact j47 0 (Or.inl rfl)
        refine z_icmp_lt hC (pc := 33) 46 dX12_isRow_33 (by decide) (fun c5 => ?_) (fun c5 => ?_)
        · refine z_lvs [] rfl ?_
          exact j46
        · refine z_iload_n hC (pc := 36) 0 dX12_isRow_36 rfl rfl ?_
          refine z_bipush hC (pc := 37) (v := 57) dX12_isRow_37 (by decide) ?_
          refine z_icmp_gt hC (pc := 39) 46 dX12_isRow_39 (by decide) (fun c6 => ?_) (fun c6 => ?_)
          · refine z_lvs [] rfl ?_
            exact j46
          · refine z_lvs [] rfl ?_
            exact j42
    refine z_icmp_lt hC (pc := 15) 24 dX12_isRow_15 (by decide) (fun c7 => ?_) (fun c7 => ?_)
    · exact j24
    · refine z_iload_n hC (pc := 18) 0 dX12_isRow_18 rfl rfl ?_
      refine z_bipush hC (pc := 19) (v := 90) dX12_isRow_19 (by decide) ?_
      refine z_icmp_le hC (pc := 21) 42 dX12_isRow_21 (by decide) (fun c8 => ?_) (fun c8 => ?_)
      · refine z_lvs [] rfl ?_
        exact j42
      · exact j24
  refine z_icmp_lt hC (pc := 3) 12 dX12_isRow_3 (by decide) (fun c9 => ?_) (fun c9 => ?_)
  · exact j12
  · refine z_iload_n hC (pc := 6) 0 dX12_isRow_6 rfl rfl ?_
    refine z_bipush hC (pc := 7) (v := 122) dX12_isRow_7 (by decide) ?_
    refine z_icmp_le hC (pc := 9) 42 dX12_isRow_9 (by decide) (fun c10 => ?_) (fun c10 => ?_)
    · refine z_lvs [] rfl ?_
      exact j42
    · exact j12
set_option maxRecDepth 20000 in
theorem kX7_isBecomes (l : Launch) (G : zG) (T : tT) (κ : Nat → List Nat) (hst : l.stackTraces = false) (hE : tE G T κ) {a0 : Nat} (h0 : a0 ∈ κ 7) : tMi l G T yX7_isBecomes cX7_isBecomes 1 .boolean [] 1 21 0 0 [.ref a0] uT (uPz 0x0) := by
  refine tMi.intro hst rfl (Nat.le_of_ble_eq_true rfl) ?_
  intro w0 hw0 _ X hC hR hO hX
  refine z_aload_n hC (pc := 0) 0 dX7_isBecomes_0 rfl rfl ?_
  refine z_aload_n hC (pc := 1) 0 dX7_isBecomes_1 rfl rfl ?_
  refine u_get hC hw0 (pc := 2) zf7 5 (hE.o7 h0) rfl dX7_isBecomes_2 zw122 (kk := fun vx3 tx3 fx3 => ?_)
  obtain ⟨x3, rfl⟩ := tx3
  obtain ⟨q4, hqq4⟩ := hE.o7 h0
  refine t_callVi hC hw0 (pc := 5) (As := [.int x3]) (kX7_at l G T κ hst hE h0) trivial dmX7_at zf7 hqq4 dX7_isBecomes_5 zw1161 rfl rfl (Nat.le_of_ble_eq_true rfl) (Nat.le_of_ble_eq_true rfl) (Nat.le_of_ble_eq_true rfl) (Nat.le_of_ble_eq_true rfl) (Nat.le_of_ble_eq_true rfl) (fun _ _ _ h => nomatch h) (fun x6 cw5 nw5 w5 hw5 pw5 => ?_)
  obtain ⟨rfl, rfl, kw5⟩ := pw5
  refine z_bipush hC (pc := 8) (v := 58) dX7_isBecomes_8 (by decide) ?_
  have j48 : ∀ (w7 : va_W), tW T w7 → tKeep 0x0 w5 w7 → ∀ (x8 : Int32), tZ (.int x8) → zS X G 1 w7 [] 0 0 48 [.int x8] := by
    intro w7 hw7 kw7 x8 zx8
    exact hR _ _ _ _ _ _ dX7_isBecomes_48 (t_nZ zx8) (Nat.le_of_ble_eq_true rfl) (Nat.le_of_ble_eq_true rfl) ⟨hw7, rfl, rfl, (tKeep.tr (tKeep.tr tKeep.rf kw5 rfl) kw7 rfl), zx8⟩
  have j47 : ∀ (w9 : va_W), tW T w9 → tKeep 0x0 w5 w9 → zS X G 1 w9 [] 0 0 47 [] := by
    intro w9 hw9 kw9
    refine z_iconst hC (pc := 47) (v := 0) dX7_isBecomes_47 (by decide) ?_
    exact j48 w9 hw9 (tKeep.tr tKeep.rf kw9 rfl) 0 (Or.inl rfl)
  refine z_icmp_ne hC (pc := 10) 47 dX7_isBecomes_10 (by decide) (fun c10 => ?_) (fun c10 => ?_)
  · refine z_lvs [] rfl ?_
    exact j47 w5 hw5 tKeep.rf
  · refine z_aload_n hC (pc := 13) 0 dX7_isBecomes_13 rfl rfl ?_
    refine z_aload_n hC (pc := 14) 0 dX7_isBecomes_14 rfl rfl ?_
    refine u_getK hC (pc := 15) zf7 5 (tKeep.F kw5 fx3 rfl) dX7_isBecomes_15 zw122 (kk := ?_)
    refine z_iconst hC (pc := 18) (v := 1) dX7_isBecomes_18 (by decide) ?_
    refine z_iadd hC (pc := 19) (v := (x3 + 1)) dX7_isBecomes_19 rfl ?_
    refine t_callVi hC hw5 (pc := 20) (As := [.int (x3 + 1)]) (kX7_at l G T κ hst hE h0) trivial dmX7_at zf7 hqq4 dX7_isBecomes_20 zw1161 rfl rfl (Nat.le_of_ble_eq_true rfl) (Nat.le_of_ble_eq_true rfl) (Nat.le_of_ble_eq_true rfl) (Nat.le_of_ble_eq_true rfl) (Nat.le_of_ble_eq_true rfl) (fun _ _ _ h => nomatch h) (fun x12 cw11 nw11 w11 hw11 pw11 => ?_)
    obtain ⟨rfl, rfl, kw11⟩ := pw11
    refine z_bipush hC (pc := 23) (v := 58) dX7_isBecomes_23 (by decide) ?_
    refine z_icmp_ne hC (pc := 25) 47 dX7_isBecomes_25 (by decide) (fun c13 => ?_) (fun c13 => ?_)
    · refine z_lvs [] rfl ?_
      exact j47 w11 hw11 (tKeep.tr tKeep.rf kw11 rfl)
    · refine z_aload_n hC (pc := 28) 0 dX7_isBecomes_28 rfl rfl ?_
      refine z_aload_n hC (pc := 29) 0 dX7_isBecomes_29 rfl rfl ?_
      refine u_getK hC (pc := 30) zf7 5 (tKeep.F kw11 (tKeep.F kw5 fx3 rfl) rfl) dX7_isBecomes_30 zw122 (kk := ?_)
      refine z_iconst hC (pc := 33) (v := 2) dX7_isBecomes_33 (by decide) ?_
      refine z_iadd hC (pc := 34) (v := (x3 + 2)) dX7_isBecomes_34 rfl ?_
      refine t_callVi hC hw11 (pc := 35) (As := [.int (x3 + 2)]) (kX7_at l G T κ hst hE h0) trivial dmX7_at zf7 hqq4 dX7_isBecomes_35 zw1161 rfl rfl (Nat.le_of_ble_eq_true rfl) (Nat.le_of_ble_eq_true rfl) (Nat.le_of_ble_eq_true rfl) (Nat.le_of_ble_eq_true rfl) (Nat.le_of_ble_eq_true rfl) (fun _ _ _ h => nomatch h) (fun x15 cw14 nw14 w14 hw14 pw14 => ?_)
      obtain ⟨rfl, rfl, kw14⟩ := pw14
      refine z_bipush hC (pc := 38) (v := 61) dX7_isBecomes_38 (by decide) ?_
      refine z_icmp_ne hC (pc := 40) 47 dX7_isBecomes_40 (by decide) (fun c16 => ?_) (fun c16 => ?_)
      · refine z_lvs [] rfl ?_
        exact j47 w14 hw14 (tKeep.tr (tKeep.tr tKeep.rf kw11 rfl) kw14 rfl)
      · refine z_iconst hC (pc := 43) (v := 1) dX7_isBecomes_43 (by decide) ?_
        refine z_goto hC (pc := 44) 48 dX7_isBecomes_44 (by decide) ?_
        refine z_lvs [] rfl ?_
        exact j48 w14 hw14 (tKeep.tr (tKeep.tr tKeep.rf kw11 rfl) kw14 rfl) 1 (Or.inr rfl)
set_option maxRecDepth 20000 in
theorem kX1_isOnTheWay (l : Launch) (G : zG) (T : tT) (κ : Nat → List Nat) (hst : l.stackTraces = false) (hE : tE G T κ) {a0 : Nat} (h0 : a0 ∈ κ 1) {x1 : Int32} : tMi l G T yX1_isOnTheWay cX1_isOnTheWay 3 .boolean [] 1 21 0 0 [.ref a0, .int x1] uT (uPz 0x0) := by
  refine tMi.intro hst rfl (Nat.le_of_ble_eq_true rfl) ?_
  intro w0 hw0 _ X hC hR hO hX
  refine z_iconst hC (pc := 0) (v := 0) dX1_isOnTheWay_0 (by decide) ?_
  refine z_istore_n hC (pc := 1) (lv' := [(2, .int 0), (0, .ref a0), (1, .int x1)]) dX1_isOnTheWay_1 rfl (by decide) rfl ?_
  have j2 : ∀ (d2 : Nat), ∀ (w4 : va_W), tW T w4 → tKeep 0x0 w0 w4 → ∀ (x5 : Int32), ¬ x5 < 0 → (2 ^ 31 - (x5 : Int32).toInt).toNat ≤ d2 → zS X G 3 w4 [(0, .ref a0), (1, .int x1), (2, .int x5)] 0 0 2 [] := by
    intro d2
    induction d2 with
    | zero => intro w4 hw4 kw4 x5 v6 hd2; exact (t_zero hd2).elim
    | succ d2 ih2 =>
      intro w4 hw4 kw4 x5 v6 hd2
      refine z_iload_n hC (pc := 2) 2 dX1_isOnTheWay_2 rfl rfl ?_
      refine z_aload_n hC (pc := 3) 0 dX1_isOnTheWay_3 rfl rfl ?_
      refine u_get hC hw4 (pc := 4) zf1 14 (hE.o1 h0) rfl dX1_isOnTheWay_4 zw398 (kk := fun vx7 tx7 fx7 => ?_)
      obtain ⟨x7, rfl⟩ := tx7
      refine z_icmp_ge hC (pc := 7) 30 dX1_isOnTheWay_7 (by decide) (fun c8 => ?_) (fun c8 => ?_)
      · refine z_iconst hC (pc := 30) (v := 0) dX1_isOnTheWay_30 (by decide) ?_
        exact hR _ _ _ _ _ _ dX1_isOnTheWay_31 rfl (Nat.le_of_ble_eq_true rfl) (Nat.le_of_ble_eq_true rfl) ⟨hw4, rfl, rfl, (tKeep.tr tKeep.rf kw4 rfl), (Or.inl rfl)⟩
      · refine z_aload_n hC (pc := 10) 0 dX1_isOnTheWay_10 rfl rfl ?_
        refine u_get hC hw4 (pc := 11) zf1 12 (hE.o1 h0) rfl dX1_isOnTheWay_11 zw396 (kk := fun va9 ta9 fa9 => ?_)
        obtain ⟨a9, ma9, rfl⟩ := ta9
        refine z_iload_n hC (pc := 14) 2 dX1_isOnTheWay_14 rfl rfl ?_
        refine t_callSNi hC hw4 (pc := 15) (As := [.ref a9, .int x5]) (kX12_get l G T κ hst hE ma9) trivial dmX12_get dX1_isOnTheWay_15 zw999 rfl rfl (Nat.le_of_ble_eq_true rfl) (Nat.le_of_ble_eq_true rfl) (Nat.le_of_ble_eq_true rfl) (Nat.le_of_ble_eq_true rfl) (Nat.le_of_ble_eq_true rfl) (fun _ _ _ h => nomatch h) (fun x11 cw10 nw10 w10 hw10 pw10 => ?_)
        obtain ⟨rfl, rfl, kw10⟩ := pw10
        refine z_iload_n hC (pc := 18) 1 dX1_isOnTheWay_18 rfl rfl ?_
        refine z_icmp_ne hC (pc := 19) 24 dX1_isOnTheWay_19 (by decide) (fun c12 => ?_) (fun c12 => ?_)
        · refine z_iinc hC (pc := 24) (v := (x5 + 1)) (lv' := [(2, .int (x5 + 1)), (0, .ref a0), (1, .int x1)]) 2 dX1_isOnTheWay_24 rfl (congrArg _ (by decide)) (by decide) rfl ?_
          refine z_goto hC (pc := 27) 2 dX1_isOnTheWay_27 (by decide) ?_
          refine z_lvs [1, 2, 0] rfl ?_
          exact ih2 w10 hw10 (tKeep.tr (tKeep.tr tKeep.rf kw4 rfl) kw10 rfl) (x5 + 1) (t_nnI v6 (Int32.not_le.mp c8)) (t_up (Int32.not_le.mp c8) hd2)
        · refine z_iconst hC (pc := 22) (v := 1) dX1_isOnTheWay_22 (by decide) ?_
          exact hR _ _ _ _ _ _ dX1_isOnTheWay_23 rfl (Nat.le_of_ble_eq_true rfl) (Nat.le_of_ble_eq_true rfl) ⟨hw10, rfl, rfl, (tKeep.tr (tKeep.tr tKeep.rf kw4 rfl) kw10 rfl), (Or.inr rfl)⟩
  refine z_lvs [1, 2, 0] rfl ?_
  exact j2 _ w0 hw0 tKeep.rf 0 (by decide) (Nat.le_refl _)
set_option maxRecDepth 20000 in
theorem kX4_note (l : Launch) (G : zG) (T : tT) (κ : Nat → List Nat) (hst : l.stackTraces = false) (hE : tE G T κ) {a0 : Nat} (h0 : a0 ∈ κ 4) {x1 : Int32} {x2 : Int32} : tMv l G T yX4_note cX4_note 5 [] 1 22 0 0 [.ref a0, .int x1, .int x2] uT (uPv 0x0) := by
  refine tMv.intro hst rfl (Nat.le_of_ble_eq_true rfl) ?_
  intro w0 hw0 _ X hC hR hO hX
  refine z_aload_n hC (pc := 0) 0 dX4_note_0 rfl rfl ?_
  refine u_get hC hw0 (pc := 1) zf4 1 (hE.o4 h0) rfl dX4_note_1 zw208 (kk := fun va5 ta5 fa5 => ?_)
  obtain ⟨a5, ma5, rfl⟩ := ta5
  refine z_iload_n hC (pc := 4) 1 dX4_note_4 rfl rfl ?_
  refine t_callSNi hC hw0 (pc := 5) (As := [.ref a5, .int x1]) (kX12_get l G T κ hst hE ma5) trivial dmX12_get dX4_note_5 zw992 rfl rfl (Nat.le_of_ble_eq_true rfl) (Nat.le_of_ble_eq_true rfl) (Nat.le_of_ble_eq_true rfl) (Nat.le_of_ble_eq_true rfl) (Nat.le_of_ble_eq_true rfl) (fun _ _ _ h => nomatch h) (fun x7 cw6 nw6 w6 hw6 pw6 => ?_)
  obtain ⟨rfl, rfl, kw6⟩ := pw6
  refine z_istore_n hC (pc := 8) (lv' := [(3, .int x7), (0, .ref a0), (1, .int x1), (2, .int x2)]) dX4_note_8 rfl (by decide) rfl ?_
  refine z_iconst hC (pc := 9) (v := 0) dX4_note_9 (by decide) ?_
  refine z_istore hC (pc := 10) (lv' := [(4, .int 0), (3, .int x7), (0, .ref a0), (1, .int x1), (2, .int x2)]) dX4_note_10 (by decide) rfl ?_
  have j12 : ∀ (d12 : Nat), ∀ (w8 : va_W), tW T w8 → tKeep 0x0 w6 w8 → ∀ (x9 : Int32), ¬ x9 < 0 → (2 ^ 31 - (x9 : Int32).toInt).toNat ≤ d12 → zS X G 5 w8 [(0, .ref a0), (1, .int x1), (2, .int x2), (3, .int x7), (4, .int x9)] 0 0 12 [] := by
    intro d12
    induction d12 with
    | zero => intro w8 hw8 kw8 x9 v10 hd12; exact (t_zero hd12).elim
    | succ d12 ih12 =>
      intro w8 hw8 kw8 x9 v10 hd12
      refine z_iload hC (pc := 12) 4 dX4_note_12 rfl ?_
      refine z_iload_n hC (pc := 14) 3 dX4_note_14 rfl rfl ?_
      refine z_icmp_ge hC (pc := 15) 43 dX4_note_15 (by decide) (fun c11 => ?_) (fun c11 => ?_)
      · refine z_iload_n hC (pc := 43) 3 dX4_note_43 rfl rfl ?_
        refine z_bipush hC (pc := 44) (v := 8) dX4_note_44 (by decide) ?_
        have j74 : ∀ (w12 : va_W), tW T w12 → tKeep 0x0 w8 w12 → zS X G 5 w12 [] 0 0 74 [] := by
          intro w12 hw12 kw12
          exact hR _ _ _ _ _ dX4_note_74 (Nat.le_of_ble_eq_true rfl) (Nat.le_of_ble_eq_true rfl) ⟨hw12, rfl, rfl, (tKeep.tr (tKeep.tr (tKeep.tr tKeep.rf kw6 rfl) kw8 rfl) kw12 rfl)⟩
        refine z_icmp_ge hC (pc := 46) 74 dX4_note_46 (by decide) (fun c13 => ?_) (fun c13 => ?_)
        · refine z_lvs [] rfl ?_
          exact j74 w8 hw8 tKeep.rf
        · refine z_aload_n hC (pc := 49) 0 dX4_note_49 rfl rfl ?_
          refine u_get hC hw8 (pc := 50) zf4 0 (hE.o4 h0) rfl dX4_note_50 zw206 (kk := fun va14 ta14 fa14 => ?_)
          obtain ⟨a14, ma14, rfl⟩ := ta14
          refine z_bipush hC (pc := 53) (v := 8) dX4_note_53 (by decide) ?_
          refine z_iload_n hC (pc := 55) 1 dX4_note_55 rfl rfl ?_
          refine z_imul hC (pc := 56) (v := ((8 : Int32) * x1)) dX4_note_56 rfl ?_
          refine z_iload_n hC (pc := 57) 3 dX4_note_57 rfl rfl ?_
          refine z_iadd hC (pc := 58) (v := (((8 : Int32) * x1) + x7)) dX4_note_58 rfl ?_
          refine z_iload_n hC (pc := 59) 2 dX4_note_59 rfl rfl ?_
          refine t_callSNv hC hw8 (pc := 60) (As := [.ref a14, .int (((8 : Int32) * x1) + x7), .int x2]) (kX12_set l G T κ hst hE ma14) trivial dmX12_set dX4_note_60 zw998 rfl rfl (Nat.le_of_ble_eq_true rfl) (Nat.le_of_ble_eq_true rfl) (Nat.le_of_ble_eq_true rfl) (Nat.le_of_ble_eq_true rfl) (Nat.le_of_ble_eq_true rfl) (fun _ _ _ h => nomatch h) (fun cw15 nw15 w15 hw15 pw15 => ?_)
          obtain ⟨rfl, rfl, kw15⟩ := pw15
          refine z_aload_n hC (pc := 63) 0 dX4_note_63 rfl rfl ?_
          refine u_getK hC (pc := 64) zf4 1 (tKeep.F kw15 (tKeep.F kw8 (tKeep.F kw6 fa5 rfl) rfl) rfl) dX4_note_64 zw208 (kk := ?_)
          refine z_iload_n hC (pc := 67) 1 dX4_note_67 rfl rfl ?_
          refine z_iload_n hC (pc := 68) 3 dX4_note_68 rfl rfl ?_
          refine z_iconst hC (pc := 69) (v := 1) dX4_note_69 (by decide) ?_
          refine z_iadd hC (pc := 70) (v := (x7 + 1)) dX4_note_70 rfl ?_
          refine t_callSNv hC hw15 (pc := 71) (As := [.ref a5, .int x1, .int (x7 + 1)]) (kX12_set l G T κ hst hE ma5) trivial dmX12_set dX4_note_71 zw998 rfl rfl (Nat.le_of_ble_eq_true rfl) (Nat.le_of_ble_eq_true rfl) (Nat.le_of_ble_eq_true rfl) (Nat.le_of_ble_eq_true rfl) (Nat.le_of_ble_eq_true rfl) (fun _ _ _ h => nomatch h) (fun cw17 nw17 w17 hw17 pw17 => ?_)
          obtain ⟨rfl, rfl, kw17⟩ := pw17
          refine z_lvs [] rfl ?_
          exact j74 w17 hw17 (tKeep.tr (tKeep.tr tKeep.rf kw15 rfl) kw17 rfl)
      · refine z_aload_n hC (pc := 18) 0 dX4_note_18 rfl rfl ?_
        refine u_get hC hw8 (pc := 19) zf4 0 (hE.o4 h0) rfl dX4_note_19 zw206 (kk := fun va19 ta19 fa19 => ?_)
        obtain ⟨a19, ma19, rfl⟩ := ta19
        refine z_bipush hC (pc := 22) (v := 8) dX4_note_22 (by decide) ?_
        refine z_iload_n hC (pc := 24) 1 dX4_note_24 rfl rfl ?_
        refine z_imul hC (pc := 25) (v := ((8 : Int32) * x1)) dX4_note_25 rfl ?_
        refine z_iload hC (pc := 26) 4 dX4_note_26 rfl ?_
        refine z_iadd hC (pc := 28) (v := (((8 : Int32) * x1) + x9)) dX4_note_28 rfl ?_
        refine t_callSNi hC hw8 (pc := 29) (As := [.ref a19, .int (((8 : Int32) * x1) + x9)]) (kX12_get l G T κ hst hE ma19) trivial dmX12_get dX4_note_29 zw992 rfl rfl (Nat.le_of_ble_eq_true rfl) (Nat.le_of_ble_eq_true rfl) (Nat.le_of_ble_eq_true rfl) (Nat.le_of_ble_eq_true rfl) (Nat.le_of_ble_eq_true rfl) (fun _ _ _ h => nomatch h) (fun x21 cw20 nw20 w20 hw20 pw20 => ?_)
        obtain ⟨rfl, rfl, kw20⟩ := pw20
        refine z_iload_n hC (pc := 32) 2 dX4_note_32 rfl rfl ?_
        refine z_icmp_ne hC (pc := 33) 37 dX4_note_33 (by decide) (fun c22 => ?_) (fun c22 => ?_)
        · refine z_iinc hC (pc := 37) (v := (x9 + 1)) (lv' := [(4, .int (x9 + 1)), (0, .ref a0), (1, .int x1), (2, .int x2), (3, .int x7)]) 4 dX4_note_37 rfl (congrArg _ (by decide)) (by decide) rfl ?_
          refine z_goto hC (pc := 40) 12 dX4_note_40 (by decide) ?_
          refine z_lvs [1, 2, 3, 4, 0] rfl ?_
          exact ih12 w20 hw20 (tKeep.tr (tKeep.tr tKeep.rf kw8 rfl) kw20 rfl) (x9 + 1) (t_nnI v10 (Int32.not_le.mp c11)) (t_up (Int32.not_le.mp c11) hd12)
        · exact hR _ _ _ _ _ dX4_note_36 (Nat.le_of_ble_eq_true rfl) (Nat.le_of_ble_eq_true rfl) ⟨hw20, rfl, rfl, (tKeep.tr (tKeep.tr (tKeep.tr tKeep.rf kw6 rfl) kw8 rfl) kw20 rfl)⟩
  refine z_lvs [2, 3, 4, 1, 0] rfl ?_
  exact j12 _ w6 hw6 tKeep.rf 0 (by decide) (Nat.le_refl _)
set_option maxRecDepth 20000 in
theorem kX12_isLetter (l : Launch) (G : zG) (T : tT) (κ : Nat → List Nat) (hst : l.stackTraces = false) (hE : tE G T κ) {x0 : Int32} : tMi l G T yX12_isLetter cX12_isLetter 1 .boolean [] 0 0 0 0 [.int x0] uT (uPz 0x0) := by
  refine tMi.intro hst rfl (Nat.le_of_ble_eq_true rfl) ?_
  intro w0 hw0 _ X hC hR hO hX
  refine z_iload_n hC (pc := 0) 0 dX12_isLetter_0 rfl rfl ?_
  refine z_bipush hC (pc := 1) (v := 97) dX12_isLetter_1 (by decide) ?_
  have j35 : ∀ (x3 : Int32), tZ (.int x3) → zS X G 1 w0 [] 0 0 35 [.int x3] := by
    intro x3 zx3
    exact hR _ _ _ _ _ _ dX12_isLetter_35 (t_nZ zx3) (Nat.le_of_ble_eq_true rfl) (Nat.le_of_ble_eq_true rfl) ⟨hw0, rfl, rfl, tKeep.rf, zx3⟩
  have j30 : zS X G 1 w0 [] 0 0 30 [] := by
    refine z_iconst hC (pc := 30) (v := 1) dX12_isLetter_30 (by decide) ?_
    refine z_goto hC (pc := 31) 35 dX12_isLetter_31 (by decide) ?_
    exact j35 1 (Or.inr rfl)
  have j12 : zS X G 1 w0 [(0, .int x0)] 0 0 12 [] := by
    refine z_iload_n hC (pc := 12) 0 dX12_isLetter_12 rfl rfl ?_
    refine z_bipush hC (pc := 13) (v := 65) dX12_isLetter_13 (by decide) ?_
    have j24 : zS X G 1 w0 [(0, .int x0)] 0 0 24 [] := by
      refine z_iload_n hC (pc := 24) 0 dX12_isLetter_24 rfl rfl ?_
      refine z_bipush hC (pc := 25) (v := 95) dX12_isLetter_25 (by decide) ?_
      refine z_icmp_ne hC (pc := 27) 34 dX12_isLetter_27 (by decide) (fun c4 => ?_) (fun c4 => ?_)
      · refine z_iconst hC (pc := 34) (v := 0) dX12_isLetter_34 (by decide) ?_
        refine z_lvs [] rfl ?_
        exact j35 0 (Or.inl rfl)
      · refine z_lvs [] rfl ?_
        exact j30
    refine z_icmp_lt hC (pc := 15) 24 dX12_isLetter_15 (by decide) (fun c5 => ?_) (fun c5 => ?_)
    · exact j24
    · refine z_iload_n hC (pc := 18) 0 dX12_isLetter_18 rfl rfl ?_
      refine z_bipush hC (pc := 19) (v := 90) dX12_isLetter_19 (by decide) ?_
      refine z_icmp_le hC (pc := 21) 30 dX12_isLetter_21 (by decide) (fun c6 => ?_) (fun c6 => ?_)
      · refine z_lvs [] rfl ?_
        exact j30
      · exact j24
  refine z_icmp_lt hC (pc := 3) 12 dX12_isLetter_3 (by decide) (fun c7 => ?_) (fun c7 => ?_)
  · exact j12
  · refine z_iload_n hC (pc := 6) 0 dX12_isLetter_6 rfl rfl ?_
    refine z_bipush hC (pc := 7) (v := 122) dX12_isLetter_7 (by decide) ?_
    refine z_icmp_le hC (pc := 9) 30 dX12_isLetter_9 (by decide) (fun c8 => ?_) (fun c8 => ?_)
    · refine z_lvs [] rfl ?_
      exact j30
    · exact j12
set_option maxRecDepth 20000 in
theorem kX7_here (l : Launch) (G : zG) (T : tT) (κ : Nat → List Nat) (hst : l.stackTraces = false) (hE : tE G T κ) {a0 : Nat} (h0 : a0 ∈ κ 7) : tMi l G T yX7_here cX7_here 1 .int [] 0 0 0 0 [.ref a0] uT (uPi 0x0) := by
  refine tMi.intro hst rfl (Nat.le_of_ble_eq_true rfl) ?_
  intro w0 hw0 _ X hC hR hO hX
  refine z_aload_n hC (pc := 0) 0 dX7_here_0 rfl rfl ?_
  refine u_get hC hw0 (pc := 1) zf7 1 (hE.o7 h0) rfl dX7_here_1 zw116 (kk := fun vx3 tx3 fx3 => ?_)
  obtain ⟨x3, rfl, zx3⟩ := t_zof tx3
  have j46 : ∀ (x4 : Int32), zS X G 1 w0 [] 0 0 46 [.int x4] := by
    intro x4
    exact hR _ _ _ _ _ _ dX7_here_46 rfl (Nat.le_of_ble_eq_true rfl) (Nat.le_of_ble_eq_true rfl) ⟨hw0, rfl, rfl, tKeep.rf⟩
  refine z_if_eq hC (pc := 4) 14 dX7_here_4 (by decide) (fun c5 => ?_) (fun c5 => ?_)
  · refine z_aload_n hC (pc := 14) 0 dX7_here_14 rfl rfl ?_
    refine u_get hC hw0 (pc := 15) zf7 5 (hE.o7 h0) rfl dX7_here_15 zw122 (kk := fun vx6 tx6 fx6 => ?_)
    obtain ⟨x6, rfl⟩ := tx6
    have j45 : zS X G 1 w0 [] 0 0 45 [] := by
      refine z_iconst hC (pc := 45) (v := 0) dX7_here_45 (by decide) ?_
      exact j46 0
    refine z_if_lt hC (pc := 18) 45 dX7_here_18 (by decide) (fun c7 => ?_) (fun c7 => ?_)
    · refine z_lvs [] rfl ?_
      exact j45
    · refine z_aload_n hC (pc := 21) 0 dX7_here_21 rfl rfl ?_
      refine u_getK hC (pc := 22) zf7 5 fx6 dX7_here_22 zw122 (kk := ?_)
      refine z_aload_n hC (pc := 25) 0 dX7_here_25 rfl rfl ?_
      refine u_get hC hw0 (pc := 26) zf7 3 (hE.o7 h0) rfl dX7_here_26 zw118 (kk := fun va8 ta8 fa8 => ?_)
      obtain ⟨a8, ma8, rfl⟩ := ta8
      obtain ⟨N9, hN9, AN9⟩ := hE.ints ma8
      refine u_alenI hC hw0 (pc := 29) AN9 dX7_here_29 ?_
      refine z_icmp_ge hC (pc := 30) 45 dX7_here_30 (by decide) (fun c10 => ?_) (fun c10 => ?_)
      · refine z_lvs [] rfl ?_
        exact j45
      · refine z_aload_n hC (pc := 33) 0 dX7_here_33 rfl rfl ?_
        refine u_getK hC (pc := 34) zf7 3 fa8 dX7_here_34 zw118 (kk := ?_)
        refine z_aload_n hC (pc := 37) 0 dX7_here_37 rfl rfl ?_
        refine u_getK hC (pc := 38) zf7 5 fx6 dX7_here_38 zw122 (kk := ?_)
        refine t_iald hC hw0 (pc := 41) AN9 dX7_here_41 (t_inB hN9 c7 c10) (fun x11 _ => ?_)
        refine z_goto hC (pc := 42) 46 dX7_here_42 (by decide) ?_
        refine z_lvs [] rfl ?_
        exact j46 x11
  · refine z_aload_n hC (pc := 7) 0 dX7_here_7 rfl rfl ?_
    refine u_get hC hw0 (pc := 8) zf7 5 (hE.o7 h0) rfl dX7_here_8 zw122 (kk := fun vx12 tx12 fx12 => ?_)
    obtain ⟨x12, rfl⟩ := tx12
    refine z_goto hC (pc := 11) 46 dX7_here_11 (by decide) ?_
    refine z_lvs [] rfl ?_
    exact j46 x12
set_option maxRecDepth 20000 in
theorem kX2_newDef (l : Launch) (G : zG) (T : tT) (κ : Nat → List Nat) (hst : l.stackTraces = false) (hE : tE G T κ) {a0 : Nat} (h0 : a0 ∈ κ 2) {x1 : Int32} {x2 : Int32} {x3 : Int32} {x4 : Int32} : tMi l G T yX2_newDef cX2_newDef 6 .int [] 1 22 0 0 [.ref a0, .int x1, .int x2, .int x3, .int x4] uT (uPi 0x10000000000000000000000000000000000) := by
  refine tMi.intro hst rfl (Nat.le_of_ble_eq_true rfl) ?_
  intro w0 hw0 _ X hC hR hO hX
  refine z_aload_n hC (pc := 0) 0 dX2_newDef_0 rfl rfl ?_
  refine u_get hC hw0 (pc := 1) zf2 8 (hE.o2 h0) rfl dX2_newDef_1 zw259 (kk := fun vx7 tx7 fx7 => ?_)
  obtain ⟨x7, rfl⟩ := tx7
  refine z_bipush hC (pc := 4) (v := 7) dX2_newDef_4 (by decide) ?_
  refine z_imul hC (pc := 6) (v := (x7 * 7)) dX2_newDef_6 rfl ?_
  refine z_istore hC (pc := 7) (lv' := [(5, .int (x7 * 7)), (0, .ref a0), (1, .int x1), (2, .int x2), (3, .int x3), (4, .int x4)]) dX2_newDef_7 (by decide) rfl ?_
  refine z_aload_n hC (pc := 9) 1 dX2_newDef_9 rfl rfl ?_
  refine u_get hC hw0 (pc := 10) zf2 7 (hE.o2 h0) rfl dX2_newDef_10 zw256 (kk := fun va8 ta8 fa8 => ?_)
  obtain ⟨a8, ma8, rfl⟩ := ta8
  refine z_iload hC (pc := 13) 0 dX2_newDef_13 rfl ?_
  refine z_iload_n hC (pc := 15) 2 dX2_newDef_15 rfl rfl ?_
  refine t_callSNv hC hw0 (pc := 16) (As := [.ref a8, .int (x7 * 7), .int x1]) (kX12_set l G T κ hst hE ma8) trivial dmX12_set dX2_newDef_16 zw1289 rfl rfl (Nat.le_of_ble_eq_true rfl) (Nat.le_of_ble_eq_true rfl) (Nat.le_of_ble_eq_true rfl) (Nat.le_of_ble_eq_true rfl) (Nat.le_of_ble_eq_true rfl) (fun _ _ _ h => nomatch h) (fun cw9 nw9 w9 hw9 pw9 => ?_)
  obtain ⟨rfl, rfl, kw9⟩ := pw9
  refine z_aload_n hC (pc := 19) 1 dX2_newDef_19 rfl rfl ?_
  refine u_getK hC (pc := 20) zf2 7 (tKeep.F kw9 fa8 rfl) dX2_newDef_20 zw256 (kk := ?_)
  refine z_iload hC (pc := 23) 0 dX2_newDef_23 rfl ?_
  refine z_iconst hC (pc := 25) (v := 1) dX2_newDef_25 (by decide) ?_
  refine z_iadd hC (pc := 26) (v := ((x7 * 7) + 1)) dX2_newDef_26 rfl ?_
  refine z_iload_n hC (pc := 27) 3 dX2_newDef_27 rfl rfl ?_
  refine t_callSNv hC hw9 (pc := 28) (As := [.ref a8, .int ((x7 * 7) + 1), .int x2]) (kX12_set l G T κ hst hE ma8) trivial dmX12_set dX2_newDef_28 zw1289 rfl rfl (Nat.le_of_ble_eq_true rfl) (Nat.le_of_ble_eq_true rfl) (Nat.le_of_ble_eq_true rfl) (Nat.le_of_ble_eq_true rfl) (Nat.le_of_ble_eq_true rfl) (fun _ _ _ h => nomatch h) (fun cw11 nw11 w11 hw11 pw11 => ?_)
  obtain ⟨rfl, rfl, kw11⟩ := pw11
  refine z_aload_n hC (pc := 31) 1 dX2_newDef_31 rfl rfl ?_
  refine u_getK hC (pc := 32) zf2 7 (tKeep.F kw11 (tKeep.F kw9 fa8 rfl) rfl) dX2_newDef_32 zw256 (kk := ?_)
  refine z_iload hC (pc := 35) 0 dX2_newDef_35 rfl ?_
  refine z_iconst hC (pc := 37) (v := 2) dX2_newDef_37 (by decide) ?_
  refine z_iadd hC (pc := 38) (v := ((x7 * 7) + 2)) dX2_newDef_38 rfl ?_
  refine z_iload_n hC (pc := 39) 4 dX2_newDef_39 rfl rfl ?_
  refine t_callSNv hC hw11 (pc := 40) (As := [.ref a8, .int ((x7 * 7) + 2), .int x3]) (kX12_set l G T κ hst hE ma8) trivial dmX12_set dX2_newDef_40 zw1289 rfl rfl (Nat.le_of_ble_eq_true rfl) (Nat.le_of_ble_eq_true rfl) (Nat.le_of_ble_eq_true rfl) (Nat.le_of_ble_eq_true rfl) (Nat.le_of_ble_eq_true rfl) (fun _ _ _ h => nomatch h) (fun cw13 nw13 w13 hw13 pw13 => ?_)
  obtain ⟨rfl, rfl, kw13⟩ := pw13
  refine z_aload_n hC (pc := 43) 1 dX2_newDef_43 rfl rfl ?_
  refine u_getK hC (pc := 44) zf2 7 (tKeep.F kw13 (tKeep.F kw11 (tKeep.F kw9 fa8 rfl) rfl) rfl) dX2_newDef_44 zw256 (kk := ?_)
  refine z_iload hC (pc := 47) 0 dX2_newDef_47 rfl ?_
  refine z_iconst hC (pc := 49) (v := 3) dX2_newDef_49 (by decide) ?_
  refine z_iadd hC (pc := 50) (v := ((x7 * 7) + 3)) dX2_newDef_50 rfl ?_
  refine z_iload hC (pc := 51) 5 dX2_newDef_51 rfl ?_
  refine t_callSNv hC hw13 (pc := 53) (As := [.ref a8, .int ((x7 * 7) + 3), .int x4]) (kX12_set l G T κ hst hE ma8) trivial dmX12_set dX2_newDef_53 zw1289 rfl rfl (Nat.le_of_ble_eq_true rfl) (Nat.le_of_ble_eq_true rfl) (Nat.le_of_ble_eq_true rfl) (Nat.le_of_ble_eq_true rfl) (Nat.le_of_ble_eq_true rfl) (fun _ _ _ h => nomatch h) (fun cw15 nw15 w15 hw15 pw15 => ?_)
  obtain ⟨rfl, rfl, kw15⟩ := pw15
  refine z_aload_n hC (pc := 56) 1 dX2_newDef_56 rfl rfl ?_
  refine z_dup hC (pc := 57) dX2_newDef_57 rfl ?_
  refine u_getK hC (pc := 58) zf2 8 (tKeep.F kw15 (tKeep.F kw13 (tKeep.F kw11 (tKeep.F kw9 fx7 rfl) rfl) rfl) rfl) dX2_newDef_58 zw259 (kk := ?_)
  refine z_iconst hC (pc := 61) (v := 1) dX2_newDef_61 (by decide) ?_
  refine z_iadd hC (pc := 62) (v := (x7 + 1)) dX2_newDef_62 rfl ?_
  refine u_put hC hw15 (pc := 63) zf2 8 (hE.o2 h0) rfl ⟨_, rfl⟩ dX2_newDef_63 zw259 rfl rfl rfl (kk := fun w17 hw17 fw17 kw17 => ?_)
  refine z_iload hC (pc := 66) 0 dX2_newDef_66 rfl ?_
  exact hR _ _ _ _ _ _ dX2_newDef_68 rfl (Nat.le_of_ble_eq_true rfl) (Nat.le_of_ble_eq_true rfl) ⟨hw17, rfl, rfl, (tKeep.tr (tKeep.tr (tKeep.tr (tKeep.tr (tKeep.tr tKeep.rf kw9 rfl) kw11 rfl) kw13 rfl) kw15 rfl) kw17 rfl)⟩
set_option maxRecDepth 20000 in
theorem kX7_isSpace (l : Launch) (G : zG) (T : tT) (κ : Nat → List Nat) (hst : l.stackTraces = false) (hE : tE G T κ) {x0 : Int32} : tMi l G T yX7_isSpace cX7_isSpace 1 .boolean [] 0 0 0 0 [.int x0] uT (uPz 0x0) := by
  refine tMi.intro hst rfl (Nat.le_of_ble_eq_true rfl) ?_
  intro w0 hw0 _ X hC hR hO hX
  refine z_iload_n hC (pc := 0) 0 dX7_isSpace_0 rfl rfl ?_
  refine z_bipush hC (pc := 1) (v := 32) dX7_isSpace_1 (by decide) ?_
  have j17 : ∀ (x3 : Int32), tZ (.int x3) → zS X G 1 w0 [] 0 0 17 [.int x3] := by
    intro x3 zx3
    exact hR _ _ _ _ _ _ dX7_isSpace_17 (t_nZ zx3) (Nat.le_of_ble_eq_true rfl) (Nat.le_of_ble_eq_true rfl) ⟨hw0, rfl, rfl, tKeep.rf, zx3⟩
  have j12 : zS X G 1 w0 [] 0 0 12 [] := by
    refine z_iconst hC (pc := 12) (v := 1) dX7_isSpace_12 (by decide) ?_
    refine z_goto hC (pc := 13) 17 dX7_isSpace_13 (by decide) ?_
    exact j17 1 (Or.inr rfl)
  refine z_icmp_eq hC (pc := 3) 12 dX7_isSpace_3 (by decide) (fun c4 => ?_) (fun c4 => ?_)
  · refine z_lvs [] rfl ?_
    exact j12
  · refine z_iload_n hC (pc := 6) 0 dX7_isSpace_6 rfl rfl ?_
    refine z_bipush hC (pc := 7) (v := 9) dX7_isSpace_7 (by decide) ?_
    refine z_icmp_ne hC (pc := 9) 16 dX7_isSpace_9 (by decide) (fun c5 => ?_) (fun c5 => ?_)
    · refine z_iconst hC (pc := 16) (v := 0) dX7_isSpace_16 (by decide) ?_
      refine z_lvs [] rfl ?_
      exact j17 0 (Or.inl rfl)
    · refine z_lvs [] rfl ?_
      exact j12
set_option maxRecDepth 20000 in
theorem kX10_define (l : Launch) (G : zG) (T : tT) (κ : Nat → List Nat) (hst : l.stackTraces = false) (hE : tE G T κ) {a0 : Nat} (h0 : a0 ∈ κ 10) {x1 : Int32} {x2 : Int32} {x3 : Int32} : tMv l G T yX10_define cX10_define 4 [] 0 0 0 0 [.ref a0, .int x1, .int x2, .int x3] uT (uPv 0xf00000000000000000000000000000000000000000000000000000000000000000000000000000000000000000000000000000000000000000000000000000000000000000000000000000000000000000) := by
  refine tMv.intro hst rfl (Nat.le_of_ble_eq_true rfl) ?_
  intro w0 hw0 _ X hC hR hO hX
  refine z_aload_n hC (pc := 0) 0 dX10_define_0 rfl rfl ?_
  refine z_iload_n hC (pc := 1) 1 dX10_define_1 rfl rfl ?_
  refine u_put hC hw0 (pc := 2) zf10 4 (hE.o10 h0) rfl ⟨_, rfl⟩ dX10_define_2 zw336 rfl rfl rfl (kk := fun w6 hw6 fw6 kw6 => ?_)
  refine z_aload_n hC (pc := 5) 0 dX10_define_5 rfl rfl ?_
  refine z_iload_n hC (pc := 6) 2 dX10_define_6 rfl rfl ?_
  refine u_put hC hw6 (pc := 7) zf10 5 (hE.o10 h0) rfl ⟨_, rfl⟩ dX10_define_7 zw337 rfl rfl rfl (kk := fun w7 hw7 fw7 kw7 => ?_)
  refine z_aload_n hC (pc := 10) 0 dX10_define_10 rfl rfl ?_
  refine z_iload_n hC (pc := 11) 3 dX10_define_11 rfl rfl ?_
  refine u_put hC hw7 (pc := 12) zf10 6 (hE.o10 h0) rfl ⟨_, rfl⟩ dX10_define_12 zw338 rfl rfl rfl (kk := fun w8 hw8 fw8 kw8 => ?_)
  refine z_aload_n hC (pc := 15) 0 dX10_define_15 rfl rfl ?_
  refine z_aload_n hC (pc := 16) 0 dX10_define_16 rfl rfl ?_
  refine u_get hC hw8 (pc := 17) zf10 1 (hE.o10 h0) rfl dX10_define_17 zw331 (kk := fun va9 ta9 fa9 => ?_)
  obtain ⟨a9, ma9, rfl⟩ := ta9
  refine u_get hC hw8 (pc := 20) zf2 10 (hE.o2 ma9) rfl dX10_define_20 zw266 (kk := fun vx10 tx10 fx10 => ?_)
  obtain ⟨x10, rfl⟩ := tx10
  refine u_put hC hw8 (pc := 23) zf10 7 (hE.o10 h0) rfl ⟨_, rfl⟩ dX10_define_23 zw339 rfl rfl rfl (kk := fun w11 hw11 fw11 kw11 => ?_)
  exact hR _ _ _ _ _ dX10_define_26 (Nat.le_of_ble_eq_true rfl) (Nat.le_of_ble_eq_true rfl) ⟨hw11, rfl, rfl, (tKeep.tr (tKeep.tr (tKeep.tr (tKeep.tr tKeep.rf kw6 rfl) kw7 rfl) kw8 rfl) kw11 rfl)⟩
set_option maxRecDepth 20000 in
theorem kX2_emit (l : Launch) (G : zG) (T : tT) (κ : Nat → List Nat) (hst : l.stackTraces = false) (hE : tE G T κ) {a0 : Nat} (h0 : a0 ∈ κ 2) {x1 : Int32} : tMv l G T yX2_emit cX2_emit 2 [] 0 0 0 0 [.ref a0, .int x1] uT (uPv 0x800000000000000000000000000000000) := by
  refine tMv.intro hst rfl (Nat.le_of_ble_eq_true rfl) ?_
  intro w0 hw0 _ X hC hR hO hX
  refine z_aload_n hC (pc := 0) 0 dX2_emit_0 rfl rfl ?_
  refine u_get hC hw0 (pc := 1) zf2 3 (hE.o2 h0) rfl dX2_emit_1 zw244 (kk := fun vx4 tx4 fx4 => ?_)
  obtain ⟨x4, rfl⟩ := tx4
  have j39 : ∀ (w5 : va_W), tW T w5 → tKeep 0x800000000000000000000000000000000 w0 w5 → zS X G 2 w5 [] 0 0 39 [] := by
    intro w5 hw5 kw5
    exact hR _ _ _ _ _ dX2_emit_39 (Nat.le_of_ble_eq_true rfl) (Nat.le_of_ble_eq_true rfl) ⟨hw5, rfl, rfl, (tKeep.tr tKeep.rf kw5 rfl)⟩
  refine z_if_lt hC (pc := 4) 39 dX2_emit_4 (by decide) (fun c6 => ?_) (fun c6 => ?_)
  · refine z_lvs [] rfl ?_
    exact j39 w0 hw0 tKeep.rf
  · refine z_aload_n hC (pc := 7) 0 dX2_emit_7 rfl rfl ?_
    refine u_getK hC (pc := 8) zf2 3 fx4 dX2_emit_8 zw244 (kk := ?_)
    refine z_aload_n hC (pc := 11) 0 dX2_emit_11 rfl rfl ?_
    refine u_get hC hw0 (pc := 12) zf2 2 (hE.o2 h0) rfl dX2_emit_12 zw239 (kk := fun va7 ta7 fa7 => ?_)
    obtain ⟨a7, ma7, rfl⟩ := ta7
    obtain ⟨N8, hN8, AN8⟩ := hE.ints ma7
    refine u_alenI hC hw0 (pc := 15) AN8 dX2_emit_15 ?_
    refine z_icmp_ge hC (pc := 16) 39 dX2_emit_16 (by decide) (fun c9 => ?_) (fun c9 => ?_)
    · refine z_lvs [] rfl ?_
      exact j39 w0 hw0 tKeep.rf
    · refine z_aload_n hC (pc := 19) 0 dX2_emit_19 rfl rfl ?_
      refine u_getK hC (pc := 20) zf2 2 fa7 dX2_emit_20 zw239 (kk := ?_)
      refine z_aload_n hC (pc := 23) 0 dX2_emit_23 rfl rfl ?_
      refine u_getK hC (pc := 24) zf2 3 fx4 dX2_emit_24 zw244 (kk := ?_)
      refine z_iload_n hC (pc := 27) 1 dX2_emit_27 rfl rfl ?_
      refine u_iast hC hw0 (pc := 28) AN8 dX2_emit_28 (t_inB hN8 c6 c9) trivial (fun w10 hw10 kw10 => ?_)
      refine z_aload_n hC (pc := 29) 0 dX2_emit_29 rfl rfl ?_
      refine z_dup hC (pc := 30) dX2_emit_30 rfl ?_
      refine u_getK hC (pc := 31) zf2 3 (tKeep.F kw10 fx4 rfl) dX2_emit_31 zw244 (kk := ?_)
      refine z_iconst hC (pc := 34) (v := 1) dX2_emit_34 (by decide) ?_
      refine z_iadd hC (pc := 35) (v := (x4 + 1)) dX2_emit_35 rfl ?_
      refine u_put hC hw10 (pc := 36) zf2 3 (hE.o2 h0) rfl ⟨_, rfl⟩ dX2_emit_36 zw244 rfl rfl rfl (kk := fun w11 hw11 fw11 kw11 => ?_)
      refine z_lvs [] rfl ?_
      exact j39 w11 hw11 (tKeep.tr (tKeep.tr tKeep.rf kw10 rfl) kw11 rfl)
set_option maxRecDepth 20000 in
theorem kX2_emit__ (l : Launch) (G : zG) (T : tT) (κ : Nat → List Nat) (hst : l.stackTraces = false) (hE : tE G T κ) {a0 : Nat} (h0 : a0 ∈ κ 2) {x1 : Int32} {x2 : Int32} {x3 : Int32} : tMv l G T yX2_emit__ cX2_emit__ 4 [] 1 21 0 0 [.ref a0, .int x1, .int x2, .int x3] uT (uPv 0x800000000000000000000000000000000) := by
  refine tMv.intro hst rfl (Nat.le_of_ble_eq_true rfl) ?_
  intro w0 hw0 _ X hC hR hO hX
  refine z_aload_n hC (pc := 0) 0 dX2_emit___0 rfl rfl ?_
  refine z_iload_n hC (pc := 1) 1 dX2_emit___1 rfl rfl ?_
  obtain ⟨q6, hqq6⟩ := hE.o2 h0
  refine t_callVv hC hw0 (pc := 2) (As := [.int x1]) (kX2_emit l G T κ hst hE h0) trivial dmX2_emit zf2 hqq6 dX2_emit___2 zw1316 rfl rfl (Nat.le_of_ble_eq_true rfl) (Nat.le_of_ble_eq_true rfl) (Nat.le_of_ble_eq_true rfl) (Nat.le_of_ble_eq_true rfl) (Nat.le_of_ble_eq_true rfl) (fun _ _ _ h => nomatch h) (fun cw7 nw7 w7 hw7 pw7 => ?_)
  obtain ⟨rfl, rfl, kw7⟩ := pw7
  refine z_aload_n hC (pc := 5) 0 dX2_emit___5 rfl rfl ?_
  refine z_iload_n hC (pc := 6) 2 dX2_emit___6 rfl rfl ?_
  refine t_callVv hC hw7 (pc := 7) (As := [.int x2]) (kX2_emit l G T κ hst hE h0) trivial dmX2_emit zf2 hqq6 dX2_emit___7 zw1316 rfl rfl (Nat.le_of_ble_eq_true rfl) (Nat.le_of_ble_eq_true rfl) (Nat.le_of_ble_eq_true rfl) (Nat.le_of_ble_eq_true rfl) (Nat.le_of_ble_eq_true rfl) (fun _ _ _ h => nomatch h) (fun cw9 nw9 w9 hw9 pw9 => ?_)
  obtain ⟨rfl, rfl, kw9⟩ := pw9
  refine z_aload_n hC (pc := 10) 0 dX2_emit___10 rfl rfl ?_
  refine z_iload_n hC (pc := 11) 3 dX2_emit___11 rfl rfl ?_
  refine t_callVv hC hw9 (pc := 12) (As := [.int x3]) (kX2_emit l G T κ hst hE h0) trivial dmX2_emit zf2 hqq6 dX2_emit___12 zw1316 rfl rfl (Nat.le_of_ble_eq_true rfl) (Nat.le_of_ble_eq_true rfl) (Nat.le_of_ble_eq_true rfl) (Nat.le_of_ble_eq_true rfl) (Nat.le_of_ble_eq_true rfl) (fun _ _ _ h => nomatch h) (fun cw11 nw11 w11 hw11 pw11 => ?_)
  obtain ⟨rfl, rfl, kw11⟩ := pw11
  exact hR _ _ _ _ _ dX2_emit___15 (Nat.le_of_ble_eq_true rfl) (Nat.le_of_ble_eq_true rfl) ⟨hw11, rfl, rfl, (tKeep.tr (tKeep.tr (tKeep.tr tKeep.rf kw7 rfl) kw9 rfl) kw11 rfl)⟩
set_option maxRecDepth 20000 in
theorem kX1_checkParam (l : Launch) (G : zG) (T : tT) (κ : Nat → List Nat) (hst : l.stackTraces = false) (hE : tE G T κ) {a0 : Nat} (h0 : a0 ∈ κ 1) {x1 : Int32} {x2 : Int32} {x3 : Int32} : tMv l G T yX1_checkParam cX1_checkParam 5 ["java/lang/IllegalStateException"] 7 103 1 6 [.ref a0, .int x1, .int x2, .int x3] uT (uPv 0x1800000000000000000000000000000000000000000000000000000000000000000000000000000000000000000000000000000000000000000) := by
  refine tMv.intro hst rfl (Nat.le_of_ble_eq_true rfl) ?_
  intro w0 hw0 _ X hC hR hO hX
  refine z_iconst hC (pc := 0) (v := 0) dX1_checkParam_0 (by decide) ?_
  refine z_istore hC (pc := 1) (lv' := [(4, .int 0), (0, .ref a0), (1, .int x1), (2, .int x2), (3, .int x3)]) dX1_checkParam_1 (by decide) rfl ?_
  have j3 : ∀ (d3 : Nat), ∀ (w6 : va_W), tW T w6 → tKeep 0x1800000000000000000000000000000000000000000000000000000000000000000000000000000000000000000000000000000000000000000 w0 w6 → ∀ (x7 : Int32), ¬ x7 < 0 → (2 ^ 31 - (x7 : Int32).toInt).toNat ≤ d3 → zS X G 5 w6 [(0, .ref a0), (1, .int x1), (2, .int x2), (3, .int x3), (4, .int x7)] 0 0 3 [] := by
    intro d3
    induction d3 with
    | zero => intro w6 hw6 kw6 x7 v8 hd3; exact (t_zero hd3).elim
    | succ d3 ih3 =>
      intro w6 hw6 kw6 x7 v8 hd3
      refine z_iload hC (pc := 3) 4 dX1_checkParam_3 rfl ?_
      refine z_aload_n hC (pc := 5) 0 dX1_checkParam_5 rfl rfl ?_
      refine u_get hC hw6 (pc := 6) zf1 7 (hE.o1 h0) rfl dX1_checkParam_6 zw391 (kk := fun vx9 tx9 fx9 => ?_)
      obtain ⟨x9, rfl⟩ := tx9
      refine z_icmp_ge hC (pc := 9) 40 dX1_checkParam_9 (by decide) (fun c10 => ?_) (fun c10 => ?_)
      · refine z_iload_n hC (pc := 40) 3 dX1_checkParam_40 rfl rfl ?_
        have j53 : ∀ (w11 : va_W), tW T w11 → tKeep 0x1800000000000000000000000000000000000000000000000000000000000000000000000000000000000000000000000000000000000000000 w6 w11 → zS X G 5 w11 [(0, .ref a0), (2, .int x2)] 0 0 53 [] := by
          intro w11 hw11 kw11
          refine z_aload_n hC (pc := 53) 0 dX1_checkParam_53 rfl rfl ?_
          refine u_getK hC (pc := 54) zf1 7 (tKeep.F kw11 fx9 rfl) dX1_checkParam_54 zw391 (kk := ?_)
          refine z_bipush hC (pc := 57) (v := 12) dX1_checkParam_57 (by decide) ?_
          have j71 : ∀ (w12 : va_W), tW T w12 → tKeep 0x1800000000000000000000000000000000000000000000000000000000000000000000000000000000000000000000000000000000000000000 w11 w12 → zS X G 5 w12 [] 0 0 71 [] := by
            intro w12 hw12 kw12
            exact hR _ _ _ _ _ dX1_checkParam_71 (Nat.le_of_ble_eq_true rfl) (Nat.le_of_ble_eq_true rfl) ⟨hw12, rfl, rfl, (tKeep.tr (tKeep.tr (tKeep.tr tKeep.rf kw6 rfl) kw11 rfl) kw12 rfl)⟩
          refine z_icmp_lt hC (pc := 59) 71 dX1_checkParam_59 (by decide) (fun c13 => ?_) (fun c13 => ?_)
          · refine z_lvs [] rfl ?_
            exact j71 w11 hw11 tKeep.rf
          · refine z_aload_n hC (pc := 62) 0 dX1_checkParam_62 rfl rfl ?_
            refine u_get hC hw11 (pc := 63) zf1 2 (hE.o1 h0) rfl dX1_checkParam_63 zw386 (kk := fun va14 ta14 fa14 => ?_)
            obtain ⟨a14, ma14, rfl⟩ := ta14
            refine z_iconst hC (pc := 66) (v := 4) dX1_checkParam_66 (by decide) ?_
            refine z_iload_n hC (pc := 67) 1 dX1_checkParam_67 rfl rfl ?_
            obtain ⟨q15, hqq15⟩ := hE.o7 ma14
            refine t_callVv hC hw11 (pc := 68) (As := [.int 4, .int x2]) (kX7_fail l G T κ hst hE ma14) trivial dmX7_fail zf7 hqq15 dX1_checkParam_68 zw1155 rfl rfl (Nat.le_of_ble_eq_true rfl) (Nat.le_of_ble_eq_true rfl) (Nat.le_of_ble_eq_true rfl) (Nat.le_of_ble_eq_true rfl) (Nat.le_of_ble_eq_true rfl) (fun E w q hE hw => hO E w _ _ _ _ _ q hE (Nat.le_of_ble_eq_true rfl) (Nat.le_of_ble_eq_true rfl) hw) (fun cw16 nw16 w16 hw16 pw16 => ?_)
            obtain ⟨rfl, rfl, kw16⟩ := pw16
            refine z_lvs [] rfl ?_
            exact j71 w16 hw16 (tKeep.tr tKeep.rf kw16 rfl)
        refine z_if_eq hC (pc := 41) 53 dX1_checkParam_41 (by decide) (fun c18 => ?_) (fun c18 => ?_)
        · refine z_lvs [0, 2] rfl ?_
          exact j53 w6 hw6 tKeep.rf
        · refine z_aload_n hC (pc := 44) 0 dX1_checkParam_44 rfl rfl ?_
          refine u_get hC hw6 (pc := 45) zf1 2 (hE.o1 h0) rfl dX1_checkParam_45 zw386 (kk := fun va19 ta19 fa19 => ?_)
          obtain ⟨a19, ma19, rfl⟩ := ta19
          refine z_iconst hC (pc := 48) (v := 3) dX1_checkParam_48 (by decide) ?_
          refine z_iload_n hC (pc := 49) 2 dX1_checkParam_49 rfl rfl ?_
          obtain ⟨q20, hqq20⟩ := hE.o7 ma19
          refine t_callVv hC hw6 (pc := 50) (As := [.int 3, .int x2]) (kX7_fail l G T κ hst hE ma19) trivial dmX7_fail zf7 hqq20 dX1_checkParam_50 zw1155 rfl rfl (Nat.le_of_ble_eq_true rfl) (Nat.le_of_ble_eq_true rfl) (Nat.le_of_ble_eq_true rfl) (Nat.le_of_ble_eq_true rfl) (Nat.le_of_ble_eq_true rfl) (fun E w q hE hw => hO E w _ _ _ _ _ q hE (Nat.le_of_ble_eq_true rfl) (Nat.le_of_ble_eq_true rfl) hw) (fun cw21 nw21 w21 hw21 pw21 => ?_)
          obtain ⟨rfl, rfl, kw21⟩ := pw21
          refine z_lvs [0, 2] rfl ?_
          exact j53 w21 hw21 (tKeep.tr tKeep.rf kw21 rfl)
      · refine z_aload_n hC (pc := 12) 0 dX1_checkParam_12 rfl rfl ?_
        refine u_get hC hw6 (pc := 13) zf1 5 (hE.o1 h0) rfl dX1_checkParam_13 zw389 (kk := fun va23 ta23 fa23 => ?_)
        obtain ⟨a23, ma23, rfl⟩ := ta23
        refine z_iload hC (pc := 16) 4 dX1_checkParam_16 rfl ?_
        refine t_callSNi hC hw6 (pc := 18) (As := [.ref a23, .int x7]) (kX12_get l G T κ hst hE ma23) trivial dmX12_get dX1_checkParam_18 zw999 rfl rfl (Nat.le_of_ble_eq_true rfl) (Nat.le_of_ble_eq_true rfl) (Nat.le_of_ble_eq_true rfl) (Nat.le_of_ble_eq_true rfl) (Nat.le_of_ble_eq_true rfl) (fun _ _ _ h => nomatch h) (fun x25 cw24 nw24 w24 hw24 pw24 => ?_)
        obtain ⟨rfl, rfl, kw24⟩ := pw24
        refine z_iload_n hC (pc := 21) 1 dX1_checkParam_21 rfl rfl ?_
        have j34 : ∀ (w26 : va_W), tW T w26 → tKeep 0x1800000000000000000000000000000000000000000000000000000000000000000000000000000000000000000000000000000000000000000 w24 w26 → zS X G 5 w26 [(0, .ref a0), (1, .int x1), (2, .int x2), (3, .int x3), (4, .int x7)] 0 0 34 [] := by
          intro w26 hw26 kw26
          refine z_iinc hC (pc := 34) (v := (x7 + 1)) (lv' := [(4, .int (x7 + 1)), (0, .ref a0), (1, .int x1), (2, .int x2), (3, .int x3)]) 4 dX1_checkParam_34 rfl (congrArg _ (by decide)) (by decide) rfl ?_
          refine z_goto hC (pc := 37) 3 dX1_checkParam_37 (by decide) ?_
          refine z_lvs [1, 2, 3, 4, 0] rfl ?_
          exact ih3 w26 hw26 (tKeep.tr (tKeep.tr (tKeep.tr tKeep.rf kw6 rfl) kw24 rfl) kw26 rfl) (x7 + 1) (t_nnI v8 (Int32.not_le.mp c10)) (t_up (Int32.not_le.mp c10) hd3)
        refine z_icmp_ne hC (pc := 22) 34 dX1_checkParam_22 (by decide) (fun c27 => ?_) (fun c27 => ?_)
        · exact j34 w24 hw24 tKeep.rf
        · refine z_aload_n hC (pc := 25) 0 dX1_checkParam_25 rfl rfl ?_
          refine u_get hC hw24 (pc := 26) zf1 2 (hE.o1 h0) rfl dX1_checkParam_26 zw386 (kk := fun va28 ta28 fa28 => ?_)
          obtain ⟨a28, ma28, rfl⟩ := ta28
          refine z_iconst hC (pc := 29) (v := 3) dX1_checkParam_29 (by decide) ?_
          refine z_iload_n hC (pc := 30) 2 dX1_checkParam_30 rfl rfl ?_
          obtain ⟨q29, hqq29⟩ := hE.o7 ma28
          refine t_callVv hC hw24 (pc := 31) (As := [.int 3, .int x2]) (kX7_fail l G T κ hst hE ma28) trivial dmX7_fail zf7 hqq29 dX1_checkParam_31 zw1155 rfl rfl (Nat.le_of_ble_eq_true rfl) (Nat.le_of_ble_eq_true rfl) (Nat.le_of_ble_eq_true rfl) (Nat.le_of_ble_eq_true rfl) (Nat.le_of_ble_eq_true rfl) (fun E w q hE hw => hO E w _ _ _ _ _ q hE (Nat.le_of_ble_eq_true rfl) (Nat.le_of_ble_eq_true rfl) hw) (fun cw30 nw30 w30 hw30 pw30 => ?_)
          obtain ⟨rfl, rfl, kw30⟩ := pw30
          exact j34 w30 hw30 (tKeep.tr tKeep.rf kw30 rfl)
  refine z_lvs [1, 2, 3, 4, 0] rfl ?_
  exact j3 _ w0 hw0 tKeep.rf 0 (by decide) (Nat.le_refl _)
set_option maxRecDepth 20000 in
theorem kX2_stringFrom (l : Launch) (G : zG) (T : tT) (κ : Nat → List Nat) (hst : l.stackTraces = false) (hE : tE G T κ) {a0 : Nat} (h0 : a0 ∈ κ 2) {x1 : Int32} : tMi l G T yX2_stringFrom cX2_stringFrom 2 .int [] 0 0 0 0 [.ref a0, .int x1] uT (uPi 0x0) := by
  refine tMi.intro hst rfl (Nat.le_of_ble_eq_true rfl) ?_
  intro w0 hw0 _ X hC hR hO hX
  refine z_ldc hC (pc := 0) (v := 402653184) dX2_stringFrom_0 zw1351 ?_
  refine z_iload_n hC (pc := 2) 1 dX2_stringFrom_2 rfl rfl ?_
  refine z_bipush hC (pc := 3) (v := 12) dX2_stringFrom_3 (by decide) ?_
  refine z_ishl hC (pc := 5) (v := (x1 <<< (12 &&& 31))) dX2_stringFrom_5 rfl ?_
  refine z_ior hC (pc := 6) (v := ((402653184 : Int32) ||| (x1 <<< (12 &&& 31)))) dX2_stringFrom_6 rfl ?_
  refine z_aload_n hC (pc := 7) 0 dX2_stringFrom_7 rfl rfl ?_
  refine u_get hC hw0 (pc := 8) zf2 6 (hE.o2 h0) rfl dX2_stringFrom_8 zw253 (kk := fun vx4 tx4 fx4 => ?_)
  obtain ⟨x4, rfl⟩ := tx4
  refine z_iload_n hC (pc := 11) 1 dX2_stringFrom_11 rfl rfl ?_
  refine z_isub hC (pc := 12) (v := (x4 - x1)) dX2_stringFrom_12 rfl ?_
  refine z_ior hC (pc := 13) (v := (((402653184 : Int32) ||| (x1 <<< (12 &&& 31))) ||| (x4 - x1))) dX2_stringFrom_13 rfl ?_
  exact hR _ _ _ _ _ _ dX2_stringFrom_14 rfl (Nat.le_of_ble_eq_true rfl) (Nat.le_of_ble_eq_true rfl) ⟨hw0, rfl, rfl, tKeep.rf⟩
set_option maxRecDepth 20000 in
theorem kX10_startConstant (l : Launch) (G : zG) (T : tT) (κ : Nat → List Nat) (hst : l.stackTraces = false) (hE : tE G T κ) {a0 : Nat} (h0 : a0 ∈ κ 10) : tMv l G T yX10_startConstant cX10_startConstant 1 [] 1 23 0 0 [.ref a0] uT (uPv 0x1f00000000000000000000000000000000000000000000000000000000000000000000000000000000000000000000000000000000000000000000000000000000000000000000000000000000000000000) := by
  refine tMv.intro hst rfl (Nat.le_of_ble_eq_true rfl) ?_
  intro w0 hw0 _ X hC hR hO hX
  refine z_aload_n hC (pc := 0) 0 dX10_startConstant_0 rfl rfl ?_
  refine z_iconst hC (pc := 1) (v := 2) dX10_startConstant_1 (by decide) ?_
  refine z_iconst hC (pc := 2) (v := (-1)) dX10_startConstant_2 (by decide) ?_
  refine z_iconst hC (pc := 3) (v := (-1)) dX10_startConstant_3 (by decide) ?_
  obtain ⟨q3, hqq3⟩ := hE.o10 h0
  refine t_callVv hC hw0 (pc := 4) (As := [.int 2, .int (-1), .int (-1)]) (kX10_define l G T κ hst hE h0) trivial dmX10_define zf10 hqq3 dX10_startConstant_4 zw1363 rfl rfl (Nat.le_of_ble_eq_true rfl) (Nat.le_of_ble_eq_true rfl) (Nat.le_of_ble_eq_true rfl) (Nat.le_of_ble_eq_true rfl) (Nat.le_of_ble_eq_true rfl) (fun _ _ _ h => nomatch h) (fun cw4 nw4 w4 hw4 pw4 => ?_)
  obtain ⟨rfl, rfl, kw4⟩ := pw4
  refine z_aload_n hC (pc := 7) 0 dX10_startConstant_7 rfl rfl ?_
  refine z_iconst hC (pc := 8) (v := 0) dX10_startConstant_8 (by decide) ?_
  refine u_put hC hw4 (pc := 9) zf10 8 (hE.o10 h0) rfl (Or.inl rfl) dX10_startConstant_9 zw340 rfl rfl rfl (kk := fun w6 hw6 fw6 kw6 => ?_)
  exact hR _ _ _ _ _ dX10_startConstant_12 (Nat.le_of_ble_eq_true rfl) (Nat.le_of_ble_eq_true rfl) ⟨hw6, rfl, rfl, (tKeep.tr (tKeep.tr tKeep.rf kw4 rfl) kw6 rfl)⟩
set_option maxRecDepth 20000 in
theorem kX7_blanksEnd (l : Launch) (G : zG) (T : tT) (κ : Nat → List Nat) (hst : l.stackTraces = false) (hE : tE G T κ) {a0 : Nat} (h0 : a0 ∈ κ 7) {x1 : Int32} : tMi l G T yX7_blanksEnd cX7_blanksEnd 3 .int [] 0 0 0 0 [.ref a0, .int x1] uT (uPi 0x0) := by
  refine tMi.intro hst rfl (Nat.le_of_ble_eq_true rfl) ?_
  intro w0 hw0 _ X hC hR hO hX
  refine z_iload_n hC (pc := 0) 1 dX7_blanksEnd_0 rfl rfl ?_
  refine z_istore_n hC (pc := 1) (lv' := [(2, .int x1), (0, .ref a0), (1, .int x1)]) dX7_blanksEnd_1 rfl (by decide) rfl ?_
  have j2 : ∀ (d2 : Nat), ∀ (x4 : Int32), (2 ^ 31 - (x4 : Int32).toInt).toNat ≤ d2 → zS X G 3 w0 [(0, .ref a0), (2, .int x4)] 0 0 2 [] := by
    intro d2
    induction d2 with
    | zero => intro x4 hd2; exact (t_zero hd2).elim
    | succ d2 ih2 =>
      intro x4 hd2
      refine z_iload_n hC (pc := 2) 1 dX7_blanksEnd_2 rfl rfl ?_
      have j62 : zS X G 3 w0 [(2, .int x4)] 0 0 62 [] := by
        refine z_iload_n hC (pc := 62) 0 dX7_blanksEnd_62 rfl rfl ?_
        exact hR _ _ _ _ _ _ dX7_blanksEnd_63 rfl (Nat.le_of_ble_eq_true rfl) (Nat.le_of_ble_eq_true rfl) ⟨hw0, rfl, rfl, tKeep.rf⟩
      refine z_if_lt hC (pc := 3) 62 dX7_blanksEnd_3 (by decide) (fun c5 => ?_) (fun c5 => ?_)
      · refine z_lvs [1] rfl ?_
        exact j62
      · refine z_iload_n hC (pc := 6) 1 dX7_blanksEnd_6 rfl rfl ?_
        refine z_aload_n hC (pc := 7) 0 dX7_blanksEnd_7 rfl rfl ?_
        refine u_get hC hw0 (pc := 8) zf7 4 (hE.o7 h0) rfl dX7_blanksEnd_8 zw119 (kk := fun vx6 tx6 fx6 => ?_)
        obtain ⟨x6, rfl⟩ := tx6
        refine z_icmp_ge hC (pc := 11) 62 dX7_blanksEnd_11 (by decide) (fun c7 => ?_) (fun c7 => ?_)
        · refine z_lvs [1] rfl ?_
          exact j62
        · refine z_iload_n hC (pc := 14) 1 dX7_blanksEnd_14 rfl rfl ?_
          refine z_aload_n hC (pc := 15) 0 dX7_blanksEnd_15 rfl rfl ?_
          refine u_get hC hw0 (pc := 16) zf7 0 (hE.o7 h0) rfl dX7_blanksEnd_16 zw115 (kk := fun va8 ta8 fa8 => ?_)
          obtain ⟨a8, ma8, rfl⟩ := ta8
          obtain ⟨N9, hN9, AN9⟩ := hE.byts ma8
          refine u_alenB hC hw0 (pc := 19) (Or.inl AN9) dX7_blanksEnd_19 ?_
          refine z_icmp_ge hC (pc := 20) 62 dX7_blanksEnd_20 (by decide) (fun c10 => ?_) (fun c10 => ?_)
          · refine z_lvs [1] rfl ?_
            exact j62
          · refine z_aload_n hC (pc := 23) 0 dX7_blanksEnd_23 rfl rfl ?_
            refine u_getK hC (pc := 24) zf7 0 fa8 dX7_blanksEnd_24 zw115 (kk := ?_)
            refine z_iload_n hC (pc := 27) 1 dX7_blanksEnd_27 rfl rfl ?_
            refine u_bald hC hw0 (pc := 28) (Or.inl AN9) dX7_blanksEnd_28 (t_inB hN9 c5 c10) (fun x11 => ?_)
            refine z_bipush hC (pc := 29) (v := 32) dX7_blanksEnd_29 (by decide) ?_
            have j56 : zS X G 3 w0 [(0, .ref a0), (2, .int x4)] 0 0 56 [] := by
              refine z_iinc hC (pc := 56) (v := (x4 + 1)) (lv' := [(2, .int (x4 + 1)), (0, .ref a0)]) 1 dX7_blanksEnd_56 rfl (congrArg _ (by decide)) (by decide) rfl ?_
              refine z_goto hC (pc := 59) 2 dX7_blanksEnd_59 (by decide) ?_
              refine z_lvs [1, 0] rfl ?_
              exact ih2 (x4 + 1) (t_up (Int32.not_le.mp c10) hd2)
            refine z_icmp_eq hC (pc := 31) 56 dX7_blanksEnd_31 (by decide) (fun c12 => ?_) (fun c12 => ?_)
            · exact j56
            · refine z_aload_n hC (pc := 34) 0 dX7_blanksEnd_34 rfl rfl ?_
              refine u_getK hC (pc := 35) zf7 0 fa8 dX7_blanksEnd_35 zw115 (kk := ?_)
              refine z_iload_n hC (pc := 38) 1 dX7_blanksEnd_38 rfl rfl ?_
              refine u_bald hC hw0 (pc := 39) (Or.inl AN9) dX7_blanksEnd_39 (t_inB hN9 c5 c10) (fun x13 => ?_)
              refine z_bipush hC (pc := 40) (v := 9) dX7_blanksEnd_40 (by decide) ?_
              refine z_icmp_eq hC (pc := 42) 56 dX7_blanksEnd_42 (by decide) (fun c14 => ?_) (fun c14 => ?_)
              · exact j56
              · refine z_aload_n hC (pc := 45) 0 dX7_blanksEnd_45 rfl rfl ?_
                refine u_getK hC (pc := 46) zf7 0 fa8 dX7_blanksEnd_46 zw115 (kk := ?_)
                refine z_iload_n hC (pc := 49) 1 dX7_blanksEnd_49 rfl rfl ?_
                refine u_bald hC hw0 (pc := 50) (Or.inl AN9) dX7_blanksEnd_50 (t_inB hN9 c5 c10) (fun x15 => ?_)
                refine z_bipush hC (pc := 51) (v := 10) dX7_blanksEnd_51 (by decide) ?_
                refine z_icmp_ne hC (pc := 53) 62 dX7_blanksEnd_53 (by decide) (fun c16 => ?_) (fun c16 => ?_)
                · refine z_lvs [1] rfl ?_
                  exact j62
                · exact j56
  refine z_lvs [1, 0] rfl ?_
  exact j2 _ x1 (Nat.le_refl _)
