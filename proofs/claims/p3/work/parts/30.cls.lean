theorem zw708 : Cond.fieldLink "TemplateHouse" 9 "TemplateHouse" "ready" "[B" ∈ zT := zsub3 228 (by decide +kernel) (by decide +kernel)
theorem zw774 : Cond.methodLink "TemplateHouse" 105 ⟨"TemplateHouse", "setByte", "([BII)V"⟩ ∈ zT := zsub4 54 (by decide +kernel) (by decide +kernel)
theorem zw770 : Cond.methodLink "TemplateHouse" 101 ⟨"TemplateHouse", "fourReady", "(II)V"⟩ ∈ zT := zsub4 50 (by decide +kernel) (by decide +kernel)
theorem zw710 : Cond.fieldLink "TemplateHouse" 16 "TemplateHouse" "taped" "I" ∈ zT := zsub3 230 (by decide +kernel) (by decide +kernel)
theorem zw784 : Cond.methodLink "TemplateHouse" 113 ⟨"java/util/Arrays", "fill", "([BB)V"⟩ ∈ zT := zsub4 64 (by decide +kernel) (by decide +kernel)
theorem zw709 : Cond.fieldLink "TemplateHouse" 13 "TemplateHouse" "tape" "[B" ∈ zT := zsub3 229 (by decide +kernel) (by decide +kernel)
theorem zw781 : Cond.methodLink "TemplateHouse" 109 ⟨"TemplateHouse", "getByte", "([BI)I"⟩ ∈ zT := zsub4 61 (by decide +kernel) (by decide +kernel)
theorem zw711 : Cond.fieldLink "TemplateHouse" 52 "TemplateHouse" "files" "[[B" ∈ zT := zsub3 231 (by decide +kernel) (by decide +kernel)
theorem zw712 : Cond.fieldLink "TemplateHouse" 55 "TemplateHouse" "sizes" "[I" ∈ zT := zsub3 232 (by decide +kernel) (by decide +kernel)
theorem zw184 : Cond.fieldLink "TemplateHouse$Names" 25 "TemplateHouse$Names" "count" "I" ∈ zT := zsub1 184 (by decide +kernel) (by decide +kernel)
theorem zw178 : Cond.fieldLink "TemplateHouse$Names" 15 "TemplateHouse$Names" "from" "[I" ∈ zT := zsub1 178 (by decide +kernel) (by decide +kernel)
theorem zw183 : Cond.fieldLink "TemplateHouse$Names" 22 "TemplateHouse$Names" "head" "[I" ∈ zT := zsub1 183 (by decide +kernel) (by decide +kernel)
theorem zw962 : Cond.methodLink "TemplateHouse$Names" 45 ⟨"TemplateHouse$Names", "hash", "([BII)I"⟩ ∈ zT := zsub5 2 (by decide +kernel) (by decide +kernel)
theorem zw965 : Cond.methodLinkNest "TemplateHouse$Names" 48 ⟨"TemplateHouse", "get", "([II)I"⟩ "TemplateHouse" ∈ zNest := zsubN5 5 (by decide +kernel) (by decide +kernel)
theorem zw966 : Cond.methodLink "TemplateHouse$Names" 52 ⟨"TemplateHouse$Names", "lengthOf", "(I)I"⟩ ∈ zT := zsub5 6 (by decide +kernel) (by decide +kernel)
theorem zw182 : Cond.fieldLink "TemplateHouse$Names" 19 "TemplateHouse$Names" "next" "[I" ∈ zT := zsub1 182 (by decide +kernel) (by decide +kernel)
theorem zw174 : Cond.fieldLink "TemplateHouse$Names" 9 "TemplateHouse$Names" "bytes" "[B" ∈ zT := zsub1 174 (by decide +kernel) (by decide +kernel)
theorem zw970 : Cond.methodLinkNest "TemplateHouse$Names" 56 ⟨"TemplateHouse", "same", "([BI[BII)Z"⟩ "TemplateHouse" ∈ zNest := zsubN5 10 (by decide +kernel) (by decide +kernel)
theorem zw958 : Cond.methodLink "TemplateHouse$Names" 60 ⟨"TemplateHouse$Names", "find", "([BII)I"⟩ ∈ zT := zsub4 238 (by decide +kernel) (by decide +kernel)
theorem zw186 : Cond.fieldLink "TemplateHouse$Names" 29 "TemplateHouse$Names" "used" "I" ∈ zT := zsub1 186 (by decide +kernel) (by decide +kernel)
theorem zw973 : Cond.methodLinkNest "TemplateHouse$Names" 71 ⟨"TemplateHouse", "set", "([III)V"⟩ "TemplateHouse" ∈ zNest := zsubN5 13 (by decide +kernel) (by decide +kernel)
theorem zw971 : Cond.methodLinkNest "TemplateHouse$Names" 63 ⟨"TemplateHouse", "getByte", "([BI)I"⟩ "TemplateHouse" ∈ zNest := zsubN5 11 (by decide +kernel) (by decide +kernel)
theorem zw972 : Cond.methodLinkNest "TemplateHouse$Names" 67 ⟨"TemplateHouse", "setByte", "([BII)V"⟩ "TemplateHouse" ∈ zNest := zsubN5 12 (by decide +kernel) (by decide +kernel)
theorem zw949 : Cond.methodLink "TemplateHouse$Names" 32 ⟨"java/util/Arrays", "fill", "([II)V"⟩ ∈ zT := zsub4 229 (by decide +kernel) (by decide +kernel)
theorem zw952 : Cond.fieldLink "TemplateHouse$Names" 38 "TemplateHouse$Names" "TURN" "[B" ∈ zT := zsub4 232 (by decide +kernel) (by decide +kernel)
theorem zw954 : Cond.methodLink "TemplateHouse$Names" 41 ⟨"TemplateHouse$Names", "intern", "([BII)I"⟩ ∈ zT := zsub4 234 (by decide +kernel) (by decide +kernel)
theorem zw208 : Cond.fieldLink "TemplateHouse$Imports" 13 "TemplateHouse$Imports" "directs" "[I" ∈ zT := zsub1 208 (by decide +kernel) (by decide +kernel)
theorem zw978 : Cond.methodLink "TemplateHouse$Imports" 29 ⟨"java/util/Arrays", "fill", "([II)V"⟩ ∈ zT := zsub5 18 (by decide +kernel) (by decide +kernel)
theorem zw211 : Cond.fieldLink "TemplateHouse$Imports" 19 "TemplateHouse$Imports" "wayLengths" "[I" ∈ zT := zsub1 211 (by decide +kernel) (by decide +kernel)
theorem zw214 : Cond.fieldLink "TemplateHouse$Imports" 25 "TemplateHouse$Imports" "reads" "I" ∈ zT := zsub1 214 (by decide +kernel) (by decide +kernel)
theorem zw253 : Cond.fieldLink "TemplateHouse$Gen" 41 "TemplateHouse$Gen" "poolEnd" "I" ∈ zT := zsub2 13 (by decide +kernel) (by decide +kernel)
theorem zw247 : Cond.fieldLink "TemplateHouse$Gen" 34 "TemplateHouse$Gen" "pool" "[B" ∈ zT := zsub2 7 (by decide +kernel) (by decide +kernel)
theorem zw251 : Cond.fieldLink "TemplateHouse$Gen" 38 "TemplateHouse$Gen" "places" "[I" ∈ zT := zsub2 11 (by decide +kernel) (by decide +kernel)
theorem zw230 : Cond.fieldLink "TemplateHouse$Gen" 12 "TemplateHouse$Gen" "names" "LTemplateHouse$Names;" ∈ zT := zsub1 230 (by decide +kernel) (by decide +kernel)
theorem zw945 : Cond.methodLink "TemplateHouse$Gen" 74 ⟨"TemplateHouse$Names", "forget", "()V"⟩ ∈ zT := zsub4 225 (by decide +kernel) (by decide +kernel)
theorem zw236 : Cond.fieldLink "TemplateHouse$Gen" 21 "TemplateHouse$Gen" "imports" "LTemplateHouse$Imports;" ∈ zT := zsub1 236 (by decide +kernel) (by decide +kernel)
theorem zw974 : Cond.methodLink "TemplateHouse$Gen" 77 ⟨"TemplateHouse$Imports", "forget", "()V"⟩ ∈ zT := zsub5 14 (by decide +kernel) (by decide +kernel)
theorem zw244 : Cond.fieldLink "TemplateHouse$Gen" 30 "TemplateHouse$Gen" "codeEnd" "I" ∈ zT := zsub2 4 (by decide +kernel) (by decide +kernel)
theorem zw259 : Cond.fieldLink "TemplateHouse$Gen" 47 "TemplateHouse$Gen" "defCount" "I" ∈ zT := zsub2 19 (by decide +kernel) (by decide +kernel)
theorem zw265 : Cond.fieldLink "TemplateHouse$Gen" 53 "TemplateHouse$Gen" "partCount" "I" ∈ zT := zsub2 25 (by decide +kernel) (by decide +kernel)
theorem zw270 : Cond.fieldLink "TemplateHouse$Gen" 59 "TemplateHouse$Gen" "callCount" "I" ∈ zT := zsub2 30 (by decide +kernel) (by decide +kernel)
theorem zw272 : Cond.fieldLink "TemplateHouse$Gen" 62 "TemplateHouse$Gen" "late" "[I" ∈ zT := zsub2 32 (by decide +kernel) (by decide +kernel)
theorem zw979 : Cond.methodLink "TemplateHouse$Gen" 78 ⟨"java/util/Arrays", "fill", "([II)V"⟩ ∈ zT := zsub5 19 (by decide +kernel) (by decide +kernel)
theorem zw980 : Cond.methodLink "TemplateHouse$Gen" 84 ⟨"TemplateHouse$Gen", "keep", "(II)V"⟩ ∈ zT := zsub5 20 (by decide +kernel) (by decide +kernel)
theorem zw212 : Cond.fieldLink "TemplateHouse$Imports" 22 "TemplateHouse$Imports" "read" "[I" ∈ zT := zsub1 212 (by decide +kernel) (by decide +kernel)
theorem zw992 : Cond.methodLinkNest "TemplateHouse$Imports" 35 ⟨"TemplateHouse", "get", "([II)I"⟩ "TemplateHouse" ∈ zNest := zsubN5 32 (by decide +kernel) (by decide +kernel)
theorem zw998 : Cond.methodLinkNest "TemplateHouse$Imports" 41 ⟨"TemplateHouse", "set", "([III)V"⟩ "TemplateHouse" ∈ zNest := zsubN5 38 (by decide +kernel) (by decide +kernel)
theorem zw125 : Cond.fieldLink "TemplateHouse$Source" 33 "TemplateHouse$Source" "file" "I" ∈ zT := zsub1 125 (by decide +kernel) (by decide +kernel)
theorem zw115 : Cond.fieldLink "TemplateHouse$Source" 9 "TemplateHouse$Source" "src" "[B" ∈ zT := zsub1 115 (by decide +kernel) (by decide +kernel)
theorem zw134 : Cond.fieldLink "TemplateHouse$Source" 42 "TemplateHouse$Source" "whole" "[B" ∈ zT := zsub1 134 (by decide +kernel) (by decide +kernel)
theorem zw135 : Cond.fieldLink "TemplateHouse$Source" 45 "TemplateHouse$Source" "wholeLim" "I" ∈ zT := zsub1 135 (by decide +kernel) (by decide +kernel)
theorem zw119 : Cond.fieldLink "TemplateHouse$Source" 26 "TemplateHouse$Source" "lim" "I" ∈ zT := zsub1 119 (by decide +kernel) (by decide +kernel)
theorem zw122 : Cond.fieldLink "TemplateHouse$Source" 30 "TemplateHouse$Source" "pos" "I" ∈ zT := zsub1 122 (by decide +kernel) (by decide +kernel)
theorem zw116 : Cond.fieldLink "TemplateHouse$Source" 15 "TemplateHouse$Source" "isFile" "Z" ∈ zT := zsub1 116 (by decide +kernel) (by decide +kernel)
theorem zw331 : Cond.fieldLink "TemplateHouse$TextReader" 62 "TemplateHouse$TextReader" "g" "LTemplateHouse$Gen;" ∈ zT := zsub2 91 (by decide +kernel) (by decide +kernel)
theorem zw332 : Cond.fieldLink "TemplateHouse$TextReader" 9 "TemplateHouse$TextReader" "open" "I" ∈ zT := zsub2 92 (by decide +kernel) (by decide +kernel)
theorem zw334 : Cond.fieldLink "TemplateHouse$TextReader" 15 "TemplateHouse$TextReader" "close" "I" ∈ zT := zsub2 94 (by decide +kernel) (by decide +kernel)
theorem zw776 : Cond.code ⟨"TemplateHouse", "setByte", "([BII)V"⟩ prog_1_method_33_code 3 (Option.none : Option Jvm.ClassFile.FieldType) ∈ zT := zsub4 56 rfl rfl
theorem zw1 : Cond.initialized "TemplateHouse" ∈ zT := zsub1 1 (by decide +kernel) (by decide +kernel)
theorem zw775 : Cond.static ⟨"TemplateHouse", "setByte", "([BII)V"⟩ ∈ zT := zsub4 55 (by decide +kernel) (by decide +kernel)
theorem zw773 : Cond.code ⟨"TemplateHouse", "fourReady", "(II)V"⟩ prog_1_method_3_code 4 (Option.none : Option Jvm.ClassFile.FieldType) ∈ zT := zsub4 53 rfl rfl
theorem zw772 : Cond.instanceMethod ⟨"TemplateHouse", "fourReady", "(II)V"⟩ ∈ zT := zsub4 52 (by decide +kernel) (by decide +kernel)
theorem zwp0 : Cond.selects "TemplateHouse" ⟨"TemplateHouse", "fourReady", "(II)V"⟩ ⟨"TemplateHouse", "fourReady", "(II)V"⟩ ∈ zT := zin 0 (by decide +kernel) (by decide +kernel)
theorem zw769 : Cond.code ⟨"TemplateHouse", "feed", "(IIIII)V"⟩ prog_1_method_2_code 6 (Option.none : Option Jvm.ClassFile.FieldType) ∈ zT := zsub4 49 rfl rfl
theorem zw767 : Cond.instanceMethod ⟨"TemplateHouse", "feed", "(IIIII)V"⟩ ∈ zT := zsub4 47 (by decide +kernel) (by decide +kernel)
theorem zw768 : Cond.selects "TemplateHouse" ⟨"TemplateHouse", "feed", "(IIIII)V"⟩ ⟨"TemplateHouse", "feed", "(IIIII)V"⟩ ∈ zT := zsub4 48 (by decide +kernel) (by decide +kernel)
theorem zw783 : Cond.code ⟨"TemplateHouse", "getByte", "([BI)I"⟩ prog_1_method_32_code 2 (Option.some Jvm.ClassFile.FieldType.int) ∈ zT := zsub4 63 rfl rfl
theorem zw782 : Cond.static ⟨"TemplateHouse", "getByte", "([BI)I"⟩ ∈ zT := zsub4 62 (by decide +kernel) (by decide +kernel)
theorem zw786 : Cond.code ⟨"java/util/Arrays", "fill", "([BB)V"⟩ prog_34_method_109_code 4 (Option.none : Option Jvm.ClassFile.FieldType) ∈ zT := zsub4 66 rfl rfl
theorem zw16 : Cond.initialized "java/util/Arrays" ∈ zT := zsub1 16 (by decide +kernel) (by decide +kernel)
theorem zw785 : Cond.static ⟨"java/util/Arrays", "fill", "([BB)V"⟩ ∈ zT := zsub4 65 (by decide +kernel) (by decide +kernel)
theorem zw780 : Cond.code ⟨"TemplateHouse", "end", "(I)I"⟩ prog_1_method_4_code 3 (Option.some Jvm.ClassFile.FieldType.int) ∈ zT := zsub4 60 rfl rfl
theorem zw778 : Cond.instanceMethod ⟨"TemplateHouse", "end", "(I)I"⟩ ∈ zT := zsub4 58 (by decide +kernel) (by decide +kernel)
theorem zw779 : Cond.selects "TemplateHouse" ⟨"TemplateHouse", "end", "(I)I"⟩ ⟨"TemplateHouse", "end", "(I)I"⟩ ∈ zT := zsub4 59 (by decide +kernel) (by decide +kernel)
theorem zw790 : Cond.code ⟨"TemplateHouse", "file", "(I)Z"⟩ prog_1_method_5_code 5 (Option.some Jvm.ClassFile.FieldType.boolean) ∈ zT := zsub4 70 rfl rfl
theorem zw788 : Cond.instanceMethod ⟨"TemplateHouse", "file", "(I)Z"⟩ ∈ zT := zsub4 68 (by decide +kernel) (by decide +kernel)
theorem zw789 : Cond.selects "TemplateHouse" ⟨"TemplateHouse", "file", "(I)Z"⟩ ⟨"TemplateHouse", "file", "(I)Z"⟩ ∈ zT := zsub4 69 (by decide +kernel) (by decide +kernel)
theorem zw951 : Cond.code ⟨"java/util/Arrays", "fill", "([II)V"⟩ prog_34_method_103_code 4 (Option.none : Option Jvm.ClassFile.FieldType) ∈ zT := zsub4 231 rfl rfl
theorem zw950 : Cond.static ⟨"java/util/Arrays", "fill", "([II)V"⟩ ∈ zT := zsub4 230 (by decide +kernel) (by decide +kernel)
theorem zw964 : Cond.code ⟨"TemplateHouse$Names", "hash", "([BII)I"⟩ prog_8_method_5_code 5 (Option.some Jvm.ClassFile.FieldType.int) ∈ zT := zsub5 4 rfl rfl
theorem zw5 : Cond.initialized "TemplateHouse$Names" ∈ zT := zsub1 5 (by decide +kernel) (by decide +kernel)
theorem zw963 : Cond.static ⟨"TemplateHouse$Names", "hash", "([BII)I"⟩ ∈ zT := zsub5 3 (by decide +kernel) (by decide +kernel)
theorem zw846 : Cond.code ⟨"TemplateHouse", "get", "([II)I"⟩ prog_1_method_30_code 2 (Option.some Jvm.ClassFile.FieldType.int) ∈ zT := zsub4 126 rfl rfl
theorem zw845 : Cond.static ⟨"TemplateHouse", "get", "([II)I"⟩ ∈ zT := zsub4 125 (by decide +kernel) (by decide +kernel)
theorem zw969 : Cond.code ⟨"TemplateHouse$Names", "lengthOf", "(I)I"⟩ prog_8_method_3_code 2 (Option.some Jvm.ClassFile.FieldType.int) ∈ zT := zsub5 9 rfl rfl
theorem zw967 : Cond.instanceMethod ⟨"TemplateHouse$Names", "lengthOf", "(I)I"⟩ ∈ zT := zsub5 7 (by decide +kernel) (by decide +kernel)
theorem zw968 : Cond.selects "TemplateHouse$Names" ⟨"TemplateHouse$Names", "lengthOf", "(I)I"⟩ ⟨"TemplateHouse$Names", "lengthOf", "(I)I"⟩ ∈ zT := zsub5 8 (by decide +kernel) (by decide +kernel)
theorem zw869 : Cond.code ⟨"TemplateHouse", "same", "([BI[BII)Z"⟩ prog_1_method_34_code 6 (Option.some Jvm.ClassFile.FieldType.boolean) ∈ zT := zsub4 149 rfl rfl
theorem zw868 : Cond.static ⟨"TemplateHouse", "same", "([BI[BII)Z"⟩ ∈ zT := zsub4 148 (by decide +kernel) (by decide +kernel)
theorem zw961 : Cond.code ⟨"TemplateHouse$Names", "find", "([BII)I"⟩ prog_8_method_4_code 6 (Option.some Jvm.ClassFile.FieldType.int) ∈ zT := zsub5 1 rfl rfl
theorem zw959 : Cond.instanceMethod ⟨"TemplateHouse$Names", "find", "([BII)I"⟩ ∈ zT := zsub4 239 (by decide +kernel) (by decide +kernel)
theorem zw960 : Cond.selects "TemplateHouse$Names" ⟨"TemplateHouse$Names", "find", "([BII)I"⟩ ⟨"TemplateHouse$Names", "find", "([BII)I"⟩ ∈ zT := zsub5 0 (by decide +kernel) (by decide +kernel)
theorem zw805 : Cond.code ⟨"TemplateHouse", "set", "([III)V"⟩ prog_1_method_31_code 3 (Option.none : Option Jvm.ClassFile.FieldType) ∈ zT := zsub4 85 rfl rfl
theorem zw804 : Cond.static ⟨"TemplateHouse", "set", "([III)V"⟩ ∈ zT := zsub4 84 (by decide +kernel) (by decide +kernel)
theorem zw957 : Cond.code ⟨"TemplateHouse$Names", "intern", "([BII)I"⟩ prog_8_method_6_code 6 (Option.some Jvm.ClassFile.FieldType.int) ∈ zT := zsub4 237 rfl rfl
theorem zw955 : Cond.instanceMethod ⟨"TemplateHouse$Names", "intern", "([BII)I"⟩ ∈ zT := zsub4 235 (by decide +kernel) (by decide +kernel)
theorem zw956 : Cond.selects "TemplateHouse$Names" ⟨"TemplateHouse$Names", "intern", "([BII)I"⟩ ⟨"TemplateHouse$Names", "intern", "([BII)I"⟩ ∈ zT := zsub4 236 (by decide +kernel) (by decide +kernel)
theorem zw948 : Cond.code ⟨"TemplateHouse$Names", "forget", "()V"⟩ prog_8_method_2_code 1 (Option.none : Option Jvm.ClassFile.FieldType) ∈ zT := zsub4 228 rfl rfl
theorem zw946 : Cond.instanceMethod ⟨"TemplateHouse$Names", "forget", "()V"⟩ ∈ zT := zsub4 226 (by decide +kernel) (by decide +kernel)
theorem zw947 : Cond.selects "TemplateHouse$Names" ⟨"TemplateHouse$Names", "forget", "()V"⟩ ⟨"TemplateHouse$Names", "forget", "()V"⟩ ∈ zT := zsub4 227 (by decide +kernel) (by decide +kernel)
theorem zw977 : Cond.code ⟨"TemplateHouse$Imports", "forget", "()V"⟩ prog_6_method_2_code 1 (Option.none : Option Jvm.ClassFile.FieldType) ∈ zT := zsub5 17 rfl rfl
theorem zw6 : Cond.initialized "TemplateHouse$Imports" ∈ zT := zsub1 6 (by decide +kernel) (by decide +kernel)
theorem zw975 : Cond.instanceMethod ⟨"TemplateHouse$Imports", "forget", "()V"⟩ ∈ zT := zsub5 15 (by decide +kernel) (by decide +kernel)
theorem zw976 : Cond.selects "TemplateHouse$Imports" ⟨"TemplateHouse$Imports", "forget", "()V"⟩ ⟨"TemplateHouse$Imports", "forget", "()V"⟩ ∈ zT := zsub5 16 (by decide +kernel) (by decide +kernel)
theorem zw983 : Cond.code ⟨"TemplateHouse$Gen", "keep", "(II)V"⟩ prog_4_method_8_code 3 (Option.none : Option Jvm.ClassFile.FieldType) ∈ zT := zsub5 23 rfl rfl
theorem zw4 : Cond.initialized "TemplateHouse$Gen" ∈ zT := zsub1 4 (by decide +kernel) (by decide +kernel)
theorem zw981 : Cond.instanceMethod ⟨"TemplateHouse$Gen", "keep", "(II)V"⟩ ∈ zT := zsub5 21 (by decide +kernel) (by decide +kernel)
theorem zw982 : Cond.selects "TemplateHouse$Gen" ⟨"TemplateHouse$Gen", "keep", "(II)V"⟩ ⟨"TemplateHouse$Gen", "keep", "(II)V"⟩ ∈ zT := zsub5 22 (by decide +kernel) (by decide +kernel)
theorem zw944 : Cond.code ⟨"TemplateHouse$Gen", "forget", "()V"⟩ prog_4_method_2_code 1 (Option.none : Option Jvm.ClassFile.FieldType) ∈ zT := zsub4 224 rfl rfl
theorem zw942 : Cond.instanceMethod ⟨"TemplateHouse$Gen", "forget", "()V"⟩ ∈ zT := zsub4 222 (by decide +kernel) (by decide +kernel)
theorem zw943 : Cond.selects "TemplateHouse$Gen" ⟨"TemplateHouse$Gen", "forget", "()V"⟩ ⟨"TemplateHouse$Gen", "forget", "()V"⟩ ∈ zT := zsub4 223 (by decide +kernel) (by decide +kernel)
theorem zw991 : Cond.code ⟨"TemplateHouse$Imports", "wasRead", "(I)Z"⟩ prog_6_method_3_code 3 (Option.some Jvm.ClassFile.FieldType.boolean) ∈ zT := zsub5 31 rfl rfl
theorem zw989 : Cond.instanceMethod ⟨"TemplateHouse$Imports", "wasRead", "(I)Z"⟩ ∈ zT := zsub5 29 (by decide +kernel) (by decide +kernel)
theorem zw990 : Cond.selects "TemplateHouse$Imports" ⟨"TemplateHouse$Imports", "wasRead", "(I)Z"⟩ ⟨"TemplateHouse$Imports", "wasRead", "(I)Z"⟩ ∈ zT := zsub5 30 (by decide +kernel) (by decide +kernel)
theorem zw997 : Cond.code ⟨"TemplateHouse$Imports", "noteRead", "(I)V"⟩ prog_6_method_4_code 2 (Option.none : Option Jvm.ClassFile.FieldType) ∈ zT := zsub5 37 rfl rfl
theorem zw995 : Cond.instanceMethod ⟨"TemplateHouse$Imports", "noteRead", "(I)V"⟩ ∈ zT := zsub5 35 (by decide +kernel) (by decide +kernel)
theorem zw996 : Cond.selects "TemplateHouse$Imports" ⟨"TemplateHouse$Imports", "noteRead", "(I)V"⟩ ⟨"TemplateHouse$Imports", "noteRead", "(I)V"⟩ ∈ zT := zsub5 36 (by decide +kernel) (by decide +kernel)
theorem zw1003 : Cond.code ⟨"TemplateHouse$Source", "openFile", "(I[BI)V"⟩ prog_9_method_2_code 4 (Option.none : Option Jvm.ClassFile.FieldType) ∈ zT := zsub5 43 rfl rfl
theorem zw3 : Cond.initialized "TemplateHouse$Source" ∈ zT := zsub1 3 (by decide +kernel) (by decide +kernel)
theorem zw1001 : Cond.instanceMethod ⟨"TemplateHouse$Source", "openFile", "(I[BI)V"⟩ ∈ zT := zsub5 41 (by decide +kernel) (by decide +kernel)
theorem zw1002 : Cond.selects "TemplateHouse$Source" ⟨"TemplateHouse$Source", "openFile", "(I[BI)V"⟩ ⟨"TemplateHouse$Source", "openFile", "(I[BI)V"⟩ ∈ zT := zsub5 42 (by decide +kernel) (by decide +kernel)
theorem zw1007 : Cond.code ⟨"TemplateHouse$TextReader", "openFile", "(LTemplateHouse$Gen;)V"⟩ prog_12_method_2_code 2 (Option.none : Option Jvm.ClassFile.FieldType) ∈ zT := zsub5 47 rfl rfl
theorem zw8 : Cond.initialized "TemplateHouse$TextReader" ∈ zT := zsub1 8 (by decide +kernel) (by decide +kernel)
theorem zw1005 : Cond.instanceMethod ⟨"TemplateHouse$TextReader", "openFile", "(LTemplateHouse$Gen;)V"⟩ ∈ zT := zsub5 45 (by decide +kernel) (by decide +kernel)
theorem zw1006 : Cond.selects "TemplateHouse$TextReader" ⟨"TemplateHouse$TextReader", "openFile", "(LTemplateHouse$Gen;)V"⟩ ⟨"TemplateHouse$TextReader", "openFile", "(LTemplateHouse$Gen;)V"⟩ ∈ zT := zsub5 46 (by decide +kernel) (by decide +kernel)
theorem zw1019 : Cond.code ⟨"TemplateHouse$Source", "past", "(I)I"⟩ prog_9_method_22_code 6 (Option.some Jvm.ClassFile.FieldType.int) ∈ zT := zsub5 59 rfl rfl
theorem zw1017 : Cond.instanceMethod ⟨"TemplateHouse$Source", "past", "(I)I"⟩ ∈ zT := zsub5 57 (by decide +kernel) (by decide +kernel)
theorem zw1018 : Cond.selects "TemplateHouse$Source" ⟨"TemplateHouse$Source", "past", "(I)I"⟩ ⟨"TemplateHouse$Source", "past", "(I)I"⟩ ∈ zT := zsub5 58 (by decide +kernel) (by decide +kernel)
abbrev cX12_setByte : ByteArray := prog_1_method_33_code
abbrev yX12_setByte : MethodName := ⟨"TemplateHouse", "setByte", "([BII)V"⟩
theorem dmX12_setByte : zDs yX12_setByte cX12_setByte 3 none 3 := ⟨⟨⟨by decide +kernel, by decide +kernel, by decide +kernel⟩, zw776, zw1⟩, zw775⟩
abbrev cX12_fourReady : ByteArray := prog_1_method_3_code
abbrev yX12_fourReady : MethodName := ⟨"TemplateHouse", "fourReady", "(II)V"⟩
theorem dmX12_fourReady : zDv yX12_fourReady cX12_fourReady 4 none 2 := ⟨⟨⟨by decide +kernel, by decide +kernel, by decide +kernel⟩, zw773, zw1⟩, zw772, zwp0⟩
abbrev cX12_feed : ByteArray := prog_1_method_2_code
abbrev yX12_feed : MethodName := ⟨"TemplateHouse", "feed", "(IIIII)V"⟩
theorem dmX12_feed : zDv yX12_feed cX12_feed 6 none 5 := ⟨⟨⟨by decide +kernel, by decide +kernel, by decide +kernel⟩, zw769, zw1⟩, zw767, zw768⟩
abbrev cX12_getByte : ByteArray := prog_1_method_32_code
abbrev yX12_getByte : MethodName := ⟨"TemplateHouse", "getByte", "([BI)I"⟩
theorem dmX12_getByte : zDs yX12_getByte cX12_getByte 2 (some .int) 2 := ⟨⟨⟨by decide +kernel, by decide +kernel, by decide +kernel⟩, zw783, zw1⟩, zw782⟩
abbrev cJ7_fill_031fb : ByteArray := prog_34_method_109_code
abbrev yJ7_fill_031fb : MethodName := ⟨"java/util/Arrays", "fill", "([BB)V"⟩
theorem dmJ7_fill_031fb : zDs yJ7_fill_031fb cJ7_fill_031fb 4 none 2 := ⟨⟨⟨by decide +kernel, by decide +kernel, by decide +kernel⟩, zw786, zw16⟩, zw785⟩
abbrev cX12_end : ByteArray := prog_1_method_4_code
abbrev yX12_end : MethodName := ⟨"TemplateHouse", "end", "(I)I"⟩
theorem dmX12_end : zDv yX12_end cX12_end 3 (some .int) 1 := ⟨⟨⟨by decide +kernel, by decide +kernel, by decide +kernel⟩, zw780, zw1⟩, zw778, zw779⟩
abbrev cX12_file : ByteArray := prog_1_method_5_code
abbrev yX12_file : MethodName := ⟨"TemplateHouse", "file", "(I)Z"⟩
theorem dmX12_file : zDv yX12_file cX12_file 5 (some .boolean) 1 := ⟨⟨⟨by decide +kernel, by decide +kernel, by decide +kernel⟩, zw790, zw1⟩, zw788, zw789⟩
abbrev cJ7_fill_53178 : ByteArray := prog_34_method_103_code
abbrev yJ7_fill_53178 : MethodName := ⟨"java/util/Arrays", "fill", "([II)V"⟩
theorem dmJ7_fill_53178 : zDs yJ7_fill_53178 cJ7_fill_53178 4 none 2 := ⟨⟨⟨by decide +kernel, by decide +kernel, by decide +kernel⟩, zw951, zw16⟩, zw950⟩
abbrev cX6_hash : ByteArray := prog_8_method_5_code
abbrev yX6_hash : MethodName := ⟨"TemplateHouse$Names", "hash", "([BII)I"⟩
theorem dmX6_hash : zDs yX6_hash cX6_hash 5 (some .int) 3 := ⟨⟨⟨by decide +kernel, by decide +kernel, by decide +kernel⟩, zw964, zw5⟩, zw963⟩
abbrev cX12_get : ByteArray := prog_1_method_30_code
abbrev yX12_get : MethodName := ⟨"TemplateHouse", "get", "([II)I"⟩
theorem dmX12_get : zDs yX12_get cX12_get 2 (some .int) 2 := ⟨⟨⟨by decide +kernel, by decide +kernel, by decide +kernel⟩, zw846, zw1⟩, zw845⟩
abbrev cX6_lengthOf : ByteArray := prog_8_method_3_code
abbrev yX6_lengthOf : MethodName := ⟨"TemplateHouse$Names", "lengthOf", "(I)I"⟩
theorem dmX6_lengthOf : zDv yX6_lengthOf cX6_lengthOf 2 (some .int) 1 := ⟨⟨⟨by decide +kernel, by decide +kernel, by decide +kernel⟩, zw969, zw5⟩, zw967, zw968⟩
abbrev cX12_same : ByteArray := prog_1_method_34_code
abbrev yX12_same : MethodName := ⟨"TemplateHouse", "same", "([BI[BII)Z"⟩
theorem dmX12_same : zDs yX12_same cX12_same 6 (some .boolean) 5 := ⟨⟨⟨by decide +kernel, by decide +kernel, by decide +kernel⟩, zw869, zw1⟩, zw868⟩
abbrev cX6_find : ByteArray := prog_8_method_4_code
abbrev yX6_find : MethodName := ⟨"TemplateHouse$Names", "find", "([BII)I"⟩
theorem dmX6_find : zDv yX6_find cX6_find 6 (some .int) 3 := ⟨⟨⟨by decide +kernel, by decide +kernel, by decide +kernel⟩, zw961, zw5⟩, zw959, zw960⟩
abbrev cX12_set : ByteArray := prog_1_method_31_code
abbrev yX12_set : MethodName := ⟨"TemplateHouse", "set", "([III)V"⟩
theorem dmX12_set : zDs yX12_set cX12_set 3 none 3 := ⟨⟨⟨by decide +kernel, by decide +kernel, by decide +kernel⟩, zw805, zw1⟩, zw804⟩
abbrev cX6_intern : ByteArray := prog_8_method_6_code
abbrev yX6_intern : MethodName := ⟨"TemplateHouse$Names", "intern", "([BII)I"⟩
theorem dmX6_intern : zDv yX6_intern cX6_intern 6 (some .int) 3 := ⟨⟨⟨by decide +kernel, by decide +kernel, by decide +kernel⟩, zw957, zw5⟩, zw955, zw956⟩
abbrev cX6_forget : ByteArray := prog_8_method_2_code
abbrev yX6_forget : MethodName := ⟨"TemplateHouse$Names", "forget", "()V"⟩
theorem dmX6_forget : zDv yX6_forget cX6_forget 1 none 0 := ⟨⟨⟨by decide +kernel, by decide +kernel, by decide +kernel⟩, zw948, zw5⟩, zw946, zw947⟩
abbrev cX4_forget : ByteArray := prog_6_method_2_code
abbrev yX4_forget : MethodName := ⟨"TemplateHouse$Imports", "forget", "()V"⟩
theorem dmX4_forget : zDv yX4_forget cX4_forget 1 none 0 := ⟨⟨⟨by decide +kernel, by decide +kernel, by decide +kernel⟩, zw977, zw6⟩, zw975, zw976⟩
abbrev cX2_keep : ByteArray := prog_4_method_8_code
abbrev yX2_keep : MethodName := ⟨"TemplateHouse$Gen", "keep", "(II)V"⟩
theorem dmX2_keep : zDv yX2_keep cX2_keep 3 none 2 := ⟨⟨⟨by decide +kernel, by decide +kernel, by decide +kernel⟩, zw983, zw4⟩, zw981, zw982⟩
abbrev cX2_forget : ByteArray := prog_4_method_2_code
abbrev yX2_forget : MethodName := ⟨"TemplateHouse$Gen", "forget", "()V"⟩
theorem dmX2_forget : zDv yX2_forget cX2_forget 1 none 0 := ⟨⟨⟨by decide +kernel, by decide +kernel, by decide +kernel⟩, zw944, zw4⟩, zw942, zw943⟩
abbrev cX4_wasRead : ByteArray := prog_6_method_3_code
abbrev yX4_wasRead : MethodName := ⟨"TemplateHouse$Imports", "wasRead", "(I)Z"⟩
theorem dmX4_wasRead : zDv yX4_wasRead cX4_wasRead 3 (some .boolean) 1 := ⟨⟨⟨by decide +kernel, by decide +kernel, by decide +kernel⟩, zw991, zw6⟩, zw989, zw990⟩
abbrev cX4_noteRead : ByteArray := prog_6_method_4_code
abbrev yX4_noteRead : MethodName := ⟨"TemplateHouse$Imports", "noteRead", "(I)V"⟩
theorem dmX4_noteRead : zDv yX4_noteRead cX4_noteRead 2 none 1 := ⟨⟨⟨by decide +kernel, by decide +kernel, by decide +kernel⟩, zw997, zw6⟩, zw995, zw996⟩
abbrev cX7_openFile : ByteArray := prog_9_method_2_code
abbrev yX7_openFile : MethodName := ⟨"TemplateHouse$Source", "openFile", "(I[BI)V"⟩
theorem dmX7_openFile : zDv yX7_openFile cX7_openFile 4 none 3 := ⟨⟨⟨by decide +kernel, by decide +kernel, by decide +kernel⟩, zw1003, zw3⟩, zw1001, zw1002⟩
abbrev cX10_openFile : ByteArray := prog_12_method_2_code
abbrev yX10_openFile : MethodName := ⟨"TemplateHouse$TextReader", "openFile", "(LTemplateHouse$Gen;)V"⟩
theorem dmX10_openFile : zDv yX10_openFile cX10_openFile 2 none 1 := ⟨⟨⟨by decide +kernel, by decide +kernel, by decide +kernel⟩, zw1007, zw8⟩, zw1005, zw1006⟩
abbrev cX7_past : ByteArray := prog_9_method_22_code
abbrev yX7_past : MethodName := ⟨"TemplateHouse$Source", "past", "(I)I"⟩
theorem dmX7_past : zDv yX7_past cX7_past 6 (some .int) 1 := ⟨⟨⟨by decide +kernel, by decide +kernel, by decide +kernel⟩, zw1019, zw3⟩, zw1017, zw1018⟩
theorem dX12_setByte_0 : decode cX12_setByte 0 = .ok (.iload_n 1, 1) := by decide +kernel
theorem dX12_setByte_1 : decode cX12_setByte 1 = .ok (.ifCond .lt 14, 3) := by decide +kernel
theorem dX12_setByte_15 : decode cX12_setByte 15 = .ok (.return_, 1) := by decide +kernel
theorem dX12_setByte_4 : decode cX12_setByte 4 = .ok (.iload_n 1, 1) := by decide +kernel
theorem dX12_setByte_5 : decode cX12_setByte 5 = .ok (.aload_n 0, 1) := by decide +kernel
theorem dX12_setByte_6 : decode cX12_setByte 6 = .ok (.arraylength, 1) := by decide +kernel
theorem dX12_setByte_7 : decode cX12_setByte 7 = .ok (.if_icmp .ge 8, 3) := by decide +kernel
theorem dX12_setByte_10 : decode cX12_setByte 10 = .ok (.aload_n 0, 1) := by decide +kernel
theorem dX12_setByte_11 : decode cX12_setByte 11 = .ok (.iload_n 1, 1) := by decide +kernel
theorem dX12_setByte_12 : decode cX12_setByte 12 = .ok (.iload_n 2, 1) := by decide +kernel
theorem dX12_setByte_13 : decode cX12_setByte 13 = .ok (.i2b, 1) := by decide +kernel
theorem dX12_setByte_14 : decode cX12_setByte 14 = .ok (.bastore, 1) := by decide +kernel
theorem dX12_fourReady_0 : decode cX12_fourReady 0 = .ok (.iconst 0, 1) := by decide +kernel
theorem dX12_fourReady_1 : decode cX12_fourReady 1 = .ok (.istore_n 3, 1) := by decide +kernel
theorem dX12_fourReady_2 : decode cX12_fourReady 2 = .ok (.iload_n 3, 1) := by decide +kernel
theorem dX12_fourReady_3 : decode cX12_fourReady 3 = .ok (.iconst 4, 1) := by decide +kernel
theorem dX12_fourReady_4 : decode cX12_fourReady 4 = .ok (.if_icmp .ge 28, 3) := by decide +kernel
theorem dX12_fourReady_32 : decode cX12_fourReady 32 = .ok (.return_, 1) := by decide +kernel
theorem dX12_fourReady_7 : decode cX12_fourReady 7 = .ok (.aload_n 0, 1) := by decide +kernel
theorem dX12_fourReady_8 : decode cX12_fourReady 8 = .ok (.getfield 9, 3) := by decide +kernel
theorem dX12_fourReady_11 : decode cX12_fourReady 11 = .ok (.iload_n 1, 1) := by decide +kernel
theorem dX12_fourReady_12 : decode cX12_fourReady 12 = .ok (.iload_n 3, 1) := by decide +kernel
theorem dX12_fourReady_13 : decode cX12_fourReady 13 = .ok (.iadd, 1) := by decide +kernel
theorem dX12_fourReady_14 : decode cX12_fourReady 14 = .ok (.iload_n 2, 1) := by decide +kernel
theorem dX12_fourReady_15 : decode cX12_fourReady 15 = .ok (.bipush 24, 2) := by decide +kernel
theorem dX12_fourReady_17 : decode cX12_fourReady 17 = .ok (.bipush 8, 2) := by decide +kernel
theorem dX12_fourReady_19 : decode cX12_fourReady 19 = .ok (.iload_n 3, 1) := by decide +kernel
theorem dX12_fourReady_20 : decode cX12_fourReady 20 = .ok (.imul, 1) := by decide +kernel
theorem dX12_fourReady_21 : decode cX12_fourReady 21 = .ok (.isub, 1) := by decide +kernel
theorem dX12_fourReady_22 : decode cX12_fourReady 22 = .ok (.iushr, 1) := by decide +kernel
theorem dX12_fourReady_23 : decode cX12_fourReady 23 = .ok (.invokestatic 105, 3) := by decide +kernel
theorem dX12_fourReady_26 : decode cX12_fourReady 26 = .ok (.iinc 3 1, 3) := by decide +kernel
theorem dX12_fourReady_29 : decode cX12_fourReady 29 = .ok (.goto (-27), 3) := by decide +kernel
theorem dX12_feed_0 : decode cX12_feed 0 = .ok (.aload_n 0, 1) := by decide +kernel
theorem dX12_feed_1 : decode cX12_feed 1 = .ok (.iconst 0, 1) := by decide +kernel
theorem dX12_feed_2 : decode cX12_feed 2 = .ok (.iload_n 1, 1) := by decide +kernel
theorem dX12_feed_3 : decode cX12_feed 3 = .ok (.invokevirtual 101, 3) := by decide +kernel
theorem dX12_feed_6 : decode cX12_feed 6 = .ok (.aload_n 0, 1) := by decide +kernel
theorem dX12_feed_7 : decode cX12_feed 7 = .ok (.iconst 4, 1) := by decide +kernel
theorem dX12_feed_8 : decode cX12_feed 8 = .ok (.iload_n 2, 1) := by decide +kernel
theorem dX12_feed_9 : decode cX12_feed 9 = .ok (.invokevirtual 101, 3) := by decide +kernel
theorem dX12_feed_12 : decode cX12_feed 12 = .ok (.aload_n 0, 1) := by decide +kernel
theorem dX12_feed_13 : decode cX12_feed 13 = .ok (.bipush 8, 2) := by decide +kernel
theorem dX12_feed_15 : decode cX12_feed 15 = .ok (.iload_n 3, 1) := by decide +kernel
theorem dX12_feed_16 : decode cX12_feed 16 = .ok (.invokevirtual 101, 3) := by decide +kernel
theorem dX12_feed_19 : decode cX12_feed 19 = .ok (.aload_n 0, 1) := by decide +kernel
theorem dX12_feed_20 : decode cX12_feed 20 = .ok (.bipush 12, 2) := by decide +kernel
theorem dX12_feed_22 : decode cX12_feed 22 = .ok (.iload 4, 2) := by decide +kernel
theorem dX12_feed_24 : decode cX12_feed 24 = .ok (.invokevirtual 101, 3) := by decide +kernel
theorem dX12_feed_27 : decode cX12_feed 27 = .ok (.aload_n 0, 1) := by decide +kernel
theorem dX12_feed_28 : decode cX12_feed 28 = .ok (.bipush 16, 2) := by decide +kernel
theorem dX12_feed_30 : decode cX12_feed 30 = .ok (.iload 5, 2) := by decide +kernel
theorem dX12_feed_32 : decode cX12_feed 32 = .ok (.invokevirtual 101, 3) := by decide +kernel
theorem dX12_feed_35 : decode cX12_feed 35 = .ok (.return_, 1) := by decide +kernel
theorem dX12_getByte_0 : decode cX12_getByte 0 = .ok (.iload_n 1, 1) := by decide +kernel
theorem dX12_getByte_1 : decode cX12_getByte 1 = .ok (.ifCond .lt 19, 3) := by decide +kernel
theorem dX12_getByte_21 : decode cX12_getByte 21 = .ok (.ireturn, 1) := by decide +kernel
theorem dX12_getByte_20 : decode cX12_getByte 20 = .ok (.iconst 0, 1) := by decide +kernel
theorem dX12_getByte_4 : decode cX12_getByte 4 = .ok (.iload_n 1, 1) := by decide +kernel
theorem dX12_getByte_5 : decode cX12_getByte 5 = .ok (.aload_n 0, 1) := by decide +kernel
theorem dX12_getByte_6 : decode cX12_getByte 6 = .ok (.arraylength, 1) := by decide +kernel
theorem dX12_getByte_7 : decode cX12_getByte 7 = .ok (.if_icmp .ge 13, 3) := by decide +kernel
theorem dX12_getByte_10 : decode cX12_getByte 10 = .ok (.aload_n 0, 1) := by decide +kernel
theorem dX12_getByte_11 : decode cX12_getByte 11 = .ok (.iload_n 1, 1) := by decide +kernel
theorem dX12_getByte_12 : decode cX12_getByte 12 = .ok (.baload, 1) := by decide +kernel
theorem dX12_getByte_13 : decode cX12_getByte 13 = .ok (.sipush 255, 3) := by decide +kernel
theorem dX12_getByte_16 : decode cX12_getByte 16 = .ok (.iand, 1) := by decide +kernel
theorem dX12_getByte_17 : decode cX12_getByte 17 = .ok (.goto 4, 3) := by decide +kernel
theorem dJ7_fill_031fb_0 : decode cJ7_fill_031fb 0 = .ok (.iconst 0, 1) := by decide +kernel
theorem dJ7_fill_031fb_1 : decode cJ7_fill_031fb 1 = .ok (.istore_n 2, 1) := by decide +kernel
theorem dJ7_fill_031fb_2 : decode cJ7_fill_031fb 2 = .ok (.aload_n 0, 1) := by decide +kernel
theorem dJ7_fill_031fb_3 : decode cJ7_fill_031fb 3 = .ok (.arraylength, 1) := by decide +kernel
theorem dJ7_fill_031fb_4 : decode cJ7_fill_031fb 4 = .ok (.istore_n 3, 1) := by decide +kernel
theorem dJ7_fill_031fb_5 : decode cJ7_fill_031fb 5 = .ok (.iload_n 2, 1) := by decide +kernel
theorem dJ7_fill_031fb_6 : decode cJ7_fill_031fb 6 = .ok (.iload_n 3, 1) := by decide +kernel
theorem dJ7_fill_031fb_7 : decode cJ7_fill_031fb 7 = .ok (.if_icmp .ge 13, 3) := by decide +kernel
theorem dJ7_fill_031fb_20 : decode cJ7_fill_031fb 20 = .ok (.return_, 1) := by decide +kernel
theorem dJ7_fill_031fb_10 : decode cJ7_fill_031fb 10 = .ok (.aload_n 0, 1) := by decide +kernel
theorem dJ7_fill_031fb_11 : decode cJ7_fill_031fb 11 = .ok (.iload_n 2, 1) := by decide +kernel
theorem dJ7_fill_031fb_12 : decode cJ7_fill_031fb 12 = .ok (.iload_n 1, 1) := by decide +kernel
theorem dJ7_fill_031fb_13 : decode cJ7_fill_031fb 13 = .ok (.bastore, 1) := by decide +kernel
theorem dJ7_fill_031fb_14 : decode cJ7_fill_031fb 14 = .ok (.iinc 2 1, 3) := by decide +kernel
theorem dJ7_fill_031fb_17 : decode cJ7_fill_031fb 17 = .ok (.goto (-12), 3) := by decide +kernel
theorem dX12_end_0 : decode cX12_end 0 = .ok (.iload_n 1, 1) := by decide +kernel
theorem dX12_end_1 : decode cX12_end 1 = .ok (.ifCond .lt 21, 3) := by decide +kernel
theorem dX12_end_22 : decode cX12_end 22 = .ok (.iconst (-1), 1) := by decide +kernel
theorem dX12_end_23 : decode cX12_end 23 = .ok (.ireturn, 1) := by decide +kernel
theorem dX12_end_4 : decode cX12_end 4 = .ok (.iload_n 1, 1) := by decide +kernel
theorem dX12_end_5 : decode cX12_end 5 = .ok (.bipush 20, 2) := by decide +kernel
theorem dX12_end_7 : decode cX12_end 7 = .ok (.if_icmp .gt 15, 3) := by decide +kernel
theorem dX12_end_10 : decode cX12_end 10 = .ok (.aload_n 0, 1) := by decide +kernel
theorem dX12_end_11 : decode cX12_end 11 = .ok (.getfield 16, 3) := by decide +kernel
theorem dX12_end_14 : decode cX12_end 14 = .ok (.iload_n 1, 1) := by decide +kernel
theorem dX12_end_15 : decode cX12_end 15 = .ok (.iadd, 1) := by decide +kernel
theorem dX12_end_16 : decode cX12_end 16 = .ok (.sipush 4000, 3) := by decide +kernel
theorem dX12_end_19 : decode cX12_end 19 = .ok (.if_icmp .le 5, 3) := by decide +kernel
theorem dX12_end_24 : decode cX12_end 24 = .ok (.iconst 0, 1) := by decide +kernel
theorem dX12_end_25 : decode cX12_end 25 = .ok (.istore_n 2, 1) := by decide +kernel
theorem dX12_end_26 : decode cX12_end 26 = .ok (.iload_n 2, 1) := by decide +kernel
theorem dX12_end_27 : decode cX12_end 27 = .ok (.iload_n 1, 1) := by decide +kernel
theorem dX12_end_28 : decode cX12_end 28 = .ok (.if_icmp .ge 30, 3) := by decide +kernel
theorem dX12_end_58 : decode cX12_end 58 = .ok (.aload_n 0, 1) := by decide +kernel
theorem dX12_end_59 : decode cX12_end 59 = .ok (.dup, 1) := by decide +kernel
theorem dX12_end_60 : decode cX12_end 60 = .ok (.getfield 16, 3) := by decide +kernel
theorem dX12_end_63 : decode cX12_end 63 = .ok (.iload_n 1, 1) := by decide +kernel
theorem dX12_end_64 : decode cX12_end 64 = .ok (.iadd, 1) := by decide +kernel
theorem dX12_end_65 : decode cX12_end 65 = .ok (.putfield 16, 3) := by decide +kernel
theorem dX12_end_68 : decode cX12_end 68 = .ok (.aload_n 0, 1) := by decide +kernel
theorem dX12_end_69 : decode cX12_end 69 = .ok (.getfield 9, 3) := by decide +kernel
theorem dX12_end_72 : decode cX12_end 72 = .ok (.iconst 0, 1) := by decide +kernel
theorem dX12_end_73 : decode cX12_end 73 = .ok (.invokestatic 113, 3) := by decide +kernel
theorem dX12_end_76 : decode cX12_end 76 = .ok (.aload_n 0, 1) := by decide +kernel
theorem dX12_end_77 : decode cX12_end 77 = .ok (.getfield 16, 3) := by decide +kernel
theorem dX12_end_80 : decode cX12_end 80 = .ok (.ireturn, 1) := by decide +kernel
theorem dX12_end_31 : decode cX12_end 31 = .ok (.aload_n 0, 1) := by decide +kernel
theorem dX12_end_32 : decode cX12_end 32 = .ok (.getfield 13, 3) := by decide +kernel
theorem dX12_end_35 : decode cX12_end 35 = .ok (.aload_n 0, 1) := by decide +kernel
theorem dX12_end_36 : decode cX12_end 36 = .ok (.getfield 16, 3) := by decide +kernel
theorem dX12_end_39 : decode cX12_end 39 = .ok (.iload_n 2, 1) := by decide +kernel
theorem dX12_end_40 : decode cX12_end 40 = .ok (.iadd, 1) := by decide +kernel
theorem dX12_end_41 : decode cX12_end 41 = .ok (.aload_n 0, 1) := by decide +kernel
theorem dX12_end_42 : decode cX12_end 42 = .ok (.getfield 9, 3) := by decide +kernel
theorem dX12_end_45 : decode cX12_end 45 = .ok (.iload_n 2, 1) := by decide +kernel
theorem dX12_end_46 : decode cX12_end 46 = .ok (.invokestatic 109, 3) := by decide +kernel
theorem dX12_end_49 : decode cX12_end 49 = .ok (.invokestatic 105, 3) := by decide +kernel
theorem dX12_end_52 : decode cX12_end 52 = .ok (.iinc 2 1, 3) := by decide +kernel
theorem dX12_end_55 : decode cX12_end 55 = .ok (.goto (-29), 3) := by decide +kernel
theorem dX12_file_0 : decode cX12_file 0 = .ok (.aload_n 0, 1) := by decide +kernel
theorem dX12_file_1 : decode cX12_file 1 = .ok (.getfield 16, 3) := by decide +kernel
theorem dX12_file_4 : decode cX12_file 4 = .ok (.istore_n 2, 1) := by decide +kernel
theorem dX12_file_5 : decode cX12_file 5 = .ok (.aload_n 0, 1) := by decide +kernel
theorem dX12_file_6 : decode cX12_file 6 = .ok (.iconst 0, 1) := by decide +kernel
theorem dX12_file_7 : decode cX12_file 7 = .ok (.putfield 16, 3) := by decide +kernel
theorem dX12_file_10 : decode cX12_file 10 = .ok (.iload_n 1, 1) := by decide +kernel
theorem dX12_file_11 : decode cX12_file 11 = .ok (.ifCond .lt 9, 3) := by decide +kernel
theorem dX12_file_20 : decode cX12_file 20 = .ok (.iconst 0, 1) := by decide +kernel
theorem dX12_file_21 : decode cX12_file 21 = .ok (.ireturn, 1) := by decide +kernel
theorem dX12_file_14 : decode cX12_file 14 = .ok (.iload_n 1, 1) := by decide +kernel
theorem dX12_file_15 : decode cX12_file 15 = .ok (.bipush 8, 2) := by decide +kernel
theorem dX12_file_17 : decode cX12_file 17 = .ok (.if_icmp .lt 5, 3) := by decide +kernel
theorem dX12_file_22 : decode cX12_file 22 = .ok (.iconst 0, 1) := by decide +kernel
theorem dX12_file_23 : decode cX12_file 23 = .ok (.istore_n 3, 1) := by decide +kernel
theorem dX12_file_24 : decode cX12_file 24 = .ok (.iload_n 3, 1) := by decide +kernel
theorem dX12_file_25 : decode cX12_file 25 = .ok (.iload_n 2, 1) := by decide +kernel
theorem dX12_file_26 : decode cX12_file 26 = .ok (.if_icmp .ge 49, 3) := by decide +kernel
theorem dX12_file_75 : decode cX12_file 75 = .ok (.aload_n 0, 1) := by decide +kernel
theorem dX12_file_76 : decode cX12_file 76 = .ok (.getfield 52, 3) := by decide +kernel
theorem dX12_file_79 : decode cX12_file 79 = .ok (.iload_n 1, 1) := by decide +kernel
theorem dX12_file_80 : decode cX12_file 80 = .ok (.aaload, 1) := by decide +kernel
theorem dX12_file_81 : decode cX12_file 81 = .ok (.astore_n 3, 1) := by decide +kernel
theorem dX12_file_82 : decode cX12_file 82 = .ok (.iconst 0, 1) := by decide +kernel
theorem dX12_file_83 : decode cX12_file 83 = .ok (.istore 4, 2) := by decide +kernel
theorem dX12_file_85 : decode cX12_file 85 = .ok (.iload 4, 2) := by decide +kernel
theorem dX12_file_87 : decode cX12_file 87 = .ok (.iload_n 2, 1) := by decide +kernel
theorem dX12_file_88 : decode cX12_file 88 = .ok (.if_icmp .ge 24, 3) := by decide +kernel
theorem dX12_file_112 : decode cX12_file 112 = .ok (.aload_n 0, 1) := by decide +kernel
theorem dX12_file_113 : decode cX12_file 113 = .ok (.getfield 55, 3) := by decide +kernel
theorem dX12_file_116 : decode cX12_file 116 = .ok (.iload_n 1, 1) := by decide +kernel
theorem dX12_file_117 : decode cX12_file 117 = .ok (.iload_n 2, 1) := by decide +kernel
theorem dX12_file_118 : decode cX12_file 118 = .ok (.iastore, 1) := by decide +kernel
theorem dX12_file_119 : decode cX12_file 119 = .ok (.iconst 1, 1) := by decide +kernel
theorem dX12_file_120 : decode cX12_file 120 = .ok (.ireturn, 1) := by decide +kernel
theorem dX12_file_91 : decode cX12_file 91 = .ok (.aload_n 3, 1) := by decide +kernel
theorem dX12_file_92 : decode cX12_file 92 = .ok (.iload 4, 2) := by decide +kernel
theorem dX12_file_94 : decode cX12_file 94 = .ok (.aload_n 0, 1) := by decide +kernel
theorem dX12_file_95 : decode cX12_file 95 = .ok (.getfield 13, 3) := by decide +kernel
theorem dX12_file_98 : decode cX12_file 98 = .ok (.iload 4, 2) := by decide +kernel
theorem dX12_file_100 : decode cX12_file 100 = .ok (.invokestatic 109, 3) := by decide +kernel
theorem dX12_file_103 : decode cX12_file 103 = .ok (.invokestatic 105, 3) := by decide +kernel
theorem dX12_file_106 : decode cX12_file 106 = .ok (.iinc 4 1, 3) := by decide +kernel
theorem dX12_file_109 : decode cX12_file 109 = .ok (.goto (-24), 3) := by decide +kernel
theorem dX12_file_29 : decode cX12_file 29 = .ok (.aload_n 0, 1) := by decide +kernel
theorem dX12_file_30 : decode cX12_file 30 = .ok (.getfield 13, 3) := by decide +kernel
theorem dX12_file_33 : decode cX12_file 33 = .ok (.iload_n 3, 1) := by decide +kernel
theorem dX12_file_34 : decode cX12_file 34 = .ok (.invokestatic 109, 3) := by decide +kernel
theorem dX12_file_37 : decode cX12_file 37 = .ok (.istore 4, 2) := by decide +kernel
theorem dX12_file_39 : decode cX12_file 39 = .ok (.iload 4, 2) := by decide +kernel
theorem dX12_file_41 : decode cX12_file 41 = .ok (.bipush 9, 2) := by decide +kernel
theorem dX12_file_43 : decode cX12_file 43 = .ok (.if_icmp .eq 26, 3) := by decide +kernel
theorem dX12_file_69 : decode cX12_file 69 = .ok (.iinc 3 1, 3) := by decide +kernel
theorem dX12_file_72 : decode cX12_file 72 = .ok (.goto (-48), 3) := by decide +kernel
theorem dX12_file_46 : decode cX12_file 46 = .ok (.iload 4, 2) := by decide +kernel
theorem dX12_file_48 : decode cX12_file 48 = .ok (.bipush 10, 2) := by decide +kernel
theorem dX12_file_50 : decode cX12_file 50 = .ok (.if_icmp .eq 19, 3) := by decide +kernel
theorem dX12_file_53 : decode cX12_file 53 = .ok (.iload 4, 2) := by decide +kernel
theorem dX12_file_55 : decode cX12_file 55 = .ok (.bipush 32, 2) := by decide +kernel
theorem dX12_file_57 : decode cX12_file 57 = .ok (.if_icmp .lt 10, 3) := by decide +kernel
theorem dX12_file_67 : decode cX12_file 67 = .ok (.iconst 0, 1) := by decide +kernel
theorem dX12_file_68 : decode cX12_file 68 = .ok (.ireturn, 1) := by decide +kernel
theorem dX12_file_60 : decode cX12_file 60 = .ok (.iload 4, 2) := by decide +kernel
theorem dX12_file_62 : decode cX12_file 62 = .ok (.bipush 126, 2) := by decide +kernel
theorem dX12_file_64 : decode cX12_file 64 = .ok (.if_icmp .le 5, 3) := by decide +kernel
theorem dJ7_fill_53178_0 : decode cJ7_fill_53178 0 = .ok (.iconst 0, 1) := by decide +kernel
theorem dJ7_fill_53178_1 : decode cJ7_fill_53178 1 = .ok (.istore_n 2, 1) := by decide +kernel
theorem dJ7_fill_53178_2 : decode cJ7_fill_53178 2 = .ok (.aload_n 0, 1) := by decide +kernel
theorem dJ7_fill_53178_3 : decode cJ7_fill_53178 3 = .ok (.arraylength, 1) := by decide +kernel
theorem dJ7_fill_53178_4 : decode cJ7_fill_53178 4 = .ok (.istore_n 3, 1) := by decide +kernel
theorem dJ7_fill_53178_5 : decode cJ7_fill_53178 5 = .ok (.iload_n 2, 1) := by decide +kernel
theorem dJ7_fill_53178_6 : decode cJ7_fill_53178 6 = .ok (.iload_n 3, 1) := by decide +kernel
theorem dJ7_fill_53178_7 : decode cJ7_fill_53178 7 = .ok (.if_icmp .ge 13, 3) := by decide +kernel
theorem dJ7_fill_53178_20 : decode cJ7_fill_53178 20 = .ok (.return_, 1) := by decide +kernel
theorem dJ7_fill_53178_10 : decode cJ7_fill_53178 10 = .ok (.aload_n 0, 1) := by decide +kernel
theorem dJ7_fill_53178_11 : decode cJ7_fill_53178 11 = .ok (.iload_n 2, 1) := by decide +kernel
theorem dJ7_fill_53178_12 : decode cJ7_fill_53178 12 = .ok (.iload_n 1, 1) := by decide +kernel
theorem dJ7_fill_53178_13 : decode cJ7_fill_53178 13 = .ok (.iastore, 1) := by decide +kernel
theorem dJ7_fill_53178_14 : decode cJ7_fill_53178 14 = .ok (.iinc 2 1, 3) := by decide +kernel
theorem dJ7_fill_53178_17 : decode cJ7_fill_53178 17 = .ok (.goto (-12), 3) := by decide +kernel
theorem dX6_hash_0 : decode cX6_hash 0 = .ok (.iload_n 2, 1) := by decide +kernel
theorem dX6_hash_1 : decode cX6_hash 1 = .ok (.istore_n 3, 1) := by decide +kernel
theorem dX6_hash_2 : decode cX6_hash 2 = .ok (.iload_n 1, 1) := by decide +kernel
theorem dX6_hash_3 : decode cX6_hash 3 = .ok (.istore 4, 2) := by decide +kernel
theorem dX6_hash_5 : decode cX6_hash 5 = .ok (.iload 4, 2) := by decide +kernel
theorem dX6_hash_7 : decode cX6_hash 7 = .ok (.iload_n 1, 1) := by decide +kernel
theorem dX6_hash_8 : decode cX6_hash 8 = .ok (.iload_n 2, 1) := by decide +kernel
theorem dX6_hash_9 : decode cX6_hash 9 = .ok (.iadd, 1) := by decide +kernel
theorem dX6_hash_10 : decode cX6_hash 10 = .ok (.if_icmp .ge 31, 3) := by decide +kernel
theorem dX6_hash_41 : decode cX6_hash 41 = .ok (.iload_n 3, 1) := by decide +kernel
theorem dX6_hash_42 : decode cX6_hash 42 = .ok (.iload_n 3, 1) := by decide +kernel
theorem dX6_hash_43 : decode cX6_hash 43 = .ok (.bipush 13, 2) := by decide +kernel
theorem dX6_hash_45 : decode cX6_hash 45 = .ok (.iushr, 1) := by decide +kernel
theorem dX6_hash_46 : decode cX6_hash 46 = .ok (.ixor, 1) := by decide +kernel
theorem dX6_hash_47 : decode cX6_hash 47 = .ok (.sipush 8191, 3) := by decide +kernel
theorem dX6_hash_50 : decode cX6_hash 50 = .ok (.iand, 1) := by decide +kernel
theorem dX6_hash_51 : decode cX6_hash 51 = .ok (.ireturn, 1) := by decide +kernel
theorem dX6_hash_13 : decode cX6_hash 13 = .ok (.iload 4, 2) := by decide +kernel
theorem dX6_hash_15 : decode cX6_hash 15 = .ok (.ifCond .lt 26, 3) := by decide +kernel
theorem dX6_hash_18 : decode cX6_hash 18 = .ok (.iload 4, 2) := by decide +kernel
theorem dX6_hash_20 : decode cX6_hash 20 = .ok (.aload_n 0, 1) := by decide +kernel
theorem dX6_hash_21 : decode cX6_hash 21 = .ok (.arraylength, 1) := by decide +kernel
theorem dX6_hash_22 : decode cX6_hash 22 = .ok (.if_icmp .ge 19, 3) := by decide +kernel
theorem dX6_hash_25 : decode cX6_hash 25 = .ok (.iload_n 3, 1) := by decide +kernel
theorem dX6_hash_26 : decode cX6_hash 26 = .ok (.bipush 31, 2) := by decide +kernel
theorem dX6_hash_28 : decode cX6_hash 28 = .ok (.imul, 1) := by decide +kernel
theorem dX6_hash_29 : decode cX6_hash 29 = .ok (.aload_n 0, 1) := by decide +kernel
theorem dX6_hash_30 : decode cX6_hash 30 = .ok (.iload 4, 2) := by decide +kernel
theorem dX6_hash_32 : decode cX6_hash 32 = .ok (.baload, 1) := by decide +kernel
theorem dX6_hash_33 : decode cX6_hash 33 = .ok (.iadd, 1) := by decide +kernel
theorem dX6_hash_34 : decode cX6_hash 34 = .ok (.istore_n 3, 1) := by decide +kernel
theorem dX6_hash_35 : decode cX6_hash 35 = .ok (.iinc 4 1, 3) := by decide +kernel
theorem dX6_hash_38 : decode cX6_hash 38 = .ok (.goto (-33), 3) := by decide +kernel
theorem dX12_get_0 : decode cX12_get 0 = .ok (.iload_n 1, 1) := by decide +kernel
theorem dX12_get_1 : decode cX12_get 1 = .ok (.ifCond .lt 15, 3) := by decide +kernel
theorem dX12_get_17 : decode cX12_get 17 = .ok (.ireturn, 1) := by decide +kernel
theorem dX12_get_16 : decode cX12_get 16 = .ok (.iconst 0, 1) := by decide +kernel
theorem dX12_get_4 : decode cX12_get 4 = .ok (.iload_n 1, 1) := by decide +kernel
theorem dX12_get_5 : decode cX12_get 5 = .ok (.aload_n 0, 1) := by decide +kernel
theorem dX12_get_6 : decode cX12_get 6 = .ok (.arraylength, 1) := by decide +kernel
theorem dX12_get_7 : decode cX12_get 7 = .ok (.if_icmp .ge 9, 3) := by decide +kernel
theorem dX12_get_10 : decode cX12_get 10 = .ok (.aload_n 0, 1) := by decide +kernel
theorem dX12_get_11 : decode cX12_get 11 = .ok (.iload_n 1, 1) := by decide +kernel
theorem dX12_get_12 : decode cX12_get 12 = .ok (.iaload, 1) := by decide +kernel
theorem dX12_get_13 : decode cX12_get 13 = .ok (.goto 4, 3) := by decide +kernel
theorem dX6_lengthOf_0 : decode cX6_lengthOf 0 = .ok (.iload_n 1, 1) := by decide +kernel
theorem dX6_lengthOf_1 : decode cX6_lengthOf 1 = .ok (.ifCond .lt 22, 3) := by decide +kernel
theorem dX6_lengthOf_42 : decode cX6_lengthOf 42 = .ok (.ireturn, 1) := by decide +kernel
theorem dX6_lengthOf_23 : decode cX6_lengthOf 23 = .ok (.iconst 0, 1) := by decide +kernel
theorem dX6_lengthOf_24 : decode cX6_lengthOf 24 = .ok (.goto 18, 3) := by decide +kernel
theorem dX6_lengthOf_4 : decode cX6_lengthOf 4 = .ok (.iload_n 1, 1) := by decide +kernel
theorem dX6_lengthOf_5 : decode cX6_lengthOf 5 = .ok (.aload_n 0, 1) := by decide +kernel
theorem dX6_lengthOf_6 : decode cX6_lengthOf 6 = .ok (.getfield 25, 3) := by decide +kernel
theorem dX6_lengthOf_9 : decode cX6_lengthOf 9 = .ok (.if_icmp .ge 14, 3) := by decide +kernel
theorem dX6_lengthOf_12 : decode cX6_lengthOf 12 = .ok (.iload_n 1, 1) := by decide +kernel
theorem dX6_lengthOf_13 : decode cX6_lengthOf 13 = .ok (.iconst 1, 1) := by decide +kernel
theorem dX6_lengthOf_14 : decode cX6_lengthOf 14 = .ok (.iadd, 1) := by decide +kernel
theorem dX6_lengthOf_15 : decode cX6_lengthOf 15 = .ok (.aload_n 0, 1) := by decide +kernel
theorem dX6_lengthOf_16 : decode cX6_lengthOf 16 = .ok (.getfield 15, 3) := by decide +kernel
theorem dX6_lengthOf_19 : decode cX6_lengthOf 19 = .ok (.arraylength, 1) := by decide +kernel
theorem dX6_lengthOf_20 : decode cX6_lengthOf 20 = .ok (.if_icmp .lt 7, 3) := by decide +kernel
theorem dX6_lengthOf_27 : decode cX6_lengthOf 27 = .ok (.aload_n 0, 1) := by decide +kernel
theorem dX6_lengthOf_28 : decode cX6_lengthOf 28 = .ok (.getfield 15, 3) := by decide +kernel
theorem dX6_lengthOf_31 : decode cX6_lengthOf 31 = .ok (.iload_n 1, 1) := by decide +kernel
theorem dX6_lengthOf_32 : decode cX6_lengthOf 32 = .ok (.iconst 1, 1) := by decide +kernel
theorem dX6_lengthOf_33 : decode cX6_lengthOf 33 = .ok (.iadd, 1) := by decide +kernel
theorem dX6_lengthOf_34 : decode cX6_lengthOf 34 = .ok (.iaload, 1) := by decide +kernel
theorem dX6_lengthOf_35 : decode cX6_lengthOf 35 = .ok (.aload_n 0, 1) := by decide +kernel
theorem dX6_lengthOf_36 : decode cX6_lengthOf 36 = .ok (.getfield 15, 3) := by decide +kernel
theorem dX6_lengthOf_39 : decode cX6_lengthOf 39 = .ok (.iload_n 1, 1) := by decide +kernel
theorem dX6_lengthOf_40 : decode cX6_lengthOf 40 = .ok (.iaload, 1) := by decide +kernel
theorem dX6_lengthOf_41 : decode cX6_lengthOf 41 = .ok (.isub, 1) := by decide +kernel
theorem dX12_same_0 : decode cX12_same 0 = .ok (.iload_n 1, 1) := by decide +kernel
theorem dX12_same_1 : decode cX12_same 1 = .ok (.ifCond .lt 30, 3) := by decide +kernel
theorem dX12_same_31 : decode cX12_same 31 = .ok (.iconst 0, 1) := by decide +kernel
theorem dX12_same_32 : decode cX12_same 32 = .ok (.ireturn, 1) := by decide +kernel
theorem dX12_same_4 : decode cX12_same 4 = .ok (.iload_n 3, 1) := by decide +kernel
theorem dX12_same_5 : decode cX12_same 5 = .ok (.ifCond .lt 26, 3) := by decide +kernel
theorem dX12_same_8 : decode cX12_same 8 = .ok (.iload 4, 2) := by decide +kernel
theorem dX12_same_10 : decode cX12_same 10 = .ok (.ifCond .lt 21, 3) := by decide +kernel
theorem dX12_same_13 : decode cX12_same 13 = .ok (.iload_n 1, 1) := by decide +kernel
theorem dX12_same_14 : decode cX12_same 14 = .ok (.aload_n 0, 1) := by decide +kernel
theorem dX12_same_15 : decode cX12_same 15 = .ok (.arraylength, 1) := by decide +kernel
theorem dX12_same_16 : decode cX12_same 16 = .ok (.iload 4, 2) := by decide +kernel
theorem dX12_same_18 : decode cX12_same 18 = .ok (.isub, 1) := by decide +kernel
theorem dX12_same_19 : decode cX12_same 19 = .ok (.if_icmp .gt 12, 3) := by decide +kernel
theorem dX12_same_22 : decode cX12_same 22 = .ok (.iload_n 3, 1) := by decide +kernel
theorem dX12_same_23 : decode cX12_same 23 = .ok (.aload_n 2, 1) := by decide +kernel
theorem dX12_same_24 : decode cX12_same 24 = .ok (.arraylength, 1) := by decide +kernel
theorem dX12_same_25 : decode cX12_same 25 = .ok (.iload 4, 2) := by decide +kernel
theorem dX12_same_27 : decode cX12_same 27 = .ok (.isub, 1) := by decide +kernel
theorem dX12_same_28 : decode cX12_same 28 = .ok (.if_icmp .le 5, 3) := by decide +kernel
theorem dX12_same_33 : decode cX12_same 33 = .ok (.iconst 0, 1) := by decide +kernel
theorem dX12_same_34 : decode cX12_same 34 = .ok (.istore 5, 2) := by decide +kernel
theorem dX12_same_36 : decode cX12_same 36 = .ok (.iload 5, 2) := by decide +kernel
theorem dX12_same_38 : decode cX12_same 38 = .ok (.iload 4, 2) := by decide +kernel
theorem dX12_same_40 : decode cX12_same 40 = .ok (.if_icmp .ge 26, 3) := by decide +kernel
theorem dX12_same_66 : decode cX12_same 66 = .ok (.iconst 1, 1) := by decide +kernel
theorem dX12_same_67 : decode cX12_same 67 = .ok (.ireturn, 1) := by decide +kernel
theorem dX12_same_43 : decode cX12_same 43 = .ok (.aload_n 0, 1) := by decide +kernel
theorem dX12_same_44 : decode cX12_same 44 = .ok (.iload_n 1, 1) := by decide +kernel
theorem dX12_same_45 : decode cX12_same 45 = .ok (.iload 5, 2) := by decide +kernel
theorem dX12_same_47 : decode cX12_same 47 = .ok (.iadd, 1) := by decide +kernel
theorem dX12_same_48 : decode cX12_same 48 = .ok (.baload, 1) := by decide +kernel
theorem dX12_same_49 : decode cX12_same 49 = .ok (.aload_n 2, 1) := by decide +kernel
theorem dX12_same_50 : decode cX12_same 50 = .ok (.iload_n 3, 1) := by decide +kernel
theorem dX12_same_51 : decode cX12_same 51 = .ok (.iload 5, 2) := by decide +kernel
theorem dX12_same_53 : decode cX12_same 53 = .ok (.iadd, 1) := by decide +kernel
theorem dX12_same_54 : decode cX12_same 54 = .ok (.baload, 1) := by decide +kernel
theorem dX12_same_55 : decode cX12_same 55 = .ok (.if_icmp .eq 5, 3) := by decide +kernel
theorem dX12_same_60 : decode cX12_same 60 = .ok (.iinc 5 1, 3) := by decide +kernel
theorem dX12_same_63 : decode cX12_same 63 = .ok (.goto (-27), 3) := by decide +kernel
theorem dX12_same_58 : decode cX12_same 58 = .ok (.iconst 0, 1) := by decide +kernel
theorem dX12_same_59 : decode cX12_same 59 = .ok (.ireturn, 1) := by decide +kernel
theorem dX6_find_0 : decode cX6_find 0 = .ok (.aload_n 0, 1) := by decide +kernel
theorem dX6_find_1 : decode cX6_find 1 = .ok (.getfield 22, 3) := by decide +kernel
theorem dX6_find_4 : decode cX6_find 4 = .ok (.aload_n 1, 1) := by decide +kernel
theorem dX6_find_5 : decode cX6_find 5 = .ok (.iload_n 2, 1) := by decide +kernel
theorem dX6_find_6 : decode cX6_find 6 = .ok (.iload_n 3, 1) := by decide +kernel
theorem dX6_find_7 : decode cX6_find 7 = .ok (.invokestatic 45, 3) := by decide +kernel
theorem dX6_find_10 : decode cX6_find 10 = .ok (.invokestatic 48, 3) := by decide +kernel
theorem dX6_find_13 : decode cX6_find 13 = .ok (.istore 4, 2) := by decide +kernel
theorem dX6_find_15 : decode cX6_find 15 = .ok (.iconst 0, 1) := by decide +kernel
theorem dX6_find_16 : decode cX6_find 16 = .ok (.istore 5, 2) := by decide +kernel
theorem dX6_find_18 : decode cX6_find 18 = .ok (.iload 5, 2) := by decide +kernel
theorem dX6_find_20 : decode cX6_find 20 = .ok (.aload_n 0, 1) := by decide +kernel
theorem dX6_find_21 : decode cX6_find 21 = .ok (.getfield 25, 3) := by decide +kernel
theorem dX6_find_24 : decode cX6_find 24 = .ok (.if_icmp .ge 60, 3) := by decide +kernel
theorem dX6_find_84 : decode cX6_find 84 = .ok (.iconst (-1), 1) := by decide +kernel
theorem dX6_find_85 : decode cX6_find 85 = .ok (.ireturn, 1) := by decide +kernel
theorem dX6_find_27 : decode cX6_find 27 = .ok (.iload 4, 2) := by decide +kernel
theorem dX6_find_29 : decode cX6_find 29 = .ok (.ifCond .lt 55, 3) := by decide +kernel
theorem dX6_find_32 : decode cX6_find 32 = .ok (.aload_n 0, 1) := by decide +kernel
theorem dX6_find_33 : decode cX6_find 33 = .ok (.iload 4, 2) := by decide +kernel
theorem dX6_find_35 : decode cX6_find 35 = .ok (.invokevirtual 52, 3) := by decide +kernel
theorem dX6_find_38 : decode cX6_find 38 = .ok (.iload_n 3, 1) := by decide +kernel
theorem dX6_find_39 : decode cX6_find 39 = .ok (.if_icmp .ne 28, 3) := by decide +kernel
theorem dX6_find_67 : decode cX6_find 67 = .ok (.aload_n 0, 1) := by decide +kernel
theorem dX6_find_68 : decode cX6_find 68 = .ok (.getfield 19, 3) := by decide +kernel
theorem dX6_find_71 : decode cX6_find 71 = .ok (.iload 4, 2) := by decide +kernel
theorem dX6_find_73 : decode cX6_find 73 = .ok (.invokestatic 48, 3) := by decide +kernel
theorem dX6_find_76 : decode cX6_find 76 = .ok (.istore 4, 2) := by decide +kernel
theorem dX6_find_78 : decode cX6_find 78 = .ok (.iinc 5 1, 3) := by decide +kernel
theorem dX6_find_81 : decode cX6_find 81 = .ok (.goto (-63), 3) := by decide +kernel
theorem dX6_find_42 : decode cX6_find 42 = .ok (.aload_n 0, 1) := by decide +kernel
theorem dX6_find_43 : decode cX6_find 43 = .ok (.getfield 9, 3) := by decide +kernel
theorem dX6_find_46 : decode cX6_find 46 = .ok (.aload_n 0, 1) := by decide +kernel
theorem dX6_find_47 : decode cX6_find 47 = .ok (.getfield 15, 3) := by decide +kernel
theorem dX6_find_50 : decode cX6_find 50 = .ok (.iload 4, 2) := by decide +kernel
theorem dX6_find_52 : decode cX6_find 52 = .ok (.invokestatic 48, 3) := by decide +kernel
theorem dX6_find_55 : decode cX6_find 55 = .ok (.aload_n 1, 1) := by decide +kernel
theorem dX6_find_56 : decode cX6_find 56 = .ok (.iload_n 2, 1) := by decide +kernel
theorem dX6_find_57 : decode cX6_find 57 = .ok (.iload_n 3, 1) := by decide +kernel
theorem dX6_find_58 : decode cX6_find 58 = .ok (.invokestatic 56, 3) := by decide +kernel
theorem dX6_find_61 : decode cX6_find 61 = .ok (.ifCond .eq 6, 3) := by decide +kernel
theorem dX6_find_64 : decode cX6_find 64 = .ok (.iload 4, 2) := by decide +kernel
theorem dX6_find_66 : decode cX6_find 66 = .ok (.ireturn, 1) := by decide +kernel
theorem dX12_set_0 : decode cX12_set 0 = .ok (.iload_n 1, 1) := by decide +kernel
theorem dX12_set_1 : decode cX12_set 1 = .ok (.ifCond .lt 13, 3) := by decide +kernel
theorem dX12_set_14 : decode cX12_set 14 = .ok (.return_, 1) := by decide +kernel
theorem dX12_set_4 : decode cX12_set 4 = .ok (.iload_n 1, 1) := by decide +kernel
theorem dX12_set_5 : decode cX12_set 5 = .ok (.aload_n 0, 1) := by decide +kernel
theorem dX12_set_6 : decode cX12_set 6 = .ok (.arraylength, 1) := by decide +kernel
theorem dX12_set_7 : decode cX12_set 7 = .ok (.if_icmp .ge 7, 3) := by decide +kernel
theorem dX12_set_10 : decode cX12_set 10 = .ok (.aload_n 0, 1) := by decide +kernel
theorem dX12_set_11 : decode cX12_set 11 = .ok (.iload_n 1, 1) := by decide +kernel
theorem dX12_set_12 : decode cX12_set 12 = .ok (.iload_n 2, 1) := by decide +kernel
theorem dX12_set_13 : decode cX12_set 13 = .ok (.iastore, 1) := by decide +kernel
theorem dX6_intern_0 : decode cX6_intern 0 = .ok (.aload_n 0, 1) := by decide +kernel
theorem dX6_intern_1 : decode cX6_intern 1 = .ok (.aload_n 1, 1) := by decide +kernel
theorem dX6_intern_2 : decode cX6_intern 2 = .ok (.iload_n 2, 1) := by decide +kernel
theorem dX6_intern_3 : decode cX6_intern 3 = .ok (.iload_n 3, 1) := by decide +kernel
theorem dX6_intern_4 : decode cX6_intern 4 = .ok (.invokevirtual 60, 3) := by decide +kernel
theorem dX6_intern_7 : decode cX6_intern 7 = .ok (.istore 4, 2) := by decide +kernel
theorem dX6_intern_9 : decode cX6_intern 9 = .ok (.iload 4, 2) := by decide +kernel
theorem dX6_intern_11 : decode cX6_intern 11 = .ok (.ifCond .ge 27, 3) := by decide +kernel
theorem dX6_intern_38 : decode cX6_intern 38 = .ok (.iload 4, 2) := by decide +kernel
theorem dX6_intern_40 : decode cX6_intern 40 = .ok (.ireturn, 1) := by decide +kernel
theorem dX6_intern_14 : decode cX6_intern 14 = .ok (.aload_n 0, 1) := by decide +kernel
theorem dX6_intern_15 : decode cX6_intern 15 = .ok (.getfield 25, 3) := by decide +kernel
theorem dX6_intern_18 : decode cX6_intern 18 = .ok (.sipush 16100, 3) := by decide +kernel
theorem dX6_intern_21 : decode cX6_intern 21 = .ok (.if_icmp .gt 17, 3) := by decide +kernel
theorem dX6_intern_24 : decode cX6_intern 24 = .ok (.aload_n 0, 1) := by decide +kernel
theorem dX6_intern_25 : decode cX6_intern 25 = .ok (.getfield 29, 3) := by decide +kernel
theorem dX6_intern_28 : decode cX6_intern 28 = .ok (.iload_n 3, 1) := by decide +kernel
theorem dX6_intern_29 : decode cX6_intern 29 = .ok (.iadd, 1) := by decide +kernel
theorem dX6_intern_30 : decode cX6_intern 30 = .ok (.aload_n 0, 1) := by decide +kernel
theorem dX6_intern_31 : decode cX6_intern 31 = .ok (.getfield 9, 3) := by decide +kernel
theorem dX6_intern_34 : decode cX6_intern 34 = .ok (.arraylength, 1) := by decide +kernel
theorem dX6_intern_35 : decode cX6_intern 35 = .ok (.if_icmp .le 6, 3) := by decide +kernel
theorem dX6_intern_41 : decode cX6_intern 41 = .ok (.iconst 0, 1) := by decide +kernel
theorem dX6_intern_42 : decode cX6_intern 42 = .ok (.istore 5, 2) := by decide +kernel
theorem dX6_intern_44 : decode cX6_intern 44 = .ok (.iload 5, 2) := by decide +kernel
theorem dX6_intern_46 : decode cX6_intern 46 = .ok (.iload_n 3, 1) := by decide +kernel
theorem dX6_intern_47 : decode cX6_intern 47 = .ok (.if_icmp .ge 31, 3) := by decide +kernel
theorem dX6_intern_78 : decode cX6_intern 78 = .ok (.aload_n 1, 1) := by decide +kernel
theorem dX6_intern_79 : decode cX6_intern 79 = .ok (.iload_n 2, 1) := by decide +kernel
theorem dX6_intern_80 : decode cX6_intern 80 = .ok (.iload_n 3, 1) := by decide +kernel
theorem dX6_intern_81 : decode cX6_intern 81 = .ok (.invokestatic 45, 3) := by decide +kernel
theorem dX6_intern_84 : decode cX6_intern 84 = .ok (.istore 5, 2) := by decide +kernel
theorem dX6_intern_86 : decode cX6_intern 86 = .ok (.aload_n 0, 1) := by decide +kernel
theorem dX6_intern_87 : decode cX6_intern 87 = .ok (.getfield 15, 3) := by decide +kernel
theorem dX6_intern_90 : decode cX6_intern 90 = .ok (.aload_n 0, 1) := by decide +kernel
theorem dX6_intern_91 : decode cX6_intern 91 = .ok (.getfield 25, 3) := by decide +kernel
theorem dX6_intern_94 : decode cX6_intern 94 = .ok (.aload_n 0, 1) := by decide +kernel
theorem dX6_intern_95 : decode cX6_intern 95 = .ok (.getfield 29, 3) := by decide +kernel
theorem dX6_intern_98 : decode cX6_intern 98 = .ok (.invokestatic 71, 3) := by decide +kernel
theorem dX6_intern_101 : decode cX6_intern 101 = .ok (.aload_n 0, 1) := by decide +kernel
theorem dX6_intern_102 : decode cX6_intern 102 = .ok (.dup, 1) := by decide +kernel
theorem dX6_intern_103 : decode cX6_intern 103 = .ok (.getfield 29, 3) := by decide +kernel
theorem dX6_intern_106 : decode cX6_intern 106 = .ok (.iload_n 3, 1) := by decide +kernel
theorem dX6_intern_107 : decode cX6_intern 107 = .ok (.iadd, 1) := by decide +kernel
theorem dX6_intern_108 : decode cX6_intern 108 = .ok (.putfield 29, 3) := by decide +kernel
theorem dX6_intern_111 : decode cX6_intern 111 = .ok (.aload_n 0, 1) := by decide +kernel
theorem dX6_intern_112 : decode cX6_intern 112 = .ok (.getfield 15, 3) := by decide +kernel
theorem dX6_intern_115 : decode cX6_intern 115 = .ok (.aload_n 0, 1) := by decide +kernel
theorem dX6_intern_116 : decode cX6_intern 116 = .ok (.getfield 25, 3) := by decide +kernel
theorem dX6_intern_119 : decode cX6_intern 119 = .ok (.iconst 1, 1) := by decide +kernel
theorem dX6_intern_120 : decode cX6_intern 120 = .ok (.iadd, 1) := by decide +kernel
theorem dX6_intern_121 : decode cX6_intern 121 = .ok (.aload_n 0, 1) := by decide +kernel
theorem dX6_intern_122 : decode cX6_intern 122 = .ok (.getfield 29, 3) := by decide +kernel
theorem dX6_intern_125 : decode cX6_intern 125 = .ok (.invokestatic 71, 3) := by decide +kernel
theorem dX6_intern_128 : decode cX6_intern 128 = .ok (.aload_n 0, 1) := by decide +kernel
theorem dX6_intern_129 : decode cX6_intern 129 = .ok (.getfield 19, 3) := by decide +kernel
theorem dX6_intern_132 : decode cX6_intern 132 = .ok (.aload_n 0, 1) := by decide +kernel
theorem dX6_intern_133 : decode cX6_intern 133 = .ok (.getfield 25, 3) := by decide +kernel
theorem dX6_intern_136 : decode cX6_intern 136 = .ok (.aload_n 0, 1) := by decide +kernel
theorem dX6_intern_137 : decode cX6_intern 137 = .ok (.getfield 22, 3) := by decide +kernel
theorem dX6_intern_140 : decode cX6_intern 140 = .ok (.iload 5, 2) := by decide +kernel
theorem dX6_intern_142 : decode cX6_intern 142 = .ok (.invokestatic 48, 3) := by decide +kernel
theorem dX6_intern_145 : decode cX6_intern 145 = .ok (.invokestatic 71, 3) := by decide +kernel
theorem dX6_intern_148 : decode cX6_intern 148 = .ok (.aload_n 0, 1) := by decide +kernel
theorem dX6_intern_149 : decode cX6_intern 149 = .ok (.getfield 22, 3) := by decide +kernel
theorem dX6_intern_152 : decode cX6_intern 152 = .ok (.iload 5, 2) := by decide +kernel
theorem dX6_intern_154 : decode cX6_intern 154 = .ok (.aload_n 0, 1) := by decide +kernel
theorem dX6_intern_155 : decode cX6_intern 155 = .ok (.getfield 25, 3) := by decide +kernel
theorem dX6_intern_158 : decode cX6_intern 158 = .ok (.invokestatic 71, 3) := by decide +kernel
theorem dX6_intern_161 : decode cX6_intern 161 = .ok (.aload_n 0, 1) := by decide +kernel
theorem dX6_intern_162 : decode cX6_intern 162 = .ok (.dup, 1) := by decide +kernel
theorem dX6_intern_163 : decode cX6_intern 163 = .ok (.getfield 25, 3) := by decide +kernel
theorem dX6_intern_166 : decode cX6_intern 166 = .ok (.iconst 1, 1) := by decide +kernel
theorem dX6_intern_167 : decode cX6_intern 167 = .ok (.iadd, 1) := by decide +kernel
theorem dX6_intern_168 : decode cX6_intern 168 = .ok (.putfield 25, 3) := by decide +kernel
theorem dX6_intern_171 : decode cX6_intern 171 = .ok (.aload_n 0, 1) := by decide +kernel
theorem dX6_intern_172 : decode cX6_intern 172 = .ok (.getfield 25, 3) := by decide +kernel
theorem dX6_intern_175 : decode cX6_intern 175 = .ok (.iconst 1, 1) := by decide +kernel
theorem dX6_intern_176 : decode cX6_intern 176 = .ok (.isub, 1) := by decide +kernel
theorem dX6_intern_177 : decode cX6_intern 177 = .ok (.ireturn, 1) := by decide +kernel
theorem dX6_intern_50 : decode cX6_intern 50 = .ok (.aload_n 0, 1) := by decide +kernel
theorem dX6_intern_51 : decode cX6_intern 51 = .ok (.getfield 9, 3) := by decide +kernel
theorem dX6_intern_54 : decode cX6_intern 54 = .ok (.aload_n 0, 1) := by decide +kernel
theorem dX6_intern_55 : decode cX6_intern 55 = .ok (.getfield 29, 3) := by decide +kernel
theorem dX6_intern_58 : decode cX6_intern 58 = .ok (.iload 5, 2) := by decide +kernel
theorem dX6_intern_60 : decode cX6_intern 60 = .ok (.iadd, 1) := by decide +kernel
theorem dX6_intern_61 : decode cX6_intern 61 = .ok (.aload_n 1, 1) := by decide +kernel
theorem dX6_intern_62 : decode cX6_intern 62 = .ok (.iload_n 2, 1) := by decide +kernel
theorem dX6_intern_63 : decode cX6_intern 63 = .ok (.iload 5, 2) := by decide +kernel
theorem dX6_intern_65 : decode cX6_intern 65 = .ok (.iadd, 1) := by decide +kernel
theorem dX6_intern_66 : decode cX6_intern 66 = .ok (.invokestatic 63, 3) := by decide +kernel
theorem dX6_intern_69 : decode cX6_intern 69 = .ok (.invokestatic 67, 3) := by decide +kernel
theorem dX6_intern_72 : decode cX6_intern 72 = .ok (.iinc 5 1, 3) := by decide +kernel
theorem dX6_intern_75 : decode cX6_intern 75 = .ok (.goto (-31), 3) := by decide +kernel
theorem dX6_forget_0 : decode cX6_forget 0 = .ok (.aload_n 0, 1) := by decide +kernel
theorem dX6_forget_1 : decode cX6_forget 1 = .ok (.getfield 22, 3) := by decide +kernel
theorem dX6_forget_4 : decode cX6_forget 4 = .ok (.iconst (-1), 1) := by decide +kernel
theorem dX6_forget_5 : decode cX6_forget 5 = .ok (.invokestatic 32, 3) := by decide +kernel
theorem dX6_forget_8 : decode cX6_forget 8 = .ok (.aload_n 0, 1) := by decide +kernel
theorem dX6_forget_9 : decode cX6_forget 9 = .ok (.iconst 0, 1) := by decide +kernel
theorem dX6_forget_10 : decode cX6_forget 10 = .ok (.putfield 25, 3) := by decide +kernel
theorem dX6_forget_13 : decode cX6_forget 13 = .ok (.aload_n 0, 1) := by decide +kernel
theorem dX6_forget_14 : decode cX6_forget 14 = .ok (.iconst 0, 1) := by decide +kernel
theorem dX6_forget_15 : decode cX6_forget 15 = .ok (.putfield 29, 3) := by decide +kernel
theorem dX6_forget_18 : decode cX6_forget 18 = .ok (.aload_n 0, 1) := by decide +kernel
theorem dX6_forget_19 : decode cX6_forget 19 = .ok (.getstatic 38, 3) := by decide +kernel
theorem dX6_forget_22 : decode cX6_forget 22 = .ok (.iconst 0, 1) := by decide +kernel
theorem dX6_forget_23 : decode cX6_forget 23 = .ok (.iconst 1, 1) := by decide +kernel
theorem dX6_forget_24 : decode cX6_forget 24 = .ok (.invokevirtual 41, 3) := by decide +kernel
theorem dX6_forget_27 : decode cX6_forget 27 = .ok (.pop, 1) := by decide +kernel
theorem dX6_forget_28 : decode cX6_forget 28 = .ok (.aload_n 0, 1) := by decide +kernel
theorem dX6_forget_29 : decode cX6_forget 29 = .ok (.getstatic 38, 3) := by decide +kernel
theorem dX6_forget_32 : decode cX6_forget 32 = .ok (.iconst 0, 1) := by decide +kernel
theorem dX6_forget_33 : decode cX6_forget 33 = .ok (.iconst 2, 1) := by decide +kernel
theorem dX6_forget_34 : decode cX6_forget 34 = .ok (.invokevirtual 41, 3) := by decide +kernel
theorem dX6_forget_37 : decode cX6_forget 37 = .ok (.pop, 1) := by decide +kernel
theorem dX6_forget_38 : decode cX6_forget 38 = .ok (.return_, 1) := by decide +kernel
theorem dX4_forget_0 : decode cX4_forget 0 = .ok (.aload_n 0, 1) := by decide +kernel
theorem dX4_forget_1 : decode cX4_forget 1 = .ok (.getfield 13, 3) := by decide +kernel
theorem dX4_forget_4 : decode cX4_forget 4 = .ok (.iconst 0, 1) := by decide +kernel
theorem dX4_forget_5 : decode cX4_forget 5 = .ok (.invokestatic 29, 3) := by decide +kernel
theorem dX4_forget_8 : decode cX4_forget 8 = .ok (.aload_n 0, 1) := by decide +kernel
theorem dX4_forget_9 : decode cX4_forget 9 = .ok (.getfield 19, 3) := by decide +kernel
theorem dX4_forget_12 : decode cX4_forget 12 = .ok (.iconst 0, 1) := by decide +kernel
theorem dX4_forget_13 : decode cX4_forget 13 = .ok (.invokestatic 29, 3) := by decide +kernel
theorem dX4_forget_16 : decode cX4_forget 16 = .ok (.aload_n 0, 1) := by decide +kernel
theorem dX4_forget_17 : decode cX4_forget 17 = .ok (.iconst 0, 1) := by decide +kernel
theorem dX4_forget_18 : decode cX4_forget 18 = .ok (.putfield 25, 3) := by decide +kernel
theorem dX4_forget_21 : decode cX4_forget 21 = .ok (.return_, 1) := by decide +kernel
theorem dX2_keep_0 : decode cX2_keep 0 = .ok (.aload_n 0, 1) := by decide +kernel
theorem dX2_keep_1 : decode cX2_keep 1 = .ok (.getfield 41, 3) := by decide +kernel
theorem dX2_keep_4 : decode cX2_keep 4 = .ok (.ifCond .lt 58, 3) := by decide +kernel
theorem dX2_keep_62 : decode cX2_keep 62 = .ok (.return_, 1) := by decide +kernel
theorem dX2_keep_7 : decode cX2_keep 7 = .ok (.aload_n 0, 1) := by decide +kernel
theorem dX2_keep_8 : decode cX2_keep 8 = .ok (.getfield 41, 3) := by decide +kernel
theorem dX2_keep_11 : decode cX2_keep 11 = .ok (.aload_n 0, 1) := by decide +kernel
theorem dX2_keep_12 : decode cX2_keep 12 = .ok (.getfield 34, 3) := by decide +kernel
theorem dX2_keep_15 : decode cX2_keep 15 = .ok (.arraylength, 1) := by decide +kernel
theorem dX2_keep_16 : decode cX2_keep 16 = .ok (.if_icmp .ge 46, 3) := by decide +kernel
theorem dX2_keep_19 : decode cX2_keep 19 = .ok (.aload_n 0, 1) := by decide +kernel
theorem dX2_keep_20 : decode cX2_keep 20 = .ok (.getfield 41, 3) := by decide +kernel
theorem dX2_keep_23 : decode cX2_keep 23 = .ok (.aload_n 0, 1) := by decide +kernel
theorem dX2_keep_24 : decode cX2_keep 24 = .ok (.getfield 38, 3) := by decide +kernel
theorem dX2_keep_27 : decode cX2_keep 27 = .ok (.arraylength, 1) := by decide +kernel
theorem dX2_keep_28 : decode cX2_keep 28 = .ok (.if_icmp .ge 34, 3) := by decide +kernel
theorem dX2_keep_31 : decode cX2_keep 31 = .ok (.aload_n 0, 1) := by decide +kernel
theorem dX2_keep_32 : decode cX2_keep 32 = .ok (.getfield 34, 3) := by decide +kernel
theorem dX2_keep_35 : decode cX2_keep 35 = .ok (.aload_n 0, 1) := by decide +kernel
theorem dX2_keep_36 : decode cX2_keep 36 = .ok (.getfield 41, 3) := by decide +kernel
theorem dX2_keep_39 : decode cX2_keep 39 = .ok (.iload_n 1, 1) := by decide +kernel
theorem dX2_keep_40 : decode cX2_keep 40 = .ok (.i2b, 1) := by decide +kernel
theorem dX2_keep_41 : decode cX2_keep 41 = .ok (.bastore, 1) := by decide +kernel
theorem dX2_keep_42 : decode cX2_keep 42 = .ok (.aload_n 0, 1) := by decide +kernel
theorem dX2_keep_43 : decode cX2_keep 43 = .ok (.getfield 38, 3) := by decide +kernel
theorem dX2_keep_46 : decode cX2_keep 46 = .ok (.aload_n 0, 1) := by decide +kernel
theorem dX2_keep_47 : decode cX2_keep 47 = .ok (.getfield 41, 3) := by decide +kernel
theorem dX2_keep_50 : decode cX2_keep 50 = .ok (.iload_n 2, 1) := by decide +kernel
theorem dX2_keep_51 : decode cX2_keep 51 = .ok (.iastore, 1) := by decide +kernel
theorem dX2_keep_52 : decode cX2_keep 52 = .ok (.aload_n 0, 1) := by decide +kernel
theorem dX2_keep_53 : decode cX2_keep 53 = .ok (.dup, 1) := by decide +kernel
theorem dX2_keep_54 : decode cX2_keep 54 = .ok (.getfield 41, 3) := by decide +kernel
theorem dX2_keep_57 : decode cX2_keep 57 = .ok (.iconst 1, 1) := by decide +kernel
theorem dX2_keep_58 : decode cX2_keep 58 = .ok (.iadd, 1) := by decide +kernel
theorem dX2_keep_59 : decode cX2_keep 59 = .ok (.putfield 41, 3) := by decide +kernel
theorem dX2_forget_0 : decode cX2_forget 0 = .ok (.aload_n 0, 1) := by decide +kernel
theorem dX2_forget_1 : decode cX2_forget 1 = .ok (.getfield 12, 3) := by decide +kernel
theorem dX2_forget_4 : decode cX2_forget 4 = .ok (.invokevirtual 74, 3) := by decide +kernel
theorem dX2_forget_7 : decode cX2_forget 7 = .ok (.aload_n 0, 1) := by decide +kernel
theorem dX2_forget_8 : decode cX2_forget 8 = .ok (.getfield 21, 3) := by decide +kernel
theorem dX2_forget_11 : decode cX2_forget 11 = .ok (.invokevirtual 77, 3) := by decide +kernel
theorem dX2_forget_14 : decode cX2_forget 14 = .ok (.aload_n 0, 1) := by decide +kernel
theorem dX2_forget_15 : decode cX2_forget 15 = .ok (.iconst 1, 1) := by decide +kernel
theorem dX2_forget_16 : decode cX2_forget 16 = .ok (.putfield 30, 3) := by decide +kernel
theorem dX2_forget_19 : decode cX2_forget 19 = .ok (.aload_n 0, 1) := by decide +kernel
theorem dX2_forget_20 : decode cX2_forget 20 = .ok (.iconst 0, 1) := by decide +kernel
theorem dX2_forget_21 : decode cX2_forget 21 = .ok (.putfield 41, 3) := by decide +kernel
theorem dX2_forget_24 : decode cX2_forget 24 = .ok (.aload_n 0, 1) := by decide +kernel
theorem dX2_forget_25 : decode cX2_forget 25 = .ok (.iconst 0, 1) := by decide +kernel
theorem dX2_forget_26 : decode cX2_forget 26 = .ok (.putfield 47, 3) := by decide +kernel
theorem dX2_forget_29 : decode cX2_forget 29 = .ok (.aload_n 0, 1) := by decide +kernel
theorem dX2_forget_30 : decode cX2_forget 30 = .ok (.iconst 0, 1) := by decide +kernel
theorem dX2_forget_31 : decode cX2_forget 31 = .ok (.putfield 53, 3) := by decide +kernel
theorem dX2_forget_34 : decode cX2_forget 34 = .ok (.aload_n 0, 1) := by decide +kernel
theorem dX2_forget_35 : decode cX2_forget 35 = .ok (.iconst 0, 1) := by decide +kernel
theorem dX2_forget_36 : decode cX2_forget 36 = .ok (.putfield 59, 3) := by decide +kernel
theorem dX2_forget_39 : decode cX2_forget 39 = .ok (.aload_n 0, 1) := by decide +kernel
theorem dX2_forget_40 : decode cX2_forget 40 = .ok (.getfield 62, 3) := by decide +kernel
theorem dX2_forget_43 : decode cX2_forget 43 = .ok (.iconst (-1), 1) := by decide +kernel
theorem dX2_forget_44 : decode cX2_forget 44 = .ok (.invokestatic 78, 3) := by decide +kernel
theorem dX2_forget_47 : decode cX2_forget 47 = .ok (.aload_n 0, 1) := by decide +kernel
theorem dX2_forget_48 : decode cX2_forget 48 = .ok (.bipush 10, 2) := by decide +kernel
theorem dX2_forget_50 : decode cX2_forget 50 = .ok (.iconst 0, 1) := by decide +kernel
theorem dX2_forget_51 : decode cX2_forget 51 = .ok (.invokevirtual 84, 3) := by decide +kernel
theorem dX2_forget_54 : decode cX2_forget 54 = .ok (.return_, 1) := by decide +kernel
theorem dX4_wasRead_0 : decode cX4_wasRead 0 = .ok (.iconst 0, 1) := by decide +kernel
theorem dX4_wasRead_1 : decode cX4_wasRead 1 = .ok (.istore_n 2, 1) := by decide +kernel
theorem dX4_wasRead_2 : decode cX4_wasRead 2 = .ok (.iload_n 2, 1) := by decide +kernel
theorem dX4_wasRead_3 : decode cX4_wasRead 3 = .ok (.aload_n 0, 1) := by decide +kernel
theorem dX4_wasRead_4 : decode cX4_wasRead 4 = .ok (.getfield 25, 3) := by decide +kernel
theorem dX4_wasRead_7 : decode cX4_wasRead 7 = .ok (.if_icmp .ge 23, 3) := by decide +kernel
theorem dX4_wasRead_30 : decode cX4_wasRead 30 = .ok (.iconst 0, 1) := by decide +kernel
theorem dX4_wasRead_31 : decode cX4_wasRead 31 = .ok (.ireturn, 1) := by decide +kernel
theorem dX4_wasRead_10 : decode cX4_wasRead 10 = .ok (.aload_n 0, 1) := by decide +kernel
theorem dX4_wasRead_11 : decode cX4_wasRead 11 = .ok (.getfield 22, 3) := by decide +kernel
theorem dX4_wasRead_14 : decode cX4_wasRead 14 = .ok (.iload_n 2, 1) := by decide +kernel
theorem dX4_wasRead_15 : decode cX4_wasRead 15 = .ok (.invokestatic 35, 3) := by decide +kernel
theorem dX4_wasRead_18 : decode cX4_wasRead 18 = .ok (.iload_n 1, 1) := by decide +kernel
theorem dX4_wasRead_19 : decode cX4_wasRead 19 = .ok (.if_icmp .ne 5, 3) := by decide +kernel
theorem dX4_wasRead_24 : decode cX4_wasRead 24 = .ok (.iinc 2 1, 3) := by decide +kernel
theorem dX4_wasRead_27 : decode cX4_wasRead 27 = .ok (.goto (-25), 3) := by decide +kernel
theorem dX4_wasRead_22 : decode cX4_wasRead 22 = .ok (.iconst 1, 1) := by decide +kernel
theorem dX4_wasRead_23 : decode cX4_wasRead 23 = .ok (.ireturn, 1) := by decide +kernel
theorem dX4_noteRead_0 : decode cX4_noteRead 0 = .ok (.aload_n 0, 1) := by decide +kernel
theorem dX4_noteRead_1 : decode cX4_noteRead 1 = .ok (.getfield 25, 3) := by decide +kernel
theorem dX4_noteRead_4 : decode cX4_noteRead 4 = .ok (.bipush 8, 2) := by decide +kernel
theorem dX4_noteRead_6 : decode cX4_noteRead 6 = .ok (.if_icmp .ge 25, 3) := by decide +kernel
theorem dX4_noteRead_31 : decode cX4_noteRead 31 = .ok (.return_, 1) := by decide +kernel
theorem dX4_noteRead_9 : decode cX4_noteRead 9 = .ok (.aload_n 0, 1) := by decide +kernel
theorem dX4_noteRead_10 : decode cX4_noteRead 10 = .ok (.getfield 22, 3) := by decide +kernel
theorem dX4_noteRead_13 : decode cX4_noteRead 13 = .ok (.aload_n 0, 1) := by decide +kernel
theorem dX4_noteRead_14 : decode cX4_noteRead 14 = .ok (.getfield 25, 3) := by decide +kernel
theorem dX4_noteRead_17 : decode cX4_noteRead 17 = .ok (.iload_n 1, 1) := by decide +kernel
theorem dX4_noteRead_18 : decode cX4_noteRead 18 = .ok (.invokestatic 41, 3) := by decide +kernel
theorem dX4_noteRead_21 : decode cX4_noteRead 21 = .ok (.aload_n 0, 1) := by decide +kernel
theorem dX4_noteRead_22 : decode cX4_noteRead 22 = .ok (.dup, 1) := by decide +kernel
theorem dX4_noteRead_23 : decode cX4_noteRead 23 = .ok (.getfield 25, 3) := by decide +kernel
theorem dX4_noteRead_26 : decode cX4_noteRead 26 = .ok (.iconst 1, 1) := by decide +kernel
theorem dX4_noteRead_27 : decode cX4_noteRead 27 = .ok (.iadd, 1) := by decide +kernel
theorem dX4_noteRead_28 : decode cX4_noteRead 28 = .ok (.putfield 25, 3) := by decide +kernel
theorem dX7_openFile_0 : decode cX7_openFile 0 = .ok (.aload_n 0, 1) := by decide +kernel
theorem dX7_openFile_1 : decode cX7_openFile 1 = .ok (.iload_n 1, 1) := by decide +kernel
theorem dX7_openFile_2 : decode cX7_openFile 2 = .ok (.putfield 33, 3) := by decide +kernel
theorem dX7_openFile_5 : decode cX7_openFile 5 = .ok (.aload_n 0, 1) := by decide +kernel
theorem dX7_openFile_6 : decode cX7_openFile 6 = .ok (.aload_n 2, 1) := by decide +kernel
theorem dX7_openFile_7 : decode cX7_openFile 7 = .ok (.putfield 9, 3) := by decide +kernel
theorem dX7_openFile_10 : decode cX7_openFile 10 = .ok (.aload_n 0, 1) := by decide +kernel
theorem dX7_openFile_11 : decode cX7_openFile 11 = .ok (.aload_n 2, 1) := by decide +kernel
theorem dX7_openFile_12 : decode cX7_openFile 12 = .ok (.putfield 42, 3) := by decide +kernel
theorem dX7_openFile_15 : decode cX7_openFile 15 = .ok (.aload_n 0, 1) := by decide +kernel
theorem dX7_openFile_16 : decode cX7_openFile 16 = .ok (.iload_n 3, 1) := by decide +kernel
theorem dX7_openFile_17 : decode cX7_openFile 17 = .ok (.putfield 45, 3) := by decide +kernel
theorem dX7_openFile_20 : decode cX7_openFile 20 = .ok (.aload_n 0, 1) := by decide +kernel
theorem dX7_openFile_21 : decode cX7_openFile 21 = .ok (.iload_n 3, 1) := by decide +kernel
theorem dX7_openFile_22 : decode cX7_openFile 22 = .ok (.putfield 26, 3) := by decide +kernel
theorem dX7_openFile_25 : decode cX7_openFile 25 = .ok (.aload_n 0, 1) := by decide +kernel
theorem dX7_openFile_26 : decode cX7_openFile 26 = .ok (.iconst 0, 1) := by decide +kernel
theorem dX7_openFile_27 : decode cX7_openFile 27 = .ok (.putfield 30, 3) := by decide +kernel
theorem dX7_openFile_30 : decode cX7_openFile 30 = .ok (.aload_n 0, 1) := by decide +kernel
theorem dX7_openFile_31 : decode cX7_openFile 31 = .ok (.iconst 1, 1) := by decide +kernel
theorem dX7_openFile_32 : decode cX7_openFile 32 = .ok (.putfield 15, 3) := by decide +kernel
theorem dX7_openFile_35 : decode cX7_openFile 35 = .ok (.return_, 1) := by decide +kernel
theorem dX10_openFile_0 : decode cX10_openFile 0 = .ok (.aload_n 0, 1) := by decide +kernel
theorem dX10_openFile_1 : decode cX10_openFile 1 = .ok (.aload_n 1, 1) := by decide +kernel
theorem dX10_openFile_2 : decode cX10_openFile 2 = .ok (.putfield 62, 3) := by decide +kernel
theorem dX10_openFile_5 : decode cX10_openFile 5 = .ok (.aload_n 0, 1) := by decide +kernel
theorem dX10_openFile_6 : decode cX10_openFile 6 = .ok (.bipush 60, 2) := by decide +kernel
theorem dX10_openFile_8 : decode cX10_openFile 8 = .ok (.putfield 9, 3) := by decide +kernel
theorem dX10_openFile_11 : decode cX10_openFile 11 = .ok (.aload_n 0, 1) := by decide +kernel
theorem dX10_openFile_12 : decode cX10_openFile 12 = .ok (.bipush 62, 2) := by decide +kernel
theorem dX10_openFile_14 : decode cX10_openFile 14 = .ok (.putfield 15, 3) := by decide +kernel
theorem dX10_openFile_17 : decode cX10_openFile 17 = .ok (.return_, 1) := by decide +kernel
theorem dX7_past_0 : decode cX7_past 0 = .ok (.iload_n 1, 1) := by decide +kernel
theorem dX7_past_1 : decode cX7_past 1 = .ok (.istore_n 2, 1) := by decide +kernel
theorem dX7_past_2 : decode cX7_past 2 = .ok (.iconst 0, 1) := by decide +kernel
theorem dX7_past_3 : decode cX7_past 3 = .ok (.istore_n 3, 1) := by decide +kernel
theorem dX7_past_4 : decode cX7_past 4 = .ok (.iload_n 3, 1) := by decide +kernel
theorem dX7_past_5 : decode cX7_past 5 = .ok (.sipush 4000, 3) := by decide +kernel
theorem dX7_past_8 : decode cX7_past 8 = .ok (.if_icmp .gt 236, 3) := by decide +kernel
theorem dX7_past_244 : decode cX7_past 244 = .ok (.aload_n 0, 1) := by decide +kernel
theorem dX7_past_245 : decode cX7_past 245 = .ok (.getfield 26, 3) := by decide +kernel
theorem dX7_past_248 : decode cX7_past 248 = .ok (.ireturn, 1) := by decide +kernel
theorem dX7_past_11 : decode cX7_past 11 = .ok (.iload_n 2, 1) := by decide +kernel
theorem dX7_past_12 : decode cX7_past 12 = .ok (.ifCond .lt 232, 3) := by decide +kernel
theorem dX7_past_15 : decode cX7_past 15 = .ok (.iload_n 2, 1) := by decide +kernel
theorem dX7_past_16 : decode cX7_past 16 = .ok (.aload_n 0, 1) := by decide +kernel
theorem dX7_past_17 : decode cX7_past 17 = .ok (.getfield 26, 3) := by decide +kernel
theorem dX7_past_20 : decode cX7_past 20 = .ok (.if_icmp .ge 224, 3) := by decide +kernel
theorem dX7_past_23 : decode cX7_past 23 = .ok (.iload_n 2, 1) := by decide +kernel
theorem dX7_past_24 : decode cX7_past 24 = .ok (.aload_n 0, 1) := by decide +kernel
theorem dX7_past_25 : decode cX7_past 25 = .ok (.getfield 9, 3) := by decide +kernel
theorem dX7_past_28 : decode cX7_past 28 = .ok (.arraylength, 1) := by decide +kernel
theorem dX7_past_29 : decode cX7_past 29 = .ok (.if_icmp .ge 215, 3) := by decide +kernel
theorem dX7_past_32 : decode cX7_past 32 = .ok (.aload_n 0, 1) := by decide +kernel
theorem dX7_past_33 : decode cX7_past 33 = .ok (.getfield 9, 3) := by decide +kernel
theorem dX7_past_36 : decode cX7_past 36 = .ok (.iload_n 2, 1) := by decide +kernel
theorem dX7_past_37 : decode cX7_past 37 = .ok (.baload, 1) := by decide +kernel
theorem dX7_past_38 : decode cX7_past 38 = .ok (.istore 4, 2) := by decide +kernel
theorem dX7_past_40 : decode cX7_past 40 = .ok (.iload_n 2, 1) := by decide +kernel
theorem dX7_past_41 : decode cX7_past 41 = .ok (.iconst 1, 1) := by decide +kernel
theorem dX7_past_42 : decode cX7_past 42 = .ok (.iadd, 1) := by decide +kernel
theorem dX7_past_43 : decode cX7_past 43 = .ok (.aload_n 0, 1) := by decide +kernel
theorem dX7_past_44 : decode cX7_past 44 = .ok (.getfield 26, 3) := by decide +kernel
theorem dX7_past_47 : decode cX7_past 47 = .ok (.if_icmp .ge 25, 3) := by decide +kernel
theorem dX7_past_72 : decode cX7_past 72 = .ok (.iconst (-1), 1) := by decide +kernel
theorem dX7_past_73 : decode cX7_past 73 = .ok (.istore 5, 2) := by decide +kernel
theorem dX7_past_75 : decode cX7_past 75 = .ok (.iload 4, 2) := by decide +kernel
theorem dX7_past_77 : decode cX7_past 77 = .ok (.bipush 47, 2) := by decide +kernel
theorem dX7_past_79 : decode cX7_past 79 = .ok (.if_icmp .ne 44, 3) := by decide +kernel
theorem dX7_past_238 : decode cX7_past 238 = .ok (.iinc 3 1, 3) := by decide +kernel
theorem dX7_past_241 : decode cX7_past 241 = .ok (.goto (-237), 3) := by decide +kernel
theorem dX7_past_123 : decode cX7_past 123 = .ok (.iload 4, 2) := by decide +kernel
theorem dX7_past_125 : decode cX7_past 125 = .ok (.bipush 47, 2) := by decide +kernel
theorem dX7_past_127 : decode cX7_past 127 = .ok (.if_icmp .ne 82, 3) := by decide +kernel
theorem dX7_past_209 : decode cX7_past 209 = .ok (.iload 4, 2) := by decide +kernel
theorem dX7_past_211 : decode cX7_past 211 = .ok (.bipush 10, 2) := by decide +kernel
theorem dX7_past_213 : decode cX7_past 213 = .ok (.if_icmp .eq 17, 3) := by decide +kernel
theorem dX7_past_230 : decode cX7_past 230 = .ok (.iinc 2 1, 3) := by decide +kernel
theorem dX7_past_233 : decode cX7_past 233 = .ok (.goto 5, 3) := by decide +kernel
theorem dX7_past_216 : decode cX7_past 216 = .ok (.iload 4, 2) := by decide +kernel
theorem dX7_past_218 : decode cX7_past 218 = .ok (.bipush 32, 2) := by decide +kernel
theorem dX7_past_220 : decode cX7_past 220 = .ok (.if_icmp .eq 10, 3) := by decide +kernel
theorem dX7_past_223 : decode cX7_past 223 = .ok (.iload 4, 2) := by decide +kernel
theorem dX7_past_225 : decode cX7_past 225 = .ok (.bipush 9, 2) := by decide +kernel
theorem dX7_past_227 : decode cX7_past 227 = .ok (.if_icmp .ne 9, 3) := by decide +kernel
theorem dX7_past_236 : decode cX7_past 236 = .ok (.iload_n 2, 1) := by decide +kernel
theorem dX7_past_237 : decode cX7_past 237 = .ok (.ireturn, 1) := by decide +kernel
theorem dX7_past_130 : decode cX7_past 130 = .ok (.iload 5, 2) := by decide +kernel
theorem dX7_past_132 : decode cX7_past 132 = .ok (.bipush 42, 2) := by decide +kernel
theorem dX7_past_134 : decode cX7_past 134 = .ok (.if_icmp .ne 75, 3) := by decide +kernel
theorem dX7_past_82 : decode cX7_past 82 = .ok (.iload 5, 2) := by decide +kernel
theorem dX7_past_84 : decode cX7_past 84 = .ok (.bipush 47, 2) := by decide +kernel
theorem dX7_past_86 : decode cX7_past 86 = .ok (.if_icmp .ne 37, 3) := by decide +kernel
theorem dX7_past_89 : decode cX7_past 89 = .ok (.iload_n 2, 1) := by decide +kernel
theorem dX7_past_90 : decode cX7_past 90 = .ok (.aload_n 0, 1) := by decide +kernel
theorem dX7_past_91 : decode cX7_past 91 = .ok (.getfield 26, 3) := by decide +kernel
theorem dX7_past_94 : decode cX7_past 94 = .ok (.if_icmp .ge 144, 3) := by decide +kernel
theorem dX7_past_97 : decode cX7_past 97 = .ok (.iload_n 2, 1) := by decide +kernel
theorem dX7_past_98 : decode cX7_past 98 = .ok (.aload_n 0, 1) := by decide +kernel
theorem dX7_past_99 : decode cX7_past 99 = .ok (.getfield 9, 3) := by decide +kernel
theorem dX7_past_102 : decode cX7_past 102 = .ok (.arraylength, 1) := by decide +kernel
theorem dX7_past_103 : decode cX7_past 103 = .ok (.if_icmp .ge 135, 3) := by decide +kernel
theorem dX7_past_106 : decode cX7_past 106 = .ok (.aload_n 0, 1) := by decide +kernel
theorem dX7_past_107 : decode cX7_past 107 = .ok (.getfield 9, 3) := by decide +kernel
theorem dX7_past_110 : decode cX7_past 110 = .ok (.iload_n 2, 1) := by decide +kernel
theorem dX7_past_111 : decode cX7_past 111 = .ok (.baload, 1) := by decide +kernel
theorem dX7_past_112 : decode cX7_past 112 = .ok (.bipush 10, 2) := by decide +kernel
theorem dX7_past_114 : decode cX7_past 114 = .ok (.if_icmp .eq 124, 3) := by decide +kernel
theorem dX7_past_117 : decode cX7_past 117 = .ok (.iinc 2 1, 3) := by decide +kernel
theorem dX7_past_120 : decode cX7_past 120 = .ok (.goto (-31), 3) := by decide +kernel
theorem dX7_past_50 : decode cX7_past 50 = .ok (.iload_n 2, 1) := by decide +kernel
theorem dX7_past_51 : decode cX7_past 51 = .ok (.iconst 1, 1) := by decide +kernel
theorem dX7_past_52 : decode cX7_past 52 = .ok (.iadd, 1) := by decide +kernel
theorem dX7_past_53 : decode cX7_past 53 = .ok (.aload_n 0, 1) := by decide +kernel
theorem dX7_past_54 : decode cX7_past 54 = .ok (.getfield 9, 3) := by decide +kernel
theorem dX7_past_57 : decode cX7_past 57 = .ok (.arraylength, 1) := by decide +kernel
theorem dX7_past_58 : decode cX7_past 58 = .ok (.if_icmp .ge 14, 3) := by decide +kernel
theorem dX7_past_61 : decode cX7_past 61 = .ok (.aload_n 0, 1) := by decide +kernel
theorem dX7_past_62 : decode cX7_past 62 = .ok (.getfield 9, 3) := by decide +kernel
theorem dX7_past_65 : decode cX7_past 65 = .ok (.iload_n 2, 1) := by decide +kernel
theorem dX7_past_66 : decode cX7_past 66 = .ok (.iconst 1, 1) := by decide +kernel
theorem dX7_past_67 : decode cX7_past 67 = .ok (.iadd, 1) := by decide +kernel
theorem dX7_past_68 : decode cX7_past 68 = .ok (.baload, 1) := by decide +kernel
theorem dX7_past_69 : decode cX7_past 69 = .ok (.goto 4, 3) := by decide +kernel
theorem dX7_past_137 : decode cX7_past 137 = .ok (.iinc 2 2, 3) := by decide +kernel
theorem dX7_past_140 : decode cX7_past 140 = .ok (.iload_n 2, 1) := by decide +kernel
theorem dX7_past_141 : decode cX7_past 141 = .ok (.iconst 1, 1) := by decide +kernel
theorem dX7_past_142 : decode cX7_past 142 = .ok (.iadd, 1) := by decide +kernel
theorem dX7_past_143 : decode cX7_past 143 = .ok (.aload_n 0, 1) := by decide +kernel
theorem dX7_past_144 : decode cX7_past 144 = .ok (.getfield 26, 3) := by decide +kernel
theorem dX7_past_147 : decode cX7_past 147 = .ok (.if_icmp .ge 44, 3) := by decide +kernel
theorem dX7_past_191 : decode cX7_past 191 = .ok (.iload_n 2, 1) := by decide +kernel
theorem dX7_past_192 : decode cX7_past 192 = .ok (.iconst 1, 1) := by decide +kernel
theorem dX7_past_193 : decode cX7_past 193 = .ok (.iadd, 1) := by decide +kernel
theorem dX7_past_194 : decode cX7_past 194 = .ok (.aload_n 0, 1) := by decide +kernel
theorem dX7_past_195 : decode cX7_past 195 = .ok (.getfield 26, 3) := by decide +kernel
theorem dX7_past_198 : decode cX7_past 198 = .ok (.if_icmp .lt 5, 3) := by decide +kernel
theorem dX7_past_203 : decode cX7_past 203 = .ok (.iinc 2 2, 3) := by decide +kernel
theorem dX7_past_206 : decode cX7_past 206 = .ok (.goto 32, 3) := by decide +kernel
theorem dX7_past_201 : decode cX7_past 201 = .ok (.iconst (-1), 1) := by decide +kernel
theorem dX7_past_202 : decode cX7_past 202 = .ok (.ireturn, 1) := by decide +kernel
theorem dX7_past_150 : decode cX7_past 150 = .ok (.iload_n 2, 1) := by decide +kernel
theorem dX7_past_151 : decode cX7_past 151 = .ok (.iconst 1, 1) := by decide +kernel
theorem dX7_past_152 : decode cX7_past 152 = .ok (.iadd, 1) := by decide +kernel
theorem dX7_past_153 : decode cX7_past 153 = .ok (.aload_n 0, 1) := by decide +kernel
theorem dX7_past_154 : decode cX7_past 154 = .ok (.getfield 9, 3) := by decide +kernel
theorem dX7_past_157 : decode cX7_past 157 = .ok (.arraylength, 1) := by decide +kernel
theorem dX7_past_158 : decode cX7_past 158 = .ok (.if_icmp .ge 33, 3) := by decide +kernel
theorem dX7_past_161 : decode cX7_past 161 = .ok (.aload_n 0, 1) := by decide +kernel
theorem dX7_past_162 : decode cX7_past 162 = .ok (.getfield 9, 3) := by decide +kernel
theorem dX7_past_165 : decode cX7_past 165 = .ok (.iload_n 2, 1) := by decide +kernel
theorem dX7_past_166 : decode cX7_past 166 = .ok (.baload, 1) := by decide +kernel
theorem dX7_past_167 : decode cX7_past 167 = .ok (.bipush 42, 2) := by decide +kernel
theorem dX7_past_169 : decode cX7_past 169 = .ok (.if_icmp .ne 16, 3) := by decide +kernel
theorem dX7_past_185 : decode cX7_past 185 = .ok (.iinc 2 1, 3) := by decide +kernel
theorem dX7_past_188 : decode cX7_past 188 = .ok (.goto (-48), 3) := by decide +kernel
theorem dX7_past_172 : decode cX7_past 172 = .ok (.aload_n 0, 1) := by decide +kernel
theorem dX7_past_173 : decode cX7_past 173 = .ok (.getfield 9, 3) := by decide +kernel
theorem dX7_past_176 : decode cX7_past 176 = .ok (.iload_n 2, 1) := by decide +kernel
theorem dX7_past_177 : decode cX7_past 177 = .ok (.iconst 1, 1) := by decide +kernel
theorem dX7_past_178 : decode cX7_past 178 = .ok (.iadd, 1) := by decide +kernel
theorem dX7_past_179 : decode cX7_past 179 = .ok (.baload, 1) := by decide +kernel
theorem dX7_past_180 : decode cX7_past 180 = .ok (.bipush 47, 2) := by decide +kernel
theorem dX7_past_182 : decode cX7_past 182 = .ok (.if_icmp .eq 9, 3) := by decide +kernel
set_option maxRecDepth 20000 in
theorem kX12_setByte (l : Launch) (G : zG) (T : tT) (κ : Nat → List Nat) (hst : l.stackTraces = false) (hE : tE G T κ) {a0 : Nat} (h0 : a0 ∈ κ 21) {x1 : Int32} {x2 : Int32} : tMv l G T yX12_setByte cX12_setByte 3 [] 0 0 0 0 [.ref a0, .int x1, .int x2] uT (uPv 0x0) := by
  refine tMv.intro hst rfl (Nat.le_of_ble_eq_true rfl) ?_
  intro w0 hw0 _ X hC hR hO hX
  refine z_iload_n hC (pc := 0) 1 dX12_setByte_0 rfl rfl ?_
  have j15 : ∀ (w5 : va_W), tW T w5 → tKeep 0x0 w0 w5 → zS X G 3 w5 [] 0 0 15 [] := by
    intro w5 hw5 kw5
    exact hR _ _ _ _ _ dX12_setByte_15 (Nat.le_of_ble_eq_true rfl) (Nat.le_of_ble_eq_true rfl) ⟨hw5, rfl, rfl, (tKeep.tr tKeep.rf kw5 rfl)⟩
  refine z_if_lt hC (pc := 1) 15 dX12_setByte_1 (by decide) (fun c6 => ?_) (fun c6 => ?_)
  · refine z_lvs [] rfl ?_
    exact j15 w0 hw0 tKeep.rf
  · refine z_iload_n hC (pc := 4) 1 dX12_setByte_4 rfl rfl ?_
    refine z_aload_n hC (pc := 5) 0 dX12_setByte_5 rfl rfl ?_
    obtain ⟨N7, gN7, AN7⟩ := hE.byts h0
    have hN7 : N7 < 2 ^ 31 := Nat.lt_trans gN7 (by decide)
    refine u_alenB hC hw0 (pc := 6) (Or.inl AN7) dX12_setByte_6 ?_
    refine z_icmp_ge hC (pc := 7) 15 dX12_setByte_7 (by decide) (fun c8 => ?_) (fun c8 => ?_)
    · refine z_lvs [] rfl ?_
      exact j15 w0 hw0 tKeep.rf
    · refine z_aload_n hC (pc := 10) 0 dX12_setByte_10 rfl rfl ?_
      refine z_iload_n hC (pc := 11) 1 dX12_setByte_11 rfl rfl ?_
      refine z_iload_n hC (pc := 12) 2 dX12_setByte_12 rfl rfl ?_
      refine z_i2b hC (pc := 13) (v := (x2 : Int32).toInt8.toInt32) dX12_setByte_13 rfl ?_
      generalize (x2 : Int32).toInt8.toInt32 = x9
      refine u_bast hC hw0 (pc := 14) AN7 dX12_setByte_14 (t_inB hN7 c6 c8) trivial (fun w10 hw10 kw10 => ?_)
      refine z_lvs [] rfl ?_
      exact j15 w10 hw10 (tKeep.tr tKeep.rf kw10 rfl)
set_option maxRecDepth 20000 in
theorem kX12_fourReady (l : Launch) (G : zG) (T : tT) (κ : Nat → List Nat) (hst : l.stackTraces = false) (hE : tE G T κ) {a0 : Nat} (h0 : a0 ∈ κ 12) {x1 : Int32} {x2 : Int32} : tMv l G T yX12_fourReady cX12_fourReady 4 [] 1 22 0 0 [.ref a0, .int x1, .int x2] uT (uPv 0x0) := by
  refine tMv.intro hst rfl (Nat.le_of_ble_eq_true rfl) ?_
  intro w0 hw0 _ X hC hR hO hX
  refine z_iconst hC (pc := 0) (v := 0) dX12_fourReady_0 (by decide) ?_
  refine z_istore_n hC (pc := 1) (lv' := [(3, .int 0), (0, .ref a0), (1, .int x1), (2, .int x2)]) dX12_fourReady_1 rfl (by decide) rfl ?_
  have j2 : ∀ (d2 : Nat), ∀ (w5 : va_W), tW T w5 → tKeep 0x0 w0 w5 → ∀ (x6 : Int32), ¬ x6 < 0 → (2 ^ 31 - (x6 : Int32).toInt).toNat ≤ d2 → zS X G 4 w5 [(0, .ref a0), (1, .int x1), (2, .int x2), (3, .int x6)] 0 0 2 [] := by
    intro d2
    induction d2 with
    | zero => intro w5 hw5 kw5 x6 v7 hd2; exact (t_zero hd2).elim
    | succ d2 ih2 =>
      intro w5 hw5 kw5 x6 v7 hd2
      refine z_iload_n hC (pc := 2) 3 dX12_fourReady_2 rfl rfl ?_
      refine z_iconst hC (pc := 3) (v := 4) dX12_fourReady_3 (by decide) ?_
      refine z_icmp_ge hC (pc := 4) 32 dX12_fourReady_4 (by decide) (fun c8 => ?_) (fun c8 => ?_)
      · exact hR _ _ _ _ _ dX12_fourReady_32 (Nat.le_of_ble_eq_true rfl) (Nat.le_of_ble_eq_true rfl) ⟨hw5, rfl, rfl, (tKeep.tr tKeep.rf kw5 rfl)⟩
      · refine z_aload_n hC (pc := 7) 0 dX12_fourReady_7 rfl rfl ?_
        refine u_get hC hw5 (pc := 8) zf12 0 (hE.o12 h0) rfl dX12_fourReady_8 zw708 (kk := fun va9 ta9 fa9 => ?_)
        obtain ⟨a9, ma9, rfl⟩ := ta9
        refine z_iload_n hC (pc := 11) 1 dX12_fourReady_11 rfl rfl ?_
        refine z_iload_n hC (pc := 12) 3 dX12_fourReady_12 rfl rfl ?_
        refine z_iadd hC (pc := 13) (v := (x1 + x6)) dX12_fourReady_13 rfl ?_
        refine z_iload_n hC (pc := 14) 2 dX12_fourReady_14 rfl rfl ?_
        refine z_bipush hC (pc := 15) (v := 24) dX12_fourReady_15 (by decide) ?_
        refine z_bipush hC (pc := 17) (v := 8) dX12_fourReady_17 (by decide) ?_
        refine z_iload_n hC (pc := 19) 3 dX12_fourReady_19 rfl rfl ?_
        refine z_imul hC (pc := 20) (v := ((8 : Int32) * x6)) dX12_fourReady_20 rfl ?_
        refine z_isub hC (pc := 21) (v := ((24 : Int32) - ((8 : Int32) * x6))) dX12_fourReady_21 rfl ?_
        refine z_iushr hC (pc := 22) (v := ((x2 : Int32).toUInt32 >>> ((((24 : Int32) - ((8 : Int32) * x6)) : Int32).toUInt32 &&& Int32.toUInt32 31)).toInt32) dX12_fourReady_22 rfl ?_
        refine t_callSv hC hw5 (pc := 23) (As := [.ref a9, .int (x1 + x6), .int (((x2 : Int32).toUInt32 >>> ((((24 : Int32) - ((8 : Int32) * x6)) : Int32).toUInt32 &&& Int32.toUInt32 31)).toInt32)]) (kX12_setByte l G T κ hst hE ma9) trivial dmX12_setByte dX12_fourReady_23 zw774 rfl rfl (Nat.le_of_ble_eq_true rfl) (Nat.le_of_ble_eq_true rfl) (Nat.le_of_ble_eq_true rfl) (Nat.le_of_ble_eq_true rfl) (Nat.le_of_ble_eq_true rfl) (fun _ _ _ h => nomatch h) (fun cw10 nw10 w10 hw10 pw10 => ?_)
        obtain ⟨rfl, rfl, kw10⟩ := pw10
        refine z_iinc hC (pc := 26) (v := (x6 + 1)) (lv' := [(3, .int (x6 + 1)), (0, .ref a0), (1, .int x1), (2, .int x2)]) 3 dX12_fourReady_26 rfl (congrArg _ (by decide)) (by decide) rfl ?_
        refine z_goto hC (pc := 29) 2 dX12_fourReady_29 (by decide) ?_
        refine z_lvs [1, 2, 3, 0] rfl ?_
        exact ih2 w10 hw10 (tKeep.tr (tKeep.tr tKeep.rf kw5 rfl) kw10 rfl) (x6 + 1) (t_nnI v7 (Int32.not_le.mp c8)) (t_up (Int32.not_le.mp c8) hd2)
  refine z_lvs [1, 2, 3, 0] rfl ?_
  exact j2 _ w0 hw0 tKeep.rf 0 (by decide) (Nat.le_refl _)
set_option maxRecDepth 20000 in
theorem kX12_feed (l : Launch) (G : zG) (T : tT) (κ : Nat → List Nat) (hst : l.stackTraces = false) (hE : tE G T κ) {a0 : Nat} (h0 : a0 ∈ κ 12) {x1 : Int32} {x2 : Int32} {x3 : Int32} {x4 : Int32} {x5 : Int32} : tMv l G T yX12_feed cX12_feed 6 [] 2 45 0 0 [.ref a0, .int x1, .int x2, .int x3, .int x4, .int x5] uT (uPv 0x0) := by
  refine tMv.intro hst rfl (Nat.le_of_ble_eq_true rfl) ?_
  intro w0 hw0 _ X hC hR hO hX
  refine z_aload_n hC (pc := 0) 0 dX12_feed_0 rfl rfl ?_
  refine z_iconst hC (pc := 1) (v := 0) dX12_feed_1 (by decide) ?_
  refine z_iload_n hC (pc := 2) 1 dX12_feed_2 rfl rfl ?_
  obtain ⟨q8, hqq8⟩ := hE.o12 h0
  refine t_callVv hC hw0 (pc := 3) (As := [.int 0, .int x1]) (kX12_fourReady l G T κ hst hE h0) trivial dmX12_fourReady zf12 hqq8 dX12_feed_3 zw770 rfl rfl (Nat.le_of_ble_eq_true rfl) (Nat.le_of_ble_eq_true rfl) (Nat.le_of_ble_eq_true rfl) (Nat.le_of_ble_eq_true rfl) (Nat.le_of_ble_eq_true rfl) (fun _ _ _ h => nomatch h) (fun cw9 nw9 w9 hw9 pw9 => ?_)
  obtain ⟨rfl, rfl, kw9⟩ := pw9
  refine z_aload_n hC (pc := 6) 0 dX12_feed_6 rfl rfl ?_
  refine z_iconst hC (pc := 7) (v := 4) dX12_feed_7 (by decide) ?_
  refine z_iload_n hC (pc := 8) 2 dX12_feed_8 rfl rfl ?_
  refine t_callVv hC hw9 (pc := 9) (As := [.int 4, .int x2]) (kX12_fourReady l G T κ hst hE h0) trivial dmX12_fourReady zf12 hqq8 dX12_feed_9 zw770 rfl rfl (Nat.le_of_ble_eq_true rfl) (Nat.le_of_ble_eq_true rfl) (Nat.le_of_ble_eq_true rfl) (Nat.le_of_ble_eq_true rfl) (Nat.le_of_ble_eq_true rfl) (fun _ _ _ h => nomatch h) (fun cw11 nw11 w11 hw11 pw11 => ?_)
  obtain ⟨rfl, rfl, kw11⟩ := pw11
  refine z_aload_n hC (pc := 12) 0 dX12_feed_12 rfl rfl ?_
  refine z_bipush hC (pc := 13) (v := 8) dX12_feed_13 (by decide) ?_
  refine z_iload_n hC (pc := 15) 3 dX12_feed_15 rfl rfl ?_
  refine t_callVv hC hw11 (pc := 16) (As := [.int 8, .int x3]) (kX12_fourReady l G T κ hst hE h0) trivial dmX12_fourReady zf12 hqq8 dX12_feed_16 zw770 rfl rfl (Nat.le_of_ble_eq_true rfl) (Nat.le_of_ble_eq_true rfl) (Nat.le_of_ble_eq_true rfl) (Nat.le_of_ble_eq_true rfl) (Nat.le_of_ble_eq_true rfl) (fun _ _ _ h => nomatch h) (fun cw13 nw13 w13 hw13 pw13 => ?_)
  obtain ⟨rfl, rfl, kw13⟩ := pw13
  refine z_aload_n hC (pc := 19) 0 dX12_feed_19 rfl rfl ?_
  refine z_bipush hC (pc := 20) (v := 12) dX12_feed_20 (by decide) ?_
  refine z_iload hC (pc := 22) 4 dX12_feed_22 rfl ?_
  refine t_callVv hC hw13 (pc := 24) (As := [.int 12, .int x4]) (kX12_fourReady l G T κ hst hE h0) trivial dmX12_fourReady zf12 hqq8 dX12_feed_24 zw770 rfl rfl (Nat.le_of_ble_eq_true rfl) (Nat.le_of_ble_eq_true rfl) (Nat.le_of_ble_eq_true rfl) (Nat.le_of_ble_eq_true rfl) (Nat.le_of_ble_eq_true rfl) (fun _ _ _ h => nomatch h) (fun cw15 nw15 w15 hw15 pw15 => ?_)
  obtain ⟨rfl, rfl, kw15⟩ := pw15
  refine z_aload_n hC (pc := 27) 0 dX12_feed_27 rfl rfl ?_
  refine z_bipush hC (pc := 28) (v := 16) dX12_feed_28 (by decide) ?_
  refine z_iload hC (pc := 30) 5 dX12_feed_30 rfl ?_
  refine t_callVv hC hw15 (pc := 32) (As := [.int 16, .int x5]) (kX12_fourReady l G T κ hst hE h0) trivial dmX12_fourReady zf12 hqq8 dX12_feed_32 zw770 rfl rfl (Nat.le_of_ble_eq_true rfl) (Nat.le_of_ble_eq_true rfl) (Nat.le_of_ble_eq_true rfl) (Nat.le_of_ble_eq_true rfl) (Nat.le_of_ble_eq_true rfl) (fun _ _ _ h => nomatch h) (fun cw17 nw17 w17 hw17 pw17 => ?_)
  obtain ⟨rfl, rfl, kw17⟩ := pw17
  exact hR _ _ _ _ _ dX12_feed_35 (Nat.le_of_ble_eq_true rfl) (Nat.le_of_ble_eq_true rfl) ⟨hw17, rfl, rfl, (tKeep.tr (tKeep.tr (tKeep.tr (tKeep.tr (tKeep.tr tKeep.rf kw9 rfl) kw11 rfl) kw13 rfl) kw15 rfl) kw17 rfl)⟩
set_option maxRecDepth 20000 in
theorem kX12_getByte (l : Launch) (G : zG) (T : tT) (κ : Nat → List Nat) (hst : l.stackTraces = false) (hE : tE G T κ) {a0 : Nat} (h0 : tRd G κ a0) {x1 : Int32} : tMi l G T yX12_getByte cX12_getByte 2 .int [] 0 0 0 0 [.ref a0, .int x1] uT (uPi 0x0) := by
  refine tMi.intro hst rfl (Nat.le_of_ble_eq_true rfl) ?_
  intro w0 hw0 _ X hC hR hO hX
  refine z_iload_n hC (pc := 0) 1 dX12_getByte_0 rfl rfl ?_
  have j21 : ∀ (x4 : Int32), zS X G 2 w0 [] 0 0 21 [.int x4] := by
    intro x4
    exact hR _ _ _ _ _ _ dX12_getByte_21 rfl (Nat.le_of_ble_eq_true rfl) (Nat.le_of_ble_eq_true rfl) ⟨hw0, rfl, rfl, tKeep.rf⟩
  have j20 : zS X G 2 w0 [] 0 0 20 [] := by
    refine z_iconst hC (pc := 20) (v := 0) dX12_getByte_20 (by decide) ?_
    exact j21 0
  refine z_if_lt hC (pc := 1) 20 dX12_getByte_1 (by decide) (fun c5 => ?_) (fun c5 => ?_)
  · refine z_lvs [] rfl ?_
    exact j20
  · refine z_iload_n hC (pc := 4) 1 dX12_getByte_4 rfl rfl ?_
    refine z_aload_n hC (pc := 5) 0 dX12_getByte_5 rfl rfl ?_
    obtain ⟨N6, gN6, AN6⟩ := hE.rd h0
    have hN6 : N6 < 2 ^ 31 := Nat.lt_trans gN6 (by decide)
    refine u_alenB hC hw0 (pc := 6) AN6 dX12_getByte_6 ?_
    refine z_icmp_ge hC (pc := 7) 20 dX12_getByte_7 (by decide) (fun c7 => ?_) (fun c7 => ?_)
    · refine z_lvs [] rfl ?_
      exact j20
    · refine z_aload_n hC (pc := 10) 0 dX12_getByte_10 rfl rfl ?_
      refine z_iload_n hC (pc := 11) 1 dX12_getByte_11 rfl rfl ?_
      refine u_bald hC hw0 (pc := 12) AN6 dX12_getByte_12 (t_inB hN6 c5 c7) (fun x8 => ?_)
      refine z_sipush hC (pc := 13) (v := 255) dX12_getByte_13 (by decide) ?_
      refine z_iand hC (pc := 16) (v := (x8 &&& 255)) dX12_getByte_16 rfl ?_
      refine z_goto hC (pc := 17) 21 dX12_getByte_17 (by decide) ?_
      refine z_lvs [] rfl ?_
      exact j21 (x8 &&& 255)
set_option maxRecDepth 20000 in
theorem kJ7_fill_031fb (l : Launch) (G : zG) (T : tT) (κ : Nat → List Nat) (hst : l.stackTraces = false) (hE : tE G T κ) {a0 : Nat} (h0 : a0 ∈ κ 21) {x1 : Int32} : tMv l G T yJ7_fill_031fb cJ7_fill_031fb 4 [] 0 0 0 0 [.ref a0, .int x1] uT (uPv 0x0) := by
  refine tMv.intro hst (by decide +kernel) (Nat.le_of_ble_eq_true rfl) ?_
  intro w0 hw0 _ X hC hR hO hX
  refine z_iconst hC (pc := 0) (v := 0) dJ7_fill_031fb_0 (by decide) ?_
  refine z_istore_n hC (pc := 1) (lv' := [(2, .int 0), (0, .ref a0), (1, .int x1)]) dJ7_fill_031fb_1 rfl (by decide) rfl ?_
  refine z_aload_n hC (pc := 2) 1 dJ7_fill_031fb_2 rfl rfl ?_
  obtain ⟨N4, gN4, AN4⟩ := hE.byts h0
  have hN4 : N4 < 2 ^ 31 := Nat.lt_trans gN4 (by decide)
  refine u_alenB hC hw0 (pc := 3) (Or.inl AN4) dJ7_fill_031fb_3 ?_
  refine z_istore_n hC (pc := 4) (lv' := [(3, .int (Int32.ofNat N4)), (2, .int 0), (0, .ref a0), (1, .int x1)]) dJ7_fill_031fb_4 rfl (by decide) rfl ?_
  have j5 : ∀ (d5 : Nat), ∀ (w5 : va_W), tW T w5 → tKeep 0x0 w0 w5 → ∀ (x6 : Int32), ¬ x6 < 0 → (2 ^ 31 - (x6 : Int32).toInt).toNat ≤ d5 → zS X G 4 w5 [(0, .ref a0), (1, .int x1), (2, .int x6), (3, .int (Int32.ofNat N4))] 0 0 5 [] := by
    intro d5
    induction d5 with
    | zero => intro w5 hw5 kw5 x6 v7 hd5; exact (t_zero hd5).elim
    | succ d5 ih5 =>
      intro w5 hw5 kw5 x6 v7 hd5
      refine z_iload_n hC (pc := 5) 2 dJ7_fill_031fb_5 rfl rfl ?_
      refine z_iload_n hC (pc := 6) 3 dJ7_fill_031fb_6 rfl rfl ?_
      refine z_icmp_ge hC (pc := 7) 20 dJ7_fill_031fb_7 (by decide) (fun c8 => ?_) (fun c8 => ?_)
      · exact hR _ _ _ _ _ dJ7_fill_031fb_20 (Nat.le_of_ble_eq_true rfl) (Nat.le_of_ble_eq_true rfl) ⟨hw5, rfl, rfl, (tKeep.tr tKeep.rf kw5 rfl)⟩
      · refine z_aload_n hC (pc := 10) 0 dJ7_fill_031fb_10 rfl rfl ?_
        refine z_iload_n hC (pc := 11) 2 dJ7_fill_031fb_11 rfl rfl ?_
        refine z_iload_n hC (pc := 12) 1 dJ7_fill_031fb_12 rfl rfl ?_
        refine u_bast hC hw5 (pc := 13) AN4 dJ7_fill_031fb_13 (t_inB hN4 v7 c8) trivial (fun w9 hw9 kw9 => ?_)
        refine z_iinc hC (pc := 14) (v := (x6 + 1)) (lv' := [(2, .int (x6 + 1)), (0, .ref a0), (1, .int x1), (3, .int (Int32.ofNat N4))]) 2 dJ7_fill_031fb_14 rfl (congrArg _ (by decide)) (by decide) rfl ?_
        refine z_goto hC (pc := 17) 5 dJ7_fill_031fb_17 (by decide) ?_
        refine z_lvs [1, 2, 0, 3] rfl ?_
        exact ih5 w9 hw9 (tKeep.tr (tKeep.tr tKeep.rf kw5 rfl) kw9 rfl) (x6 + 1) (t_nnI v7 (Int32.not_le.mp c8)) (t_up (Int32.not_le.mp c8) hd5)
  refine z_lvs [2, 3, 1, 0] rfl ?_
  exact j5 _ w0 hw0 tKeep.rf 0 (by decide) (Nat.le_refl _)
set_option maxRecDepth 20000 in
theorem kX12_end (l : Launch) (G : zG) (T : tT) (κ : Nat → List Nat) (hst : l.stackTraces = false) (hE : tE G T κ) {a0 : Nat} (h0 : a0 ∈ κ 12) {x1 : Int32} : tMi l G T yX12_end cX12_end 3 .int [] 1 23 0 0 [.ref a0, .int x1] uT (uPi 0x4000000000000000000000000000000000000000000000000000000000000000000000000000000000000000000000000000000000000000000000000000000000000000000000000000000000000000000000000000000000000000000000000) := by
  refine tMi.intro hst rfl (Nat.le_of_ble_eq_true rfl) ?_
  intro w0 hw0 _ X hC hR hO hX
  refine z_iload_n hC (pc := 0) 1 dX12_end_0 rfl rfl ?_
  have j22 : zS X G 3 w0 [] 0 0 22 [] := by
    refine z_iconst hC (pc := 22) (v := (-1)) dX12_end_22 (by decide) ?_
    exact hR _ _ _ _ _ _ dX12_end_23 rfl (Nat.le_of_ble_eq_true rfl) (Nat.le_of_ble_eq_true rfl) ⟨hw0, rfl, rfl, tKeep.rf⟩
  refine z_if_lt hC (pc := 1) 22 dX12_end_1 (by decide) (fun c4 => ?_) (fun c4 => ?_)
  · refine z_lvs [] rfl ?_
    exact j22
  · refine z_iload_n hC (pc := 4) 1 dX12_end_4 rfl rfl ?_
    refine z_bipush hC (pc := 5) (v := 20) dX12_end_5 (by decide) ?_
    refine z_icmp_gt hC (pc := 7) 22 dX12_end_7 (by decide) (fun c5 => ?_) (fun c5 => ?_)
    · refine z_lvs [] rfl ?_
      exact j22
    · refine z_aload_n hC (pc := 10) 0 dX12_end_10 rfl rfl ?_
      refine u_get hC hw0 (pc := 11) zf12 2 (hE.o12 h0) rfl dX12_end_11 zw710 (kk := fun vx6 tx6 fx6 => ?_)
      obtain ⟨x6, rfl⟩ := tx6
      refine z_iload_n hC (pc := 14) 1 dX12_end_14 rfl rfl ?_
      refine z_iadd hC (pc := 15) (v := (x6 + x1)) dX12_end_15 rfl ?_
      refine z_sipush hC (pc := 16) (v := 4000) dX12_end_16 (by decide) ?_
      refine z_icmp_le hC (pc := 19) 24 dX12_end_19 (by decide) (fun c7 => ?_) (fun c7 => ?_)
      · refine z_iconst hC (pc := 24) (v := 0) dX12_end_24 (by decide) ?_
        refine z_istore_n hC (pc := 25) (lv' := [(2, .int 0), (0, .ref a0), (1, .int x1)]) dX12_end_25 rfl (by decide) rfl ?_
        have j26 : ∀ (d26 : Nat), ∀ (w8 : va_W), tW T w8 → tKeep 0x0 w0 w8 → ∀ (x9 : Int32), ¬ x9 < 0 → (2 ^ 31 - (x9 : Int32).toInt).toNat ≤ d26 → zS X G 3 w8 [(0, .ref a0), (1, .int x1), (2, .int x9)] 0 0 26 [] := by
          intro d26
          induction d26 with
          | zero => intro w8 hw8 kw8 x9 v10 hd26; exact (t_zero hd26).elim
          | succ d26 ih26 =>
            intro w8 hw8 kw8 x9 v10 hd26
            refine z_iload_n hC (pc := 26) 2 dX12_end_26 rfl rfl ?_
            refine z_iload_n hC (pc := 27) 1 dX12_end_27 rfl rfl ?_
            refine z_icmp_ge hC (pc := 28) 58 dX12_end_28 (by decide) (fun c11 => ?_) (fun c11 => ?_)
            · refine z_aload_n hC (pc := 58) 0 dX12_end_58 rfl rfl ?_
              refine z_dup hC (pc := 59) dX12_end_59 rfl ?_
              refine u_getK hC (pc := 60) zf12 2 (tKeep.F kw8 fx6 rfl) dX12_end_60 zw710 (kk := ?_)
              refine z_iload_n hC (pc := 63) 1 dX12_end_63 rfl rfl ?_
              refine z_iadd hC (pc := 64) (v := (x6 + x1)) dX12_end_64 rfl ?_
              refine u_put hC hw8 (pc := 65) zf12 2 (hE.o12 h0) rfl ⟨_, rfl⟩ dX12_end_65 zw710 rfl rfl rfl (kk := fun w12 hw12 fw12 kw12 => ?_)
              refine z_aload_n hC (pc := 68) 0 dX12_end_68 rfl rfl ?_
              refine u_get hC hw12 (pc := 69) zf12 0 (hE.o12 h0) rfl dX12_end_69 zw708 (kk := fun va13 ta13 fa13 => ?_)
              obtain ⟨a13, ma13, rfl⟩ := ta13
              refine z_iconst hC (pc := 72) (v := 0) dX12_end_72 (by decide) ?_
              refine t_callSv hC hw12 (pc := 73) (As := [.ref a13, .int 0]) (kJ7_fill_031fb l G T κ hst hE ma13) trivial dmJ7_fill_031fb dX12_end_73 zw784 rfl rfl (Nat.le_of_ble_eq_true rfl) (Nat.le_of_ble_eq_true rfl) (Nat.le_of_ble_eq_true rfl) (Nat.le_of_ble_eq_true rfl) (Nat.le_of_ble_eq_true rfl) (fun _ _ _ h => nomatch h) (fun cw14 nw14 w14 hw14 pw14 => ?_)
              obtain ⟨rfl, rfl, kw14⟩ := pw14
              refine z_aload_n hC (pc := 76) 0 dX12_end_76 rfl rfl ?_
              refine u_getK hC (pc := 77) zf12 2 (tKeep.F kw14 fw12 rfl) dX12_end_77 zw710 (kk := ?_)
              exact hR _ _ _ _ _ _ dX12_end_80 rfl (Nat.le_of_ble_eq_true rfl) (Nat.le_of_ble_eq_true rfl) ⟨hw14, rfl, rfl, (tKeep.tr (tKeep.tr (tKeep.tr tKeep.rf kw8 rfl) kw12 rfl) kw14 rfl)⟩
            · refine z_aload_n hC (pc := 31) 0 dX12_end_31 rfl rfl ?_
              refine u_get hC hw8 (pc := 32) zf12 1 (hE.o12 h0) rfl dX12_end_32 zw709 (kk := fun va16 ta16 fa16 => ?_)
              obtain ⟨a16, ma16, rfl⟩ := ta16
              refine z_aload_n hC (pc := 35) 0 dX12_end_35 rfl rfl ?_
              refine u_getK hC (pc := 36) zf12 2 (tKeep.F kw8 fx6 rfl) dX12_end_36 zw710 (kk := ?_)
              refine z_iload_n hC (pc := 39) 2 dX12_end_39 rfl rfl ?_
              refine z_iadd hC (pc := 40) (v := (x6 + x9)) dX12_end_40 rfl ?_
              refine z_aload_n hC (pc := 41) 0 dX12_end_41 rfl rfl ?_
              refine u_get hC hw8 (pc := 42) zf12 0 (hE.o12 h0) rfl dX12_end_42 zw708 (kk := fun va17 ta17 fa17 => ?_)
              obtain ⟨a17, ma17, rfl⟩ := ta17
              refine z_iload_n hC (pc := 45) 2 dX12_end_45 rfl rfl ?_
              refine t_callSi hC hw8 (pc := 46) (As := [.ref a17, .int x9]) (kX12_getByte l G T κ hst hE (Or.inl ma17)) trivial dmX12_getByte dX12_end_46 zw781 rfl rfl (Nat.le_of_ble_eq_true rfl) (Nat.le_of_ble_eq_true rfl) (Nat.le_of_ble_eq_true rfl) (Nat.le_of_ble_eq_true rfl) (Nat.le_of_ble_eq_true rfl) (fun _ _ _ h => nomatch h) (fun x19 cw18 nw18 w18 hw18 pw18 => ?_)
              obtain ⟨rfl, rfl, kw18⟩ := pw18
              refine t_callSv hC hw18 (pc := 49) (As := [.ref a16, .int (x6 + x9), .int x19]) (kX12_setByte l G T κ hst hE ma16) trivial dmX12_setByte dX12_end_49 zw774 rfl rfl (Nat.le_of_ble_eq_true rfl) (Nat.le_of_ble_eq_true rfl) (Nat.le_of_ble_eq_true rfl) (Nat.le_of_ble_eq_true rfl) (Nat.le_of_ble_eq_true rfl) (fun _ _ _ h => nomatch h) (fun cw20 nw20 w20 hw20 pw20 => ?_)
              obtain ⟨rfl, rfl, kw20⟩ := pw20
              refine z_iinc hC (pc := 52) (v := (x9 + 1)) (lv' := [(2, .int (x9 + 1)), (0, .ref a0), (1, .int x1)]) 2 dX12_end_52 rfl (congrArg _ (by decide)) (by decide) rfl ?_
              refine z_goto hC (pc := 55) 26 dX12_end_55 (by decide) ?_
              refine z_lvs [1, 2, 0] rfl ?_
              exact ih26 w20 hw20 (tKeep.tr (tKeep.tr (tKeep.tr tKeep.rf kw8 rfl) kw18 rfl) kw20 rfl) (x9 + 1) (t_nnI v10 (Int32.not_le.mp c11)) (t_up (Int32.not_le.mp c11) hd26)
        refine z_lvs [1, 2, 0] rfl ?_
        exact j26 _ w0 hw0 tKeep.rf 0 (by decide) (Nat.le_refl _)
      · refine z_lvs [] rfl ?_
        exact j22
set_option maxRecDepth 20000 in
theorem kX12_file (l : Launch) (G : zG) (T : tT) (κ : Nat → List Nat) (hst : l.stackTraces = false) (hE : tE G T κ) {a0 : Nat} (h0 : a0 ∈ κ 12) {x1 : Int32} : tMi l G T yX12_file cX12_file 5 .boolean [] 1 22 0 0 [.ref a0, .int x1] uT (uPz 0x4000000000000000000000000000000000000000000000000000000000000000000000000000000000000000000000000000000000000000000000000000000000000000000000000000000000000000000000000000000000000000000000000) := by
  refine tMi.intro hst rfl (Nat.le_of_ble_eq_true rfl) ?_
  intro w0 hw0 _ X hC hR hO hX
  refine z_aload_n hC (pc := 0) 0 dX12_file_0 rfl rfl ?_
  refine u_get hC hw0 (pc := 1) zf12 2 (hE.o12 h0) rfl dX12_file_1 zw710 (kk := fun vx4 tx4 fx4 => ?_)
  obtain ⟨x4, rfl⟩ := tx4
  refine z_istore_n hC (pc := 4) (lv' := [(2, .int x4), (0, .ref a0), (1, .int x1)]) dX12_file_4 rfl (by decide) rfl ?_
  refine z_aload_n hC (pc := 5) 1 dX12_file_5 rfl rfl ?_
  refine z_iconst hC (pc := 6) (v := 0) dX12_file_6 (by decide) ?_
  refine u_put hC hw0 (pc := 7) zf12 2 (hE.o12 h0) rfl ⟨_, rfl⟩ dX12_file_7 zw710 rfl rfl rfl (kk := fun w5 hw5 fw5 kw5 => ?_)
  refine z_iload_n hC (pc := 10) 2 dX12_file_10 rfl rfl ?_
  have j20 : zS X G 5 w5 [] 0 0 20 [] := by
    refine z_iconst hC (pc := 20) (v := 0) dX12_file_20 (by decide) ?_
    exact hR _ _ _ _ _ _ dX12_file_21 rfl (Nat.le_of_ble_eq_true rfl) (Nat.le_of_ble_eq_true rfl) ⟨hw5, rfl, rfl, (tKeep.tr tKeep.rf kw5 rfl), (Or.inl rfl)⟩
  refine z_if_lt hC (pc := 11) 20 dX12_file_11 (by decide) (fun c6 => ?_) (fun c6 => ?_)
  · refine z_lvs [] rfl ?_
    exact j20
  · refine z_iload_n hC (pc := 14) 2 dX12_file_14 rfl rfl ?_
    refine z_bipush hC (pc := 15) (v := 8) dX12_file_15 (by decide) ?_
    refine z_icmp_lt hC (pc := 17) 22 dX12_file_17 (by decide) (fun c7 => ?_) (fun c7 => ?_)
    · refine z_iconst hC (pc := 22) (v := 0) dX12_file_22 (by decide) ?_
      refine z_istore_n hC (pc := 23) (lv' := [(3, .int 0), (2, .int x4), (0, .ref a0), (1, .int x1)]) dX12_file_23 rfl (by decide) rfl ?_
      have j24 : ∀ (d24 : Nat), ∀ (w8 : va_W), tW T w8 → tKeep 0x0 w5 w8 → ∀ (x9 : Int32), ¬ x9 < 0 → (2 ^ 31 - (x9 : Int32).toInt).toNat ≤ d24 → zS X G 5 w8 [(0, .ref a0), (1, .int x1), (2, .int x4), (3, .int x9)] 0 0 24 [] := by
        intro d24
        induction d24 with
        | zero => intro w8 hw8 kw8 x9 v10 hd24; exact (t_zero hd24).elim
        | succ d24 ih24 =>
          intro w8 hw8 kw8 x9 v10 hd24
          refine z_iload_n hC (pc := 24) 3 dX12_file_24 rfl rfl ?_
          refine z_iload_n hC (pc := 25) 2 dX12_file_25 rfl rfl ?_
          refine z_icmp_ge hC (pc := 26) 75 dX12_file_26 (by decide) (fun c11 => ?_) (fun c11 => ?_)
          · refine z_aload_n hC (pc := 75) 0 dX12_file_75 rfl rfl ?_
            refine u_get hC hw8 (pc := 76) zf12 3 (hE.o12 h0) rfl dX12_file_76 zw711 (kk := fun va12 ta12 fa12 => ?_)
            obtain ⟨a12, ma12, rfl⟩ := ta12
            refine z_iload_n hC (pc := 79) 1 dX12_file_79 rfl rfl ?_
            have A13 := hE.rows ma12
            refine u_aald hC hw8 (pc := 80) A13 dX12_file_80 (by have o1 := Int32.le_toInt x1; have o2 := Int32.toInt_lt x1; have o3 : (0 : Int32).toInt = 0 := (by decide); have o4 := t_fnl c6; have o5 : (8 : Int32).toInt = 8 := (by decide); have o6 := t_fl c7; rw [vp_in_iff]; omega) (fun a14 ma14 => ?_)
            refine z_astore_n hC (pc := 81) (lv' := [(3, .ref a14), (0, .ref a0), (1, .int x1), (2, .int x4)]) dX12_file_81 rfl (by decide) rfl ?_
            refine z_iconst hC (pc := 82) (v := 0) dX12_file_82 (by decide) ?_
            refine z_istore hC (pc := 83) (lv' := [(4, .int 0), (3, .ref a14), (0, .ref a0), (1, .int x1), (2, .int x4)]) dX12_file_83 (by decide) rfl ?_
            have j85 : ∀ (d85 : Nat), ∀ (w15 : va_W), tW T w15 → tKeep 0x0 w8 w15 → ∀ (x16 : Int32), ¬ x16 < 0 → (2 ^ 31 - (x16 : Int32).toInt).toNat ≤ d85 → zS X G 5 w15 [(0, .ref a0), (1, .int x1), (2, .int x4), (3, .ref a14), (4, .int x16)] 0 0 85 [] := by
              intro d85
              induction d85 with
              | zero => intro w15 hw15 kw15 x16 v17 hd85; exact (t_zero hd85).elim
              | succ d85 ih85 =>
                intro w15 hw15 kw15 x16 v17 hd85
                refine z_iload hC (pc := 85) 4 dX12_file_85 rfl ?_
                refine z_iload_n hC (pc := 87) 2 dX12_file_87 rfl rfl ?_
                refine z_icmp_ge hC (pc := 88) 112 dX12_file_88 (by decide) (fun c18 => ?_) (fun c18 => ?_)
                · refine z_aload_n hC (pc := 112) 0 dX12_file_112 rfl rfl ?_
                  refine u_get hC hw15 (pc := 113) zf12 4 (hE.o12 h0) rfl dX12_file_113 zw712 (kk := fun va19 ta19 fa19 => ?_)
                  obtain ⟨a19, ma19, rfl⟩ := ta19
                  refine z_iload_n hC (pc := 116) 1 dX12_file_116 rfl rfl ?_
                  refine z_iload_n hC (pc := 117) 2 dX12_file_117 rfl rfl ?_
                  have A20 := hE.eight ma19
                  refine u_iast hC hw15 (pc := 118) A20 dX12_file_118 (by have o1 := Int32.le_toInt x1; have o2 := Int32.toInt_lt x1; have o3 : (0 : Int32).toInt = 0 := (by decide); have o4 := t_fnl c6; have o5 : (8 : Int32).toInt = 8 := (by decide); have o6 := t_fl c7; rw [vp_in_iff]; omega) trivial (fun w21 hw21 kw21 => ?_)
                  refine z_iconst hC (pc := 119) (v := 1) dX12_file_119 (by decide) ?_
                  exact hR _ _ _ _ _ _ dX12_file_120 rfl (Nat.le_of_ble_eq_true rfl) (Nat.le_of_ble_eq_true rfl) ⟨hw21, rfl, rfl, (tKeep.tr (tKeep.tr (tKeep.tr (tKeep.tr tKeep.rf kw5 rfl) kw8 rfl) kw15 rfl) kw21 rfl), (Or.inr rfl)⟩
                · refine z_aload_n hC (pc := 91) 3 dX12_file_91 rfl rfl ?_
                  refine z_iload hC (pc := 92) 4 dX12_file_92 rfl ?_
                  refine z_aload_n hC (pc := 94) 0 dX12_file_94 rfl rfl ?_
                  refine u_get hC hw15 (pc := 95) zf12 1 (hE.o12 h0) rfl dX12_file_95 zw709 (kk := fun va22 ta22 fa22 => ?_)
                  obtain ⟨a22, ma22, rfl⟩ := ta22
                  refine z_iload hC (pc := 98) 4 dX12_file_98 rfl ?_
                  refine t_callSi hC hw15 (pc := 100) (As := [.ref a22, .int x16]) (kX12_getByte l G T κ hst hE (Or.inl ma22)) trivial dmX12_getByte dX12_file_100 zw781 rfl rfl (Nat.le_of_ble_eq_true rfl) (Nat.le_of_ble_eq_true rfl) (Nat.le_of_ble_eq_true rfl) (Nat.le_of_ble_eq_true rfl) (Nat.le_of_ble_eq_true rfl) (fun _ _ _ h => nomatch h) (fun x24 cw23 nw23 w23 hw23 pw23 => ?_)
                  obtain ⟨rfl, rfl, kw23⟩ := pw23
                  refine t_callSv hC hw23 (pc := 103) (As := [.ref a14, .int x16, .int x24]) (kX12_setByte l G T κ hst hE ma14) trivial dmX12_setByte dX12_file_103 zw774 rfl rfl (Nat.le_of_ble_eq_true rfl) (Nat.le_of_ble_eq_true rfl) (Nat.le_of_ble_eq_true rfl) (Nat.le_of_ble_eq_true rfl) (Nat.le_of_ble_eq_true rfl) (fun _ _ _ h => nomatch h) (fun cw25 nw25 w25 hw25 pw25 => ?_)
                  obtain ⟨rfl, rfl, kw25⟩ := pw25
                  refine z_iinc hC (pc := 106) (v := (x16 + 1)) (lv' := [(4, .int (x16 + 1)), (0, .ref a0), (1, .int x1), (2, .int x4), (3, .ref a14)]) 4 dX12_file_106 rfl (congrArg _ (by decide)) (by decide) rfl ?_
                  refine z_goto hC (pc := 109) 85 dX12_file_109 (by decide) ?_
                  refine z_lvs [1, 2, 3, 4, 0] rfl ?_
                  exact ih85 w25 hw25 (tKeep.tr (tKeep.tr (tKeep.tr tKeep.rf kw15 rfl) kw23 rfl) kw25 rfl) (x16 + 1) (t_nnI v17 (Int32.not_le.mp c18)) (t_up (Int32.not_le.mp c18) hd85)
            refine z_lvs [2, 3, 4, 1, 0] rfl ?_
            exact j85 _ w8 hw8 tKeep.rf 0 (by decide) (Nat.le_refl _)
          · refine z_aload_n hC (pc := 29) 0 dX12_file_29 rfl rfl ?_
            refine u_get hC hw8 (pc := 30) zf12 1 (hE.o12 h0) rfl dX12_file_30 zw709 (kk := fun va27 ta27 fa27 => ?_)
            obtain ⟨a27, ma27, rfl⟩ := ta27
            refine z_iload_n hC (pc := 33) 3 dX12_file_33 rfl rfl ?_
            refine t_callSi hC hw8 (pc := 34) (As := [.ref a27, .int x9]) (kX12_getByte l G T κ hst hE (Or.inl ma27)) trivial dmX12_getByte dX12_file_34 zw781 rfl rfl (Nat.le_of_ble_eq_true rfl) (Nat.le_of_ble_eq_true rfl) (Nat.le_of_ble_eq_true rfl) (Nat.le_of_ble_eq_true rfl) (Nat.le_of_ble_eq_true rfl) (fun _ _ _ h => nomatch h) (fun x29 cw28 nw28 w28 hw28 pw28 => ?_)
            obtain ⟨rfl, rfl, kw28⟩ := pw28
            refine z_istore hC (pc := 37) (lv' := [(4, .int x29), (0, .ref a0), (1, .int x1), (2, .int x4), (3, .int x9)]) dX12_file_37 (by decide) rfl ?_
            refine z_iload hC (pc := 39) 0 dX12_file_39 rfl ?_
            refine z_bipush hC (pc := 41) (v := 9) dX12_file_41 (by decide) ?_
            have j69 : zS X G 5 w28 [(0, .ref a0), (1, .int x1), (2, .int x4), (3, .int x9)] 0 0 69 [] := by
              refine z_iinc hC (pc := 69) (v := (x9 + 1)) (lv' := [(3, .int (x9 + 1)), (0, .ref a0), (1, .int x1), (2, .int x4)]) 3 dX12_file_69 rfl (congrArg _ (by decide)) (by decide) rfl ?_
              refine z_goto hC (pc := 72) 24 dX12_file_72 (by decide) ?_
              refine z_lvs [1, 2, 3, 0] rfl ?_
              exact ih24 w28 hw28 (tKeep.tr (tKeep.tr tKeep.rf kw8 rfl) kw28 rfl) (x9 + 1) (t_nnI v10 (Int32.not_le.mp c11)) (t_up (Int32.not_le.mp c11) hd24)
            refine z_icmp_eq hC (pc := 43) 69 dX12_file_43 (by decide) (fun c30 => ?_) (fun c30 => ?_)
            · refine z_lvs [1, 2, 3, 4] rfl ?_
              exact j69
            · refine z_iload hC (pc := 46) 0 dX12_file_46 rfl ?_
              refine z_bipush hC (pc := 48) (v := 10) dX12_file_48 (by decide) ?_
              refine z_icmp_eq hC (pc := 50) 69 dX12_file_50 (by decide) (fun c31 => ?_) (fun c31 => ?_)
              · refine z_lvs [1, 2, 3, 4] rfl ?_
                exact j69
              · refine z_iload hC (pc := 53) 0 dX12_file_53 rfl ?_
                refine z_bipush hC (pc := 55) (v := 32) dX12_file_55 (by decide) ?_
                have j67 : zS X G 5 w28 [] 0 0 67 [] := by
                  refine z_iconst hC (pc := 67) (v := 0) dX12_file_67 (by decide) ?_
                  exact hR _ _ _ _ _ _ dX12_file_68 rfl (Nat.le_of_ble_eq_true rfl) (Nat.le_of_ble_eq_true rfl) ⟨hw28, rfl, rfl, (tKeep.tr (tKeep.tr (tKeep.tr tKeep.rf kw5 rfl) kw8 rfl) kw28 rfl), (Or.inl rfl)⟩
                refine z_icmp_lt hC (pc := 57) 67 dX12_file_57 (by decide) (fun c32 => ?_) (fun c32 => ?_)
                · refine z_lvs [] rfl ?_
                  exact j67
                · refine z_iload hC (pc := 60) 0 dX12_file_60 rfl ?_
                  refine z_bipush hC (pc := 62) (v := 126) dX12_file_62 (by decide) ?_
                  refine z_icmp_le hC (pc := 64) 69 dX12_file_64 (by decide) (fun c33 => ?_) (fun c33 => ?_)
                  · refine z_lvs [1, 2, 3, 4] rfl ?_
                    exact j69
                  · refine z_lvs [] rfl ?_
                    exact j67
      refine z_lvs [2, 3, 1, 0] rfl ?_
      exact j24 _ w5 hw5 tKeep.rf 0 (by decide) (Nat.le_refl _)
    · refine z_lvs [] rfl ?_
      exact j20
set_option maxRecDepth 20000 in
theorem kJ7_fill_53178 (l : Launch) (G : zG) (T : tT) (κ : Nat → List Nat) (hst : l.stackTraces = false) (hE : tE G T κ) {a0 : Nat} (h0 : a0 ∈ κ 20) {x1 : Int32} : tMv l G T yJ7_fill_53178 cJ7_fill_53178 4 [] 0 0 0 0 [.ref a0, .int x1] uT (uPv 0x0) := by
  refine tMv.intro hst (by decide +kernel) (Nat.le_of_ble_eq_true rfl) ?_
  intro w0 hw0 _ X hC hR hO hX
  refine z_iconst hC (pc := 0) (v := 0) dJ7_fill_53178_0 (by decide) ?_
  refine z_istore_n hC (pc := 1) (lv' := [(2, .int 0), (0, .ref a0), (1, .int x1)]) dJ7_fill_53178_1 rfl (by decide) rfl ?_
  refine z_aload_n hC (pc := 2) 1 dJ7_fill_53178_2 rfl rfl ?_
  obtain ⟨N4, gN4, AN4⟩ := hE.ints h0
  have hN4 : N4 < 2 ^ 31 := Nat.lt_trans gN4 (by decide)
  refine u_alenI hC hw0 (pc := 3) AN4 dJ7_fill_53178_3 ?_
  refine z_istore_n hC (pc := 4) (lv' := [(3, .int (Int32.ofNat N4)), (2, .int 0), (0, .ref a0), (1, .int x1)]) dJ7_fill_53178_4 rfl (by decide) rfl ?_
  have j5 : ∀ (d5 : Nat), ∀ (w5 : va_W), tW T w5 → tKeep 0x0 w0 w5 → ∀ (x6 : Int32), ¬ x6 < 0 → (2 ^ 31 - (x6 : Int32).toInt).toNat ≤ d5 → zS X G 4 w5 [(0, .ref a0), (1, .int x1), (2, .int x6), (3, .int (Int32.ofNat N4))] 0 0 5 [] := by
    intro d5
    induction d5 with
    | zero => intro w5 hw5 kw5 x6 v7 hd5; exact (t_zero hd5).elim
    | succ d5 ih5 =>
      intro w5 hw5 kw5 x6 v7 hd5
      refine z_iload_n hC (pc := 5) 2 dJ7_fill_53178_5 rfl rfl ?_
      refine z_iload_n hC (pc := 6) 3 dJ7_fill_53178_6 rfl rfl ?_
      refine z_icmp_ge hC (pc := 7) 20 dJ7_fill_53178_7 (by decide) (fun c8 => ?_) (fun c8 => ?_)
      · exact hR _ _ _ _ _ dJ7_fill_53178_20 (Nat.le_of_ble_eq_true rfl) (Nat.le_of_ble_eq_true rfl) ⟨hw5, rfl, rfl, (tKeep.tr tKeep.rf kw5 rfl)⟩
      · refine z_aload_n hC (pc := 10) 0 dJ7_fill_53178_10 rfl rfl ?_
        refine z_iload_n hC (pc := 11) 2 dJ7_fill_53178_11 rfl rfl ?_
        refine z_iload_n hC (pc := 12) 1 dJ7_fill_53178_12 rfl rfl ?_
        refine u_iast hC hw5 (pc := 13) AN4 dJ7_fill_53178_13 (t_inB hN4 v7 c8) trivial (fun w9 hw9 kw9 => ?_)
        refine z_iinc hC (pc := 14) (v := (x6 + 1)) (lv' := [(2, .int (x6 + 1)), (0, .ref a0), (1, .int x1), (3, .int (Int32.ofNat N4))]) 2 dJ7_fill_53178_14 rfl (congrArg _ (by decide)) (by decide) rfl ?_
        refine z_goto hC (pc := 17) 5 dJ7_fill_53178_17 (by decide) ?_
        refine z_lvs [1, 2, 0, 3] rfl ?_
        exact ih5 w9 hw9 (tKeep.tr (tKeep.tr tKeep.rf kw5 rfl) kw9 rfl) (x6 + 1) (t_nnI v7 (Int32.not_le.mp c8)) (t_up (Int32.not_le.mp c8) hd5)
  refine z_lvs [2, 3, 1, 0] rfl ?_
  exact j5 _ w0 hw0 tKeep.rf 0 (by decide) (Nat.le_refl _)
set_option maxRecDepth 20000 in
theorem kX6_hash (l : Launch) (G : zG) (T : tT) (κ : Nat → List Nat) (hst : l.stackTraces = false) (hE : tE G T κ) {a0 : Nat} (h0 : tRd G κ a0) {x1 : Int32} {x2 : Int32} : tMi l G T yX6_hash cX6_hash 5 .int [] 0 0 0 0 [.ref a0, .int x1, .int x2] uT (uPi 0x0) := by
  refine tMi.intro hst rfl (Nat.le_of_ble_eq_true rfl) ?_
  intro w0 hw0 _ X hC hR hO hX
  refine z_iload_n hC (pc := 0) 2 dX6_hash_0 rfl rfl ?_
  refine z_istore_n hC (pc := 1) (lv' := [(3, .int x2), (0, .ref a0), (1, .int x1), (2, .int x2)]) dX6_hash_1 rfl (by decide) rfl ?_
  refine z_iload_n hC (pc := 2) 2 dX6_hash_2 rfl rfl ?_
  refine z_istore hC (pc := 3) (lv' := [(4, .int x1), (3, .int x2), (0, .ref a0), (1, .int x1), (2, .int x2)]) dX6_hash_3 (by decide) rfl ?_
  have j5 : ∀ (d5 : Nat), ∀ (x5 : Int32), ∀ (x6 : Int32), (2 ^ 31 - (x6 : Int32).toInt).toNat ≤ d5 → zS X G 5 w0 [(0, .ref a0), (1, .int x1), (2, .int x2), (3, .int x5), (4, .int x6)] 0 0 5 [] := by
    intro d5
    induction d5 with
    | zero => intro x5 x6 hd5; exact (t_zero hd5).elim
    | succ d5 ih5 =>
      intro x5 x6 hd5
      refine z_iload hC (pc := 5) 4 dX6_hash_5 rfl ?_
      refine z_iload_n hC (pc := 7) 1 dX6_hash_7 rfl rfl ?_
      refine z_iload_n hC (pc := 8) 2 dX6_hash_8 rfl rfl ?_
      refine z_iadd hC (pc := 9) (v := (x1 + x2)) dX6_hash_9 rfl ?_
      have j41 : zS X G 5 w0 [(3, .int x5)] 0 0 41 [] := by
        refine z_iload_n hC (pc := 41) 0 dX6_hash_41 rfl rfl ?_
        refine z_iload_n hC (pc := 42) 0 dX6_hash_42 rfl rfl ?_
        refine z_bipush hC (pc := 43) (v := 13) dX6_hash_43 (by decide) ?_
        refine z_iushr hC (pc := 45) (v := ((x5 : Int32).toUInt32 >>> ((13 : Int32).toUInt32 &&& Int32.toUInt32 31)).toInt32) dX6_hash_45 rfl ?_
        refine z_ixor hC (pc := 46) (v := (x5 ^^^ ((x5 : Int32).toUInt32 >>> ((13 : Int32).toUInt32 &&& Int32.toUInt32 31)).toInt32)) dX6_hash_46 rfl ?_
        refine z_sipush hC (pc := 47) (v := 8191) dX6_hash_47 (by decide) ?_
        refine z_iand hC (pc := 50) (v := ((x5 ^^^ ((x5 : Int32).toUInt32 >>> ((13 : Int32).toUInt32 &&& Int32.toUInt32 31)).toInt32) &&& 8191)) dX6_hash_50 rfl ?_
        exact hR _ _ _ _ _ _ dX6_hash_51 rfl (Nat.le_of_ble_eq_true rfl) (Nat.le_of_ble_eq_true rfl) ⟨hw0, rfl, rfl, tKeep.rf⟩
      refine z_icmp_ge hC (pc := 10) 41 dX6_hash_10 (by decide) (fun c7 => ?_) (fun c7 => ?_)
      · refine z_lvs [3] rfl ?_
        exact j41
      · refine z_iload hC (pc := 13) 4 dX6_hash_13 rfl ?_
        refine z_if_lt hC (pc := 15) 41 dX6_hash_15 (by decide) (fun c8 => ?_) (fun c8 => ?_)
        · refine z_lvs [3] rfl ?_
          exact j41
        · refine z_iload hC (pc := 18) 4 dX6_hash_18 rfl ?_
          refine z_aload_n hC (pc := 20) 0 dX6_hash_20 rfl rfl ?_
          obtain ⟨N9, gN9, AN9⟩ := hE.rd h0
          have hN9 : N9 < 2 ^ 31 := Nat.lt_trans gN9 (by decide)
          refine u_alenB hC hw0 (pc := 21) AN9 dX6_hash_21 ?_
          refine z_icmp_ge hC (pc := 22) 41 dX6_hash_22 (by decide) (fun c10 => ?_) (fun c10 => ?_)
          · refine z_lvs [3] rfl ?_
            exact j41
          · refine z_iload_n hC (pc := 25) 3 dX6_hash_25 rfl rfl ?_
            refine z_bipush hC (pc := 26) (v := 31) dX6_hash_26 (by decide) ?_
            refine z_imul hC (pc := 28) (v := (x5 * 31)) dX6_hash_28 rfl ?_
            refine z_aload_n hC (pc := 29) 0 dX6_hash_29 rfl rfl ?_
            refine z_iload hC (pc := 30) 4 dX6_hash_30 rfl ?_
            refine u_bald hC hw0 (pc := 32) AN9 dX6_hash_32 (t_inB hN9 c8 c10) (fun x11 => ?_)
            refine z_iadd hC (pc := 33) (v := ((x5 * 31) + x11)) dX6_hash_33 rfl ?_
            refine z_istore_n hC (pc := 34) (lv' := [(3, .int ((x5 * 31) + x11)), (0, .ref a0), (1, .int x1), (2, .int x2), (4, .int x6)]) dX6_hash_34 rfl (by decide) rfl ?_
            refine z_iinc hC (pc := 35) (v := (x6 + 1)) (lv' := [(4, .int (x6 + 1)), (3, .int ((x5 * 31) + x11)), (0, .ref a0), (1, .int x1), (2, .int x2)]) 4 dX6_hash_35 rfl (congrArg _ (by decide)) (by decide) rfl ?_
            refine z_goto hC (pc := 38) 5 dX6_hash_38 (by decide) ?_
            refine z_lvs [2, 3, 4, 1, 0] rfl ?_
            exact ih5 ((x5 * 31) + x11) (x6 + 1) (t_up (Int32.not_le.mp c10) hd5)
  refine z_lvs [2, 3, 4, 1, 0] rfl ?_
  exact j5 _ x2 x1 (Nat.le_refl _)
set_option maxRecDepth 20000 in
theorem kX12_get (l : Launch) (G : zG) (T : tT) (κ : Nat → List Nat) (hst : l.stackTraces = false) (hE : tE G T κ) {a0 : Nat} (h0 : a0 ∈ κ 20) {x1 : Int32} : tMi l G T yX12_get cX12_get 2 .int [] 0 0 0 0 [.ref a0, .int x1] uT (uPi 0x0) := by
  refine tMi.intro hst rfl (Nat.le_of_ble_eq_true rfl) ?_
  intro w0 hw0 _ X hC hR hO hX
  refine z_iload_n hC (pc := 0) 1 dX12_get_0 rfl rfl ?_
  have j17 : ∀ (x4 : Int32), zS X G 2 w0 [] 0 0 17 [.int x4] := by
    intro x4
    exact hR _ _ _ _ _ _ dX12_get_17 rfl (Nat.le_of_ble_eq_true rfl) (Nat.le_of_ble_eq_true rfl) ⟨hw0, rfl, rfl, tKeep.rf⟩
  have j16 : zS X G 2 w0 [] 0 0 16 [] := by
    refine z_iconst hC (pc := 16) (v := 0) dX12_get_16 (by decide) ?_
    exact j17 0
  refine z_if_lt hC (pc := 1) 16 dX12_get_1 (by decide) (fun c5 => ?_) (fun c5 => ?_)
  · refine z_lvs [] rfl ?_
    exact j16
  · refine z_iload_n hC (pc := 4) 1 dX12_get_4 rfl rfl ?_
    refine z_aload_n hC (pc := 5) 0 dX12_get_5 rfl rfl ?_
    obtain ⟨N6, gN6, AN6⟩ := hE.ints h0
    have hN6 : N6 < 2 ^ 31 := Nat.lt_trans gN6 (by decide)
    refine u_alenI hC hw0 (pc := 6) AN6 dX12_get_6 ?_
    refine z_icmp_ge hC (pc := 7) 16 dX12_get_7 (by decide) (fun c7 => ?_) (fun c7 => ?_)
    · refine z_lvs [] rfl ?_
      exact j16
    · refine z_aload_n hC (pc := 10) 0 dX12_get_10 rfl rfl ?_
      refine z_iload_n hC (pc := 11) 1 dX12_get_11 rfl rfl ?_
      refine t_iald hC hw0 (pc := 12) AN6 dX12_get_12 (t_inB hN6 c5 c7) (fun x8 _ => ?_)
      refine z_goto hC (pc := 13) 17 dX12_get_13 (by decide) ?_
      refine z_lvs [] rfl ?_
      exact j17 x8
set_option maxRecDepth 20000 in
theorem kX6_lengthOf (l : Launch) (G : zG) (T : tT) (κ : Nat → List Nat) (hst : l.stackTraces = false) (hE : tE G T κ) {a0 : Nat} (h0 : a0 ∈ κ 6) {x1 : Int32} : tMi l G T yX6_lengthOf cX6_lengthOf 2 .int [] 0 0 0 0 [.ref a0, .int x1] uT (uPi 0x0) := by
  refine tMi.intro hst rfl (Nat.le_of_ble_eq_true rfl) ?_
  intro w0 hw0 _ X hC hR hO hX
  refine z_iload_n hC (pc := 0) 1 dX6_lengthOf_0 rfl rfl ?_
  have j42 : ∀ (x4 : Int32), zS X G 2 w0 [] 0 0 42 [.int x4] := by
    intro x4
    exact hR _ _ _ _ _ _ dX6_lengthOf_42 rfl (Nat.le_of_ble_eq_true rfl) (Nat.le_of_ble_eq_true rfl) ⟨hw0, rfl, rfl, tKeep.rf⟩
  have j23 : zS X G 2 w0 [] 0 0 23 [] := by
    refine z_iconst hC (pc := 23) (v := 0) dX6_lengthOf_23 (by decide) ?_
    refine z_goto hC (pc := 24) 42 dX6_lengthOf_24 (by decide) ?_
    exact j42 0
  refine z_if_lt hC (pc := 1) 23 dX6_lengthOf_1 (by decide) (fun c5 => ?_) (fun c5 => ?_)
  · refine z_lvs [] rfl ?_
    exact j23
  · refine z_iload_n hC (pc := 4) 1 dX6_lengthOf_4 rfl rfl ?_
    refine z_aload_n hC (pc := 5) 0 dX6_lengthOf_5 rfl rfl ?_
    refine u_get hC hw0 (pc := 6) zf6 4 (hE.o6 h0) rfl dX6_lengthOf_6 zw184 (kk := fun vx6 tx6 fx6 => ?_)
    obtain ⟨x6, rfl⟩ := tx6
    refine z_icmp_ge hC (pc := 9) 23 dX6_lengthOf_9 (by decide) (fun c7 => ?_) (fun c7 => ?_)
    · refine z_lvs [] rfl ?_
      exact j23
    · refine z_iload_n hC (pc := 12) 1 dX6_lengthOf_12 rfl rfl ?_
      refine z_iconst hC (pc := 13) (v := 1) dX6_lengthOf_13 (by decide) ?_
      refine z_iadd hC (pc := 14) (v := (x1 + 1)) dX6_lengthOf_14 rfl ?_
      refine z_aload_n hC (pc := 15) 0 dX6_lengthOf_15 rfl rfl ?_
      refine u_get hC hw0 (pc := 16) zf6 1 (hE.o6 h0) rfl dX6_lengthOf_16 zw178 (kk := fun va8 ta8 fa8 => ?_)
      obtain ⟨a8, ma8, rfl⟩ := ta8
      obtain ⟨N9, gN9, AN9⟩ := hE.ints ma8
      have hN9 : N9 < 2 ^ 31 := Nat.lt_trans gN9 (by decide)
      refine u_alenI hC hw0 (pc := 19) AN9 dX6_lengthOf_19 ?_
      refine z_icmp_lt hC (pc := 20) 27 dX6_lengthOf_20 (by decide) (fun c10 => ?_) (fun c10 => ?_)
      · refine z_aload_n hC (pc := 27) 0 dX6_lengthOf_27 rfl rfl ?_
        refine u_getK hC (pc := 28) zf6 1 fa8 dX6_lengthOf_28 zw178 (kk := ?_)
        refine z_iload_n hC (pc := 31) 1 dX6_lengthOf_31 rfl rfl ?_
        refine z_iconst hC (pc := 32) (v := 1) dX6_lengthOf_32 (by decide) ?_
        refine z_iadd hC (pc := 33) (v := (x1 + 1)) dX6_lengthOf_33 rfl ?_
        refine t_iald hC hw0 (pc := 34) AN9 dX6_lengthOf_34 (by have o1 := Int32.le_toInt x1; have o2 := Int32.toInt_lt x1; have o3 : (0 : Int32).toInt = 0 := (by decide); have o4 := t_fnl c5; have o5 := Int32.le_toInt x6; have o6 := Int32.toInt_lt x6; have o7 := t_fne c7; have o8 : (1 : Int32).toInt = 1 := (by decide); have o9 := t_addO x1 1; have o10 : (Int32.ofNat N9).toInt = N9 := nI_toInt hN9; have o11 := hN9; have o12 := t_fl c10; rw [vp_in_iff]; omega) (fun x11 _ => ?_)
        refine z_aload_n hC (pc := 35) 0 dX6_lengthOf_35 rfl rfl ?_
        refine u_getK hC (pc := 36) zf6 1 fa8 dX6_lengthOf_36 zw178 (kk := ?_)
        refine z_iload_n hC (pc := 39) 1 dX6_lengthOf_39 rfl rfl ?_
        refine t_iald hC hw0 (pc := 40) AN9 dX6_lengthOf_40 (by have o1 := Int32.le_toInt x1; have o2 := Int32.toInt_lt x1; have o3 : (0 : Int32).toInt = 0 := (by decide); have o4 := t_fnl c5; have o5 := Int32.le_toInt x6; have o6 := Int32.toInt_lt x6; have o7 := t_fne c7; have o8 : (1 : Int32).toInt = 1 := (by decide); have o9 := t_addO x1 1; have o10 : (Int32.ofNat N9).toInt = N9 := nI_toInt hN9; have o11 := hN9; have o12 := t_fl c10; rw [vp_in_iff]; omega) (fun x12 _ => ?_)
        refine z_isub hC (pc := 41) (v := (x11 - x12)) dX6_lengthOf_41 rfl ?_
        refine z_lvs [] rfl ?_
        exact j42 (x11 - x12)
      · refine z_lvs [] rfl ?_
        exact j23
set_option maxRecDepth 20000 in
theorem kX12_same (l : Launch) (G : zG) (T : tT) (κ : Nat → List Nat) (hst : l.stackTraces = false) (hE : tE G T κ) {a0 : Nat} (h0 : tRd G κ a0) {x1 : Int32} {a2 : Nat} (h2 : tRd G κ a2) {x3 : Int32} {x4 : Int32} : tMi l G T yX12_same cX12_same 6 .boolean [] 0 0 0 0 [.ref a0, .int x1, .ref a2, .int x3, .int x4] uT (uPz 0x0) := by
  refine tMi.intro hst rfl (Nat.le_of_ble_eq_true rfl) ?_
  intro w0 hw0 _ X hC hR hO hX
  refine z_iload_n hC (pc := 0) 1 dX12_same_0 rfl rfl ?_
  have j31 : zS X G 6 w0 [] 0 0 31 [] := by
    refine z_iconst hC (pc := 31) (v := 0) dX12_same_31 (by decide) ?_
    exact hR _ _ _ _ _ _ dX12_same_32 rfl (Nat.le_of_ble_eq_true rfl) (Nat.le_of_ble_eq_true rfl) ⟨hw0, rfl, rfl, tKeep.rf, (Or.inl rfl)⟩
  refine z_if_lt hC (pc := 1) 31 dX12_same_1 (by decide) (fun c7 => ?_) (fun c7 => ?_)
  · refine z_lvs [] rfl ?_
    exact j31
  · refine z_iload_n hC (pc := 4) 3 dX12_same_4 rfl rfl ?_
    refine z_if_lt hC (pc := 5) 31 dX12_same_5 (by decide) (fun c8 => ?_) (fun c8 => ?_)
    · refine z_lvs [] rfl ?_
      exact j31
    · refine z_iload hC (pc := 8) 4 dX12_same_8 rfl ?_
      refine z_if_lt hC (pc := 10) 31 dX12_same_10 (by decide) (fun c9 => ?_) (fun c9 => ?_)
      · refine z_lvs [] rfl ?_
        exact j31
      · refine z_iload_n hC (pc := 13) 1 dX12_same_13 rfl rfl ?_
        refine z_aload_n hC (pc := 14) 0 dX12_same_14 rfl rfl ?_
        obtain ⟨N10, gN10, AN10⟩ := hE.rd h0
        have hN10 : N10 < 2 ^ 31 := Nat.lt_trans gN10 (by decide)
        refine u_alenB hC hw0 (pc := 15) AN10 dX12_same_15 ?_
        refine z_iload hC (pc := 16) 4 dX12_same_16 rfl ?_
        refine z_isub hC (pc := 18) (v := ((Int32.ofNat N10) - x4)) dX12_same_18 rfl ?_
        refine z_icmp_gt hC (pc := 19) 31 dX12_same_19 (by decide) (fun c11 => ?_) (fun c11 => ?_)
        · refine z_lvs [] rfl ?_
          exact j31
        · refine z_iload_n hC (pc := 22) 3 dX12_same_22 rfl rfl ?_
          refine z_aload_n hC (pc := 23) 2 dX12_same_23 rfl rfl ?_
          obtain ⟨N12, gN12, AN12⟩ := hE.rd h2
          have hN12 : N12 < 2 ^ 31 := Nat.lt_trans gN12 (by decide)
          refine u_alenB hC hw0 (pc := 24) AN12 dX12_same_24 ?_
          refine z_iload hC (pc := 25) 4 dX12_same_25 rfl ?_
          refine z_isub hC (pc := 27) (v := ((Int32.ofNat N12) - x4)) dX12_same_27 rfl ?_
          refine z_icmp_le hC (pc := 28) 33 dX12_same_28 (by decide) (fun c13 => ?_) (fun c13 => ?_)
          · refine z_iconst hC (pc := 33) (v := 0) dX12_same_33 (by decide) ?_
            refine z_istore hC (pc := 34) (lv' := [(5, .int 0), (0, .ref a0), (1, .int x1), (2, .ref a2), (3, .int x3), (4, .int x4)]) dX12_same_34 (by decide) rfl ?_
            have j36 : ∀ (d36 : Nat), ∀ (x14 : Int32), ¬ x14 < 0 → (2 ^ 31 - (x14 : Int32).toInt).toNat ≤ d36 → zS X G 6 w0 [(0, .ref a0), (1, .int x1), (2, .ref a2), (3, .int x3), (4, .int x4), (5, .int x14)] 0 0 36 [] := by
              intro d36
              induction d36 with
              | zero => intro x14 v15 hd36; exact (t_zero hd36).elim
              | succ d36 ih36 =>
                intro x14 v15 hd36
                refine z_iload hC (pc := 36) 5 dX12_same_36 rfl ?_
                refine z_iload hC (pc := 38) 4 dX12_same_38 rfl ?_
                refine z_icmp_ge hC (pc := 40) 66 dX12_same_40 (by decide) (fun c16 => ?_) (fun c16 => ?_)
                · refine z_iconst hC (pc := 66) (v := 1) dX12_same_66 (by decide) ?_
                  exact hR _ _ _ _ _ _ dX12_same_67 rfl (Nat.le_of_ble_eq_true rfl) (Nat.le_of_ble_eq_true rfl) ⟨hw0, rfl, rfl, tKeep.rf, (Or.inr rfl)⟩
                · refine z_aload_n hC (pc := 43) 0 dX12_same_43 rfl rfl ?_
                  refine z_iload_n hC (pc := 44) 1 dX12_same_44 rfl rfl ?_
                  refine z_iload hC (pc := 45) 5 dX12_same_45 rfl ?_
                  refine z_iadd hC (pc := 47) (v := (x1 + x14)) dX12_same_47 rfl ?_
                  refine u_bald hC hw0 (pc := 48) AN10 dX12_same_48 (by have o1 := Int32.le_toInt x1; have o2 := Int32.toInt_lt x1; have o3 : (0 : Int32).toInt = 0 := (by decide); have o4 := t_fnl c7; have o5 := Int32.le_toInt x3; have o6 := Int32.toInt_lt x3; have o7 := t_fnl c8; have o8 := Int32.le_toInt x4; have o9 := Int32.toInt_lt x4; have o10 := t_fnl c9; have o11 : (Int32.ofNat N10).toInt = N10 := nI_toInt hN10; have o12 := hN10; have o13 := t_subO (Int32.ofNat N10) x4; have o14 := t_fnl c11; have o15 : (Int32.ofNat N12).toInt = N12 := nI_toInt hN12; have o16 := hN12; have o17 := t_subO (Int32.ofNat N12) x4; have o18 := t_fe c13; have o19 := Int32.le_toInt x14; have o20 := Int32.toInt_lt x14; have o21 := t_fnl v15; have o22 := t_fne c16; have o23 := t_addO x1 x14; rw [vp_in_iff]; omega) (fun x17 => ?_)
                  refine z_aload_n hC (pc := 49) 2 dX12_same_49 rfl rfl ?_
                  refine z_iload_n hC (pc := 50) 3 dX12_same_50 rfl rfl ?_
                  refine z_iload hC (pc := 51) 5 dX12_same_51 rfl ?_
                  refine z_iadd hC (pc := 53) (v := (x3 + x14)) dX12_same_53 rfl ?_
                  refine u_bald hC hw0 (pc := 54) AN12 dX12_same_54 (by have o1 := Int32.le_toInt x1; have o2 := Int32.toInt_lt x1; have o3 : (0 : Int32).toInt = 0 := (by decide); have o4 := t_fnl c7; have o5 := Int32.le_toInt x3; have o6 := Int32.toInt_lt x3; have o7 := t_fnl c8; have o8 := Int32.le_toInt x4; have o9 := Int32.toInt_lt x4; have o10 := t_fnl c9; have o11 : (Int32.ofNat N10).toInt = N10 := nI_toInt hN10; have o12 := hN10; have o13 := t_subO (Int32.ofNat N10) x4; have o14 := t_fnl c11; have o15 : (Int32.ofNat N12).toInt = N12 := nI_toInt hN12; have o16 := hN12; have o17 := t_subO (Int32.ofNat N12) x4; have o18 := t_fe c13; have o19 := Int32.le_toInt x14; have o20 := Int32.toInt_lt x14; have o21 := t_fnl v15; have o22 := t_fne c16; have o23 := t_addO x3 x14; rw [vp_in_iff]; omega) (fun x18 => ?_)
                  refine z_icmp_eq hC (pc := 55) 60 dX12_same_55 (by decide) (fun c19 => ?_) (fun c19 => ?_)
                  · refine z_iinc hC (pc := 60) (v := (x14 + 1)) (lv' := [(5, .int (x14 + 1)), (0, .ref a0), (1, .int x1), (2, .ref a2), (3, .int x3), (4, .int x4)]) 5 dX12_same_60 rfl (congrArg _ (by decide)) (by decide) rfl ?_
                    refine z_goto hC (pc := 63) 36 dX12_same_63 (by decide) ?_
                    refine z_lvs [1, 2, 3, 4, 5, 0] rfl ?_
                    exact ih36 (x14 + 1) (t_nnI v15 (Int32.not_le.mp c16)) (t_up (Int32.not_le.mp c16) hd36)
                  · refine z_iconst hC (pc := 58) (v := 0) dX12_same_58 (by decide) ?_
                    exact hR _ _ _ _ _ _ dX12_same_59 rfl (Nat.le_of_ble_eq_true rfl) (Nat.le_of_ble_eq_true rfl) ⟨hw0, rfl, rfl, tKeep.rf, (Or.inl rfl)⟩
            refine z_lvs [1, 2, 3, 4, 5, 0] rfl ?_
            exact j36 _ 0 (by decide) (Nat.le_refl _)
          · refine z_lvs [] rfl ?_
            exact j31
set_option maxRecDepth 20000 in
theorem kX6_find (l : Launch) (G : zG) (T : tT) (κ : Nat → List Nat) (hst : l.stackTraces = false) (hE : tE G T κ) {a0 : Nat} (h0 : a0 ∈ κ 6) {a1 : Nat} (h1 : tRd G κ a1) {x2 : Int32} {x3 : Int32} : tMi l G T yX6_find cX6_find 6 .int [] 1 25 0 0 [.ref a0, .ref a1, .int x2, .int x3] uT (uPi 0x0) := by
  refine tMi.intro hst rfl (Nat.le_of_ble_eq_true rfl) ?_
  intro w0 hw0 _ X hC hR hO hX
  refine z_aload_n hC (pc := 0) 0 dX6_find_0 rfl rfl ?_
  refine u_get hC hw0 (pc := 1) zf6 3 (hE.o6 h0) rfl dX6_find_1 zw183 (kk := fun va6 ta6 fa6 => ?_)
  obtain ⟨a6, ma6, rfl⟩ := ta6
  refine z_aload_n hC (pc := 4) 1 dX6_find_4 rfl rfl ?_
  refine z_iload_n hC (pc := 5) 2 dX6_find_5 rfl rfl ?_
  refine z_iload_n hC (pc := 6) 3 dX6_find_6 rfl rfl ?_
  refine t_callSi hC hw0 (pc := 7) (As := [.ref a1, .int x2, .int x3]) (kX6_hash l G T κ hst hE h1) trivial dmX6_hash dX6_find_7 zw962 rfl rfl (Nat.le_of_ble_eq_true rfl) (Nat.le_of_ble_eq_true rfl) (Nat.le_of_ble_eq_true rfl) (Nat.le_of_ble_eq_true rfl) (Nat.le_of_ble_eq_true rfl) (fun _ _ _ h => nomatch h) (fun x8 cw7 nw7 w7 hw7 pw7 => ?_)
  obtain ⟨rfl, rfl, kw7⟩ := pw7
  refine t_callSNi hC hw7 (pc := 10) (As := [.ref a6, .int x8]) (kX12_get l G T κ hst hE ma6) trivial dmX12_get dX6_find_10 zw965 rfl rfl (Nat.le_of_ble_eq_true rfl) (Nat.le_of_ble_eq_true rfl) (Nat.le_of_ble_eq_true rfl) (Nat.le_of_ble_eq_true rfl) (Nat.le_of_ble_eq_true rfl) (fun _ _ _ h => nomatch h) (fun x10 cw9 nw9 w9 hw9 pw9 => ?_)
  obtain ⟨rfl, rfl, kw9⟩ := pw9
  refine z_istore hC (pc := 13) (lv' := [(4, .int x10), (0, .ref a0), (1, .ref a1), (2, .int x2), (3, .int x3)]) dX6_find_13 (by decide) rfl ?_
  refine z_iconst hC (pc := 15) (v := 0) dX6_find_15 (by decide) ?_
  refine z_istore hC (pc := 16) (lv' := [(5, .int 0), (4, .int x10), (0, .ref a0), (1, .ref a1), (2, .int x2), (3, .int x3)]) dX6_find_16 (by decide) rfl ?_
  have j18 : ∀ (d18 : Nat), ∀ (w11 : va_W), tW T w11 → tKeep 0x0 w9 w11 → ∀ (x12 : Int32), ∀ (x13 : Int32), ¬ x13 < 0 → (2 ^ 31 - (x13 : Int32).toInt).toNat ≤ d18 → zS X G 6 w11 [(0, .ref a0), (1, .ref a1), (2, .int x2), (3, .int x3), (4, .int x12), (5, .int x13)] 0 0 18 [] := by
    intro d18
    induction d18 with
    | zero => intro w11 hw11 kw11 x12 x13 v14 hd18; exact (t_zero hd18).elim
    | succ d18 ih18 =>
      intro w11 hw11 kw11 x12 x13 v14 hd18
      refine z_iload hC (pc := 18) 5 dX6_find_18 rfl ?_
      refine z_aload_n hC (pc := 20) 0 dX6_find_20 rfl rfl ?_
      refine u_get hC hw11 (pc := 21) zf6 4 (hE.o6 h0) rfl dX6_find_21 zw184 (kk := fun vx15 tx15 fx15 => ?_)
      obtain ⟨x15, rfl⟩ := tx15
      have j84 : zS X G 6 w11 [] 0 0 84 [] := by
        refine z_iconst hC (pc := 84) (v := (-1)) dX6_find_84 (by decide) ?_
        exact hR _ _ _ _ _ _ dX6_find_85 rfl (Nat.le_of_ble_eq_true rfl) (Nat.le_of_ble_eq_true rfl) ⟨hw11, rfl, rfl, (tKeep.tr (tKeep.tr (tKeep.tr tKeep.rf kw7 rfl) kw9 rfl) kw11 rfl)⟩
      refine z_icmp_ge hC (pc := 24) 84 dX6_find_24 (by decide) (fun c16 => ?_) (fun c16 => ?_)
      · refine z_lvs [] rfl ?_
        exact j84
      · refine z_iload hC (pc := 27) 4 dX6_find_27 rfl ?_
        refine z_if_lt hC (pc := 29) 84 dX6_find_29 (by decide) (fun c17 => ?_) (fun c17 => ?_)
        · refine z_lvs [] rfl ?_
          exact j84
        · refine z_aload_n hC (pc := 32) 0 dX6_find_32 rfl rfl ?_
          refine z_iload hC (pc := 33) 4 dX6_find_33 rfl ?_
          obtain ⟨q18, hqq18⟩ := hE.o6 h0
          refine t_callVi hC hw11 (pc := 35) (As := [.int x12]) (kX6_lengthOf l G T κ hst hE h0) trivial dmX6_lengthOf zf6 hqq18 dX6_find_35 zw966 rfl rfl (Nat.le_of_ble_eq_true rfl) (Nat.le_of_ble_eq_true rfl) (Nat.le_of_ble_eq_true rfl) (Nat.le_of_ble_eq_true rfl) (Nat.le_of_ble_eq_true rfl) (fun _ _ _ h => nomatch h) (fun x20 cw19 nw19 w19 hw19 pw19 => ?_)
          obtain ⟨rfl, rfl, kw19⟩ := pw19
          refine z_iload_n hC (pc := 38) 3 dX6_find_38 rfl rfl ?_
          have j67 : ∀ (w21 : va_W), tW T w21 → tKeep 0x0 w19 w21 → zS X G 6 w21 [(0, .ref a0), (1, .ref a1), (2, .int x2), (3, .int x3), (4, .int x12), (5, .int x13)] 0 0 67 [] := by
            intro w21 hw21 kw21
            refine z_aload_n hC (pc := 67) 0 dX6_find_67 rfl rfl ?_
            refine u_get hC hw21 (pc := 68) zf6 2 (hE.o6 h0) rfl dX6_find_68 zw182 (kk := fun va22 ta22 fa22 => ?_)
            obtain ⟨a22, ma22, rfl⟩ := ta22
            refine z_iload hC (pc := 71) 4 dX6_find_71 rfl ?_
            refine t_callSNi hC hw21 (pc := 73) (As := [.ref a22, .int x12]) (kX12_get l G T κ hst hE ma22) trivial dmX12_get dX6_find_73 zw965 rfl rfl (Nat.le_of_ble_eq_true rfl) (Nat.le_of_ble_eq_true rfl) (Nat.le_of_ble_eq_true rfl) (Nat.le_of_ble_eq_true rfl) (Nat.le_of_ble_eq_true rfl) (fun _ _ _ h => nomatch h) (fun x24 cw23 nw23 w23 hw23 pw23 => ?_)
            obtain ⟨rfl, rfl, kw23⟩ := pw23
            refine z_istore hC (pc := 76) (lv' := [(4, .int x24), (0, .ref a0), (1, .ref a1), (2, .int x2), (3, .int x3), (5, .int x13)]) dX6_find_76 (by decide) rfl ?_
            refine z_iinc hC (pc := 78) (v := (x13 + 1)) (lv' := [(5, .int (x13 + 1)), (4, .int x24), (0, .ref a0), (1, .ref a1), (2, .int x2), (3, .int x3)]) 5 dX6_find_78 rfl (congrArg _ (by decide)) (by decide) rfl ?_
            refine z_goto hC (pc := 81) 18 dX6_find_81 (by decide) ?_
            refine z_lvs [2, 3, 4, 5, 1, 0] rfl ?_
            exact ih18 w23 hw23 (tKeep.tr (tKeep.tr (tKeep.tr (tKeep.tr tKeep.rf kw11 rfl) kw19 rfl) kw21 rfl) kw23 rfl) x24 (x13 + 1) (t_nnI v14 (Int32.not_le.mp c16)) (t_up (Int32.not_le.mp c16) hd18)
          refine z_icmp_ne hC (pc := 39) 67 dX6_find_39 (by decide) (fun c25 => ?_) (fun c25 => ?_)
          · exact j67 w19 hw19 tKeep.rf
          · refine z_aload_n hC (pc := 42) 0 dX6_find_42 rfl rfl ?_
            refine u_get hC hw19 (pc := 43) zf6 0 (hE.o6 h0) rfl dX6_find_43 zw174 (kk := fun va26 ta26 fa26 => ?_)
            obtain ⟨a26, ma26, rfl⟩ := ta26
            refine z_aload_n hC (pc := 46) 0 dX6_find_46 rfl rfl ?_
            refine u_get hC hw19 (pc := 47) zf6 1 (hE.o6 h0) rfl dX6_find_47 zw178 (kk := fun va27 ta27 fa27 => ?_)
            obtain ⟨a27, ma27, rfl⟩ := ta27
            refine z_iload hC (pc := 50) 4 dX6_find_50 rfl ?_
            refine t_callSNi hC hw19 (pc := 52) (As := [.ref a27, .int x12]) (kX12_get l G T κ hst hE ma27) trivial dmX12_get dX6_find_52 zw965 rfl rfl (Nat.le_of_ble_eq_true rfl) (Nat.le_of_ble_eq_true rfl) (Nat.le_of_ble_eq_true rfl) (Nat.le_of_ble_eq_true rfl) (Nat.le_of_ble_eq_true rfl) (fun _ _ _ h => nomatch h) (fun x29 cw28 nw28 w28 hw28 pw28 => ?_)
            obtain ⟨rfl, rfl, kw28⟩ := pw28
            refine z_aload_n hC (pc := 55) 1 dX6_find_55 rfl rfl ?_
            refine z_iload_n hC (pc := 56) 2 dX6_find_56 rfl rfl ?_
            refine z_iload_n hC (pc := 57) 3 dX6_find_57 rfl rfl ?_
            refine t_callSNi hC hw28 (pc := 58) (As := [.ref a26, .int x29, .ref a1, .int x2, .int x3]) (kX12_same l G T κ hst hE (Or.inl ma26) h1) trivial dmX12_same dX6_find_58 zw970 rfl rfl (Nat.le_of_ble_eq_true rfl) (Nat.le_of_ble_eq_true rfl) (Nat.le_of_ble_eq_true rfl) (Nat.le_of_ble_eq_true rfl) (Nat.le_of_ble_eq_true rfl) (fun _ _ _ h => nomatch h) (fun x31 cw30 nw30 w30 hw30 pw30 => ?_)
            obtain ⟨rfl, rfl, kw30, zx31⟩ := pw30
            refine z_if_eq hC (pc := 61) 67 dX6_find_61 (by decide) (fun c32 => ?_) (fun c32 => ?_)
            · exact j67 w30 hw30 (tKeep.tr (tKeep.tr tKeep.rf kw28 rfl) kw30 rfl)
            · refine z_iload hC (pc := 64) 4 dX6_find_64 rfl ?_
              exact hR _ _ _ _ _ _ dX6_find_66 rfl (Nat.le_of_ble_eq_true rfl) (Nat.le_of_ble_eq_true rfl) ⟨hw30, rfl, rfl, (tKeep.tr (tKeep.tr (tKeep.tr (tKeep.tr (tKeep.tr (tKeep.tr tKeep.rf kw7 rfl) kw9 rfl) kw11 rfl) kw19 rfl) kw28 rfl) kw30 rfl)⟩
  refine z_lvs [2, 3, 4, 5, 1, 0] rfl ?_
  exact j18 _ w9 hw9 tKeep.rf x10 0 (by decide) (Nat.le_refl _)
set_option maxRecDepth 20000 in
theorem kX12_set (l : Launch) (G : zG) (T : tT) (κ : Nat → List Nat) (hst : l.stackTraces = false) (hE : tE G T κ) {a0 : Nat} (h0 : a0 ∈ κ 20) {x1 : Int32} {x2 : Int32} : tMv l G T yX12_set cX12_set 3 [] 0 0 0 0 [.ref a0, .int x1, .int x2] uT (uPv 0x0) := by
  refine tMv.intro hst rfl (Nat.le_of_ble_eq_true rfl) ?_
  intro w0 hw0 _ X hC hR hO hX
  refine z_iload_n hC (pc := 0) 1 dX12_set_0 rfl rfl ?_
  have j14 : ∀ (w5 : va_W), tW T w5 → tKeep 0x0 w0 w5 → zS X G 3 w5 [] 0 0 14 [] := by
    intro w5 hw5 kw5
    exact hR _ _ _ _ _ dX12_set_14 (Nat.le_of_ble_eq_true rfl) (Nat.le_of_ble_eq_true rfl) ⟨hw5, rfl, rfl, (tKeep.tr tKeep.rf kw5 rfl)⟩
  refine z_if_lt hC (pc := 1) 14 dX12_set_1 (by decide) (fun c6 => ?_) (fun c6 => ?_)
  · refine z_lvs [] rfl ?_
    exact j14 w0 hw0 tKeep.rf
  · refine z_iload_n hC (pc := 4) 1 dX12_set_4 rfl rfl ?_
    refine z_aload_n hC (pc := 5) 0 dX12_set_5 rfl rfl ?_
    obtain ⟨N7, gN7, AN7⟩ := hE.ints h0
    have hN7 : N7 < 2 ^ 31 := Nat.lt_trans gN7 (by decide)
    refine u_alenI hC hw0 (pc := 6) AN7 dX12_set_6 ?_
    refine z_icmp_ge hC (pc := 7) 14 dX12_set_7 (by decide) (fun c8 => ?_) (fun c8 => ?_)
    · refine z_lvs [] rfl ?_
      exact j14 w0 hw0 tKeep.rf
    · refine z_aload_n hC (pc := 10) 0 dX12_set_10 rfl rfl ?_
      refine z_iload_n hC (pc := 11) 1 dX12_set_11 rfl rfl ?_
      refine z_iload_n hC (pc := 12) 2 dX12_set_12 rfl rfl ?_
      refine u_iast hC hw0 (pc := 13) AN7 dX12_set_13 (t_inB hN7 c6 c8) trivial (fun w9 hw9 kw9 => ?_)
      refine z_lvs [] rfl ?_
      exact j14 w9 hw9 (tKeep.tr tKeep.rf kw9 rfl)
set_option maxRecDepth 20000 in
theorem kX6_intern (l : Launch) (G : zG) (T : tT) (κ : Nat → List Nat) (hst : l.stackTraces = false) (hE : tE G T κ) {a0 : Nat} (h0 : a0 ∈ κ 6) {a1 : Nat} (h1 : tRd G κ a1) {x2 : Int32} {x3 : Int32} : tMi l G T yX6_intern cX6_intern 6 .int [] 2 50 0 0 [.ref a0, .ref a1, .int x2, .int x3] uT (uPi 0x30000000000000000000000000000000000000000000000000000000000000000000000000000000000000000000000000) := by
  refine tMi.intro hst rfl (Nat.le_of_ble_eq_true rfl) ?_
  intro w0 hw0 _ X hC hR hO hX
  refine z_aload_n hC (pc := 0) 0 dX6_intern_0 rfl rfl ?_
  refine z_aload_n hC (pc := 1) 1 dX6_intern_1 rfl rfl ?_
  refine z_iload_n hC (pc := 2) 2 dX6_intern_2 rfl rfl ?_
  refine z_iload_n hC (pc := 3) 3 dX6_intern_3 rfl rfl ?_
  obtain ⟨q6, hqq6⟩ := hE.o6 h0
  refine t_callVi hC hw0 (pc := 4) (As := [.ref a1, .int x2, .int x3]) (kX6_find l G T κ hst hE h0 h1) trivial dmX6_find zf6 hqq6 dX6_intern_4 zw958 rfl rfl (Nat.le_of_ble_eq_true rfl) (Nat.le_of_ble_eq_true rfl) (Nat.le_of_ble_eq_true rfl) (Nat.le_of_ble_eq_true rfl) (Nat.le_of_ble_eq_true rfl) (fun _ _ _ h => nomatch h) (fun x8 cw7 nw7 w7 hw7 pw7 => ?_)
  obtain ⟨rfl, rfl, kw7⟩ := pw7
  refine z_istore hC (pc := 7) (lv' := [(4, .int x8), (0, .ref a0), (1, .ref a1), (2, .int x2), (3, .int x3)]) dX6_intern_7 (by decide) rfl ?_
  refine z_iload hC (pc := 9) 0 dX6_intern_9 rfl ?_
  have j38 : zS X G 6 w7 [(4, .int x8)] 0 0 38 [] := by
    refine z_iload hC (pc := 38) 0 dX6_intern_38 rfl ?_
    exact hR _ _ _ _ _ _ dX6_intern_40 rfl (Nat.le_of_ble_eq_true rfl) (Nat.le_of_ble_eq_true rfl) ⟨hw7, rfl, rfl, (tKeep.tr tKeep.rf kw7 rfl)⟩
  refine z_if_ge hC (pc := 11) 38 dX6_intern_11 (by decide) (fun c9 => ?_) (fun c9 => ?_)
  · refine z_lvs [0] rfl ?_
    exact j38
  · refine z_aload_n hC (pc := 14) 1 dX6_intern_14 rfl rfl ?_
    refine u_get hC hw7 (pc := 15) zf6 4 (hE.o6 h0) rfl dX6_intern_15 zw184 (kk := fun vx10 tx10 fx10 => ?_)
    obtain ⟨x10, rfl⟩ := tx10
    refine z_sipush hC (pc := 18) (v := 16100) dX6_intern_18 (by decide) ?_
    refine z_icmp_gt hC (pc := 21) 38 dX6_intern_21 (by decide) (fun c11 => ?_) (fun c11 => ?_)
    · refine z_lvs [0] rfl ?_
      exact j38
    · refine z_aload_n hC (pc := 24) 1 dX6_intern_24 rfl rfl ?_
      refine u_get hC hw7 (pc := 25) zf6 5 (hE.o6 h0) rfl dX6_intern_25 zw186 (kk := fun vx12 tx12 fx12 => ?_)
      obtain ⟨x12, rfl⟩ := tx12
      refine z_iload_n hC (pc := 28) 4 dX6_intern_28 rfl rfl ?_
      refine z_iadd hC (pc := 29) (v := (x12 + x3)) dX6_intern_29 rfl ?_
      refine z_aload_n hC (pc := 30) 1 dX6_intern_30 rfl rfl ?_
      refine u_get hC hw7 (pc := 31) zf6 0 (hE.o6 h0) rfl dX6_intern_31 zw174 (kk := fun va13 ta13 fa13 => ?_)
      obtain ⟨a13, ma13, rfl⟩ := ta13
      obtain ⟨N14, gN14, AN14⟩ := hE.byts ma13
      have hN14 : N14 < 2 ^ 31 := Nat.lt_trans gN14 (by decide)
      refine u_alenB hC hw7 (pc := 34) (Or.inl AN14) dX6_intern_34 ?_
      refine z_icmp_le hC (pc := 35) 41 dX6_intern_35 (by decide) (fun c15 => ?_) (fun c15 => ?_)
      · refine z_iconst hC (pc := 41) (v := 0) dX6_intern_41 (by decide) ?_
        refine z_istore hC (pc := 42) (lv' := [(5, .int 0), (4, .int x8), (0, .ref a0), (1, .ref a1), (2, .int x2), (3, .int x3)]) dX6_intern_42 (by decide) rfl ?_
        have j44 : ∀ (d44 : Nat), ∀ (w16 : va_W), tW T w16 → tKeep 0x0 w7 w16 → ∀ (x17 : Int32), ¬ x17 < 0 → (2 ^ 31 - (x17 : Int32).toInt).toNat ≤ d44 → zS X G 6 w16 [(0, .ref a0), (1, .ref a1), (2, .int x2), (3, .int x3), (5, .int x17)] 0 0 44 [] := by
          intro d44
          induction d44 with
          | zero => intro w16 hw16 kw16 x17 v18 hd44; exact (t_zero hd44).elim
          | succ d44 ih44 =>
            intro w16 hw16 kw16 x17 v18 hd44
            refine z_iload hC (pc := 44) 4 dX6_intern_44 rfl ?_
            refine z_iload_n hC (pc := 46) 3 dX6_intern_46 rfl rfl ?_
            refine z_icmp_ge hC (pc := 47) 78 dX6_intern_47 (by decide) (fun c19 => ?_) (fun c19 => ?_)
            · refine z_aload_n hC (pc := 78) 1 dX6_intern_78 rfl rfl ?_
              refine z_iload_n hC (pc := 79) 2 dX6_intern_79 rfl rfl ?_
              refine z_iload_n hC (pc := 80) 3 dX6_intern_80 rfl rfl ?_
              refine t_callSi hC hw16 (pc := 81) (As := [.ref a1, .int x2, .int x3]) (kX6_hash l G T κ hst hE h1) trivial dmX6_hash dX6_intern_81 zw962 rfl rfl (Nat.le_of_ble_eq_true rfl) (Nat.le_of_ble_eq_true rfl) (Nat.le_of_ble_eq_true rfl) (Nat.le_of_ble_eq_true rfl) (Nat.le_of_ble_eq_true rfl) (fun _ _ _ h => nomatch h) (fun x21 cw20 nw20 w20 hw20 pw20 => ?_)
              obtain ⟨rfl, rfl, kw20⟩ := pw20
              refine z_istore hC (pc := 84) (lv' := [(5, .int x21), (0, .ref a0), (1, .ref a1), (2, .int x2), (3, .int x3)]) dX6_intern_84 (by decide) rfl ?_
              refine z_aload_n hC (pc := 86) 1 dX6_intern_86 rfl rfl ?_
              refine u_get hC hw20 (pc := 87) zf6 1 (hE.o6 h0) rfl dX6_intern_87 zw178 (kk := fun va22 ta22 fa22 => ?_)
              obtain ⟨a22, ma22, rfl⟩ := ta22
              refine z_aload_n hC (pc := 90) 1 dX6_intern_90 rfl rfl ?_
              refine u_getK hC (pc := 91) zf6 4 (tKeep.F kw20 (tKeep.F kw16 fx10 rfl) rfl) dX6_intern_91 zw184 (kk := ?_)
              refine z_aload_n hC (pc := 94) 1 dX6_intern_94 rfl rfl ?_
              refine u_getK hC (pc := 95) zf6 5 (tKeep.F kw20 (tKeep.F kw16 fx12 rfl) rfl) dX6_intern_95 zw186 (kk := ?_)
              refine t_callSNv hC hw20 (pc := 98) (As := [.ref a22, .int x10, .int x12]) (kX12_set l G T κ hst hE ma22) trivial dmX12_set dX6_intern_98 zw973 rfl rfl (Nat.le_of_ble_eq_true rfl) (Nat.le_of_ble_eq_true rfl) (Nat.le_of_ble_eq_true rfl) (Nat.le_of_ble_eq_true rfl) (Nat.le_of_ble_eq_true rfl) (fun _ _ _ h => nomatch h) (fun cw23 nw23 w23 hw23 pw23 => ?_)
              obtain ⟨rfl, rfl, kw23⟩ := pw23
              refine z_aload_n hC (pc := 101) 1 dX6_intern_101 rfl rfl ?_
              refine z_dup hC (pc := 102) dX6_intern_102 rfl ?_
              refine u_getK hC (pc := 103) zf6 5 (tKeep.F kw23 (tKeep.F kw20 (tKeep.F kw16 fx12 rfl) rfl) rfl) dX6_intern_103 zw186 (kk := ?_)
              refine z_iload_n hC (pc := 106) 4 dX6_intern_106 rfl rfl ?_
              refine z_iadd hC (pc := 107) (v := (x12 + x3)) dX6_intern_107 rfl ?_
              refine u_put hC hw23 (pc := 108) zf6 5 (hE.o6 h0) rfl ⟨_, rfl⟩ dX6_intern_108 zw186 rfl rfl rfl (kk := fun w25 hw25 fw25 kw25 => ?_)
              refine z_aload_n hC (pc := 111) 1 dX6_intern_111 rfl rfl ?_
              refine u_getK hC (pc := 112) zf6 1 (tKeep.F kw25 (tKeep.F kw23 fa22 rfl) rfl) dX6_intern_112 zw178 (kk := ?_)
              refine z_aload_n hC (pc := 115) 1 dX6_intern_115 rfl rfl ?_
              refine u_getK hC (pc := 116) zf6 4 (tKeep.F kw25 (tKeep.F kw23 (tKeep.F kw20 (tKeep.F kw16 fx10 rfl) rfl) rfl) rfl) dX6_intern_116 zw184 (kk := ?_)
              refine z_iconst hC (pc := 119) (v := 1) dX6_intern_119 (by decide) ?_
              refine z_iadd hC (pc := 120) (v := (x10 + 1)) dX6_intern_120 rfl ?_
              refine z_aload_n hC (pc := 121) 1 dX6_intern_121 rfl rfl ?_
              refine u_getK hC (pc := 122) zf6 5 fw25 dX6_intern_122 zw186 (kk := ?_)
              refine t_callSNv hC hw25 (pc := 125) (As := [.ref a22, .int (x10 + 1), .int (x12 + x3)]) (kX12_set l G T κ hst hE ma22) trivial dmX12_set dX6_intern_125 zw973 rfl rfl (Nat.le_of_ble_eq_true rfl) (Nat.le_of_ble_eq_true rfl) (Nat.le_of_ble_eq_true rfl) (Nat.le_of_ble_eq_true rfl) (Nat.le_of_ble_eq_true rfl) (fun _ _ _ h => nomatch h) (fun cw26 nw26 w26 hw26 pw26 => ?_)
              obtain ⟨rfl, rfl, kw26⟩ := pw26
              refine z_aload_n hC (pc := 128) 1 dX6_intern_128 rfl rfl ?_
              refine u_get hC hw26 (pc := 129) zf6 2 (hE.o6 h0) rfl dX6_intern_129 zw182 (kk := fun va28 ta28 fa28 => ?_)
              obtain ⟨a28, ma28, rfl⟩ := ta28
              refine z_aload_n hC (pc := 132) 1 dX6_intern_132 rfl rfl ?_
              refine u_getK hC (pc := 133) zf6 4 (tKeep.F kw26 (tKeep.F kw25 (tKeep.F kw23 (tKeep.F kw20 (tKeep.F kw16 fx10 rfl) rfl) rfl) rfl) rfl) dX6_intern_133 zw184 (kk := ?_)
              refine z_aload_n hC (pc := 136) 1 dX6_intern_136 rfl rfl ?_
              refine u_get hC hw26 (pc := 137) zf6 3 (hE.o6 h0) rfl dX6_intern_137 zw183 (kk := fun va29 ta29 fa29 => ?_)
              obtain ⟨a29, ma29, rfl⟩ := ta29
              refine z_iload hC (pc := 140) 0 dX6_intern_140 rfl ?_
              refine t_callSNi hC hw26 (pc := 142) (As := [.ref a29, .int x21]) (kX12_get l G T κ hst hE ma29) trivial dmX12_get dX6_intern_142 zw965 rfl rfl (Nat.le_of_ble_eq_true rfl) (Nat.le_of_ble_eq_true rfl) (Nat.le_of_ble_eq_true rfl) (Nat.le_of_ble_eq_true rfl) (Nat.le_of_ble_eq_true rfl) (fun _ _ _ h => nomatch h) (fun x31 cw30 nw30 w30 hw30 pw30 => ?_)
              obtain ⟨rfl, rfl, kw30⟩ := pw30
              refine t_callSNv hC hw30 (pc := 145) (As := [.ref a28, .int x10, .int x31]) (kX12_set l G T κ hst hE ma28) trivial dmX12_set dX6_intern_145 zw973 rfl rfl (Nat.le_of_ble_eq_true rfl) (Nat.le_of_ble_eq_true rfl) (Nat.le_of_ble_eq_true rfl) (Nat.le_of_ble_eq_true rfl) (Nat.le_of_ble_eq_true rfl) (fun _ _ _ h => nomatch h) (fun cw32 nw32 w32 hw32 pw32 => ?_)
              obtain ⟨rfl, rfl, kw32⟩ := pw32
              refine z_aload_n hC (pc := 148) 1 dX6_intern_148 rfl rfl ?_
              refine u_getK hC (pc := 149) zf6 3 (tKeep.F kw32 (tKeep.F kw30 fa29 rfl) rfl) dX6_intern_149 zw183 (kk := ?_)
              refine z_iload hC (pc := 152) 0 dX6_intern_152 rfl ?_
              refine z_aload_n hC (pc := 154) 1 dX6_intern_154 rfl rfl ?_
              refine u_getK hC (pc := 155) zf6 4 (tKeep.F kw32 (tKeep.F kw30 (tKeep.F kw26 (tKeep.F kw25 (tKeep.F kw23 (tKeep.F kw20 (tKeep.F kw16 fx10 rfl) rfl) rfl) rfl) rfl) rfl) rfl) dX6_intern_155 zw184 (kk := ?_)
              refine t_callSNv hC hw32 (pc := 158) (As := [.ref a29, .int x21, .int x10]) (kX12_set l G T κ hst hE ma29) trivial dmX12_set dX6_intern_158 zw973 rfl rfl (Nat.le_of_ble_eq_true rfl) (Nat.le_of_ble_eq_true rfl) (Nat.le_of_ble_eq_true rfl) (Nat.le_of_ble_eq_true rfl) (Nat.le_of_ble_eq_true rfl) (fun _ _ _ h => nomatch h) (fun cw34 nw34 w34 hw34 pw34 => ?_)
              obtain ⟨rfl, rfl, kw34⟩ := pw34
              refine z_aload_n hC (pc := 161) 1 dX6_intern_161 rfl rfl ?_
              refine z_dup hC (pc := 162) dX6_intern_162 rfl ?_
              refine u_getK hC (pc := 163) zf6 4 (tKeep.F kw34 (tKeep.F kw32 (tKeep.F kw30 (tKeep.F kw26 (tKeep.F kw25 (tKeep.F kw23 (tKeep.F kw20 (tKeep.F kw16 fx10 rfl) rfl) rfl) rfl) rfl) rfl) rfl) rfl) dX6_intern_163 zw184 (kk := ?_)
              refine z_iconst hC (pc := 166) (v := 1) dX6_intern_166 (by decide) ?_
              refine z_iadd hC (pc := 167) (v := (x10 + 1)) dX6_intern_167 rfl ?_
              refine u_put hC hw34 (pc := 168) zf6 4 (hE.o6 h0) rfl ⟨_, rfl⟩ dX6_intern_168 zw184 rfl rfl rfl (kk := fun w36 hw36 fw36 kw36 => ?_)
              refine z_aload_n hC (pc := 171) 1 dX6_intern_171 rfl rfl ?_
              refine u_getK hC (pc := 172) zf6 4 fw36 dX6_intern_172 zw184 (kk := ?_)
              refine z_iconst hC (pc := 175) (v := 1) dX6_intern_175 (by decide) ?_
              refine z_isub hC (pc := 176) (v := ((x10 + 1) - 1)) dX6_intern_176 rfl ?_
              exact hR _ _ _ _ _ _ dX6_intern_177 rfl (Nat.le_of_ble_eq_true rfl) (Nat.le_of_ble_eq_true rfl) ⟨hw36, rfl, rfl, (tKeep.tr (tKeep.tr (tKeep.tr (tKeep.tr (tKeep.tr (tKeep.tr (tKeep.tr (tKeep.tr (tKeep.tr (tKeep.tr tKeep.rf kw7 rfl) kw16 rfl) kw20 rfl) kw23 rfl) kw25 rfl) kw26 rfl) kw30 rfl) kw32 rfl) kw34 rfl) kw36 rfl)⟩
            · refine z_aload_n hC (pc := 50) 0 dX6_intern_50 rfl rfl ?_
              refine u_getK hC (pc := 51) zf6 0 (tKeep.F kw16 fa13 rfl) dX6_intern_51 zw174 (kk := ?_)
              refine z_aload_n hC (pc := 54) 0 dX6_intern_54 rfl rfl ?_
              refine u_getK hC (pc := 55) zf6 5 (tKeep.F kw16 fx12 rfl) dX6_intern_55 zw186 (kk := ?_)
              refine z_iload hC (pc := 58) 4 dX6_intern_58 rfl ?_
              refine z_iadd hC (pc := 60) (v := (x12 + x17)) dX6_intern_60 rfl ?_
              refine z_aload_n hC (pc := 61) 1 dX6_intern_61 rfl rfl ?_
              refine z_iload_n hC (pc := 62) 2 dX6_intern_62 rfl rfl ?_
              refine z_iload hC (pc := 63) 4 dX6_intern_63 rfl ?_
              refine z_iadd hC (pc := 65) (v := (x2 + x17)) dX6_intern_65 rfl ?_
              refine t_callSNi hC hw16 (pc := 66) (As := [.ref a1, .int (x2 + x17)]) (kX12_getByte l G T κ hst hE h1) trivial dmX12_getByte dX6_intern_66 zw971 rfl rfl (Nat.le_of_ble_eq_true rfl) (Nat.le_of_ble_eq_true rfl) (Nat.le_of_ble_eq_true rfl) (Nat.le_of_ble_eq_true rfl) (Nat.le_of_ble_eq_true rfl) (fun _ _ _ h => nomatch h) (fun x38 cw37 nw37 w37 hw37 pw37 => ?_)
              obtain ⟨rfl, rfl, kw37⟩ := pw37
              refine t_callSNv hC hw37 (pc := 69) (As := [.ref a13, .int (x12 + x17), .int x38]) (kX12_setByte l G T κ hst hE ma13) trivial dmX12_setByte dX6_intern_69 zw972 rfl rfl (Nat.le_of_ble_eq_true rfl) (Nat.le_of_ble_eq_true rfl) (Nat.le_of_ble_eq_true rfl) (Nat.le_of_ble_eq_true rfl) (Nat.le_of_ble_eq_true rfl) (fun _ _ _ h => nomatch h) (fun cw39 nw39 w39 hw39 pw39 => ?_)
              obtain ⟨rfl, rfl, kw39⟩ := pw39
              refine z_iinc hC (pc := 72) (v := (x17 + 1)) (lv' := [(5, .int (x17 + 1)), (0, .ref a0), (1, .ref a1), (2, .int x2), (3, .int x3)]) 4 dX6_intern_72 rfl (congrArg _ (by decide)) (by decide) rfl ?_
              refine z_goto hC (pc := 75) 44 dX6_intern_75 (by decide) ?_
              refine z_lvs [1, 2, 3, 4, 0] rfl ?_
              exact ih44 w39 hw39 (tKeep.tr (tKeep.tr (tKeep.tr tKeep.rf kw16 rfl) kw37 rfl) kw39 rfl) (x17 + 1) (t_nnI v18 (Int32.not_le.mp c19)) (t_up (Int32.not_le.mp c19) hd44)
        refine z_lvs [2, 3, 4, 5, 0] rfl ?_
        exact j44 _ w7 hw7 tKeep.rf 0 (by decide) (Nat.le_refl _)
      · refine z_lvs [0] rfl ?_
        exact j38
set_option maxRecDepth 20000 in
theorem kX6_forget (l : Launch) (G : zG) (T : tT) (κ : Nat → List Nat) (hst : l.stackTraces = false) (hE : tE G T κ) {a0 : Nat} (h0 : a0 ∈ κ 6) : tMv l G T yX6_forget cX6_forget 1 [] 3 75 0 0 [.ref a0] uT (uPv 0x30000000000000000000000000000000000000000000000000000000000000000000000000000000000000000000000000) := by
  refine tMv.intro hst rfl (Nat.le_of_ble_eq_true rfl) ?_
  intro w0 hw0 _ X hC hR hO hX
  refine z_aload_n hC (pc := 0) 0 dX6_forget_0 rfl rfl ?_
  refine u_get hC hw0 (pc := 1) zf6 3 (hE.o6 h0) rfl dX6_forget_1 zw183 (kk := fun va3 ta3 fa3 => ?_)
  obtain ⟨a3, ma3, rfl⟩ := ta3
  refine z_iconst hC (pc := 4) (v := (-1)) dX6_forget_4 (by decide) ?_
  refine t_callSv hC hw0 (pc := 5) (As := [.ref a3, .int (-1)]) (kJ7_fill_53178 l G T κ hst hE ma3) trivial dmJ7_fill_53178 dX6_forget_5 zw949 rfl rfl (Nat.le_of_ble_eq_true rfl) (Nat.le_of_ble_eq_true rfl) (Nat.le_of_ble_eq_true rfl) (Nat.le_of_ble_eq_true rfl) (Nat.le_of_ble_eq_true rfl) (fun _ _ _ h => nomatch h) (fun cw4 nw4 w4 hw4 pw4 => ?_)
  obtain ⟨rfl, rfl, kw4⟩ := pw4
  refine z_aload_n hC (pc := 8) 0 dX6_forget_8 rfl rfl ?_
  refine z_iconst hC (pc := 9) (v := 0) dX6_forget_9 (by decide) ?_
  refine u_put hC hw4 (pc := 10) zf6 4 (hE.o6 h0) rfl ⟨_, rfl⟩ dX6_forget_10 zw184 rfl rfl rfl (kk := fun w6 hw6 fw6 kw6 => ?_)
  refine z_aload_n hC (pc := 13) 0 dX6_forget_13 rfl rfl ?_
  refine z_iconst hC (pc := 14) (v := 0) dX6_forget_14 (by decide) ?_
  refine u_put hC hw6 (pc := 15) zf6 5 (hE.o6 h0) rfl ⟨_, rfl⟩ dX6_forget_15 zw186 rfl rfl rfl (kk := fun w7 hw7 fw7 kw7 => ?_)
  refine z_aload_n hC (pc := 18) 0 dX6_forget_18 rfl rfl ?_
  refine z_getTURN hC (pc := 19) dX6_forget_19 zw952 ?_
  refine z_iconst hC (pc := 22) (v := 0) dX6_forget_22 (by decide) ?_
  refine z_iconst hC (pc := 23) (v := 1) dX6_forget_23 (by decide) ?_
  obtain ⟨q8, hqq8⟩ := hE.o6 h0
  refine t_callVi hC hw7 (pc := 24) (As := [.ref (G.2.2 0), .int 0, .int 1]) (kX6_intern l G T κ hst hE h0 (Or.inr rfl)) trivial dmX6_intern zf6 hqq8 dX6_forget_24 zw954 rfl rfl (Nat.le_of_ble_eq_true rfl) (Nat.le_of_ble_eq_true rfl) (Nat.le_of_ble_eq_true rfl) (Nat.le_of_ble_eq_true rfl) (Nat.le_of_ble_eq_true rfl) (fun _ _ _ h => nomatch h) (fun x10 cw9 nw9 w9 hw9 pw9 => ?_)
  obtain ⟨rfl, rfl, kw9⟩ := pw9
  refine z_pop hC (pc := 27) dX6_forget_27 rfl ?_
  refine z_aload_n hC (pc := 28) 0 dX6_forget_28 rfl rfl ?_
  refine z_getTURN hC (pc := 29) dX6_forget_29 zw952 ?_
  refine z_iconst hC (pc := 32) (v := 0) dX6_forget_32 (by decide) ?_
  refine z_iconst hC (pc := 33) (v := 2) dX6_forget_33 (by decide) ?_
  refine t_callVi hC hw9 (pc := 34) (As := [.ref (G.2.2 0), .int 0, .int 2]) (kX6_intern l G T κ hst hE h0 (Or.inr rfl)) trivial dmX6_intern zf6 hqq8 dX6_forget_34 zw954 rfl rfl (Nat.le_of_ble_eq_true rfl) (Nat.le_of_ble_eq_true rfl) (Nat.le_of_ble_eq_true rfl) (Nat.le_of_ble_eq_true rfl) (Nat.le_of_ble_eq_true rfl) (fun _ _ _ h => nomatch h) (fun x12 cw11 nw11 w11 hw11 pw11 => ?_)
  obtain ⟨rfl, rfl, kw11⟩ := pw11
  refine z_pop hC (pc := 37) dX6_forget_37 rfl ?_
  exact hR _ _ _ _ _ dX6_forget_38 (Nat.le_of_ble_eq_true rfl) (Nat.le_of_ble_eq_true rfl) ⟨hw11, rfl, rfl, (tKeep.tr (tKeep.tr (tKeep.tr (tKeep.tr (tKeep.tr tKeep.rf kw4 rfl) kw6 rfl) kw7 rfl) kw9 rfl) kw11 rfl)⟩
set_option maxRecDepth 20000 in
theorem kX4_forget (l : Launch) (G : zG) (T : tT) (κ : Nat → List Nat) (hst : l.stackTraces = false) (hE : tE G T κ) {a0 : Nat} (h0 : a0 ∈ κ 4) : tMv l G T yX4_forget cX4_forget 1 [] 1 23 0 0 [.ref a0] uT (uPv 0x200000000000000000000000000000000000000000000000000000000000000000) := by
  refine tMv.intro hst rfl (Nat.le_of_ble_eq_true rfl) ?_
  intro w0 hw0 _ X hC hR hO hX
  refine z_aload_n hC (pc := 0) 0 dX4_forget_0 rfl rfl ?_
  refine u_get hC hw0 (pc := 1) zf4 1 (hE.o4 h0) rfl dX4_forget_1 zw208 (kk := fun va3 ta3 fa3 => ?_)
  obtain ⟨a3, ma3, rfl⟩ := ta3
  refine z_iconst hC (pc := 4) (v := 0) dX4_forget_4 (by decide) ?_
  refine t_callSv hC hw0 (pc := 5) (As := [.ref a3, .int 0]) (kJ7_fill_53178 l G T κ hst hE ma3) trivial dmJ7_fill_53178 dX4_forget_5 zw978 rfl rfl (Nat.le_of_ble_eq_true rfl) (Nat.le_of_ble_eq_true rfl) (Nat.le_of_ble_eq_true rfl) (Nat.le_of_ble_eq_true rfl) (Nat.le_of_ble_eq_true rfl) (fun _ _ _ h => nomatch h) (fun cw4 nw4 w4 hw4 pw4 => ?_)
  obtain ⟨rfl, rfl, kw4⟩ := pw4
  refine z_aload_n hC (pc := 8) 0 dX4_forget_8 rfl rfl ?_
  refine u_get hC hw4 (pc := 9) zf4 3 (hE.o4 h0) rfl dX4_forget_9 zw211 (kk := fun va6 ta6 fa6 => ?_)
  obtain ⟨a6, ma6, rfl⟩ := ta6
  refine z_iconst hC (pc := 12) (v := 0) dX4_forget_12 (by decide) ?_
  refine t_callSv hC hw4 (pc := 13) (As := [.ref a6, .int 0]) (kJ7_fill_53178 l G T κ hst hE ma6) trivial dmJ7_fill_53178 dX4_forget_13 zw978 rfl rfl (Nat.le_of_ble_eq_true rfl) (Nat.le_of_ble_eq_true rfl) (Nat.le_of_ble_eq_true rfl) (Nat.le_of_ble_eq_true rfl) (Nat.le_of_ble_eq_true rfl) (fun _ _ _ h => nomatch h) (fun cw7 nw7 w7 hw7 pw7 => ?_)
  obtain ⟨rfl, rfl, kw7⟩ := pw7
  refine z_aload_n hC (pc := 16) 0 dX4_forget_16 rfl rfl ?_
  refine z_iconst hC (pc := 17) (v := 0) dX4_forget_17 (by decide) ?_
  refine u_put hC hw7 (pc := 18) zf4 5 (hE.o4 h0) rfl ⟨_, rfl⟩ dX4_forget_18 zw214 rfl rfl rfl (kk := fun w9 hw9 fw9 kw9 => ?_)
  exact hR _ _ _ _ _ dX4_forget_21 (Nat.le_of_ble_eq_true rfl) (Nat.le_of_ble_eq_true rfl) ⟨hw9, rfl, rfl, (tKeep.tr (tKeep.tr (tKeep.tr tKeep.rf kw4 rfl) kw7 rfl) kw9 rfl)⟩
set_option maxRecDepth 20000 in
theorem kX2_keep (l : Launch) (G : zG) (T : tT) (κ : Nat → List Nat) (hst : l.stackTraces = false) (hE : tE G T κ) {a0 : Nat} (h0 : a0 ∈ κ 2) {x1 : Int32} {x2 : Int32} : tMv l G T yX2_keep cX2_keep 3 [] 0 0 0 0 [.ref a0, .int x1, .int x2] uT (uPv 0x4000000000000000000000000000000000) := by
  refine tMv.intro hst rfl (Nat.le_of_ble_eq_true rfl) ?_
  intro w0 hw0 _ X hC hR hO hX
  refine z_aload_n hC (pc := 0) 0 dX2_keep_0 rfl rfl ?_
  refine u_get hC hw0 (pc := 1) zf2 6 (hE.o2 h0) rfl dX2_keep_1 zw253 (kk := fun vx5 tx5 fx5 => ?_)
  obtain ⟨x5, rfl⟩ := tx5
  have j62 : ∀ (w6 : va_W), tW T w6 → tKeep 0x4000000000000000000000000000000000 w0 w6 → zS X G 3 w6 [] 0 0 62 [] := by
    intro w6 hw6 kw6
    exact hR _ _ _ _ _ dX2_keep_62 (Nat.le_of_ble_eq_true rfl) (Nat.le_of_ble_eq_true rfl) ⟨hw6, rfl, rfl, (tKeep.tr tKeep.rf kw6 rfl)⟩
  refine z_if_lt hC (pc := 4) 62 dX2_keep_4 (by decide) (fun c7 => ?_) (fun c7 => ?_)
  · refine z_lvs [] rfl ?_
    exact j62 w0 hw0 tKeep.rf
  · refine z_aload_n hC (pc := 7) 0 dX2_keep_7 rfl rfl ?_
    refine u_getK hC (pc := 8) zf2 6 fx5 dX2_keep_8 zw253 (kk := ?_)
    refine z_aload_n hC (pc := 11) 0 dX2_keep_11 rfl rfl ?_
    refine u_get hC hw0 (pc := 12) zf2 4 (hE.o2 h0) rfl dX2_keep_12 zw247 (kk := fun va8 ta8 fa8 => ?_)
    obtain ⟨a8, ma8, rfl⟩ := ta8
    obtain ⟨N9, gN9, AN9⟩ := hE.byts ma8
    have hN9 : N9 < 2 ^ 31 := Nat.lt_trans gN9 (by decide)
    refine u_alenB hC hw0 (pc := 15) (Or.inl AN9) dX2_keep_15 ?_
    refine z_icmp_ge hC (pc := 16) 62 dX2_keep_16 (by decide) (fun c10 => ?_) (fun c10 => ?_)
    · refine z_lvs [] rfl ?_
      exact j62 w0 hw0 tKeep.rf
    · refine z_aload_n hC (pc := 19) 0 dX2_keep_19 rfl rfl ?_
      refine u_getK hC (pc := 20) zf2 6 fx5 dX2_keep_20 zw253 (kk := ?_)
      refine z_aload_n hC (pc := 23) 0 dX2_keep_23 rfl rfl ?_
      refine u_get hC hw0 (pc := 24) zf2 5 (hE.o2 h0) rfl dX2_keep_24 zw251 (kk := fun va11 ta11 fa11 => ?_)
      obtain ⟨a11, ma11, rfl⟩ := ta11
      obtain ⟨N12, gN12, AN12⟩ := hE.ints ma11
      have hN12 : N12 < 2 ^ 31 := Nat.lt_trans gN12 (by decide)
      refine u_alenI hC hw0 (pc := 27) AN12 dX2_keep_27 ?_
      refine z_icmp_ge hC (pc := 28) 62 dX2_keep_28 (by decide) (fun c13 => ?_) (fun c13 => ?_)
      · refine z_lvs [] rfl ?_
        exact j62 w0 hw0 tKeep.rf
      · refine z_aload_n hC (pc := 31) 0 dX2_keep_31 rfl rfl ?_
        refine u_getK hC (pc := 32) zf2 4 fa8 dX2_keep_32 zw247 (kk := ?_)
        refine z_aload_n hC (pc := 35) 0 dX2_keep_35 rfl rfl ?_
        refine u_getK hC (pc := 36) zf2 6 fx5 dX2_keep_36 zw253 (kk := ?_)
        refine z_iload_n hC (pc := 39) 1 dX2_keep_39 rfl rfl ?_
        refine z_i2b hC (pc := 40) (v := (x1 : Int32).toInt8.toInt32) dX2_keep_40 rfl ?_
        generalize (x1 : Int32).toInt8.toInt32 = x14
        refine u_bast hC hw0 (pc := 41) AN9 dX2_keep_41 (t_inB hN9 c7 c10) trivial (fun w15 hw15 kw15 => ?_)
        refine z_aload_n hC (pc := 42) 0 dX2_keep_42 rfl rfl ?_
        refine u_getK hC (pc := 43) zf2 5 (tKeep.F kw15 fa11 rfl) dX2_keep_43 zw251 (kk := ?_)
        refine z_aload_n hC (pc := 46) 0 dX2_keep_46 rfl rfl ?_
        refine u_getK hC (pc := 47) zf2 6 (tKeep.F kw15 fx5 rfl) dX2_keep_47 zw253 (kk := ?_)
        refine z_iload_n hC (pc := 50) 2 dX2_keep_50 rfl rfl ?_
        refine u_iast hC hw15 (pc := 51) AN12 dX2_keep_51 (t_inB hN12 c7 c13) trivial (fun w16 hw16 kw16 => ?_)
        refine z_aload_n hC (pc := 52) 0 dX2_keep_52 rfl rfl ?_
        refine z_dup hC (pc := 53) dX2_keep_53 rfl ?_
        refine u_getK hC (pc := 54) zf2 6 (tKeep.F kw16 (tKeep.F kw15 fx5 rfl) rfl) dX2_keep_54 zw253 (kk := ?_)
        refine z_iconst hC (pc := 57) (v := 1) dX2_keep_57 (by decide) ?_
        refine z_iadd hC (pc := 58) (v := (x5 + 1)) dX2_keep_58 rfl ?_
        refine u_put hC hw16 (pc := 59) zf2 6 (hE.o2 h0) rfl ⟨_, rfl⟩ dX2_keep_59 zw253 rfl rfl rfl (kk := fun w17 hw17 fw17 kw17 => ?_)
        refine z_lvs [] rfl ?_
        exact j62 w17 hw17 (tKeep.tr (tKeep.tr (tKeep.tr tKeep.rf kw15 rfl) kw16 rfl) kw17 rfl)
set_option maxRecDepth 20000 in
theorem kX2_forget (l : Launch) (G : zG) (T : tT) (κ : Nat → List Nat) (hst : l.stackTraces = false) (hE : tE G T κ) {a0 : Nat} (h0 : a0 ∈ κ 2) : tMv l G T yX2_forget cX2_forget 1 [] 4 95 0 0 [.ref a0] uT (uPv 0x30000000000000000000000000000000200000000000000000000000000000154800000000000000000000000000000000) := by
  refine tMv.intro hst rfl (Nat.le_of_ble_eq_true rfl) ?_
  intro w0 hw0 _ X hC hR hO hX
  refine z_aload_n hC (pc := 0) 0 dX2_forget_0 rfl rfl ?_
  refine u_get hC hw0 (pc := 1) zf2 0 (hE.o2 h0) rfl dX2_forget_1 zw230 (kk := fun va3 ta3 fa3 => ?_)
  obtain ⟨a3, ma3, rfl⟩ := ta3
  obtain ⟨q4, hqq4⟩ := hE.o6 ma3
  refine t_callVv hC hw0 (pc := 4) (As := []) (kX6_forget l G T κ hst hE ma3) trivial dmX6_forget zf6 hqq4 dX2_forget_4 zw945 rfl rfl (Nat.le_of_ble_eq_true rfl) (Nat.le_of_ble_eq_true rfl) (Nat.le_of_ble_eq_true rfl) (Nat.le_of_ble_eq_true rfl) (Nat.le_of_ble_eq_true rfl) (fun _ _ _ h => nomatch h) (fun cw5 nw5 w5 hw5 pw5 => ?_)
  obtain ⟨rfl, rfl, kw5⟩ := pw5
  refine z_aload_n hC (pc := 7) 0 dX2_forget_7 rfl rfl ?_
  refine u_get hC hw5 (pc := 8) zf2 1 (hE.o2 h0) rfl dX2_forget_8 zw236 (kk := fun va7 ta7 fa7 => ?_)
  obtain ⟨a7, ma7, rfl⟩ := ta7
  obtain ⟨q8, hqq8⟩ := hE.o4 ma7
  refine t_callVv hC hw5 (pc := 11) (As := []) (kX4_forget l G T κ hst hE ma7) trivial dmX4_forget zf4 hqq8 dX2_forget_11 zw974 rfl rfl (Nat.le_of_ble_eq_true rfl) (Nat.le_of_ble_eq_true rfl) (Nat.le_of_ble_eq_true rfl) (Nat.le_of_ble_eq_true rfl) (Nat.le_of_ble_eq_true rfl) (fun _ _ _ h => nomatch h) (fun cw9 nw9 w9 hw9 pw9 => ?_)
  obtain ⟨rfl, rfl, kw9⟩ := pw9
  refine z_aload_n hC (pc := 14) 0 dX2_forget_14 rfl rfl ?_
  refine z_iconst hC (pc := 15) (v := 1) dX2_forget_15 (by decide) ?_
  refine u_put hC hw9 (pc := 16) zf2 3 (hE.o2 h0) rfl ⟨_, rfl⟩ dX2_forget_16 zw244 rfl rfl rfl (kk := fun w11 hw11 fw11 kw11 => ?_)
  refine z_aload_n hC (pc := 19) 0 dX2_forget_19 rfl rfl ?_
  refine z_iconst hC (pc := 20) (v := 0) dX2_forget_20 (by decide) ?_
  refine u_put hC hw11 (pc := 21) zf2 6 (hE.o2 h0) rfl ⟨_, rfl⟩ dX2_forget_21 zw253 rfl rfl rfl (kk := fun w12 hw12 fw12 kw12 => ?_)
  refine z_aload_n hC (pc := 24) 0 dX2_forget_24 rfl rfl ?_
  refine z_iconst hC (pc := 25) (v := 0) dX2_forget_25 (by decide) ?_
  refine u_put hC hw12 (pc := 26) zf2 8 (hE.o2 h0) rfl ⟨_, rfl⟩ dX2_forget_26 zw259 rfl rfl rfl (kk := fun w13 hw13 fw13 kw13 => ?_)
  refine z_aload_n hC (pc := 29) 0 dX2_forget_29 rfl rfl ?_
  refine z_iconst hC (pc := 30) (v := 0) dX2_forget_30 (by decide) ?_
  refine u_put hC hw13 (pc := 31) zf2 10 (hE.o2 h0) rfl ⟨_, rfl⟩ dX2_forget_31 zw265 rfl rfl rfl (kk := fun w14 hw14 fw14 kw14 => ?_)
  refine z_aload_n hC (pc := 34) 0 dX2_forget_34 rfl rfl ?_
  refine z_iconst hC (pc := 35) (v := 0) dX2_forget_35 (by decide) ?_
  refine u_put hC hw14 (pc := 36) zf2 12 (hE.o2 h0) rfl ⟨_, rfl⟩ dX2_forget_36 zw270 rfl rfl rfl (kk := fun w15 hw15 fw15 kw15 => ?_)
  refine z_aload_n hC (pc := 39) 0 dX2_forget_39 rfl rfl ?_
  refine u_get hC hw15 (pc := 40) zf2 13 (hE.o2 h0) rfl dX2_forget_40 zw272 (kk := fun va16 ta16 fa16 => ?_)
  obtain ⟨a16, ma16, rfl⟩ := ta16
  refine z_iconst hC (pc := 43) (v := (-1)) dX2_forget_43 (by decide) ?_
  refine t_callSv hC hw15 (pc := 44) (As := [.ref a16, .int (-1)]) (kJ7_fill_53178 l G T κ hst hE ma16) trivial dmJ7_fill_53178 dX2_forget_44 zw979 rfl rfl (Nat.le_of_ble_eq_true rfl) (Nat.le_of_ble_eq_true rfl) (Nat.le_of_ble_eq_true rfl) (Nat.le_of_ble_eq_true rfl) (Nat.le_of_ble_eq_true rfl) (fun _ _ _ h => nomatch h) (fun cw17 nw17 w17 hw17 pw17 => ?_)
  obtain ⟨rfl, rfl, kw17⟩ := pw17
  refine z_aload_n hC (pc := 47) 0 dX2_forget_47 rfl rfl ?_
  refine z_bipush hC (pc := 48) (v := 10) dX2_forget_48 (by decide) ?_
  refine z_iconst hC (pc := 50) (v := 0) dX2_forget_50 (by decide) ?_
  obtain ⟨q19, hqq19⟩ := hE.o2 h0
  refine t_callVv hC hw17 (pc := 51) (As := [.int 10, .int 0]) (kX2_keep l G T κ hst hE h0) trivial dmX2_keep zf2 hqq19 dX2_forget_51 zw980 rfl rfl (Nat.le_of_ble_eq_true rfl) (Nat.le_of_ble_eq_true rfl) (Nat.le_of_ble_eq_true rfl) (Nat.le_of_ble_eq_true rfl) (Nat.le_of_ble_eq_true rfl) (fun _ _ _ h => nomatch h) (fun cw20 nw20 w20 hw20 pw20 => ?_)
  obtain ⟨rfl, rfl, kw20⟩ := pw20
  exact hR _ _ _ _ _ dX2_forget_54 (Nat.le_of_ble_eq_true rfl) (Nat.le_of_ble_eq_true rfl) ⟨hw20, rfl, rfl, (tKeep.tr (tKeep.tr (tKeep.tr (tKeep.tr (tKeep.tr (tKeep.tr (tKeep.tr (tKeep.tr (tKeep.tr tKeep.rf kw5 rfl) kw9 rfl) kw11 rfl) kw12 rfl) kw13 rfl) kw14 rfl) kw15 rfl) kw17 rfl) kw20 rfl)⟩
set_option maxRecDepth 20000 in
theorem kX4_wasRead (l : Launch) (G : zG) (T : tT) (κ : Nat → List Nat) (hst : l.stackTraces = false) (hE : tE G T κ) {a0 : Nat} (h0 : a0 ∈ κ 4) {x1 : Int32} : tMi l G T yX4_wasRead cX4_wasRead 3 .boolean [] 1 21 0 0 [.ref a0, .int x1] uT (uPz 0x0) := by
  refine tMi.intro hst rfl (Nat.le_of_ble_eq_true rfl) ?_
  intro w0 hw0 _ X hC hR hO hX
  refine z_iconst hC (pc := 0) (v := 0) dX4_wasRead_0 (by decide) ?_
  refine z_istore_n hC (pc := 1) (lv' := [(2, .int 0), (0, .ref a0), (1, .int x1)]) dX4_wasRead_1 rfl (by decide) rfl ?_
  have j2 : ∀ (d2 : Nat), ∀ (w4 : va_W), tW T w4 → tKeep 0x0 w0 w4 → ∀ (x5 : Int32), ¬ x5 < 0 → (2 ^ 31 - (x5 : Int32).toInt).toNat ≤ d2 → zS X G 3 w4 [(0, .ref a0), (1, .int x1), (2, .int x5)] 0 0 2 [] := by
    intro d2
    induction d2 with
    | zero => intro w4 hw4 kw4 x5 v6 hd2; exact (t_zero hd2).elim
    | succ d2 ih2 =>
      intro w4 hw4 kw4 x5 v6 hd2
      refine z_iload_n hC (pc := 2) 2 dX4_wasRead_2 rfl rfl ?_
      refine z_aload_n hC (pc := 3) 0 dX4_wasRead_3 rfl rfl ?_
      refine u_get hC hw4 (pc := 4) zf4 5 (hE.o4 h0) rfl dX4_wasRead_4 zw214 (kk := fun vx7 tx7 fx7 => ?_)
      obtain ⟨x7, rfl⟩ := tx7
      refine z_icmp_ge hC (pc := 7) 30 dX4_wasRead_7 (by decide) (fun c8 => ?_) (fun c8 => ?_)
      · refine z_iconst hC (pc := 30) (v := 0) dX4_wasRead_30 (by decide) ?_
        exact hR _ _ _ _ _ _ dX4_wasRead_31 rfl (Nat.le_of_ble_eq_true rfl) (Nat.le_of_ble_eq_true rfl) ⟨hw4, rfl, rfl, (tKeep.tr tKeep.rf kw4 rfl), (Or.inl rfl)⟩
      · refine z_aload_n hC (pc := 10) 0 dX4_wasRead_10 rfl rfl ?_
        refine u_get hC hw4 (pc := 11) zf4 4 (hE.o4 h0) rfl dX4_wasRead_11 zw212 (kk := fun va9 ta9 fa9 => ?_)
        obtain ⟨a9, ma9, rfl⟩ := ta9
        refine z_iload_n hC (pc := 14) 2 dX4_wasRead_14 rfl rfl ?_
        refine t_callSNi hC hw4 (pc := 15) (As := [.ref a9, .int x5]) (kX12_get l G T κ hst hE ma9) trivial dmX12_get dX4_wasRead_15 zw992 rfl rfl (Nat.le_of_ble_eq_true rfl) (Nat.le_of_ble_eq_true rfl) (Nat.le_of_ble_eq_true rfl) (Nat.le_of_ble_eq_true rfl) (Nat.le_of_ble_eq_true rfl) (fun _ _ _ h => nomatch h) (fun x11 cw10 nw10 w10 hw10 pw10 => ?_)
        obtain ⟨rfl, rfl, kw10⟩ := pw10
        refine z_iload_n hC (pc := 18) 1 dX4_wasRead_18 rfl rfl ?_
        refine z_icmp_ne hC (pc := 19) 24 dX4_wasRead_19 (by decide) (fun c12 => ?_) (fun c12 => ?_)
        · refine z_iinc hC (pc := 24) (v := (x5 + 1)) (lv' := [(2, .int (x5 + 1)), (0, .ref a0), (1, .int x1)]) 2 dX4_wasRead_24 rfl (congrArg _ (by decide)) (by decide) rfl ?_
          refine z_goto hC (pc := 27) 2 dX4_wasRead_27 (by decide) ?_
          refine z_lvs [1, 2, 0] rfl ?_
          exact ih2 w10 hw10 (tKeep.tr (tKeep.tr tKeep.rf kw4 rfl) kw10 rfl) (x5 + 1) (t_nnI v6 (Int32.not_le.mp c8)) (t_up (Int32.not_le.mp c8) hd2)
        · refine z_iconst hC (pc := 22) (v := 1) dX4_wasRead_22 (by decide) ?_
          exact hR _ _ _ _ _ _ dX4_wasRead_23 rfl (Nat.le_of_ble_eq_true rfl) (Nat.le_of_ble_eq_true rfl) ⟨hw10, rfl, rfl, (tKeep.tr (tKeep.tr tKeep.rf kw4 rfl) kw10 rfl), (Or.inr rfl)⟩
  refine z_lvs [1, 2, 0] rfl ?_
  exact j2 _ w0 hw0 tKeep.rf 0 (by decide) (Nat.le_refl _)
set_option maxRecDepth 20000 in
theorem kX4_noteRead (l : Launch) (G : zG) (T : tT) (κ : Nat → List Nat) (hst : l.stackTraces = false) (hE : tE G T κ) {a0 : Nat} (h0 : a0 ∈ κ 4) {x1 : Int32} : tMv l G T yX4_noteRead cX4_noteRead 2 [] 1 22 0 0 [.ref a0, .int x1] uT (uPv 0x200000000000000000000000000000000000000000000000000000000000000000) := by
  refine tMv.intro hst rfl (Nat.le_of_ble_eq_true rfl) ?_
  intro w0 hw0 _ X hC hR hO hX
  refine z_aload_n hC (pc := 0) 0 dX4_noteRead_0 rfl rfl ?_
  refine u_get hC hw0 (pc := 1) zf4 5 (hE.o4 h0) rfl dX4_noteRead_1 zw214 (kk := fun vx4 tx4 fx4 => ?_)
  obtain ⟨x4, rfl⟩ := tx4
  refine z_bipush hC (pc := 4) (v := 8) dX4_noteRead_4 (by decide) ?_
  have j31 : ∀ (w5 : va_W), tW T w5 → tKeep 0x200000000000000000000000000000000000000000000000000000000000000000 w0 w5 → zS X G 2 w5 [] 0 0 31 [] := by
    intro w5 hw5 kw5
    exact hR _ _ _ _ _ dX4_noteRead_31 (Nat.le_of_ble_eq_true rfl) (Nat.le_of_ble_eq_true rfl) ⟨hw5, rfl, rfl, (tKeep.tr tKeep.rf kw5 rfl)⟩
  refine z_icmp_ge hC (pc := 6) 31 dX4_noteRead_6 (by decide) (fun c6 => ?_) (fun c6 => ?_)
  · refine z_lvs [] rfl ?_
    exact j31 w0 hw0 tKeep.rf
  · refine z_aload_n hC (pc := 9) 0 dX4_noteRead_9 rfl rfl ?_
    refine u_get hC hw0 (pc := 10) zf4 4 (hE.o4 h0) rfl dX4_noteRead_10 zw212 (kk := fun va7 ta7 fa7 => ?_)
    obtain ⟨a7, ma7, rfl⟩ := ta7
    refine z_aload_n hC (pc := 13) 0 dX4_noteRead_13 rfl rfl ?_
    refine u_getK hC (pc := 14) zf4 5 fx4 dX4_noteRead_14 zw214 (kk := ?_)
    refine z_iload_n hC (pc := 17) 1 dX4_noteRead_17 rfl rfl ?_
    refine t_callSNv hC hw0 (pc := 18) (As := [.ref a7, .int x4, .int x1]) (kX12_set l G T κ hst hE ma7) trivial dmX12_set dX4_noteRead_18 zw998 rfl rfl (Nat.le_of_ble_eq_true rfl) (Nat.le_of_ble_eq_true rfl) (Nat.le_of_ble_eq_true rfl) (Nat.le_of_ble_eq_true rfl) (Nat.le_of_ble_eq_true rfl) (fun _ _ _ h => nomatch h) (fun cw8 nw8 w8 hw8 pw8 => ?_)
    obtain ⟨rfl, rfl, kw8⟩ := pw8
    refine z_aload_n hC (pc := 21) 0 dX4_noteRead_21 rfl rfl ?_
    refine z_dup hC (pc := 22) dX4_noteRead_22 rfl ?_
    refine u_getK hC (pc := 23) zf4 5 (tKeep.F kw8 fx4 rfl) dX4_noteRead_23 zw214 (kk := ?_)
    refine z_iconst hC (pc := 26) (v := 1) dX4_noteRead_26 (by decide) ?_
    refine z_iadd hC (pc := 27) (v := (x4 + 1)) dX4_noteRead_27 rfl ?_
    refine u_put hC hw8 (pc := 28) zf4 5 (hE.o4 h0) rfl ⟨_, rfl⟩ dX4_noteRead_28 zw214 rfl rfl rfl (kk := fun w10 hw10 fw10 kw10 => ?_)
    refine z_lvs [] rfl ?_
    exact j31 w10 hw10 (tKeep.tr (tKeep.tr tKeep.rf kw8 rfl) kw10 rfl)
set_option maxRecDepth 20000 in
theorem kX7_openFile (l : Launch) (G : zG) (T : tT) (κ : Nat → List Nat) (hst : l.stackTraces = false) (hE : tE G T κ) {a0 : Nat} (h0 : a0 ∈ κ 7) {x1 : Int32} {a2 : Nat} (h2 : a2 ∈ κ 21) {x3 : Int32} : tMv l G T yX7_openFile cX7_openFile 4 [] 0 0 0 0 [.ref a0, .int x1, .ref a2, .int x3] uT (uPv 0x6730000000000000000000000000000000000000000000000000000000000000000000000000000000000000000000000000000000000000000) := by
  refine tMv.intro hst rfl (Nat.le_of_ble_eq_true rfl) ?_
  intro w0 hw0 _ X hC hR hO hX
  refine z_aload_n hC (pc := 0) 0 dX7_openFile_0 rfl rfl ?_
  refine z_iload_n hC (pc := 1) 1 dX7_openFile_1 rfl rfl ?_
  refine u_put hC hw0 (pc := 2) zf7 6 (hE.o7 h0) rfl ⟨_, rfl⟩ dX7_openFile_2 zw125 rfl rfl rfl (kk := fun w6 hw6 fw6 kw6 => ?_)
  refine z_aload_n hC (pc := 5) 0 dX7_openFile_5 rfl rfl ?_
  refine z_aload_n hC (pc := 6) 2 dX7_openFile_6 rfl rfl ?_
  refine u_put hC hw6 (pc := 7) zf7 0 (hE.o7 h0) rfl ⟨_, h2, rfl⟩ dX7_openFile_7 zw115 rfl rfl rfl (kk := fun w7 hw7 fw7 kw7 => ?_)
  refine z_aload_n hC (pc := 10) 0 dX7_openFile_10 rfl rfl ?_
  refine z_aload_n hC (pc := 11) 2 dX7_openFile_11 rfl rfl ?_
  refine u_put hC hw7 (pc := 12) zf7 9 (hE.o7 h0) rfl ⟨_, h2, rfl⟩ dX7_openFile_12 zw134 rfl rfl rfl (kk := fun w8 hw8 fw8 kw8 => ?_)
  refine z_aload_n hC (pc := 15) 0 dX7_openFile_15 rfl rfl ?_
  refine z_iload_n hC (pc := 16) 3 dX7_openFile_16 rfl rfl ?_
  refine u_put hC hw8 (pc := 17) zf7 10 (hE.o7 h0) rfl ⟨_, rfl⟩ dX7_openFile_17 zw135 rfl rfl rfl (kk := fun w9 hw9 fw9 kw9 => ?_)
  refine z_aload_n hC (pc := 20) 0 dX7_openFile_20 rfl rfl ?_
  refine z_iload_n hC (pc := 21) 3 dX7_openFile_21 rfl rfl ?_
  refine u_put hC hw9 (pc := 22) zf7 4 (hE.o7 h0) rfl ⟨_, rfl⟩ dX7_openFile_22 zw119 rfl rfl rfl (kk := fun w10 hw10 fw10 kw10 => ?_)
  refine z_aload_n hC (pc := 25) 0 dX7_openFile_25 rfl rfl ?_
  refine z_iconst hC (pc := 26) (v := 0) dX7_openFile_26 (by decide) ?_
  refine u_put hC hw10 (pc := 27) zf7 5 (hE.o7 h0) rfl ⟨_, rfl⟩ dX7_openFile_27 zw122 rfl rfl rfl (kk := fun w11 hw11 fw11 kw11 => ?_)
  refine z_aload_n hC (pc := 30) 0 dX7_openFile_30 rfl rfl ?_
  refine z_iconst hC (pc := 31) (v := 1) dX7_openFile_31 (by decide) ?_
  refine u_put hC hw11 (pc := 32) zf7 1 (hE.o7 h0) rfl (Or.inr rfl) dX7_openFile_32 zw116 rfl rfl rfl (kk := fun w12 hw12 fw12 kw12 => ?_)
  exact hR _ _ _ _ _ dX7_openFile_35 (Nat.le_of_ble_eq_true rfl) (Nat.le_of_ble_eq_true rfl) ⟨hw12, rfl, rfl, (tKeep.tr (tKeep.tr (tKeep.tr (tKeep.tr (tKeep.tr (tKeep.tr (tKeep.tr tKeep.rf kw6 rfl) kw7 rfl) kw8 rfl) kw9 rfl) kw10 rfl) kw11 rfl) kw12 rfl)⟩
set_option maxRecDepth 20000 in
theorem kX10_openFile (l : Launch) (G : zG) (T : tT) (κ : Nat → List Nat) (hst : l.stackTraces = false) (hE : tE G T κ) {a0 : Nat} (h0 : a0 ∈ κ 10) {a1 : Nat} (h1 : a1 ∈ κ 2) : tMv l G T yX10_openFile cX10_openFile 2 [] 0 0 0 0 [.ref a0, .ref a1] uT (uPv 0xe0000000000000000000000000000000000000000000000000000000000000000000000000000000000000000000000000000000000000000000000000000000000000000000000000000000000000000) := by
  refine tMv.intro hst rfl (Nat.le_of_ble_eq_true rfl) ?_
  intro w0 hw0 _ X hC hR hO hX
  refine z_aload_n hC (pc := 0) 0 dX10_openFile_0 rfl rfl ?_
  refine z_aload_n hC (pc := 1) 1 dX10_openFile_1 rfl rfl ?_
  refine u_put hC hw0 (pc := 2) zf10 1 (hE.o10 h0) rfl ⟨_, h1, rfl⟩ dX10_openFile_2 zw331 rfl rfl rfl (kk := fun w4 hw4 fw4 kw4 => ?_)
  refine z_aload_n hC (pc := 5) 0 dX10_openFile_5 rfl rfl ?_
  refine z_bipush hC (pc := 6) (v := 60) dX10_openFile_6 (by decide) ?_
  refine u_put hC hw4 (pc := 8) zf10 2 (hE.o10 h0) rfl ⟨_, rfl⟩ dX10_openFile_8 zw332 rfl rfl rfl (kk := fun w5 hw5 fw5 kw5 => ?_)
  refine z_aload_n hC (pc := 11) 0 dX10_openFile_11 rfl rfl ?_
  refine z_bipush hC (pc := 12) (v := 62) dX10_openFile_12 (by decide) ?_
  refine u_put hC hw5 (pc := 14) zf10 3 (hE.o10 h0) rfl ⟨_, rfl⟩ dX10_openFile_14 zw334 rfl rfl rfl (kk := fun w6 hw6 fw6 kw6 => ?_)
  exact hR _ _ _ _ _ dX10_openFile_17 (Nat.le_of_ble_eq_true rfl) (Nat.le_of_ble_eq_true rfl) ⟨hw6, rfl, rfl, (tKeep.tr (tKeep.tr (tKeep.tr tKeep.rf kw4 rfl) kw5 rfl) kw6 rfl)⟩
set_option maxRecDepth 20000 in
theorem kX7_past (l : Launch) (G : zG) (T : tT) (κ : Nat → List Nat) (hst : l.stackTraces = false) (hE : tE G T κ) {a0 : Nat} (h0 : a0 ∈ κ 7) {x1 : Int32} : tMi l G T yX7_past cX7_past 6 .int [] 0 0 0 0 [.ref a0, .int x1] uT (uPi 0x0) := by
  refine tMi.intro hst rfl (Nat.le_of_ble_eq_true rfl) ?_
  intro w0 hw0 _ X hC hR hO hX
  refine z_iload_n hC (pc := 0) 1 dX7_past_0 rfl rfl ?_
  refine z_istore_n hC (pc := 1) (lv' := [(2, .int x1), (0, .ref a0), (1, .int x1)]) dX7_past_1 rfl (by decide) rfl ?_
  refine z_iconst hC (pc := 2) (v := 0) dX7_past_2 (by decide) ?_
  refine z_istore_n hC (pc := 3) (lv' := [(3, .int 0), (2, .int x1), (0, .ref a0), (1, .int x1)]) dX7_past_3 rfl (by decide) rfl ?_
  have j4 : ∀ (d4 : Nat), ∀ (x4 : Int32), ∀ (x5 : Int32), ¬ x5 < 0 → (2 ^ 31 - (x5 : Int32).toInt).toNat ≤ d4 → zS X G 6 w0 [(0, .ref a0), (2, .int x4), (3, .int x5)] 0 0 4 [] := by
    intro d4
    induction d4 with
    | zero => intro x4 x5 v6 hd4; exact (t_zero hd4).elim
    | succ d4 ih4 =>
      intro x4 x5 v6 hd4
      refine z_iload_n hC (pc := 4) 2 dX7_past_4 rfl rfl ?_
      refine z_sipush hC (pc := 5) (v := 4000) dX7_past_5 (by decide) ?_
      have j244 : zS X G 6 w0 [(0, .ref a0)] 0 0 244 [] := by
        refine z_aload_n hC (pc := 244) 0 dX7_past_244 rfl rfl ?_
        refine u_get hC hw0 (pc := 245) zf7 4 (hE.o7 h0) rfl dX7_past_245 zw119 (kk := fun vx7 tx7 fx7 => ?_)
        obtain ⟨x7, rfl⟩ := tx7
        exact hR _ _ _ _ _ _ dX7_past_248 rfl (Nat.le_of_ble_eq_true rfl) (Nat.le_of_ble_eq_true rfl) ⟨hw0, rfl, rfl, tKeep.rf⟩
      refine z_icmp_gt hC (pc := 8) 244 dX7_past_8 (by decide) (fun c8 => ?_) (fun c8 => ?_)
      · refine z_lvs [0] rfl ?_
        exact j244
      · refine z_iload_n hC (pc := 11) 1 dX7_past_11 rfl rfl ?_
        refine z_if_lt hC (pc := 12) 244 dX7_past_12 (by decide) (fun c9 => ?_) (fun c9 => ?_)
        · refine z_lvs [0] rfl ?_
          exact j244
        · refine z_iload_n hC (pc := 15) 1 dX7_past_15 rfl rfl ?_
          refine z_aload_n hC (pc := 16) 0 dX7_past_16 rfl rfl ?_
          refine u_get hC hw0 (pc := 17) zf7 4 (hE.o7 h0) rfl dX7_past_17 zw119 (kk := fun vx10 tx10 fx10 => ?_)
          obtain ⟨x10, rfl⟩ := tx10
          refine z_icmp_ge hC (pc := 20) 244 dX7_past_20 (by decide) (fun c11 => ?_) (fun c11 => ?_)
          · refine z_lvs [0] rfl ?_
            exact j244
          · refine z_iload_n hC (pc := 23) 1 dX7_past_23 rfl rfl ?_
            refine z_aload_n hC (pc := 24) 0 dX7_past_24 rfl rfl ?_
            refine u_get hC hw0 (pc := 25) zf7 0 (hE.o7 h0) rfl dX7_past_25 zw115 (kk := fun va12 ta12 fa12 => ?_)
            obtain ⟨a12, ma12, rfl⟩ := ta12
            obtain ⟨N13, gN13, AN13⟩ := hE.byts ma12
            have hN13 : N13 < 2 ^ 31 := Nat.lt_trans gN13 (by decide)
            refine u_alenB hC hw0 (pc := 28) (Or.inl AN13) dX7_past_28 ?_
            refine z_icmp_ge hC (pc := 29) 244 dX7_past_29 (by decide) (fun c14 => ?_) (fun c14 => ?_)
            · refine z_lvs [0] rfl ?_
              exact j244
            · refine z_aload_n hC (pc := 32) 0 dX7_past_32 rfl rfl ?_
              refine u_getK hC (pc := 33) zf7 0 fa12 dX7_past_33 zw115 (kk := ?_)
              refine z_iload_n hC (pc := 36) 1 dX7_past_36 rfl rfl ?_
              refine u_bald hC hw0 (pc := 37) (Or.inl AN13) dX7_past_37 (t_inB hN13 c9 c14) (fun x15 => ?_)
              refine z_istore hC (pc := 38) (lv' := [(4, .int x15), (0, .ref a0), (2, .int x4), (3, .int x5)]) dX7_past_38 (by decide) rfl ?_
              refine z_iload_n hC (pc := 40) 2 dX7_past_40 rfl rfl ?_
              refine z_iconst hC (pc := 41) (v := 1) dX7_past_41 (by decide) ?_
              refine z_iadd hC (pc := 42) (v := (x4 + 1)) dX7_past_42 rfl ?_
              refine z_aload_n hC (pc := 43) 1 dX7_past_43 rfl rfl ?_
              refine u_getK hC (pc := 44) zf7 4 fx10 dX7_past_44 zw119 (kk := ?_)
              refine z_icmp_ge hC (pc := 47) 72 dX7_past_47 (by decide) (fun c16 => ?_) (fun c16 => ?_)
              · refine z_iconst hC (pc := 72) (v := (-1)) dX7_past_72 (by decide) ?_
                refine z_istore hC (pc := 73) (lv' := [(5, .int (-1)), (4, .int x15), (0, .ref a0), (2, .int x4), (3, .int x5)]) dX7_past_73 (by decide) rfl ?_
                refine z_iload hC (pc := 75) 1 dX7_past_75 rfl ?_
                refine z_bipush hC (pc := 77) (v := 47) dX7_past_77 (by decide) ?_
                have j238 : ∀ (x17 : Int32), zS X G 6 w0 [(0, .ref a0), (2, .int x17), (3, .int x5)] 0 0 238 [] := by
                  intro x17
                  refine z_iinc hC (pc := 238) (v := (x5 + 1)) (lv' := [(3, .int (x5 + 1)), (0, .ref a0), (2, .int x17)]) 2 dX7_past_238 rfl (congrArg _ (by decide)) (by decide) rfl ?_
                  refine z_goto hC (pc := 241) 4 dX7_past_241 (by decide) ?_
                  refine z_lvs [1, 2, 0] rfl ?_
                  exact ih4 x17 (x5 + 1) (t_nnI v6 (t_lec (Int32.not_lt.mp c8) (by decide))) (t_up (t_lec (Int32.not_lt.mp c8) (by decide)) hd4)
                have j123 : zS X G 6 w0 [(0, .ref a0), (2, .int x4), (3, .int x5), (4, .int x15), (5, .int (-1))] 0 0 123 [] := by
                  refine z_iload hC (pc := 123) 3 dX7_past_123 rfl ?_
                  refine z_bipush hC (pc := 125) (v := 47) dX7_past_125 (by decide) ?_
                  have j209 : zS X G 6 w0 [(0, .ref a0), (2, .int x4), (3, .int x5), (4, .int x15)] 0 0 209 [] := by
                    refine z_iload hC (pc := 209) 3 dX7_past_209 rfl ?_
                    refine z_bipush hC (pc := 211) (v := 10) dX7_past_211 (by decide) ?_
                    have j230 : zS X G 6 w0 [(0, .ref a0), (2, .int x4), (3, .int x5)] 0 0 230 [] := by
                      refine z_iinc hC (pc := 230) (v := (x4 + 1)) (lv' := [(2, .int (x4 + 1)), (0, .ref a0), (3, .int x5)]) 1 dX7_past_230 rfl (congrArg _ (by decide)) (by decide) rfl ?_
                      refine z_goto hC (pc := 233) 238 dX7_past_233 (by decide) ?_
                      refine z_lvs [1, 0, 2] rfl ?_
                      exact j238 (x4 + 1)
                    refine z_icmp_eq hC (pc := 213) 230 dX7_past_213 (by decide) (fun c18 => ?_) (fun c18 => ?_)
                    · refine z_lvs [0, 1, 2] rfl ?_
                      exact j230
                    · refine z_iload hC (pc := 216) 3 dX7_past_216 rfl ?_
                      refine z_bipush hC (pc := 218) (v := 32) dX7_past_218 (by decide) ?_
                      refine z_icmp_eq hC (pc := 220) 230 dX7_past_220 (by decide) (fun c19 => ?_) (fun c19 => ?_)
                      · refine z_lvs [0, 1, 2] rfl ?_
                        exact j230
                      · refine z_iload hC (pc := 223) 3 dX7_past_223 rfl ?_
                        refine z_bipush hC (pc := 225) (v := 9) dX7_past_225 (by decide) ?_
                        refine z_icmp_ne hC (pc := 227) 236 dX7_past_227 (by decide) (fun c20 => ?_) (fun c20 => ?_)
                        · refine z_iload_n hC (pc := 236) 1 dX7_past_236 rfl rfl ?_
                          exact hR _ _ _ _ _ _ dX7_past_237 rfl (Nat.le_of_ble_eq_true rfl) (Nat.le_of_ble_eq_true rfl) ⟨hw0, rfl, rfl, tKeep.rf⟩
                        · refine z_lvs [0, 1, 2] rfl ?_
                          exact j230
                  refine z_icmp_ne hC (pc := 127) 209 dX7_past_127 (by decide) (fun c21 => ?_) (fun c21 => ?_)
                  · refine z_lvs [0, 1, 2, 3] rfl ?_
                    exact j209
                  · refine z_iload hC (pc := 130) 4 dX7_past_130 rfl ?_
                    refine z_bipush hC (pc := 132) (v := 42) dX7_past_132 (by decide) ?_
                    refine z_icmp_neT hC (pc := 134) 209 dX7_past_134 (by decide) (by decide) ?_
                    refine z_lvs [0, 1, 2, 3] rfl ?_
                    exact j209
                refine z_icmp_ne hC (pc := 79) 123 dX7_past_79 (by decide) (fun c22 => ?_) (fun c22 => ?_)
                · refine z_lvs [2, 3, 4, 1, 0] rfl ?_
                  exact j123
                · refine z_iload hC (pc := 82) 0 dX7_past_82 rfl ?_
                  refine z_bipush hC (pc := 84) (v := 47) dX7_past_84 (by decide) ?_
                  have j89 : ∀ (d89 : Nat), ∀ (x23 : Int32), ¬ x23 < 0 → (2 ^ 31 - (x23 : Int32).toInt).toNat ≤ d89 → zS X G 6 w0 [(0, .ref a0), (2, .int x23), (3, .int x5)] 0 0 89 [] := by
                    intro d89
                    induction d89 with
                    | zero => intro x23 v24 hd89; exact (t_zero hd89).elim
                    | succ d89 ih89 =>
                      intro x23 v24 hd89
                      refine z_iload_n hC (pc := 89) 1 dX7_past_89 rfl rfl ?_
                      refine z_aload_n hC (pc := 90) 0 dX7_past_90 rfl rfl ?_
                      refine u_getK hC (pc := 91) zf7 4 fx10 dX7_past_91 zw119 (kk := ?_)
                      refine z_icmp_ge hC (pc := 94) 238 dX7_past_94 (by decide) (fun c25 => ?_) (fun c25 => ?_)
                      · exact j238 x23
                      · refine z_iload_n hC (pc := 97) 1 dX7_past_97 rfl rfl ?_
                        refine z_aload_n hC (pc := 98) 0 dX7_past_98 rfl rfl ?_
                        refine u_getK hC (pc := 99) zf7 0 fa12 dX7_past_99 zw115 (kk := ?_)
                        refine u_alenB hC hw0 (pc := 102) (Or.inl AN13) dX7_past_102 ?_
                        refine z_icmp_ge hC (pc := 103) 238 dX7_past_103 (by decide) (fun c26 => ?_) (fun c26 => ?_)
                        · exact j238 x23
                        · refine z_aload_n hC (pc := 106) 0 dX7_past_106 rfl rfl ?_
                          refine u_getK hC (pc := 107) zf7 0 fa12 dX7_past_107 zw115 (kk := ?_)
                          refine z_iload_n hC (pc := 110) 1 dX7_past_110 rfl rfl ?_
                          refine u_bald hC hw0 (pc := 111) (Or.inl AN13) dX7_past_111 (t_inB hN13 v24 c26) (fun x27 => ?_)
                          refine z_bipush hC (pc := 112) (v := 10) dX7_past_112 (by decide) ?_
                          refine z_icmp_eq hC (pc := 114) 238 dX7_past_114 (by decide) (fun c28 => ?_) (fun c28 => ?_)
                          · exact j238 x23
                          · refine z_iinc hC (pc := 117) (v := (x23 + 1)) (lv' := [(2, .int (x23 + 1)), (0, .ref a0), (3, .int x5)]) 1 dX7_past_117 rfl (congrArg _ (by decide)) (by decide) rfl ?_
                            refine z_goto hC (pc := 120) 89 dX7_past_120 (by decide) ?_
                            refine z_lvs [1, 0, 2] rfl ?_
                            exact ih89 (x23 + 1) (t_nnI v24 (Int32.not_le.mp c26)) (t_up (Int32.not_le.mp c26) hd89)
                  refine z_icmp_neT hC (pc := 86) 123 dX7_past_86 (by decide) (by decide) ?_
                  refine z_lvs [2, 3, 4, 1, 0] rfl ?_
                  exact j123
              · refine z_iload_n hC (pc := 50) 2 dX7_past_50 rfl rfl ?_
                refine z_iconst hC (pc := 51) (v := 1) dX7_past_51 (by decide) ?_
                refine z_iadd hC (pc := 52) (v := (x4 + 1)) dX7_past_52 rfl ?_
                refine z_aload_n hC (pc := 53) 1 dX7_past_53 rfl rfl ?_
                refine u_getK hC (pc := 54) zf7 0 fa12 dX7_past_54 zw115 (kk := ?_)
                refine u_alenB hC hw0 (pc := 57) (Or.inl AN13) dX7_past_57 ?_
                refine z_icmp_ge hC (pc := 58) 72 dX7_past_58 (by decide) (fun c29 => ?_) (fun c29 => ?_)
                · refine z_iconst hC (pc := 72) (v := (-1)) dX7_past_72 (by decide) ?_
                  refine z_istore hC (pc := 73) (lv' := [(5, .int (-1)), (4, .int x15), (0, .ref a0), (2, .int x4), (3, .int x5)]) dX7_past_73 (by decide) rfl ?_
                  refine z_iload hC (pc := 75) 1 dX7_past_75 rfl ?_
                  refine z_bipush hC (pc := 77) (v := 47) dX7_past_77 (by decide) ?_
                  have j238 : ∀ (x30 : Int32), zS X G 6 w0 [(0, .ref a0), (2, .int x30), (3, .int x5)] 0 0 238 [] := by
                    intro x30
                    refine z_iinc hC (pc := 238) (v := (x5 + 1)) (lv' := [(3, .int (x5 + 1)), (0, .ref a0), (2, .int x30)]) 2 dX7_past_238 rfl (congrArg _ (by decide)) (by decide) rfl ?_
                    refine z_goto hC (pc := 241) 4 dX7_past_241 (by decide) ?_
                    refine z_lvs [1, 2, 0] rfl ?_
                    exact ih4 x30 (x5 + 1) (t_nnI v6 (t_lec (Int32.not_lt.mp c8) (by decide))) (t_up (t_lec (Int32.not_lt.mp c8) (by decide)) hd4)
                  have j123 : zS X G 6 w0 [(0, .ref a0), (2, .int x4), (3, .int x5), (4, .int x15), (5, .int (-1))] 0 0 123 [] := by
                    refine z_iload hC (pc := 123) 3 dX7_past_123 rfl ?_
                    refine z_bipush hC (pc := 125) (v := 47) dX7_past_125 (by decide) ?_
                    have j209 : zS X G 6 w0 [(0, .ref a0), (2, .int x4), (3, .int x5), (4, .int x15)] 0 0 209 [] := by
                      refine z_iload hC (pc := 209) 3 dX7_past_209 rfl ?_
                      refine z_bipush hC (pc := 211) (v := 10) dX7_past_211 (by decide) ?_
                      have j230 : zS X G 6 w0 [(0, .ref a0), (2, .int x4), (3, .int x5)] 0 0 230 [] := by
                        refine z_iinc hC (pc := 230) (v := (x4 + 1)) (lv' := [(2, .int (x4 + 1)), (0, .ref a0), (3, .int x5)]) 1 dX7_past_230 rfl (congrArg _ (by decide)) (by decide) rfl ?_
                        refine z_goto hC (pc := 233) 238 dX7_past_233 (by decide) ?_
                        refine z_lvs [1, 0, 2] rfl ?_
                        exact j238 (x4 + 1)
                      refine z_icmp_eq hC (pc := 213) 230 dX7_past_213 (by decide) (fun c31 => ?_) (fun c31 => ?_)
                      · refine z_lvs [0, 1, 2] rfl ?_
                        exact j230
                      · refine z_iload hC (pc := 216) 3 dX7_past_216 rfl ?_
                        refine z_bipush hC (pc := 218) (v := 32) dX7_past_218 (by decide) ?_
                        refine z_icmp_eq hC (pc := 220) 230 dX7_past_220 (by decide) (fun c32 => ?_) (fun c32 => ?_)
                        · refine z_lvs [0, 1, 2] rfl ?_
                          exact j230
                        · refine z_iload hC (pc := 223) 3 dX7_past_223 rfl ?_
                          refine z_bipush hC (pc := 225) (v := 9) dX7_past_225 (by decide) ?_
                          refine z_icmp_ne hC (pc := 227) 236 dX7_past_227 (by decide) (fun c33 => ?_) (fun c33 => ?_)
                          · refine z_iload_n hC (pc := 236) 1 dX7_past_236 rfl rfl ?_
                            exact hR _ _ _ _ _ _ dX7_past_237 rfl (Nat.le_of_ble_eq_true rfl) (Nat.le_of_ble_eq_true rfl) ⟨hw0, rfl, rfl, tKeep.rf⟩
                          · refine z_lvs [0, 1, 2] rfl ?_
                            exact j230
                    refine z_icmp_ne hC (pc := 127) 209 dX7_past_127 (by decide) (fun c34 => ?_) (fun c34 => ?_)
                    · refine z_lvs [0, 1, 2, 3] rfl ?_
                      exact j209
                    · refine z_iload hC (pc := 130) 4 dX7_past_130 rfl ?_
                      refine z_bipush hC (pc := 132) (v := 42) dX7_past_132 (by decide) ?_
                      refine z_icmp_neT hC (pc := 134) 209 dX7_past_134 (by decide) (by decide) ?_
                      refine z_lvs [0, 1, 2, 3] rfl ?_
                      exact j209
                  refine z_icmp_ne hC (pc := 79) 123 dX7_past_79 (by decide) (fun c35 => ?_) (fun c35 => ?_)
                  · refine z_lvs [2, 3, 4, 1, 0] rfl ?_
                    exact j123
                  · refine z_iload hC (pc := 82) 0 dX7_past_82 rfl ?_
                    refine z_bipush hC (pc := 84) (v := 47) dX7_past_84 (by decide) ?_
                    have j89 : ∀ (d89 : Nat), ∀ (x36 : Int32), ¬ x36 < 0 → (2 ^ 31 - (x36 : Int32).toInt).toNat ≤ d89 → zS X G 6 w0 [(0, .ref a0), (2, .int x36), (3, .int x5)] 0 0 89 [] := by
                      intro d89
                      induction d89 with
                      | zero => intro x36 v37 hd89; exact (t_zero hd89).elim
                      | succ d89 ih89 =>
                        intro x36 v37 hd89
                        refine z_iload_n hC (pc := 89) 1 dX7_past_89 rfl rfl ?_
                        refine z_aload_n hC (pc := 90) 0 dX7_past_90 rfl rfl ?_
                        refine u_getK hC (pc := 91) zf7 4 fx10 dX7_past_91 zw119 (kk := ?_)
                        refine z_icmp_ge hC (pc := 94) 238 dX7_past_94 (by decide) (fun c38 => ?_) (fun c38 => ?_)
                        · exact j238 x36
                        · refine z_iload_n hC (pc := 97) 1 dX7_past_97 rfl rfl ?_
                          refine z_aload_n hC (pc := 98) 0 dX7_past_98 rfl rfl ?_
                          refine u_getK hC (pc := 99) zf7 0 fa12 dX7_past_99 zw115 (kk := ?_)
                          refine u_alenB hC hw0 (pc := 102) (Or.inl AN13) dX7_past_102 ?_
                          refine z_icmp_ge hC (pc := 103) 238 dX7_past_103 (by decide) (fun c39 => ?_) (fun c39 => ?_)
                          · exact j238 x36
                          · refine z_aload_n hC (pc := 106) 0 dX7_past_106 rfl rfl ?_
                            refine u_getK hC (pc := 107) zf7 0 fa12 dX7_past_107 zw115 (kk := ?_)
                            refine z_iload_n hC (pc := 110) 1 dX7_past_110 rfl rfl ?_
                            refine u_bald hC hw0 (pc := 111) (Or.inl AN13) dX7_past_111 (t_inB hN13 v37 c39) (fun x40 => ?_)
                            refine z_bipush hC (pc := 112) (v := 10) dX7_past_112 (by decide) ?_
                            refine z_icmp_eq hC (pc := 114) 238 dX7_past_114 (by decide) (fun c41 => ?_) (fun c41 => ?_)
                            · exact j238 x36
                            · refine z_iinc hC (pc := 117) (v := (x36 + 1)) (lv' := [(2, .int (x36 + 1)), (0, .ref a0), (3, .int x5)]) 1 dX7_past_117 rfl (congrArg _ (by decide)) (by decide) rfl ?_
                              refine z_goto hC (pc := 120) 89 dX7_past_120 (by decide) ?_
                              refine z_lvs [1, 0, 2] rfl ?_
                              exact ih89 (x36 + 1) (t_nnI v37 (Int32.not_le.mp c39)) (t_up (Int32.not_le.mp c39) hd89)
                    refine z_icmp_neT hC (pc := 86) 123 dX7_past_86 (by decide) (by decide) ?_
                    refine z_lvs [2, 3, 4, 1, 0] rfl ?_
                    exact j123
                · refine z_aload_n hC (pc := 61) 1 dX7_past_61 rfl rfl ?_
                  refine u_getK hC (pc := 62) zf7 0 fa12 dX7_past_62 zw115 (kk := ?_)
                  refine z_iload_n hC (pc := 65) 2 dX7_past_65 rfl rfl ?_
                  refine z_iconst hC (pc := 66) (v := 1) dX7_past_66 (by decide) ?_
                  refine z_iadd hC (pc := 67) (v := (x4 + 1)) dX7_past_67 rfl ?_
                  refine u_bald hC hw0 (pc := 68) (Or.inl AN13) dX7_past_68 (by have o1 := Int32.le_toInt x4; have o2 := Int32.toInt_lt x4; have o3 : (0 : Int32).toInt = 0 := (by decide); have o4 := t_fnl c9; have o5 := Int32.le_toInt x10; have o6 := Int32.toInt_lt x10; have o7 := t_fne c11; have o8 : (Int32.ofNat N13).toInt = N13 := nI_toInt hN13; have o9 := hN13; have o10 := t_fne c14; have o11 : (1 : Int32).toInt = 1 := (by decide); have o12 := t_addO x4 1; have o13 := t_fne c16; have o14 := t_fne c29; rw [vp_in_iff]; omega) (fun x42 => ?_)
                  refine z_goto hC (pc := 69) 73 dX7_past_69 (by decide) ?_
                  refine z_istore hC (pc := 73) (lv' := [(5, .int x42), (4, .int x15), (0, .ref a0), (2, .int x4), (3, .int x5)]) dX7_past_73 (by decide) rfl ?_
                  refine z_iload hC (pc := 75) 1 dX7_past_75 rfl ?_
                  refine z_bipush hC (pc := 77) (v := 47) dX7_past_77 (by decide) ?_
                  have j238 : ∀ (x43 : Int32), zS X G 6 w0 [(0, .ref a0), (2, .int x43), (3, .int x5)] 0 0 238 [] := by
                    intro x43
                    refine z_iinc hC (pc := 238) (v := (x5 + 1)) (lv' := [(3, .int (x5 + 1)), (0, .ref a0), (2, .int x43)]) 2 dX7_past_238 rfl (congrArg _ (by decide)) (by decide) rfl ?_
                    refine z_goto hC (pc := 241) 4 dX7_past_241 (by decide) ?_
                    refine z_lvs [1, 2, 0] rfl ?_
                    exact ih4 x43 (x5 + 1) (t_nnI v6 (t_lec (Int32.not_lt.mp c8) (by decide))) (t_up (t_lec (Int32.not_lt.mp c8) (by decide)) hd4)
                  have j123 : zS X G 6 w0 [(0, .ref a0), (2, .int x4), (3, .int x5), (4, .int x15), (5, .int x42)] 0 0 123 [] := by
                    refine z_iload hC (pc := 123) 3 dX7_past_123 rfl ?_
                    refine z_bipush hC (pc := 125) (v := 47) dX7_past_125 (by decide) ?_
                    have j209 : zS X G 6 w0 [(0, .ref a0), (2, .int x4), (3, .int x5), (4, .int x15)] 0 0 209 [] := by
                      refine z_iload hC (pc := 209) 3 dX7_past_209 rfl ?_
                      refine z_bipush hC (pc := 211) (v := 10) dX7_past_211 (by decide) ?_
                      have j230 : zS X G 6 w0 [(0, .ref a0), (2, .int x4), (3, .int x5)] 0 0 230 [] := by
                        refine z_iinc hC (pc := 230) (v := (x4 + 1)) (lv' := [(2, .int (x4 + 1)), (0, .ref a0), (3, .int x5)]) 1 dX7_past_230 rfl (congrArg _ (by decide)) (by decide) rfl ?_
                        refine z_goto hC (pc := 233) 238 dX7_past_233 (by decide) ?_
                        refine z_lvs [1, 0, 2] rfl ?_
                        exact j238 (x4 + 1)
                      refine z_icmp_eq hC (pc := 213) 230 dX7_past_213 (by decide) (fun c44 => ?_) (fun c44 => ?_)
                      · refine z_lvs [0, 1, 2] rfl ?_
                        exact j230
                      · refine z_iload hC (pc := 216) 3 dX7_past_216 rfl ?_
                        refine z_bipush hC (pc := 218) (v := 32) dX7_past_218 (by decide) ?_
                        refine z_icmp_eq hC (pc := 220) 230 dX7_past_220 (by decide) (fun c45 => ?_) (fun c45 => ?_)
                        · refine z_lvs [0, 1, 2] rfl ?_
                          exact j230
                        · refine z_iload hC (pc := 223) 3 dX7_past_223 rfl ?_
                          refine z_bipush hC (pc := 225) (v := 9) dX7_past_225 (by decide) ?_
                          refine z_icmp_ne hC (pc := 227) 236 dX7_past_227 (by decide) (fun c46 => ?_) (fun c46 => ?_)
                          · refine z_iload_n hC (pc := 236) 1 dX7_past_236 rfl rfl ?_
                            exact hR _ _ _ _ _ _ dX7_past_237 rfl (Nat.le_of_ble_eq_true rfl) (Nat.le_of_ble_eq_true rfl) ⟨hw0, rfl, rfl, tKeep.rf⟩
                          · refine z_lvs [0, 1, 2] rfl ?_
                            exact j230
                    refine z_icmp_ne hC (pc := 127) 209 dX7_past_127 (by decide) (fun c47 => ?_) (fun c47 => ?_)
                    · refine z_lvs [0, 1, 2, 3] rfl ?_
                      exact j209
                    · refine z_iload hC (pc := 130) 4 dX7_past_130 rfl ?_
                      refine z_bipush hC (pc := 132) (v := 42) dX7_past_132 (by decide) ?_
                      refine z_icmp_ne hC (pc := 134) 209 dX7_past_134 (by decide) (fun c48 => ?_) (fun c48 => ?_)
                      · refine z_lvs [0, 1, 2, 3] rfl ?_
                        exact j209
                      · refine z_iinc hC (pc := 137) (v := (x4 + 2)) (lv' := [(2, .int (x4 + 2)), (0, .ref a0), (3, .int x5), (4, .int x15), (5, .int x42)]) 1 dX7_past_137 rfl (congrArg _ (by decide)) (by decide) rfl ?_
                        have j140 : ∀ (d140 : Nat), ∀ (x49 : Int32), ¬ x49 < 0 → x49 < 2000000 → (2 ^ 31 - (x49 : Int32).toInt).toNat ≤ d140 → zS X G 6 w0 [(0, .ref a0), (2, .int x49), (3, .int x5)] 0 0 140 [] := by
                          intro d140
                          induction d140 with
                          | zero => intro x49 v50 v51 hd140; exact (t_zero hd140).elim
                          | succ d140 ih140 =>
                            intro x49 v50 v51 hd140
                            refine z_iload_n hC (pc := 140) 1 dX7_past_140 rfl rfl ?_
                            refine z_iconst hC (pc := 141) (v := 1) dX7_past_141 (by decide) ?_
                            refine z_iadd hC (pc := 142) (v := (x49 + 1)) dX7_past_142 rfl ?_
                            refine z_aload_n hC (pc := 143) 0 dX7_past_143 rfl rfl ?_
                            refine u_getK hC (pc := 144) zf7 4 fx10 dX7_past_144 zw119 (kk := ?_)
                            have j191 : zS X G 6 w0 [(0, .ref a0), (2, .int x49), (3, .int x5)] 0 0 191 [] := by
                              refine z_iload_n hC (pc := 191) 1 dX7_past_191 rfl rfl ?_
                              refine z_iconst hC (pc := 192) (v := 1) dX7_past_192 (by decide) ?_
                              refine z_iadd hC (pc := 193) (v := (x49 + 1)) dX7_past_193 rfl ?_
                              refine z_aload_n hC (pc := 194) 0 dX7_past_194 rfl rfl ?_
                              refine u_getK hC (pc := 195) zf7 4 fx10 dX7_past_195 zw119 (kk := ?_)
                              refine z_icmp_lt hC (pc := 198) 203 dX7_past_198 (by decide) (fun c52 => ?_) (fun c52 => ?_)
                              · refine z_iinc hC (pc := 203) (v := (x49 + 2)) (lv' := [(2, .int (x49 + 2)), (0, .ref a0), (3, .int x5)]) 1 dX7_past_203 rfl (congrArg _ (by decide)) (by decide) rfl ?_
                                refine z_goto hC (pc := 206) 238 dX7_past_206 (by decide) ?_
                                refine z_lvs [1, 0, 2] rfl ?_
                                exact j238 (x49 + 2)
                              · refine z_iconst hC (pc := 201) (v := (-1)) dX7_past_201 (by decide) ?_
                                exact hR _ _ _ _ _ _ dX7_past_202 rfl (Nat.le_of_ble_eq_true rfl) (Nat.le_of_ble_eq_true rfl) ⟨hw0, rfl, rfl, tKeep.rf⟩
                            refine z_icmp_ge hC (pc := 147) 191 dX7_past_147 (by decide) (fun c53 => ?_) (fun c53 => ?_)
                            · exact j191
                            · refine z_iload_n hC (pc := 150) 1 dX7_past_150 rfl rfl ?_
                              refine z_iconst hC (pc := 151) (v := 1) dX7_past_151 (by decide) ?_
                              refine z_iadd hC (pc := 152) (v := (x49 + 1)) dX7_past_152 rfl ?_
                              refine z_aload_n hC (pc := 153) 0 dX7_past_153 rfl rfl ?_
                              refine u_getK hC (pc := 154) zf7 0 fa12 dX7_past_154 zw115 (kk := ?_)
                              refine u_alenB hC hw0 (pc := 157) (Or.inl AN13) dX7_past_157 ?_
                              refine z_icmp_ge hC (pc := 158) 191 dX7_past_158 (by decide) (fun c54 => ?_) (fun c54 => ?_)
                              · exact j191
                              · refine z_aload_n hC (pc := 161) 0 dX7_past_161 rfl rfl ?_
                                refine u_getK hC (pc := 162) zf7 0 fa12 dX7_past_162 zw115 (kk := ?_)
                                refine z_iload_n hC (pc := 165) 1 dX7_past_165 rfl rfl ?_
                                refine u_bald hC hw0 (pc := 166) (Or.inl AN13) dX7_past_166 (by have o1 := Int32.le_toInt x4; have o2 := Int32.toInt_lt x4; have o3 : (0 : Int32).toInt = 0 := (by decide); have o4 := t_fnl c9; have o5 := Int32.le_toInt x10; have o6 := Int32.toInt_lt x10; have o7 := t_fne c11; have o8 : (Int32.ofNat N13).toInt = N13 := nI_toInt hN13; have o9 := hN13; have o10 := t_fne c14; have o11 : (1 : Int32).toInt = 1 := (by decide); have o12 := t_addO x4 1; have o13 := t_fne c16; have o14 := t_fne c29; have o15 := Int32.le_toInt x49; have o16 := Int32.toInt_lt x49; have o17 := t_fnl v50; have o18 : (2000000 : Int32).toInt = 2000000 := (by decide); have o19 := t_fl v51; have o20 := t_addO x49 1; have o21 := t_fne c53; have o22 := t_fne c54; rw [vp_in_iff]; omega) (fun x55 => ?_)
                                refine z_bipush hC (pc := 167) (v := 42) dX7_past_167 (by decide) ?_
                                have j185 : zS X G 6 w0 [(0, .ref a0), (2, .int x49), (3, .int x5)] 0 0 185 [] := by
                                  refine z_iinc hC (pc := 185) (v := (x49 + 1)) (lv' := [(2, .int (x49 + 1)), (0, .ref a0), (3, .int x5)]) 1 dX7_past_185 rfl (congrArg _ (by decide)) (by decide) rfl ?_
                                  refine z_goto hC (pc := 188) 140 dX7_past_188 (by decide) ?_
                                  refine z_lvs [1, 0, 2] rfl ?_
                                  exact ih140 (x49 + 1) (t_nnI v50 v51) (t_ltI (by have o1 := Int32.le_toInt x4; have o2 := Int32.toInt_lt x4; have o3 : (0 : Int32).toInt = 0 := (by decide); have o4 := t_fnl c9; have o5 := Int32.le_toInt x10; have o6 := Int32.toInt_lt x10; have o7 := t_fne c11; have o8 : (Int32.ofNat N13).toInt = N13 := nI_toInt hN13; have o9 := hN13; have o10 := t_fne c14; have o11 : (1 : Int32).toInt = 1 := (by decide); have o12 := t_addO x4 1; have o13 := t_fne c16; have o14 := t_fne c29; have o15 := Int32.le_toInt x49; have o16 := Int32.toInt_lt x49; have o17 := t_fnl v50; have o18 : (2000000 : Int32).toInt = 2000000 := (by decide); have o19 := t_fl v51; have o20 := t_addO x49 1; have o21 := t_fne c53; have o22 := t_fne c54; omega)) (t_up v51 hd140)
                                refine z_icmp_ne hC (pc := 169) 185 dX7_past_169 (by decide) (fun c56 => ?_) (fun c56 => ?_)
                                · exact j185
                                · refine z_aload_n hC (pc := 172) 0 dX7_past_172 rfl rfl ?_
                                  refine u_getK hC (pc := 173) zf7 0 fa12 dX7_past_173 zw115 (kk := ?_)
                                  refine z_iload_n hC (pc := 176) 1 dX7_past_176 rfl rfl ?_
                                  refine z_iconst hC (pc := 177) (v := 1) dX7_past_177 (by decide) ?_
                                  refine z_iadd hC (pc := 178) (v := (x49 + 1)) dX7_past_178 rfl ?_
                                  refine u_bald hC hw0 (pc := 179) (Or.inl AN13) dX7_past_179 (by have o1 := Int32.le_toInt x4; have o2 := Int32.toInt_lt x4; have o3 : (0 : Int32).toInt = 0 := (by decide); have o4 := t_fnl c9; have o5 := Int32.le_toInt x10; have o6 := Int32.toInt_lt x10; have o7 := t_fne c11; have o8 : (Int32.ofNat N13).toInt = N13 := nI_toInt hN13; have o9 := hN13; have o10 := t_fne c14; have o11 : (1 : Int32).toInt = 1 := (by decide); have o12 := t_addO x4 1; have o13 := t_fne c16; have o14 := t_fne c29; have o15 := Int32.le_toInt x49; have o16 := Int32.toInt_lt x49; have o17 := t_fnl v50; have o18 : (2000000 : Int32).toInt = 2000000 := (by decide); have o19 := t_fl v51; have o20 := t_addO x49 1; have o21 := t_fne c53; have o22 := t_fne c54; rw [vp_in_iff]; omega) (fun x57 => ?_)
                                  refine z_bipush hC (pc := 180) (v := 47) dX7_past_180 (by decide) ?_
                                  refine z_icmp_eq hC (pc := 182) 191 dX7_past_182 (by decide) (fun c58 => ?_) (fun c58 => ?_)
                                  · exact j191
                                  · exact j185
                        refine z_lvs [1, 0, 2] rfl ?_
                        exact j140 _ (x4 + 2) (t_nlt0 (by have o1 := Int32.le_toInt x4; have o2 := Int32.toInt_lt x4; have o3 : (0 : Int32).toInt = 0 := (by decide); have o4 := t_fnl c9; have o5 := Int32.le_toInt x10; have o6 := Int32.toInt_lt x10; have o7 := t_fne c11; have o8 : (Int32.ofNat N13).toInt = N13 := nI_toInt hN13; have o9 := hN13; have o10 := t_fne c14; have o11 : (1 : Int32).toInt = 1 := (by decide); have o12 := t_addO x4 1; have o13 := t_fne c16; have o14 := t_fne c29; have o15 : (2 : Int32).toInt = 2 := (by decide); have o16 := t_addO x4 2; omega)) (t_ltI (by have o1 := Int32.le_toInt x4; have o2 := Int32.toInt_lt x4; have o3 : (0 : Int32).toInt = 0 := (by decide); have o4 := t_fnl c9; have o5 := Int32.le_toInt x10; have o6 := Int32.toInt_lt x10; have o7 := t_fne c11; have o8 : (Int32.ofNat N13).toInt = N13 := nI_toInt hN13; have o9 := hN13; have o10 := t_fne c14; have o11 : (1 : Int32).toInt = 1 := (by decide); have o12 := t_addO x4 1; have o13 := t_fne c16; have o14 := t_fne c29; have o15 : (2 : Int32).toInt = 2 := (by decide); have o16 := t_addO x4 2; have o17 : (2000000 : Int32).toInt = 2000000 := (by decide); omega)) (Nat.le_refl _)
                  refine z_icmp_ne hC (pc := 79) 123 dX7_past_79 (by decide) (fun c59 => ?_) (fun c59 => ?_)
                  · refine z_lvs [2, 3, 4, 1, 0] rfl ?_
                    exact j123
                  · refine z_iload hC (pc := 82) 0 dX7_past_82 rfl ?_
                    refine z_bipush hC (pc := 84) (v := 47) dX7_past_84 (by decide) ?_
                    have j89 : ∀ (d89 : Nat), ∀ (x60 : Int32), ¬ x60 < 0 → (2 ^ 31 - (x60 : Int32).toInt).toNat ≤ d89 → zS X G 6 w0 [(0, .ref a0), (2, .int x60), (3, .int x5)] 0 0 89 [] := by
                      intro d89
                      induction d89 with
                      | zero => intro x60 v61 hd89; exact (t_zero hd89).elim
                      | succ d89 ih89 =>
                        intro x60 v61 hd89
                        refine z_iload_n hC (pc := 89) 1 dX7_past_89 rfl rfl ?_
                        refine z_aload_n hC (pc := 90) 0 dX7_past_90 rfl rfl ?_
                        refine u_getK hC (pc := 91) zf7 4 fx10 dX7_past_91 zw119 (kk := ?_)
                        refine z_icmp_ge hC (pc := 94) 238 dX7_past_94 (by decide) (fun c62 => ?_) (fun c62 => ?_)
                        · exact j238 x60
                        · refine z_iload_n hC (pc := 97) 1 dX7_past_97 rfl rfl ?_
                          refine z_aload_n hC (pc := 98) 0 dX7_past_98 rfl rfl ?_
                          refine u_getK hC (pc := 99) zf7 0 fa12 dX7_past_99 zw115 (kk := ?_)
                          refine u_alenB hC hw0 (pc := 102) (Or.inl AN13) dX7_past_102 ?_
                          refine z_icmp_ge hC (pc := 103) 238 dX7_past_103 (by decide) (fun c63 => ?_) (fun c63 => ?_)
                          · exact j238 x60
                          · refine z_aload_n hC (pc := 106) 0 dX7_past_106 rfl rfl ?_
                            refine u_getK hC (pc := 107) zf7 0 fa12 dX7_past_107 zw115 (kk := ?_)
                            refine z_iload_n hC (pc := 110) 1 dX7_past_110 rfl rfl ?_
                            refine u_bald hC hw0 (pc := 111) (Or.inl AN13) dX7_past_111 (t_inB hN13 v61 c63) (fun x64 => ?_)
                            refine z_bipush hC (pc := 112) (v := 10) dX7_past_112 (by decide) ?_
                            refine z_icmp_eq hC (pc := 114) 238 dX7_past_114 (by decide) (fun c65 => ?_) (fun c65 => ?_)
                            · exact j238 x60
                            · refine z_iinc hC (pc := 117) (v := (x60 + 1)) (lv' := [(2, .int (x60 + 1)), (0, .ref a0), (3, .int x5)]) 1 dX7_past_117 rfl (congrArg _ (by decide)) (by decide) rfl ?_
                              refine z_goto hC (pc := 120) 89 dX7_past_120 (by decide) ?_
                              refine z_lvs [1, 0, 2] rfl ?_
                              exact ih89 (x60 + 1) (t_nnI v61 (Int32.not_le.mp c63)) (t_up (Int32.not_le.mp c63) hd89)
                    refine z_icmp_ne hC (pc := 86) 123 dX7_past_86 (by decide) (fun c66 => ?_) (fun c66 => ?_)
                    · refine z_lvs [2, 3, 4, 1, 0] rfl ?_
                      exact j123
                    · refine z_lvs [2, 3, 4] rfl ?_
                      exact j89 _ x4 c9 (Nat.le_refl _)
  refine z_lvs [2, 1, 0] rfl ?_
  exact j4 _ x1 0 (by decide) (Nat.le_refl _)
