theorem zw130 : Cond.fieldLink "TemplateHouse$Source" 36 "TemplateHouse$Source" "number" "I" ∈ zT := zsub1 130 (by decide +kernel) (by decide +kernel)
theorem zw132 : Cond.fieldLink "TemplateHouse$Source" 39 "TemplateHouse$Source" "where" "I" ∈ zT := zsub1 132 (by decide +kernel) (by decide +kernel)
theorem zw1024 : Cond.classLink "TemplateHouse$Source" 67 "java/lang/IllegalStateException" ∈ zT := zsub5 64 (by decide +kernel) (by decide +kernel)
theorem zw20 : Cond.initialized "java/lang/IllegalStateException" ∈ zT := zsub1 20 (by decide +kernel) (by decide +kernel)
theorem zw1016 : Cond.methodLink "TemplateHouse$Source" 139 ⟨"TemplateHouse$Source", "past", "(I)I"⟩ ∈ zT := zsub5 56 (by decide +kernel) (by decide +kernel)
theorem zw1020 : Cond.methodLink "TemplateHouse$Source" 105 ⟨"TemplateHouse$Source", "fail", "(II)V"⟩ ∈ zT := zsub5 60 (by decide +kernel) (by decide +kernel)
theorem zw118 : Cond.fieldLink "TemplateHouse$Source" 22 "TemplateHouse$Source" "places" "[I" ∈ zT := zsub1 118 (by decide +kernel) (by decide +kernel)
theorem zw1160 : Cond.methodLink "TemplateHouse$Source" 112 ⟨"TemplateHouse$Source", "peek", "()I"⟩ ∈ zT := zsub5 200 (by decide +kernel) (by decide +kernel)
theorem zw1165 : Cond.methodLink "TemplateHouse$Source" 125 ⟨"TemplateHouse$Source", "placeOf", "(I)I"⟩ ∈ zT := zsub5 205 (by decide +kernel) (by decide +kernel)
theorem zw1161 : Cond.methodLink "TemplateHouse$Source" 122 ⟨"TemplateHouse$Source", "at", "(I)I"⟩ ∈ zT := zsub5 201 (by decide +kernel) (by decide +kernel)
theorem zw386 : Cond.fieldLink "TemplateHouse$FileReader" 68 "TemplateHouse$FileReader" "s" "LTemplateHouse$Source;" ∈ zT := zsub2 146 (by decide +kernel) (by decide +kernel)
theorem zw1012 : Cond.methodLink "TemplateHouse$FileReader" 90 ⟨"TemplateHouse$Source", "skip", "()V"⟩ ∈ zT := zsub5 52 (by decide +kernel) (by decide +kernel)
theorem zw1151 : Cond.methodLink "TemplateHouse$FileReader" 165 ⟨"TemplateHouse$Source", "peek", "()I"⟩ ∈ zT := zsub5 191 (by decide +kernel) (by decide +kernel)
theorem zw1156 : Cond.methodLink "TemplateHouse$FileReader" 181 ⟨"TemplateHouse$Source", "stringEnd", "()I"⟩ ∈ zT := zsub5 196 (by decide +kernel) (by decide +kernel)
theorem zw123 : Cond.fieldLink "TemplateHouse$FileReader" 95 "TemplateHouse$Source" "pos" "I" ∈ zT := zsub1 123 (by decide +kernel) (by decide +kernel)
theorem zw1169 : Cond.methodLink "TemplateHouse$FileReader" 184 ⟨"TemplateHouse$Source", "at", "(I)I"⟩ ∈ zT := zsub5 209 (by decide +kernel) (by decide +kernel)
theorem zw1155 : Cond.methodLink "TemplateHouse$FileReader" 168 ⟨"TemplateHouse$Source", "fail", "(II)V"⟩ ∈ zT := zsub5 195 (by decide +kernel) (by decide +kernel)
theorem zw1237 : Cond.methodLink "TemplateHouse$Source" 142 ⟨"TemplateHouse$Source", "skip", "()V"⟩ ∈ zT := zsub6 37 (by decide +kernel) (by decide +kernel)
theorem zw1238 : Cond.methodLink "TemplateHouse$Source" 145 ⟨"TemplateHouse$Source", "isBecomes", "()Z"⟩ ∈ zT := zsub6 38 (by decide +kernel) (by decide +kernel)
theorem zw398 : Cond.fieldLink "TemplateHouse$FileReader" 41 "TemplateHouse$FileReader" "deep" "I" ∈ zT := zsub2 158 (by decide +kernel) (by decide +kernel)
theorem zw396 : Cond.fieldLink "TemplateHouse$FileReader" 35 "TemplateHouse$FileReader" "way" "[I" ∈ zT := zsub2 156 (by decide +kernel) (by decide +kernel)
theorem zw999 : Cond.methodLinkNest "TemplateHouse$FileReader" 101 ⟨"TemplateHouse", "get", "([II)I"⟩ "TemplateHouse" ∈ zNest := zsubN5 39 (by decide +kernel) (by decide +kernel)
theorem zw206 : Cond.fieldLink "TemplateHouse$Imports" 7 "TemplateHouse$Imports" "direct" "[I" ∈ zT := zsub1 206 (by decide +kernel) (by decide +kernel)
theorem zw1284 : Cond.methodLink "TemplateHouse$Source" 118 ⟨"TemplateHouse$Names", "intern", "([BII)I"⟩ ∈ zT := zsub6 84 (by decide +kernel) (by decide +kernel)
theorem zw256 : Cond.fieldLink "TemplateHouse$Gen" 44 "TemplateHouse$Gen" "defs" "[I" ∈ zT := zsub2 16 (by decide +kernel) (by decide +kernel)
theorem zw1289 : Cond.methodLinkNest "TemplateHouse$Gen" 98 ⟨"TemplateHouse", "set", "([III)V"⟩ "TemplateHouse" ∈ zNest := zsubN6 89 (by decide +kernel) (by decide +kernel)
theorem zw1307 : Cond.methodLinkNest "TemplateHouse$Source" 63 ⟨"TemplateHouse", "set", "([III)V"⟩ "TemplateHouse" ∈ zNest := zsubN6 107 (by decide +kernel) (by decide +kernel)
theorem zw117 : Cond.fieldLink "TemplateHouse$Source" 19 "TemplateHouse$Source" "packed" "[B" ∈ zT := zsub1 117 (by decide +kernel) (by decide +kernel)
theorem zw136 : Cond.fieldLink "TemplateHouse$Source" 48 "TemplateHouse$Source" "after" "I" ∈ zT := zsub1 136 (by decide +kernel) (by decide +kernel)
theorem zw1302 : Cond.methodLinkNest "TemplateHouse$Source" 51 ⟨"TemplateHouse", "getByte", "([BI)I"⟩ "TemplateHouse" ∈ zNest := zsubN6 102 (by decide +kernel) (by decide +kernel)
theorem zw1306 : Cond.methodLinkNest "TemplateHouse$Source" 59 ⟨"TemplateHouse", "setByte", "([BII)V"⟩ "TemplateHouse" ∈ zNest := zsubN6 106 (by decide +kernel) (by decide +kernel)
theorem zw1303 : Cond.methodLink "TemplateHouse$Source" 55 ⟨"TemplateHouse$Source", "isSpace", "(I)Z"⟩ ∈ zT := zsub6 103 (by decide +kernel) (by decide +kernel)
theorem zw1023 : Cond.code ⟨"TemplateHouse$Source", "fail", "(II)V"⟩ prog_9_method_10_code 3 (Option.none : Option Jvm.ClassFile.FieldType) ∈ zT := zsub5 63 rfl rfl
theorem zw1021 : Cond.instanceMethod ⟨"TemplateHouse$Source", "fail", "(II)V"⟩ ∈ zT := zsub5 61 (by decide +kernel) (by decide +kernel)
theorem zw1022 : Cond.selects "TemplateHouse$Source" ⟨"TemplateHouse$Source", "fail", "(II)V"⟩ ⟨"TemplateHouse$Source", "fail", "(II)V"⟩ ∈ zT := zsub5 62 (by decide +kernel) (by decide +kernel)
theorem zw1015 : Cond.code ⟨"TemplateHouse$Source", "skip", "()V"⟩ prog_9_method_23_code 2 (Option.none : Option Jvm.ClassFile.FieldType) ∈ zT := zsub5 55 rfl rfl
theorem zw1013 : Cond.instanceMethod ⟨"TemplateHouse$Source", "skip", "()V"⟩ ∈ zT := zsub5 53 (by decide +kernel) (by decide +kernel)
theorem zw1014 : Cond.selects "TemplateHouse$Source" ⟨"TemplateHouse$Source", "skip", "()V"⟩ ⟨"TemplateHouse$Source", "skip", "()V"⟩ ∈ zT := zsub5 54 (by decide +kernel) (by decide +kernel)
theorem zw1090 : Cond.code ⟨"TemplateHouse$Source", "rowEnd", "(I)I"⟩ prog_9_method_13_code 5 (Option.some Jvm.ClassFile.FieldType.int) ∈ zT := zsub5 130 rfl rfl
theorem zw1088 : Cond.instanceMethod ⟨"TemplateHouse$Source", "rowEnd", "(I)I"⟩ ∈ zT := zsub5 128 (by decide +kernel) (by decide +kernel)
theorem zw1089 : Cond.selects "TemplateHouse$Source" ⟨"TemplateHouse$Source", "rowEnd", "(I)I"⟩ ⟨"TemplateHouse$Source", "rowEnd", "(I)I"⟩ ∈ zT := zsub5 129 (by decide +kernel) (by decide +kernel)
theorem zw1098 : Cond.code ⟨"TemplateHouse", "isText", "([BIILjava/lang/String;)Z"⟩ prog_1_method_35_code 5 (Option.some Jvm.ClassFile.FieldType.boolean) ∈ zT := zsub5 138 rfl rfl
theorem zw1097 : Cond.static ⟨"TemplateHouse", "isText", "([BIILjava/lang/String;)Z"⟩ ∈ zT := zsub5 137 (by decide +kernel) (by decide +kernel)
theorem zw1154 : Cond.code ⟨"TemplateHouse$Source", "peek", "()I"⟩ prog_9_method_7_code 1 (Option.some Jvm.ClassFile.FieldType.int) ∈ zT := zsub5 194 rfl rfl
theorem zw1152 : Cond.instanceMethod ⟨"TemplateHouse$Source", "peek", "()I"⟩ ∈ zT := zsub5 192 (by decide +kernel) (by decide +kernel)
theorem zw1153 : Cond.selects "TemplateHouse$Source" ⟨"TemplateHouse$Source", "peek", "()I"⟩ ⟨"TemplateHouse$Source", "peek", "()I"⟩ ∈ zT := zsub5 193 (by decide +kernel) (by decide +kernel)
theorem zw1164 : Cond.code ⟨"TemplateHouse$Source", "at", "(I)I"⟩ prog_9_method_6_code 2 (Option.some Jvm.ClassFile.FieldType.int) ∈ zT := zsub5 204 rfl rfl
theorem zw1162 : Cond.instanceMethod ⟨"TemplateHouse$Source", "at", "(I)I"⟩ ∈ zT := zsub5 202 (by decide +kernel) (by decide +kernel)
theorem zw1163 : Cond.selects "TemplateHouse$Source" ⟨"TemplateHouse$Source", "at", "(I)I"⟩ ⟨"TemplateHouse$Source", "at", "(I)I"⟩ ∈ zT := zsub5 203 (by decide +kernel) (by decide +kernel)
theorem zw1168 : Cond.code ⟨"TemplateHouse$Source", "placeOf", "(I)I"⟩ prog_9_method_8_code 2 (Option.some Jvm.ClassFile.FieldType.int) ∈ zT := zsub5 208 rfl rfl
theorem zw1166 : Cond.instanceMethod ⟨"TemplateHouse$Source", "placeOf", "(I)I"⟩ ∈ zT := zsub5 206 (by decide +kernel) (by decide +kernel)
theorem zw1167 : Cond.selects "TemplateHouse$Source" ⟨"TemplateHouse$Source", "placeOf", "(I)I"⟩ ⟨"TemplateHouse$Source", "placeOf", "(I)I"⟩ ∈ zT := zsub5 207 (by decide +kernel) (by decide +kernel)
theorem zw1159 : Cond.code ⟨"TemplateHouse$Source", "stringEnd", "()I"⟩ prog_9_method_20_code 3 (Option.some Jvm.ClassFile.FieldType.int) ∈ zT := zsub5 199 rfl rfl
theorem zw1157 : Cond.instanceMethod ⟨"TemplateHouse$Source", "stringEnd", "()I"⟩ ∈ zT := zsub5 197 (by decide +kernel) (by decide +kernel)
theorem zw1158 : Cond.selects "TemplateHouse$Source" ⟨"TemplateHouse$Source", "stringEnd", "()I"⟩ ⟨"TemplateHouse$Source", "stringEnd", "()I"⟩ ∈ zT := zsub5 198 (by decide +kernel) (by decide +kernel)
theorem zw1172 : Cond.code ⟨"TemplateHouse", "isRow", "(I)Z"⟩ prog_1_method_38_code 1 (Option.some Jvm.ClassFile.FieldType.boolean) ∈ zT := zsub5 212 rfl rfl
theorem zw1171 : Cond.static ⟨"TemplateHouse", "isRow", "(I)Z"⟩ ∈ zT := zsub5 211 (by decide +kernel) (by decide +kernel)
theorem zw1150 : Cond.code ⟨"TemplateHouse$FileReader", "delimiter", "()I"⟩ prog_3_method_7_code 4 (Option.some Jvm.ClassFile.FieldType.int) ∈ zT := zsub5 190 rfl rfl
theorem zw7 : Cond.initialized "TemplateHouse$FileReader" ∈ zT := zsub1 7 (by decide +kernel) (by decide +kernel)
theorem zw1149 : Cond.instanceMethod ⟨"TemplateHouse$FileReader", "delimiter", "()I"⟩ ∈ zT := zsub5 189 (by decide +kernel) (by decide +kernel)
theorem zwp22 : Cond.selects "TemplateHouse$FileReader" ⟨"TemplateHouse$FileReader", "delimiter", "()I"⟩ ⟨"TemplateHouse$FileReader", "delimiter", "()I"⟩ ∈ zT := zin 22 (by decide +kernel) (by decide +kernel)
theorem zw1241 : Cond.code ⟨"TemplateHouse$Source", "isBecomes", "()Z"⟩ prog_9_method_26_code 1 (Option.some Jvm.ClassFile.FieldType.boolean) ∈ zT := zsub6 41 rfl rfl
theorem zw1240 : Cond.instanceMethod ⟨"TemplateHouse$Source", "isBecomes", "()Z"⟩ ∈ zT := zsub6 40 (by decide +kernel) (by decide +kernel)
theorem zwp98 : Cond.selects "TemplateHouse$Source" ⟨"TemplateHouse$Source", "isBecomes", "()Z"⟩ ⟨"TemplateHouse$Source", "isBecomes", "()Z"⟩ ∈ zT := zin 98 (by decide +kernel) (by decide +kernel)
theorem zw1236 : Cond.code ⟨"TemplateHouse$Source", "sign", "(I)V"⟩ prog_9_method_24_code 2 (Option.none : Option Jvm.ClassFile.FieldType) ∈ zT := zsub6 36 rfl rfl
theorem zw1234 : Cond.instanceMethod ⟨"TemplateHouse$Source", "sign", "(I)V"⟩ ∈ zT := zsub6 34 (by decide +kernel) (by decide +kernel)
theorem zw1235 : Cond.selects "TemplateHouse$Source" ⟨"TemplateHouse$Source", "sign", "(I)V"⟩ ⟨"TemplateHouse$Source", "sign", "(I)V"⟩ ∈ zT := zsub6 35 (by decide +kernel) (by decide +kernel)
theorem zw1246 : Cond.code ⟨"TemplateHouse$FileReader", "isOnTheWay", "(I)Z"⟩ prog_3_method_6_code 3 (Option.some Jvm.ClassFile.FieldType.boolean) ∈ zT := zsub6 46 rfl rfl
theorem zw1245 : Cond.instanceMethod ⟨"TemplateHouse$FileReader", "isOnTheWay", "(I)Z"⟩ ∈ zT := zsub6 45 (by decide +kernel) (by decide +kernel)
theorem zwp25 : Cond.selects "TemplateHouse$FileReader" ⟨"TemplateHouse$FileReader", "isOnTheWay", "(I)Z"⟩ ⟨"TemplateHouse$FileReader", "isOnTheWay", "(I)Z"⟩ ∈ zT := zin 25 (by decide +kernel) (by decide +kernel)
theorem zw1250 : Cond.code ⟨"TemplateHouse$Imports", "note", "(II)V"⟩ prog_6_method_5_code 5 (Option.none : Option Jvm.ClassFile.FieldType) ∈ zT := zsub6 50 rfl rfl
theorem zw1248 : Cond.instanceMethod ⟨"TemplateHouse$Imports", "note", "(II)V"⟩ ∈ zT := zsub6 48 (by decide +kernel) (by decide +kernel)
theorem zw1249 : Cond.selects "TemplateHouse$Imports" ⟨"TemplateHouse$Imports", "note", "(II)V"⟩ ⟨"TemplateHouse$Imports", "note", "(II)V"⟩ ∈ zT := zsub6 49 (by decide +kernel) (by decide +kernel)
theorem zw1272 : Cond.code ⟨"TemplateHouse", "isLetter", "(I)Z"⟩ prog_1_method_37_code 1 (Option.some Jvm.ClassFile.FieldType.boolean) ∈ zT := zsub6 72 rfl rfl
theorem zw1271 : Cond.static ⟨"TemplateHouse", "isLetter", "(I)Z"⟩ ∈ zT := zsub6 71 (by decide +kernel) (by decide +kernel)
theorem zw1275 : Cond.code ⟨"TemplateHouse", "wordIn", "(Ljava/lang/String;[BII)I"⟩ prog_1_method_36_code 8 (Option.some Jvm.ClassFile.FieldType.int) ∈ zT := zsub6 75 rfl rfl
theorem zw1274 : Cond.static ⟨"TemplateHouse", "wordIn", "(Ljava/lang/String;[BII)I"⟩ ∈ zT := zsub6 74 (by decide +kernel) (by decide +kernel)
theorem zw1279 : Cond.code ⟨"TemplateHouse$Source", "here", "()I"⟩ prog_9_method_9_code 1 (Option.some Jvm.ClassFile.FieldType.int) ∈ zT := zsub6 79 rfl rfl
theorem zw1277 : Cond.instanceMethod ⟨"TemplateHouse$Source", "here", "()I"⟩ ∈ zT := zsub6 77 (by decide +kernel) (by decide +kernel)
theorem zw1278 : Cond.selects "TemplateHouse$Source" ⟨"TemplateHouse$Source", "here", "()I"⟩ ⟨"TemplateHouse$Source", "here", "()I"⟩ ∈ zT := zsub6 78 (by decide +kernel) (by decide +kernel)
theorem zw1283 : Cond.code ⟨"TemplateHouse$Source", "take", "(ILTemplateHouse$Names;)I"⟩ prog_9_method_19_code 4 (Option.some Jvm.ClassFile.FieldType.int) ∈ zT := zsub6 83 rfl rfl
theorem zw1281 : Cond.instanceMethod ⟨"TemplateHouse$Source", "take", "(ILTemplateHouse$Names;)I"⟩ ∈ zT := zsub6 81 (by decide +kernel) (by decide +kernel)
theorem zw1282 : Cond.selects "TemplateHouse$Source" ⟨"TemplateHouse$Source", "take", "(ILTemplateHouse$Names;)I"⟩ ⟨"TemplateHouse$Source", "take", "(ILTemplateHouse$Names;)I"⟩ ∈ zT := zsub6 82 (by decide +kernel) (by decide +kernel)
theorem zw1288 : Cond.code ⟨"TemplateHouse$Gen", "newDef", "(IIII)I"⟩ prog_4_method_11_code 6 (Option.some Jvm.ClassFile.FieldType.int) ∈ zT := zsub6 88 rfl rfl
theorem zw1286 : Cond.instanceMethod ⟨"TemplateHouse$Gen", "newDef", "(IIII)I"⟩ ∈ zT := zsub6 86 (by decide +kernel) (by decide +kernel)
theorem zw1287 : Cond.selects "TemplateHouse$Gen" ⟨"TemplateHouse$Gen", "newDef", "(IIII)I"⟩ ⟨"TemplateHouse$Gen", "newDef", "(IIII)I"⟩ ∈ zT := zsub6 87 (by decide +kernel) (by decide +kernel)
theorem zw1293 : Cond.code ⟨"TemplateHouse$Source", "becomes", "()V"⟩ prog_9_method_25_code 1 (Option.none : Option Jvm.ClassFile.FieldType) ∈ zT := zsub6 93 rfl rfl
theorem zw1291 : Cond.instanceMethod ⟨"TemplateHouse$Source", "becomes", "()V"⟩ ∈ zT := zsub6 91 (by decide +kernel) (by decide +kernel)
theorem zw1292 : Cond.selects "TemplateHouse$Source" ⟨"TemplateHouse$Source", "becomes", "()V"⟩ ⟨"TemplateHouse$Source", "becomes", "()V"⟩ ∈ zT := zsub6 92 (by decide +kernel) (by decide +kernel)
theorem zw1305 : Cond.code ⟨"TemplateHouse$Source", "isSpace", "(I)Z"⟩ prog_9_method_5_code 1 (Option.some Jvm.ClassFile.FieldType.boolean) ∈ zT := zsub6 105 rfl rfl
theorem zw1304 : Cond.static ⟨"TemplateHouse$Source", "isSpace", "(I)Z"⟩ ∈ zT := zsub6 104 (by decide +kernel) (by decide +kernel)
theorem zw1301 : Cond.code ⟨"TemplateHouse$Source", "openBody", "(IIZII)V"⟩ prog_9_method_3_code 9 (Option.none : Option Jvm.ClassFile.FieldType) ∈ zT := zsub6 101 rfl rfl
theorem zw1299 : Cond.instanceMethod ⟨"TemplateHouse$Source", "openBody", "(IIZII)V"⟩ ∈ zT := zsub6 99 (by decide +kernel) (by decide +kernel)
theorem zw1300 : Cond.selects "TemplateHouse$Source" ⟨"TemplateHouse$Source", "openBody", "(IIZII)V"⟩ ⟨"TemplateHouse$Source", "openBody", "(IIZII)V"⟩ ∈ zT := zsub6 100 (by decide +kernel) (by decide +kernel)
abbrev cX7_fail : ByteArray := prog_9_method_10_code
abbrev yX7_fail : MethodName := ⟨"TemplateHouse$Source", "fail", "(II)V"⟩
theorem dmX7_fail : zDv yX7_fail cX7_fail 3 none 2 := ⟨⟨⟨by decide +kernel, by decide +kernel, by decide +kernel⟩, zw1023, zw3⟩, zw1021, zw1022⟩
abbrev cX7_skip : ByteArray := prog_9_method_23_code
abbrev yX7_skip : MethodName := ⟨"TemplateHouse$Source", "skip", "()V"⟩
theorem dmX7_skip : zDv yX7_skip cX7_skip 2 none 0 := ⟨⟨⟨by decide +kernel, by decide +kernel, by decide +kernel⟩, zw1015, zw3⟩, zw1013, zw1014⟩
abbrev cX7_rowEnd : ByteArray := prog_9_method_13_code
abbrev yX7_rowEnd : MethodName := ⟨"TemplateHouse$Source", "rowEnd", "(I)I"⟩
theorem dmX7_rowEnd : zDv yX7_rowEnd cX7_rowEnd 5 (some .int) 1 := ⟨⟨⟨by decide +kernel, by decide +kernel, by decide +kernel⟩, zw1090, zw3⟩, zw1088, zw1089⟩
abbrev cX12_isText : ByteArray := prog_1_method_35_code
abbrev yX12_isText : MethodName := ⟨"TemplateHouse", "isText", "([BIILjava/lang/String;)Z"⟩
theorem dmX12_isText : zDs yX12_isText cX12_isText 5 (some .boolean) 4 := ⟨⟨⟨by decide +kernel, by decide +kernel, by decide +kernel⟩, zw1098, zw1⟩, zw1097⟩
abbrev cX7_peek : ByteArray := prog_9_method_7_code
abbrev yX7_peek : MethodName := ⟨"TemplateHouse$Source", "peek", "()I"⟩
theorem dmX7_peek : zDv yX7_peek cX7_peek 1 (some .int) 0 := ⟨⟨⟨by decide +kernel, by decide +kernel, by decide +kernel⟩, zw1154, zw3⟩, zw1152, zw1153⟩
abbrev cX7_at : ByteArray := prog_9_method_6_code
abbrev yX7_at : MethodName := ⟨"TemplateHouse$Source", "at", "(I)I"⟩
theorem dmX7_at : zDv yX7_at cX7_at 2 (some .int) 1 := ⟨⟨⟨by decide +kernel, by decide +kernel, by decide +kernel⟩, zw1164, zw3⟩, zw1162, zw1163⟩
abbrev cX7_placeOf : ByteArray := prog_9_method_8_code
abbrev yX7_placeOf : MethodName := ⟨"TemplateHouse$Source", "placeOf", "(I)I"⟩
theorem dmX7_placeOf : zDv yX7_placeOf cX7_placeOf 2 (some .int) 1 := ⟨⟨⟨by decide +kernel, by decide +kernel, by decide +kernel⟩, zw1168, zw3⟩, zw1166, zw1167⟩
abbrev cX7_stringEnd : ByteArray := prog_9_method_20_code
abbrev yX7_stringEnd : MethodName := ⟨"TemplateHouse$Source", "stringEnd", "()I"⟩
theorem dmX7_stringEnd : zDv yX7_stringEnd cX7_stringEnd 3 (some .int) 0 := ⟨⟨⟨by decide +kernel, by decide +kernel, by decide +kernel⟩, zw1159, zw3⟩, zw1157, zw1158⟩
abbrev cX12_isRow : ByteArray := prog_1_method_38_code
abbrev yX12_isRow : MethodName := ⟨"TemplateHouse", "isRow", "(I)Z"⟩
theorem dmX12_isRow : zDs yX12_isRow cX12_isRow 1 (some .boolean) 1 := ⟨⟨⟨by decide +kernel, by decide +kernel, by decide +kernel⟩, zw1172, zw1⟩, zw1171⟩
abbrev cX1_delimiter : ByteArray := prog_3_method_7_code
abbrev yX1_delimiter : MethodName := ⟨"TemplateHouse$FileReader", "delimiter", "()I"⟩
theorem dmX1_delimiter : zDv yX1_delimiter cX1_delimiter 4 (some .int) 0 := ⟨⟨⟨by decide +kernel, by decide +kernel, by decide +kernel⟩, zw1150, zw7⟩, zw1149, zwp22⟩
abbrev cX7_isBecomes : ByteArray := prog_9_method_26_code
abbrev yX7_isBecomes : MethodName := ⟨"TemplateHouse$Source", "isBecomes", "()Z"⟩
theorem dmX7_isBecomes : zDv yX7_isBecomes cX7_isBecomes 1 (some .boolean) 0 := ⟨⟨⟨by decide +kernel, by decide +kernel, by decide +kernel⟩, zw1241, zw3⟩, zw1240, zwp98⟩
abbrev cX7_sign : ByteArray := prog_9_method_24_code
abbrev yX7_sign : MethodName := ⟨"TemplateHouse$Source", "sign", "(I)V"⟩
theorem dmX7_sign : zDv yX7_sign cX7_sign 2 none 1 := ⟨⟨⟨by decide +kernel, by decide +kernel, by decide +kernel⟩, zw1236, zw3⟩, zw1234, zw1235⟩
abbrev cX1_isOnTheWay : ByteArray := prog_3_method_6_code
abbrev yX1_isOnTheWay : MethodName := ⟨"TemplateHouse$FileReader", "isOnTheWay", "(I)Z"⟩
theorem dmX1_isOnTheWay : zDv yX1_isOnTheWay cX1_isOnTheWay 3 (some .boolean) 1 := ⟨⟨⟨by decide +kernel, by decide +kernel, by decide +kernel⟩, zw1246, zw7⟩, zw1245, zwp25⟩
abbrev cX4_note : ByteArray := prog_6_method_5_code
abbrev yX4_note : MethodName := ⟨"TemplateHouse$Imports", "note", "(II)V"⟩
theorem dmX4_note : zDv yX4_note cX4_note 5 none 2 := ⟨⟨⟨by decide +kernel, by decide +kernel, by decide +kernel⟩, zw1250, zw6⟩, zw1248, zw1249⟩
abbrev cX12_isLetter : ByteArray := prog_1_method_37_code
abbrev yX12_isLetter : MethodName := ⟨"TemplateHouse", "isLetter", "(I)Z"⟩
theorem dmX12_isLetter : zDs yX12_isLetter cX12_isLetter 1 (some .boolean) 1 := ⟨⟨⟨by decide +kernel, by decide +kernel, by decide +kernel⟩, zw1272, zw1⟩, zw1271⟩
abbrev cX12_wordIn : ByteArray := prog_1_method_36_code
abbrev yX12_wordIn : MethodName := ⟨"TemplateHouse", "wordIn", "(Ljava/lang/String;[BII)I"⟩
theorem dmX12_wordIn : zDs yX12_wordIn cX12_wordIn 8 (some .int) 4 := ⟨⟨⟨by decide +kernel, by decide +kernel, by decide +kernel⟩, zw1275, zw1⟩, zw1274⟩
abbrev cX7_here : ByteArray := prog_9_method_9_code
abbrev yX7_here : MethodName := ⟨"TemplateHouse$Source", "here", "()I"⟩
theorem dmX7_here : zDv yX7_here cX7_here 1 (some .int) 0 := ⟨⟨⟨by decide +kernel, by decide +kernel, by decide +kernel⟩, zw1279, zw3⟩, zw1277, zw1278⟩
abbrev cX7_take : ByteArray := prog_9_method_19_code
abbrev yX7_take : MethodName := ⟨"TemplateHouse$Source", "take", "(ILTemplateHouse$Names;)I"⟩
theorem dmX7_take : zDv yX7_take cX7_take 4 (some .int) 2 := ⟨⟨⟨by decide +kernel, by decide +kernel, by decide +kernel⟩, zw1283, zw3⟩, zw1281, zw1282⟩
abbrev cX2_newDef : ByteArray := prog_4_method_11_code
abbrev yX2_newDef : MethodName := ⟨"TemplateHouse$Gen", "newDef", "(IIII)I"⟩
theorem dmX2_newDef : zDv yX2_newDef cX2_newDef 6 (some .int) 4 := ⟨⟨⟨by decide +kernel, by decide +kernel, by decide +kernel⟩, zw1288, zw4⟩, zw1286, zw1287⟩
abbrev cX7_becomes : ByteArray := prog_9_method_25_code
abbrev yX7_becomes : MethodName := ⟨"TemplateHouse$Source", "becomes", "()V"⟩
theorem dmX7_becomes : zDv yX7_becomes cX7_becomes 1 none 0 := ⟨⟨⟨by decide +kernel, by decide +kernel, by decide +kernel⟩, zw1293, zw3⟩, zw1291, zw1292⟩
abbrev cX7_isSpace : ByteArray := prog_9_method_5_code
abbrev yX7_isSpace : MethodName := ⟨"TemplateHouse$Source", "isSpace", "(I)Z"⟩
theorem dmX7_isSpace : zDs yX7_isSpace cX7_isSpace 1 (some .boolean) 1 := ⟨⟨⟨by decide +kernel, by decide +kernel, by decide +kernel⟩, zw1305, zw3⟩, zw1304⟩
abbrev cX7_openBody : ByteArray := prog_9_method_3_code
abbrev yX7_openBody : MethodName := ⟨"TemplateHouse$Source", "openBody", "(IIZII)V"⟩
theorem dmX7_openBody : zDv yX7_openBody cX7_openBody 9 none 5 := ⟨⟨⟨by decide +kernel, by decide +kernel, by decide +kernel⟩, zw1301, zw3⟩, zw1299, zw1300⟩
theorem dX7_fail_0 : decode cX7_fail 0 = .ok (.aload_n 0, 1) := by decide +kernel
theorem dX7_fail_1 : decode cX7_fail 1 = .ok (.iload_n 1, 1) := by decide +kernel
theorem dX7_fail_2 : decode cX7_fail 2 = .ok (.putfield 36, 3) := by decide +kernel
theorem dX7_fail_5 : decode cX7_fail 5 = .ok (.aload_n 0, 1) := by decide +kernel
theorem dX7_fail_6 : decode cX7_fail 6 = .ok (.iload_n 2, 1) := by decide +kernel
theorem dX7_fail_7 : decode cX7_fail 7 = .ok (.putfield 39, 3) := by decide +kernel
theorem dX7_fail_10 : decode cX7_fail 10 = .ok (.new 67, 3) := by decide +kernel
theorem dX7_fail_13 : decode cX7_fail 13 = .ok (.dup, 1) := by decide +kernel
theorem dX7_fail_14 : decode cX7_fail 14 = .ok (.invokespecial 69, 3) := by decide +kernel
theorem dX7_fail_17 : decode cX7_fail 17 = .ok (.athrow, 1) := by decide +kernel
theorem dX7_skip_0 : decode cX7_skip 0 = .ok (.aload_n 0, 1) := by decide +kernel
theorem dX7_skip_1 : decode cX7_skip 1 = .ok (.aload_n 0, 1) := by decide +kernel
theorem dX7_skip_2 : decode cX7_skip 2 = .ok (.getfield 30, 3) := by decide +kernel
theorem dX7_skip_5 : decode cX7_skip 5 = .ok (.invokevirtual 139, 3) := by decide +kernel
theorem dX7_skip_8 : decode cX7_skip 8 = .ok (.istore_n 1, 1) := by decide +kernel
theorem dX7_skip_9 : decode cX7_skip 9 = .ok (.iload_n 1, 1) := by decide +kernel
theorem dX7_skip_10 : decode cX7_skip 10 = .ok (.iconst (-1), 1) := by decide +kernel
theorem dX7_skip_11 : decode cX7_skip 11 = .ok (.if_icmp .ne 12, 3) := by decide +kernel
theorem dX7_skip_23 : decode cX7_skip 23 = .ok (.aload_n 0, 1) := by decide +kernel
theorem dX7_skip_24 : decode cX7_skip 24 = .ok (.iload_n 1, 1) := by decide +kernel
theorem dX7_skip_25 : decode cX7_skip 25 = .ok (.putfield 30, 3) := by decide +kernel
theorem dX7_skip_28 : decode cX7_skip 28 = .ok (.return_, 1) := by decide +kernel
theorem dX7_skip_14 : decode cX7_skip 14 = .ok (.aload_n 0, 1) := by decide +kernel
theorem dX7_skip_15 : decode cX7_skip 15 = .ok (.iconst 1, 1) := by decide +kernel
theorem dX7_skip_16 : decode cX7_skip 16 = .ok (.aload_n 0, 1) := by decide +kernel
theorem dX7_skip_17 : decode cX7_skip 17 = .ok (.getfield 26, 3) := by decide +kernel
theorem dX7_skip_20 : decode cX7_skip 20 = .ok (.invokevirtual 105, 3) := by decide +kernel
theorem dX7_rowEnd_0 : decode cX7_rowEnd 0 = .ok (.iload_n 1, 1) := by decide +kernel
theorem dX7_rowEnd_1 : decode cX7_rowEnd 1 = .ok (.istore_n 2, 1) := by decide +kernel
theorem dX7_rowEnd_2 : decode cX7_rowEnd 2 = .ok (.iconst 1, 1) := by decide +kernel
theorem dX7_rowEnd_3 : decode cX7_rowEnd 3 = .ok (.istore_n 3, 1) := by decide +kernel
theorem dX7_rowEnd_4 : decode cX7_rowEnd 4 = .ok (.iload_n 3, 1) := by decide +kernel
theorem dX7_rowEnd_5 : decode cX7_rowEnd 5 = .ok (.ifCond .eq 102, 3) := by decide +kernel
theorem dX7_rowEnd_107 : decode cX7_rowEnd 107 = .ok (.iload_n 2, 1) := by decide +kernel
theorem dX7_rowEnd_108 : decode cX7_rowEnd 108 = .ok (.ireturn, 1) := by decide +kernel
theorem dX7_rowEnd_8 : decode cX7_rowEnd 8 = .ok (.iload_n 2, 1) := by decide +kernel
theorem dX7_rowEnd_9 : decode cX7_rowEnd 9 = .ok (.ifCond .lt 98, 3) := by decide +kernel
theorem dX7_rowEnd_12 : decode cX7_rowEnd 12 = .ok (.iload_n 2, 1) := by decide +kernel
theorem dX7_rowEnd_13 : decode cX7_rowEnd 13 = .ok (.aload_n 0, 1) := by decide +kernel
theorem dX7_rowEnd_14 : decode cX7_rowEnd 14 = .ok (.getfield 26, 3) := by decide +kernel
theorem dX7_rowEnd_17 : decode cX7_rowEnd 17 = .ok (.if_icmp .ge 90, 3) := by decide +kernel
theorem dX7_rowEnd_20 : decode cX7_rowEnd 20 = .ok (.iload_n 2, 1) := by decide +kernel
theorem dX7_rowEnd_21 : decode cX7_rowEnd 21 = .ok (.aload_n 0, 1) := by decide +kernel
theorem dX7_rowEnd_22 : decode cX7_rowEnd 22 = .ok (.getfield 9, 3) := by decide +kernel
theorem dX7_rowEnd_25 : decode cX7_rowEnd 25 = .ok (.arraylength, 1) := by decide +kernel
theorem dX7_rowEnd_26 : decode cX7_rowEnd 26 = .ok (.if_icmp .ge 81, 3) := by decide +kernel
theorem dX7_rowEnd_29 : decode cX7_rowEnd 29 = .ok (.aload_n 0, 1) := by decide +kernel
theorem dX7_rowEnd_30 : decode cX7_rowEnd 30 = .ok (.getfield 9, 3) := by decide +kernel
theorem dX7_rowEnd_33 : decode cX7_rowEnd 33 = .ok (.iload_n 2, 1) := by decide +kernel
theorem dX7_rowEnd_34 : decode cX7_rowEnd 34 = .ok (.baload, 1) := by decide +kernel
theorem dX7_rowEnd_35 : decode cX7_rowEnd 35 = .ok (.istore 4, 2) := by decide +kernel
theorem dX7_rowEnd_37 : decode cX7_rowEnd 37 = .ok (.iload 4, 2) := by decide +kernel
theorem dX7_rowEnd_39 : decode cX7_rowEnd 39 = .ok (.bipush 97, 2) := by decide +kernel
theorem dX7_rowEnd_41 : decode cX7_rowEnd 41 = .ok (.if_icmp .lt 10, 3) := by decide +kernel
theorem dX7_rowEnd_51 : decode cX7_rowEnd 51 = .ok (.iload 4, 2) := by decide +kernel
theorem dX7_rowEnd_53 : decode cX7_rowEnd 53 = .ok (.bipush 65, 2) := by decide +kernel
theorem dX7_rowEnd_55 : decode cX7_rowEnd 55 = .ok (.if_icmp .lt 10, 3) := by decide +kernel
theorem dX7_rowEnd_65 : decode cX7_rowEnd 65 = .ok (.iload 4, 2) := by decide +kernel
theorem dX7_rowEnd_67 : decode cX7_rowEnd 67 = .ok (.bipush 95, 2) := by decide +kernel
theorem dX7_rowEnd_69 : decode cX7_rowEnd 69 = .ok (.if_icmp .eq 17, 3) := by decide +kernel
theorem dX7_rowEnd_86 : decode cX7_rowEnd 86 = .ok (.iconst 1, 1) := by decide +kernel
theorem dX7_rowEnd_87 : decode cX7_rowEnd 87 = .ok (.goto 4, 3) := by decide +kernel
theorem dX7_rowEnd_91 : decode cX7_rowEnd 91 = .ok (.istore_n 3, 1) := by decide +kernel
theorem dX7_rowEnd_92 : decode cX7_rowEnd 92 = .ok (.iload_n 2, 1) := by decide +kernel
theorem dX7_rowEnd_93 : decode cX7_rowEnd 93 = .ok (.iload_n 3, 1) := by decide +kernel
theorem dX7_rowEnd_94 : decode cX7_rowEnd 94 = .ok (.ifCond .eq 7, 3) := by decide +kernel
theorem dX7_rowEnd_97 : decode cX7_rowEnd 97 = .ok (.iconst 1, 1) := by decide +kernel
theorem dX7_rowEnd_98 : decode cX7_rowEnd 98 = .ok (.goto 4, 3) := by decide +kernel
theorem dX7_rowEnd_102 : decode cX7_rowEnd 102 = .ok (.iadd, 1) := by decide +kernel
theorem dX7_rowEnd_103 : decode cX7_rowEnd 103 = .ok (.istore_n 2, 1) := by decide +kernel
theorem dX7_rowEnd_104 : decode cX7_rowEnd 104 = .ok (.goto (-100), 3) := by decide +kernel
theorem dX7_rowEnd_72 : decode cX7_rowEnd 72 = .ok (.iload 4, 2) := by decide +kernel
theorem dX7_rowEnd_74 : decode cX7_rowEnd 74 = .ok (.bipush 48, 2) := by decide +kernel
theorem dX7_rowEnd_76 : decode cX7_rowEnd 76 = .ok (.if_icmp .lt 14, 3) := by decide +kernel
theorem dX7_rowEnd_90 : decode cX7_rowEnd 90 = .ok (.iconst 0, 1) := by decide +kernel
theorem dX7_rowEnd_101 : decode cX7_rowEnd 101 = .ok (.iconst 0, 1) := by decide +kernel
theorem dX7_rowEnd_79 : decode cX7_rowEnd 79 = .ok (.iload 4, 2) := by decide +kernel
theorem dX7_rowEnd_81 : decode cX7_rowEnd 81 = .ok (.bipush 57, 2) := by decide +kernel
theorem dX7_rowEnd_83 : decode cX7_rowEnd 83 = .ok (.if_icmp .gt 7, 3) := by decide +kernel
theorem dX7_rowEnd_58 : decode cX7_rowEnd 58 = .ok (.iload 4, 2) := by decide +kernel
theorem dX7_rowEnd_60 : decode cX7_rowEnd 60 = .ok (.bipush 90, 2) := by decide +kernel
theorem dX7_rowEnd_62 : decode cX7_rowEnd 62 = .ok (.if_icmp .le 24, 3) := by decide +kernel
theorem dX7_rowEnd_44 : decode cX7_rowEnd 44 = .ok (.iload 4, 2) := by decide +kernel
theorem dX7_rowEnd_46 : decode cX7_rowEnd 46 = .ok (.bipush 122, 2) := by decide +kernel
theorem dX7_rowEnd_48 : decode cX7_rowEnd 48 = .ok (.if_icmp .le 38, 3) := by decide +kernel
theorem dX12_isText_0 : decode cX12_isText 0 = .ok (.iload_n 2, 1) := by decide +kernel
theorem dX12_isText_1 : decode cX12_isText 1 = .ok (.aload_n 3, 1) := by decide +kernel
theorem dX12_isText_2 : decode cX12_isText 2 = .ok (.invokevirtual 257, 3) := by decide +kernel
theorem dX7_peek_0 : decode cX7_peek 0 = .ok (.aload_n 0, 1) := by decide +kernel
theorem dX7_peek_1 : decode cX7_peek 1 = .ok (.getfield 30, 3) := by decide +kernel
theorem dX7_peek_4 : decode cX7_peek 4 = .ok (.ifCond .lt 38, 3) := by decide +kernel
theorem dX7_peek_43 : decode cX7_peek 43 = .ok (.ireturn, 1) := by decide +kernel
theorem dX7_peek_42 : decode cX7_peek 42 = .ok (.iconst (-1), 1) := by decide +kernel
theorem dX7_peek_7 : decode cX7_peek 7 = .ok (.aload_n 0, 1) := by decide +kernel
theorem dX7_peek_8 : decode cX7_peek 8 = .ok (.getfield 30, 3) := by decide +kernel
theorem dX7_peek_11 : decode cX7_peek 11 = .ok (.aload_n 0, 1) := by decide +kernel
theorem dX7_peek_12 : decode cX7_peek 12 = .ok (.getfield 26, 3) := by decide +kernel
theorem dX7_peek_15 : decode cX7_peek 15 = .ok (.if_icmp .ge 27, 3) := by decide +kernel
theorem dX7_peek_18 : decode cX7_peek 18 = .ok (.aload_n 0, 1) := by decide +kernel
theorem dX7_peek_19 : decode cX7_peek 19 = .ok (.getfield 30, 3) := by decide +kernel
theorem dX7_peek_22 : decode cX7_peek 22 = .ok (.aload_n 0, 1) := by decide +kernel
theorem dX7_peek_23 : decode cX7_peek 23 = .ok (.getfield 9, 3) := by decide +kernel
theorem dX7_peek_26 : decode cX7_peek 26 = .ok (.arraylength, 1) := by decide +kernel
theorem dX7_peek_27 : decode cX7_peek 27 = .ok (.if_icmp .ge 15, 3) := by decide +kernel
theorem dX7_peek_30 : decode cX7_peek 30 = .ok (.aload_n 0, 1) := by decide +kernel
theorem dX7_peek_31 : decode cX7_peek 31 = .ok (.getfield 9, 3) := by decide +kernel
theorem dX7_peek_34 : decode cX7_peek 34 = .ok (.aload_n 0, 1) := by decide +kernel
theorem dX7_peek_35 : decode cX7_peek 35 = .ok (.getfield 30, 3) := by decide +kernel
theorem dX7_peek_38 : decode cX7_peek 38 = .ok (.baload, 1) := by decide +kernel
theorem dX7_peek_39 : decode cX7_peek 39 = .ok (.goto 4, 3) := by decide +kernel
theorem dX7_at_0 : decode cX7_at 0 = .ok (.iload_n 1, 1) := by decide +kernel
theorem dX7_at_1 : decode cX7_at 1 = .ok (.ifCond .lt 29, 3) := by decide +kernel
theorem dX7_at_31 : decode cX7_at 31 = .ok (.ireturn, 1) := by decide +kernel
theorem dX7_at_30 : decode cX7_at 30 = .ok (.iconst (-1), 1) := by decide +kernel
theorem dX7_at_4 : decode cX7_at 4 = .ok (.iload_n 1, 1) := by decide +kernel
theorem dX7_at_5 : decode cX7_at 5 = .ok (.aload_n 0, 1) := by decide +kernel
theorem dX7_at_6 : decode cX7_at 6 = .ok (.getfield 26, 3) := by decide +kernel
theorem dX7_at_9 : decode cX7_at 9 = .ok (.if_icmp .ge 21, 3) := by decide +kernel
theorem dX7_at_12 : decode cX7_at 12 = .ok (.iload_n 1, 1) := by decide +kernel
theorem dX7_at_13 : decode cX7_at 13 = .ok (.aload_n 0, 1) := by decide +kernel
theorem dX7_at_14 : decode cX7_at 14 = .ok (.getfield 9, 3) := by decide +kernel
theorem dX7_at_17 : decode cX7_at 17 = .ok (.arraylength, 1) := by decide +kernel
theorem dX7_at_18 : decode cX7_at 18 = .ok (.if_icmp .ge 12, 3) := by decide +kernel
theorem dX7_at_21 : decode cX7_at 21 = .ok (.aload_n 0, 1) := by decide +kernel
theorem dX7_at_22 : decode cX7_at 22 = .ok (.getfield 9, 3) := by decide +kernel
theorem dX7_at_25 : decode cX7_at 25 = .ok (.iload_n 1, 1) := by decide +kernel
theorem dX7_at_26 : decode cX7_at 26 = .ok (.baload, 1) := by decide +kernel
theorem dX7_at_27 : decode cX7_at 27 = .ok (.goto 4, 3) := by decide +kernel
theorem dX7_placeOf_0 : decode cX7_placeOf 0 = .ok (.aload_n 0, 1) := by decide +kernel
theorem dX7_placeOf_1 : decode cX7_placeOf 1 = .ok (.getfield 15, 3) := by decide +kernel
theorem dX7_placeOf_4 : decode cX7_placeOf 4 = .ok (.ifCond .eq 7, 3) := by decide +kernel
theorem dX7_placeOf_34 : decode cX7_placeOf 34 = .ok (.ireturn, 1) := by decide +kernel
theorem dX7_placeOf_11 : decode cX7_placeOf 11 = .ok (.iload_n 1, 1) := by decide +kernel
theorem dX7_placeOf_12 : decode cX7_placeOf 12 = .ok (.ifCond .lt 21, 3) := by decide +kernel
theorem dX7_placeOf_33 : decode cX7_placeOf 33 = .ok (.iconst 0, 1) := by decide +kernel
theorem dX7_placeOf_15 : decode cX7_placeOf 15 = .ok (.iload_n 1, 1) := by decide +kernel
theorem dX7_placeOf_16 : decode cX7_placeOf 16 = .ok (.aload_n 0, 1) := by decide +kernel
theorem dX7_placeOf_17 : decode cX7_placeOf 17 = .ok (.getfield 22, 3) := by decide +kernel
theorem dX7_placeOf_20 : decode cX7_placeOf 20 = .ok (.arraylength, 1) := by decide +kernel
theorem dX7_placeOf_21 : decode cX7_placeOf 21 = .ok (.if_icmp .ge 12, 3) := by decide +kernel
theorem dX7_placeOf_24 : decode cX7_placeOf 24 = .ok (.aload_n 0, 1) := by decide +kernel
theorem dX7_placeOf_25 : decode cX7_placeOf 25 = .ok (.getfield 22, 3) := by decide +kernel
theorem dX7_placeOf_28 : decode cX7_placeOf 28 = .ok (.iload_n 1, 1) := by decide +kernel
theorem dX7_placeOf_29 : decode cX7_placeOf 29 = .ok (.iaload, 1) := by decide +kernel
theorem dX7_placeOf_30 : decode cX7_placeOf 30 = .ok (.goto 4, 3) := by decide +kernel
theorem dX7_placeOf_7 : decode cX7_placeOf 7 = .ok (.iload_n 1, 1) := by decide +kernel
theorem dX7_placeOf_8 : decode cX7_placeOf 8 = .ok (.goto 26, 3) := by decide +kernel
theorem dX7_stringEnd_0 : decode cX7_stringEnd 0 = .ok (.aload_n 0, 1) := by decide +kernel
theorem dX7_stringEnd_1 : decode cX7_stringEnd 1 = .ok (.invokevirtual 112, 3) := by decide +kernel
theorem dX7_stringEnd_4 : decode cX7_stringEnd 4 = .ok (.istore_n 1, 1) := by decide +kernel
theorem dX7_stringEnd_5 : decode cX7_stringEnd 5 = .ok (.aload_n 0, 1) := by decide +kernel
theorem dX7_stringEnd_6 : decode cX7_stringEnd 6 = .ok (.getfield 30, 3) := by decide +kernel
theorem dX7_stringEnd_9 : decode cX7_stringEnd 9 = .ok (.iconst 1, 1) := by decide +kernel
theorem dX7_stringEnd_10 : decode cX7_stringEnd 10 = .ok (.iadd, 1) := by decide +kernel
theorem dX7_stringEnd_11 : decode cX7_stringEnd 11 = .ok (.istore_n 2, 1) := by decide +kernel
theorem dX7_stringEnd_12 : decode cX7_stringEnd 12 = .ok (.iload_n 2, 1) := by decide +kernel
theorem dX7_stringEnd_13 : decode cX7_stringEnd 13 = .ok (.aload_n 0, 1) := by decide +kernel
theorem dX7_stringEnd_14 : decode cX7_stringEnd 14 = .ok (.getfield 26, 3) := by decide +kernel
theorem dX7_stringEnd_17 : decode cX7_stringEnd 17 = .ok (.if_icmp .ge 38, 3) := by decide +kernel
theorem dX7_stringEnd_55 : decode cX7_stringEnd 55 = .ok (.iload_n 2, 1) := by decide +kernel
theorem dX7_stringEnd_56 : decode cX7_stringEnd 56 = .ok (.aload_n 0, 1) := by decide +kernel
theorem dX7_stringEnd_57 : decode cX7_stringEnd 57 = .ok (.getfield 26, 3) := by decide +kernel
theorem dX7_stringEnd_60 : decode cX7_stringEnd 60 = .ok (.if_icmp .lt 16, 3) := by decide +kernel
theorem dX7_stringEnd_76 : decode cX7_stringEnd 76 = .ok (.iload_n 2, 1) := by decide +kernel
theorem dX7_stringEnd_77 : decode cX7_stringEnd 77 = .ok (.ireturn, 1) := by decide +kernel
theorem dX7_stringEnd_63 : decode cX7_stringEnd 63 = .ok (.aload_n 0, 1) := by decide +kernel
theorem dX7_stringEnd_64 : decode cX7_stringEnd 64 = .ok (.iconst 1, 1) := by decide +kernel
theorem dX7_stringEnd_65 : decode cX7_stringEnd 65 = .ok (.aload_n 0, 1) := by decide +kernel
theorem dX7_stringEnd_66 : decode cX7_stringEnd 66 = .ok (.aload_n 0, 1) := by decide +kernel
theorem dX7_stringEnd_67 : decode cX7_stringEnd 67 = .ok (.getfield 26, 3) := by decide +kernel
theorem dX7_stringEnd_70 : decode cX7_stringEnd 70 = .ok (.invokevirtual 125, 3) := by decide +kernel
theorem dX7_stringEnd_73 : decode cX7_stringEnd 73 = .ok (.invokevirtual 105, 3) := by decide +kernel
theorem dX7_stringEnd_20 : decode cX7_stringEnd 20 = .ok (.aload_n 0, 1) := by decide +kernel
theorem dX7_stringEnd_21 : decode cX7_stringEnd 21 = .ok (.iload_n 2, 1) := by decide +kernel
theorem dX7_stringEnd_22 : decode cX7_stringEnd 22 = .ok (.invokevirtual 122, 3) := by decide +kernel
theorem dX7_stringEnd_25 : decode cX7_stringEnd 25 = .ok (.iload_n 1, 1) := by decide +kernel
theorem dX7_stringEnd_26 : decode cX7_stringEnd 26 = .ok (.if_icmp .eq 29, 3) := by decide +kernel
theorem dX7_stringEnd_29 : decode cX7_stringEnd 29 = .ok (.aload_n 0, 1) := by decide +kernel
theorem dX7_stringEnd_30 : decode cX7_stringEnd 30 = .ok (.iload_n 2, 1) := by decide +kernel
theorem dX7_stringEnd_31 : decode cX7_stringEnd 31 = .ok (.invokevirtual 122, 3) := by decide +kernel
theorem dX7_stringEnd_34 : decode cX7_stringEnd 34 = .ok (.bipush 10, 2) := by decide +kernel
theorem dX7_stringEnd_36 : decode cX7_stringEnd 36 = .ok (.if_icmp .ne 13, 3) := by decide +kernel
theorem dX7_stringEnd_49 : decode cX7_stringEnd 49 = .ok (.iinc 2 1, 3) := by decide +kernel
theorem dX7_stringEnd_52 : decode cX7_stringEnd 52 = .ok (.goto (-40), 3) := by decide +kernel
theorem dX7_stringEnd_39 : decode cX7_stringEnd 39 = .ok (.aload_n 0, 1) := by decide +kernel
theorem dX7_stringEnd_40 : decode cX7_stringEnd 40 = .ok (.iconst 1, 1) := by decide +kernel
theorem dX7_stringEnd_41 : decode cX7_stringEnd 41 = .ok (.aload_n 0, 1) := by decide +kernel
theorem dX7_stringEnd_42 : decode cX7_stringEnd 42 = .ok (.iload_n 2, 1) := by decide +kernel
theorem dX7_stringEnd_43 : decode cX7_stringEnd 43 = .ok (.invokevirtual 125, 3) := by decide +kernel
theorem dX7_stringEnd_46 : decode cX7_stringEnd 46 = .ok (.invokevirtual 105, 3) := by decide +kernel
theorem dX12_isRow_0 : decode cX12_isRow 0 = .ok (.iload_n 0, 1) := by decide +kernel
theorem dX12_isRow_1 : decode cX12_isRow 1 = .ok (.bipush 97, 2) := by decide +kernel
theorem dX12_isRow_3 : decode cX12_isRow 3 = .ok (.if_icmp .lt 9, 3) := by decide +kernel
theorem dX12_isRow_47 : decode cX12_isRow 47 = .ok (.ireturn, 1) := by decide +kernel
theorem dX12_isRow_42 : decode cX12_isRow 42 = .ok (.iconst 1, 1) := by decide +kernel
theorem dX12_isRow_43 : decode cX12_isRow 43 = .ok (.goto 4, 3) := by decide +kernel
theorem dX12_isRow_12 : decode cX12_isRow 12 = .ok (.iload_n 0, 1) := by decide +kernel
theorem dX12_isRow_13 : decode cX12_isRow 13 = .ok (.bipush 65, 2) := by decide +kernel
theorem dX12_isRow_15 : decode cX12_isRow 15 = .ok (.if_icmp .lt 9, 3) := by decide +kernel
theorem dX12_isRow_24 : decode cX12_isRow 24 = .ok (.iload_n 0, 1) := by decide +kernel
theorem dX12_isRow_25 : decode cX12_isRow 25 = .ok (.bipush 95, 2) := by decide +kernel
theorem dX12_isRow_27 : decode cX12_isRow 27 = .ok (.if_icmp .eq 15, 3) := by decide +kernel
theorem dX12_isRow_30 : decode cX12_isRow 30 = .ok (.iload_n 0, 1) := by decide +kernel
theorem dX12_isRow_31 : decode cX12_isRow 31 = .ok (.bipush 48, 2) := by decide +kernel
theorem dX12_isRow_33 : decode cX12_isRow 33 = .ok (.if_icmp .lt 13, 3) := by decide +kernel
theorem dX12_isRow_46 : decode cX12_isRow 46 = .ok (.iconst 0, 1) := by decide +kernel
theorem dX12_isRow_36 : decode cX12_isRow 36 = .ok (.iload_n 0, 1) := by decide +kernel
theorem dX12_isRow_37 : decode cX12_isRow 37 = .ok (.bipush 57, 2) := by decide +kernel
theorem dX12_isRow_39 : decode cX12_isRow 39 = .ok (.if_icmp .gt 7, 3) := by decide +kernel
theorem dX12_isRow_18 : decode cX12_isRow 18 = .ok (.iload_n 0, 1) := by decide +kernel
theorem dX12_isRow_19 : decode cX12_isRow 19 = .ok (.bipush 90, 2) := by decide +kernel
theorem dX12_isRow_21 : decode cX12_isRow 21 = .ok (.if_icmp .le 21, 3) := by decide +kernel
theorem dX12_isRow_6 : decode cX12_isRow 6 = .ok (.iload_n 0, 1) := by decide +kernel
theorem dX12_isRow_7 : decode cX12_isRow 7 = .ok (.bipush 122, 2) := by decide +kernel
theorem dX12_isRow_9 : decode cX12_isRow 9 = .ok (.if_icmp .le 33, 3) := by decide +kernel
theorem dX1_delimiter_0 : decode cX1_delimiter 0 = .ok (.aload_n 0, 1) := by decide +kernel
theorem dX1_delimiter_1 : decode cX1_delimiter 1 = .ok (.getfield 68, 3) := by decide +kernel
theorem dX1_delimiter_4 : decode cX1_delimiter 4 = .ok (.invokevirtual 90, 3) := by decide +kernel
theorem dX1_delimiter_7 : decode cX1_delimiter 7 = .ok (.aload_n 0, 1) := by decide +kernel
theorem dX1_delimiter_8 : decode cX1_delimiter 8 = .ok (.getfield 68, 3) := by decide +kernel
theorem dX1_delimiter_11 : decode cX1_delimiter 11 = .ok (.invokevirtual 165, 3) := by decide +kernel
theorem dX1_delimiter_14 : decode cX1_delimiter 14 = .ok (.bipush 34, 2) := by decide +kernel
theorem dX1_delimiter_16 : decode cX1_delimiter 16 = .ok (.if_icmp .eq 18, 3) := by decide +kernel
theorem dX1_delimiter_34 : decode cX1_delimiter 34 = .ok (.aload_n 0, 1) := by decide +kernel
theorem dX1_delimiter_35 : decode cX1_delimiter 35 = .ok (.getfield 68, 3) := by decide +kernel
theorem dX1_delimiter_38 : decode cX1_delimiter 38 = .ok (.invokevirtual 181, 3) := by decide +kernel
theorem dX1_delimiter_41 : decode cX1_delimiter 41 = .ok (.istore_n 1, 1) := by decide +kernel
theorem dX1_delimiter_42 : decode cX1_delimiter 42 = .ok (.aload_n 0, 1) := by decide +kernel
theorem dX1_delimiter_43 : decode cX1_delimiter 43 = .ok (.getfield 68, 3) := by decide +kernel
theorem dX1_delimiter_46 : decode cX1_delimiter 46 = .ok (.aload_n 0, 1) := by decide +kernel
theorem dX1_delimiter_47 : decode cX1_delimiter 47 = .ok (.getfield 68, 3) := by decide +kernel
theorem dX1_delimiter_50 : decode cX1_delimiter 50 = .ok (.getfield 95, 3) := by decide +kernel
theorem dX1_delimiter_53 : decode cX1_delimiter 53 = .ok (.iconst 1, 1) := by decide +kernel
theorem dX1_delimiter_54 : decode cX1_delimiter 54 = .ok (.iadd, 1) := by decide +kernel
theorem dX1_delimiter_55 : decode cX1_delimiter 55 = .ok (.invokevirtual 184, 3) := by decide +kernel
theorem dX1_delimiter_58 : decode cX1_delimiter 58 = .ok (.istore_n 2, 1) := by decide +kernel
theorem dX1_delimiter_59 : decode cX1_delimiter 59 = .ok (.iload_n 1, 1) := by decide +kernel
theorem dX1_delimiter_60 : decode cX1_delimiter 60 = .ok (.aload_n 0, 1) := by decide +kernel
theorem dX1_delimiter_61 : decode cX1_delimiter 61 = .ok (.getfield 68, 3) := by decide +kernel
theorem dX1_delimiter_64 : decode cX1_delimiter 64 = .ok (.getfield 95, 3) := by decide +kernel
theorem dX1_delimiter_67 : decode cX1_delimiter 67 = .ok (.iconst 2, 1) := by decide +kernel
theorem dX1_delimiter_68 : decode cX1_delimiter 68 = .ok (.iadd, 1) := by decide +kernel
theorem dX1_delimiter_69 : decode cX1_delimiter 69 = .ok (.if_icmp .ne 26, 3) := by decide +kernel
theorem dX1_delimiter_96 : decode cX1_delimiter 96 = .ok (.istore_n 3, 1) := by decide +kernel
theorem dX1_delimiter_97 : decode cX1_delimiter 97 = .ok (.iload_n 3, 1) := by decide +kernel
theorem dX1_delimiter_98 : decode cX1_delimiter 98 = .ok (.ifCond .eq 13, 3) := by decide +kernel
theorem dX1_delimiter_126 : decode cX1_delimiter 126 = .ok (.aload_n 0, 1) := by decide +kernel
theorem dX1_delimiter_127 : decode cX1_delimiter 127 = .ok (.getfield 68, 3) := by decide +kernel
theorem dX1_delimiter_130 : decode cX1_delimiter 130 = .ok (.iload_n 1, 1) := by decide +kernel
theorem dX1_delimiter_131 : decode cX1_delimiter 131 = .ok (.iconst 1, 1) := by decide +kernel
theorem dX1_delimiter_132 : decode cX1_delimiter 132 = .ok (.iadd, 1) := by decide +kernel
theorem dX1_delimiter_133 : decode cX1_delimiter 133 = .ok (.putfield 95, 3) := by decide +kernel
theorem dX1_delimiter_136 : decode cX1_delimiter 136 = .ok (.iload_n 2, 1) := by decide +kernel
theorem dX1_delimiter_137 : decode cX1_delimiter 137 = .ok (.ireturn, 1) := by decide +kernel
theorem dX1_delimiter_111 : decode cX1_delimiter 111 = .ok (.aload_n 0, 1) := by decide +kernel
theorem dX1_delimiter_112 : decode cX1_delimiter 112 = .ok (.getfield 68, 3) := by decide +kernel
theorem dX1_delimiter_115 : decode cX1_delimiter 115 = .ok (.iconst 2, 1) := by decide +kernel
theorem dX1_delimiter_116 : decode cX1_delimiter 116 = .ok (.aload_n 0, 1) := by decide +kernel
theorem dX1_delimiter_117 : decode cX1_delimiter 117 = .ok (.getfield 68, 3) := by decide +kernel
theorem dX1_delimiter_120 : decode cX1_delimiter 120 = .ok (.getfield 95, 3) := by decide +kernel
theorem dX1_delimiter_123 : decode cX1_delimiter 123 = .ok (.invokevirtual 168, 3) := by decide +kernel
theorem dX1_delimiter_101 : decode cX1_delimiter 101 = .ok (.ldc 190, 2) := by decide +kernel
theorem dX7_isBecomes_0 : decode cX7_isBecomes 0 = .ok (.aload_n 0, 1) := by decide +kernel
theorem dX7_isBecomes_1 : decode cX7_isBecomes 1 = .ok (.aload_n 0, 1) := by decide +kernel
theorem dX7_isBecomes_2 : decode cX7_isBecomes 2 = .ok (.getfield 30, 3) := by decide +kernel
theorem dX7_isBecomes_5 : decode cX7_isBecomes 5 = .ok (.invokevirtual 122, 3) := by decide +kernel
theorem dX7_isBecomes_8 : decode cX7_isBecomes 8 = .ok (.bipush 58, 2) := by decide +kernel
theorem dX7_isBecomes_10 : decode cX7_isBecomes 10 = .ok (.if_icmp .ne 37, 3) := by decide +kernel
theorem dX7_isBecomes_48 : decode cX7_isBecomes 48 = .ok (.ireturn, 1) := by decide +kernel
theorem dX7_isBecomes_47 : decode cX7_isBecomes 47 = .ok (.iconst 0, 1) := by decide +kernel
theorem dX7_isBecomes_13 : decode cX7_isBecomes 13 = .ok (.aload_n 0, 1) := by decide +kernel
theorem dX7_isBecomes_14 : decode cX7_isBecomes 14 = .ok (.aload_n 0, 1) := by decide +kernel
theorem dX7_isBecomes_15 : decode cX7_isBecomes 15 = .ok (.getfield 30, 3) := by decide +kernel
theorem dX7_isBecomes_18 : decode cX7_isBecomes 18 = .ok (.iconst 1, 1) := by decide +kernel
theorem dX7_isBecomes_19 : decode cX7_isBecomes 19 = .ok (.iadd, 1) := by decide +kernel
theorem dX7_isBecomes_20 : decode cX7_isBecomes 20 = .ok (.invokevirtual 122, 3) := by decide +kernel
theorem dX7_isBecomes_23 : decode cX7_isBecomes 23 = .ok (.bipush 58, 2) := by decide +kernel
theorem dX7_isBecomes_25 : decode cX7_isBecomes 25 = .ok (.if_icmp .ne 22, 3) := by decide +kernel
theorem dX7_isBecomes_28 : decode cX7_isBecomes 28 = .ok (.aload_n 0, 1) := by decide +kernel
theorem dX7_isBecomes_29 : decode cX7_isBecomes 29 = .ok (.aload_n 0, 1) := by decide +kernel
theorem dX7_isBecomes_30 : decode cX7_isBecomes 30 = .ok (.getfield 30, 3) := by decide +kernel
theorem dX7_isBecomes_33 : decode cX7_isBecomes 33 = .ok (.iconst 2, 1) := by decide +kernel
theorem dX7_isBecomes_34 : decode cX7_isBecomes 34 = .ok (.iadd, 1) := by decide +kernel
theorem dX7_isBecomes_35 : decode cX7_isBecomes 35 = .ok (.invokevirtual 122, 3) := by decide +kernel
theorem dX7_isBecomes_38 : decode cX7_isBecomes 38 = .ok (.bipush 61, 2) := by decide +kernel
theorem dX7_isBecomes_40 : decode cX7_isBecomes 40 = .ok (.if_icmp .ne 7, 3) := by decide +kernel
theorem dX7_isBecomes_43 : decode cX7_isBecomes 43 = .ok (.iconst 1, 1) := by decide +kernel
theorem dX7_isBecomes_44 : decode cX7_isBecomes 44 = .ok (.goto 4, 3) := by decide +kernel
theorem dX7_sign_0 : decode cX7_sign 0 = .ok (.aload_n 0, 1) := by decide +kernel
theorem dX7_sign_1 : decode cX7_sign 1 = .ok (.invokevirtual 142, 3) := by decide +kernel
theorem dX7_sign_4 : decode cX7_sign 4 = .ok (.aload_n 0, 1) := by decide +kernel
theorem dX7_sign_5 : decode cX7_sign 5 = .ok (.invokevirtual 112, 3) := by decide +kernel
theorem dX7_sign_8 : decode cX7_sign 8 = .ok (.iload_n 1, 1) := by decide +kernel
theorem dX7_sign_9 : decode cX7_sign 9 = .ok (.if_icmp .ne 10, 3) := by decide +kernel
theorem dX7_sign_28 : decode cX7_sign 28 = .ok (.aload_n 0, 1) := by decide +kernel
theorem dX7_sign_29 : decode cX7_sign 29 = .ok (.dup, 1) := by decide +kernel
theorem dX7_sign_30 : decode cX7_sign 30 = .ok (.getfield 30, 3) := by decide +kernel
theorem dX7_sign_33 : decode cX7_sign 33 = .ok (.iconst 1, 1) := by decide +kernel
theorem dX7_sign_34 : decode cX7_sign 34 = .ok (.iadd, 1) := by decide +kernel
theorem dX7_sign_35 : decode cX7_sign 35 = .ok (.putfield 30, 3) := by decide +kernel
theorem dX7_sign_38 : decode cX7_sign 38 = .ok (.return_, 1) := by decide +kernel
theorem dX7_sign_19 : decode cX7_sign 19 = .ok (.aload_n 0, 1) := by decide +kernel
theorem dX7_sign_20 : decode cX7_sign 20 = .ok (.iconst 1, 1) := by decide +kernel
theorem dX7_sign_21 : decode cX7_sign 21 = .ok (.aload_n 0, 1) := by decide +kernel
theorem dX7_sign_22 : decode cX7_sign 22 = .ok (.getfield 30, 3) := by decide +kernel
theorem dX7_sign_25 : decode cX7_sign 25 = .ok (.invokevirtual 105, 3) := by decide +kernel
theorem dX7_sign_12 : decode cX7_sign 12 = .ok (.aload_n 0, 1) := by decide +kernel
theorem dX7_sign_13 : decode cX7_sign 13 = .ok (.invokevirtual 145, 3) := by decide +kernel
theorem dX7_sign_16 : decode cX7_sign 16 = .ok (.ifCond .eq 12, 3) := by decide +kernel
theorem dX1_isOnTheWay_0 : decode cX1_isOnTheWay 0 = .ok (.iconst 0, 1) := by decide +kernel
theorem dX1_isOnTheWay_1 : decode cX1_isOnTheWay 1 = .ok (.istore_n 2, 1) := by decide +kernel
theorem dX1_isOnTheWay_2 : decode cX1_isOnTheWay 2 = .ok (.iload_n 2, 1) := by decide +kernel
theorem dX1_isOnTheWay_3 : decode cX1_isOnTheWay 3 = .ok (.aload_n 0, 1) := by decide +kernel
theorem dX1_isOnTheWay_4 : decode cX1_isOnTheWay 4 = .ok (.getfield 41, 3) := by decide +kernel
theorem dX1_isOnTheWay_7 : decode cX1_isOnTheWay 7 = .ok (.if_icmp .ge 23, 3) := by decide +kernel
theorem dX1_isOnTheWay_30 : decode cX1_isOnTheWay 30 = .ok (.iconst 0, 1) := by decide +kernel
theorem dX1_isOnTheWay_31 : decode cX1_isOnTheWay 31 = .ok (.ireturn, 1) := by decide +kernel
theorem dX1_isOnTheWay_10 : decode cX1_isOnTheWay 10 = .ok (.aload_n 0, 1) := by decide +kernel
theorem dX1_isOnTheWay_11 : decode cX1_isOnTheWay 11 = .ok (.getfield 35, 3) := by decide +kernel
theorem dX1_isOnTheWay_14 : decode cX1_isOnTheWay 14 = .ok (.iload_n 2, 1) := by decide +kernel
theorem dX1_isOnTheWay_15 : decode cX1_isOnTheWay 15 = .ok (.invokestatic 101, 3) := by decide +kernel
theorem dX1_isOnTheWay_18 : decode cX1_isOnTheWay 18 = .ok (.iload_n 1, 1) := by decide +kernel
theorem dX1_isOnTheWay_19 : decode cX1_isOnTheWay 19 = .ok (.if_icmp .ne 5, 3) := by decide +kernel
theorem dX1_isOnTheWay_24 : decode cX1_isOnTheWay 24 = .ok (.iinc 2 1, 3) := by decide +kernel
theorem dX1_isOnTheWay_27 : decode cX1_isOnTheWay 27 = .ok (.goto (-25), 3) := by decide +kernel
theorem dX1_isOnTheWay_22 : decode cX1_isOnTheWay 22 = .ok (.iconst 1, 1) := by decide +kernel
theorem dX1_isOnTheWay_23 : decode cX1_isOnTheWay 23 = .ok (.ireturn, 1) := by decide +kernel
theorem dX4_note_0 : decode cX4_note 0 = .ok (.aload_n 0, 1) := by decide +kernel
theorem dX4_note_1 : decode cX4_note 1 = .ok (.getfield 13, 3) := by decide +kernel
theorem dX4_note_4 : decode cX4_note 4 = .ok (.iload_n 1, 1) := by decide +kernel
theorem dX4_note_5 : decode cX4_note 5 = .ok (.invokestatic 35, 3) := by decide +kernel
theorem dX4_note_8 : decode cX4_note 8 = .ok (.istore_n 3, 1) := by decide +kernel
theorem dX4_note_9 : decode cX4_note 9 = .ok (.iconst 0, 1) := by decide +kernel
theorem dX4_note_10 : decode cX4_note 10 = .ok (.istore 4, 2) := by decide +kernel
theorem dX4_note_12 : decode cX4_note 12 = .ok (.iload 4, 2) := by decide +kernel
theorem dX4_note_14 : decode cX4_note 14 = .ok (.iload_n 3, 1) := by decide +kernel
theorem dX4_note_15 : decode cX4_note 15 = .ok (.if_icmp .ge 28, 3) := by decide +kernel
theorem dX4_note_43 : decode cX4_note 43 = .ok (.iload_n 3, 1) := by decide +kernel
theorem dX4_note_44 : decode cX4_note 44 = .ok (.bipush 8, 2) := by decide +kernel
theorem dX4_note_46 : decode cX4_note 46 = .ok (.if_icmp .ge 28, 3) := by decide +kernel
theorem dX4_note_74 : decode cX4_note 74 = .ok (.return_, 1) := by decide +kernel
theorem dX4_note_49 : decode cX4_note 49 = .ok (.aload_n 0, 1) := by decide +kernel
theorem dX4_note_50 : decode cX4_note 50 = .ok (.getfield 7, 3) := by decide +kernel
theorem dX4_note_53 : decode cX4_note 53 = .ok (.bipush 8, 2) := by decide +kernel
theorem dX4_note_55 : decode cX4_note 55 = .ok (.iload_n 1, 1) := by decide +kernel
theorem dX4_note_56 : decode cX4_note 56 = .ok (.imul, 1) := by decide +kernel
theorem dX4_note_57 : decode cX4_note 57 = .ok (.iload_n 3, 1) := by decide +kernel
theorem dX4_note_58 : decode cX4_note 58 = .ok (.iadd, 1) := by decide +kernel
theorem dX4_note_59 : decode cX4_note 59 = .ok (.iload_n 2, 1) := by decide +kernel
theorem dX4_note_60 : decode cX4_note 60 = .ok (.invokestatic 41, 3) := by decide +kernel
theorem dX4_note_63 : decode cX4_note 63 = .ok (.aload_n 0, 1) := by decide +kernel
theorem dX4_note_64 : decode cX4_note 64 = .ok (.getfield 13, 3) := by decide +kernel
theorem dX4_note_67 : decode cX4_note 67 = .ok (.iload_n 1, 1) := by decide +kernel
theorem dX4_note_68 : decode cX4_note 68 = .ok (.iload_n 3, 1) := by decide +kernel
theorem dX4_note_69 : decode cX4_note 69 = .ok (.iconst 1, 1) := by decide +kernel
theorem dX4_note_70 : decode cX4_note 70 = .ok (.iadd, 1) := by decide +kernel
theorem dX4_note_71 : decode cX4_note 71 = .ok (.invokestatic 41, 3) := by decide +kernel
theorem dX4_note_18 : decode cX4_note 18 = .ok (.aload_n 0, 1) := by decide +kernel
theorem dX4_note_19 : decode cX4_note 19 = .ok (.getfield 7, 3) := by decide +kernel
theorem dX4_note_22 : decode cX4_note 22 = .ok (.bipush 8, 2) := by decide +kernel
theorem dX4_note_24 : decode cX4_note 24 = .ok (.iload_n 1, 1) := by decide +kernel
theorem dX4_note_25 : decode cX4_note 25 = .ok (.imul, 1) := by decide +kernel
theorem dX4_note_26 : decode cX4_note 26 = .ok (.iload 4, 2) := by decide +kernel
theorem dX4_note_28 : decode cX4_note 28 = .ok (.iadd, 1) := by decide +kernel
theorem dX4_note_29 : decode cX4_note 29 = .ok (.invokestatic 35, 3) := by decide +kernel
theorem dX4_note_32 : decode cX4_note 32 = .ok (.iload_n 2, 1) := by decide +kernel
theorem dX4_note_33 : decode cX4_note 33 = .ok (.if_icmp .ne 4, 3) := by decide +kernel
theorem dX4_note_37 : decode cX4_note 37 = .ok (.iinc 4 1, 3) := by decide +kernel
theorem dX4_note_40 : decode cX4_note 40 = .ok (.goto (-28), 3) := by decide +kernel
theorem dX4_note_36 : decode cX4_note 36 = .ok (.return_, 1) := by decide +kernel
theorem dX12_isLetter_0 : decode cX12_isLetter 0 = .ok (.iload_n 0, 1) := by decide +kernel
theorem dX12_isLetter_1 : decode cX12_isLetter 1 = .ok (.bipush 97, 2) := by decide +kernel
theorem dX12_isLetter_3 : decode cX12_isLetter 3 = .ok (.if_icmp .lt 9, 3) := by decide +kernel
theorem dX12_isLetter_35 : decode cX12_isLetter 35 = .ok (.ireturn, 1) := by decide +kernel
theorem dX12_isLetter_30 : decode cX12_isLetter 30 = .ok (.iconst 1, 1) := by decide +kernel
theorem dX12_isLetter_31 : decode cX12_isLetter 31 = .ok (.goto 4, 3) := by decide +kernel
theorem dX12_isLetter_12 : decode cX12_isLetter 12 = .ok (.iload_n 0, 1) := by decide +kernel
theorem dX12_isLetter_13 : decode cX12_isLetter 13 = .ok (.bipush 65, 2) := by decide +kernel
theorem dX12_isLetter_15 : decode cX12_isLetter 15 = .ok (.if_icmp .lt 9, 3) := by decide +kernel
theorem dX12_isLetter_24 : decode cX12_isLetter 24 = .ok (.iload_n 0, 1) := by decide +kernel
theorem dX12_isLetter_25 : decode cX12_isLetter 25 = .ok (.bipush 95, 2) := by decide +kernel
theorem dX12_isLetter_27 : decode cX12_isLetter 27 = .ok (.if_icmp .ne 7, 3) := by decide +kernel
theorem dX12_isLetter_34 : decode cX12_isLetter 34 = .ok (.iconst 0, 1) := by decide +kernel
theorem dX12_isLetter_18 : decode cX12_isLetter 18 = .ok (.iload_n 0, 1) := by decide +kernel
theorem dX12_isLetter_19 : decode cX12_isLetter 19 = .ok (.bipush 90, 2) := by decide +kernel
theorem dX12_isLetter_21 : decode cX12_isLetter 21 = .ok (.if_icmp .le 9, 3) := by decide +kernel
theorem dX12_isLetter_6 : decode cX12_isLetter 6 = .ok (.iload_n 0, 1) := by decide +kernel
theorem dX12_isLetter_7 : decode cX12_isLetter 7 = .ok (.bipush 122, 2) := by decide +kernel
theorem dX12_isLetter_9 : decode cX12_isLetter 9 = .ok (.if_icmp .le 21, 3) := by decide +kernel
theorem dX12_wordIn_0 : decode cX12_wordIn 0 = .ok (.iload_n 2, 1) := by decide +kernel
theorem dX12_wordIn_1 : decode cX12_wordIn 1 = .ok (.ifCond .lt 16, 3) := by decide +kernel
theorem dX12_wordIn_17 : decode cX12_wordIn 17 = .ok (.iconst (-1), 1) := by decide +kernel
theorem dX12_wordIn_18 : decode cX12_wordIn 18 = .ok (.ireturn, 1) := by decide +kernel
theorem dX12_wordIn_4 : decode cX12_wordIn 4 = .ok (.iload_n 3, 1) := by decide +kernel
theorem dX12_wordIn_5 : decode cX12_wordIn 5 = .ok (.iconst 1, 1) := by decide +kernel
theorem dX12_wordIn_6 : decode cX12_wordIn 6 = .ok (.if_icmp .lt 11, 3) := by decide +kernel
theorem dX12_wordIn_9 : decode cX12_wordIn 9 = .ok (.iload_n 2, 1) := by decide +kernel
theorem dX12_wordIn_10 : decode cX12_wordIn 10 = .ok (.aload_n 1, 1) := by decide +kernel
theorem dX12_wordIn_11 : decode cX12_wordIn 11 = .ok (.arraylength, 1) := by decide +kernel
theorem dX12_wordIn_12 : decode cX12_wordIn 12 = .ok (.iload_n 3, 1) := by decide +kernel
theorem dX12_wordIn_13 : decode cX12_wordIn 13 = .ok (.isub, 1) := by decide +kernel
theorem dX12_wordIn_14 : decode cX12_wordIn 14 = .ok (.if_icmp .le 5, 3) := by decide +kernel
theorem dX12_wordIn_19 : decode cX12_wordIn 19 = .ok (.iconst 0, 1) := by decide +kernel
theorem dX12_wordIn_20 : decode cX12_wordIn 20 = .ok (.istore 4, 2) := by decide +kernel
theorem dX12_wordIn_22 : decode cX12_wordIn 22 = .ok (.iconst 0, 1) := by decide +kernel
theorem dX12_wordIn_23 : decode cX12_wordIn 23 = .ok (.istore 5, 2) := by decide +kernel
theorem dX12_wordIn_25 : decode cX12_wordIn 25 = .ok (.iconst 0, 1) := by decide +kernel
theorem dX12_wordIn_26 : decode cX12_wordIn 26 = .ok (.istore 6, 2) := by decide +kernel
theorem dX12_wordIn_28 : decode cX12_wordIn 28 = .ok (.iload 6, 2) := by decide +kernel
theorem dX12_wordIn_30 : decode cX12_wordIn 30 = .ok (.aload_n 0, 1) := by decide +kernel
theorem dX12_wordIn_31 : decode cX12_wordIn 31 = .ok (.invokevirtual 257, 3) := by decide +kernel
theorem dX7_here_0 : decode cX7_here 0 = .ok (.aload_n 0, 1) := by decide +kernel
theorem dX7_here_1 : decode cX7_here 1 = .ok (.getfield 15, 3) := by decide +kernel
theorem dX7_here_4 : decode cX7_here 4 = .ok (.ifCond .eq 10, 3) := by decide +kernel
theorem dX7_here_46 : decode cX7_here 46 = .ok (.ireturn, 1) := by decide +kernel
theorem dX7_here_14 : decode cX7_here 14 = .ok (.aload_n 0, 1) := by decide +kernel
theorem dX7_here_15 : decode cX7_here 15 = .ok (.getfield 30, 3) := by decide +kernel
theorem dX7_here_18 : decode cX7_here 18 = .ok (.ifCond .lt 27, 3) := by decide +kernel
theorem dX7_here_45 : decode cX7_here 45 = .ok (.iconst 0, 1) := by decide +kernel
theorem dX7_here_21 : decode cX7_here 21 = .ok (.aload_n 0, 1) := by decide +kernel
theorem dX7_here_22 : decode cX7_here 22 = .ok (.getfield 30, 3) := by decide +kernel
theorem dX7_here_25 : decode cX7_here 25 = .ok (.aload_n 0, 1) := by decide +kernel
theorem dX7_here_26 : decode cX7_here 26 = .ok (.getfield 22, 3) := by decide +kernel
theorem dX7_here_29 : decode cX7_here 29 = .ok (.arraylength, 1) := by decide +kernel
theorem dX7_here_30 : decode cX7_here 30 = .ok (.if_icmp .ge 15, 3) := by decide +kernel
theorem dX7_here_33 : decode cX7_here 33 = .ok (.aload_n 0, 1) := by decide +kernel
theorem dX7_here_34 : decode cX7_here 34 = .ok (.getfield 22, 3) := by decide +kernel
theorem dX7_here_37 : decode cX7_here 37 = .ok (.aload_n 0, 1) := by decide +kernel
theorem dX7_here_38 : decode cX7_here 38 = .ok (.getfield 30, 3) := by decide +kernel
theorem dX7_here_41 : decode cX7_here 41 = .ok (.iaload, 1) := by decide +kernel
theorem dX7_here_42 : decode cX7_here 42 = .ok (.goto 4, 3) := by decide +kernel
theorem dX7_here_7 : decode cX7_here 7 = .ok (.aload_n 0, 1) := by decide +kernel
theorem dX7_here_8 : decode cX7_here 8 = .ok (.getfield 30, 3) := by decide +kernel
theorem dX7_here_11 : decode cX7_here 11 = .ok (.goto 35, 3) := by decide +kernel
theorem dX7_take_0 : decode cX7_take 0 = .ok (.aload_n 0, 1) := by decide +kernel
theorem dX7_take_1 : decode cX7_take 1 = .ok (.getfield 30, 3) := by decide +kernel
theorem dX7_take_4 : decode cX7_take 4 = .ok (.istore_n 3, 1) := by decide +kernel
theorem dX7_take_5 : decode cX7_take 5 = .ok (.aload_n 0, 1) := by decide +kernel
theorem dX7_take_6 : decode cX7_take 6 = .ok (.iload_n 1, 1) := by decide +kernel
theorem dX7_take_7 : decode cX7_take 7 = .ok (.putfield 30, 3) := by decide +kernel
theorem dX7_take_10 : decode cX7_take 10 = .ok (.aload_n 2, 1) := by decide +kernel
theorem dX7_take_11 : decode cX7_take 11 = .ok (.aload_n 0, 1) := by decide +kernel
theorem dX7_take_12 : decode cX7_take 12 = .ok (.getfield 9, 3) := by decide +kernel
theorem dX7_take_15 : decode cX7_take 15 = .ok (.iload_n 3, 1) := by decide +kernel
theorem dX7_take_16 : decode cX7_take 16 = .ok (.iload_n 1, 1) := by decide +kernel
theorem dX7_take_17 : decode cX7_take 17 = .ok (.iload_n 3, 1) := by decide +kernel
theorem dX7_take_18 : decode cX7_take 18 = .ok (.isub, 1) := by decide +kernel
theorem dX7_take_19 : decode cX7_take 19 = .ok (.invokevirtual 118, 3) := by decide +kernel
theorem dX7_take_22 : decode cX7_take 22 = .ok (.ireturn, 1) := by decide +kernel
theorem dX2_newDef_0 : decode cX2_newDef 0 = .ok (.aload_n 0, 1) := by decide +kernel
theorem dX2_newDef_1 : decode cX2_newDef 1 = .ok (.getfield 47, 3) := by decide +kernel
theorem dX2_newDef_4 : decode cX2_newDef 4 = .ok (.bipush 7, 2) := by decide +kernel
theorem dX2_newDef_6 : decode cX2_newDef 6 = .ok (.imul, 1) := by decide +kernel
theorem dX2_newDef_7 : decode cX2_newDef 7 = .ok (.istore 5, 2) := by decide +kernel
theorem dX2_newDef_9 : decode cX2_newDef 9 = .ok (.aload_n 0, 1) := by decide +kernel
theorem dX2_newDef_10 : decode cX2_newDef 10 = .ok (.getfield 44, 3) := by decide +kernel
theorem dX2_newDef_13 : decode cX2_newDef 13 = .ok (.iload 5, 2) := by decide +kernel
theorem dX2_newDef_15 : decode cX2_newDef 15 = .ok (.iload_n 1, 1) := by decide +kernel
theorem dX2_newDef_16 : decode cX2_newDef 16 = .ok (.invokestatic 98, 3) := by decide +kernel
theorem dX2_newDef_19 : decode cX2_newDef 19 = .ok (.aload_n 0, 1) := by decide +kernel
theorem dX2_newDef_20 : decode cX2_newDef 20 = .ok (.getfield 44, 3) := by decide +kernel
theorem dX2_newDef_23 : decode cX2_newDef 23 = .ok (.iload 5, 2) := by decide +kernel
theorem dX2_newDef_25 : decode cX2_newDef 25 = .ok (.iconst 1, 1) := by decide +kernel
theorem dX2_newDef_26 : decode cX2_newDef 26 = .ok (.iadd, 1) := by decide +kernel
theorem dX2_newDef_27 : decode cX2_newDef 27 = .ok (.iload_n 2, 1) := by decide +kernel
theorem dX2_newDef_28 : decode cX2_newDef 28 = .ok (.invokestatic 98, 3) := by decide +kernel
theorem dX2_newDef_31 : decode cX2_newDef 31 = .ok (.aload_n 0, 1) := by decide +kernel
theorem dX2_newDef_32 : decode cX2_newDef 32 = .ok (.getfield 44, 3) := by decide +kernel
theorem dX2_newDef_35 : decode cX2_newDef 35 = .ok (.iload 5, 2) := by decide +kernel
theorem dX2_newDef_37 : decode cX2_newDef 37 = .ok (.iconst 2, 1) := by decide +kernel
theorem dX2_newDef_38 : decode cX2_newDef 38 = .ok (.iadd, 1) := by decide +kernel
theorem dX2_newDef_39 : decode cX2_newDef 39 = .ok (.iload_n 3, 1) := by decide +kernel
theorem dX2_newDef_40 : decode cX2_newDef 40 = .ok (.invokestatic 98, 3) := by decide +kernel
theorem dX2_newDef_43 : decode cX2_newDef 43 = .ok (.aload_n 0, 1) := by decide +kernel
theorem dX2_newDef_44 : decode cX2_newDef 44 = .ok (.getfield 44, 3) := by decide +kernel
theorem dX2_newDef_47 : decode cX2_newDef 47 = .ok (.iload 5, 2) := by decide +kernel
theorem dX2_newDef_49 : decode cX2_newDef 49 = .ok (.iconst 3, 1) := by decide +kernel
theorem dX2_newDef_50 : decode cX2_newDef 50 = .ok (.iadd, 1) := by decide +kernel
theorem dX2_newDef_51 : decode cX2_newDef 51 = .ok (.iload 4, 2) := by decide +kernel
theorem dX2_newDef_53 : decode cX2_newDef 53 = .ok (.invokestatic 98, 3) := by decide +kernel
theorem dX2_newDef_56 : decode cX2_newDef 56 = .ok (.aload_n 0, 1) := by decide +kernel
theorem dX2_newDef_57 : decode cX2_newDef 57 = .ok (.dup, 1) := by decide +kernel
theorem dX2_newDef_58 : decode cX2_newDef 58 = .ok (.getfield 47, 3) := by decide +kernel
theorem dX2_newDef_61 : decode cX2_newDef 61 = .ok (.iconst 1, 1) := by decide +kernel
theorem dX2_newDef_62 : decode cX2_newDef 62 = .ok (.iadd, 1) := by decide +kernel
theorem dX2_newDef_63 : decode cX2_newDef 63 = .ok (.putfield 47, 3) := by decide +kernel
theorem dX2_newDef_66 : decode cX2_newDef 66 = .ok (.iload 5, 2) := by decide +kernel
theorem dX2_newDef_68 : decode cX2_newDef 68 = .ok (.ireturn, 1) := by decide +kernel
theorem dX7_becomes_0 : decode cX7_becomes 0 = .ok (.aload_n 0, 1) := by decide +kernel
theorem dX7_becomes_1 : decode cX7_becomes 1 = .ok (.invokevirtual 142, 3) := by decide +kernel
theorem dX7_becomes_4 : decode cX7_becomes 4 = .ok (.aload_n 0, 1) := by decide +kernel
theorem dX7_becomes_5 : decode cX7_becomes 5 = .ok (.invokevirtual 145, 3) := by decide +kernel
theorem dX7_becomes_8 : decode cX7_becomes 8 = .ok (.ifCond .ne 12, 3) := by decide +kernel
theorem dX7_becomes_20 : decode cX7_becomes 20 = .ok (.aload_n 0, 1) := by decide +kernel
theorem dX7_becomes_21 : decode cX7_becomes 21 = .ok (.dup, 1) := by decide +kernel
theorem dX7_becomes_22 : decode cX7_becomes 22 = .ok (.getfield 30, 3) := by decide +kernel
theorem dX7_becomes_25 : decode cX7_becomes 25 = .ok (.iconst 3, 1) := by decide +kernel
theorem dX7_becomes_26 : decode cX7_becomes 26 = .ok (.iadd, 1) := by decide +kernel
theorem dX7_becomes_27 : decode cX7_becomes 27 = .ok (.putfield 30, 3) := by decide +kernel
theorem dX7_becomes_30 : decode cX7_becomes 30 = .ok (.return_, 1) := by decide +kernel
theorem dX7_becomes_11 : decode cX7_becomes 11 = .ok (.aload_n 0, 1) := by decide +kernel
theorem dX7_becomes_12 : decode cX7_becomes 12 = .ok (.iconst 1, 1) := by decide +kernel
theorem dX7_becomes_13 : decode cX7_becomes 13 = .ok (.aload_n 0, 1) := by decide +kernel
theorem dX7_becomes_14 : decode cX7_becomes 14 = .ok (.getfield 30, 3) := by decide +kernel
theorem dX7_becomes_17 : decode cX7_becomes 17 = .ok (.invokevirtual 105, 3) := by decide +kernel
theorem dX7_isSpace_0 : decode cX7_isSpace 0 = .ok (.iload_n 0, 1) := by decide +kernel
theorem dX7_isSpace_1 : decode cX7_isSpace 1 = .ok (.bipush 32, 2) := by decide +kernel
theorem dX7_isSpace_3 : decode cX7_isSpace 3 = .ok (.if_icmp .eq 9, 3) := by decide +kernel
theorem dX7_isSpace_17 : decode cX7_isSpace 17 = .ok (.ireturn, 1) := by decide +kernel
theorem dX7_isSpace_12 : decode cX7_isSpace 12 = .ok (.iconst 1, 1) := by decide +kernel
theorem dX7_isSpace_13 : decode cX7_isSpace 13 = .ok (.goto 4, 3) := by decide +kernel
theorem dX7_isSpace_6 : decode cX7_isSpace 6 = .ok (.iload_n 0, 1) := by decide +kernel
theorem dX7_isSpace_7 : decode cX7_isSpace 7 = .ok (.bipush 9, 2) := by decide +kernel
theorem dX7_isSpace_9 : decode cX7_isSpace 9 = .ok (.if_icmp .ne 7, 3) := by decide +kernel
theorem dX7_isSpace_16 : decode cX7_isSpace 16 = .ok (.iconst 0, 1) := by decide +kernel
theorem dX7_openBody_0 : decode cX7_openBody 0 = .ok (.iconst 0, 1) := by decide +kernel
theorem dX7_openBody_1 : decode cX7_openBody 1 = .ok (.istore 6, 2) := by decide +kernel
theorem dX7_openBody_3 : decode cX7_openBody 3 = .ok (.iload_n 1, 1) := by decide +kernel
theorem dX7_openBody_4 : decode cX7_openBody 4 = .ok (.istore 7, 2) := by decide +kernel
theorem dX7_openBody_6 : decode cX7_openBody 6 = .ok (.iload 7, 2) := by decide +kernel
theorem dX7_openBody_8 : decode cX7_openBody 8 = .ok (.iload_n 2, 1) := by decide +kernel
theorem dX7_openBody_9 : decode cX7_openBody 9 = .ok (.if_icmp .ge 95, 3) := by decide +kernel
theorem dX7_openBody_104 : decode cX7_openBody 104 = .ok (.aload_n 0, 1) := by decide +kernel
theorem dX7_openBody_105 : decode cX7_openBody 105 = .ok (.getfield 22, 3) := by decide +kernel
theorem dX7_openBody_108 : decode cX7_openBody 108 = .ok (.iload 6, 2) := by decide +kernel
theorem dX7_openBody_110 : decode cX7_openBody 110 = .ok (.iload 4, 2) := by decide +kernel
theorem dX7_openBody_112 : decode cX7_openBody 112 = .ok (.invokestatic 63, 3) := by decide +kernel
theorem dX7_openBody_115 : decode cX7_openBody 115 = .ok (.aload_n 0, 1) := by decide +kernel
theorem dX7_openBody_116 : decode cX7_openBody 116 = .ok (.aload_n 0, 1) := by decide +kernel
theorem dX7_openBody_117 : decode cX7_openBody 117 = .ok (.getfield 19, 3) := by decide +kernel
theorem dX7_openBody_120 : decode cX7_openBody 120 = .ok (.putfield 9, 3) := by decide +kernel
theorem dX7_openBody_123 : decode cX7_openBody 123 = .ok (.aload_n 0, 1) := by decide +kernel
theorem dX7_openBody_124 : decode cX7_openBody 124 = .ok (.iload 6, 2) := by decide +kernel
theorem dX7_openBody_126 : decode cX7_openBody 126 = .ok (.putfield 26, 3) := by decide +kernel
theorem dX7_openBody_129 : decode cX7_openBody 129 = .ok (.aload_n 0, 1) := by decide +kernel
theorem dX7_openBody_130 : decode cX7_openBody 130 = .ok (.iconst 0, 1) := by decide +kernel
theorem dX7_openBody_131 : decode cX7_openBody 131 = .ok (.putfield 30, 3) := by decide +kernel
theorem dX7_openBody_134 : decode cX7_openBody 134 = .ok (.aload_n 0, 1) := by decide +kernel
theorem dX7_openBody_135 : decode cX7_openBody 135 = .ok (.iconst 0, 1) := by decide +kernel
theorem dX7_openBody_136 : decode cX7_openBody 136 = .ok (.putfield 15, 3) := by decide +kernel
theorem dX7_openBody_139 : decode cX7_openBody 139 = .ok (.aload_n 0, 1) := by decide +kernel
theorem dX7_openBody_140 : decode cX7_openBody 140 = .ok (.iload 5, 2) := by decide +kernel
theorem dX7_openBody_142 : decode cX7_openBody 142 = .ok (.putfield 48, 3) := by decide +kernel
theorem dX7_openBody_145 : decode cX7_openBody 145 = .ok (.return_, 1) := by decide +kernel
theorem dX7_openBody_12 : decode cX7_openBody 12 = .ok (.iload 6, 2) := by decide +kernel
theorem dX7_openBody_14 : decode cX7_openBody 14 = .ok (.sipush 4000, 3) := by decide +kernel
theorem dX7_openBody_17 : decode cX7_openBody 17 = .ok (.if_icmp .ge 87, 3) := by decide +kernel
theorem dX7_openBody_20 : decode cX7_openBody 20 = .ok (.aload_n 0, 1) := by decide +kernel
theorem dX7_openBody_21 : decode cX7_openBody 21 = .ok (.getfield 42, 3) := by decide +kernel
theorem dX7_openBody_24 : decode cX7_openBody 24 = .ok (.iload 7, 2) := by decide +kernel
theorem dX7_openBody_26 : decode cX7_openBody 26 = .ok (.invokestatic 51, 3) := by decide +kernel
theorem dX7_openBody_29 : decode cX7_openBody 29 = .ok (.istore 8, 2) := by decide +kernel
theorem dX7_openBody_31 : decode cX7_openBody 31 = .ok (.iload_n 3, 1) := by decide +kernel
theorem dX7_openBody_32 : decode cX7_openBody 32 = .ok (.ifCond .eq 41, 3) := by decide +kernel
theorem dX7_openBody_73 : decode cX7_openBody 73 = .ok (.aload_n 0, 1) := by decide +kernel
theorem dX7_openBody_74 : decode cX7_openBody 74 = .ok (.getfield 19, 3) := by decide +kernel
theorem dX7_openBody_77 : decode cX7_openBody 77 = .ok (.iload 6, 2) := by decide +kernel
theorem dX7_openBody_79 : decode cX7_openBody 79 = .ok (.iload 8, 2) := by decide +kernel
theorem dX7_openBody_81 : decode cX7_openBody 81 = .ok (.invokestatic 59, 3) := by decide +kernel
theorem dX7_openBody_84 : decode cX7_openBody 84 = .ok (.aload_n 0, 1) := by decide +kernel
theorem dX7_openBody_85 : decode cX7_openBody 85 = .ok (.getfield 22, 3) := by decide +kernel
theorem dX7_openBody_88 : decode cX7_openBody 88 = .ok (.iload 6, 2) := by decide +kernel
theorem dX7_openBody_90 : decode cX7_openBody 90 = .ok (.iload 7, 2) := by decide +kernel
theorem dX7_openBody_92 : decode cX7_openBody 92 = .ok (.invokestatic 63, 3) := by decide +kernel
theorem dX7_openBody_95 : decode cX7_openBody 95 = .ok (.iinc 6 1, 3) := by decide +kernel
theorem dX7_openBody_98 : decode cX7_openBody 98 = .ok (.iinc 7 1, 3) := by decide +kernel
theorem dX7_openBody_101 : decode cX7_openBody 101 = .ok (.goto (-95), 3) := by decide +kernel
theorem dX7_openBody_35 : decode cX7_openBody 35 = .ok (.iload 8, 2) := by decide +kernel
theorem dX7_openBody_37 : decode cX7_openBody 37 = .ok (.bipush 10, 2) := by decide +kernel
theorem dX7_openBody_39 : decode cX7_openBody 39 = .ok (.if_icmp .ne 34, 3) := by decide +kernel
theorem dX7_openBody_42 : decode cX7_openBody 42 = .ok (.iload 7, 2) := by decide +kernel
theorem dX7_openBody_44 : decode cX7_openBody 44 = .ok (.iconst 1, 1) := by decide +kernel
theorem dX7_openBody_45 : decode cX7_openBody 45 = .ok (.iadd, 1) := by decide +kernel
theorem dX7_openBody_46 : decode cX7_openBody 46 = .ok (.iload_n 2, 1) := by decide +kernel
theorem dX7_openBody_47 : decode cX7_openBody 47 = .ok (.if_icmp .ge 51, 3) := by decide +kernel
theorem dX7_openBody_50 : decode cX7_openBody 50 = .ok (.aload_n 0, 1) := by decide +kernel
theorem dX7_openBody_51 : decode cX7_openBody 51 = .ok (.getfield 42, 3) := by decide +kernel
theorem dX7_openBody_54 : decode cX7_openBody 54 = .ok (.iload 7, 2) := by decide +kernel
theorem dX7_openBody_56 : decode cX7_openBody 56 = .ok (.iconst 1, 1) := by decide +kernel
theorem dX7_openBody_57 : decode cX7_openBody 57 = .ok (.iadd, 1) := by decide +kernel
theorem dX7_openBody_58 : decode cX7_openBody 58 = .ok (.invokestatic 51, 3) := by decide +kernel
theorem dX7_openBody_61 : decode cX7_openBody 61 = .ok (.invokestatic 55, 3) := by decide +kernel
theorem dX7_openBody_64 : decode cX7_openBody 64 = .ok (.ifCond .eq 34, 3) := by decide +kernel
theorem dX7_openBody_67 : decode cX7_openBody 67 = .ok (.iinc 7 1, 3) := by decide +kernel
theorem dX7_openBody_70 : decode cX7_openBody 70 = .ok (.goto (-28), 3) := by decide +kernel
theorem atg_X7_69 : ∀ w ∈ (vx_at0 "TemplateHouse$Source" 69 "java/lang/IllegalStateException" exn).filter goodWord, w ∈ zT := fun w hw => List.mem_filter.mpr ⟨(show ∀ w ∈ (vx_at0 "TemplateHouse$Source" 69 "java/lang/IllegalStateException" exn).filter goodWord, w ∈ lw_tbl by decide +kernel) w hw, (List.mem_filter.mp hw).2⟩
theorem atb_X7_69 : ∀ w ∈ (vx_at0 "TemplateHouse$Source" 69 "java/lang/IllegalStateException" exn).filter (fun w => !goodWord w), w ∈ zNest := by decide +kernel
theorem ato_X7_69 : ∀ w ∈ vx_at0 "TemplateHouse$Source" 69 "java/lang/IllegalStateException" exn, vx_ot w = true := by decide +kernel
set_option maxRecDepth 20000 in
theorem kX7_fail (l : Launch) (G : zG) (T : tT) (κ : Nat → List Nat) (hst : l.stackTraces = false) (hE : tE G T κ) {a0 : Nat} (h0 : a0 ∈ κ 7) {x1 : Int32} {x2 : Int32} : tMv l G T yX7_fail cX7_fail 3 ["java/lang/IllegalStateException"] 6 81 1 6 [.ref a0, .int x1, .int x2] uT (uPv 0x1800000000000000000000000000000000000000000000000000000000000000000000000000000000000000000000000000000000000000000) := by
  refine tMv.intro hst rfl (Nat.le_of_ble_eq_true rfl) ?_
  intro w0 hw0 _ X hC hR hO hX
  refine z_aload_n hC (pc := 0) 0 dX7_fail_0 rfl rfl ?_
  refine z_iload_n hC (pc := 1) 1 dX7_fail_1 rfl rfl ?_
  refine u_put hC hw0 (pc := 2) zf7 7 (hE.o7 h0) rfl ⟨_, rfl⟩ dX7_fail_2 zw130 rfl rfl rfl (kk := fun w5 hw5 fw5 kw5 => ?_)
  refine z_aload_n hC (pc := 5) 0 dX7_fail_5 rfl rfl ?_
  refine z_iload_n hC (pc := 6) 2 dX7_fail_6 rfl rfl ?_
  refine u_put hC hw5 (pc := 7) zf7 8 (hE.o7 h0) rfl ⟨_, rfl⟩ dX7_fail_7 zw132 rfl rfl rfl (kk := fun w6 hw6 fw6 kw6 => ?_)
  exact hX "java/lang/IllegalStateException" _ _ _ _ _ _ 67 69 exn (by decide) hw6 dX7_fail_10 dX7_fail_13 dX7_fail_14 dX7_fail_17 (by decide +kernel) (by decide +kernel) zw1024 zw20 atg_X7_69 atb_X7_69 ato_X7_69 (by decide) (Nat.le_of_ble_eq_true rfl) (Nat.le_of_ble_eq_true rfl) (Nat.le_of_ble_eq_true rfl)
set_option maxRecDepth 20000 in
theorem kX7_skip (l : Launch) (G : zG) (T : tT) (κ : Nat → List Nat) (hst : l.stackTraces = false) (hE : tE G T κ) {a0 : Nat} (h0 : a0 ∈ κ 7) : tMv l G T yX7_skip cX7_skip 2 ["java/lang/IllegalStateException"] 7 103 1 6 [.ref a0] uT (uPv 0x1a00000000000000000000000000000000000000000000000000000000000000000000000000000000000000000000000000000000000000000) := by
  refine tMv.intro hst rfl (Nat.le_of_ble_eq_true rfl) ?_
  intro w0 hw0 _ X hC hR hO hX
  refine z_aload_n hC (pc := 0) 0 dX7_skip_0 rfl rfl ?_
  refine z_aload_n hC (pc := 1) 0 dX7_skip_1 rfl rfl ?_
  refine u_get hC hw0 (pc := 2) zf7 5 (hE.o7 h0) rfl dX7_skip_2 zw122 (kk := fun vx3 tx3 fx3 => ?_)
  obtain ⟨x3, rfl⟩ := tx3
  obtain ⟨q4, hqq4⟩ := hE.o7 h0
  refine t_callVi hC hw0 (pc := 5) (As := [.int x3]) (kX7_past l G T κ hst hE h0) trivial dmX7_past zf7 hqq4 dX7_skip_5 zw1016 rfl rfl (Nat.le_of_ble_eq_true rfl) (Nat.le_of_ble_eq_true rfl) (Nat.le_of_ble_eq_true rfl) (Nat.le_of_ble_eq_true rfl) (Nat.le_of_ble_eq_true rfl) (fun _ _ _ h => nomatch h) (fun x6 cw5 nw5 w5 hw5 pw5 => ?_)
  obtain ⟨rfl, rfl, kw5⟩ := pw5
  refine z_istore_n hC (pc := 8) (lv' := [(1, .int x6), (0, .ref a0)]) dX7_skip_8 rfl (by decide) rfl ?_
  refine z_iload_n hC (pc := 9) 0 dX7_skip_9 rfl rfl ?_
  refine z_iconst hC (pc := 10) (v := (-1)) dX7_skip_10 (by decide) ?_
  have j23 : ∀ (w7 : va_W), tW T w7 → tKeep 0x1800000000000000000000000000000000000000000000000000000000000000000000000000000000000000000000000000000000000000000 w5 w7 → zS X G 2 w7 [(0, .ref a0), (1, .int x6)] 0 0 23 [] := by
    intro w7 hw7 kw7
    refine z_aload_n hC (pc := 23) 0 dX7_skip_23 rfl rfl ?_
    refine z_iload_n hC (pc := 24) 1 dX7_skip_24 rfl rfl ?_
    refine u_put hC hw7 (pc := 25) zf7 5 (hE.o7 h0) rfl ⟨_, rfl⟩ dX7_skip_25 zw122 rfl rfl rfl (kk := fun w8 hw8 fw8 kw8 => ?_)
    exact hR _ _ _ _ _ dX7_skip_28 (Nat.le_of_ble_eq_true rfl) (Nat.le_of_ble_eq_true rfl) ⟨hw8, rfl, rfl, (tKeep.tr (tKeep.tr (tKeep.tr tKeep.rf kw5 rfl) kw7 rfl) kw8 rfl)⟩
  refine z_icmp_ne hC (pc := 11) 23 dX7_skip_11 (by decide) (fun c9 => ?_) (fun c9 => ?_)
  · refine z_lvs [1, 0] rfl ?_
    exact j23 w5 hw5 tKeep.rf
  · refine z_aload_n hC (pc := 14) 1 dX7_skip_14 rfl rfl ?_
    refine z_iconst hC (pc := 15) (v := 1) dX7_skip_15 (by decide) ?_
    refine z_aload_n hC (pc := 16) 1 dX7_skip_16 rfl rfl ?_
    refine u_get hC hw5 (pc := 17) zf7 4 (hE.o7 h0) rfl dX7_skip_17 zw119 (kk := fun vx10 tx10 fx10 => ?_)
    obtain ⟨x10, rfl⟩ := tx10
    refine t_callVv hC hw5 (pc := 20) (As := [.int 1, .int x10]) (kX7_fail l G T κ hst hE h0) trivial dmX7_fail zf7 hqq4 dX7_skip_20 zw1020 rfl rfl (Nat.le_of_ble_eq_true rfl) (Nat.le_of_ble_eq_true rfl) (Nat.le_of_ble_eq_true rfl) (Nat.le_of_ble_eq_true rfl) (Nat.le_of_ble_eq_true rfl) (fun E w q hE hw => hO E w _ _ _ _ _ q hE (Nat.le_of_ble_eq_true rfl) (Nat.le_of_ble_eq_true rfl) hw) (fun cw11 nw11 w11 hw11 pw11 => ?_)
    obtain ⟨rfl, rfl, kw11⟩ := pw11
    refine z_lvs [1, 0] rfl ?_
    exact j23 w11 hw11 (tKeep.tr tKeep.rf kw11 rfl)
set_option maxRecDepth 20000 in
theorem kX7_rowEnd (l : Launch) (G : zG) (T : tT) (κ : Nat → List Nat) (hst : l.stackTraces = false) (hE : tE G T κ) {a0 : Nat} (h0 : a0 ∈ κ 7) {x1 : Int32} : tMi l G T yX7_rowEnd cX7_rowEnd 5 .int [] 0 0 0 0 [.ref a0, .int x1] uT (uPi 0x0) := by
  refine tMi.intro hst rfl (Nat.le_of_ble_eq_true rfl) ?_
  intro w0 hw0 _ X hC hR hO hX
  refine z_iload_n hC (pc := 0) 1 dX7_rowEnd_0 rfl rfl ?_
  refine z_istore_n hC (pc := 1) (lv' := [(2, .int x1), (0, .ref a0), (1, .int x1)]) dX7_rowEnd_1 rfl (by decide) rfl ?_
  refine z_iconst hC (pc := 2) (v := 1) dX7_rowEnd_2 (by decide) ?_
  refine z_istore_n hC (pc := 3) (lv' := [(3, .int 1), (2, .int x1), (0, .ref a0), (1, .int x1)]) dX7_rowEnd_3 rfl (by decide) rfl ?_
  have j4 : ∀ (d4 : Nat), ∀ (x4 : Int32), ∀ (x5 : Int32), tZ (.int x5) → (2 * (2 ^ 31 - (x4 : Int32).toInt).toNat + (x5 : Int32).toInt.toNat) ≤ d4 → zS X G 5 w0 [(0, .ref a0), (2, .int x4), (3, .int x5)] 0 0 4 [] := by
    intro d4
    induction d4 with
    | zero => intro x4 x5 zx5 hd4; exact absurd (x4 : Int32).toInt_lt (by omega)
    | succ d4 ih4 =>
      intro x4 x5 zx5 hd4
      refine z_iload_n hC (pc := 4) 2 dX7_rowEnd_4 rfl rfl ?_
      refine z_if_eq hC (pc := 5) 107 dX7_rowEnd_5 (by decide) (fun c6 => ?_) (fun c6 => ?_)
      · refine z_iload_n hC (pc := 107) 1 dX7_rowEnd_107 rfl rfl ?_
        exact hR _ _ _ _ _ _ dX7_rowEnd_108 rfl (Nat.le_of_ble_eq_true rfl) (Nat.le_of_ble_eq_true rfl) ⟨hw0, rfl, rfl, tKeep.rf⟩
      · refine z_iload_n hC (pc := 8) 1 dX7_rowEnd_8 rfl rfl ?_
        refine z_if_lt hC (pc := 9) 107 dX7_rowEnd_9 (by decide) (fun c7 => ?_) (fun c7 => ?_)
        · refine z_iload_n hC (pc := 107) 1 dX7_rowEnd_107 rfl rfl ?_
          exact hR _ _ _ _ _ _ dX7_rowEnd_108 rfl (Nat.le_of_ble_eq_true rfl) (Nat.le_of_ble_eq_true rfl) ⟨hw0, rfl, rfl, tKeep.rf⟩
        · refine z_iload_n hC (pc := 12) 1 dX7_rowEnd_12 rfl rfl ?_
          refine z_aload_n hC (pc := 13) 0 dX7_rowEnd_13 rfl rfl ?_
          refine u_get hC hw0 (pc := 14) zf7 4 (hE.o7 h0) rfl dX7_rowEnd_14 zw119 (kk := fun vx8 tx8 fx8 => ?_)
          obtain ⟨x8, rfl⟩ := tx8
          refine z_icmp_ge hC (pc := 17) 107 dX7_rowEnd_17 (by decide) (fun c9 => ?_) (fun c9 => ?_)
          · refine z_iload_n hC (pc := 107) 1 dX7_rowEnd_107 rfl rfl ?_
            exact hR _ _ _ _ _ _ dX7_rowEnd_108 rfl (Nat.le_of_ble_eq_true rfl) (Nat.le_of_ble_eq_true rfl) ⟨hw0, rfl, rfl, tKeep.rf⟩
          · refine z_iload_n hC (pc := 20) 1 dX7_rowEnd_20 rfl rfl ?_
            refine z_aload_n hC (pc := 21) 0 dX7_rowEnd_21 rfl rfl ?_
            refine u_get hC hw0 (pc := 22) zf7 0 (hE.o7 h0) rfl dX7_rowEnd_22 zw115 (kk := fun va10 ta10 fa10 => ?_)
            obtain ⟨a10, ma10, rfl⟩ := ta10
            obtain ⟨N11, gN11, AN11⟩ := hE.byts ma10
            have hN11 : N11 < 2 ^ 31 := Nat.lt_trans gN11 (by decide)
            refine u_alenB hC hw0 (pc := 25) (Or.inl AN11) dX7_rowEnd_25 ?_
            refine z_icmp_ge hC (pc := 26) 107 dX7_rowEnd_26 (by decide) (fun c12 => ?_) (fun c12 => ?_)
            · refine z_iload_n hC (pc := 107) 1 dX7_rowEnd_107 rfl rfl ?_
              exact hR _ _ _ _ _ _ dX7_rowEnd_108 rfl (Nat.le_of_ble_eq_true rfl) (Nat.le_of_ble_eq_true rfl) ⟨hw0, rfl, rfl, tKeep.rf⟩
            · refine z_aload_n hC (pc := 29) 0 dX7_rowEnd_29 rfl rfl ?_
              refine u_getK hC (pc := 30) zf7 0 fa10 dX7_rowEnd_30 zw115 (kk := ?_)
              refine z_iload_n hC (pc := 33) 1 dX7_rowEnd_33 rfl rfl ?_
              refine u_bald hC hw0 (pc := 34) (Or.inl AN11) dX7_rowEnd_34 (t_inB hN11 c7 c12) (fun x13 => ?_)
              refine z_istore hC (pc := 35) (lv' := [(4, .int x13), (0, .ref a0), (2, .int x4), (3, .int x5)]) dX7_rowEnd_35 (by decide) rfl ?_
              refine z_iload hC (pc := 37) 0 dX7_rowEnd_37 rfl ?_
              refine z_bipush hC (pc := 39) (v := 97) dX7_rowEnd_39 (by decide) ?_
              refine z_icmp_lt hC (pc := 41) 51 dX7_rowEnd_41 (by decide) (fun c14 => ?_) (fun c14 => ?_)
              · refine z_iload hC (pc := 51) 0 dX7_rowEnd_51 rfl ?_
                refine z_bipush hC (pc := 53) (v := 65) dX7_rowEnd_53 (by decide) ?_
                refine z_icmp_lt hC (pc := 55) 65 dX7_rowEnd_55 (by decide) (fun c15 => ?_) (fun c15 => ?_)
                · refine z_iload hC (pc := 65) 0 dX7_rowEnd_65 rfl ?_
                  refine z_bipush hC (pc := 67) (v := 95) dX7_rowEnd_67 (by decide) ?_
                  refine z_icmp_eq hC (pc := 69) 86 dX7_rowEnd_69 (by decide) (fun c16 => ?_) (fun c16 => ?_)
                  · refine z_iconst hC (pc := 86) (v := 1) dX7_rowEnd_86 (by decide) ?_
                    refine z_goto hC (pc := 87) 91 dX7_rowEnd_87 (by decide) ?_
                    refine z_istore_n hC (pc := 91) (lv' := [(3, .int 1), (4, .int x13), (0, .ref a0), (2, .int x4)]) dX7_rowEnd_91 rfl (by decide) rfl ?_
                    refine z_iload_n hC (pc := 92) 3 dX7_rowEnd_92 rfl rfl ?_
                    refine z_iload_n hC (pc := 93) 0 dX7_rowEnd_93 rfl rfl ?_
                    refine z_if_eqF hC (pc := 94) 101 dX7_rowEnd_94 (by decide) (by decide) ?_
                    refine z_iconst hC (pc := 97) (v := 1) dX7_rowEnd_97 (by decide) ?_
                    refine z_goto hC (pc := 98) 102 dX7_rowEnd_98 (by decide) ?_
                    refine z_iadd hC (pc := 102) (v := (x4 + 1)) dX7_rowEnd_102 rfl ?_
                    refine z_istore_n hC (pc := 103) (lv' := [(2, .int (x4 + 1)), (3, .int 1), (4, .int x13), (0, .ref a0)]) dX7_rowEnd_103 rfl (by decide) rfl ?_
                    refine z_goto hC (pc := 104) 4 dX7_rowEnd_104 (by decide) ?_
                    refine z_lvs [3, 0, 1] rfl ?_
                    exact ih4 (x4 + 1) 1 (Or.inr rfl) (by have o1 := Int32.le_toInt x5; have o2 := Int32.toInt_lt x5; have o3 : (0 : Int32).toInt = 0 := (by decide); have o4 := t_nei c6; have o5 := Int32.le_toInt x4; have o6 := Int32.toInt_lt x4; have o7 := t_fnl c7; have o8 := Int32.le_toInt x8; have o9 := Int32.toInt_lt x8; have o10 := t_fne c9; have o11 : (Int32.ofNat N11).toInt = N11 := nI_toInt hN11; have o12 := hN11; have o13 := t_fne c12; have o14 : (1 : Int32).toInt = 1 := (by decide); have o15 := t_addO x4 1; have zr := t_zr zx5; omega)
                  · refine z_iload hC (pc := 72) 0 dX7_rowEnd_72 rfl ?_
                    refine z_bipush hC (pc := 74) (v := 48) dX7_rowEnd_74 (by decide) ?_
                    refine z_icmp_lt hC (pc := 76) 90 dX7_rowEnd_76 (by decide) (fun c17 => ?_) (fun c17 => ?_)
                    · refine z_iconst hC (pc := 90) (v := 0) dX7_rowEnd_90 (by decide) ?_
                      refine z_istore_n hC (pc := 91) (lv' := [(3, .int 0), (4, .int x13), (0, .ref a0), (2, .int x4)]) dX7_rowEnd_91 rfl (by decide) rfl ?_
                      refine z_iload_n hC (pc := 92) 3 dX7_rowEnd_92 rfl rfl ?_
                      refine z_iload_n hC (pc := 93) 0 dX7_rowEnd_93 rfl rfl ?_
                      refine z_if_eqT hC (pc := 94) 101 dX7_rowEnd_94 (by decide) (by decide) ?_
                      refine z_iconst hC (pc := 101) (v := 0) dX7_rowEnd_101 (by decide) ?_
                      refine z_iadd hC (pc := 102) (v := (x4 + 0)) dX7_rowEnd_102 rfl ?_
                      refine z_istore_n hC (pc := 103) (lv' := [(2, .int (x4 + 0)), (3, .int 0), (4, .int x13), (0, .ref a0)]) dX7_rowEnd_103 rfl (by decide) rfl ?_
                      refine z_goto hC (pc := 104) 4 dX7_rowEnd_104 (by decide) ?_
                      refine z_lvs [3, 0, 1] rfl ?_
                      exact ih4 (x4 + 0) 0 (Or.inl rfl) (by have o1 := Int32.le_toInt x5; have o2 := Int32.toInt_lt x5; have o3 : (0 : Int32).toInt = 0 := (by decide); have o4 := t_nei c6; have o5 := Int32.le_toInt x4; have o6 := Int32.toInt_lt x4; have o7 := t_fnl c7; have o8 := Int32.le_toInt x8; have o9 := Int32.toInt_lt x8; have o10 := t_fne c9; have o11 : (Int32.ofNat N11).toInt = N11 := nI_toInt hN11; have o12 := hN11; have o13 := t_fne c12; have o14 := t_addO x4 0; have zr := t_zr zx5; omega)
                    · refine z_iload hC (pc := 79) 0 dX7_rowEnd_79 rfl ?_
                      refine z_bipush hC (pc := 81) (v := 57) dX7_rowEnd_81 (by decide) ?_
                      refine z_icmp_gt hC (pc := 83) 90 dX7_rowEnd_83 (by decide) (fun c18 => ?_) (fun c18 => ?_)
                      · refine z_iconst hC (pc := 90) (v := 0) dX7_rowEnd_90 (by decide) ?_
                        refine z_istore_n hC (pc := 91) (lv' := [(3, .int 0), (4, .int x13), (0, .ref a0), (2, .int x4)]) dX7_rowEnd_91 rfl (by decide) rfl ?_
                        refine z_iload_n hC (pc := 92) 3 dX7_rowEnd_92 rfl rfl ?_
                        refine z_iload_n hC (pc := 93) 0 dX7_rowEnd_93 rfl rfl ?_
                        refine z_if_eqT hC (pc := 94) 101 dX7_rowEnd_94 (by decide) (by decide) ?_
                        refine z_iconst hC (pc := 101) (v := 0) dX7_rowEnd_101 (by decide) ?_
                        refine z_iadd hC (pc := 102) (v := (x4 + 0)) dX7_rowEnd_102 rfl ?_
                        refine z_istore_n hC (pc := 103) (lv' := [(2, .int (x4 + 0)), (3, .int 0), (4, .int x13), (0, .ref a0)]) dX7_rowEnd_103 rfl (by decide) rfl ?_
                        refine z_goto hC (pc := 104) 4 dX7_rowEnd_104 (by decide) ?_
                        refine z_lvs [3, 0, 1] rfl ?_
                        exact ih4 (x4 + 0) 0 (Or.inl rfl) (by have o1 := Int32.le_toInt x5; have o2 := Int32.toInt_lt x5; have o3 : (0 : Int32).toInt = 0 := (by decide); have o4 := t_nei c6; have o5 := Int32.le_toInt x4; have o6 := Int32.toInt_lt x4; have o7 := t_fnl c7; have o8 := Int32.le_toInt x8; have o9 := Int32.toInt_lt x8; have o10 := t_fne c9; have o11 : (Int32.ofNat N11).toInt = N11 := nI_toInt hN11; have o12 := hN11; have o13 := t_fne c12; have o14 := t_addO x4 0; have zr := t_zr zx5; omega)
                      · refine z_iconst hC (pc := 86) (v := 1) dX7_rowEnd_86 (by decide) ?_
                        refine z_goto hC (pc := 87) 91 dX7_rowEnd_87 (by decide) ?_
                        refine z_istore_n hC (pc := 91) (lv' := [(3, .int 1), (4, .int x13), (0, .ref a0), (2, .int x4)]) dX7_rowEnd_91 rfl (by decide) rfl ?_
                        refine z_iload_n hC (pc := 92) 3 dX7_rowEnd_92 rfl rfl ?_
                        refine z_iload_n hC (pc := 93) 0 dX7_rowEnd_93 rfl rfl ?_
                        refine z_if_eqF hC (pc := 94) 101 dX7_rowEnd_94 (by decide) (by decide) ?_
                        refine z_iconst hC (pc := 97) (v := 1) dX7_rowEnd_97 (by decide) ?_
                        refine z_goto hC (pc := 98) 102 dX7_rowEnd_98 (by decide) ?_
                        refine z_iadd hC (pc := 102) (v := (x4 + 1)) dX7_rowEnd_102 rfl ?_
                        refine z_istore_n hC (pc := 103) (lv' := [(2, .int (x4 + 1)), (3, .int 1), (4, .int x13), (0, .ref a0)]) dX7_rowEnd_103 rfl (by decide) rfl ?_
                        refine z_goto hC (pc := 104) 4 dX7_rowEnd_104 (by decide) ?_
                        refine z_lvs [3, 0, 1] rfl ?_
                        exact ih4 (x4 + 1) 1 (Or.inr rfl) (by have o1 := Int32.le_toInt x5; have o2 := Int32.toInt_lt x5; have o3 : (0 : Int32).toInt = 0 := (by decide); have o4 := t_nei c6; have o5 := Int32.le_toInt x4; have o6 := Int32.toInt_lt x4; have o7 := t_fnl c7; have o8 := Int32.le_toInt x8; have o9 := Int32.toInt_lt x8; have o10 := t_fne c9; have o11 : (Int32.ofNat N11).toInt = N11 := nI_toInt hN11; have o12 := hN11; have o13 := t_fne c12; have o14 : (1 : Int32).toInt = 1 := (by decide); have o15 := t_addO x4 1; have zr := t_zr zx5; omega)
                · refine z_iload hC (pc := 58) 0 dX7_rowEnd_58 rfl ?_
                  refine z_bipush hC (pc := 60) (v := 90) dX7_rowEnd_60 (by decide) ?_
                  refine z_icmp_le hC (pc := 62) 86 dX7_rowEnd_62 (by decide) (fun c19 => ?_) (fun c19 => ?_)
                  · refine z_iconst hC (pc := 86) (v := 1) dX7_rowEnd_86 (by decide) ?_
                    refine z_goto hC (pc := 87) 91 dX7_rowEnd_87 (by decide) ?_
                    refine z_istore_n hC (pc := 91) (lv' := [(3, .int 1), (4, .int x13), (0, .ref a0), (2, .int x4)]) dX7_rowEnd_91 rfl (by decide) rfl ?_
                    refine z_iload_n hC (pc := 92) 3 dX7_rowEnd_92 rfl rfl ?_
                    refine z_iload_n hC (pc := 93) 0 dX7_rowEnd_93 rfl rfl ?_
                    refine z_if_eqF hC (pc := 94) 101 dX7_rowEnd_94 (by decide) (by decide) ?_
                    refine z_iconst hC (pc := 97) (v := 1) dX7_rowEnd_97 (by decide) ?_
                    refine z_goto hC (pc := 98) 102 dX7_rowEnd_98 (by decide) ?_
                    refine z_iadd hC (pc := 102) (v := (x4 + 1)) dX7_rowEnd_102 rfl ?_
                    refine z_istore_n hC (pc := 103) (lv' := [(2, .int (x4 + 1)), (3, .int 1), (4, .int x13), (0, .ref a0)]) dX7_rowEnd_103 rfl (by decide) rfl ?_
                    refine z_goto hC (pc := 104) 4 dX7_rowEnd_104 (by decide) ?_
                    refine z_lvs [3, 0, 1] rfl ?_
                    exact ih4 (x4 + 1) 1 (Or.inr rfl) (by have o1 := Int32.le_toInt x5; have o2 := Int32.toInt_lt x5; have o3 : (0 : Int32).toInt = 0 := (by decide); have o4 := t_nei c6; have o5 := Int32.le_toInt x4; have o6 := Int32.toInt_lt x4; have o7 := t_fnl c7; have o8 := Int32.le_toInt x8; have o9 := Int32.toInt_lt x8; have o10 := t_fne c9; have o11 : (Int32.ofNat N11).toInt = N11 := nI_toInt hN11; have o12 := hN11; have o13 := t_fne c12; have o14 : (1 : Int32).toInt = 1 := (by decide); have o15 := t_addO x4 1; have zr := t_zr zx5; omega)
                  · refine z_iload hC (pc := 65) 0 dX7_rowEnd_65 rfl ?_
                    refine z_bipush hC (pc := 67) (v := 95) dX7_rowEnd_67 (by decide) ?_
                    refine z_icmp_eq hC (pc := 69) 86 dX7_rowEnd_69 (by decide) (fun c20 => ?_) (fun c20 => ?_)
                    · refine z_iconst hC (pc := 86) (v := 1) dX7_rowEnd_86 (by decide) ?_
                      refine z_goto hC (pc := 87) 91 dX7_rowEnd_87 (by decide) ?_
                      refine z_istore_n hC (pc := 91) (lv' := [(3, .int 1), (4, .int x13), (0, .ref a0), (2, .int x4)]) dX7_rowEnd_91 rfl (by decide) rfl ?_
                      refine z_iload_n hC (pc := 92) 3 dX7_rowEnd_92 rfl rfl ?_
                      refine z_iload_n hC (pc := 93) 0 dX7_rowEnd_93 rfl rfl ?_
                      refine z_if_eqF hC (pc := 94) 101 dX7_rowEnd_94 (by decide) (by decide) ?_
                      refine z_iconst hC (pc := 97) (v := 1) dX7_rowEnd_97 (by decide) ?_
                      refine z_goto hC (pc := 98) 102 dX7_rowEnd_98 (by decide) ?_
                      refine z_iadd hC (pc := 102) (v := (x4 + 1)) dX7_rowEnd_102 rfl ?_
                      refine z_istore_n hC (pc := 103) (lv' := [(2, .int (x4 + 1)), (3, .int 1), (4, .int x13), (0, .ref a0)]) dX7_rowEnd_103 rfl (by decide) rfl ?_
                      refine z_goto hC (pc := 104) 4 dX7_rowEnd_104 (by decide) ?_
                      refine z_lvs [3, 0, 1] rfl ?_
                      exact ih4 (x4 + 1) 1 (Or.inr rfl) (by have o1 := Int32.le_toInt x5; have o2 := Int32.toInt_lt x5; have o3 : (0 : Int32).toInt = 0 := (by decide); have o4 := t_nei c6; have o5 := Int32.le_toInt x4; have o6 := Int32.toInt_lt x4; have o7 := t_fnl c7; have o8 := Int32.le_toInt x8; have o9 := Int32.toInt_lt x8; have o10 := t_fne c9; have o11 : (Int32.ofNat N11).toInt = N11 := nI_toInt hN11; have o12 := hN11; have o13 := t_fne c12; have o14 : (1 : Int32).toInt = 1 := (by decide); have o15 := t_addO x4 1; have zr := t_zr zx5; omega)
                    · refine z_iload hC (pc := 72) 0 dX7_rowEnd_72 rfl ?_
                      refine z_bipush hC (pc := 74) (v := 48) dX7_rowEnd_74 (by decide) ?_
                      refine z_icmp_lt hC (pc := 76) 90 dX7_rowEnd_76 (by decide) (fun c21 => ?_) (fun c21 => ?_)
                      · refine z_iconst hC (pc := 90) (v := 0) dX7_rowEnd_90 (by decide) ?_
                        refine z_istore_n hC (pc := 91) (lv' := [(3, .int 0), (4, .int x13), (0, .ref a0), (2, .int x4)]) dX7_rowEnd_91 rfl (by decide) rfl ?_
                        refine z_iload_n hC (pc := 92) 3 dX7_rowEnd_92 rfl rfl ?_
                        refine z_iload_n hC (pc := 93) 0 dX7_rowEnd_93 rfl rfl ?_
                        refine z_if_eqT hC (pc := 94) 101 dX7_rowEnd_94 (by decide) (by decide) ?_
                        refine z_iconst hC (pc := 101) (v := 0) dX7_rowEnd_101 (by decide) ?_
                        refine z_iadd hC (pc := 102) (v := (x4 + 0)) dX7_rowEnd_102 rfl ?_
                        refine z_istore_n hC (pc := 103) (lv' := [(2, .int (x4 + 0)), (3, .int 0), (4, .int x13), (0, .ref a0)]) dX7_rowEnd_103 rfl (by decide) rfl ?_
                        refine z_goto hC (pc := 104) 4 dX7_rowEnd_104 (by decide) ?_
                        refine z_lvs [3, 0, 1] rfl ?_
                        exact ih4 (x4 + 0) 0 (Or.inl rfl) (by have o1 := Int32.le_toInt x5; have o2 := Int32.toInt_lt x5; have o3 : (0 : Int32).toInt = 0 := (by decide); have o4 := t_nei c6; have o5 := Int32.le_toInt x4; have o6 := Int32.toInt_lt x4; have o7 := t_fnl c7; have o8 := Int32.le_toInt x8; have o9 := Int32.toInt_lt x8; have o10 := t_fne c9; have o11 : (Int32.ofNat N11).toInt = N11 := nI_toInt hN11; have o12 := hN11; have o13 := t_fne c12; have o14 := t_addO x4 0; have zr := t_zr zx5; omega)
                      · refine z_iload hC (pc := 79) 0 dX7_rowEnd_79 rfl ?_
                        refine z_bipush hC (pc := 81) (v := 57) dX7_rowEnd_81 (by decide) ?_
                        refine z_icmp_gt hC (pc := 83) 90 dX7_rowEnd_83 (by decide) (fun c22 => ?_) (fun c22 => ?_)
                        · refine z_iconst hC (pc := 90) (v := 0) dX7_rowEnd_90 (by decide) ?_
                          refine z_istore_n hC (pc := 91) (lv' := [(3, .int 0), (4, .int x13), (0, .ref a0), (2, .int x4)]) dX7_rowEnd_91 rfl (by decide) rfl ?_
                          refine z_iload_n hC (pc := 92) 3 dX7_rowEnd_92 rfl rfl ?_
                          refine z_iload_n hC (pc := 93) 0 dX7_rowEnd_93 rfl rfl ?_
                          refine z_if_eqT hC (pc := 94) 101 dX7_rowEnd_94 (by decide) (by decide) ?_
                          refine z_iconst hC (pc := 101) (v := 0) dX7_rowEnd_101 (by decide) ?_
                          refine z_iadd hC (pc := 102) (v := (x4 + 0)) dX7_rowEnd_102 rfl ?_
                          refine z_istore_n hC (pc := 103) (lv' := [(2, .int (x4 + 0)), (3, .int 0), (4, .int x13), (0, .ref a0)]) dX7_rowEnd_103 rfl (by decide) rfl ?_
                          refine z_goto hC (pc := 104) 4 dX7_rowEnd_104 (by decide) ?_
                          refine z_lvs [3, 0, 1] rfl ?_
                          exact ih4 (x4 + 0) 0 (Or.inl rfl) (by have o1 := Int32.le_toInt x5; have o2 := Int32.toInt_lt x5; have o3 : (0 : Int32).toInt = 0 := (by decide); have o4 := t_nei c6; have o5 := Int32.le_toInt x4; have o6 := Int32.toInt_lt x4; have o7 := t_fnl c7; have o8 := Int32.le_toInt x8; have o9 := Int32.toInt_lt x8; have o10 := t_fne c9; have o11 : (Int32.ofNat N11).toInt = N11 := nI_toInt hN11; have o12 := hN11; have o13 := t_fne c12; have o14 := t_addO x4 0; have zr := t_zr zx5; omega)
                        · refine z_iconst hC (pc := 86) (v := 1) dX7_rowEnd_86 (by decide) ?_
                          refine z_goto hC (pc := 87) 91 dX7_rowEnd_87 (by decide) ?_
                          refine z_istore_n hC (pc := 91) (lv' := [(3, .int 1), (4, .int x13), (0, .ref a0), (2, .int x4)]) dX7_rowEnd_91 rfl (by decide) rfl ?_
                          refine z_iload_n hC (pc := 92) 3 dX7_rowEnd_92 rfl rfl ?_
                          refine z_iload_n hC (pc := 93) 0 dX7_rowEnd_93 rfl rfl ?_
                          refine z_if_eqF hC (pc := 94) 101 dX7_rowEnd_94 (by decide) (by decide) ?_
                          refine z_iconst hC (pc := 97) (v := 1) dX7_rowEnd_97 (by decide) ?_
                          refine z_goto hC (pc := 98) 102 dX7_rowEnd_98 (by decide) ?_
                          refine z_iadd hC (pc := 102) (v := (x4 + 1)) dX7_rowEnd_102 rfl ?_
                          refine z_istore_n hC (pc := 103) (lv' := [(2, .int (x4 + 1)), (3, .int 1), (4, .int x13), (0, .ref a0)]) dX7_rowEnd_103 rfl (by decide) rfl ?_
                          refine z_goto hC (pc := 104) 4 dX7_rowEnd_104 (by decide) ?_
                          refine z_lvs [3, 0, 1] rfl ?_
                          exact ih4 (x4 + 1) 1 (Or.inr rfl) (by have o1 := Int32.le_toInt x5; have o2 := Int32.toInt_lt x5; have o3 : (0 : Int32).toInt = 0 := (by decide); have o4 := t_nei c6; have o5 := Int32.le_toInt x4; have o6 := Int32.toInt_lt x4; have o7 := t_fnl c7; have o8 := Int32.le_toInt x8; have o9 := Int32.toInt_lt x8; have o10 := t_fne c9; have o11 : (Int32.ofNat N11).toInt = N11 := nI_toInt hN11; have o12 := hN11; have o13 := t_fne c12; have o14 : (1 : Int32).toInt = 1 := (by decide); have o15 := t_addO x4 1; have zr := t_zr zx5; omega)
              · refine z_iload hC (pc := 44) 0 dX7_rowEnd_44 rfl ?_
                refine z_bipush hC (pc := 46) (v := 122) dX7_rowEnd_46 (by decide) ?_
                refine z_icmp_le hC (pc := 48) 86 dX7_rowEnd_48 (by decide) (fun c23 => ?_) (fun c23 => ?_)
                · refine z_iconst hC (pc := 86) (v := 1) dX7_rowEnd_86 (by decide) ?_
                  refine z_goto hC (pc := 87) 91 dX7_rowEnd_87 (by decide) ?_
                  refine z_istore_n hC (pc := 91) (lv' := [(3, .int 1), (4, .int x13), (0, .ref a0), (2, .int x4)]) dX7_rowEnd_91 rfl (by decide) rfl ?_
                  refine z_iload_n hC (pc := 92) 3 dX7_rowEnd_92 rfl rfl ?_
                  refine z_iload_n hC (pc := 93) 0 dX7_rowEnd_93 rfl rfl ?_
                  refine z_if_eqF hC (pc := 94) 101 dX7_rowEnd_94 (by decide) (by decide) ?_
                  refine z_iconst hC (pc := 97) (v := 1) dX7_rowEnd_97 (by decide) ?_
                  refine z_goto hC (pc := 98) 102 dX7_rowEnd_98 (by decide) ?_
                  refine z_iadd hC (pc := 102) (v := (x4 + 1)) dX7_rowEnd_102 rfl ?_
                  refine z_istore_n hC (pc := 103) (lv' := [(2, .int (x4 + 1)), (3, .int 1), (4, .int x13), (0, .ref a0)]) dX7_rowEnd_103 rfl (by decide) rfl ?_
                  refine z_goto hC (pc := 104) 4 dX7_rowEnd_104 (by decide) ?_
                  refine z_lvs [3, 0, 1] rfl ?_
                  exact ih4 (x4 + 1) 1 (Or.inr rfl) (by have o1 := Int32.le_toInt x5; have o2 := Int32.toInt_lt x5; have o3 : (0 : Int32).toInt = 0 := (by decide); have o4 := t_nei c6; have o5 := Int32.le_toInt x4; have o6 := Int32.toInt_lt x4; have o7 := t_fnl c7; have o8 := Int32.le_toInt x8; have o9 := Int32.toInt_lt x8; have o10 := t_fne c9; have o11 : (Int32.ofNat N11).toInt = N11 := nI_toInt hN11; have o12 := hN11; have o13 := t_fne c12; have o14 : (1 : Int32).toInt = 1 := (by decide); have o15 := t_addO x4 1; have zr := t_zr zx5; omega)
                · refine z_iload hC (pc := 51) 0 dX7_rowEnd_51 rfl ?_
                  refine z_bipush hC (pc := 53) (v := 65) dX7_rowEnd_53 (by decide) ?_
                  refine z_icmp_lt hC (pc := 55) 65 dX7_rowEnd_55 (by decide) (fun c24 => ?_) (fun c24 => ?_)
                  · refine z_iload hC (pc := 65) 0 dX7_rowEnd_65 rfl ?_
                    refine z_bipush hC (pc := 67) (v := 95) dX7_rowEnd_67 (by decide) ?_
                    refine z_icmp_eq hC (pc := 69) 86 dX7_rowEnd_69 (by decide) (fun c25 => ?_) (fun c25 => ?_)
                    · refine z_iconst hC (pc := 86) (v := 1) dX7_rowEnd_86 (by decide) ?_
                      refine z_goto hC (pc := 87) 91 dX7_rowEnd_87 (by decide) ?_
                      refine z_istore_n hC (pc := 91) (lv' := [(3, .int 1), (4, .int x13), (0, .ref a0), (2, .int x4)]) dX7_rowEnd_91 rfl (by decide) rfl ?_
                      refine z_iload_n hC (pc := 92) 3 dX7_rowEnd_92 rfl rfl ?_
                      refine z_iload_n hC (pc := 93) 0 dX7_rowEnd_93 rfl rfl ?_
                      refine z_if_eqF hC (pc := 94) 101 dX7_rowEnd_94 (by decide) (by decide) ?_
                      refine z_iconst hC (pc := 97) (v := 1) dX7_rowEnd_97 (by decide) ?_
                      refine z_goto hC (pc := 98) 102 dX7_rowEnd_98 (by decide) ?_
                      refine z_iadd hC (pc := 102) (v := (x4 + 1)) dX7_rowEnd_102 rfl ?_
                      refine z_istore_n hC (pc := 103) (lv' := [(2, .int (x4 + 1)), (3, .int 1), (4, .int x13), (0, .ref a0)]) dX7_rowEnd_103 rfl (by decide) rfl ?_
                      refine z_goto hC (pc := 104) 4 dX7_rowEnd_104 (by decide) ?_
                      refine z_lvs [3, 0, 1] rfl ?_
                      exact ih4 (x4 + 1) 1 (Or.inr rfl) (by have o1 := Int32.le_toInt x5; have o2 := Int32.toInt_lt x5; have o3 : (0 : Int32).toInt = 0 := (by decide); have o4 := t_nei c6; have o5 := Int32.le_toInt x4; have o6 := Int32.toInt_lt x4; have o7 := t_fnl c7; have o8 := Int32.le_toInt x8; have o9 := Int32.toInt_lt x8; have o10 := t_fne c9; have o11 : (Int32.ofNat N11).toInt = N11 := nI_toInt hN11; have o12 := hN11; have o13 := t_fne c12; have o14 : (1 : Int32).toInt = 1 := (by decide); have o15 := t_addO x4 1; have zr := t_zr zx5; omega)
                    · refine z_iload hC (pc := 72) 0 dX7_rowEnd_72 rfl ?_
                      refine z_bipush hC (pc := 74) (v := 48) dX7_rowEnd_74 (by decide) ?_
                      refine z_icmp_lt hC (pc := 76) 90 dX7_rowEnd_76 (by decide) (fun c26 => ?_) (fun c26 => ?_)
                      · refine z_iconst hC (pc := 90) (v := 0) dX7_rowEnd_90 (by decide) ?_
                        refine z_istore_n hC (pc := 91) (lv' := [(3, .int 0), (4, .int x13), (0, .ref a0), (2, .int x4)]) dX7_rowEnd_91 rfl (by decide) rfl ?_
                        refine z_iload_n hC (pc := 92) 3 dX7_rowEnd_92 rfl rfl ?_
                        refine z_iload_n hC (pc := 93) 0 dX7_rowEnd_93 rfl rfl ?_
                        refine z_if_eqT hC (pc := 94) 101 dX7_rowEnd_94 (by decide) (by decide) ?_
                        refine z_iconst hC (pc := 101) (v := 0) dX7_rowEnd_101 (by decide) ?_
                        refine z_iadd hC (pc := 102) (v := (x4 + 0)) dX7_rowEnd_102 rfl ?_
                        refine z_istore_n hC (pc := 103) (lv' := [(2, .int (x4 + 0)), (3, .int 0), (4, .int x13), (0, .ref a0)]) dX7_rowEnd_103 rfl (by decide) rfl ?_
                        refine z_goto hC (pc := 104) 4 dX7_rowEnd_104 (by decide) ?_
                        refine z_lvs [3, 0, 1] rfl ?_
                        exact ih4 (x4 + 0) 0 (Or.inl rfl) (by have o1 := Int32.le_toInt x5; have o2 := Int32.toInt_lt x5; have o3 : (0 : Int32).toInt = 0 := (by decide); have o4 := t_nei c6; have o5 := Int32.le_toInt x4; have o6 := Int32.toInt_lt x4; have o7 := t_fnl c7; have o8 := Int32.le_toInt x8; have o9 := Int32.toInt_lt x8; have o10 := t_fne c9; have o11 : (Int32.ofNat N11).toInt = N11 := nI_toInt hN11; have o12 := hN11; have o13 := t_fne c12; have o14 := t_addO x4 0; have zr := t_zr zx5; omega)
                      · refine z_iload hC (pc := 79) 0 dX7_rowEnd_79 rfl ?_
                        refine z_bipush hC (pc := 81) (v := 57) dX7_rowEnd_81 (by decide) ?_
                        refine z_icmp_gt hC (pc := 83) 90 dX7_rowEnd_83 (by decide) (fun c27 => ?_) (fun c27 => ?_)
                        · refine z_iconst hC (pc := 90) (v := 0) dX7_rowEnd_90 (by decide) ?_
                          refine z_istore_n hC (pc := 91) (lv' := [(3, .int 0), (4, .int x13), (0, .ref a0), (2, .int x4)]) dX7_rowEnd_91 rfl (by decide) rfl ?_
                          refine z_iload_n hC (pc := 92) 3 dX7_rowEnd_92 rfl rfl ?_
                          refine z_iload_n hC (pc := 93) 0 dX7_rowEnd_93 rfl rfl ?_
                          refine z_if_eqT hC (pc := 94) 101 dX7_rowEnd_94 (by decide) (by decide) ?_
                          refine z_iconst hC (pc := 101) (v := 0) dX7_rowEnd_101 (by decide) ?_
                          refine z_iadd hC (pc := 102) (v := (x4 + 0)) dX7_rowEnd_102 rfl ?_
                          refine z_istore_n hC (pc := 103) (lv' := [(2, .int (x4 + 0)), (3, .int 0), (4, .int x13), (0, .ref a0)]) dX7_rowEnd_103 rfl (by decide) rfl ?_
                          refine z_goto hC (pc := 104) 4 dX7_rowEnd_104 (by decide) ?_
                          refine z_lvs [3, 0, 1] rfl ?_
                          exact ih4 (x4 + 0) 0 (Or.inl rfl) (by have o1 := Int32.le_toInt x5; have o2 := Int32.toInt_lt x5; have o3 : (0 : Int32).toInt = 0 := (by decide); have o4 := t_nei c6; have o5 := Int32.le_toInt x4; have o6 := Int32.toInt_lt x4; have o7 := t_fnl c7; have o8 := Int32.le_toInt x8; have o9 := Int32.toInt_lt x8; have o10 := t_fne c9; have o11 : (Int32.ofNat N11).toInt = N11 := nI_toInt hN11; have o12 := hN11; have o13 := t_fne c12; have o14 := t_addO x4 0; have zr := t_zr zx5; omega)
                        · refine z_iconst hC (pc := 86) (v := 1) dX7_rowEnd_86 (by decide) ?_
                          refine z_goto hC (pc := 87) 91 dX7_rowEnd_87 (by decide) ?_
                          refine z_istore_n hC (pc := 91) (lv' := [(3, .int 1), (4, .int x13), (0, .ref a0), (2, .int x4)]) dX7_rowEnd_91 rfl (by decide) rfl ?_
                          refine z_iload_n hC (pc := 92) 3 dX7_rowEnd_92 rfl rfl ?_
                          refine z_iload_n hC (pc := 93) 0 dX7_rowEnd_93 rfl rfl ?_
                          refine z_if_eqF hC (pc := 94) 101 dX7_rowEnd_94 (by decide) (by decide) ?_
                          refine z_iconst hC (pc := 97) (v := 1) dX7_rowEnd_97 (by decide) ?_
                          refine z_goto hC (pc := 98) 102 dX7_rowEnd_98 (by decide) ?_
                          refine z_iadd hC (pc := 102) (v := (x4 + 1)) dX7_rowEnd_102 rfl ?_
                          refine z_istore_n hC (pc := 103) (lv' := [(2, .int (x4 + 1)), (3, .int 1), (4, .int x13), (0, .ref a0)]) dX7_rowEnd_103 rfl (by decide) rfl ?_
                          refine z_goto hC (pc := 104) 4 dX7_rowEnd_104 (by decide) ?_
                          refine z_lvs [3, 0, 1] rfl ?_
                          exact ih4 (x4 + 1) 1 (Or.inr rfl) (by have o1 := Int32.le_toInt x5; have o2 := Int32.toInt_lt x5; have o3 : (0 : Int32).toInt = 0 := (by decide); have o4 := t_nei c6; have o5 := Int32.le_toInt x4; have o6 := Int32.toInt_lt x4; have o7 := t_fnl c7; have o8 := Int32.le_toInt x8; have o9 := Int32.toInt_lt x8; have o10 := t_fne c9; have o11 : (Int32.ofNat N11).toInt = N11 := nI_toInt hN11; have o12 := hN11; have o13 := t_fne c12; have o14 : (1 : Int32).toInt = 1 := (by decide); have o15 := t_addO x4 1; have zr := t_zr zx5; omega)
                  · refine z_iload hC (pc := 58) 0 dX7_rowEnd_58 rfl ?_
                    refine z_bipush hC (pc := 60) (v := 90) dX7_rowEnd_60 (by decide) ?_
                    refine z_icmp_le hC (pc := 62) 86 dX7_rowEnd_62 (by decide) (fun c28 => ?_) (fun c28 => ?_)
                    · refine z_iconst hC (pc := 86) (v := 1) dX7_rowEnd_86 (by decide) ?_
                      refine z_goto hC (pc := 87) 91 dX7_rowEnd_87 (by decide) ?_
                      refine z_istore_n hC (pc := 91) (lv' := [(3, .int 1), (4, .int x13), (0, .ref a0), (2, .int x4)]) dX7_rowEnd_91 rfl (by decide) rfl ?_
                      refine z_iload_n hC (pc := 92) 3 dX7_rowEnd_92 rfl rfl ?_
                      refine z_iload_n hC (pc := 93) 0 dX7_rowEnd_93 rfl rfl ?_
                      refine z_if_eqF hC (pc := 94) 101 dX7_rowEnd_94 (by decide) (by decide) ?_
                      refine z_iconst hC (pc := 97) (v := 1) dX7_rowEnd_97 (by decide) ?_
                      refine z_goto hC (pc := 98) 102 dX7_rowEnd_98 (by decide) ?_
                      refine z_iadd hC (pc := 102) (v := (x4 + 1)) dX7_rowEnd_102 rfl ?_
                      refine z_istore_n hC (pc := 103) (lv' := [(2, .int (x4 + 1)), (3, .int 1), (4, .int x13), (0, .ref a0)]) dX7_rowEnd_103 rfl (by decide) rfl ?_
                      refine z_goto hC (pc := 104) 4 dX7_rowEnd_104 (by decide) ?_
                      refine z_lvs [3, 0, 1] rfl ?_
                      exact ih4 (x4 + 1) 1 (Or.inr rfl) (by have o1 := Int32.le_toInt x5; have o2 := Int32.toInt_lt x5; have o3 : (0 : Int32).toInt = 0 := (by decide); have o4 := t_nei c6; have o5 := Int32.le_toInt x4; have o6 := Int32.toInt_lt x4; have o7 := t_fnl c7; have o8 := Int32.le_toInt x8; have o9 := Int32.toInt_lt x8; have o10 := t_fne c9; have o11 : (Int32.ofNat N11).toInt = N11 := nI_toInt hN11; have o12 := hN11; have o13 := t_fne c12; have o14 : (1 : Int32).toInt = 1 := (by decide); have o15 := t_addO x4 1; have zr := t_zr zx5; omega)
                    · refine z_iload hC (pc := 65) 0 dX7_rowEnd_65 rfl ?_
                      refine z_bipush hC (pc := 67) (v := 95) dX7_rowEnd_67 (by decide) ?_
                      refine z_icmp_eq hC (pc := 69) 86 dX7_rowEnd_69 (by decide) (fun c29 => ?_) (fun c29 => ?_)
                      · refine z_iconst hC (pc := 86) (v := 1) dX7_rowEnd_86 (by decide) ?_
                        refine z_goto hC (pc := 87) 91 dX7_rowEnd_87 (by decide) ?_
                        refine z_istore_n hC (pc := 91) (lv' := [(3, .int 1), (4, .int x13), (0, .ref a0), (2, .int x4)]) dX7_rowEnd_91 rfl (by decide) rfl ?_
                        refine z_iload_n hC (pc := 92) 3 dX7_rowEnd_92 rfl rfl ?_
                        refine z_iload_n hC (pc := 93) 0 dX7_rowEnd_93 rfl rfl ?_
                        refine z_if_eqF hC (pc := 94) 101 dX7_rowEnd_94 (by decide) (by decide) ?_
                        refine z_iconst hC (pc := 97) (v := 1) dX7_rowEnd_97 (by decide) ?_
                        refine z_goto hC (pc := 98) 102 dX7_rowEnd_98 (by decide) ?_
                        refine z_iadd hC (pc := 102) (v := (x4 + 1)) dX7_rowEnd_102 rfl ?_
                        refine z_istore_n hC (pc := 103) (lv' := [(2, .int (x4 + 1)), (3, .int 1), (4, .int x13), (0, .ref a0)]) dX7_rowEnd_103 rfl (by decide) rfl ?_
                        refine z_goto hC (pc := 104) 4 dX7_rowEnd_104 (by decide) ?_
                        refine z_lvs [3, 0, 1] rfl ?_
                        exact ih4 (x4 + 1) 1 (Or.inr rfl) (by have o1 := Int32.le_toInt x5; have o2 := Int32.toInt_lt x5; have o3 : (0 : Int32).toInt = 0 := (by decide); have o4 := t_nei c6; have o5 := Int32.le_toInt x4; have o6 := Int32.toInt_lt x4; have o7 := t_fnl c7; have o8 := Int32.le_toInt x8; have o9 := Int32.toInt_lt x8; have o10 := t_fne c9; have o11 : (Int32.ofNat N11).toInt = N11 := nI_toInt hN11; have o12 := hN11; have o13 := t_fne c12; have o14 : (1 : Int32).toInt = 1 := (by decide); have o15 := t_addO x4 1; have zr := t_zr zx5; omega)
                      · refine z_iload hC (pc := 72) 0 dX7_rowEnd_72 rfl ?_
                        refine z_bipush hC (pc := 74) (v := 48) dX7_rowEnd_74 (by decide) ?_
                        refine z_icmp_lt hC (pc := 76) 90 dX7_rowEnd_76 (by decide) (fun c30 => ?_) (fun c30 => ?_)
                        · refine z_iconst hC (pc := 90) (v := 0) dX7_rowEnd_90 (by decide) ?_
                          refine z_istore_n hC (pc := 91) (lv' := [(3, .int 0), (4, .int x13), (0, .ref a0), (2, .int x4)]) dX7_rowEnd_91 rfl (by decide) rfl ?_
                          refine z_iload_n hC (pc := 92) 3 dX7_rowEnd_92 rfl rfl ?_
                          refine z_iload_n hC (pc := 93) 0 dX7_rowEnd_93 rfl rfl ?_
                          refine z_if_eqT hC (pc := 94) 101 dX7_rowEnd_94 (by decide) (by decide) ?_
                          refine z_iconst hC (pc := 101) (v := 0) dX7_rowEnd_101 (by decide) ?_
                          refine z_iadd hC (pc := 102) (v := (x4 + 0)) dX7_rowEnd_102 rfl ?_
                          refine z_istore_n hC (pc := 103) (lv' := [(2, .int (x4 + 0)), (3, .int 0), (4, .int x13), (0, .ref a0)]) dX7_rowEnd_103 rfl (by decide) rfl ?_
                          refine z_goto hC (pc := 104) 4 dX7_rowEnd_104 (by decide) ?_
                          refine z_lvs [3, 0, 1] rfl ?_
                          exact ih4 (x4 + 0) 0 (Or.inl rfl) (by have o1 := Int32.le_toInt x5; have o2 := Int32.toInt_lt x5; have o3 : (0 : Int32).toInt = 0 := (by decide); have o4 := t_nei c6; have o5 := Int32.le_toInt x4; have o6 := Int32.toInt_lt x4; have o7 := t_fnl c7; have o8 := Int32.le_toInt x8; have o9 := Int32.toInt_lt x8; have o10 := t_fne c9; have o11 : (Int32.ofNat N11).toInt = N11 := nI_toInt hN11; have o12 := hN11; have o13 := t_fne c12; have o14 := t_addO x4 0; have zr := t_zr zx5; omega)
                        · refine z_iload hC (pc := 79) 0 dX7_rowEnd_79 rfl ?_
                          refine z_bipush hC (pc := 81) (v := 57) dX7_rowEnd_81 (by decide) ?_
                          refine z_icmp_gt hC (pc := 83) 90 dX7_rowEnd_83 (by decide) (fun c31 => ?_) (fun c31 => ?_)
                          · refine z_iconst hC (pc := 90) (v := 0) dX7_rowEnd_90 (by decide) ?_
                            refine z_istore_n hC (pc := 91) (lv' := [(3, .int 0), (4, .int x13), (0, .ref a0), (2, .int x4)]) dX7_rowEnd_91 rfl (by decide) rfl ?_
                            refine z_iload_n hC (pc := 92) 3 dX7_rowEnd_92 rfl rfl ?_
                            refine z_iload_n hC (pc := 93) 0 dX7_rowEnd_93 rfl rfl ?_
                            refine z_if_eqT hC (pc := 94) 101 dX7_rowEnd_94 (by decide) (by decide) ?_
                            refine z_iconst hC (pc := 101) (v := 0) dX7_rowEnd_101 (by decide) ?_
                            refine z_iadd hC (pc := 102) (v := (x4 + 0)) dX7_rowEnd_102 rfl ?_
                            refine z_istore_n hC (pc := 103) (lv' := [(2, .int (x4 + 0)), (3, .int 0), (4, .int x13), (0, .ref a0)]) dX7_rowEnd_103 rfl (by decide) rfl ?_
                            refine z_goto hC (pc := 104) 4 dX7_rowEnd_104 (by decide) ?_
                            refine z_lvs [3, 0, 1] rfl ?_
                            exact ih4 (x4 + 0) 0 (Or.inl rfl) (by have o1 := Int32.le_toInt x5; have o2 := Int32.toInt_lt x5; have o3 : (0 : Int32).toInt = 0 := (by decide); have o4 := t_nei c6; have o5 := Int32.le_toInt x4; have o6 := Int32.toInt_lt x4; have o7 := t_fnl c7; have o8 := Int32.le_toInt x8; have o9 := Int32.toInt_lt x8; have o10 := t_fne c9; have o11 : (Int32.ofNat N11).toInt = N11 := nI_toInt hN11; have o12 := hN11; have o13 := t_fne c12; have o14 := t_addO x4 0; have zr := t_zr zx5; omega)
                          · refine z_iconst hC (pc := 86) (v := 1) dX7_rowEnd_86 (by decide) ?_
                            refine z_goto hC (pc := 87) 91 dX7_rowEnd_87 (by decide) ?_
                            refine z_istore_n hC (pc := 91) (lv' := [(3, .int 1), (4, .int x13), (0, .ref a0), (2, .int x4)]) dX7_rowEnd_91 rfl (by decide) rfl ?_
                            refine z_iload_n hC (pc := 92) 3 dX7_rowEnd_92 rfl rfl ?_
                            refine z_iload_n hC (pc := 93) 0 dX7_rowEnd_93 rfl rfl ?_
                            refine z_if_eqF hC (pc := 94) 101 dX7_rowEnd_94 (by decide) (by decide) ?_
                            refine z_iconst hC (pc := 97) (v := 1) dX7_rowEnd_97 (by decide) ?_
                            refine z_goto hC (pc := 98) 102 dX7_rowEnd_98 (by decide) ?_
                            refine z_iadd hC (pc := 102) (v := (x4 + 1)) dX7_rowEnd_102 rfl ?_
                            refine z_istore_n hC (pc := 103) (lv' := [(2, .int (x4 + 1)), (3, .int 1), (4, .int x13), (0, .ref a0)]) dX7_rowEnd_103 rfl (by decide) rfl ?_
                            refine z_goto hC (pc := 104) 4 dX7_rowEnd_104 (by decide) ?_
                            refine z_lvs [3, 0, 1] rfl ?_
                            exact ih4 (x4 + 1) 1 (Or.inr rfl) (by have o1 := Int32.le_toInt x5; have o2 := Int32.toInt_lt x5; have o3 : (0 : Int32).toInt = 0 := (by decide); have o4 := t_nei c6; have o5 := Int32.le_toInt x4; have o6 := Int32.toInt_lt x4; have o7 := t_fnl c7; have o8 := Int32.le_toInt x8; have o9 := Int32.toInt_lt x8; have o10 := t_fne c9; have o11 : (Int32.ofNat N11).toInt = N11 := nI_toInt hN11; have o12 := hN11; have o13 := t_fne c12; have o14 : (1 : Int32).toInt = 1 := (by decide); have o15 := t_addO x4 1; have zr := t_zr zx5; omega)
  refine z_lvs [2, 1, 0] rfl ?_
  exact j4 _ x1 1 (Or.inr rfl) (Nat.le_refl _)
set_option maxRecDepth 20000 in
theorem kX7_peek (l : Launch) (G : zG) (T : tT) (κ : Nat → List Nat) (hst : l.stackTraces = false) (hE : tE G T κ) {a0 : Nat} (h0 : a0 ∈ κ 7) : tMi l G T yX7_peek cX7_peek 1 .int [] 0 0 0 0 [.ref a0] uT (uPi 0x0) := by
  refine tMi.intro hst rfl (Nat.le_of_ble_eq_true rfl) ?_
  intro w0 hw0 _ X hC hR hO hX
  refine z_aload_n hC (pc := 0) 0 dX7_peek_0 rfl rfl ?_
  refine u_get hC hw0 (pc := 1) zf7 5 (hE.o7 h0) rfl dX7_peek_1 zw122 (kk := fun vx3 tx3 fx3 => ?_)
  obtain ⟨x3, rfl⟩ := tx3
  have j43 : ∀ (x4 : Int32), zS X G 1 w0 [] 0 0 43 [.int x4] := by
    intro x4
    exact hR _ _ _ _ _ _ dX7_peek_43 rfl (Nat.le_of_ble_eq_true rfl) (Nat.le_of_ble_eq_true rfl) ⟨hw0, rfl, rfl, tKeep.rf⟩
  have j42 : zS X G 1 w0 [] 0 0 42 [] := by
    refine z_iconst hC (pc := 42) (v := (-1)) dX7_peek_42 (by decide) ?_
    exact j43 (-1)
  refine z_if_lt hC (pc := 4) 42 dX7_peek_4 (by decide) (fun c5 => ?_) (fun c5 => ?_)
  · refine z_lvs [] rfl ?_
    exact j42
  · refine z_aload_n hC (pc := 7) 0 dX7_peek_7 rfl rfl ?_
    refine u_getK hC (pc := 8) zf7 5 fx3 dX7_peek_8 zw122 (kk := ?_)
    refine z_aload_n hC (pc := 11) 0 dX7_peek_11 rfl rfl ?_
    refine u_get hC hw0 (pc := 12) zf7 4 (hE.o7 h0) rfl dX7_peek_12 zw119 (kk := fun vx6 tx6 fx6 => ?_)
    obtain ⟨x6, rfl⟩ := tx6
    refine z_icmp_ge hC (pc := 15) 42 dX7_peek_15 (by decide) (fun c7 => ?_) (fun c7 => ?_)
    · refine z_lvs [] rfl ?_
      exact j42
    · refine z_aload_n hC (pc := 18) 0 dX7_peek_18 rfl rfl ?_
      refine u_getK hC (pc := 19) zf7 5 fx3 dX7_peek_19 zw122 (kk := ?_)
      refine z_aload_n hC (pc := 22) 0 dX7_peek_22 rfl rfl ?_
      refine u_get hC hw0 (pc := 23) zf7 0 (hE.o7 h0) rfl dX7_peek_23 zw115 (kk := fun va8 ta8 fa8 => ?_)
      obtain ⟨a8, ma8, rfl⟩ := ta8
      obtain ⟨N9, gN9, AN9⟩ := hE.byts ma8
      have hN9 : N9 < 2 ^ 31 := Nat.lt_trans gN9 (by decide)
      refine u_alenB hC hw0 (pc := 26) (Or.inl AN9) dX7_peek_26 ?_
      refine z_icmp_ge hC (pc := 27) 42 dX7_peek_27 (by decide) (fun c10 => ?_) (fun c10 => ?_)
      · refine z_lvs [] rfl ?_
        exact j42
      · refine z_aload_n hC (pc := 30) 0 dX7_peek_30 rfl rfl ?_
        refine u_getK hC (pc := 31) zf7 0 fa8 dX7_peek_31 zw115 (kk := ?_)
        refine z_aload_n hC (pc := 34) 0 dX7_peek_34 rfl rfl ?_
        refine u_getK hC (pc := 35) zf7 5 fx3 dX7_peek_35 zw122 (kk := ?_)
        refine u_bald hC hw0 (pc := 38) (Or.inl AN9) dX7_peek_38 (t_inB hN9 c5 c10) (fun x11 => ?_)
        refine z_goto hC (pc := 39) 43 dX7_peek_39 (by decide) ?_
        refine z_lvs [] rfl ?_
        exact j43 x11
set_option maxRecDepth 20000 in
theorem kX7_at (l : Launch) (G : zG) (T : tT) (κ : Nat → List Nat) (hst : l.stackTraces = false) (hE : tE G T κ) {a0 : Nat} (h0 : a0 ∈ κ 7) {x1 : Int32} : tMi l G T yX7_at cX7_at 2 .int [] 0 0 0 0 [.ref a0, .int x1] uT (uPi 0x0) := by
  refine tMi.intro hst rfl (Nat.le_of_ble_eq_true rfl) ?_
  intro w0 hw0 _ X hC hR hO hX
  refine z_iload_n hC (pc := 0) 1 dX7_at_0 rfl rfl ?_
  have j31 : ∀ (x4 : Int32), zS X G 2 w0 [] 0 0 31 [.int x4] := by
    intro x4
    exact hR _ _ _ _ _ _ dX7_at_31 rfl (Nat.le_of_ble_eq_true rfl) (Nat.le_of_ble_eq_true rfl) ⟨hw0, rfl, rfl, tKeep.rf⟩
  have j30 : zS X G 2 w0 [] 0 0 30 [] := by
    refine z_iconst hC (pc := 30) (v := (-1)) dX7_at_30 (by decide) ?_
    exact j31 (-1)
  refine z_if_lt hC (pc := 1) 30 dX7_at_1 (by decide) (fun c5 => ?_) (fun c5 => ?_)
  · refine z_lvs [] rfl ?_
    exact j30
  · refine z_iload_n hC (pc := 4) 1 dX7_at_4 rfl rfl ?_
    refine z_aload_n hC (pc := 5) 0 dX7_at_5 rfl rfl ?_
    refine u_get hC hw0 (pc := 6) zf7 4 (hE.o7 h0) rfl dX7_at_6 zw119 (kk := fun vx6 tx6 fx6 => ?_)
    obtain ⟨x6, rfl⟩ := tx6
    refine z_icmp_ge hC (pc := 9) 30 dX7_at_9 (by decide) (fun c7 => ?_) (fun c7 => ?_)
    · refine z_lvs [] rfl ?_
      exact j30
    · refine z_iload_n hC (pc := 12) 1 dX7_at_12 rfl rfl ?_
      refine z_aload_n hC (pc := 13) 0 dX7_at_13 rfl rfl ?_
      refine u_get hC hw0 (pc := 14) zf7 0 (hE.o7 h0) rfl dX7_at_14 zw115 (kk := fun va8 ta8 fa8 => ?_)
      obtain ⟨a8, ma8, rfl⟩ := ta8
      obtain ⟨N9, gN9, AN9⟩ := hE.byts ma8
      have hN9 : N9 < 2 ^ 31 := Nat.lt_trans gN9 (by decide)
      refine u_alenB hC hw0 (pc := 17) (Or.inl AN9) dX7_at_17 ?_
      refine z_icmp_ge hC (pc := 18) 30 dX7_at_18 (by decide) (fun c10 => ?_) (fun c10 => ?_)
      · refine z_lvs [] rfl ?_
        exact j30
      · refine z_aload_n hC (pc := 21) 0 dX7_at_21 rfl rfl ?_
        refine u_getK hC (pc := 22) zf7 0 fa8 dX7_at_22 zw115 (kk := ?_)
        refine z_iload_n hC (pc := 25) 1 dX7_at_25 rfl rfl ?_
        refine u_bald hC hw0 (pc := 26) (Or.inl AN9) dX7_at_26 (t_inB hN9 c5 c10) (fun x11 => ?_)
        refine z_goto hC (pc := 27) 31 dX7_at_27 (by decide) ?_
        refine z_lvs [] rfl ?_
        exact j31 x11
set_option maxRecDepth 20000 in
theorem kX7_placeOf (l : Launch) (G : zG) (T : tT) (κ : Nat → List Nat) (hst : l.stackTraces = false) (hE : tE G T κ) {a0 : Nat} (h0 : a0 ∈ κ 7) {x1 : Int32} : tMi l G T yX7_placeOf cX7_placeOf 2 .int [] 0 0 0 0 [.ref a0, .int x1] uT (uPi 0x0) := by
  refine tMi.intro hst rfl (Nat.le_of_ble_eq_true rfl) ?_
  intro w0 hw0 _ X hC hR hO hX
  refine z_aload_n hC (pc := 0) 0 dX7_placeOf_0 rfl rfl ?_
  refine u_get hC hw0 (pc := 1) zf7 1 (hE.o7 h0) rfl dX7_placeOf_1 zw116 (kk := fun vx4 tx4 fx4 => ?_)
  obtain ⟨x4, rfl, zx4⟩ := t_zof tx4
  have j34 : ∀ (x5 : Int32), zS X G 2 w0 [] 0 0 34 [.int x5] := by
    intro x5
    exact hR _ _ _ _ _ _ dX7_placeOf_34 rfl (Nat.le_of_ble_eq_true rfl) (Nat.le_of_ble_eq_true rfl) ⟨hw0, rfl, rfl, tKeep.rf⟩
  refine z_if_eq hC (pc := 4) 11 dX7_placeOf_4 (by decide) (fun c6 => ?_) (fun c6 => ?_)
  · refine z_iload_n hC (pc := 11) 1 dX7_placeOf_11 rfl rfl ?_
    have j33 : zS X G 2 w0 [] 0 0 33 [] := by
      refine z_iconst hC (pc := 33) (v := 0) dX7_placeOf_33 (by decide) ?_
      exact j34 0
    refine z_if_lt hC (pc := 12) 33 dX7_placeOf_12 (by decide) (fun c7 => ?_) (fun c7 => ?_)
    · refine z_lvs [] rfl ?_
      exact j33
    · refine z_iload_n hC (pc := 15) 1 dX7_placeOf_15 rfl rfl ?_
      refine z_aload_n hC (pc := 16) 0 dX7_placeOf_16 rfl rfl ?_
      refine u_get hC hw0 (pc := 17) zf7 3 (hE.o7 h0) rfl dX7_placeOf_17 zw118 (kk := fun va8 ta8 fa8 => ?_)
      obtain ⟨a8, ma8, rfl⟩ := ta8
      obtain ⟨N9, gN9, AN9⟩ := hE.ints ma8
      have hN9 : N9 < 2 ^ 31 := Nat.lt_trans gN9 (by decide)
      refine u_alenI hC hw0 (pc := 20) AN9 dX7_placeOf_20 ?_
      refine z_icmp_ge hC (pc := 21) 33 dX7_placeOf_21 (by decide) (fun c10 => ?_) (fun c10 => ?_)
      · refine z_lvs [] rfl ?_
        exact j33
      · refine z_aload_n hC (pc := 24) 0 dX7_placeOf_24 rfl rfl ?_
        refine u_getK hC (pc := 25) zf7 3 fa8 dX7_placeOf_25 zw118 (kk := ?_)
        refine z_iload_n hC (pc := 28) 1 dX7_placeOf_28 rfl rfl ?_
        refine t_iald hC hw0 (pc := 29) AN9 dX7_placeOf_29 (t_inB hN9 c7 c10) (fun x11 _ => ?_)
        refine z_goto hC (pc := 30) 34 dX7_placeOf_30 (by decide) ?_
        refine z_lvs [] rfl ?_
        exact j34 x11
  · refine z_iload_n hC (pc := 7) 1 dX7_placeOf_7 rfl rfl ?_
    refine z_goto hC (pc := 8) 34 dX7_placeOf_8 (by decide) ?_
    refine z_lvs [] rfl ?_
    exact j34 x1
set_option maxRecDepth 20000 in
theorem kX7_stringEnd (l : Launch) (G : zG) (T : tT) (κ : Nat → List Nat) (hst : l.stackTraces = false) (hE : tE G T κ) {a0 : Nat} (h0 : a0 ∈ κ 7) : tMi l G T yX7_stringEnd cX7_stringEnd 3 .int ["java/lang/IllegalStateException"] 7 103 1 6 [.ref a0] uT (uPi 0x1800000000000000000000000000000000000000000000000000000000000000000000000000000000000000000000000000000000000000000) := by
  refine tMi.intro hst rfl (Nat.le_of_ble_eq_true rfl) ?_
  intro w0 hw0 _ X hC hR hO hX
  refine z_aload_n hC (pc := 0) 0 dX7_stringEnd_0 rfl rfl ?_
  obtain ⟨q3, hqq3⟩ := hE.o7 h0
  refine t_callVi hC hw0 (pc := 1) (As := []) (kX7_peek l G T κ hst hE h0) trivial dmX7_peek zf7 hqq3 dX7_stringEnd_1 zw1160 rfl rfl (Nat.le_of_ble_eq_true rfl) (Nat.le_of_ble_eq_true rfl) (Nat.le_of_ble_eq_true rfl) (Nat.le_of_ble_eq_true rfl) (Nat.le_of_ble_eq_true rfl) (fun _ _ _ h => nomatch h) (fun x5 cw4 nw4 w4 hw4 pw4 => ?_)
  obtain ⟨rfl, rfl, kw4⟩ := pw4
  refine z_istore_n hC (pc := 4) (lv' := [(1, .int x5), (0, .ref a0)]) dX7_stringEnd_4 rfl (by decide) rfl ?_
  refine z_aload_n hC (pc := 5) 1 dX7_stringEnd_5 rfl rfl ?_
  refine u_get hC hw4 (pc := 6) zf7 5 (hE.o7 h0) rfl dX7_stringEnd_6 zw122 (kk := fun vx6 tx6 fx6 => ?_)
  obtain ⟨x6, rfl⟩ := tx6
  refine z_iconst hC (pc := 9) (v := 1) dX7_stringEnd_9 (by decide) ?_
  refine z_iadd hC (pc := 10) (v := (x6 + 1)) dX7_stringEnd_10 rfl ?_
  refine z_istore_n hC (pc := 11) (lv' := [(2, .int (x6 + 1)), (1, .int x5), (0, .ref a0)]) dX7_stringEnd_11 rfl (by decide) rfl ?_
  have j12 : ∀ (d12 : Nat), ∀ (w7 : va_W), tW T w7 → tKeep 0x1800000000000000000000000000000000000000000000000000000000000000000000000000000000000000000000000000000000000000000 w4 w7 → ∀ (x8 : Int32), (2 ^ 31 - (x8 : Int32).toInt).toNat ≤ d12 → zS X G 3 w7 [(0, .ref a0), (1, .int x5), (2, .int x8)] 0 0 12 [] := by
    intro d12
    induction d12 with
    | zero => intro w7 hw7 kw7 x8 hd12; exact (t_zero hd12).elim
    | succ d12 ih12 =>
      intro w7 hw7 kw7 x8 hd12
      refine z_iload_n hC (pc := 12) 2 dX7_stringEnd_12 rfl rfl ?_
      refine z_aload_n hC (pc := 13) 0 dX7_stringEnd_13 rfl rfl ?_
      refine u_get hC hw7 (pc := 14) zf7 4 (hE.o7 h0) rfl dX7_stringEnd_14 zw119 (kk := fun vx9 tx9 fx9 => ?_)
      obtain ⟨x9, rfl⟩ := tx9
      have j55 : ∀ (w10 : va_W), tW T w10 → tKeep 0x0 w7 w10 → zS X G 3 w10 [(0, .ref a0), (2, .int x8)] 0 0 55 [] := by
        intro w10 hw10 kw10
        refine z_iload_n hC (pc := 55) 1 dX7_stringEnd_55 rfl rfl ?_
        refine z_aload_n hC (pc := 56) 0 dX7_stringEnd_56 rfl rfl ?_
        refine u_getK hC (pc := 57) zf7 4 (tKeep.F kw10 fx9 rfl) dX7_stringEnd_57 zw119 (kk := ?_)
        have j76 : ∀ (w11 : va_W), tW T w11 → tKeep 0x1800000000000000000000000000000000000000000000000000000000000000000000000000000000000000000000000000000000000000000 w10 w11 → zS X G 3 w11 [(2, .int x8)] 0 0 76 [] := by
          intro w11 hw11 kw11
          refine z_iload_n hC (pc := 76) 0 dX7_stringEnd_76 rfl rfl ?_
          exact hR _ _ _ _ _ _ dX7_stringEnd_77 rfl (Nat.le_of_ble_eq_true rfl) (Nat.le_of_ble_eq_true rfl) ⟨hw11, rfl, rfl, (tKeep.tr (tKeep.tr (tKeep.tr (tKeep.tr tKeep.rf kw4 rfl) kw7 rfl) kw10 rfl) kw11 rfl)⟩
        refine z_icmp_lt hC (pc := 60) 76 dX7_stringEnd_60 (by decide) (fun c12 => ?_) (fun c12 => ?_)
        · refine z_lvs [1] rfl ?_
          exact j76 w10 hw10 tKeep.rf
        · refine z_aload_n hC (pc := 63) 0 dX7_stringEnd_63 rfl rfl ?_
          refine z_iconst hC (pc := 64) (v := 1) dX7_stringEnd_64 (by decide) ?_
          refine z_aload_n hC (pc := 65) 0 dX7_stringEnd_65 rfl rfl ?_
          refine z_aload_n hC (pc := 66) 0 dX7_stringEnd_66 rfl rfl ?_
          refine u_getK hC (pc := 67) zf7 4 (tKeep.F kw10 fx9 rfl) dX7_stringEnd_67 zw119 (kk := ?_)
          refine t_callVi hC hw10 (pc := 70) (As := [.int x9]) (kX7_placeOf l G T κ hst hE h0) trivial dmX7_placeOf zf7 hqq3 dX7_stringEnd_70 zw1165 rfl rfl (Nat.le_of_ble_eq_true rfl) (Nat.le_of_ble_eq_true rfl) (Nat.le_of_ble_eq_true rfl) (Nat.le_of_ble_eq_true rfl) (Nat.le_of_ble_eq_true rfl) (fun _ _ _ h => nomatch h) (fun x14 cw13 nw13 w13 hw13 pw13 => ?_)
          obtain ⟨rfl, rfl, kw13⟩ := pw13
          refine t_callVv hC hw13 (pc := 73) (As := [.int 1, .int x14]) (kX7_fail l G T κ hst hE h0) trivial dmX7_fail zf7 hqq3 dX7_stringEnd_73 zw1020 rfl rfl (Nat.le_of_ble_eq_true rfl) (Nat.le_of_ble_eq_true rfl) (Nat.le_of_ble_eq_true rfl) (Nat.le_of_ble_eq_true rfl) (Nat.le_of_ble_eq_true rfl) (fun E w q hE hw => hO E w _ _ _ _ _ q hE (Nat.le_of_ble_eq_true rfl) (Nat.le_of_ble_eq_true rfl) hw) (fun cw15 nw15 w15 hw15 pw15 => ?_)
          obtain ⟨rfl, rfl, kw15⟩ := pw15
          refine z_lvs [1] rfl ?_
          exact j76 w15 hw15 (tKeep.tr (tKeep.tr tKeep.rf kw13 rfl) kw15 rfl)
      refine z_icmp_ge hC (pc := 17) 55 dX7_stringEnd_17 (by decide) (fun c17 => ?_) (fun c17 => ?_)
      · refine z_lvs [0, 2] rfl ?_
        exact j55 w7 hw7 tKeep.rf
      · refine z_aload_n hC (pc := 20) 0 dX7_stringEnd_20 rfl rfl ?_
        refine z_iload_n hC (pc := 21) 2 dX7_stringEnd_21 rfl rfl ?_
        refine t_callVi hC hw7 (pc := 22) (As := [.int x8]) (kX7_at l G T κ hst hE h0) trivial dmX7_at zf7 hqq3 dX7_stringEnd_22 zw1161 rfl rfl (Nat.le_of_ble_eq_true rfl) (Nat.le_of_ble_eq_true rfl) (Nat.le_of_ble_eq_true rfl) (Nat.le_of_ble_eq_true rfl) (Nat.le_of_ble_eq_true rfl) (fun _ _ _ h => nomatch h) (fun x19 cw18 nw18 w18 hw18 pw18 => ?_)
        obtain ⟨rfl, rfl, kw18⟩ := pw18
        refine z_iload_n hC (pc := 25) 1 dX7_stringEnd_25 rfl rfl ?_
        refine z_icmp_eq hC (pc := 26) 55 dX7_stringEnd_26 (by decide) (fun c20 => ?_) (fun c20 => ?_)
        · refine z_lvs [0, 2] rfl ?_
          exact j55 w18 hw18 (tKeep.tr tKeep.rf kw18 rfl)
        · refine z_aload_n hC (pc := 29) 0 dX7_stringEnd_29 rfl rfl ?_
          refine z_iload_n hC (pc := 30) 2 dX7_stringEnd_30 rfl rfl ?_
          refine t_callVi hC hw18 (pc := 31) (As := [.int x8]) (kX7_at l G T κ hst hE h0) trivial dmX7_at zf7 hqq3 dX7_stringEnd_31 zw1161 rfl rfl (Nat.le_of_ble_eq_true rfl) (Nat.le_of_ble_eq_true rfl) (Nat.le_of_ble_eq_true rfl) (Nat.le_of_ble_eq_true rfl) (Nat.le_of_ble_eq_true rfl) (fun _ _ _ h => nomatch h) (fun x22 cw21 nw21 w21 hw21 pw21 => ?_)
          obtain ⟨rfl, rfl, kw21⟩ := pw21
          refine z_bipush hC (pc := 34) (v := 10) dX7_stringEnd_34 (by decide) ?_
          have j49 : ∀ (w23 : va_W), tW T w23 → tKeep 0x1800000000000000000000000000000000000000000000000000000000000000000000000000000000000000000000000000000000000000000 w21 w23 → zS X G 3 w23 [(0, .ref a0), (1, .int x5), (2, .int x8)] 0 0 49 [] := by
            intro w23 hw23 kw23
            refine z_iinc hC (pc := 49) (v := (x8 + 1)) (lv' := [(2, .int (x8 + 1)), (0, .ref a0), (1, .int x5)]) 2 dX7_stringEnd_49 rfl (congrArg _ (by decide)) (by decide) rfl ?_
            refine z_goto hC (pc := 52) 12 dX7_stringEnd_52 (by decide) ?_
            refine z_lvs [1, 2, 0] rfl ?_
            exact ih12 w23 hw23 (tKeep.tr (tKeep.tr (tKeep.tr (tKeep.tr tKeep.rf kw7 rfl) kw18 rfl) kw21 rfl) kw23 rfl) (x8 + 1) (t_up (Int32.not_le.mp c17) hd12)
          refine z_icmp_ne hC (pc := 36) 49 dX7_stringEnd_36 (by decide) (fun c24 => ?_) (fun c24 => ?_)
          · exact j49 w21 hw21 tKeep.rf
          · refine z_aload_n hC (pc := 39) 0 dX7_stringEnd_39 rfl rfl ?_
            refine z_iconst hC (pc := 40) (v := 1) dX7_stringEnd_40 (by decide) ?_
            refine z_aload_n hC (pc := 41) 0 dX7_stringEnd_41 rfl rfl ?_
            refine z_iload_n hC (pc := 42) 2 dX7_stringEnd_42 rfl rfl ?_
            refine t_callVi hC hw21 (pc := 43) (As := [.int x8]) (kX7_placeOf l G T κ hst hE h0) trivial dmX7_placeOf zf7 hqq3 dX7_stringEnd_43 zw1165 rfl rfl (Nat.le_of_ble_eq_true rfl) (Nat.le_of_ble_eq_true rfl) (Nat.le_of_ble_eq_true rfl) (Nat.le_of_ble_eq_true rfl) (Nat.le_of_ble_eq_true rfl) (fun _ _ _ h => nomatch h) (fun x26 cw25 nw25 w25 hw25 pw25 => ?_)
            obtain ⟨rfl, rfl, kw25⟩ := pw25
            refine t_callVv hC hw25 (pc := 46) (As := [.int 1, .int x26]) (kX7_fail l G T κ hst hE h0) trivial dmX7_fail zf7 hqq3 dX7_stringEnd_46 zw1020 rfl rfl (Nat.le_of_ble_eq_true rfl) (Nat.le_of_ble_eq_true rfl) (Nat.le_of_ble_eq_true rfl) (Nat.le_of_ble_eq_true rfl) (Nat.le_of_ble_eq_true rfl) (fun E w q hE hw => hO E w _ _ _ _ _ q hE (Nat.le_of_ble_eq_true rfl) (Nat.le_of_ble_eq_true rfl) hw) (fun cw27 nw27 w27 hw27 pw27 => ?_)
            obtain ⟨rfl, rfl, kw27⟩ := pw27
            exact j49 w27 hw27 (tKeep.tr (tKeep.tr tKeep.rf kw25 rfl) kw27 rfl)
  refine z_lvs [2, 1, 0] rfl ?_
  exact j12 _ w4 hw4 tKeep.rf (x6 + 1) (Nat.le_refl _)
set_option maxRecDepth 20000 in
theorem kX12_isRow (l : Launch) (G : zG) (T : tT) (κ : Nat → List Nat) (hst : l.stackTraces = false) (hE : tE G T κ) {x0 : Int32} : tMi l G T yX12_isRow cX12_isRow 1 .boolean [] 0 0 0 0 [.int x0] uT (uPz 0x0) := by
  refine tMi.intro hst rfl (Nat.le_of_ble_eq_true rfl) ?_
  intro w0 hw0 _ X hC hR hO hX
  refine z_iload_n hC (pc := 0) 0 dX12_isRow_0 rfl rfl ?_
  refine z_bipush hC (pc := 1) (v := 97) dX12_isRow_1 (by decide) ?_
  have j47 : ∀ (x3 : Int32), tZ (.int x3) → zS X G 1 w0 [] 0 0 47 [.int x3] := by
    intro x3 zx3
    exact hR _ _ _ _ _ _ dX12_isRow_47 (t_nZ zx3) (Nat.le_of_ble_eq_true rfl) (Nat.le_of_ble_eq_true rfl) ⟨hw0, rfl, rfl, tKeep.rf, zx3⟩
  have j42 : zS X G 1 w0 [] 0 0 42 [] := by
    refine z_iconst hC (pc := 42) (v := 1) dX12_isRow_42 (by decide) ?_
    refine z_goto hC (pc := 43) 47 dX12_isRow_43 (by decide) ?_
    exact j47 1 (Or.inr rfl)
  have j12 : zS X G 1 w0 [(0, .int x0)] 0 0 12 [] := by
    refine z_iload_n hC (pc := 12) 0 dX12_isRow_12 rfl rfl ?_
    refine z_bipush hC (pc := 13) (v := 65) dX12_isRow_13 (by decide) ?_
    have j24 : zS X G 1 w0 [(0, .int x0)] 0 0 24 [] := by
      refine z_iload_n hC (pc := 24) 0 dX12_isRow_24 rfl rfl ?_
      refine z_bipush hC (pc := 25) (v := 95) dX12_isRow_25 (by decide) ?_
      refine z_icmp_eq hC (pc := 27) 42 dX12_isRow_27 (by decide) (fun c4 => ?_) (fun c4 => ?_)
      · refine z_lvs [] rfl ?_
        exact j42
      · refine z_iload_n hC (pc := 30) 0 dX12_isRow_30 rfl rfl ?_
        refine z_bipush hC (pc := 31) (v := 48) dX12_isRow_31 (by decide) ?_
        have j46 : zS X G 1 w0 [] 0 0 46 [] := by
          refine z_iconst hC (pc := 46) (v := 0) dX12_isRow_46 (by decide) ?_
          exact j47 0 (Or.inl rfl)
        refine z_icmp_lt hC (pc := 33) 46 dX12_isRow_33 (by decide) (fun c5 => ?_) (fun c5 => ?_)
        · refine z_lvs [] rfl ?_
          exact j46
        · refine z_iload_n hC (pc := 36) 0 dX12_isRow_36 rfl rfl ?_
          refine z_bipush hC (pc := 37) (v := 57) dX12_isRow_37 (by decide) ?_
          refine z_icmp_gt hC (pc := 39) 46 dX12_isRow_39 (by decide) (fun c6 => ?_) (fun c6 => ?_)
          · refine z_lvs [] rfl ?_
            exact j46
          · refine z_lvs [] rfl ?_
            exact j42
    refine z_icmp_lt hC (pc := 15) 24 dX12_isRow_15 (by decide) (fun c7 => ?_) (fun c7 => ?_)
    · exact j24
    · refine z_iload_n hC (pc := 18) 0 dX12_isRow_18 rfl rfl ?_
      refine z_bipush hC (pc := 19) (v := 90) dX12_isRow_19 (by decide) ?_
      refine z_icmp_le hC (pc := 21) 42 dX12_isRow_21 (by decide) (fun c8 => ?_) (fun c8 => ?_)
      · refine z_lvs [] rfl ?_
        exact j42
      · exact j24
  refine z_icmp_lt hC (pc := 3) 12 dX12_isRow_3 (by decide) (fun c9 => ?_) (fun c9 => ?_)
  · exact j12
  · refine z_iload_n hC (pc := 6) 0 dX12_isRow_6 rfl rfl ?_
    refine z_bipush hC (pc := 7) (v := 122) dX12_isRow_7 (by decide) ?_
    refine z_icmp_le hC (pc := 9) 42 dX12_isRow_9 (by decide) (fun c10 => ?_) (fun c10 => ?_)
    · refine z_lvs [] rfl ?_
      exact j42
    · exact j12
set_option maxRecDepth 20000 in
theorem kX7_isBecomes (l : Launch) (G : zG) (T : tT) (κ : Nat → List Nat) (hst : l.stackTraces = false) (hE : tE G T κ) {a0 : Nat} (h0 : a0 ∈ κ 7) : tMi l G T yX7_isBecomes cX7_isBecomes 1 .boolean [] 1 21 0 0 [.ref a0] uT (uPz 0x0) := by
  refine tMi.intro hst rfl (Nat.le_of_ble_eq_true rfl) ?_
  intro w0 hw0 _ X hC hR hO hX
  refine z_aload_n hC (pc := 0) 0 dX7_isBecomes_0 rfl rfl ?_
  refine z_aload_n hC (pc := 1) 0 dX7_isBecomes_1 rfl rfl ?_
  refine u_get hC hw0 (pc := 2) zf7 5 (hE.o7 h0) rfl dX7_isBecomes_2 zw122 (kk := fun vx3 tx3 fx3 => ?_)
  obtain ⟨x3, rfl⟩ := tx3
  obtain ⟨q4, hqq4⟩ := hE.o7 h0
  refine t_callVi hC hw0 (pc := 5) (As := [.int x3]) (kX7_at l G T κ hst hE h0) trivial dmX7_at zf7 hqq4 dX7_isBecomes_5 zw1161 rfl rfl (Nat.le_of_ble_eq_true rfl) (Nat.le_of_ble_eq_true rfl) (Nat.le_of_ble_eq_true rfl) (Nat.le_of_ble_eq_true rfl) (Nat.le_of_ble_eq_true rfl) (fun _ _ _ h => nomatch h) (fun x6 cw5 nw5 w5 hw5 pw5 => ?_)
  obtain ⟨rfl, rfl, kw5⟩ := pw5
  refine z_bipush hC (pc := 8) (v := 58) dX7_isBecomes_8 (by decide) ?_
  have j48 : ∀ (w7 : va_W), tW T w7 → tKeep 0x0 w5 w7 → ∀ (x8 : Int32), tZ (.int x8) → zS X G 1 w7 [] 0 0 48 [.int x8] := by
    intro w7 hw7 kw7 x8 zx8
    exact hR _ _ _ _ _ _ dX7_isBecomes_48 (t_nZ zx8) (Nat.le_of_ble_eq_true rfl) (Nat.le_of_ble_eq_true rfl) ⟨hw7, rfl, rfl, (tKeep.tr (tKeep.tr tKeep.rf kw5 rfl) kw7 rfl), zx8⟩
  have j47 : ∀ (w9 : va_W), tW T w9 → tKeep 0x0 w5 w9 → zS X G 1 w9 [] 0 0 47 [] := by
    intro w9 hw9 kw9
    refine z_iconst hC (pc := 47) (v := 0) dX7_isBecomes_47 (by decide) ?_
    exact j48 w9 hw9 (tKeep.tr tKeep.rf kw9 rfl) 0 (Or.inl rfl)
  refine z_icmp_ne hC (pc := 10) 47 dX7_isBecomes_10 (by decide) (fun c10 => ?_) (fun c10 => ?_)
  · refine z_lvs [] rfl ?_
    exact j47 w5 hw5 tKeep.rf
  · refine z_aload_n hC (pc := 13) 0 dX7_isBecomes_13 rfl rfl ?_
    refine z_aload_n hC (pc := 14) 0 dX7_isBecomes_14 rfl rfl ?_
    refine u_getK hC (pc := 15) zf7 5 (tKeep.F kw5 fx3 rfl) dX7_isBecomes_15 zw122 (kk := ?_)
    refine z_iconst hC (pc := 18) (v := 1) dX7_isBecomes_18 (by decide) ?_
    refine z_iadd hC (pc := 19) (v := (x3 + 1)) dX7_isBecomes_19 rfl ?_
    refine t_callVi hC hw5 (pc := 20) (As := [.int (x3 + 1)]) (kX7_at l G T κ hst hE h0) trivial dmX7_at zf7 hqq4 dX7_isBecomes_20 zw1161 rfl rfl (Nat.le_of_ble_eq_true rfl) (Nat.le_of_ble_eq_true rfl) (Nat.le_of_ble_eq_true rfl) (Nat.le_of_ble_eq_true rfl) (Nat.le_of_ble_eq_true rfl) (fun _ _ _ h => nomatch h) (fun x12 cw11 nw11 w11 hw11 pw11 => ?_)
    obtain ⟨rfl, rfl, kw11⟩ := pw11
    refine z_bipush hC (pc := 23) (v := 58) dX7_isBecomes_23 (by decide) ?_
    refine z_icmp_ne hC (pc := 25) 47 dX7_isBecomes_25 (by decide) (fun c13 => ?_) (fun c13 => ?_)
    · refine z_lvs [] rfl ?_
      exact j47 w11 hw11 (tKeep.tr tKeep.rf kw11 rfl)
    · refine z_aload_n hC (pc := 28) 0 dX7_isBecomes_28 rfl rfl ?_
      refine z_aload_n hC (pc := 29) 0 dX7_isBecomes_29 rfl rfl ?_
      refine u_getK hC (pc := 30) zf7 5 (tKeep.F kw11 (tKeep.F kw5 fx3 rfl) rfl) dX7_isBecomes_30 zw122 (kk := ?_)
      refine z_iconst hC (pc := 33) (v := 2) dX7_isBecomes_33 (by decide) ?_
      refine z_iadd hC (pc := 34) (v := (x3 + 2)) dX7_isBecomes_34 rfl ?_
      refine t_callVi hC hw11 (pc := 35) (As := [.int (x3 + 2)]) (kX7_at l G T κ hst hE h0) trivial dmX7_at zf7 hqq4 dX7_isBecomes_35 zw1161 rfl rfl (Nat.le_of_ble_eq_true rfl) (Nat.le_of_ble_eq_true rfl) (Nat.le_of_ble_eq_true rfl) (Nat.le_of_ble_eq_true rfl) (Nat.le_of_ble_eq_true rfl) (fun _ _ _ h => nomatch h) (fun x15 cw14 nw14 w14 hw14 pw14 => ?_)
      obtain ⟨rfl, rfl, kw14⟩ := pw14
      refine z_bipush hC (pc := 38) (v := 61) dX7_isBecomes_38 (by decide) ?_
      refine z_icmp_ne hC (pc := 40) 47 dX7_isBecomes_40 (by decide) (fun c16 => ?_) (fun c16 => ?_)
      · refine z_lvs [] rfl ?_
        exact j47 w14 hw14 (tKeep.tr (tKeep.tr tKeep.rf kw11 rfl) kw14 rfl)
      · refine z_iconst hC (pc := 43) (v := 1) dX7_isBecomes_43 (by decide) ?_
        refine z_goto hC (pc := 44) 48 dX7_isBecomes_44 (by decide) ?_
        refine z_lvs [] rfl ?_
        exact j48 w14 hw14 (tKeep.tr (tKeep.tr tKeep.rf kw11 rfl) kw14 rfl) 1 (Or.inr rfl)
set_option maxRecDepth 20000 in
theorem kX7_sign (l : Launch) (G : zG) (T : tT) (κ : Nat → List Nat) (hst : l.stackTraces = false) (hE : tE G T κ) {a0 : Nat} (h0 : a0 ∈ κ 7) {x1 : Int32} : tMv l G T yX7_sign cX7_sign 2 ["java/lang/IllegalStateException"] 8 124 1 6 [.ref a0, .int x1] uT (uPv 0x1a00000000000000000000000000000000000000000000000000000000000000000000000000000000000000000000000000000000000000000) := by
  refine tMv.intro hst rfl (Nat.le_of_ble_eq_true rfl) ?_
  intro w0 hw0 _ X hC hR hO hX
  refine z_aload_n hC (pc := 0) 0 dX7_sign_0 rfl rfl ?_
  obtain ⟨q4, hqq4⟩ := hE.o7 h0
  refine t_callVv hC hw0 (pc := 1) (As := []) (kX7_skip l G T κ hst hE h0) trivial dmX7_skip zf7 hqq4 dX7_sign_1 zw1237 rfl rfl (Nat.le_of_ble_eq_true rfl) (Nat.le_of_ble_eq_true rfl) (Nat.le_of_ble_eq_true rfl) (Nat.le_of_ble_eq_true rfl) (Nat.le_of_ble_eq_true rfl) (fun E w q hE hw => hO E w _ _ _ _ _ q hE (Nat.le_of_ble_eq_true rfl) (Nat.le_of_ble_eq_true rfl) hw) (fun cw5 nw5 w5 hw5 pw5 => ?_)
  obtain ⟨rfl, rfl, kw5⟩ := pw5
  refine z_aload_n hC (pc := 4) 0 dX7_sign_4 rfl rfl ?_
  refine t_callVi hC hw5 (pc := 5) (As := []) (kX7_peek l G T κ hst hE h0) trivial dmX7_peek zf7 hqq4 dX7_sign_5 zw1160 rfl rfl (Nat.le_of_ble_eq_true rfl) (Nat.le_of_ble_eq_true rfl) (Nat.le_of_ble_eq_true rfl) (Nat.le_of_ble_eq_true rfl) (Nat.le_of_ble_eq_true rfl) (fun _ _ _ h => nomatch h) (fun x8 cw7 nw7 w7 hw7 pw7 => ?_)
  obtain ⟨rfl, rfl, kw7⟩ := pw7
  refine z_iload_n hC (pc := 8) 1 dX7_sign_8 rfl rfl ?_
  have j28 : ∀ (w9 : va_W), tW T w9 → tKeep 0x1800000000000000000000000000000000000000000000000000000000000000000000000000000000000000000000000000000000000000000 w7 w9 → zS X G 2 w9 [(0, .ref a0)] 0 0 28 [] := by
    intro w9 hw9 kw9
    refine z_aload_n hC (pc := 28) 0 dX7_sign_28 rfl rfl ?_
    refine z_dup hC (pc := 29) dX7_sign_29 rfl ?_
    refine u_get hC hw9 (pc := 30) zf7 5 (hE.o7 h0) rfl dX7_sign_30 zw122 (kk := fun vx10 tx10 fx10 => ?_)
    obtain ⟨x10, rfl⟩ := tx10
    refine z_iconst hC (pc := 33) (v := 1) dX7_sign_33 (by decide) ?_
    refine z_iadd hC (pc := 34) (v := (x10 + 1)) dX7_sign_34 rfl ?_
    refine u_put hC hw9 (pc := 35) zf7 5 (hE.o7 h0) rfl ⟨_, rfl⟩ dX7_sign_35 zw122 rfl rfl rfl (kk := fun w11 hw11 fw11 kw11 => ?_)
    exact hR _ _ _ _ _ dX7_sign_38 (Nat.le_of_ble_eq_true rfl) (Nat.le_of_ble_eq_true rfl) ⟨hw11, rfl, rfl, (tKeep.tr (tKeep.tr (tKeep.tr (tKeep.tr tKeep.rf kw5 rfl) kw7 rfl) kw9 rfl) kw11 rfl)⟩
  have j19 : ∀ (w12 : va_W), tW T w12 → tKeep 0x0 w7 w12 → zS X G 2 w12 [(0, .ref a0)] 0 0 19 [] := by
    intro w12 hw12 kw12
    refine z_aload_n hC (pc := 19) 0 dX7_sign_19 rfl rfl ?_
    refine z_iconst hC (pc := 20) (v := 1) dX7_sign_20 (by decide) ?_
    refine z_aload_n hC (pc := 21) 0 dX7_sign_21 rfl rfl ?_
    refine u_get hC hw12 (pc := 22) zf7 5 (hE.o7 h0) rfl dX7_sign_22 zw122 (kk := fun vx13 tx13 fx13 => ?_)
    obtain ⟨x13, rfl⟩ := tx13
    refine t_callVv hC hw12 (pc := 25) (As := [.int 1, .int x13]) (kX7_fail l G T κ hst hE h0) trivial dmX7_fail zf7 hqq4 dX7_sign_25 zw1020 rfl rfl (Nat.le_of_ble_eq_true rfl) (Nat.le_of_ble_eq_true rfl) (Nat.le_of_ble_eq_true rfl) (Nat.le_of_ble_eq_true rfl) (Nat.le_of_ble_eq_true rfl) (fun E w q hE hw => hO E w _ _ _ _ _ q hE (Nat.le_of_ble_eq_true rfl) (Nat.le_of_ble_eq_true rfl) hw) (fun cw14 nw14 w14 hw14 pw14 => ?_)
    obtain ⟨rfl, rfl, kw14⟩ := pw14
    exact j28 w14 hw14 (tKeep.tr (tKeep.tr tKeep.rf kw12 rfl) kw14 rfl)
  refine z_icmp_ne hC (pc := 9) 19 dX7_sign_9 (by decide) (fun c16 => ?_) (fun c16 => ?_)
  · refine z_lvs [0] rfl ?_
    exact j19 w7 hw7 tKeep.rf
  · refine z_aload_n hC (pc := 12) 0 dX7_sign_12 rfl rfl ?_
    refine t_callVi hC hw7 (pc := 13) (As := []) (kX7_isBecomes l G T κ hst hE h0) trivial dmX7_isBecomes zf7 hqq4 dX7_sign_13 zw1238 rfl rfl (Nat.le_of_ble_eq_true rfl) (Nat.le_of_ble_eq_true rfl) (Nat.le_of_ble_eq_true rfl) (Nat.le_of_ble_eq_true rfl) (Nat.le_of_ble_eq_true rfl) (fun _ _ _ h => nomatch h) (fun x18 cw17 nw17 w17 hw17 pw17 => ?_)
    obtain ⟨rfl, rfl, kw17, zx18⟩ := pw17
    refine z_if_eq hC (pc := 16) 28 dX7_sign_16 (by decide) (fun c19 => ?_) (fun c19 => ?_)
    · refine z_lvs [0] rfl ?_
      exact j28 w17 hw17 (tKeep.tr tKeep.rf kw17 rfl)
    · refine z_lvs [0] rfl ?_
      exact j19 w17 hw17 (tKeep.tr tKeep.rf kw17 rfl)
set_option maxRecDepth 20000 in
theorem kX1_isOnTheWay (l : Launch) (G : zG) (T : tT) (κ : Nat → List Nat) (hst : l.stackTraces = false) (hE : tE G T κ) {a0 : Nat} (h0 : a0 ∈ κ 1) {x1 : Int32} : tMi l G T yX1_isOnTheWay cX1_isOnTheWay 3 .boolean [] 1 21 0 0 [.ref a0, .int x1] uT (uPz 0x0) := by
  refine tMi.intro hst rfl (Nat.le_of_ble_eq_true rfl) ?_
  intro w0 hw0 _ X hC hR hO hX
  refine z_iconst hC (pc := 0) (v := 0) dX1_isOnTheWay_0 (by decide) ?_
  refine z_istore_n hC (pc := 1) (lv' := [(2, .int 0), (0, .ref a0), (1, .int x1)]) dX1_isOnTheWay_1 rfl (by decide) rfl ?_
  have j2 : ∀ (d2 : Nat), ∀ (w4 : va_W), tW T w4 → tKeep 0x0 w0 w4 → ∀ (x5 : Int32), ¬ x5 < 0 → (2 ^ 31 - (x5 : Int32).toInt).toNat ≤ d2 → zS X G 3 w4 [(0, .ref a0), (1, .int x1), (2, .int x5)] 0 0 2 [] := by
    intro d2
    induction d2 with
    | zero => intro w4 hw4 kw4 x5 v6 hd2; exact (t_zero hd2).elim
    | succ d2 ih2 =>
      intro w4 hw4 kw4 x5 v6 hd2
      refine z_iload_n hC (pc := 2) 2 dX1_isOnTheWay_2 rfl rfl ?_
      refine z_aload_n hC (pc := 3) 0 dX1_isOnTheWay_3 rfl rfl ?_
      refine u_get hC hw4 (pc := 4) zf1 14 (hE.o1 h0) rfl dX1_isOnTheWay_4 zw398 (kk := fun vx7 tx7 fx7 => ?_)
      obtain ⟨x7, rfl⟩ := tx7
      refine z_icmp_ge hC (pc := 7) 30 dX1_isOnTheWay_7 (by decide) (fun c8 => ?_) (fun c8 => ?_)
      · refine z_iconst hC (pc := 30) (v := 0) dX1_isOnTheWay_30 (by decide) ?_
        exact hR _ _ _ _ _ _ dX1_isOnTheWay_31 rfl (Nat.le_of_ble_eq_true rfl) (Nat.le_of_ble_eq_true rfl) ⟨hw4, rfl, rfl, (tKeep.tr tKeep.rf kw4 rfl), (Or.inl rfl)⟩
      · refine z_aload_n hC (pc := 10) 0 dX1_isOnTheWay_10 rfl rfl ?_
        refine u_get hC hw4 (pc := 11) zf1 12 (hE.o1 h0) rfl dX1_isOnTheWay_11 zw396 (kk := fun va9 ta9 fa9 => ?_)
        obtain ⟨a9, ma9, rfl⟩ := ta9
        refine z_iload_n hC (pc := 14) 2 dX1_isOnTheWay_14 rfl rfl ?_
        refine t_callSNi hC hw4 (pc := 15) (As := [.ref a9, .int x5]) (kX12_get l G T κ hst hE ma9) trivial dmX12_get dX1_isOnTheWay_15 zw999 rfl rfl (Nat.le_of_ble_eq_true rfl) (Nat.le_of_ble_eq_true rfl) (Nat.le_of_ble_eq_true rfl) (Nat.le_of_ble_eq_true rfl) (Nat.le_of_ble_eq_true rfl) (fun _ _ _ h => nomatch h) (fun x11 cw10 nw10 w10 hw10 pw10 => ?_)
        obtain ⟨rfl, rfl, kw10⟩ := pw10
        refine z_iload_n hC (pc := 18) 1 dX1_isOnTheWay_18 rfl rfl ?_
        refine z_icmp_ne hC (pc := 19) 24 dX1_isOnTheWay_19 (by decide) (fun c12 => ?_) (fun c12 => ?_)
        · refine z_iinc hC (pc := 24) (v := (x5 + 1)) (lv' := [(2, .int (x5 + 1)), (0, .ref a0), (1, .int x1)]) 2 dX1_isOnTheWay_24 rfl (congrArg _ (by decide)) (by decide) rfl ?_
          refine z_goto hC (pc := 27) 2 dX1_isOnTheWay_27 (by decide) ?_
          refine z_lvs [1, 2, 0] rfl ?_
          exact ih2 w10 hw10 (tKeep.tr (tKeep.tr tKeep.rf kw4 rfl) kw10 rfl) (x5 + 1) (t_nnI v6 (Int32.not_le.mp c8)) (t_up (Int32.not_le.mp c8) hd2)
        · refine z_iconst hC (pc := 22) (v := 1) dX1_isOnTheWay_22 (by decide) ?_
          exact hR _ _ _ _ _ _ dX1_isOnTheWay_23 rfl (Nat.le_of_ble_eq_true rfl) (Nat.le_of_ble_eq_true rfl) ⟨hw10, rfl, rfl, (tKeep.tr (tKeep.tr tKeep.rf kw4 rfl) kw10 rfl), (Or.inr rfl)⟩
  refine z_lvs [1, 2, 0] rfl ?_
  exact j2 _ w0 hw0 tKeep.rf 0 (by decide) (Nat.le_refl _)
set_option maxRecDepth 20000 in
theorem kX4_note (l : Launch) (G : zG) (T : tT) (κ : Nat → List Nat) (hst : l.stackTraces = false) (hE : tE G T κ) {a0 : Nat} (h0 : a0 ∈ κ 4) {x1 : Int32} {x2 : Int32} : tMv l G T yX4_note cX4_note 5 [] 1 22 0 0 [.ref a0, .int x1, .int x2] uT (uPv 0x0) := by
  refine tMv.intro hst rfl (Nat.le_of_ble_eq_true rfl) ?_
  intro w0 hw0 _ X hC hR hO hX
  refine z_aload_n hC (pc := 0) 0 dX4_note_0 rfl rfl ?_
  refine u_get hC hw0 (pc := 1) zf4 1 (hE.o4 h0) rfl dX4_note_1 zw208 (kk := fun va5 ta5 fa5 => ?_)
  obtain ⟨a5, ma5, rfl⟩ := ta5
  refine z_iload_n hC (pc := 4) 1 dX4_note_4 rfl rfl ?_
  refine t_callSNi hC hw0 (pc := 5) (As := [.ref a5, .int x1]) (kX12_get l G T κ hst hE ma5) trivial dmX12_get dX4_note_5 zw992 rfl rfl (Nat.le_of_ble_eq_true rfl) (Nat.le_of_ble_eq_true rfl) (Nat.le_of_ble_eq_true rfl) (Nat.le_of_ble_eq_true rfl) (Nat.le_of_ble_eq_true rfl) (fun _ _ _ h => nomatch h) (fun x7 cw6 nw6 w6 hw6 pw6 => ?_)
  obtain ⟨rfl, rfl, kw6⟩ := pw6
  refine z_istore_n hC (pc := 8) (lv' := [(3, .int x7), (0, .ref a0), (1, .int x1), (2, .int x2)]) dX4_note_8 rfl (by decide) rfl ?_
  refine z_iconst hC (pc := 9) (v := 0) dX4_note_9 (by decide) ?_
  refine z_istore hC (pc := 10) (lv' := [(4, .int 0), (3, .int x7), (0, .ref a0), (1, .int x1), (2, .int x2)]) dX4_note_10 (by decide) rfl ?_
  have j12 : ∀ (d12 : Nat), ∀ (w8 : va_W), tW T w8 → tKeep 0x0 w6 w8 → ∀ (x9 : Int32), ¬ x9 < 0 → (2 ^ 31 - (x9 : Int32).toInt).toNat ≤ d12 → zS X G 5 w8 [(0, .ref a0), (1, .int x1), (2, .int x2), (3, .int x7), (4, .int x9)] 0 0 12 [] := by
    intro d12
    induction d12 with
    | zero => intro w8 hw8 kw8 x9 v10 hd12; exact (t_zero hd12).elim
    | succ d12 ih12 =>
      intro w8 hw8 kw8 x9 v10 hd12
      refine z_iload hC (pc := 12) 4 dX4_note_12 rfl ?_
      refine z_iload_n hC (pc := 14) 3 dX4_note_14 rfl rfl ?_
      refine z_icmp_ge hC (pc := 15) 43 dX4_note_15 (by decide) (fun c11 => ?_) (fun c11 => ?_)
      · refine z_iload_n hC (pc := 43) 3 dX4_note_43 rfl rfl ?_
        refine z_bipush hC (pc := 44) (v := 8) dX4_note_44 (by decide) ?_
        have j74 : ∀ (w12 : va_W), tW T w12 → tKeep 0x0 w8 w12 → zS X G 5 w12 [] 0 0 74 [] := by
          intro w12 hw12 kw12
          exact hR _ _ _ _ _ dX4_note_74 (Nat.le_of_ble_eq_true rfl) (Nat.le_of_ble_eq_true rfl) ⟨hw12, rfl, rfl, (tKeep.tr (tKeep.tr (tKeep.tr tKeep.rf kw6 rfl) kw8 rfl) kw12 rfl)⟩
        refine z_icmp_ge hC (pc := 46) 74 dX4_note_46 (by decide) (fun c13 => ?_) (fun c13 => ?_)
        · refine z_lvs [] rfl ?_
          exact j74 w8 hw8 tKeep.rf
        · refine z_aload_n hC (pc := 49) 0 dX4_note_49 rfl rfl ?_
          refine u_get hC hw8 (pc := 50) zf4 0 (hE.o4 h0) rfl dX4_note_50 zw206 (kk := fun va14 ta14 fa14 => ?_)
          obtain ⟨a14, ma14, rfl⟩ := ta14
          refine z_bipush hC (pc := 53) (v := 8) dX4_note_53 (by decide) ?_
          refine z_iload_n hC (pc := 55) 1 dX4_note_55 rfl rfl ?_
          refine z_imul hC (pc := 56) (v := ((8 : Int32) * x1)) dX4_note_56 rfl ?_
          refine z_iload_n hC (pc := 57) 3 dX4_note_57 rfl rfl ?_
          refine z_iadd hC (pc := 58) (v := (((8 : Int32) * x1) + x7)) dX4_note_58 rfl ?_
          refine z_iload_n hC (pc := 59) 2 dX4_note_59 rfl rfl ?_
          refine t_callSNv hC hw8 (pc := 60) (As := [.ref a14, .int (((8 : Int32) * x1) + x7), .int x2]) (kX12_set l G T κ hst hE ma14) trivial dmX12_set dX4_note_60 zw998 rfl rfl (Nat.le_of_ble_eq_true rfl) (Nat.le_of_ble_eq_true rfl) (Nat.le_of_ble_eq_true rfl) (Nat.le_of_ble_eq_true rfl) (Nat.le_of_ble_eq_true rfl) (fun _ _ _ h => nomatch h) (fun cw15 nw15 w15 hw15 pw15 => ?_)
          obtain ⟨rfl, rfl, kw15⟩ := pw15
          refine z_aload_n hC (pc := 63) 0 dX4_note_63 rfl rfl ?_
          refine u_getK hC (pc := 64) zf4 1 (tKeep.F kw15 (tKeep.F kw8 (tKeep.F kw6 fa5 rfl) rfl) rfl) dX4_note_64 zw208 (kk := ?_)
          refine z_iload_n hC (pc := 67) 1 dX4_note_67 rfl rfl ?_
          refine z_iload_n hC (pc := 68) 3 dX4_note_68 rfl rfl ?_
          refine z_iconst hC (pc := 69) (v := 1) dX4_note_69 (by decide) ?_
          refine z_iadd hC (pc := 70) (v := (x7 + 1)) dX4_note_70 rfl ?_
          refine t_callSNv hC hw15 (pc := 71) (As := [.ref a5, .int x1, .int (x7 + 1)]) (kX12_set l G T κ hst hE ma5) trivial dmX12_set dX4_note_71 zw998 rfl rfl (Nat.le_of_ble_eq_true rfl) (Nat.le_of_ble_eq_true rfl) (Nat.le_of_ble_eq_true rfl) (Nat.le_of_ble_eq_true rfl) (Nat.le_of_ble_eq_true rfl) (fun _ _ _ h => nomatch h) (fun cw17 nw17 w17 hw17 pw17 => ?_)
          obtain ⟨rfl, rfl, kw17⟩ := pw17
          refine z_lvs [] rfl ?_
          exact j74 w17 hw17 (tKeep.tr (tKeep.tr tKeep.rf kw15 rfl) kw17 rfl)
      · refine z_aload_n hC (pc := 18) 0 dX4_note_18 rfl rfl ?_
        refine u_get hC hw8 (pc := 19) zf4 0 (hE.o4 h0) rfl dX4_note_19 zw206 (kk := fun va19 ta19 fa19 => ?_)
        obtain ⟨a19, ma19, rfl⟩ := ta19
        refine z_bipush hC (pc := 22) (v := 8) dX4_note_22 (by decide) ?_
        refine z_iload_n hC (pc := 24) 1 dX4_note_24 rfl rfl ?_
        refine z_imul hC (pc := 25) (v := ((8 : Int32) * x1)) dX4_note_25 rfl ?_
        refine z_iload hC (pc := 26) 4 dX4_note_26 rfl ?_
        refine z_iadd hC (pc := 28) (v := (((8 : Int32) * x1) + x9)) dX4_note_28 rfl ?_
        refine t_callSNi hC hw8 (pc := 29) (As := [.ref a19, .int (((8 : Int32) * x1) + x9)]) (kX12_get l G T κ hst hE ma19) trivial dmX12_get dX4_note_29 zw992 rfl rfl (Nat.le_of_ble_eq_true rfl) (Nat.le_of_ble_eq_true rfl) (Nat.le_of_ble_eq_true rfl) (Nat.le_of_ble_eq_true rfl) (Nat.le_of_ble_eq_true rfl) (fun _ _ _ h => nomatch h) (fun x21 cw20 nw20 w20 hw20 pw20 => ?_)
        obtain ⟨rfl, rfl, kw20⟩ := pw20
        refine z_iload_n hC (pc := 32) 2 dX4_note_32 rfl rfl ?_
        refine z_icmp_ne hC (pc := 33) 37 dX4_note_33 (by decide) (fun c22 => ?_) (fun c22 => ?_)
        · refine z_iinc hC (pc := 37) (v := (x9 + 1)) (lv' := [(4, .int (x9 + 1)), (0, .ref a0), (1, .int x1), (2, .int x2), (3, .int x7)]) 4 dX4_note_37 rfl (congrArg _ (by decide)) (by decide) rfl ?_
          refine z_goto hC (pc := 40) 12 dX4_note_40 (by decide) ?_
          refine z_lvs [1, 2, 3, 4, 0] rfl ?_
          exact ih12 w20 hw20 (tKeep.tr (tKeep.tr tKeep.rf kw8 rfl) kw20 rfl) (x9 + 1) (t_nnI v10 (Int32.not_le.mp c11)) (t_up (Int32.not_le.mp c11) hd12)
        · exact hR _ _ _ _ _ dX4_note_36 (Nat.le_of_ble_eq_true rfl) (Nat.le_of_ble_eq_true rfl) ⟨hw20, rfl, rfl, (tKeep.tr (tKeep.tr (tKeep.tr tKeep.rf kw6 rfl) kw8 rfl) kw20 rfl)⟩
  refine z_lvs [2, 3, 4, 1, 0] rfl ?_
  exact j12 _ w6 hw6 tKeep.rf 0 (by decide) (Nat.le_refl _)
set_option maxRecDepth 20000 in
theorem kX12_isLetter (l : Launch) (G : zG) (T : tT) (κ : Nat → List Nat) (hst : l.stackTraces = false) (hE : tE G T κ) {x0 : Int32} : tMi l G T yX12_isLetter cX12_isLetter 1 .boolean [] 0 0 0 0 [.int x0] uT (uPz 0x0) := by
  refine tMi.intro hst rfl (Nat.le_of_ble_eq_true rfl) ?_
  intro w0 hw0 _ X hC hR hO hX
  refine z_iload_n hC (pc := 0) 0 dX12_isLetter_0 rfl rfl ?_
  refine z_bipush hC (pc := 1) (v := 97) dX12_isLetter_1 (by decide) ?_
  have j35 : ∀ (x3 : Int32), tZ (.int x3) → zS X G 1 w0 [] 0 0 35 [.int x3] := by
    intro x3 zx3
    exact hR _ _ _ _ _ _ dX12_isLetter_35 (t_nZ zx3) (Nat.le_of_ble_eq_true rfl) (Nat.le_of_ble_eq_true rfl) ⟨hw0, rfl, rfl, tKeep.rf, zx3⟩
  have j30 : zS X G 1 w0 [] 0 0 30 [] := by
    refine z_iconst hC (pc := 30) (v := 1) dX12_isLetter_30 (by decide) ?_
    refine z_goto hC (pc := 31) 35 dX12_isLetter_31 (by decide) ?_
    exact j35 1 (Or.inr rfl)
  have j12 : zS X G 1 w0 [(0, .int x0)] 0 0 12 [] := by
    refine z_iload_n hC (pc := 12) 0 dX12_isLetter_12 rfl rfl ?_
    refine z_bipush hC (pc := 13) (v := 65) dX12_isLetter_13 (by decide) ?_
    have j24 : zS X G 1 w0 [(0, .int x0)] 0 0 24 [] := by
      refine z_iload_n hC (pc := 24) 0 dX12_isLetter_24 rfl rfl ?_
      refine z_bipush hC (pc := 25) (v := 95) dX12_isLetter_25 (by decide) ?_
      refine z_icmp_ne hC (pc := 27) 34 dX12_isLetter_27 (by decide) (fun c4 => ?_) (fun c4 => ?_)
      · refine z_iconst hC (pc := 34) (v := 0) dX12_isLetter_34 (by decide) ?_
        refine z_lvs [] rfl ?_
        exact j35 0 (Or.inl rfl)
      · refine z_lvs [] rfl ?_
        exact j30
    refine z_icmp_lt hC (pc := 15) 24 dX12_isLetter_15 (by decide) (fun c5 => ?_) (fun c5 => ?_)
    · exact j24
    · refine z_iload_n hC (pc := 18) 0 dX12_isLetter_18 rfl rfl ?_
      refine z_bipush hC (pc := 19) (v := 90) dX12_isLetter_19 (by decide) ?_
      refine z_icmp_le hC (pc := 21) 30 dX12_isLetter_21 (by decide) (fun c6 => ?_) (fun c6 => ?_)
      · refine z_lvs [] rfl ?_
        exact j30
      · exact j24
  refine z_icmp_lt hC (pc := 3) 12 dX12_isLetter_3 (by decide) (fun c7 => ?_) (fun c7 => ?_)
  · exact j12
  · refine z_iload_n hC (pc := 6) 0 dX12_isLetter_6 rfl rfl ?_
    refine z_bipush hC (pc := 7) (v := 122) dX12_isLetter_7 (by decide) ?_
    refine z_icmp_le hC (pc := 9) 30 dX12_isLetter_9 (by decide) (fun c8 => ?_) (fun c8 => ?_)
    · refine z_lvs [] rfl ?_
      exact j30
    · exact j12
set_option maxRecDepth 20000 in
theorem kX7_here (l : Launch) (G : zG) (T : tT) (κ : Nat → List Nat) (hst : l.stackTraces = false) (hE : tE G T κ) {a0 : Nat} (h0 : a0 ∈ κ 7) : tMi l G T yX7_here cX7_here 1 .int [] 0 0 0 0 [.ref a0] uT (uPi 0x0) := by
  refine tMi.intro hst rfl (Nat.le_of_ble_eq_true rfl) ?_
  intro w0 hw0 _ X hC hR hO hX
  refine z_aload_n hC (pc := 0) 0 dX7_here_0 rfl rfl ?_
  refine u_get hC hw0 (pc := 1) zf7 1 (hE.o7 h0) rfl dX7_here_1 zw116 (kk := fun vx3 tx3 fx3 => ?_)
  obtain ⟨x3, rfl, zx3⟩ := t_zof tx3
  have j46 : ∀ (x4 : Int32), zS X G 1 w0 [] 0 0 46 [.int x4] := by
    intro x4
    exact hR _ _ _ _ _ _ dX7_here_46 rfl (Nat.le_of_ble_eq_true rfl) (Nat.le_of_ble_eq_true rfl) ⟨hw0, rfl, rfl, tKeep.rf⟩
  refine z_if_eq hC (pc := 4) 14 dX7_here_4 (by decide) (fun c5 => ?_) (fun c5 => ?_)
  · refine z_aload_n hC (pc := 14) 0 dX7_here_14 rfl rfl ?_
    refine u_get hC hw0 (pc := 15) zf7 5 (hE.o7 h0) rfl dX7_here_15 zw122 (kk := fun vx6 tx6 fx6 => ?_)
    obtain ⟨x6, rfl⟩ := tx6
    have j45 : zS X G 1 w0 [] 0 0 45 [] := by
      refine z_iconst hC (pc := 45) (v := 0) dX7_here_45 (by decide) ?_
      exact j46 0
    refine z_if_lt hC (pc := 18) 45 dX7_here_18 (by decide) (fun c7 => ?_) (fun c7 => ?_)
    · refine z_lvs [] rfl ?_
      exact j45
    · refine z_aload_n hC (pc := 21) 0 dX7_here_21 rfl rfl ?_
      refine u_getK hC (pc := 22) zf7 5 fx6 dX7_here_22 zw122 (kk := ?_)
      refine z_aload_n hC (pc := 25) 0 dX7_here_25 rfl rfl ?_
      refine u_get hC hw0 (pc := 26) zf7 3 (hE.o7 h0) rfl dX7_here_26 zw118 (kk := fun va8 ta8 fa8 => ?_)
      obtain ⟨a8, ma8, rfl⟩ := ta8
      obtain ⟨N9, gN9, AN9⟩ := hE.ints ma8
      have hN9 : N9 < 2 ^ 31 := Nat.lt_trans gN9 (by decide)
      refine u_alenI hC hw0 (pc := 29) AN9 dX7_here_29 ?_
      refine z_icmp_ge hC (pc := 30) 45 dX7_here_30 (by decide) (fun c10 => ?_) (fun c10 => ?_)
      · refine z_lvs [] rfl ?_
        exact j45
      · refine z_aload_n hC (pc := 33) 0 dX7_here_33 rfl rfl ?_
        refine u_getK hC (pc := 34) zf7 3 fa8 dX7_here_34 zw118 (kk := ?_)
        refine z_aload_n hC (pc := 37) 0 dX7_here_37 rfl rfl ?_
        refine u_getK hC (pc := 38) zf7 5 fx6 dX7_here_38 zw122 (kk := ?_)
        refine t_iald hC hw0 (pc := 41) AN9 dX7_here_41 (t_inB hN9 c7 c10) (fun x11 _ => ?_)
        refine z_goto hC (pc := 42) 46 dX7_here_42 (by decide) ?_
        refine z_lvs [] rfl ?_
        exact j46 x11
  · refine z_aload_n hC (pc := 7) 0 dX7_here_7 rfl rfl ?_
    refine u_get hC hw0 (pc := 8) zf7 5 (hE.o7 h0) rfl dX7_here_8 zw122 (kk := fun vx12 tx12 fx12 => ?_)
    obtain ⟨x12, rfl⟩ := tx12
    refine z_goto hC (pc := 11) 46 dX7_here_11 (by decide) ?_
    refine z_lvs [] rfl ?_
    exact j46 x12
set_option maxRecDepth 20000 in
theorem kX7_take (l : Launch) (G : zG) (T : tT) (κ : Nat → List Nat) (hst : l.stackTraces = false) (hE : tE G T κ) {a0 : Nat} (h0 : a0 ∈ κ 7) {x1 : Int32} {a2 : Nat} (h2 : a2 ∈ κ 6) : tMi l G T yX7_take cX7_take 4 .int [] 3 75 0 0 [.ref a0, .int x1, .ref a2] uT (uPi 0x200000000000000030000000000000000000000000000000000000000000000000000000000000000000000000000000000000000000000000) := by
  refine tMi.intro hst rfl (Nat.le_of_ble_eq_true rfl) ?_
  intro w0 hw0 _ X hC hR hO hX
  refine z_aload_n hC (pc := 0) 0 dX7_take_0 rfl rfl ?_
  refine u_get hC hw0 (pc := 1) zf7 5 (hE.o7 h0) rfl dX7_take_1 zw122 (kk := fun vx5 tx5 fx5 => ?_)
  obtain ⟨x5, rfl⟩ := tx5
  refine z_istore_n hC (pc := 4) (lv' := [(3, .int x5), (0, .ref a0), (1, .int x1), (2, .ref a2)]) dX7_take_4 rfl (by decide) rfl ?_
  refine z_aload_n hC (pc := 5) 1 dX7_take_5 rfl rfl ?_
  refine z_iload_n hC (pc := 6) 2 dX7_take_6 rfl rfl ?_
  refine u_put hC hw0 (pc := 7) zf7 5 (hE.o7 h0) rfl ⟨_, rfl⟩ dX7_take_7 zw122 rfl rfl rfl (kk := fun w6 hw6 fw6 kw6 => ?_)
  refine z_aload_n hC (pc := 10) 3 dX7_take_10 rfl rfl ?_
  refine z_aload_n hC (pc := 11) 1 dX7_take_11 rfl rfl ?_
  refine u_get hC hw6 (pc := 12) zf7 0 (hE.o7 h0) rfl dX7_take_12 zw115 (kk := fun va7 ta7 fa7 => ?_)
  obtain ⟨a7, ma7, rfl⟩ := ta7
  refine z_iload_n hC (pc := 15) 0 dX7_take_15 rfl rfl ?_
  refine z_iload_n hC (pc := 16) 2 dX7_take_16 rfl rfl ?_
  refine z_iload_n hC (pc := 17) 0 dX7_take_17 rfl rfl ?_
  refine z_isub hC (pc := 18) (v := (x1 - x5)) dX7_take_18 rfl ?_
  obtain ⟨q8, hqq8⟩ := hE.o6 h2
  refine t_callVi hC hw6 (pc := 19) (As := [.ref a7, .int x5, .int (x1 - x5)]) (kX6_intern l G T κ hst hE h2 (Or.inl ma7)) trivial dmX6_intern zf6 hqq8 dX7_take_19 zw1284 rfl rfl (Nat.le_of_ble_eq_true rfl) (Nat.le_of_ble_eq_true rfl) (Nat.le_of_ble_eq_true rfl) (Nat.le_of_ble_eq_true rfl) (Nat.le_of_ble_eq_true rfl) (fun _ _ _ h => nomatch h) (fun x10 cw9 nw9 w9 hw9 pw9 => ?_)
  obtain ⟨rfl, rfl, kw9⟩ := pw9
  exact hR _ _ _ _ _ _ dX7_take_22 rfl (Nat.le_of_ble_eq_true rfl) (Nat.le_of_ble_eq_true rfl) ⟨hw9, rfl, rfl, (tKeep.tr (tKeep.tr tKeep.rf kw6 rfl) kw9 rfl)⟩
set_option maxRecDepth 20000 in
theorem kX2_newDef (l : Launch) (G : zG) (T : tT) (κ : Nat → List Nat) (hst : l.stackTraces = false) (hE : tE G T κ) {a0 : Nat} (h0 : a0 ∈ κ 2) {x1 : Int32} {x2 : Int32} {x3 : Int32} {x4 : Int32} : tMi l G T yX2_newDef cX2_newDef 6 .int [] 1 22 0 0 [.ref a0, .int x1, .int x2, .int x3, .int x4] uT (uPi 0x10000000000000000000000000000000000) := by
  refine tMi.intro hst rfl (Nat.le_of_ble_eq_true rfl) ?_
  intro w0 hw0 _ X hC hR hO hX
  refine z_aload_n hC (pc := 0) 0 dX2_newDef_0 rfl rfl ?_
  refine u_get hC hw0 (pc := 1) zf2 8 (hE.o2 h0) rfl dX2_newDef_1 zw259 (kk := fun vx7 tx7 fx7 => ?_)
  obtain ⟨x7, rfl⟩ := tx7
  refine z_bipush hC (pc := 4) (v := 7) dX2_newDef_4 (by decide) ?_
  refine z_imul hC (pc := 6) (v := (x7 * 7)) dX2_newDef_6 rfl ?_
  refine z_istore hC (pc := 7) (lv' := [(5, .int (x7 * 7)), (0, .ref a0), (1, .int x1), (2, .int x2), (3, .int x3), (4, .int x4)]) dX2_newDef_7 (by decide) rfl ?_
  refine z_aload_n hC (pc := 9) 1 dX2_newDef_9 rfl rfl ?_
  refine u_get hC hw0 (pc := 10) zf2 7 (hE.o2 h0) rfl dX2_newDef_10 zw256 (kk := fun va8 ta8 fa8 => ?_)
  obtain ⟨a8, ma8, rfl⟩ := ta8
  refine z_iload hC (pc := 13) 0 dX2_newDef_13 rfl ?_
  refine z_iload_n hC (pc := 15) 2 dX2_newDef_15 rfl rfl ?_
  refine t_callSNv hC hw0 (pc := 16) (As := [.ref a8, .int (x7 * 7), .int x1]) (kX12_set l G T κ hst hE ma8) trivial dmX12_set dX2_newDef_16 zw1289 rfl rfl (Nat.le_of_ble_eq_true rfl) (Nat.le_of_ble_eq_true rfl) (Nat.le_of_ble_eq_true rfl) (Nat.le_of_ble_eq_true rfl) (Nat.le_of_ble_eq_true rfl) (fun _ _ _ h => nomatch h) (fun cw9 nw9 w9 hw9 pw9 => ?_)
  obtain ⟨rfl, rfl, kw9⟩ := pw9
  refine z_aload_n hC (pc := 19) 1 dX2_newDef_19 rfl rfl ?_
  refine u_getK hC (pc := 20) zf2 7 (tKeep.F kw9 fa8 rfl) dX2_newDef_20 zw256 (kk := ?_)
  refine z_iload hC (pc := 23) 0 dX2_newDef_23 rfl ?_
  refine z_iconst hC (pc := 25) (v := 1) dX2_newDef_25 (by decide) ?_
  refine z_iadd hC (pc := 26) (v := ((x7 * 7) + 1)) dX2_newDef_26 rfl ?_
  refine z_iload_n hC (pc := 27) 3 dX2_newDef_27 rfl rfl ?_
  refine t_callSNv hC hw9 (pc := 28) (As := [.ref a8, .int ((x7 * 7) + 1), .int x2]) (kX12_set l G T κ hst hE ma8) trivial dmX12_set dX2_newDef_28 zw1289 rfl rfl (Nat.le_of_ble_eq_true rfl) (Nat.le_of_ble_eq_true rfl) (Nat.le_of_ble_eq_true rfl) (Nat.le_of_ble_eq_true rfl) (Nat.le_of_ble_eq_true rfl) (fun _ _ _ h => nomatch h) (fun cw11 nw11 w11 hw11 pw11 => ?_)
  obtain ⟨rfl, rfl, kw11⟩ := pw11
  refine z_aload_n hC (pc := 31) 1 dX2_newDef_31 rfl rfl ?_
  refine u_getK hC (pc := 32) zf2 7 (tKeep.F kw11 (tKeep.F kw9 fa8 rfl) rfl) dX2_newDef_32 zw256 (kk := ?_)
  refine z_iload hC (pc := 35) 0 dX2_newDef_35 rfl ?_
  refine z_iconst hC (pc := 37) (v := 2) dX2_newDef_37 (by decide) ?_
  refine z_iadd hC (pc := 38) (v := ((x7 * 7) + 2)) dX2_newDef_38 rfl ?_
  refine z_iload_n hC (pc := 39) 4 dX2_newDef_39 rfl rfl ?_
  refine t_callSNv hC hw11 (pc := 40) (As := [.ref a8, .int ((x7 * 7) + 2), .int x3]) (kX12_set l G T κ hst hE ma8) trivial dmX12_set dX2_newDef_40 zw1289 rfl rfl (Nat.le_of_ble_eq_true rfl) (Nat.le_of_ble_eq_true rfl) (Nat.le_of_ble_eq_true rfl) (Nat.le_of_ble_eq_true rfl) (Nat.le_of_ble_eq_true rfl) (fun _ _ _ h => nomatch h) (fun cw13 nw13 w13 hw13 pw13 => ?_)
  obtain ⟨rfl, rfl, kw13⟩ := pw13
  refine z_aload_n hC (pc := 43) 1 dX2_newDef_43 rfl rfl ?_
  refine u_getK hC (pc := 44) zf2 7 (tKeep.F kw13 (tKeep.F kw11 (tKeep.F kw9 fa8 rfl) rfl) rfl) dX2_newDef_44 zw256 (kk := ?_)
  refine z_iload hC (pc := 47) 0 dX2_newDef_47 rfl ?_
  refine z_iconst hC (pc := 49) (v := 3) dX2_newDef_49 (by decide) ?_
  refine z_iadd hC (pc := 50) (v := ((x7 * 7) + 3)) dX2_newDef_50 rfl ?_
  refine z_iload hC (pc := 51) 5 dX2_newDef_51 rfl ?_
  refine t_callSNv hC hw13 (pc := 53) (As := [.ref a8, .int ((x7 * 7) + 3), .int x4]) (kX12_set l G T κ hst hE ma8) trivial dmX12_set dX2_newDef_53 zw1289 rfl rfl (Nat.le_of_ble_eq_true rfl) (Nat.le_of_ble_eq_true rfl) (Nat.le_of_ble_eq_true rfl) (Nat.le_of_ble_eq_true rfl) (Nat.le_of_ble_eq_true rfl) (fun _ _ _ h => nomatch h) (fun cw15 nw15 w15 hw15 pw15 => ?_)
  obtain ⟨rfl, rfl, kw15⟩ := pw15
  refine z_aload_n hC (pc := 56) 1 dX2_newDef_56 rfl rfl ?_
  refine z_dup hC (pc := 57) dX2_newDef_57 rfl ?_
  refine u_getK hC (pc := 58) zf2 8 (tKeep.F kw15 (tKeep.F kw13 (tKeep.F kw11 (tKeep.F kw9 fx7 rfl) rfl) rfl) rfl) dX2_newDef_58 zw259 (kk := ?_)
  refine z_iconst hC (pc := 61) (v := 1) dX2_newDef_61 (by decide) ?_
  refine z_iadd hC (pc := 62) (v := (x7 + 1)) dX2_newDef_62 rfl ?_
  refine u_put hC hw15 (pc := 63) zf2 8 (hE.o2 h0) rfl ⟨_, rfl⟩ dX2_newDef_63 zw259 rfl rfl rfl (kk := fun w17 hw17 fw17 kw17 => ?_)
  refine z_iload hC (pc := 66) 0 dX2_newDef_66 rfl ?_
  exact hR _ _ _ _ _ _ dX2_newDef_68 rfl (Nat.le_of_ble_eq_true rfl) (Nat.le_of_ble_eq_true rfl) ⟨hw17, rfl, rfl, (tKeep.tr (tKeep.tr (tKeep.tr (tKeep.tr (tKeep.tr tKeep.rf kw9 rfl) kw11 rfl) kw13 rfl) kw15 rfl) kw17 rfl)⟩
set_option maxRecDepth 20000 in
theorem kX7_becomes (l : Launch) (G : zG) (T : tT) (κ : Nat → List Nat) (hst : l.stackTraces = false) (hE : tE G T κ) {a0 : Nat} (h0 : a0 ∈ κ 7) : tMv l G T yX7_becomes cX7_becomes 1 ["java/lang/IllegalStateException"] 8 124 1 6 [.ref a0] uT (uPv 0x1a00000000000000000000000000000000000000000000000000000000000000000000000000000000000000000000000000000000000000000) := by
  refine tMv.intro hst rfl (Nat.le_of_ble_eq_true rfl) ?_
  intro w0 hw0 _ X hC hR hO hX
  refine z_aload_n hC (pc := 0) 0 dX7_becomes_0 rfl rfl ?_
  obtain ⟨q3, hqq3⟩ := hE.o7 h0
  refine t_callVv hC hw0 (pc := 1) (As := []) (kX7_skip l G T κ hst hE h0) trivial dmX7_skip zf7 hqq3 dX7_becomes_1 zw1237 rfl rfl (Nat.le_of_ble_eq_true rfl) (Nat.le_of_ble_eq_true rfl) (Nat.le_of_ble_eq_true rfl) (Nat.le_of_ble_eq_true rfl) (Nat.le_of_ble_eq_true rfl) (fun E w q hE hw => hO E w _ _ _ _ _ q hE (Nat.le_of_ble_eq_true rfl) (Nat.le_of_ble_eq_true rfl) hw) (fun cw4 nw4 w4 hw4 pw4 => ?_)
  obtain ⟨rfl, rfl, kw4⟩ := pw4
  refine z_aload_n hC (pc := 4) 0 dX7_becomes_4 rfl rfl ?_
  refine t_callVi hC hw4 (pc := 5) (As := []) (kX7_isBecomes l G T κ hst hE h0) trivial dmX7_isBecomes zf7 hqq3 dX7_becomes_5 zw1238 rfl rfl (Nat.le_of_ble_eq_true rfl) (Nat.le_of_ble_eq_true rfl) (Nat.le_of_ble_eq_true rfl) (Nat.le_of_ble_eq_true rfl) (Nat.le_of_ble_eq_true rfl) (fun _ _ _ h => nomatch h) (fun x7 cw6 nw6 w6 hw6 pw6 => ?_)
  obtain ⟨rfl, rfl, kw6, zx7⟩ := pw6
  have j20 : ∀ (w8 : va_W), tW T w8 → tKeep 0x1800000000000000000000000000000000000000000000000000000000000000000000000000000000000000000000000000000000000000000 w6 w8 → zS X G 1 w8 [(0, .ref a0)] 0 0 20 [] := by
    intro w8 hw8 kw8
    refine z_aload_n hC (pc := 20) 0 dX7_becomes_20 rfl rfl ?_
    refine z_dup hC (pc := 21) dX7_becomes_21 rfl ?_
    refine u_get hC hw8 (pc := 22) zf7 5 (hE.o7 h0) rfl dX7_becomes_22 zw122 (kk := fun vx9 tx9 fx9 => ?_)
    obtain ⟨x9, rfl⟩ := tx9
    refine z_iconst hC (pc := 25) (v := 3) dX7_becomes_25 (by decide) ?_
    refine z_iadd hC (pc := 26) (v := (x9 + 3)) dX7_becomes_26 rfl ?_
    refine u_put hC hw8 (pc := 27) zf7 5 (hE.o7 h0) rfl ⟨_, rfl⟩ dX7_becomes_27 zw122 rfl rfl rfl (kk := fun w10 hw10 fw10 kw10 => ?_)
    exact hR _ _ _ _ _ dX7_becomes_30 (Nat.le_of_ble_eq_true rfl) (Nat.le_of_ble_eq_true rfl) ⟨hw10, rfl, rfl, (tKeep.tr (tKeep.tr (tKeep.tr (tKeep.tr tKeep.rf kw4 rfl) kw6 rfl) kw8 rfl) kw10 rfl)⟩
  refine z_if_ne hC (pc := 8) 20 dX7_becomes_8 (by decide) (fun c11 => ?_) (fun c11 => ?_)
  · exact j20 w6 hw6 tKeep.rf
  · refine z_aload_n hC (pc := 11) 0 dX7_becomes_11 rfl rfl ?_
    refine z_iconst hC (pc := 12) (v := 1) dX7_becomes_12 (by decide) ?_
    refine z_aload_n hC (pc := 13) 0 dX7_becomes_13 rfl rfl ?_
    refine u_get hC hw6 (pc := 14) zf7 5 (hE.o7 h0) rfl dX7_becomes_14 zw122 (kk := fun vx12 tx12 fx12 => ?_)
    obtain ⟨x12, rfl⟩ := tx12
    refine t_callVv hC hw6 (pc := 17) (As := [.int 1, .int x12]) (kX7_fail l G T κ hst hE h0) trivial dmX7_fail zf7 hqq3 dX7_becomes_17 zw1020 rfl rfl (Nat.le_of_ble_eq_true rfl) (Nat.le_of_ble_eq_true rfl) (Nat.le_of_ble_eq_true rfl) (Nat.le_of_ble_eq_true rfl) (Nat.le_of_ble_eq_true rfl) (fun E w q hE hw => hO E w _ _ _ _ _ q hE (Nat.le_of_ble_eq_true rfl) (Nat.le_of_ble_eq_true rfl) hw) (fun cw13 nw13 w13 hw13 pw13 => ?_)
    obtain ⟨rfl, rfl, kw13⟩ := pw13
    exact j20 w13 hw13 (tKeep.tr tKeep.rf kw13 rfl)
set_option maxRecDepth 20000 in
theorem kX7_isSpace (l : Launch) (G : zG) (T : tT) (κ : Nat → List Nat) (hst : l.stackTraces = false) (hE : tE G T κ) {x0 : Int32} : tMi l G T yX7_isSpace cX7_isSpace 1 .boolean [] 0 0 0 0 [.int x0] uT (uPz 0x0) := by
  refine tMi.intro hst rfl (Nat.le_of_ble_eq_true rfl) ?_
  intro w0 hw0 _ X hC hR hO hX
  refine z_iload_n hC (pc := 0) 0 dX7_isSpace_0 rfl rfl ?_
  refine z_bipush hC (pc := 1) (v := 32) dX7_isSpace_1 (by decide) ?_
  have j17 : ∀ (x3 : Int32), tZ (.int x3) → zS X G 1 w0 [] 0 0 17 [.int x3] := by
    intro x3 zx3
    exact hR _ _ _ _ _ _ dX7_isSpace_17 (t_nZ zx3) (Nat.le_of_ble_eq_true rfl) (Nat.le_of_ble_eq_true rfl) ⟨hw0, rfl, rfl, tKeep.rf, zx3⟩
  have j12 : zS X G 1 w0 [] 0 0 12 [] := by
    refine z_iconst hC (pc := 12) (v := 1) dX7_isSpace_12 (by decide) ?_
    refine z_goto hC (pc := 13) 17 dX7_isSpace_13 (by decide) ?_
    exact j17 1 (Or.inr rfl)
  refine z_icmp_eq hC (pc := 3) 12 dX7_isSpace_3 (by decide) (fun c4 => ?_) (fun c4 => ?_)
  · refine z_lvs [] rfl ?_
    exact j12
  · refine z_iload_n hC (pc := 6) 0 dX7_isSpace_6 rfl rfl ?_
    refine z_bipush hC (pc := 7) (v := 9) dX7_isSpace_7 (by decide) ?_
    refine z_icmp_ne hC (pc := 9) 16 dX7_isSpace_9 (by decide) (fun c5 => ?_) (fun c5 => ?_)
    · refine z_iconst hC (pc := 16) (v := 0) dX7_isSpace_16 (by decide) ?_
      refine z_lvs [] rfl ?_
      exact j17 0 (Or.inl rfl)
    · refine z_lvs [] rfl ?_
      exact j12
set_option maxRecDepth 20000 in
theorem kX7_openBody (l : Launch) (G : zG) (T : tT) (κ : Nat → List Nat) (hst : l.stackTraces = false) (hE : tE G T κ) {a0 : Nat} (h0 : a0 ∈ κ 7) {x1 : Int32} {x2 : Int32} {x3 : Int32} {x4 : Int32} {x5 : Int32} : tMv l G T yX7_openBody cX7_openBody 9 [] 1 22 0 0 [.ref a0, .int x1, .int x2, .int x3, .int x4, .int x5] uT (uPv 0x8330000000000000000000000000000000000000000000000000000000000000000000000000000000000000000000000000000000000000000) := by
  refine tMv.intro hst rfl (Nat.le_of_ble_eq_true rfl) ?_
  intro w0 hw0 _ X hC hR hO hX
  refine z_iconst hC (pc := 0) (v := 0) dX7_openBody_0 (by decide) ?_
  refine z_istore hC (pc := 1) (lv' := [(6, .int 0), (0, .ref a0), (1, .int x1), (2, .int x2), (3, .int x3), (4, .int x4), (5, .int x5)]) dX7_openBody_1 (by decide) rfl ?_
  refine z_iload_n hC (pc := 3) 2 dX7_openBody_3 rfl rfl ?_
  refine z_istore hC (pc := 4) (lv' := [(7, .int x1), (6, .int 0), (0, .ref a0), (1, .int x1), (2, .int x2), (3, .int x3), (4, .int x4), (5, .int x5)]) dX7_openBody_4 (by decide) rfl ?_
  have j6 : ∀ (d6 : Nat), ∀ (w8 : va_W), tW T w8 → tKeep 0x0 w0 w8 → ∀ (x9 : Int32), ∀ (x10 : Int32), ¬ x9 < 0 → (2 ^ 31 - (x10 : Int32).toInt).toNat ≤ d6 → zS X G 9 w8 [(0, .ref a0), (2, .int x2), (3, .int x3), (4, .int x4), (5, .int x5), (6, .int x9), (7, .int x10)] 0 0 6 [] := by
    intro d6
    induction d6 with
    | zero => intro w8 hw8 kw8 x9 x10 v11 hd6; exact (t_zero hd6).elim
    | succ d6 ih6 =>
      intro w8 hw8 kw8 x9 x10 v11 hd6
      refine z_iload hC (pc := 6) 6 dX7_openBody_6 rfl ?_
      refine z_iload_n hC (pc := 8) 1 dX7_openBody_8 rfl rfl ?_
      have j104 : zS X G 9 w8 [(0, .ref a0), (4, .int x4), (5, .int x5), (6, .int x9)] 0 0 104 [] := by
        refine z_aload_n hC (pc := 104) 0 dX7_openBody_104 rfl rfl ?_
        refine u_get hC hw8 (pc := 105) zf7 3 (hE.o7 h0) rfl dX7_openBody_105 zw118 (kk := fun va12 ta12 fa12 => ?_)
        obtain ⟨a12, ma12, rfl⟩ := ta12
        refine z_iload hC (pc := 108) 3 dX7_openBody_108 rfl ?_
        refine z_iload hC (pc := 110) 1 dX7_openBody_110 rfl ?_
        refine t_callSNv hC hw8 (pc := 112) (As := [.ref a12, .int x9, .int x4]) (kX12_set l G T κ hst hE ma12) trivial dmX12_set dX7_openBody_112 zw1307 rfl rfl (Nat.le_of_ble_eq_true rfl) (Nat.le_of_ble_eq_true rfl) (Nat.le_of_ble_eq_true rfl) (Nat.le_of_ble_eq_true rfl) (Nat.le_of_ble_eq_true rfl) (fun _ _ _ h => nomatch h) (fun cw13 nw13 w13 hw13 pw13 => ?_)
        obtain ⟨rfl, rfl, kw13⟩ := pw13
        refine z_aload_n hC (pc := 115) 0 dX7_openBody_115 rfl rfl ?_
        refine z_aload_n hC (pc := 116) 0 dX7_openBody_116 rfl rfl ?_
        refine u_get hC hw13 (pc := 117) zf7 2 (hE.o7 h0) rfl dX7_openBody_117 zw117 (kk := fun va15 ta15 fa15 => ?_)
        obtain ⟨a15, ma15, rfl⟩ := ta15
        refine u_put hC hw13 (pc := 120) zf7 0 (hE.o7 h0) rfl ⟨_, ma15, rfl⟩ dX7_openBody_120 zw115 rfl rfl rfl (kk := fun w16 hw16 fw16 kw16 => ?_)
        refine z_aload_n hC (pc := 123) 0 dX7_openBody_123 rfl rfl ?_
        refine z_iload hC (pc := 124) 3 dX7_openBody_124 rfl ?_
        refine u_put hC hw16 (pc := 126) zf7 4 (hE.o7 h0) rfl ⟨_, rfl⟩ dX7_openBody_126 zw119 rfl rfl rfl (kk := fun w17 hw17 fw17 kw17 => ?_)
        refine z_aload_n hC (pc := 129) 0 dX7_openBody_129 rfl rfl ?_
        refine z_iconst hC (pc := 130) (v := 0) dX7_openBody_130 (by decide) ?_
        refine u_put hC hw17 (pc := 131) zf7 5 (hE.o7 h0) rfl ⟨_, rfl⟩ dX7_openBody_131 zw122 rfl rfl rfl (kk := fun w18 hw18 fw18 kw18 => ?_)
        refine z_aload_n hC (pc := 134) 0 dX7_openBody_134 rfl rfl ?_
        refine z_iconst hC (pc := 135) (v := 0) dX7_openBody_135 (by decide) ?_
        refine u_put hC hw18 (pc := 136) zf7 1 (hE.o7 h0) rfl (Or.inl rfl) dX7_openBody_136 zw116 rfl rfl rfl (kk := fun w19 hw19 fw19 kw19 => ?_)
        refine z_aload_n hC (pc := 139) 0 dX7_openBody_139 rfl rfl ?_
        refine z_iload hC (pc := 140) 2 dX7_openBody_140 rfl ?_
        refine u_put hC hw19 (pc := 142) zf7 11 (hE.o7 h0) rfl ⟨_, rfl⟩ dX7_openBody_142 zw136 rfl rfl rfl (kk := fun w20 hw20 fw20 kw20 => ?_)
        exact hR _ _ _ _ _ dX7_openBody_145 (Nat.le_of_ble_eq_true rfl) (Nat.le_of_ble_eq_true rfl) ⟨hw20, rfl, rfl, (tKeep.tr (tKeep.tr (tKeep.tr (tKeep.tr (tKeep.tr (tKeep.tr (tKeep.tr tKeep.rf kw8 rfl) kw13 rfl) kw16 rfl) kw17 rfl) kw18 rfl) kw19 rfl) kw20 rfl)⟩
      refine z_icmp_ge hC (pc := 9) 104 dX7_openBody_9 (by decide) (fun c21 => ?_) (fun c21 => ?_)
      · refine z_lvs [0, 3, 4, 5] rfl ?_
        exact j104
      · refine z_iload hC (pc := 12) 5 dX7_openBody_12 rfl ?_
        refine z_sipush hC (pc := 14) (v := 4000) dX7_openBody_14 (by decide) ?_
        refine z_icmp_ge hC (pc := 17) 104 dX7_openBody_17 (by decide) (fun c22 => ?_) (fun c22 => ?_)
        · refine z_lvs [0, 3, 4, 5] rfl ?_
          exact j104
        · refine z_aload_n hC (pc := 20) 0 dX7_openBody_20 rfl rfl ?_
          refine u_get hC hw8 (pc := 21) zf7 9 (hE.o7 h0) rfl dX7_openBody_21 zw134 (kk := fun va23 ta23 fa23 => ?_)
          obtain ⟨a23, ma23, rfl⟩ := ta23
          refine z_iload hC (pc := 24) 6 dX7_openBody_24 rfl ?_
          refine t_callSNi hC hw8 (pc := 26) (As := [.ref a23, .int x10]) (kX12_getByte l G T κ hst hE (Or.inl ma23)) trivial dmX12_getByte dX7_openBody_26 zw1302 rfl rfl (Nat.le_of_ble_eq_true rfl) (Nat.le_of_ble_eq_true rfl) (Nat.le_of_ble_eq_true rfl) (Nat.le_of_ble_eq_true rfl) (Nat.le_of_ble_eq_true rfl) (fun _ _ _ h => nomatch h) (fun x25 cw24 nw24 w24 hw24 pw24 => ?_)
          obtain ⟨rfl, rfl, kw24⟩ := pw24
          refine z_istore hC (pc := 29) (lv' := [(8, .int x25), (0, .ref a0), (2, .int x2), (3, .int x3), (4, .int x4), (5, .int x5), (6, .int x9), (7, .int x10)]) dX7_openBody_29 (by decide) rfl ?_
          refine z_iload_n hC (pc := 31) 3 dX7_openBody_31 rfl rfl ?_
          have j73 : zS X G 9 w24 [(0, .ref a0), (2, .int x2), (3, .int x3), (4, .int x4), (5, .int x5), (6, .int x9), (7, .int x10), (8, .int x25)] 0 0 73 [] := by
            refine z_aload_n hC (pc := 73) 0 dX7_openBody_73 rfl rfl ?_
            refine u_get hC hw24 (pc := 74) zf7 2 (hE.o7 h0) rfl dX7_openBody_74 zw117 (kk := fun va26 ta26 fa26 => ?_)
            obtain ⟨a26, ma26, rfl⟩ := ta26
            refine z_iload hC (pc := 77) 5 dX7_openBody_77 rfl ?_
            refine z_iload hC (pc := 79) 7 dX7_openBody_79 rfl ?_
            refine t_callSNv hC hw24 (pc := 81) (As := [.ref a26, .int x9, .int x25]) (kX12_setByte l G T κ hst hE ma26) trivial dmX12_setByte dX7_openBody_81 zw1306 rfl rfl (Nat.le_of_ble_eq_true rfl) (Nat.le_of_ble_eq_true rfl) (Nat.le_of_ble_eq_true rfl) (Nat.le_of_ble_eq_true rfl) (Nat.le_of_ble_eq_true rfl) (fun _ _ _ h => nomatch h) (fun cw27 nw27 w27 hw27 pw27 => ?_)
            obtain ⟨rfl, rfl, kw27⟩ := pw27
            refine z_aload_n hC (pc := 84) 0 dX7_openBody_84 rfl rfl ?_
            refine u_get hC hw27 (pc := 85) zf7 3 (hE.o7 h0) rfl dX7_openBody_85 zw118 (kk := fun va29 ta29 fa29 => ?_)
            obtain ⟨a29, ma29, rfl⟩ := ta29
            refine z_iload hC (pc := 88) 5 dX7_openBody_88 rfl ?_
            refine z_iload hC (pc := 90) 6 dX7_openBody_90 rfl ?_
            refine t_callSNv hC hw27 (pc := 92) (As := [.ref a29, .int x9, .int x10]) (kX12_set l G T κ hst hE ma29) trivial dmX12_set dX7_openBody_92 zw1307 rfl rfl (Nat.le_of_ble_eq_true rfl) (Nat.le_of_ble_eq_true rfl) (Nat.le_of_ble_eq_true rfl) (Nat.le_of_ble_eq_true rfl) (Nat.le_of_ble_eq_true rfl) (fun _ _ _ h => nomatch h) (fun cw30 nw30 w30 hw30 pw30 => ?_)
            obtain ⟨rfl, rfl, kw30⟩ := pw30
            refine z_iinc hC (pc := 95) (v := (x9 + 1)) (lv' := [(6, .int (x9 + 1)), (0, .ref a0), (2, .int x2), (3, .int x3), (4, .int x4), (5, .int x5), (7, .int x10), (8, .int x25)]) 5 dX7_openBody_95 rfl (congrArg _ (by decide)) (by decide) rfl ?_
            refine z_iinc hC (pc := 98) (v := (x10 + 1)) (lv' := [(7, .int (x10 + 1)), (6, .int (x9 + 1)), (0, .ref a0), (2, .int x2), (3, .int x3), (4, .int x4), (5, .int x5), (8, .int x25)]) 6 dX7_openBody_98 rfl (congrArg _ (by decide)) (by decide) rfl ?_
            refine z_goto hC (pc := 101) 6 dX7_openBody_101 (by decide) ?_
            refine z_lvs [2, 3, 4, 5, 6, 1, 0] rfl ?_
            exact ih6 w30 hw30 (tKeep.tr (tKeep.tr (tKeep.tr (tKeep.tr tKeep.rf kw8 rfl) kw24 rfl) kw27 rfl) kw30 rfl) (x9 + 1) (x10 + 1) (t_nnI v11 (Int32.not_le.mp c22)) (t_up (Int32.not_le.mp c21) hd6)
          refine z_if_eq hC (pc := 32) 73 dX7_openBody_32 (by decide) (fun c32 => ?_) (fun c32 => ?_)
          · refine z_lvs [1, 2, 3, 4, 5, 6, 7, 0] rfl ?_
            exact j73
          · refine z_iload hC (pc := 35) 0 dX7_openBody_35 rfl ?_
            refine z_bipush hC (pc := 37) (v := 10) dX7_openBody_37 (by decide) ?_
            have j42 : ∀ (d42 : Nat), ∀ (w33 : va_W), tW T w33 → tKeep 0x0 w24 w33 → ∀ (x34 : Int32), ¬ x34 < x10 → x34 < x2 → (2 ^ 31 - (x34 : Int32).toInt).toNat ≤ d42 → zS X G 9 w33 [(0, .ref a0), (2, .int x2), (3, .int x3), (4, .int x4), (5, .int x5), (6, .int x9), (7, .int x34)] 0 0 42 [] := by
              intro d42
              induction d42 with
              | zero => intro w33 hw33 kw33 x34 v35 v36 hd42; exact (t_zero hd42).elim
              | succ d42 ih42 =>
                intro w33 hw33 kw33 x34 v35 v36 hd42
                refine z_iload hC (pc := 42) 6 dX7_openBody_42 rfl ?_
                refine z_iconst hC (pc := 44) (v := 1) dX7_openBody_44 (by decide) ?_
                refine z_iadd hC (pc := 45) (v := (x34 + 1)) dX7_openBody_45 rfl ?_
                refine z_iload_n hC (pc := 46) 1 dX7_openBody_46 rfl rfl ?_
                refine z_icmp_ge hC (pc := 47) 98 dX7_openBody_47 (by decide) (fun c37 => ?_) (fun c37 => ?_)
                · refine z_iinc hC (pc := 98) (v := (x34 + 1)) (lv' := [(7, .int (x34 + 1)), (0, .ref a0), (2, .int x2), (3, .int x3), (4, .int x4), (5, .int x5), (6, .int x9)]) 6 dX7_openBody_98 rfl (congrArg _ (by decide)) (by decide) rfl ?_
                  refine z_goto hC (pc := 101) 6 dX7_openBody_101 (by decide) ?_
                  refine z_lvs [1, 2, 3, 4, 5, 6, 0] rfl ?_
                  exact ih6 w33 hw33 (tKeep.tr (tKeep.tr (tKeep.tr tKeep.rf kw8 rfl) kw24 rfl) kw33 rfl) x9 (x34 + 1) v11 (by have o1 := Int32.le_toInt x10; have o2 := Int32.toInt_lt x10; have o3 := Int32.le_toInt x2; have o4 := Int32.toInt_lt x2; have o5 := t_fne c21; have o6 := Int32.le_toInt x34; have o7 := Int32.toInt_lt x34; have o8 := t_fnl v35; have o9 := t_fl v36; have o10 : (1 : Int32).toInt = 1 := (by decide); have o11 := t_addO x34 1; have o12 := t_fe c37; omega)
                · refine z_aload_n hC (pc := 50) 0 dX7_openBody_50 rfl rfl ?_
                  refine u_getK hC (pc := 51) zf7 9 (tKeep.F kw33 (tKeep.F kw24 fa23 rfl) rfl) dX7_openBody_51 zw134 (kk := ?_)
                  refine z_iload hC (pc := 54) 6 dX7_openBody_54 rfl ?_
                  refine z_iconst hC (pc := 56) (v := 1) dX7_openBody_56 (by decide) ?_
                  refine z_iadd hC (pc := 57) (v := (x34 + 1)) dX7_openBody_57 rfl ?_
                  refine t_callSNi hC hw33 (pc := 58) (As := [.ref a23, .int (x34 + 1)]) (kX12_getByte l G T κ hst hE (Or.inl ma23)) trivial dmX12_getByte dX7_openBody_58 zw1302 rfl rfl (Nat.le_of_ble_eq_true rfl) (Nat.le_of_ble_eq_true rfl) (Nat.le_of_ble_eq_true rfl) (Nat.le_of_ble_eq_true rfl) (Nat.le_of_ble_eq_true rfl) (fun _ _ _ h => nomatch h) (fun x39 cw38 nw38 w38 hw38 pw38 => ?_)
                  obtain ⟨rfl, rfl, kw38⟩ := pw38
                  refine t_callSi hC hw38 (pc := 61) (As := [.int x39]) (kX7_isSpace l G T κ hst hE) trivial dmX7_isSpace dX7_openBody_61 zw1303 rfl rfl (Nat.le_of_ble_eq_true rfl) (Nat.le_of_ble_eq_true rfl) (Nat.le_of_ble_eq_true rfl) (Nat.le_of_ble_eq_true rfl) (Nat.le_of_ble_eq_true rfl) (fun _ _ _ h => nomatch h) (fun x41 cw40 nw40 w40 hw40 pw40 => ?_)
                  obtain ⟨rfl, rfl, kw40, zx41⟩ := pw40
                  refine z_if_eq hC (pc := 64) 98 dX7_openBody_64 (by decide) (fun c42 => ?_) (fun c42 => ?_)
                  · refine z_iinc hC (pc := 98) (v := (x34 + 1)) (lv' := [(7, .int (x34 + 1)), (0, .ref a0), (2, .int x2), (3, .int x3), (4, .int x4), (5, .int x5), (6, .int x9)]) 6 dX7_openBody_98 rfl (congrArg _ (by decide)) (by decide) rfl ?_
                    refine z_goto hC (pc := 101) 6 dX7_openBody_101 (by decide) ?_
                    refine z_lvs [1, 2, 3, 4, 5, 6, 0] rfl ?_
                    exact ih6 w40 hw40 (tKeep.tr (tKeep.tr (tKeep.tr (tKeep.tr (tKeep.tr tKeep.rf kw8 rfl) kw24 rfl) kw33 rfl) kw38 rfl) kw40 rfl) x9 (x34 + 1) v11 (by have o1 := Int32.le_toInt x10; have o2 := Int32.toInt_lt x10; have o3 := Int32.le_toInt x2; have o4 := Int32.toInt_lt x2; have o5 := t_fne c21; have o6 := Int32.le_toInt x34; have o7 := Int32.toInt_lt x34; have o8 := t_fnl v35; have o9 := t_fl v36; have o10 : (1 : Int32).toInt = 1 := (by decide); have o11 := t_addO x34 1; have o12 := t_fne c37; omega)
                  · refine z_iinc hC (pc := 67) (v := (x34 + 1)) (lv' := [(7, .int (x34 + 1)), (0, .ref a0), (2, .int x2), (3, .int x3), (4, .int x4), (5, .int x5), (6, .int x9)]) 6 dX7_openBody_67 rfl (congrArg _ (by decide)) (by decide) rfl ?_
                    refine z_goto hC (pc := 70) 42 dX7_openBody_70 (by decide) ?_
                    refine z_lvs [1, 2, 3, 4, 5, 6, 0] rfl ?_
                    exact ih42 w40 hw40 (tKeep.tr (tKeep.tr (tKeep.tr tKeep.rf kw33 rfl) kw38 rfl) kw40 rfl) (x34 + 1) (t_nltI (by have o1 := Int32.le_toInt x10; have o2 := Int32.toInt_lt x10; have o3 := Int32.le_toInt x2; have o4 := Int32.toInt_lt x2; have o5 := t_fne c21; have o6 := Int32.le_toInt x34; have o7 := Int32.toInt_lt x34; have o8 := t_fnl v35; have o9 := t_fl v36; have o10 : (1 : Int32).toInt = 1 := (by decide); have o11 := t_addO x34 1; have o12 := t_fne c37; omega)) (Int32.not_le.mp c37) (t_up v36 hd42)
            refine z_icmp_ne hC (pc := 39) 73 dX7_openBody_39 (by decide) (fun c43 => ?_) (fun c43 => ?_)
            · refine z_lvs [1, 2, 3, 4, 5, 6, 7, 0] rfl ?_
              exact j73
            · refine z_lvs [1, 2, 3, 4, 5, 6, 7] rfl ?_
              exact j42 _ w24 hw24 tKeep.rf x10 (t_irr _) (Int32.not_le.mp c21) (Nat.le_refl _)
  refine z_lvs [2, 4, 5, 6, 7, 1, 0] rfl ?_
  exact j6 _ w0 hw0 tKeep.rf 0 x1 (by decide) (Nat.le_refl _)
