theorem zw118 : Cond.fieldLink "TemplateHouse$Source" 22 "TemplateHouse$Source" "places" "[I" ∈ zT := zsub1 118 (by decide +kernel) (by decide +kernel)
theorem zw1160 : Cond.methodLink "TemplateHouse$Source" 112 ⟨"TemplateHouse$Source", "peek", "()I"⟩ ∈ zT := zsub5 200 (by decide +kernel) (by decide +kernel)
theorem zw1165 : Cond.methodLink "TemplateHouse$Source" 125 ⟨"TemplateHouse$Source", "placeOf", "(I)I"⟩ ∈ zT := zsub5 205 (by decide +kernel) (by decide +kernel)
theorem zw1020 : Cond.methodLink "TemplateHouse$Source" 105 ⟨"TemplateHouse$Source", "fail", "(II)V"⟩ ∈ zT := zsub5 60 (by decide +kernel) (by decide +kernel)
theorem zw1161 : Cond.methodLink "TemplateHouse$Source" 122 ⟨"TemplateHouse$Source", "at", "(I)I"⟩ ∈ zT := zsub5 201 (by decide +kernel) (by decide +kernel)
theorem zw398 : Cond.fieldLink "TemplateHouse$FileReader" 41 "TemplateHouse$FileReader" "deep" "I" ∈ zT := zsub2 158 (by decide +kernel) (by decide +kernel)
theorem zw396 : Cond.fieldLink "TemplateHouse$FileReader" 35 "TemplateHouse$FileReader" "way" "[I" ∈ zT := zsub2 156 (by decide +kernel) (by decide +kernel)
theorem zw999 : Cond.methodLinkNest "TemplateHouse$FileReader" 101 ⟨"TemplateHouse", "get", "([II)I"⟩ "TemplateHouse" ∈ zNest := zsubN5 39 (by decide +kernel) (by decide +kernel)
theorem zw206 : Cond.fieldLink "TemplateHouse$Imports" 7 "TemplateHouse$Imports" "direct" "[I" ∈ zT := zsub1 206 (by decide +kernel) (by decide +kernel)
theorem zw1284 : Cond.methodLink "TemplateHouse$Source" 118 ⟨"TemplateHouse$Names", "intern", "([BII)I"⟩ ∈ zT := zsub6 84 (by decide +kernel) (by decide +kernel)
theorem zw256 : Cond.fieldLink "TemplateHouse$Gen" 44 "TemplateHouse$Gen" "defs" "[I" ∈ zT := zsub2 16 (by decide +kernel) (by decide +kernel)
theorem zw1289 : Cond.methodLinkNest "TemplateHouse$Gen" 98 ⟨"TemplateHouse", "set", "([III)V"⟩ "TemplateHouse" ∈ zNest := zsubN6 89 (by decide +kernel) (by decide +kernel)
theorem zw1307 : Cond.methodLinkNest "TemplateHouse$Source" 63 ⟨"TemplateHouse", "set", "([III)V"⟩ "TemplateHouse" ∈ zNest := zsubN6 107 (by decide +kernel) (by decide +kernel)
theorem zw117 : Cond.fieldLink "TemplateHouse$Source" 19 "TemplateHouse$Source" "packed" "[B" ∈ zT := zsub1 117 (by decide +kernel) (by decide +kernel)
theorem zw136 : Cond.fieldLink "TemplateHouse$Source" 48 "TemplateHouse$Source" "after" "I" ∈ zT := zsub1 136 (by decide +kernel) (by decide +kernel)
theorem zw1302 : Cond.methodLinkNest "TemplateHouse$Source" 51 ⟨"TemplateHouse", "getByte", "([BI)I"⟩ "TemplateHouse" ∈ zNest := zsubN6 102 (by decide +kernel) (by decide +kernel)
theorem zw1306 : Cond.methodLinkNest "TemplateHouse$Source" 59 ⟨"TemplateHouse", "setByte", "([BII)V"⟩ "TemplateHouse" ∈ zNest := zsubN6 106 (by decide +kernel) (by decide +kernel)
theorem zw1303 : Cond.methodLink "TemplateHouse$Source" 55 ⟨"TemplateHouse$Source", "isSpace", "(I)Z"⟩ ∈ zT := zsub6 103 (by decide +kernel) (by decide +kernel)
theorem zw336 : Cond.fieldLink "TemplateHouse$TextReader" 18 "TemplateHouse$TextReader" "kind" "I" ∈ zT := zsub2 96 (by decide +kernel) (by decide +kernel)
theorem zw337 : Cond.fieldLink "TemplateHouse$TextReader" 21 "TemplateHouse$TextReader" "owner" "I" ∈ zT := zsub2 97 (by decide +kernel) (by decide +kernel)
theorem zw338 : Cond.fieldLink "TemplateHouse$TextReader" 24 "TemplateHouse$TextReader" "filled" "I" ∈ zT := zsub2 98 (by decide +kernel) (by decide +kernel)
theorem zw266 : Cond.fieldLink "TemplateHouse$TextReader" 66 "TemplateHouse$Gen" "partCount" "I" ∈ zT := zsub2 26 (by decide +kernel) (by decide +kernel)
theorem zw339 : Cond.fieldLink "TemplateHouse$TextReader" 27 "TemplateHouse$TextReader" "firstPart" "I" ∈ zT := zsub2 99 (by decide +kernel) (by decide +kernel)
theorem zw239 : Cond.fieldLink "TemplateHouse$Gen" 26 "TemplateHouse$Gen" "code" "[I" ∈ zT := zsub1 239 (by decide +kernel) (by decide +kernel)
theorem zw1316 : Cond.methodLink "TemplateHouse$Gen" 88 ⟨"TemplateHouse$Gen", "emit", "(I)V"⟩ ∈ zT := zsub6 116 (by decide +kernel) (by decide +kernel)
theorem zw391 : Cond.fieldLink "TemplateHouse$FileReader" 18 "TemplateHouse$FileReader" "params" "I" ∈ zT := zsub2 151 (by decide +kernel) (by decide +kernel)
theorem zw386 : Cond.fieldLink "TemplateHouse$FileReader" 68 "TemplateHouse$FileReader" "s" "LTemplateHouse$Source;" ∈ zT := zsub2 146 (by decide +kernel) (by decide +kernel)
theorem zw1155 : Cond.methodLink "TemplateHouse$FileReader" 168 ⟨"TemplateHouse$Source", "fail", "(II)V"⟩ ∈ zT := zsub5 195 (by decide +kernel) (by decide +kernel)
theorem zw389 : Cond.fieldLink "TemplateHouse$FileReader" 9 "TemplateHouse$FileReader" "names" "[I" ∈ zT := zsub2 149 (by decide +kernel) (by decide +kernel)
theorem zw1351 : Cond.constant "TemplateHouse$Gen" 92 (402653184 : Int32) ∈ zT := zsub6 151 (by decide +kernel) (by decide +kernel)
theorem zw255 : Cond.fieldLink "TemplateHouse$Source" 128 "TemplateHouse$Gen" "poolEnd" "I" ∈ zT := zsub2 15 (by decide +kernel) (by decide +kernel)
theorem zw1347 : Cond.methodLink "TemplateHouse$Source" 136 ⟨"TemplateHouse$Gen", "stringFrom", "(I)I"⟩ ∈ zT := zsub6 147 (by decide +kernel) (by decide +kernel)
theorem zw1346 : Cond.methodLink "TemplateHouse$Source" 133 ⟨"TemplateHouse$Gen", "keep", "(II)V"⟩ ∈ zT := zsub6 146 (by decide +kernel) (by decide +kernel)
theorem zw1363 : Cond.methodLink "TemplateHouse$TextReader" 71 ⟨"TemplateHouse$TextReader", "define", "(III)V"⟩ ∈ zT := zsub6 163 (by decide +kernel) (by decide +kernel)
theorem zw340 : Cond.fieldLink "TemplateHouse$TextReader" 30 "TemplateHouse$TextReader" "inSub" "Z" ∈ zT := zsub2 100 (by decide +kernel) (by decide +kernel)
theorem zw330 : Cond.fieldLink "TemplateHouse$TextReader" 58 "TemplateHouse$TextReader" "s" "LTemplateHouse$Source;" ∈ zT := zsub2 90 (by decide +kernel) (by decide +kernel)
theorem zw124 : Cond.fieldLink "TemplateHouse$TextReader" 75 "TemplateHouse$Source" "pos" "I" ∈ zT := zsub1 124 (by decide +kernel) (by decide +kernel)
theorem zw1375 : Cond.methodLink "TemplateHouse$TextReader" 326 ⟨"TemplateHouse$Source", "blanksEnd", "(I)I"⟩ ∈ zT := zsub6 175 (by decide +kernel) (by decide +kernel)
theorem zw1379 : Cond.methodLink "TemplateHouse$TextReader" 108 ⟨"TemplateHouse$Source", "at", "(I)I"⟩ ∈ zT := zsub6 179 (by decide +kernel) (by decide +kernel)
theorem zw1380 : Cond.methodLinkNest "TemplateHouse$TextReader" 237 ⟨"TemplateHouse", "isLetter", "(I)Z"⟩ "TemplateHouse" ∈ zNest := zsubN6 180 (by decide +kernel) (by decide +kernel)
theorem zw1381 : Cond.methodLink "TemplateHouse$TextReader" 131 ⟨"TemplateHouse$Source", "rowEnd", "(I)I"⟩ ∈ zT := zsub6 181 (by decide +kernel) (by decide +kernel)
theorem zw1098 : Cond.code ⟨"TemplateHouse", "isText", "([BIILjava/lang/String;)Z"⟩ prog_1_method_35_code 5 (Option.some Jvm.ClassFile.FieldType.boolean) ∈ zT := zsub5 138 rfl rfl
theorem zw1097 : Cond.static ⟨"TemplateHouse", "isText", "([BIILjava/lang/String;)Z"⟩ ∈ zT := zsub5 137 (by decide +kernel) (by decide +kernel)
theorem zw1154 : Cond.code ⟨"TemplateHouse$Source", "peek", "()I"⟩ prog_9_method_7_code 1 (Option.some Jvm.ClassFile.FieldType.int) ∈ zT := zsub5 194 rfl rfl
theorem zw1152 : Cond.instanceMethod ⟨"TemplateHouse$Source", "peek", "()I"⟩ ∈ zT := zsub5 192 (by decide +kernel) (by decide +kernel)
theorem zw1153 : Cond.selects "TemplateHouse$Source" ⟨"TemplateHouse$Source", "peek", "()I"⟩ ⟨"TemplateHouse$Source", "peek", "()I"⟩ ∈ zT := zsub5 193 (by decide +kernel) (by decide +kernel)
theorem zw1164 : Cond.code ⟨"TemplateHouse$Source", "at", "(I)I"⟩ prog_9_method_6_code 2 (Option.some Jvm.ClassFile.FieldType.int) ∈ zT := zsub5 204 rfl rfl
theorem zw1162 : Cond.instanceMethod ⟨"TemplateHouse$Source", "at", "(I)I"⟩ ∈ zT := zsub5 202 (by decide +kernel) (by decide +kernel)
theorem zw1163 : Cond.selects "TemplateHouse$Source" ⟨"TemplateHouse$Source", "at", "(I)I"⟩ ⟨"TemplateHouse$Source", "at", "(I)I"⟩ ∈ zT := zsub5 203 (by decide +kernel) (by decide +kernel)
theorem zw1168 : Cond.code ⟨"TemplateHouse$Source", "placeOf", "(I)I"⟩ prog_9_method_8_code 2 (Option.some Jvm.ClassFile.FieldType.int) ∈ zT := zsub5 208 rfl rfl
theorem zw1166 : Cond.instanceMethod ⟨"TemplateHouse$Source", "placeOf", "(I)I"⟩ ∈ zT := zsub5 206 (by decide +kernel) (by decide +kernel)
theorem zw1167 : Cond.selects "TemplateHouse$Source" ⟨"TemplateHouse$Source", "placeOf", "(I)I"⟩ ⟨"TemplateHouse$Source", "placeOf", "(I)I"⟩ ∈ zT := zsub5 207 (by decide +kernel) (by decide +kernel)
theorem zw1159 : Cond.code ⟨"TemplateHouse$Source", "stringEnd", "()I"⟩ prog_9_method_20_code 3 (Option.some Jvm.ClassFile.FieldType.int) ∈ zT := zsub5 199 rfl rfl
theorem zw1157 : Cond.instanceMethod ⟨"TemplateHouse$Source", "stringEnd", "()I"⟩ ∈ zT := zsub5 197 (by decide +kernel) (by decide +kernel)
theorem zw1158 : Cond.selects "TemplateHouse$Source" ⟨"TemplateHouse$Source", "stringEnd", "()I"⟩ ⟨"TemplateHouse$Source", "stringEnd", "()I"⟩ ∈ zT := zsub5 198 (by decide +kernel) (by decide +kernel)
theorem zw1172 : Cond.code ⟨"TemplateHouse", "isRow", "(I)Z"⟩ prog_1_method_38_code 1 (Option.some Jvm.ClassFile.FieldType.boolean) ∈ zT := zsub5 212 rfl rfl
theorem zw1171 : Cond.static ⟨"TemplateHouse", "isRow", "(I)Z"⟩ ∈ zT := zsub5 211 (by decide +kernel) (by decide +kernel)
theorem zw1241 : Cond.code ⟨"TemplateHouse$Source", "isBecomes", "()Z"⟩ prog_9_method_26_code 1 (Option.some Jvm.ClassFile.FieldType.boolean) ∈ zT := zsub6 41 rfl rfl
theorem zw1240 : Cond.instanceMethod ⟨"TemplateHouse$Source", "isBecomes", "()Z"⟩ ∈ zT := zsub6 40 (by decide +kernel) (by decide +kernel)
theorem zwp98 : Cond.selects "TemplateHouse$Source" ⟨"TemplateHouse$Source", "isBecomes", "()Z"⟩ ⟨"TemplateHouse$Source", "isBecomes", "()Z"⟩ ∈ zT := zin 98 (by decide +kernel) (by decide +kernel)
theorem zw1246 : Cond.code ⟨"TemplateHouse$FileReader", "isOnTheWay", "(I)Z"⟩ prog_3_method_6_code 3 (Option.some Jvm.ClassFile.FieldType.boolean) ∈ zT := zsub6 46 rfl rfl
theorem zw7 : Cond.initialized "TemplateHouse$FileReader" ∈ zT := zsub1 7 (by decide +kernel) (by decide +kernel)
theorem zw1245 : Cond.instanceMethod ⟨"TemplateHouse$FileReader", "isOnTheWay", "(I)Z"⟩ ∈ zT := zsub6 45 (by decide +kernel) (by decide +kernel)
theorem zwp25 : Cond.selects "TemplateHouse$FileReader" ⟨"TemplateHouse$FileReader", "isOnTheWay", "(I)Z"⟩ ⟨"TemplateHouse$FileReader", "isOnTheWay", "(I)Z"⟩ ∈ zT := zin 25 (by decide +kernel) (by decide +kernel)
theorem zw1250 : Cond.code ⟨"TemplateHouse$Imports", "note", "(II)V"⟩ prog_6_method_5_code 5 (Option.none : Option Jvm.ClassFile.FieldType) ∈ zT := zsub6 50 rfl rfl
theorem zw1248 : Cond.instanceMethod ⟨"TemplateHouse$Imports", "note", "(II)V"⟩ ∈ zT := zsub6 48 (by decide +kernel) (by decide +kernel)
theorem zw1249 : Cond.selects "TemplateHouse$Imports" ⟨"TemplateHouse$Imports", "note", "(II)V"⟩ ⟨"TemplateHouse$Imports", "note", "(II)V"⟩ ∈ zT := zsub6 49 (by decide +kernel) (by decide +kernel)
theorem zw1272 : Cond.code ⟨"TemplateHouse", "isLetter", "(I)Z"⟩ prog_1_method_37_code 1 (Option.some Jvm.ClassFile.FieldType.boolean) ∈ zT := zsub6 72 rfl rfl
theorem zw1271 : Cond.static ⟨"TemplateHouse", "isLetter", "(I)Z"⟩ ∈ zT := zsub6 71 (by decide +kernel) (by decide +kernel)
theorem zw1275 : Cond.code ⟨"TemplateHouse", "wordIn", "(Ljava/lang/String;[BII)I"⟩ prog_1_method_36_code 8 (Option.some Jvm.ClassFile.FieldType.int) ∈ zT := zsub6 75 rfl rfl
theorem zw1274 : Cond.static ⟨"TemplateHouse", "wordIn", "(Ljava/lang/String;[BII)I"⟩ ∈ zT := zsub6 74 (by decide +kernel) (by decide +kernel)
theorem zw1279 : Cond.code ⟨"TemplateHouse$Source", "here", "()I"⟩ prog_9_method_9_code 1 (Option.some Jvm.ClassFile.FieldType.int) ∈ zT := zsub6 79 rfl rfl
theorem zw1277 : Cond.instanceMethod ⟨"TemplateHouse$Source", "here", "()I"⟩ ∈ zT := zsub6 77 (by decide +kernel) (by decide +kernel)
theorem zw1278 : Cond.selects "TemplateHouse$Source" ⟨"TemplateHouse$Source", "here", "()I"⟩ ⟨"TemplateHouse$Source", "here", "()I"⟩ ∈ zT := zsub6 78 (by decide +kernel) (by decide +kernel)
theorem zw1283 : Cond.code ⟨"TemplateHouse$Source", "take", "(ILTemplateHouse$Names;)I"⟩ prog_9_method_19_code 4 (Option.some Jvm.ClassFile.FieldType.int) ∈ zT := zsub6 83 rfl rfl
theorem zw1281 : Cond.instanceMethod ⟨"TemplateHouse$Source", "take", "(ILTemplateHouse$Names;)I"⟩ ∈ zT := zsub6 81 (by decide +kernel) (by decide +kernel)
theorem zw1282 : Cond.selects "TemplateHouse$Source" ⟨"TemplateHouse$Source", "take", "(ILTemplateHouse$Names;)I"⟩ ⟨"TemplateHouse$Source", "take", "(ILTemplateHouse$Names;)I"⟩ ∈ zT := zsub6 82 (by decide +kernel) (by decide +kernel)
theorem zw1288 : Cond.code ⟨"TemplateHouse$Gen", "newDef", "(IIII)I"⟩ prog_4_method_11_code 6 (Option.some Jvm.ClassFile.FieldType.int) ∈ zT := zsub6 88 rfl rfl
theorem zw1286 : Cond.instanceMethod ⟨"TemplateHouse$Gen", "newDef", "(IIII)I"⟩ ∈ zT := zsub6 86 (by decide +kernel) (by decide +kernel)
theorem zw1287 : Cond.selects "TemplateHouse$Gen" ⟨"TemplateHouse$Gen", "newDef", "(IIII)I"⟩ ⟨"TemplateHouse$Gen", "newDef", "(IIII)I"⟩ ∈ zT := zsub6 87 (by decide +kernel) (by decide +kernel)
theorem zw1305 : Cond.code ⟨"TemplateHouse$Source", "isSpace", "(I)Z"⟩ prog_9_method_5_code 1 (Option.some Jvm.ClassFile.FieldType.boolean) ∈ zT := zsub6 105 rfl rfl
theorem zw1304 : Cond.static ⟨"TemplateHouse$Source", "isSpace", "(I)Z"⟩ ∈ zT := zsub6 104 (by decide +kernel) (by decide +kernel)
theorem zw1301 : Cond.code ⟨"TemplateHouse$Source", "openBody", "(IIZII)V"⟩ prog_9_method_3_code 9 (Option.none : Option Jvm.ClassFile.FieldType) ∈ zT := zsub6 101 rfl rfl
theorem zw1299 : Cond.instanceMethod ⟨"TemplateHouse$Source", "openBody", "(IIZII)V"⟩ ∈ zT := zsub6 99 (by decide +kernel) (by decide +kernel)
theorem zw1300 : Cond.selects "TemplateHouse$Source" ⟨"TemplateHouse$Source", "openBody", "(IIZII)V"⟩ ⟨"TemplateHouse$Source", "openBody", "(IIZII)V"⟩ ∈ zT := zsub6 100 (by decide +kernel) (by decide +kernel)
theorem zw1311 : Cond.code ⟨"TemplateHouse$TextReader", "define", "(III)V"⟩ prog_12_method_3_code 4 (Option.none : Option Jvm.ClassFile.FieldType) ∈ zT := zsub6 111 rfl rfl
theorem zw1309 : Cond.instanceMethod ⟨"TemplateHouse$TextReader", "define", "(III)V"⟩ ∈ zT := zsub6 109 (by decide +kernel) (by decide +kernel)
theorem zw1310 : Cond.selects "TemplateHouse$TextReader" ⟨"TemplateHouse$TextReader", "define", "(III)V"⟩ ⟨"TemplateHouse$TextReader", "define", "(III)V"⟩ ∈ zT := zsub6 110 (by decide +kernel) (by decide +kernel)
theorem zw1319 : Cond.code ⟨"TemplateHouse$Gen", "emit", "(I)V"⟩ prog_4_method_3_code 2 (Option.none : Option Jvm.ClassFile.FieldType) ∈ zT := zsub6 119 rfl rfl
theorem zw1317 : Cond.instanceMethod ⟨"TemplateHouse$Gen", "emit", "(I)V"⟩ ∈ zT := zsub6 117 (by decide +kernel) (by decide +kernel)
theorem zw1318 : Cond.selects "TemplateHouse$Gen" ⟨"TemplateHouse$Gen", "emit", "(I)V"⟩ ⟨"TemplateHouse$Gen", "emit", "(I)V"⟩ ∈ zT := zsub6 118 (by decide +kernel) (by decide +kernel)
theorem zw1315 : Cond.code ⟨"TemplateHouse$Gen", "emit", "(III)V"⟩ prog_4_method_5_code 4 (Option.none : Option Jvm.ClassFile.FieldType) ∈ zT := zsub6 115 rfl rfl
theorem zw1313 : Cond.instanceMethod ⟨"TemplateHouse$Gen", "emit", "(III)V"⟩ ∈ zT := zsub6 113 (by decide +kernel) (by decide +kernel)
theorem zw1314 : Cond.selects "TemplateHouse$Gen" ⟨"TemplateHouse$Gen", "emit", "(III)V"⟩ ⟨"TemplateHouse$Gen", "emit", "(III)V"⟩ ∈ zT := zsub6 114 (by decide +kernel) (by decide +kernel)
theorem zw1332 : Cond.code ⟨"TemplateHouse$FileReader", "checkParam", "(IIZ)V"⟩ prog_3_method_13_code 5 (Option.none : Option Jvm.ClassFile.FieldType) ∈ zT := zsub6 132 rfl rfl
theorem zw1331 : Cond.instanceMethod ⟨"TemplateHouse$FileReader", "checkParam", "(IIZ)V"⟩ ∈ zT := zsub6 131 (by decide +kernel) (by decide +kernel)
theorem zwp19 : Cond.selects "TemplateHouse$FileReader" ⟨"TemplateHouse$FileReader", "checkParam", "(IIZ)V"⟩ ⟨"TemplateHouse$FileReader", "checkParam", "(IIZ)V"⟩ ∈ zT := zin 19 (by decide +kernel) (by decide +kernel)
theorem zw1350 : Cond.code ⟨"TemplateHouse$Gen", "stringFrom", "(I)I"⟩ prog_4_method_9_code 2 (Option.some Jvm.ClassFile.FieldType.int) ∈ zT := zsub6 150 rfl rfl
theorem zw1348 : Cond.instanceMethod ⟨"TemplateHouse$Gen", "stringFrom", "(I)I"⟩ ∈ zT := zsub6 148 (by decide +kernel) (by decide +kernel)
theorem zw1349 : Cond.selects "TemplateHouse$Gen" ⟨"TemplateHouse$Gen", "stringFrom", "(I)I"⟩ ⟨"TemplateHouse$Gen", "stringFrom", "(I)I"⟩ ∈ zT := zsub6 149 (by decide +kernel) (by decide +kernel)
theorem zw1345 : Cond.code ⟨"TemplateHouse$Source", "string", "(LTemplateHouse$Gen;I)I"⟩ prog_9_method_21_code 6 (Option.some Jvm.ClassFile.FieldType.int) ∈ zT := zsub6 145 rfl rfl
theorem zw1343 : Cond.instanceMethod ⟨"TemplateHouse$Source", "string", "(LTemplateHouse$Gen;I)I"⟩ ∈ zT := zsub6 143 (by decide +kernel) (by decide +kernel)
theorem zw1344 : Cond.selects "TemplateHouse$Source" ⟨"TemplateHouse$Source", "string", "(LTemplateHouse$Gen;I)I"⟩ ⟨"TemplateHouse$Source", "string", "(LTemplateHouse$Gen;I)I"⟩ ∈ zT := zsub6 144 (by decide +kernel) (by decide +kernel)
theorem zw1362 : Cond.code ⟨"TemplateHouse$TextReader", "startConstant", "()V"⟩ prog_12_method_4_code 1 (Option.none : Option Jvm.ClassFile.FieldType) ∈ zT := zsub6 162 rfl rfl
theorem zw1360 : Cond.instanceMethod ⟨"TemplateHouse$TextReader", "startConstant", "()V"⟩ ∈ zT := zsub6 160 (by decide +kernel) (by decide +kernel)
theorem zw1361 : Cond.selects "TemplateHouse$TextReader" ⟨"TemplateHouse$TextReader", "startConstant", "()V"⟩ ⟨"TemplateHouse$TextReader", "startConstant", "()V"⟩ ∈ zT := zsub6 161 (by decide +kernel) (by decide +kernel)
theorem zw1378 : Cond.code ⟨"TemplateHouse$Source", "blanksEnd", "(I)I"⟩ prog_9_method_12_code 3 (Option.some Jvm.ClassFile.FieldType.int) ∈ zT := zsub6 178 rfl rfl
theorem zw1376 : Cond.instanceMethod ⟨"TemplateHouse$Source", "blanksEnd", "(I)I"⟩ ∈ zT := zsub6 176 (by decide +kernel) (by decide +kernel)
theorem zw1377 : Cond.selects "TemplateHouse$Source" ⟨"TemplateHouse$Source", "blanksEnd", "(I)I"⟩ ⟨"TemplateHouse$Source", "blanksEnd", "(I)I"⟩ ∈ zT := zsub6 177 (by decide +kernel) (by decide +kernel)
theorem zw1374 : Cond.code ⟨"TemplateHouse$TextReader", "isParamsAhead", "()Z"⟩ prog_12_method_45_code 3 (Option.some Jvm.ClassFile.FieldType.boolean) ∈ zT := zsub6 174 rfl rfl
theorem zw1373 : Cond.instanceMethod ⟨"TemplateHouse$TextReader", "isParamsAhead", "()Z"⟩ ∈ zT := zsub6 173 (by decide +kernel) (by decide +kernel)
theorem zwp119 : Cond.selects "TemplateHouse$TextReader" ⟨"TemplateHouse$TextReader", "isParamsAhead", "()Z"⟩ ⟨"TemplateHouse$TextReader", "isParamsAhead", "()Z"⟩ ∈ zT := zin 119 (by decide +kernel) (by decide +kernel)
theorem zw1385 : Cond.code ⟨"TemplateHouse$Source", "blanks", "()V"⟩ prog_9_method_11_code 1 (Option.none : Option Jvm.ClassFile.FieldType) ∈ zT := zsub6 185 rfl rfl
theorem zw1383 : Cond.instanceMethod ⟨"TemplateHouse$Source", "blanks", "()V"⟩ ∈ zT := zsub6 183 (by decide +kernel) (by decide +kernel)
theorem zw1384 : Cond.selects "TemplateHouse$Source" ⟨"TemplateHouse$Source", "blanks", "()V"⟩ ⟨"TemplateHouse$Source", "blanks", "()V"⟩ ∈ zT := zsub6 184 (by decide +kernel) (by decide +kernel)
abbrev cX12_isText : ByteArray := prog_1_method_35_code
abbrev yX12_isText : MethodName := ⟨"TemplateHouse", "isText", "([BIILjava/lang/String;)Z"⟩
theorem dmX12_isText : zDs yX12_isText cX12_isText 5 (some .boolean) 4 := ⟨⟨⟨by decide +kernel, by decide +kernel, by decide +kernel⟩, zw1098, zw1⟩, zw1097⟩
abbrev cX7_peek : ByteArray := prog_9_method_7_code
abbrev yX7_peek : MethodName := ⟨"TemplateHouse$Source", "peek", "()I"⟩
theorem dmX7_peek : zDv yX7_peek cX7_peek 1 (some .int) 0 := ⟨⟨⟨by decide +kernel, by decide +kernel, by decide +kernel⟩, zw1154, zw3⟩, zw1152, zw1153⟩
abbrev cX7_at : ByteArray := prog_9_method_6_code
abbrev yX7_at : MethodName := ⟨"TemplateHouse$Source", "at", "(I)I"⟩
theorem dmX7_at : zDv yX7_at cX7_at 2 (some .int) 1 := ⟨⟨⟨by decide +kernel, by decide +kernel, by decide +kernel⟩, zw1164, zw3⟩, zw1162, zw1163⟩
abbrev cX7_placeOf : ByteArray := prog_9_method_8_code
abbrev yX7_placeOf : MethodName := ⟨"TemplateHouse$Source", "placeOf", "(I)I"⟩
theorem dmX7_placeOf : zDv yX7_placeOf cX7_placeOf 2 (some .int) 1 := ⟨⟨⟨by decide +kernel, by decide +kernel, by decide +kernel⟩, zw1168, zw3⟩, zw1166, zw1167⟩
abbrev cX7_stringEnd : ByteArray := prog_9_method_20_code
abbrev yX7_stringEnd : MethodName := ⟨"TemplateHouse$Source", "stringEnd", "()I"⟩
theorem dmX7_stringEnd : zDv yX7_stringEnd cX7_stringEnd 3 (some .int) 0 := ⟨⟨⟨by decide +kernel, by decide +kernel, by decide +kernel⟩, zw1159, zw3⟩, zw1157, zw1158⟩
abbrev cX12_isRow : ByteArray := prog_1_method_38_code
abbrev yX12_isRow : MethodName := ⟨"TemplateHouse", "isRow", "(I)Z"⟩
theorem dmX12_isRow : zDs yX12_isRow cX12_isRow 1 (some .boolean) 1 := ⟨⟨⟨by decide +kernel, by decide +kernel, by decide +kernel⟩, zw1172, zw1⟩, zw1171⟩
abbrev cX7_isBecomes : ByteArray := prog_9_method_26_code
abbrev yX7_isBecomes : MethodName := ⟨"TemplateHouse$Source", "isBecomes", "()Z"⟩
theorem dmX7_isBecomes : zDv yX7_isBecomes cX7_isBecomes 1 (some .boolean) 0 := ⟨⟨⟨by decide +kernel, by decide +kernel, by decide +kernel⟩, zw1241, zw3⟩, zw1240, zwp98⟩
abbrev cX1_isOnTheWay : ByteArray := prog_3_method_6_code
abbrev yX1_isOnTheWay : MethodName := ⟨"TemplateHouse$FileReader", "isOnTheWay", "(I)Z"⟩
theorem dmX1_isOnTheWay : zDv yX1_isOnTheWay cX1_isOnTheWay 3 (some .boolean) 1 := ⟨⟨⟨by decide +kernel, by decide +kernel, by decide +kernel⟩, zw1246, zw7⟩, zw1245, zwp25⟩
abbrev cX4_note : ByteArray := prog_6_method_5_code
abbrev yX4_note : MethodName := ⟨"TemplateHouse$Imports", "note", "(II)V"⟩
theorem dmX4_note : zDv yX4_note cX4_note 5 none 2 := ⟨⟨⟨by decide +kernel, by decide +kernel, by decide +kernel⟩, zw1250, zw6⟩, zw1248, zw1249⟩
abbrev cX12_isLetter : ByteArray := prog_1_method_37_code
abbrev yX12_isLetter : MethodName := ⟨"TemplateHouse", "isLetter", "(I)Z"⟩
theorem dmX12_isLetter : zDs yX12_isLetter cX12_isLetter 1 (some .boolean) 1 := ⟨⟨⟨by decide +kernel, by decide +kernel, by decide +kernel⟩, zw1272, zw1⟩, zw1271⟩
abbrev cX12_wordIn : ByteArray := prog_1_method_36_code
abbrev yX12_wordIn : MethodName := ⟨"TemplateHouse", "wordIn", "(Ljava/lang/String;[BII)I"⟩
theorem dmX12_wordIn : zDs yX12_wordIn cX12_wordIn 8 (some .int) 4 := ⟨⟨⟨by decide +kernel, by decide +kernel, by decide +kernel⟩, zw1275, zw1⟩, zw1274⟩
abbrev cX7_here : ByteArray := prog_9_method_9_code
abbrev yX7_here : MethodName := ⟨"TemplateHouse$Source", "here", "()I"⟩
theorem dmX7_here : zDv yX7_here cX7_here 1 (some .int) 0 := ⟨⟨⟨by decide +kernel, by decide +kernel, by decide +kernel⟩, zw1279, zw3⟩, zw1277, zw1278⟩
abbrev cX7_take : ByteArray := prog_9_method_19_code
abbrev yX7_take : MethodName := ⟨"TemplateHouse$Source", "take", "(ILTemplateHouse$Names;)I"⟩
theorem dmX7_take : zDv yX7_take cX7_take 4 (some .int) 2 := ⟨⟨⟨by decide +kernel, by decide +kernel, by decide +kernel⟩, zw1283, zw3⟩, zw1281, zw1282⟩
abbrev cX2_newDef : ByteArray := prog_4_method_11_code
abbrev yX2_newDef : MethodName := ⟨"TemplateHouse$Gen", "newDef", "(IIII)I"⟩
theorem dmX2_newDef : zDv yX2_newDef cX2_newDef 6 (some .int) 4 := ⟨⟨⟨by decide +kernel, by decide +kernel, by decide +kernel⟩, zw1288, zw4⟩, zw1286, zw1287⟩
abbrev cX7_isSpace : ByteArray := prog_9_method_5_code
abbrev yX7_isSpace : MethodName := ⟨"TemplateHouse$Source", "isSpace", "(I)Z"⟩
theorem dmX7_isSpace : zDs yX7_isSpace cX7_isSpace 1 (some .boolean) 1 := ⟨⟨⟨by decide +kernel, by decide +kernel, by decide +kernel⟩, zw1305, zw3⟩, zw1304⟩
abbrev cX7_openBody : ByteArray := prog_9_method_3_code
abbrev yX7_openBody : MethodName := ⟨"TemplateHouse$Source", "openBody", "(IIZII)V"⟩
theorem dmX7_openBody : zDv yX7_openBody cX7_openBody 9 none 5 := ⟨⟨⟨by decide +kernel, by decide +kernel, by decide +kernel⟩, zw1301, zw3⟩, zw1299, zw1300⟩
abbrev cX10_define : ByteArray := prog_12_method_3_code
abbrev yX10_define : MethodName := ⟨"TemplateHouse$TextReader", "define", "(III)V"⟩
theorem dmX10_define : zDv yX10_define cX10_define 4 none 3 := ⟨⟨⟨by decide +kernel, by decide +kernel, by decide +kernel⟩, zw1311, zw8⟩, zw1309, zw1310⟩
abbrev cX2_emit : ByteArray := prog_4_method_3_code
abbrev yX2_emit : MethodName := ⟨"TemplateHouse$Gen", "emit", "(I)V"⟩
theorem dmX2_emit : zDv yX2_emit cX2_emit 2 none 1 := ⟨⟨⟨by decide +kernel, by decide +kernel, by decide +kernel⟩, zw1319, zw4⟩, zw1317, zw1318⟩
abbrev cX2_emit__ : ByteArray := prog_4_method_5_code
abbrev yX2_emit__ : MethodName := ⟨"TemplateHouse$Gen", "emit", "(III)V"⟩
theorem dmX2_emit__ : zDv yX2_emit__ cX2_emit__ 4 none 3 := ⟨⟨⟨by decide +kernel, by decide +kernel, by decide +kernel⟩, zw1315, zw4⟩, zw1313, zw1314⟩
abbrev cX1_checkParam : ByteArray := prog_3_method_13_code
abbrev yX1_checkParam : MethodName := ⟨"TemplateHouse$FileReader", "checkParam", "(IIZ)V"⟩
theorem dmX1_checkParam : zDv yX1_checkParam cX1_checkParam 5 none 3 := ⟨⟨⟨by decide +kernel, by decide +kernel, by decide +kernel⟩, zw1332, zw7⟩, zw1331, zwp19⟩
abbrev cX2_stringFrom : ByteArray := prog_4_method_9_code
abbrev yX2_stringFrom : MethodName := ⟨"TemplateHouse$Gen", "stringFrom", "(I)I"⟩
theorem dmX2_stringFrom : zDv yX2_stringFrom cX2_stringFrom 2 (some .int) 1 := ⟨⟨⟨by decide +kernel, by decide +kernel, by decide +kernel⟩, zw1350, zw4⟩, zw1348, zw1349⟩
abbrev cX7_string : ByteArray := prog_9_method_21_code
abbrev yX7_string : MethodName := ⟨"TemplateHouse$Source", "string", "(LTemplateHouse$Gen;I)I"⟩
theorem dmX7_string : zDv yX7_string cX7_string 6 (some .int) 2 := ⟨⟨⟨by decide +kernel, by decide +kernel, by decide +kernel⟩, zw1345, zw3⟩, zw1343, zw1344⟩
abbrev cX10_startConstant : ByteArray := prog_12_method_4_code
abbrev yX10_startConstant : MethodName := ⟨"TemplateHouse$TextReader", "startConstant", "()V"⟩
theorem dmX10_startConstant : zDv yX10_startConstant cX10_startConstant 1 none 0 := ⟨⟨⟨by decide +kernel, by decide +kernel, by decide +kernel⟩, zw1362, zw8⟩, zw1360, zw1361⟩
abbrev cX7_blanksEnd : ByteArray := prog_9_method_12_code
abbrev yX7_blanksEnd : MethodName := ⟨"TemplateHouse$Source", "blanksEnd", "(I)I"⟩
theorem dmX7_blanksEnd : zDv yX7_blanksEnd cX7_blanksEnd 3 (some .int) 1 := ⟨⟨⟨by decide +kernel, by decide +kernel, by decide +kernel⟩, zw1378, zw3⟩, zw1376, zw1377⟩
abbrev cX10_isParamsAhead : ByteArray := prog_12_method_45_code
abbrev yX10_isParamsAhead : MethodName := ⟨"TemplateHouse$TextReader", "isParamsAhead", "()Z"⟩
theorem dmX10_isParamsAhead : zDv yX10_isParamsAhead cX10_isParamsAhead 3 (some .boolean) 0 := ⟨⟨⟨by decide +kernel, by decide +kernel, by decide +kernel⟩, zw1374, zw8⟩, zw1373, zwp119⟩
abbrev cX7_blanks : ByteArray := prog_9_method_11_code
abbrev yX7_blanks : MethodName := ⟨"TemplateHouse$Source", "blanks", "()V"⟩
theorem dmX7_blanks : zDv yX7_blanks cX7_blanks 1 none 0 := ⟨⟨⟨by decide +kernel, by decide +kernel, by decide +kernel⟩, zw1385, zw3⟩, zw1383, zw1384⟩
theorem dX12_isText_0 : decode cX12_isText 0 = .ok (.iload_n 2, 1) := by decide +kernel
theorem dX12_isText_1 : decode cX12_isText 1 = .ok (.aload_n 3, 1) := by decide +kernel
theorem dX12_isText_2 : decode cX12_isText 2 = .ok (.invokevirtual 257, 3) := by decide +kernel
theorem dX7_peek_0 : decode cX7_peek 0 = .ok (.aload_n 0, 1) := by decide +kernel
theorem dX7_peek_1 : decode cX7_peek 1 = .ok (.getfield 30, 3) := by decide +kernel
theorem dX7_peek_4 : decode cX7_peek 4 = .ok (.ifCond .lt 38, 3) := by decide +kernel
theorem dX7_peek_43 : decode cX7_peek 43 = .ok (.ireturn, 1) := by decide +kernel
theorem dX7_peek_42 : decode cX7_peek 42 = .ok (.iconst (-1), 1) := by decide +kernel
theorem dX7_peek_7 : decode cX7_peek 7 = .ok (.aload_n 0, 1) := by decide +kernel
theorem dX7_peek_8 : decode cX7_peek 8 = .ok (.getfield 30, 3) := by decide +kernel
theorem dX7_peek_11 : decode cX7_peek 11 = .ok (.aload_n 0, 1) := by decide +kernel
theorem dX7_peek_12 : decode cX7_peek 12 = .ok (.getfield 26, 3) := by decide +kernel
theorem dX7_peek_15 : decode cX7_peek 15 = .ok (.if_icmp .ge 27, 3) := by decide +kernel
theorem dX7_peek_18 : decode cX7_peek 18 = .ok (.aload_n 0, 1) := by decide +kernel
theorem dX7_peek_19 : decode cX7_peek 19 = .ok (.getfield 30, 3) := by decide +kernel
theorem dX7_peek_22 : decode cX7_peek 22 = .ok (.aload_n 0, 1) := by decide +kernel
theorem dX7_peek_23 : decode cX7_peek 23 = .ok (.getfield 9, 3) := by decide +kernel
theorem dX7_peek_26 : decode cX7_peek 26 = .ok (.arraylength, 1) := by decide +kernel
theorem dX7_peek_27 : decode cX7_peek 27 = .ok (.if_icmp .ge 15, 3) := by decide +kernel
theorem dX7_peek_30 : decode cX7_peek 30 = .ok (.aload_n 0, 1) := by decide +kernel
theorem dX7_peek_31 : decode cX7_peek 31 = .ok (.getfield 9, 3) := by decide +kernel
theorem dX7_peek_34 : decode cX7_peek 34 = .ok (.aload_n 0, 1) := by decide +kernel
theorem dX7_peek_35 : decode cX7_peek 35 = .ok (.getfield 30, 3) := by decide +kernel
theorem dX7_peek_38 : decode cX7_peek 38 = .ok (.baload, 1) := by decide +kernel
theorem dX7_peek_39 : decode cX7_peek 39 = .ok (.goto 4, 3) := by decide +kernel
theorem dX7_at_0 : decode cX7_at 0 = .ok (.iload_n 1, 1) := by decide +kernel
theorem dX7_at_1 : decode cX7_at 1 = .ok (.ifCond .lt 29, 3) := by decide +kernel
theorem dX7_at_31 : decode cX7_at 31 = .ok (.ireturn, 1) := by decide +kernel
theorem dX7_at_30 : decode cX7_at 30 = .ok (.iconst (-1), 1) := by decide +kernel
theorem dX7_at_4 : decode cX7_at 4 = .ok (.iload_n 1, 1) := by decide +kernel
theorem dX7_at_5 : decode cX7_at 5 = .ok (.aload_n 0, 1) := by decide +kernel
theorem dX7_at_6 : decode cX7_at 6 = .ok (.getfield 26, 3) := by decide +kernel
theorem dX7_at_9 : decode cX7_at 9 = .ok (.if_icmp .ge 21, 3) := by decide +kernel
theorem dX7_at_12 : decode cX7_at 12 = .ok (.iload_n 1, 1) := by decide +kernel
theorem dX7_at_13 : decode cX7_at 13 = .ok (.aload_n 0, 1) := by decide +kernel
theorem dX7_at_14 : decode cX7_at 14 = .ok (.getfield 9, 3) := by decide +kernel
theorem dX7_at_17 : decode cX7_at 17 = .ok (.arraylength, 1) := by decide +kernel
theorem dX7_at_18 : decode cX7_at 18 = .ok (.if_icmp .ge 12, 3) := by decide +kernel
theorem dX7_at_21 : decode cX7_at 21 = .ok (.aload_n 0, 1) := by decide +kernel
theorem dX7_at_22 : decode cX7_at 22 = .ok (.getfield 9, 3) := by decide +kernel
theorem dX7_at_25 : decode cX7_at 25 = .ok (.iload_n 1, 1) := by decide +kernel
theorem dX7_at_26 : decode cX7_at 26 = .ok (.baload, 1) := by decide +kernel
theorem dX7_at_27 : decode cX7_at 27 = .ok (.goto 4, 3) := by decide +kernel
theorem dX7_placeOf_0 : decode cX7_placeOf 0 = .ok (.aload_n 0, 1) := by decide +kernel
theorem dX7_placeOf_1 : decode cX7_placeOf 1 = .ok (.getfield 15, 3) := by decide +kernel
theorem dX7_placeOf_4 : decode cX7_placeOf 4 = .ok (.ifCond .eq 7, 3) := by decide +kernel
theorem dX7_placeOf_34 : decode cX7_placeOf 34 = .ok (.ireturn, 1) := by decide +kernel
theorem dX7_placeOf_11 : decode cX7_placeOf 11 = .ok (.iload_n 1, 1) := by decide +kernel
theorem dX7_placeOf_12 : decode cX7_placeOf 12 = .ok (.ifCond .lt 21, 3) := by decide +kernel
theorem dX7_placeOf_33 : decode cX7_placeOf 33 = .ok (.iconst 0, 1) := by decide +kernel
theorem dX7_placeOf_15 : decode cX7_placeOf 15 = .ok (.iload_n 1, 1) := by decide +kernel
theorem dX7_placeOf_16 : decode cX7_placeOf 16 = .ok (.aload_n 0, 1) := by decide +kernel
theorem dX7_placeOf_17 : decode cX7_placeOf 17 = .ok (.getfield 22, 3) := by decide +kernel
theorem dX7_placeOf_20 : decode cX7_placeOf 20 = .ok (.arraylength, 1) := by decide +kernel
theorem dX7_placeOf_21 : decode cX7_placeOf 21 = .ok (.if_icmp .ge 12, 3) := by decide +kernel
theorem dX7_placeOf_24 : decode cX7_placeOf 24 = .ok (.aload_n 0, 1) := by decide +kernel
theorem dX7_placeOf_25 : decode cX7_placeOf 25 = .ok (.getfield 22, 3) := by decide +kernel
theorem dX7_placeOf_28 : decode cX7_placeOf 28 = .ok (.iload_n 1, 1) := by decide +kernel
theorem dX7_placeOf_29 : decode cX7_placeOf 29 = .ok (.iaload, 1) := by decide +kernel
theorem dX7_placeOf_30 : decode cX7_placeOf 30 = .ok (.goto 4, 3) := by decide +kernel
theorem dX7_placeOf_7 : decode cX7_placeOf 7 = .ok (.iload_n 1, 1) := by decide +kernel
theorem dX7_placeOf_8 : decode cX7_placeOf 8 = .ok (.goto 26, 3) := by decide +kernel
theorem dX7_stringEnd_0 : decode cX7_stringEnd 0 = .ok (.aload_n 0, 1) := by decide +kernel
theorem dX7_stringEnd_1 : decode cX7_stringEnd 1 = .ok (.invokevirtual 112, 3) := by decide +kernel
theorem dX7_stringEnd_4 : decode cX7_stringEnd 4 = .ok (.istore_n 1, 1) := by decide +kernel
theorem dX7_stringEnd_5 : decode cX7_stringEnd 5 = .ok (.aload_n 0, 1) := by decide +kernel
theorem dX7_stringEnd_6 : decode cX7_stringEnd 6 = .ok (.getfield 30, 3) := by decide +kernel
theorem dX7_stringEnd_9 : decode cX7_stringEnd 9 = .ok (.iconst 1, 1) := by decide +kernel
theorem dX7_stringEnd_10 : decode cX7_stringEnd 10 = .ok (.iadd, 1) := by decide +kernel
theorem dX7_stringEnd_11 : decode cX7_stringEnd 11 = .ok (.istore_n 2, 1) := by decide +kernel
theorem dX7_stringEnd_12 : decode cX7_stringEnd 12 = .ok (.iload_n 2, 1) := by decide +kernel
theorem dX7_stringEnd_13 : decode cX7_stringEnd 13 = .ok (.aload_n 0, 1) := by decide +kernel
theorem dX7_stringEnd_14 : decode cX7_stringEnd 14 = .ok (.getfield 26, 3) := by decide +kernel
theorem dX7_stringEnd_17 : decode cX7_stringEnd 17 = .ok (.if_icmp .ge 38, 3) := by decide +kernel
theorem dX7_stringEnd_55 : decode cX7_stringEnd 55 = .ok (.iload_n 2, 1) := by decide +kernel
theorem dX7_stringEnd_56 : decode cX7_stringEnd 56 = .ok (.aload_n 0, 1) := by decide +kernel
theorem dX7_stringEnd_57 : decode cX7_stringEnd 57 = .ok (.getfield 26, 3) := by decide +kernel
theorem dX7_stringEnd_60 : decode cX7_stringEnd 60 = .ok (.if_icmp .lt 16, 3) := by decide +kernel
theorem dX7_stringEnd_76 : decode cX7_stringEnd 76 = .ok (.iload_n 2, 1) := by decide +kernel
theorem dX7_stringEnd_77 : decode cX7_stringEnd 77 = .ok (.ireturn, 1) := by decide +kernel
theorem dX7_stringEnd_63 : decode cX7_stringEnd 63 = .ok (.aload_n 0, 1) := by decide +kernel
theorem dX7_stringEnd_64 : decode cX7_stringEnd 64 = .ok (.iconst 1, 1) := by decide +kernel
theorem dX7_stringEnd_65 : decode cX7_stringEnd 65 = .ok (.aload_n 0, 1) := by decide +kernel
theorem dX7_stringEnd_66 : decode cX7_stringEnd 66 = .ok (.aload_n 0, 1) := by decide +kernel
theorem dX7_stringEnd_67 : decode cX7_stringEnd 67 = .ok (.getfield 26, 3) := by decide +kernel
theorem dX7_stringEnd_70 : decode cX7_stringEnd 70 = .ok (.invokevirtual 125, 3) := by decide +kernel
theorem dX7_stringEnd_73 : decode cX7_stringEnd 73 = .ok (.invokevirtual 105, 3) := by decide +kernel
theorem dX7_stringEnd_20 : decode cX7_stringEnd 20 = .ok (.aload_n 0, 1) := by decide +kernel
theorem dX7_stringEnd_21 : decode cX7_stringEnd 21 = .ok (.iload_n 2, 1) := by decide +kernel
theorem dX7_stringEnd_22 : decode cX7_stringEnd 22 = .ok (.invokevirtual 122, 3) := by decide +kernel
theorem dX7_stringEnd_25 : decode cX7_stringEnd 25 = .ok (.iload_n 1, 1) := by decide +kernel
theorem dX7_stringEnd_26 : decode cX7_stringEnd 26 = .ok (.if_icmp .eq 29, 3) := by decide +kernel
theorem dX7_stringEnd_29 : decode cX7_stringEnd 29 = .ok (.aload_n 0, 1) := by decide +kernel
theorem dX7_stringEnd_30 : decode cX7_stringEnd 30 = .ok (.iload_n 2, 1) := by decide +kernel
theorem dX7_stringEnd_31 : decode cX7_stringEnd 31 = .ok (.invokevirtual 122, 3) := by decide +kernel
theorem dX7_stringEnd_34 : decode cX7_stringEnd 34 = .ok (.bipush 10, 2) := by decide +kernel
theorem dX7_stringEnd_36 : decode cX7_stringEnd 36 = .ok (.if_icmp .ne 13, 3) := by decide +kernel
theorem dX7_stringEnd_49 : decode cX7_stringEnd 49 = .ok (.iinc 2 1, 3) := by decide +kernel
theorem dX7_stringEnd_52 : decode cX7_stringEnd 52 = .ok (.goto (-40), 3) := by decide +kernel
theorem dX7_stringEnd_39 : decode cX7_stringEnd 39 = .ok (.aload_n 0, 1) := by decide +kernel
theorem dX7_stringEnd_40 : decode cX7_stringEnd 40 = .ok (.iconst 1, 1) := by decide +kernel
theorem dX7_stringEnd_41 : decode cX7_stringEnd 41 = .ok (.aload_n 0, 1) := by decide +kernel
theorem dX7_stringEnd_42 : decode cX7_stringEnd 42 = .ok (.iload_n 2, 1) := by decide +kernel
theorem dX7_stringEnd_43 : decode cX7_stringEnd 43 = .ok (.invokevirtual 125, 3) := by decide +kernel
theorem dX7_stringEnd_46 : decode cX7_stringEnd 46 = .ok (.invokevirtual 105, 3) := by decide +kernel
theorem dX12_isRow_0 : decode cX12_isRow 0 = .ok (.iload_n 0, 1) := by decide +kernel
theorem dX12_isRow_1 : decode cX12_isRow 1 = .ok (.bipush 97, 2) := by decide +kernel
theorem dX12_isRow_3 : decode cX12_isRow 3 = .ok (.if_icmp .lt 9, 3) := by decide +kernel
theorem dX12_isRow_47 : decode cX12_isRow 47 = .ok (.ireturn, 1) := by decide +kernel
theorem dX12_isRow_42 : decode cX12_isRow 42 = .ok (.iconst 1, 1) := by decide +kernel
theorem dX12_isRow_43 : decode cX12_isRow 43 = .ok (.goto 4, 3) := by decide +kernel
theorem dX12_isRow_12 : decode cX12_isRow 12 = .ok (.iload_n 0, 1) := by decide +kernel
theorem dX12_isRow_13 : decode cX12_isRow 13 = .ok (.bipush 65, 2) := by decide +kernel
theorem dX12_isRow_15 : decode cX12_isRow 15 = .ok (.if_icmp .lt 9, 3) := by decide +kernel
theorem dX12_isRow_24 : decode cX12_isRow 24 = .ok (.iload_n 0, 1) := by decide +kernel
theorem dX12_isRow_25 : decode cX12_isRow 25 = .ok (.bipush 95, 2) := by decide +kernel
theorem dX12_isRow_27 : decode cX12_isRow 27 = .ok (.if_icmp .eq 15, 3) := by decide +kernel
theorem dX12_isRow_30 : decode cX12_isRow 30 = .ok (.iload_n 0, 1) := by decide +kernel
theorem dX12_isRow_31 : decode cX12_isRow 31 = .ok (.bipush 48, 2) := by decide +kernel
theorem dX12_isRow_33 : decode cX12_isRow 33 = .ok (.if_icmp .lt 13, 3) := by decide +kernel
theorem dX12_isRow_46 : decode cX12_isRow 46 = .ok (.iconst 0, 1) := by decide +kernel
theorem dX12_isRow_36 : decode cX12_isRow 36 = .ok (.iload_n 0, 1) := by decide +kernel
theorem dX12_isRow_37 : decode cX12_isRow 37 = .ok (.bipush 57, 2) := by decide +kernel
theorem dX12_isRow_39 : decode cX12_isRow 39 = .ok (.if_icmp .gt 7, 3) := by decide +kernel
theorem dX12_isRow_18 : decode cX12_isRow 18 = .ok (.iload_n 0, 1) := by decide +kernel
theorem dX12_isRow_19 : decode cX12_isRow 19 = .ok (.bipush 90, 2) := by decide +kernel
theorem dX12_isRow_21 : decode cX12_isRow 21 = .ok (.if_icmp .le 21, 3) := by decide +kernel
theorem dX12_isRow_6 : decode cX12_isRow 6 = .ok (.iload_n 0, 1) := by decide +kernel
theorem dX12_isRow_7 : decode cX12_isRow 7 = .ok (.bipush 122, 2) := by decide +kernel
theorem dX12_isRow_9 : decode cX12_isRow 9 = .ok (.if_icmp .le 33, 3) := by decide +kernel
theorem dX7_isBecomes_0 : decode cX7_isBecomes 0 = .ok (.aload_n 0, 1) := by decide +kernel
theorem dX7_isBecomes_1 : decode cX7_isBecomes 1 = .ok (.aload_n 0, 1) := by decide +kernel
theorem dX7_isBecomes_2 : decode cX7_isBecomes 2 = .ok (.getfield 30, 3) := by decide +kernel
theorem dX7_isBecomes_5 : decode cX7_isBecomes 5 = .ok (.invokevirtual 122, 3) := by decide +kernel
theorem dX7_isBecomes_8 : decode cX7_isBecomes 8 = .ok (.bipush 58, 2) := by decide +kernel
theorem dX7_isBecomes_10 : decode cX7_isBecomes 10 = .ok (.if_icmp .ne 37, 3) := by decide +kernel
theorem dX7_isBecomes_48 : decode cX7_isBecomes 48 = .ok (.ireturn, 1) := by decide +kernel
theorem dX7_isBecomes_47 : decode cX7_isBecomes 47 = .ok (.iconst 0, 1) := by decide +kernel
theorem dX7_isBecomes_13 : decode cX7_isBecomes 13 = .ok (.aload_n 0, 1) := by decide +kernel
theorem dX7_isBecomes_14 : decode cX7_isBecomes 14 = .ok (.aload_n 0, 1) := by decide +kernel
theorem dX7_isBecomes_15 : decode cX7_isBecomes 15 = .ok (.getfield 30, 3) := by decide +kernel
theorem dX7_isBecomes_18 : decode cX7_isBecomes 18 = .ok (.iconst 1, 1) := by decide +kernel
theorem dX7_isBecomes_19 : decode cX7_isBecomes 19 = .ok (.iadd, 1) := by decide +kernel
theorem dX7_isBecomes_20 : decode cX7_isBecomes 20 = .ok (.invokevirtual 122, 3) := by decide +kernel
theorem dX7_isBecomes_23 : decode cX7_isBecomes 23 = .ok (.bipush 58, 2) := by decide +kernel
theorem dX7_isBecomes_25 : decode cX7_isBecomes 25 = .ok (.if_icmp .ne 22, 3) := by decide +kernel
theorem dX7_isBecomes_28 : decode cX7_isBecomes 28 = .ok (.aload_n 0, 1) := by decide +kernel
theorem dX7_isBecomes_29 : decode cX7_isBecomes 29 = .ok (.aload_n 0, 1) := by decide +kernel
theorem dX7_isBecomes_30 : decode cX7_isBecomes 30 = .ok (.getfield 30, 3) := by decide +kernel
theorem dX7_isBecomes_33 : decode cX7_isBecomes 33 = .ok (.iconst 2, 1) := by decide +kernel
theorem dX7_isBecomes_34 : decode cX7_isBecomes 34 = .ok (.iadd, 1) := by decide +kernel
theorem dX7_isBecomes_35 : decode cX7_isBecomes 35 = .ok (.invokevirtual 122, 3) := by decide +kernel
theorem dX7_isBecomes_38 : decode cX7_isBecomes 38 = .ok (.bipush 61, 2) := by decide +kernel
theorem dX7_isBecomes_40 : decode cX7_isBecomes 40 = .ok (.if_icmp .ne 7, 3) := by decide +kernel
theorem dX7_isBecomes_43 : decode cX7_isBecomes 43 = .ok (.iconst 1, 1) := by decide +kernel
theorem dX7_isBecomes_44 : decode cX7_isBecomes 44 = .ok (.goto 4, 3) := by decide +kernel
theorem dX1_isOnTheWay_0 : decode cX1_isOnTheWay 0 = .ok (.iconst 0, 1) := by decide +kernel
theorem dX1_isOnTheWay_1 : decode cX1_isOnTheWay 1 = .ok (.istore_n 2, 1) := by decide +kernel
theorem dX1_isOnTheWay_2 : decode cX1_isOnTheWay 2 = .ok (.iload_n 2, 1) := by decide +kernel
theorem dX1_isOnTheWay_3 : decode cX1_isOnTheWay 3 = .ok (.aload_n 0, 1) := by decide +kernel
theorem dX1_isOnTheWay_4 : decode cX1_isOnTheWay 4 = .ok (.getfield 41, 3) := by decide +kernel
theorem dX1_isOnTheWay_7 : decode cX1_isOnTheWay 7 = .ok (.if_icmp .ge 23, 3) := by decide +kernel
theorem dX1_isOnTheWay_30 : decode cX1_isOnTheWay 30 = .ok (.iconst 0, 1) := by decide +kernel
theorem dX1_isOnTheWay_31 : decode cX1_isOnTheWay 31 = .ok (.ireturn, 1) := by decide +kernel
theorem dX1_isOnTheWay_10 : decode cX1_isOnTheWay 10 = .ok (.aload_n 0, 1) := by decide +kernel
theorem dX1_isOnTheWay_11 : decode cX1_isOnTheWay 11 = .ok (.getfield 35, 3) := by decide +kernel
theorem dX1_isOnTheWay_14 : decode cX1_isOnTheWay 14 = .ok (.iload_n 2, 1) := by decide +kernel
theorem dX1_isOnTheWay_15 : decode cX1_isOnTheWay 15 = .ok (.invokestatic 101, 3) := by decide +kernel
theorem dX1_isOnTheWay_18 : decode cX1_isOnTheWay 18 = .ok (.iload_n 1, 1) := by decide +kernel
theorem dX1_isOnTheWay_19 : decode cX1_isOnTheWay 19 = .ok (.if_icmp .ne 5, 3) := by decide +kernel
theorem dX1_isOnTheWay_24 : decode cX1_isOnTheWay 24 = .ok (.iinc 2 1, 3) := by decide +kernel
theorem dX1_isOnTheWay_27 : decode cX1_isOnTheWay 27 = .ok (.goto (-25), 3) := by decide +kernel
theorem dX1_isOnTheWay_22 : decode cX1_isOnTheWay 22 = .ok (.iconst 1, 1) := by decide +kernel
theorem dX1_isOnTheWay_23 : decode cX1_isOnTheWay 23 = .ok (.ireturn, 1) := by decide +kernel
theorem dX4_note_0 : decode cX4_note 0 = .ok (.aload_n 0, 1) := by decide +kernel
theorem dX4_note_1 : decode cX4_note 1 = .ok (.getfield 13, 3) := by decide +kernel
theorem dX4_note_4 : decode cX4_note 4 = .ok (.iload_n 1, 1) := by decide +kernel
theorem dX4_note_5 : decode cX4_note 5 = .ok (.invokestatic 35, 3) := by decide +kernel
theorem dX4_note_8 : decode cX4_note 8 = .ok (.istore_n 3, 1) := by decide +kernel
theorem dX4_note_9 : decode cX4_note 9 = .ok (.iconst 0, 1) := by decide +kernel
theorem dX4_note_10 : decode cX4_note 10 = .ok (.istore 4, 2) := by decide +kernel
theorem dX4_note_12 : decode cX4_note 12 = .ok (.iload 4, 2) := by decide +kernel
theorem dX4_note_14 : decode cX4_note 14 = .ok (.iload_n 3, 1) := by decide +kernel
theorem dX4_note_15 : decode cX4_note 15 = .ok (.if_icmp .ge 28, 3) := by decide +kernel
theorem dX4_note_43 : decode cX4_note 43 = .ok (.iload_n 3, 1) := by decide +kernel
theorem dX4_note_44 : decode cX4_note 44 = .ok (.bipush 8, 2) := by decide +kernel
theorem dX4_note_46 : decode cX4_note 46 = .ok (.if_icmp .ge 28, 3) := by decide +kernel
theorem dX4_note_74 : decode cX4_note 74 = .ok (.return_, 1) := by decide +kernel
theorem dX4_note_49 : decode cX4_note 49 = .ok (.aload_n 0, 1) := by decide +kernel
theorem dX4_note_50 : decode cX4_note 50 = .ok (.getfield 7, 3) := by decide +kernel
theorem dX4_note_53 : decode cX4_note 53 = .ok (.bipush 8, 2) := by decide +kernel
theorem dX4_note_55 : decode cX4_note 55 = .ok (.iload_n 1, 1) := by decide +kernel
theorem dX4_note_56 : decode cX4_note 56 = .ok (.imul, 1) := by decide +kernel
theorem dX4_note_57 : decode cX4_note 57 = .ok (.iload_n 3, 1) := by decide +kernel
theorem dX4_note_58 : decode cX4_note 58 = .ok (.iadd, 1) := by decide +kernel
theorem dX4_note_59 : decode cX4_note 59 = .ok (.iload_n 2, 1) := by decide +kernel
theorem dX4_note_60 : decode cX4_note 60 = .ok (.invokestatic 41, 3) := by decide +kernel
theorem dX4_note_63 : decode cX4_note 63 = .ok (.aload_n 0, 1) := by decide +kernel
theorem dX4_note_64 : decode cX4_note 64 = .ok (.getfield 13, 3) := by decide +kernel
theorem dX4_note_67 : decode cX4_note 67 = .ok (.iload_n 1, 1) := by decide +kernel
theorem dX4_note_68 : decode cX4_note 68 = .ok (.iload_n 3, 1) := by decide +kernel
theorem dX4_note_69 : decode cX4_note 69 = .ok (.iconst 1, 1) := by decide +kernel
theorem dX4_note_70 : decode cX4_note 70 = .ok (.iadd, 1) := by decide +kernel
theorem dX4_note_71 : decode cX4_note 71 = .ok (.invokestatic 41, 3) := by decide +kernel
theorem dX4_note_18 : decode cX4_note 18 = .ok (.aload_n 0, 1) := by decide +kernel
theorem dX4_note_19 : decode cX4_note 19 = .ok (.getfield 7, 3) := by decide +kernel
theorem dX4_note_22 : decode cX4_note 22 = .ok (.bipush 8, 2) := by decide +kernel
theorem dX4_note_24 : decode cX4_note 24 = .ok (.iload_n 1, 1) := by decide +kernel
theorem dX4_note_25 : decode cX4_note 25 = .ok (.imul, 1) := by decide +kernel
theorem dX4_note_26 : decode cX4_note 26 = .ok (.iload 4, 2) := by decide +kernel
theorem dX4_note_28 : decode cX4_note 28 = .ok (.iadd, 1) := by decide +kernel
theorem dX4_note_29 : decode cX4_note 29 = .ok (.invokestatic 35, 3) := by decide +kernel
theorem dX4_note_32 : decode cX4_note 32 = .ok (.iload_n 2, 1) := by decide +kernel
theorem dX4_note_33 : decode cX4_note 33 = .ok (.if_icmp .ne 4, 3) := by decide +kernel
theorem dX4_note_37 : decode cX4_note 37 = .ok (.iinc 4 1, 3) := by decide +kernel
theorem dX4_note_40 : decode cX4_note 40 = .ok (.goto (-28), 3) := by decide +kernel
theorem dX4_note_36 : decode cX4_note 36 = .ok (.return_, 1) := by decide +kernel
theorem dX12_isLetter_0 : decode cX12_isLetter 0 = .ok (.iload_n 0, 1) := by decide +kernel
theorem dX12_isLetter_1 : decode cX12_isLetter 1 = .ok (.bipush 97, 2) := by decide +kernel
theorem dX12_isLetter_3 : decode cX12_isLetter 3 = .ok (.if_icmp .lt 9, 3) := by decide +kernel
theorem dX12_isLetter_35 : decode cX12_isLetter 35 = .ok (.ireturn, 1) := by decide +kernel
theorem dX12_isLetter_30 : decode cX12_isLetter 30 = .ok (.iconst 1, 1) := by decide +kernel
theorem dX12_isLetter_31 : decode cX12_isLetter 31 = .ok (.goto 4, 3) := by decide +kernel
theorem dX12_isLetter_12 : decode cX12_isLetter 12 = .ok (.iload_n 0, 1) := by decide +kernel
theorem dX12_isLetter_13 : decode cX12_isLetter 13 = .ok (.bipush 65, 2) := by decide +kernel
theorem dX12_isLetter_15 : decode cX12_isLetter 15 = .ok (.if_icmp .lt 9, 3) := by decide +kernel
theorem dX12_isLetter_24 : decode cX12_isLetter 24 = .ok (.iload_n 0, 1) := by decide +kernel
theorem dX12_isLetter_25 : decode cX12_isLetter 25 = .ok (.bipush 95, 2) := by decide +kernel
theorem dX12_isLetter_27 : decode cX12_isLetter 27 = .ok (.if_icmp .ne 7, 3) := by decide +kernel
theorem dX12_isLetter_34 : decode cX12_isLetter 34 = .ok (.iconst 0, 1) := by decide +kernel
theorem dX12_isLetter_18 : decode cX12_isLetter 18 = .ok (.iload_n 0, 1) := by decide +kernel
theorem dX12_isLetter_19 : decode cX12_isLetter 19 = .ok (.bipush 90, 2) := by decide +kernel
theorem dX12_isLetter_21 : decode cX12_isLetter 21 = .ok (.if_icmp .le 9, 3) := by decide +kernel
theorem dX12_isLetter_6 : decode cX12_isLetter 6 = .ok (.iload_n 0, 1) := by decide +kernel
theorem dX12_isLetter_7 : decode cX12_isLetter 7 = .ok (.bipush 122, 2) := by decide +kernel
theorem dX12_isLetter_9 : decode cX12_isLetter 9 = .ok (.if_icmp .le 21, 3) := by decide +kernel
theorem dX12_wordIn_0 : decode cX12_wordIn 0 = .ok (.iload_n 2, 1) := by decide +kernel
theorem dX12_wordIn_1 : decode cX12_wordIn 1 = .ok (.ifCond .lt 16, 3) := by decide +kernel
theorem dX12_wordIn_17 : decode cX12_wordIn 17 = .ok (.iconst (-1), 1) := by decide +kernel
theorem dX12_wordIn_18 : decode cX12_wordIn 18 = .ok (.ireturn, 1) := by decide +kernel
theorem dX12_wordIn_4 : decode cX12_wordIn 4 = .ok (.iload_n 3, 1) := by decide +kernel
theorem dX12_wordIn_5 : decode cX12_wordIn 5 = .ok (.iconst 1, 1) := by decide +kernel
theorem dX12_wordIn_6 : decode cX12_wordIn 6 = .ok (.if_icmp .lt 11, 3) := by decide +kernel
theorem dX12_wordIn_9 : decode cX12_wordIn 9 = .ok (.iload_n 2, 1) := by decide +kernel
theorem dX12_wordIn_10 : decode cX12_wordIn 10 = .ok (.aload_n 1, 1) := by decide +kernel
theorem dX12_wordIn_11 : decode cX12_wordIn 11 = .ok (.arraylength, 1) := by decide +kernel
theorem dX12_wordIn_12 : decode cX12_wordIn 12 = .ok (.iload_n 3, 1) := by decide +kernel
theorem dX12_wordIn_13 : decode cX12_wordIn 13 = .ok (.isub, 1) := by decide +kernel
theorem dX12_wordIn_14 : decode cX12_wordIn 14 = .ok (.if_icmp .le 5, 3) := by decide +kernel
theorem dX12_wordIn_19 : decode cX12_wordIn 19 = .ok (.iconst 0, 1) := by decide +kernel
theorem dX12_wordIn_20 : decode cX12_wordIn 20 = .ok (.istore 4, 2) := by decide +kernel
theorem dX12_wordIn_22 : decode cX12_wordIn 22 = .ok (.iconst 0, 1) := by decide +kernel
theorem dX12_wordIn_23 : decode cX12_wordIn 23 = .ok (.istore 5, 2) := by decide +kernel
theorem dX12_wordIn_25 : decode cX12_wordIn 25 = .ok (.iconst 0, 1) := by decide +kernel
theorem dX12_wordIn_26 : decode cX12_wordIn 26 = .ok (.istore 6, 2) := by decide +kernel
theorem dX12_wordIn_28 : decode cX12_wordIn 28 = .ok (.iload 6, 2) := by decide +kernel
theorem dX12_wordIn_30 : decode cX12_wordIn 30 = .ok (.aload_n 0, 1) := by decide +kernel
theorem dX12_wordIn_31 : decode cX12_wordIn 31 = .ok (.invokevirtual 257, 3) := by decide +kernel
theorem dX7_here_0 : decode cX7_here 0 = .ok (.aload_n 0, 1) := by decide +kernel
theorem dX7_here_1 : decode cX7_here 1 = .ok (.getfield 15, 3) := by decide +kernel
theorem dX7_here_4 : decode cX7_here 4 = .ok (.ifCond .eq 10, 3) := by decide +kernel
theorem dX7_here_46 : decode cX7_here 46 = .ok (.ireturn, 1) := by decide +kernel
theorem dX7_here_14 : decode cX7_here 14 = .ok (.aload_n 0, 1) := by decide +kernel
theorem dX7_here_15 : decode cX7_here 15 = .ok (.getfield 30, 3) := by decide +kernel
theorem dX7_here_18 : decode cX7_here 18 = .ok (.ifCond .lt 27, 3) := by decide +kernel
theorem dX7_here_45 : decode cX7_here 45 = .ok (.iconst 0, 1) := by decide +kernel
theorem dX7_here_21 : decode cX7_here 21 = .ok (.aload_n 0, 1) := by decide +kernel
theorem dX7_here_22 : decode cX7_here 22 = .ok (.getfield 30, 3) := by decide +kernel
theorem dX7_here_25 : decode cX7_here 25 = .ok (.aload_n 0, 1) := by decide +kernel
theorem dX7_here_26 : decode cX7_here 26 = .ok (.getfield 22, 3) := by decide +kernel
theorem dX7_here_29 : decode cX7_here 29 = .ok (.arraylength, 1) := by decide +kernel
theorem dX7_here_30 : decode cX7_here 30 = .ok (.if_icmp .ge 15, 3) := by decide +kernel
theorem dX7_here_33 : decode cX7_here 33 = .ok (.aload_n 0, 1) := by decide +kernel
theorem dX7_here_34 : decode cX7_here 34 = .ok (.getfield 22, 3) := by decide +kernel
theorem dX7_here_37 : decode cX7_here 37 = .ok (.aload_n 0, 1) := by decide +kernel
theorem dX7_here_38 : decode cX7_here 38 = .ok (.getfield 30, 3) := by decide +kernel
theorem dX7_here_41 : decode cX7_here 41 = .ok (.iaload, 1) := by decide +kernel
theorem dX7_here_42 : decode cX7_here 42 = .ok (.goto 4, 3) := by decide +kernel
theorem dX7_here_7 : decode cX7_here 7 = .ok (.aload_n 0, 1) := by decide +kernel
theorem dX7_here_8 : decode cX7_here 8 = .ok (.getfield 30, 3) := by decide +kernel
theorem dX7_here_11 : decode cX7_here 11 = .ok (.goto 35, 3) := by decide +kernel
theorem dX7_take_0 : decode cX7_take 0 = .ok (.aload_n 0, 1) := by decide +kernel
theorem dX7_take_1 : decode cX7_take 1 = .ok (.getfield 30, 3) := by decide +kernel
theorem dX7_take_4 : decode cX7_take 4 = .ok (.istore_n 3, 1) := by decide +kernel
theorem dX7_take_5 : decode cX7_take 5 = .ok (.aload_n 0, 1) := by decide +kernel
theorem dX7_take_6 : decode cX7_take 6 = .ok (.iload_n 1, 1) := by decide +kernel
theorem dX7_take_7 : decode cX7_take 7 = .ok (.putfield 30, 3) := by decide +kernel
theorem dX7_take_10 : decode cX7_take 10 = .ok (.aload_n 2, 1) := by decide +kernel
theorem dX7_take_11 : decode cX7_take 11 = .ok (.aload_n 0, 1) := by decide +kernel
theorem dX7_take_12 : decode cX7_take 12 = .ok (.getfield 9, 3) := by decide +kernel
theorem dX7_take_15 : decode cX7_take 15 = .ok (.iload_n 3, 1) := by decide +kernel
theorem dX7_take_16 : decode cX7_take 16 = .ok (.iload_n 1, 1) := by decide +kernel
theorem dX7_take_17 : decode cX7_take 17 = .ok (.iload_n 3, 1) := by decide +kernel
theorem dX7_take_18 : decode cX7_take 18 = .ok (.isub, 1) := by decide +kernel
theorem dX7_take_19 : decode cX7_take 19 = .ok (.invokevirtual 118, 3) := by decide +kernel
theorem dX7_take_22 : decode cX7_take 22 = .ok (.ireturn, 1) := by decide +kernel
theorem dX2_newDef_0 : decode cX2_newDef 0 = .ok (.aload_n 0, 1) := by decide +kernel
theorem dX2_newDef_1 : decode cX2_newDef 1 = .ok (.getfield 47, 3) := by decide +kernel
theorem dX2_newDef_4 : decode cX2_newDef 4 = .ok (.bipush 7, 2) := by decide +kernel
theorem dX2_newDef_6 : decode cX2_newDef 6 = .ok (.imul, 1) := by decide +kernel
theorem dX2_newDef_7 : decode cX2_newDef 7 = .ok (.istore 5, 2) := by decide +kernel
theorem dX2_newDef_9 : decode cX2_newDef 9 = .ok (.aload_n 0, 1) := by decide +kernel
theorem dX2_newDef_10 : decode cX2_newDef 10 = .ok (.getfield 44, 3) := by decide +kernel
theorem dX2_newDef_13 : decode cX2_newDef 13 = .ok (.iload 5, 2) := by decide +kernel
theorem dX2_newDef_15 : decode cX2_newDef 15 = .ok (.iload_n 1, 1) := by decide +kernel
theorem dX2_newDef_16 : decode cX2_newDef 16 = .ok (.invokestatic 98, 3) := by decide +kernel
theorem dX2_newDef_19 : decode cX2_newDef 19 = .ok (.aload_n 0, 1) := by decide +kernel
theorem dX2_newDef_20 : decode cX2_newDef 20 = .ok (.getfield 44, 3) := by decide +kernel
theorem dX2_newDef_23 : decode cX2_newDef 23 = .ok (.iload 5, 2) := by decide +kernel
theorem dX2_newDef_25 : decode cX2_newDef 25 = .ok (.iconst 1, 1) := by decide +kernel
theorem dX2_newDef_26 : decode cX2_newDef 26 = .ok (.iadd, 1) := by decide +kernel
theorem dX2_newDef_27 : decode cX2_newDef 27 = .ok (.iload_n 2, 1) := by decide +kernel
theorem dX2_newDef_28 : decode cX2_newDef 28 = .ok (.invokestatic 98, 3) := by decide +kernel
theorem dX2_newDef_31 : decode cX2_newDef 31 = .ok (.aload_n 0, 1) := by decide +kernel
theorem dX2_newDef_32 : decode cX2_newDef 32 = .ok (.getfield 44, 3) := by decide +kernel
theorem dX2_newDef_35 : decode cX2_newDef 35 = .ok (.iload 5, 2) := by decide +kernel
theorem dX2_newDef_37 : decode cX2_newDef 37 = .ok (.iconst 2, 1) := by decide +kernel
theorem dX2_newDef_38 : decode cX2_newDef 38 = .ok (.iadd, 1) := by decide +kernel
theorem dX2_newDef_39 : decode cX2_newDef 39 = .ok (.iload_n 3, 1) := by decide +kernel
theorem dX2_newDef_40 : decode cX2_newDef 40 = .ok (.invokestatic 98, 3) := by decide +kernel
theorem dX2_newDef_43 : decode cX2_newDef 43 = .ok (.aload_n 0, 1) := by decide +kernel
theorem dX2_newDef_44 : decode cX2_newDef 44 = .ok (.getfield 44, 3) := by decide +kernel
theorem dX2_newDef_47 : decode cX2_newDef 47 = .ok (.iload 5, 2) := by decide +kernel
theorem dX2_newDef_49 : decode cX2_newDef 49 = .ok (.iconst 3, 1) := by decide +kernel
theorem dX2_newDef_50 : decode cX2_newDef 50 = .ok (.iadd, 1) := by decide +kernel
theorem dX2_newDef_51 : decode cX2_newDef 51 = .ok (.iload 4, 2) := by decide +kernel
theorem dX2_newDef_53 : decode cX2_newDef 53 = .ok (.invokestatic 98, 3) := by decide +kernel
theorem dX2_newDef_56 : decode cX2_newDef 56 = .ok (.aload_n 0, 1) := by decide +kernel
theorem dX2_newDef_57 : decode cX2_newDef 57 = .ok (.dup, 1) := by decide +kernel
theorem dX2_newDef_58 : decode cX2_newDef 58 = .ok (.getfield 47, 3) := by decide +kernel
theorem dX2_newDef_61 : decode cX2_newDef 61 = .ok (.iconst 1, 1) := by decide +kernel
theorem dX2_newDef_62 : decode cX2_newDef 62 = .ok (.iadd, 1) := by decide +kernel
theorem dX2_newDef_63 : decode cX2_newDef 63 = .ok (.putfield 47, 3) := by decide +kernel
theorem dX2_newDef_66 : decode cX2_newDef 66 = .ok (.iload 5, 2) := by decide +kernel
theorem dX2_newDef_68 : decode cX2_newDef 68 = .ok (.ireturn, 1) := by decide +kernel
theorem dX7_isSpace_0 : decode cX7_isSpace 0 = .ok (.iload_n 0, 1) := by decide +kernel
theorem dX7_isSpace_1 : decode cX7_isSpace 1 = .ok (.bipush 32, 2) := by decide +kernel
theorem dX7_isSpace_3 : decode cX7_isSpace 3 = .ok (.if_icmp .eq 9, 3) := by decide +kernel
theorem dX7_isSpace_17 : decode cX7_isSpace 17 = .ok (.ireturn, 1) := by decide +kernel
theorem dX7_isSpace_12 : decode cX7_isSpace 12 = .ok (.iconst 1, 1) := by decide +kernel
theorem dX7_isSpace_13 : decode cX7_isSpace 13 = .ok (.goto 4, 3) := by decide +kernel
theorem dX7_isSpace_6 : decode cX7_isSpace 6 = .ok (.iload_n 0, 1) := by decide +kernel
theorem dX7_isSpace_7 : decode cX7_isSpace 7 = .ok (.bipush 9, 2) := by decide +kernel
theorem dX7_isSpace_9 : decode cX7_isSpace 9 = .ok (.if_icmp .ne 7, 3) := by decide +kernel
theorem dX7_isSpace_16 : decode cX7_isSpace 16 = .ok (.iconst 0, 1) := by decide +kernel
theorem dX7_openBody_0 : decode cX7_openBody 0 = .ok (.iconst 0, 1) := by decide +kernel
theorem dX7_openBody_1 : decode cX7_openBody 1 = .ok (.istore 6, 2) := by decide +kernel
theorem dX7_openBody_3 : decode cX7_openBody 3 = .ok (.iload_n 1, 1) := by decide +kernel
theorem dX7_openBody_4 : decode cX7_openBody 4 = .ok (.istore 7, 2) := by decide +kernel
theorem dX7_openBody_6 : decode cX7_openBody 6 = .ok (.iload 7, 2) := by decide +kernel
theorem dX7_openBody_8 : decode cX7_openBody 8 = .ok (.iload_n 2, 1) := by decide +kernel
theorem dX7_openBody_9 : decode cX7_openBody 9 = .ok (.if_icmp .ge 95, 3) := by decide +kernel
theorem dX7_openBody_104 : decode cX7_openBody 104 = .ok (.aload_n 0, 1) := by decide +kernel
theorem dX7_openBody_105 : decode cX7_openBody 105 = .ok (.getfield 22, 3) := by decide +kernel
theorem dX7_openBody_108 : decode cX7_openBody 108 = .ok (.iload 6, 2) := by decide +kernel
theorem dX7_openBody_110 : decode cX7_openBody 110 = .ok (.iload 4, 2) := by decide +kernel
theorem dX7_openBody_112 : decode cX7_openBody 112 = .ok (.invokestatic 63, 3) := by decide +kernel
theorem dX7_openBody_115 : decode cX7_openBody 115 = .ok (.aload_n 0, 1) := by decide +kernel
theorem dX7_openBody_116 : decode cX7_openBody 116 = .ok (.aload_n 0, 1) := by decide +kernel
theorem dX7_openBody_117 : decode cX7_openBody 117 = .ok (.getfield 19, 3) := by decide +kernel
theorem dX7_openBody_120 : decode cX7_openBody 120 = .ok (.putfield 9, 3) := by decide +kernel
theorem dX7_openBody_123 : decode cX7_openBody 123 = .ok (.aload_n 0, 1) := by decide +kernel
theorem dX7_openBody_124 : decode cX7_openBody 124 = .ok (.iload 6, 2) := by decide +kernel
theorem dX7_openBody_126 : decode cX7_openBody 126 = .ok (.putfield 26, 3) := by decide +kernel
theorem dX7_openBody_129 : decode cX7_openBody 129 = .ok (.aload_n 0, 1) := by decide +kernel
theorem dX7_openBody_130 : decode cX7_openBody 130 = .ok (.iconst 0, 1) := by decide +kernel
theorem dX7_openBody_131 : decode cX7_openBody 131 = .ok (.putfield 30, 3) := by decide +kernel
theorem dX7_openBody_134 : decode cX7_openBody 134 = .ok (.aload_n 0, 1) := by decide +kernel
theorem dX7_openBody_135 : decode cX7_openBody 135 = .ok (.iconst 0, 1) := by decide +kernel
theorem dX7_openBody_136 : decode cX7_openBody 136 = .ok (.putfield 15, 3) := by decide +kernel
theorem dX7_openBody_139 : decode cX7_openBody 139 = .ok (.aload_n 0, 1) := by decide +kernel
theorem dX7_openBody_140 : decode cX7_openBody 140 = .ok (.iload 5, 2) := by decide +kernel
theorem dX7_openBody_142 : decode cX7_openBody 142 = .ok (.putfield 48, 3) := by decide +kernel
theorem dX7_openBody_145 : decode cX7_openBody 145 = .ok (.return_, 1) := by decide +kernel
theorem dX7_openBody_12 : decode cX7_openBody 12 = .ok (.iload 6, 2) := by decide +kernel
theorem dX7_openBody_14 : decode cX7_openBody 14 = .ok (.sipush 4000, 3) := by decide +kernel
theorem dX7_openBody_17 : decode cX7_openBody 17 = .ok (.if_icmp .ge 87, 3) := by decide +kernel
theorem dX7_openBody_20 : decode cX7_openBody 20 = .ok (.aload_n 0, 1) := by decide +kernel
theorem dX7_openBody_21 : decode cX7_openBody 21 = .ok (.getfield 42, 3) := by decide +kernel
theorem dX7_openBody_24 : decode cX7_openBody 24 = .ok (.iload 7, 2) := by decide +kernel
theorem dX7_openBody_26 : decode cX7_openBody 26 = .ok (.invokestatic 51, 3) := by decide +kernel
theorem dX7_openBody_29 : decode cX7_openBody 29 = .ok (.istore 8, 2) := by decide +kernel
theorem dX7_openBody_31 : decode cX7_openBody 31 = .ok (.iload_n 3, 1) := by decide +kernel
theorem dX7_openBody_32 : decode cX7_openBody 32 = .ok (.ifCond .eq 41, 3) := by decide +kernel
theorem dX7_openBody_73 : decode cX7_openBody 73 = .ok (.aload_n 0, 1) := by decide +kernel
theorem dX7_openBody_74 : decode cX7_openBody 74 = .ok (.getfield 19, 3) := by decide +kernel
theorem dX7_openBody_77 : decode cX7_openBody 77 = .ok (.iload 6, 2) := by decide +kernel
theorem dX7_openBody_79 : decode cX7_openBody 79 = .ok (.iload 8, 2) := by decide +kernel
theorem dX7_openBody_81 : decode cX7_openBody 81 = .ok (.invokestatic 59, 3) := by decide +kernel
theorem dX7_openBody_84 : decode cX7_openBody 84 = .ok (.aload_n 0, 1) := by decide +kernel
theorem dX7_openBody_85 : decode cX7_openBody 85 = .ok (.getfield 22, 3) := by decide +kernel
theorem dX7_openBody_88 : decode cX7_openBody 88 = .ok (.iload 6, 2) := by decide +kernel
theorem dX7_openBody_90 : decode cX7_openBody 90 = .ok (.iload 7, 2) := by decide +kernel
theorem dX7_openBody_92 : decode cX7_openBody 92 = .ok (.invokestatic 63, 3) := by decide +kernel
theorem dX7_openBody_95 : decode cX7_openBody 95 = .ok (.iinc 6 1, 3) := by decide +kernel
theorem dX7_openBody_98 : decode cX7_openBody 98 = .ok (.iinc 7 1, 3) := by decide +kernel
theorem dX7_openBody_101 : decode cX7_openBody 101 = .ok (.goto (-95), 3) := by decide +kernel
theorem dX7_openBody_35 : decode cX7_openBody 35 = .ok (.iload 8, 2) := by decide +kernel
theorem dX7_openBody_37 : decode cX7_openBody 37 = .ok (.bipush 10, 2) := by decide +kernel
theorem dX7_openBody_39 : decode cX7_openBody 39 = .ok (.if_icmp .ne 34, 3) := by decide +kernel
theorem dX7_openBody_42 : decode cX7_openBody 42 = .ok (.iload 7, 2) := by decide +kernel
theorem dX7_openBody_44 : decode cX7_openBody 44 = .ok (.iconst 1, 1) := by decide +kernel
theorem dX7_openBody_45 : decode cX7_openBody 45 = .ok (.iadd, 1) := by decide +kernel
theorem dX7_openBody_46 : decode cX7_openBody 46 = .ok (.iload_n 2, 1) := by decide +kernel
theorem dX7_openBody_47 : decode cX7_openBody 47 = .ok (.if_icmp .ge 51, 3) := by decide +kernel
theorem dX7_openBody_50 : decode cX7_openBody 50 = .ok (.aload_n 0, 1) := by decide +kernel
theorem dX7_openBody_51 : decode cX7_openBody 51 = .ok (.getfield 42, 3) := by decide +kernel
theorem dX7_openBody_54 : decode cX7_openBody 54 = .ok (.iload 7, 2) := by decide +kernel
theorem dX7_openBody_56 : decode cX7_openBody 56 = .ok (.iconst 1, 1) := by decide +kernel
theorem dX7_openBody_57 : decode cX7_openBody 57 = .ok (.iadd, 1) := by decide +kernel
theorem dX7_openBody_58 : decode cX7_openBody 58 = .ok (.invokestatic 51, 3) := by decide +kernel
theorem dX7_openBody_61 : decode cX7_openBody 61 = .ok (.invokestatic 55, 3) := by decide +kernel
theorem dX7_openBody_64 : decode cX7_openBody 64 = .ok (.ifCond .eq 34, 3) := by decide +kernel
theorem dX7_openBody_67 : decode cX7_openBody 67 = .ok (.iinc 7 1, 3) := by decide +kernel
theorem dX7_openBody_70 : decode cX7_openBody 70 = .ok (.goto (-28), 3) := by decide +kernel
theorem dX10_define_0 : decode cX10_define 0 = .ok (.aload_n 0, 1) := by decide +kernel
theorem dX10_define_1 : decode cX10_define 1 = .ok (.iload_n 1, 1) := by decide +kernel
theorem dX10_define_2 : decode cX10_define 2 = .ok (.putfield 18, 3) := by decide +kernel
theorem dX10_define_5 : decode cX10_define 5 = .ok (.aload_n 0, 1) := by decide +kernel
theorem dX10_define_6 : decode cX10_define 6 = .ok (.iload_n 2, 1) := by decide +kernel
theorem dX10_define_7 : decode cX10_define 7 = .ok (.putfield 21, 3) := by decide +kernel
theorem dX10_define_10 : decode cX10_define 10 = .ok (.aload_n 0, 1) := by decide +kernel
theorem dX10_define_11 : decode cX10_define 11 = .ok (.iload_n 3, 1) := by decide +kernel
theorem dX10_define_12 : decode cX10_define 12 = .ok (.putfield 24, 3) := by decide +kernel
theorem dX10_define_15 : decode cX10_define 15 = .ok (.aload_n 0, 1) := by decide +kernel
theorem dX10_define_16 : decode cX10_define 16 = .ok (.aload_n 0, 1) := by decide +kernel
theorem dX10_define_17 : decode cX10_define 17 = .ok (.getfield 62, 3) := by decide +kernel
theorem dX10_define_20 : decode cX10_define 20 = .ok (.getfield 66, 3) := by decide +kernel
theorem dX10_define_23 : decode cX10_define 23 = .ok (.putfield 27, 3) := by decide +kernel
theorem dX10_define_26 : decode cX10_define 26 = .ok (.return_, 1) := by decide +kernel
theorem dX2_emit_0 : decode cX2_emit 0 = .ok (.aload_n 0, 1) := by decide +kernel
theorem dX2_emit_1 : decode cX2_emit 1 = .ok (.getfield 30, 3) := by decide +kernel
theorem dX2_emit_4 : decode cX2_emit 4 = .ok (.ifCond .lt 35, 3) := by decide +kernel
theorem dX2_emit_39 : decode cX2_emit 39 = .ok (.return_, 1) := by decide +kernel
theorem dX2_emit_7 : decode cX2_emit 7 = .ok (.aload_n 0, 1) := by decide +kernel
theorem dX2_emit_8 : decode cX2_emit 8 = .ok (.getfield 30, 3) := by decide +kernel
theorem dX2_emit_11 : decode cX2_emit 11 = .ok (.aload_n 0, 1) := by decide +kernel
theorem dX2_emit_12 : decode cX2_emit 12 = .ok (.getfield 26, 3) := by decide +kernel
theorem dX2_emit_15 : decode cX2_emit 15 = .ok (.arraylength, 1) := by decide +kernel
theorem dX2_emit_16 : decode cX2_emit 16 = .ok (.if_icmp .ge 23, 3) := by decide +kernel
theorem dX2_emit_19 : decode cX2_emit 19 = .ok (.aload_n 0, 1) := by decide +kernel
theorem dX2_emit_20 : decode cX2_emit 20 = .ok (.getfield 26, 3) := by decide +kernel
theorem dX2_emit_23 : decode cX2_emit 23 = .ok (.aload_n 0, 1) := by decide +kernel
theorem dX2_emit_24 : decode cX2_emit 24 = .ok (.getfield 30, 3) := by decide +kernel
theorem dX2_emit_27 : decode cX2_emit 27 = .ok (.iload_n 1, 1) := by decide +kernel
theorem dX2_emit_28 : decode cX2_emit 28 = .ok (.iastore, 1) := by decide +kernel
theorem dX2_emit_29 : decode cX2_emit 29 = .ok (.aload_n 0, 1) := by decide +kernel
theorem dX2_emit_30 : decode cX2_emit 30 = .ok (.dup, 1) := by decide +kernel
theorem dX2_emit_31 : decode cX2_emit 31 = .ok (.getfield 30, 3) := by decide +kernel
theorem dX2_emit_34 : decode cX2_emit 34 = .ok (.iconst 1, 1) := by decide +kernel
theorem dX2_emit_35 : decode cX2_emit 35 = .ok (.iadd, 1) := by decide +kernel
theorem dX2_emit_36 : decode cX2_emit 36 = .ok (.putfield 30, 3) := by decide +kernel
theorem dX2_emit___0 : decode cX2_emit__ 0 = .ok (.aload_n 0, 1) := by decide +kernel
theorem dX2_emit___1 : decode cX2_emit__ 1 = .ok (.iload_n 1, 1) := by decide +kernel
theorem dX2_emit___2 : decode cX2_emit__ 2 = .ok (.invokevirtual 88, 3) := by decide +kernel
theorem dX2_emit___5 : decode cX2_emit__ 5 = .ok (.aload_n 0, 1) := by decide +kernel
theorem dX2_emit___6 : decode cX2_emit__ 6 = .ok (.iload_n 2, 1) := by decide +kernel
theorem dX2_emit___7 : decode cX2_emit__ 7 = .ok (.invokevirtual 88, 3) := by decide +kernel
theorem dX2_emit___10 : decode cX2_emit__ 10 = .ok (.aload_n 0, 1) := by decide +kernel
theorem dX2_emit___11 : decode cX2_emit__ 11 = .ok (.iload_n 3, 1) := by decide +kernel
theorem dX2_emit___12 : decode cX2_emit__ 12 = .ok (.invokevirtual 88, 3) := by decide +kernel
theorem dX2_emit___15 : decode cX2_emit__ 15 = .ok (.return_, 1) := by decide +kernel
theorem dX1_checkParam_0 : decode cX1_checkParam 0 = .ok (.iconst 0, 1) := by decide +kernel
theorem dX1_checkParam_1 : decode cX1_checkParam 1 = .ok (.istore 4, 2) := by decide +kernel
theorem dX1_checkParam_3 : decode cX1_checkParam 3 = .ok (.iload 4, 2) := by decide +kernel
theorem dX1_checkParam_5 : decode cX1_checkParam 5 = .ok (.aload_n 0, 1) := by decide +kernel
theorem dX1_checkParam_6 : decode cX1_checkParam 6 = .ok (.getfield 18, 3) := by decide +kernel
theorem dX1_checkParam_9 : decode cX1_checkParam 9 = .ok (.if_icmp .ge 31, 3) := by decide +kernel
theorem dX1_checkParam_40 : decode cX1_checkParam 40 = .ok (.iload_n 3, 1) := by decide +kernel
theorem dX1_checkParam_41 : decode cX1_checkParam 41 = .ok (.ifCond .eq 12, 3) := by decide +kernel
theorem dX1_checkParam_53 : decode cX1_checkParam 53 = .ok (.aload_n 0, 1) := by decide +kernel
theorem dX1_checkParam_54 : decode cX1_checkParam 54 = .ok (.getfield 18, 3) := by decide +kernel
theorem dX1_checkParam_57 : decode cX1_checkParam 57 = .ok (.bipush 12, 2) := by decide +kernel
theorem dX1_checkParam_59 : decode cX1_checkParam 59 = .ok (.if_icmp .lt 12, 3) := by decide +kernel
theorem dX1_checkParam_71 : decode cX1_checkParam 71 = .ok (.return_, 1) := by decide +kernel
theorem dX1_checkParam_62 : decode cX1_checkParam 62 = .ok (.aload_n 0, 1) := by decide +kernel
theorem dX1_checkParam_63 : decode cX1_checkParam 63 = .ok (.getfield 68, 3) := by decide +kernel
theorem dX1_checkParam_66 : decode cX1_checkParam 66 = .ok (.iconst 4, 1) := by decide +kernel
theorem dX1_checkParam_67 : decode cX1_checkParam 67 = .ok (.iload_n 2, 1) := by decide +kernel
theorem dX1_checkParam_68 : decode cX1_checkParam 68 = .ok (.invokevirtual 168, 3) := by decide +kernel
theorem dX1_checkParam_44 : decode cX1_checkParam 44 = .ok (.aload_n 0, 1) := by decide +kernel
theorem dX1_checkParam_45 : decode cX1_checkParam 45 = .ok (.getfield 68, 3) := by decide +kernel
theorem dX1_checkParam_48 : decode cX1_checkParam 48 = .ok (.iconst 3, 1) := by decide +kernel
theorem dX1_checkParam_49 : decode cX1_checkParam 49 = .ok (.iload_n 2, 1) := by decide +kernel
theorem dX1_checkParam_50 : decode cX1_checkParam 50 = .ok (.invokevirtual 168, 3) := by decide +kernel
theorem dX1_checkParam_12 : decode cX1_checkParam 12 = .ok (.aload_n 0, 1) := by decide +kernel
theorem dX1_checkParam_13 : decode cX1_checkParam 13 = .ok (.getfield 9, 3) := by decide +kernel
theorem dX1_checkParam_16 : decode cX1_checkParam 16 = .ok (.iload 4, 2) := by decide +kernel
theorem dX1_checkParam_18 : decode cX1_checkParam 18 = .ok (.invokestatic 101, 3) := by decide +kernel
theorem dX1_checkParam_21 : decode cX1_checkParam 21 = .ok (.iload_n 1, 1) := by decide +kernel
theorem dX1_checkParam_22 : decode cX1_checkParam 22 = .ok (.if_icmp .ne 12, 3) := by decide +kernel
theorem dX1_checkParam_34 : decode cX1_checkParam 34 = .ok (.iinc 4 1, 3) := by decide +kernel
theorem dX1_checkParam_37 : decode cX1_checkParam 37 = .ok (.goto (-34), 3) := by decide +kernel
theorem dX1_checkParam_25 : decode cX1_checkParam 25 = .ok (.aload_n 0, 1) := by decide +kernel
theorem dX1_checkParam_26 : decode cX1_checkParam 26 = .ok (.getfield 68, 3) := by decide +kernel
theorem dX1_checkParam_29 : decode cX1_checkParam 29 = .ok (.iconst 3, 1) := by decide +kernel
theorem dX1_checkParam_30 : decode cX1_checkParam 30 = .ok (.iload_n 2, 1) := by decide +kernel
theorem dX1_checkParam_31 : decode cX1_checkParam 31 = .ok (.invokevirtual 168, 3) := by decide +kernel
theorem dX2_stringFrom_0 : decode cX2_stringFrom 0 = .ok (.ldc 92, 2) := by decide +kernel
theorem dX2_stringFrom_2 : decode cX2_stringFrom 2 = .ok (.iload_n 1, 1) := by decide +kernel
theorem dX2_stringFrom_3 : decode cX2_stringFrom 3 = .ok (.bipush 12, 2) := by decide +kernel
theorem dX2_stringFrom_5 : decode cX2_stringFrom 5 = .ok (.ishl, 1) := by decide +kernel
theorem dX2_stringFrom_6 : decode cX2_stringFrom 6 = .ok (.ior, 1) := by decide +kernel
theorem dX2_stringFrom_7 : decode cX2_stringFrom 7 = .ok (.aload_n 0, 1) := by decide +kernel
theorem dX2_stringFrom_8 : decode cX2_stringFrom 8 = .ok (.getfield 41, 3) := by decide +kernel
theorem dX2_stringFrom_11 : decode cX2_stringFrom 11 = .ok (.iload_n 1, 1) := by decide +kernel
theorem dX2_stringFrom_12 : decode cX2_stringFrom 12 = .ok (.isub, 1) := by decide +kernel
theorem dX2_stringFrom_13 : decode cX2_stringFrom 13 = .ok (.ior, 1) := by decide +kernel
theorem dX2_stringFrom_14 : decode cX2_stringFrom 14 = .ok (.ireturn, 1) := by decide +kernel
theorem dX7_string_0 : decode cX7_string 0 = .ok (.aload_n 1, 1) := by decide +kernel
theorem dX7_string_1 : decode cX7_string 1 = .ok (.getfield 128, 3) := by decide +kernel
theorem dX7_string_4 : decode cX7_string 4 = .ok (.istore_n 3, 1) := by decide +kernel
theorem dX7_string_5 : decode cX7_string 5 = .ok (.aload_n 0, 1) := by decide +kernel
theorem dX7_string_6 : decode cX7_string 6 = .ok (.getfield 30, 3) := by decide +kernel
theorem dX7_string_9 : decode cX7_string 9 = .ok (.iconst 1, 1) := by decide +kernel
theorem dX7_string_10 : decode cX7_string 10 = .ok (.iadd, 1) := by decide +kernel
theorem dX7_string_11 : decode cX7_string 11 = .ok (.istore 4, 2) := by decide +kernel
theorem dX7_string_13 : decode cX7_string 13 = .ok (.iload 4, 2) := by decide +kernel
theorem dX7_string_15 : decode cX7_string 15 = .ok (.iload_n 2, 1) := by decide +kernel
theorem dX7_string_16 : decode cX7_string 16 = .ok (.if_icmp .ge 82, 3) := by decide +kernel
theorem dX7_string_98 : decode cX7_string 98 = .ok (.aload_n 0, 1) := by decide +kernel
theorem dX7_string_99 : decode cX7_string 99 = .ok (.iload_n 2, 1) := by decide +kernel
theorem dX7_string_100 : decode cX7_string 100 = .ok (.iconst 1, 1) := by decide +kernel
theorem dX7_string_101 : decode cX7_string 101 = .ok (.iadd, 1) := by decide +kernel
theorem dX7_string_102 : decode cX7_string 102 = .ok (.putfield 30, 3) := by decide +kernel
theorem dX7_string_105 : decode cX7_string 105 = .ok (.aload_n 1, 1) := by decide +kernel
theorem dX7_string_106 : decode cX7_string 106 = .ok (.iload_n 3, 1) := by decide +kernel
theorem dX7_string_107 : decode cX7_string 107 = .ok (.invokevirtual 136, 3) := by decide +kernel
theorem dX7_string_110 : decode cX7_string 110 = .ok (.ireturn, 1) := by decide +kernel
theorem dX7_string_19 : decode cX7_string 19 = .ok (.aload_n 0, 1) := by decide +kernel
theorem dX7_string_20 : decode cX7_string 20 = .ok (.iload 4, 2) := by decide +kernel
theorem dX7_string_22 : decode cX7_string 22 = .ok (.invokevirtual 122, 3) := by decide +kernel
theorem dX7_string_25 : decode cX7_string 25 = .ok (.istore 5, 2) := by decide +kernel
theorem dX7_string_27 : decode cX7_string 27 = .ok (.iload 5, 2) := by decide +kernel
theorem dX7_string_29 : decode cX7_string 29 = .ok (.bipush 92, 2) := by decide +kernel
theorem dX7_string_31 : decode cX7_string 31 = .ok (.if_icmp .ne 54, 3) := by decide +kernel
theorem dX7_string_85 : decode cX7_string 85 = .ok (.aload_n 1, 1) := by decide +kernel
theorem dX7_string_86 : decode cX7_string 86 = .ok (.iload 5, 2) := by decide +kernel
theorem dX7_string_88 : decode cX7_string 88 = .ok (.iconst 0, 1) := by decide +kernel
theorem dX7_string_89 : decode cX7_string 89 = .ok (.invokevirtual 133, 3) := by decide +kernel
theorem dX7_string_92 : decode cX7_string 92 = .ok (.iinc 4 1, 3) := by decide +kernel
theorem dX7_string_95 : decode cX7_string 95 = .ok (.goto (-82), 3) := by decide +kernel
theorem dX7_string_34 : decode cX7_string 34 = .ok (.iload 4, 2) := by decide +kernel
theorem dX7_string_36 : decode cX7_string 36 = .ok (.iconst 1, 1) := by decide +kernel
theorem dX7_string_37 : decode cX7_string 37 = .ok (.iadd, 1) := by decide +kernel
theorem dX7_string_38 : decode cX7_string 38 = .ok (.iload_n 2, 1) := by decide +kernel
theorem dX7_string_39 : decode cX7_string 39 = .ok (.if_icmp .ge 46, 3) := by decide +kernel
theorem dX7_string_42 : decode cX7_string 42 = .ok (.iinc 4 1, 3) := by decide +kernel
theorem dX7_string_45 : decode cX7_string 45 = .ok (.aload_n 0, 1) := by decide +kernel
theorem dX7_string_46 : decode cX7_string 46 = .ok (.iload 4, 2) := by decide +kernel
theorem dX7_string_48 : decode cX7_string 48 = .ok (.invokevirtual 122, 3) := by decide +kernel
theorem dX7_string_51 : decode cX7_string 51 = .ok (.bipush 110, 2) := by decide +kernel
theorem dX7_string_53 : decode cX7_string 53 = .ok (.if_icmp .ne 8, 3) := by decide +kernel
theorem dX7_string_61 : decode cX7_string 61 = .ok (.aload_n 0, 1) := by decide +kernel
theorem dX7_string_62 : decode cX7_string 62 = .ok (.iload 4, 2) := by decide +kernel
theorem dX7_string_64 : decode cX7_string 64 = .ok (.invokevirtual 122, 3) := by decide +kernel
theorem dX7_string_67 : decode cX7_string 67 = .ok (.bipush 116, 2) := by decide +kernel
theorem dX7_string_69 : decode cX7_string 69 = .ok (.if_icmp .ne 8, 3) := by decide +kernel
theorem dX7_string_77 : decode cX7_string 77 = .ok (.aload_n 0, 1) := by decide +kernel
theorem dX7_string_78 : decode cX7_string 78 = .ok (.iload 4, 2) := by decide +kernel
theorem dX7_string_80 : decode cX7_string 80 = .ok (.invokevirtual 122, 3) := by decide +kernel
theorem dX7_string_83 : decode cX7_string 83 = .ok (.istore 5, 2) := by decide +kernel
theorem dX7_string_72 : decode cX7_string 72 = .ok (.bipush 9, 2) := by decide +kernel
theorem dX7_string_74 : decode cX7_string 74 = .ok (.goto 9, 3) := by decide +kernel
theorem dX7_string_56 : decode cX7_string 56 = .ok (.bipush 10, 2) := by decide +kernel
theorem dX7_string_58 : decode cX7_string 58 = .ok (.goto 25, 3) := by decide +kernel
theorem dX10_startConstant_0 : decode cX10_startConstant 0 = .ok (.aload_n 0, 1) := by decide +kernel
theorem dX10_startConstant_1 : decode cX10_startConstant 1 = .ok (.iconst 2, 1) := by decide +kernel
theorem dX10_startConstant_2 : decode cX10_startConstant 2 = .ok (.iconst (-1), 1) := by decide +kernel
theorem dX10_startConstant_3 : decode cX10_startConstant 3 = .ok (.iconst (-1), 1) := by decide +kernel
theorem dX10_startConstant_4 : decode cX10_startConstant 4 = .ok (.invokevirtual 71, 3) := by decide +kernel
theorem dX10_startConstant_7 : decode cX10_startConstant 7 = .ok (.aload_n 0, 1) := by decide +kernel
theorem dX10_startConstant_8 : decode cX10_startConstant 8 = .ok (.iconst 0, 1) := by decide +kernel
theorem dX10_startConstant_9 : decode cX10_startConstant 9 = .ok (.putfield 30, 3) := by decide +kernel
theorem dX10_startConstant_12 : decode cX10_startConstant 12 = .ok (.return_, 1) := by decide +kernel
theorem dX7_blanksEnd_0 : decode cX7_blanksEnd 0 = .ok (.iload_n 1, 1) := by decide +kernel
theorem dX7_blanksEnd_1 : decode cX7_blanksEnd 1 = .ok (.istore_n 2, 1) := by decide +kernel
theorem dX7_blanksEnd_2 : decode cX7_blanksEnd 2 = .ok (.iload_n 2, 1) := by decide +kernel
theorem dX7_blanksEnd_3 : decode cX7_blanksEnd 3 = .ok (.ifCond .lt 59, 3) := by decide +kernel
theorem dX7_blanksEnd_62 : decode cX7_blanksEnd 62 = .ok (.iload_n 2, 1) := by decide +kernel
theorem dX7_blanksEnd_63 : decode cX7_blanksEnd 63 = .ok (.ireturn, 1) := by decide +kernel
theorem dX7_blanksEnd_6 : decode cX7_blanksEnd 6 = .ok (.iload_n 2, 1) := by decide +kernel
theorem dX7_blanksEnd_7 : decode cX7_blanksEnd 7 = .ok (.aload_n 0, 1) := by decide +kernel
theorem dX7_blanksEnd_8 : decode cX7_blanksEnd 8 = .ok (.getfield 26, 3) := by decide +kernel
theorem dX7_blanksEnd_11 : decode cX7_blanksEnd 11 = .ok (.if_icmp .ge 51, 3) := by decide +kernel
theorem dX7_blanksEnd_14 : decode cX7_blanksEnd 14 = .ok (.iload_n 2, 1) := by decide +kernel
theorem dX7_blanksEnd_15 : decode cX7_blanksEnd 15 = .ok (.aload_n 0, 1) := by decide +kernel
theorem dX7_blanksEnd_16 : decode cX7_blanksEnd 16 = .ok (.getfield 9, 3) := by decide +kernel
theorem dX7_blanksEnd_19 : decode cX7_blanksEnd 19 = .ok (.arraylength, 1) := by decide +kernel
theorem dX7_blanksEnd_20 : decode cX7_blanksEnd 20 = .ok (.if_icmp .ge 42, 3) := by decide +kernel
theorem dX7_blanksEnd_23 : decode cX7_blanksEnd 23 = .ok (.aload_n 0, 1) := by decide +kernel
theorem dX7_blanksEnd_24 : decode cX7_blanksEnd 24 = .ok (.getfield 9, 3) := by decide +kernel
theorem dX7_blanksEnd_27 : decode cX7_blanksEnd 27 = .ok (.iload_n 2, 1) := by decide +kernel
theorem dX7_blanksEnd_28 : decode cX7_blanksEnd 28 = .ok (.baload, 1) := by decide +kernel
theorem dX7_blanksEnd_29 : decode cX7_blanksEnd 29 = .ok (.bipush 32, 2) := by decide +kernel
theorem dX7_blanksEnd_31 : decode cX7_blanksEnd 31 = .ok (.if_icmp .eq 25, 3) := by decide +kernel
theorem dX7_blanksEnd_56 : decode cX7_blanksEnd 56 = .ok (.iinc 2 1, 3) := by decide +kernel
theorem dX7_blanksEnd_59 : decode cX7_blanksEnd 59 = .ok (.goto (-57), 3) := by decide +kernel
theorem dX7_blanksEnd_34 : decode cX7_blanksEnd 34 = .ok (.aload_n 0, 1) := by decide +kernel
theorem dX7_blanksEnd_35 : decode cX7_blanksEnd 35 = .ok (.getfield 9, 3) := by decide +kernel
theorem dX7_blanksEnd_38 : decode cX7_blanksEnd 38 = .ok (.iload_n 2, 1) := by decide +kernel
theorem dX7_blanksEnd_39 : decode cX7_blanksEnd 39 = .ok (.baload, 1) := by decide +kernel
theorem dX7_blanksEnd_40 : decode cX7_blanksEnd 40 = .ok (.bipush 9, 2) := by decide +kernel
theorem dX7_blanksEnd_42 : decode cX7_blanksEnd 42 = .ok (.if_icmp .eq 14, 3) := by decide +kernel
theorem dX7_blanksEnd_45 : decode cX7_blanksEnd 45 = .ok (.aload_n 0, 1) := by decide +kernel
theorem dX7_blanksEnd_46 : decode cX7_blanksEnd 46 = .ok (.getfield 9, 3) := by decide +kernel
theorem dX7_blanksEnd_49 : decode cX7_blanksEnd 49 = .ok (.iload_n 2, 1) := by decide +kernel
theorem dX7_blanksEnd_50 : decode cX7_blanksEnd 50 = .ok (.baload, 1) := by decide +kernel
theorem dX7_blanksEnd_51 : decode cX7_blanksEnd 51 = .ok (.bipush 10, 2) := by decide +kernel
theorem dX7_blanksEnd_53 : decode cX7_blanksEnd 53 = .ok (.if_icmp .ne 9, 3) := by decide +kernel
theorem dX10_isParamsAhead_0 : decode cX10_isParamsAhead 0 = .ok (.aload_n 0, 1) := by decide +kernel
theorem dX10_isParamsAhead_1 : decode cX10_isParamsAhead 1 = .ok (.getfield 58, 3) := by decide +kernel
theorem dX10_isParamsAhead_4 : decode cX10_isParamsAhead 4 = .ok (.getfield 75, 3) := by decide +kernel
theorem dX10_isParamsAhead_7 : decode cX10_isParamsAhead 7 = .ok (.istore_n 1, 1) := by decide +kernel
theorem dX10_isParamsAhead_8 : decode cX10_isParamsAhead 8 = .ok (.iconst 0, 1) := by decide +kernel
theorem dX10_isParamsAhead_9 : decode cX10_isParamsAhead 9 = .ok (.istore_n 2, 1) := by decide +kernel
theorem dX10_isParamsAhead_10 : decode cX10_isParamsAhead 10 = .ok (.iload_n 2, 1) := by decide +kernel
theorem dX10_isParamsAhead_11 : decode cX10_isParamsAhead 11 = .ok (.sipush 4000, 3) := by decide +kernel
theorem dX10_isParamsAhead_14 : decode cX10_isParamsAhead 14 = .ok (.if_icmp .ge 85, 3) := by decide +kernel
theorem dX10_isParamsAhead_99 : decode cX10_isParamsAhead 99 = .ok (.iconst 0, 1) := by decide +kernel
theorem dX10_isParamsAhead_100 : decode cX10_isParamsAhead 100 = .ok (.ireturn, 1) := by decide +kernel
theorem dX10_isParamsAhead_17 : decode cX10_isParamsAhead 17 = .ok (.aload_n 0, 1) := by decide +kernel
theorem dX10_isParamsAhead_18 : decode cX10_isParamsAhead 18 = .ok (.getfield 58, 3) := by decide +kernel
theorem dX10_isParamsAhead_21 : decode cX10_isParamsAhead 21 = .ok (.iload_n 1, 1) := by decide +kernel
theorem dX10_isParamsAhead_22 : decode cX10_isParamsAhead 22 = .ok (.invokevirtual 326, 3) := by decide +kernel
theorem dX10_isParamsAhead_25 : decode cX10_isParamsAhead 25 = .ok (.istore_n 1, 1) := by decide +kernel
theorem dX10_isParamsAhead_26 : decode cX10_isParamsAhead 26 = .ok (.aload_n 0, 1) := by decide +kernel
theorem dX10_isParamsAhead_27 : decode cX10_isParamsAhead 27 = .ok (.getfield 58, 3) := by decide +kernel
theorem dX10_isParamsAhead_30 : decode cX10_isParamsAhead 30 = .ok (.iload_n 1, 1) := by decide +kernel
theorem dX10_isParamsAhead_31 : decode cX10_isParamsAhead 31 = .ok (.invokevirtual 108, 3) := by decide +kernel
theorem dX10_isParamsAhead_34 : decode cX10_isParamsAhead 34 = .ok (.invokestatic 237, 3) := by decide +kernel
theorem dX10_isParamsAhead_37 : decode cX10_isParamsAhead 37 = .ok (.ifCond .ne 5, 3) := by decide +kernel
theorem dX10_isParamsAhead_42 : decode cX10_isParamsAhead 42 = .ok (.aload_n 0, 1) := by decide +kernel
theorem dX10_isParamsAhead_43 : decode cX10_isParamsAhead 43 = .ok (.getfield 58, 3) := by decide +kernel
theorem dX10_isParamsAhead_46 : decode cX10_isParamsAhead 46 = .ok (.aload_n 0, 1) := by decide +kernel
theorem dX10_isParamsAhead_47 : decode cX10_isParamsAhead 47 = .ok (.getfield 58, 3) := by decide +kernel
theorem dX10_isParamsAhead_50 : decode cX10_isParamsAhead 50 = .ok (.iload_n 1, 1) := by decide +kernel
theorem dX10_isParamsAhead_51 : decode cX10_isParamsAhead 51 = .ok (.invokevirtual 131, 3) := by decide +kernel
theorem dX10_isParamsAhead_54 : decode cX10_isParamsAhead 54 = .ok (.invokevirtual 326, 3) := by decide +kernel
theorem dX10_isParamsAhead_57 : decode cX10_isParamsAhead 57 = .ok (.istore_n 1, 1) := by decide +kernel
theorem dX10_isParamsAhead_58 : decode cX10_isParamsAhead 58 = .ok (.aload_n 0, 1) := by decide +kernel
theorem dX10_isParamsAhead_59 : decode cX10_isParamsAhead 59 = .ok (.getfield 58, 3) := by decide +kernel
theorem dX10_isParamsAhead_62 : decode cX10_isParamsAhead 62 = .ok (.iload_n 1, 1) := by decide +kernel
theorem dX10_isParamsAhead_63 : decode cX10_isParamsAhead 63 = .ok (.invokevirtual 108, 3) := by decide +kernel
theorem dX10_isParamsAhead_66 : decode cX10_isParamsAhead 66 = .ok (.bipush 44, 2) := by decide +kernel
theorem dX10_isParamsAhead_68 : decode cX10_isParamsAhead 68 = .ok (.if_icmp .eq 22, 3) := by decide +kernel
theorem dX10_isParamsAhead_90 : decode cX10_isParamsAhead 90 = .ok (.iinc 1 1, 3) := by decide +kernel
theorem dX10_isParamsAhead_93 : decode cX10_isParamsAhead 93 = .ok (.iinc 2 1, 3) := by decide +kernel
theorem dX10_isParamsAhead_96 : decode cX10_isParamsAhead 96 = .ok (.goto (-86), 3) := by decide +kernel
theorem dX10_isParamsAhead_71 : decode cX10_isParamsAhead 71 = .ok (.aload_n 0, 1) := by decide +kernel
theorem dX10_isParamsAhead_72 : decode cX10_isParamsAhead 72 = .ok (.getfield 58, 3) := by decide +kernel
theorem dX10_isParamsAhead_75 : decode cX10_isParamsAhead 75 = .ok (.iload_n 1, 1) := by decide +kernel
theorem dX10_isParamsAhead_76 : decode cX10_isParamsAhead 76 = .ok (.invokevirtual 108, 3) := by decide +kernel
theorem dX10_isParamsAhead_79 : decode cX10_isParamsAhead 79 = .ok (.bipush 124, 2) := by decide +kernel
theorem dX10_isParamsAhead_81 : decode cX10_isParamsAhead 81 = .ok (.if_icmp .ne 7, 3) := by decide +kernel
theorem dX10_isParamsAhead_89 : decode cX10_isParamsAhead 89 = .ok (.ireturn, 1) := by decide +kernel
theorem dX10_isParamsAhead_88 : decode cX10_isParamsAhead 88 = .ok (.iconst 0, 1) := by decide +kernel
theorem dX10_isParamsAhead_84 : decode cX10_isParamsAhead 84 = .ok (.iconst 1, 1) := by decide +kernel
theorem dX10_isParamsAhead_85 : decode cX10_isParamsAhead 85 = .ok (.goto 4, 3) := by decide +kernel
theorem dX10_isParamsAhead_40 : decode cX10_isParamsAhead 40 = .ok (.iconst 0, 1) := by decide +kernel
theorem dX10_isParamsAhead_41 : decode cX10_isParamsAhead 41 = .ok (.ireturn, 1) := by decide +kernel
theorem dX7_blanks_0 : decode cX7_blanks 0 = .ok (.aload_n 0, 1) := by decide +kernel
theorem dX7_blanks_1 : decode cX7_blanks 1 = .ok (.getfield 30, 3) := by decide +kernel
theorem dX7_blanks_4 : decode cX7_blanks 4 = .ok (.ifCond .lt 81, 3) := by decide +kernel
theorem dX7_blanks_85 : decode cX7_blanks 85 = .ok (.return_, 1) := by decide +kernel
theorem dX7_blanks_7 : decode cX7_blanks 7 = .ok (.aload_n 0, 1) := by decide +kernel
theorem dX7_blanks_8 : decode cX7_blanks 8 = .ok (.getfield 30, 3) := by decide +kernel
theorem dX7_blanks_11 : decode cX7_blanks 11 = .ok (.aload_n 0, 1) := by decide +kernel
theorem dX7_blanks_12 : decode cX7_blanks 12 = .ok (.getfield 26, 3) := by decide +kernel
theorem dX7_blanks_15 : decode cX7_blanks 15 = .ok (.if_icmp .ge 70, 3) := by decide +kernel
theorem dX7_blanks_18 : decode cX7_blanks 18 = .ok (.aload_n 0, 1) := by decide +kernel
theorem dX7_blanks_19 : decode cX7_blanks 19 = .ok (.getfield 30, 3) := by decide +kernel
theorem dX7_blanks_22 : decode cX7_blanks 22 = .ok (.aload_n 0, 1) := by decide +kernel
theorem dX7_blanks_23 : decode cX7_blanks 23 = .ok (.getfield 9, 3) := by decide +kernel
theorem dX7_blanks_26 : decode cX7_blanks 26 = .ok (.arraylength, 1) := by decide +kernel
theorem dX7_blanks_27 : decode cX7_blanks 27 = .ok (.if_icmp .ge 58, 3) := by decide +kernel
theorem dX7_blanks_30 : decode cX7_blanks 30 = .ok (.aload_n 0, 1) := by decide +kernel
theorem dX7_blanks_31 : decode cX7_blanks 31 = .ok (.getfield 9, 3) := by decide +kernel
theorem dX7_blanks_34 : decode cX7_blanks 34 = .ok (.aload_n 0, 1) := by decide +kernel
theorem dX7_blanks_35 : decode cX7_blanks 35 = .ok (.getfield 30, 3) := by decide +kernel
theorem dX7_blanks_38 : decode cX7_blanks 38 = .ok (.baload, 1) := by decide +kernel
theorem dX7_blanks_39 : decode cX7_blanks 39 = .ok (.bipush 32, 2) := by decide +kernel
theorem dX7_blanks_41 : decode cX7_blanks 41 = .ok (.if_icmp .eq 31, 3) := by decide +kernel
theorem dX7_blanks_72 : decode cX7_blanks 72 = .ok (.aload_n 0, 1) := by decide +kernel
theorem dX7_blanks_73 : decode cX7_blanks 73 = .ok (.dup, 1) := by decide +kernel
theorem dX7_blanks_74 : decode cX7_blanks 74 = .ok (.getfield 30, 3) := by decide +kernel
theorem dX7_blanks_77 : decode cX7_blanks 77 = .ok (.iconst 1, 1) := by decide +kernel
theorem dX7_blanks_78 : decode cX7_blanks 78 = .ok (.iadd, 1) := by decide +kernel
theorem dX7_blanks_79 : decode cX7_blanks 79 = .ok (.putfield 30, 3) := by decide +kernel
theorem dX7_blanks_82 : decode cX7_blanks 82 = .ok (.goto (-82), 3) := by decide +kernel
theorem dX7_blanks_44 : decode cX7_blanks 44 = .ok (.aload_n 0, 1) := by decide +kernel
theorem dX7_blanks_45 : decode cX7_blanks 45 = .ok (.getfield 9, 3) := by decide +kernel
theorem dX7_blanks_48 : decode cX7_blanks 48 = .ok (.aload_n 0, 1) := by decide +kernel
theorem dX7_blanks_49 : decode cX7_blanks 49 = .ok (.getfield 30, 3) := by decide +kernel
theorem dX7_blanks_52 : decode cX7_blanks 52 = .ok (.baload, 1) := by decide +kernel
theorem dX7_blanks_53 : decode cX7_blanks 53 = .ok (.bipush 9, 2) := by decide +kernel
theorem dX7_blanks_55 : decode cX7_blanks 55 = .ok (.if_icmp .eq 17, 3) := by decide +kernel
theorem dX7_blanks_58 : decode cX7_blanks 58 = .ok (.aload_n 0, 1) := by decide +kernel
theorem dX7_blanks_59 : decode cX7_blanks 59 = .ok (.getfield 9, 3) := by decide +kernel
theorem dX7_blanks_62 : decode cX7_blanks 62 = .ok (.aload_n 0, 1) := by decide +kernel
theorem dX7_blanks_63 : decode cX7_blanks 63 = .ok (.getfield 30, 3) := by decide +kernel
theorem dX7_blanks_66 : decode cX7_blanks 66 = .ok (.baload, 1) := by decide +kernel
theorem dX7_blanks_67 : decode cX7_blanks 67 = .ok (.bipush 10, 2) := by decide +kernel
theorem dX7_blanks_69 : decode cX7_blanks 69 = .ok (.if_icmp .ne 16, 3) := by decide +kernel
set_option maxRecDepth 20000 in
theorem kX7_peek (l : Launch) (G : zG) (T : tT) (κ : Nat → List Nat) (hst : l.stackTraces = false) (hE : tE G T κ) {a0 : Nat} (h0 : a0 ∈ κ 7) : tMi l G T yX7_peek cX7_peek 1 .int [] 0 0 0 0 [.ref a0] uT (uPi 0x0) := by
  refine tMi.intro hst rfl (Nat.le_of_ble_eq_true rfl) ?_
  intro w0 hw0 _ X hC hR hO hX
  refine z_aload_n hC (pc := 0) 0 dX7_peek_0 rfl rfl ?_
  refine u_get hC hw0 (pc := 1) zf7 5 (hE.o7 h0) rfl dX7_peek_1 zw122 (kk := fun vx3 tx3 fx3 => ?_)
  obtain ⟨x3, rfl⟩ := tx3
  have j43 : ∀ (x4 : Int32), zS X G 1 w0 [] 0 0 43 [.int x4] := by
    intro x4
    exact hR _ _ _ _ _ _ dX7_peek_43 rfl (Nat.le_of_ble_eq_true rfl) (Nat.le_of_ble_eq_true rfl) ⟨hw0, rfl, rfl, tKeep.rf⟩
  have j42 : zS X G 1 w0 [] 0 0 42 [] := by
    refine z_iconst hC (pc := 42) (v := (-1)) dX7_peek_42 (by decide) ?_
    exact j43 (-1)
  refine z_if_lt hC (pc := 4) 42 dX7_peek_4 (by decide) (fun c5 => ?_) (fun c5 => ?_)
  · refine z_lvs [] rfl ?_
    exact j42
  · refine z_aload_n hC (pc := 7) 0 dX7_peek_7 rfl rfl ?_
    refine u_getK hC (pc := 8) zf7 5 fx3 dX7_peek_8 zw122 (kk := ?_)
    refine z_aload_n hC (pc := 11) 0 dX7_peek_11 rfl rfl ?_
    refine u_get hC hw0 (pc := 12) zf7 4 (hE.o7 h0) rfl dX7_peek_12 zw119 (kk := fun vx6 tx6 fx6 => ?_)
    obtain ⟨x6, rfl⟩ := tx6
    refine z_icmp_ge hC (pc := 15) 42 dX7_peek_15 (by decide) (fun c7 => ?_) (fun c7 => ?_)
    · refine z_lvs [] rfl ?_
      exact j42
    · refine z_aload_n hC (pc := 18) 0 dX7_peek_18 rfl rfl ?_
      refine u_getK hC (pc := 19) zf7 5 fx3 dX7_peek_19 zw122 (kk := ?_)
      refine z_aload_n hC (pc := 22) 0 dX7_peek_22 rfl rfl ?_
      refine u_get hC hw0 (pc := 23) zf7 0 (hE.o7 h0) rfl dX7_peek_23 zw115 (kk := fun va8 ta8 fa8 => ?_)
      obtain ⟨a8, ma8, rfl⟩ := ta8
      obtain ⟨N9, hN9, AN9⟩ := hE.byts ma8
      refine u_alenB hC hw0 (pc := 26) (Or.inl AN9) dX7_peek_26 ?_
      refine z_icmp_ge hC (pc := 27) 42 dX7_peek_27 (by decide) (fun c10 => ?_) (fun c10 => ?_)
      · refine z_lvs [] rfl ?_
        exact j42
      · refine z_aload_n hC (pc := 30) 0 dX7_peek_30 rfl rfl ?_
        refine u_getK hC (pc := 31) zf7 0 fa8 dX7_peek_31 zw115 (kk := ?_)
        refine z_aload_n hC (pc := 34) 0 dX7_peek_34 rfl rfl ?_
        refine u_getK hC (pc := 35) zf7 5 fx3 dX7_peek_35 zw122 (kk := ?_)
        refine u_bald hC hw0 (pc := 38) (Or.inl AN9) dX7_peek_38 (t_inB hN9 c5 c10) (fun x11 => ?_)
        refine z_goto hC (pc := 39) 43 dX7_peek_39 (by decide) ?_
        refine z_lvs [] rfl ?_
        exact j43 x11
set_option maxRecDepth 20000 in
theorem kX7_at (l : Launch) (G : zG) (T : tT) (κ : Nat → List Nat) (hst : l.stackTraces = false) (hE : tE G T κ) {a0 : Nat} (h0 : a0 ∈ κ 7) {x1 : Int32} : tMi l G T yX7_at cX7_at 2 .int [] 0 0 0 0 [.ref a0, .int x1] uT (uPi 0x0) := by
  refine tMi.intro hst rfl (Nat.le_of_ble_eq_true rfl) ?_
  intro w0 hw0 _ X hC hR hO hX
  refine z_iload_n hC (pc := 0) 1 dX7_at_0 rfl rfl ?_
  have j31 : ∀ (x4 : Int32), zS X G 2 w0 [] 0 0 31 [.int x4] := by
    intro x4
    exact hR _ _ _ _ _ _ dX7_at_31 rfl (Nat.le_of_ble_eq_true rfl) (Nat.le_of_ble_eq_true rfl) ⟨hw0, rfl, rfl, tKeep.rf⟩
  have j30 : zS X G 2 w0 [] 0 0 30 [] := by
    refine z_iconst hC (pc := 30) (v := (-1)) dX7_at_30 (by decide) ?_
    exact j31 (-1)
  refine z_if_lt hC (pc := 1) 30 dX7_at_1 (by decide) (fun c5 => ?_) (fun c5 => ?_)
  · refine z_lvs [] rfl ?_
    exact j30
  · refine z_iload_n hC (pc := 4) 1 dX7_at_4 rfl rfl ?_
    refine z_aload_n hC (pc := 5) 0 dX7_at_5 rfl rfl ?_
    refine u_get hC hw0 (pc := 6) zf7 4 (hE.o7 h0) rfl dX7_at_6 zw119 (kk := fun vx6 tx6 fx6 => ?_)
    obtain ⟨x6, rfl⟩ := tx6
    refine z_icmp_ge hC (pc := 9) 30 dX7_at_9 (by decide) (fun c7 => ?_) (fun c7 => ?_)
    · refine z_lvs [] rfl ?_
      exact j30
    · refine z_iload_n hC (pc := 12) 1 dX7_at_12 rfl rfl ?_
      refine z_aload_n hC (pc := 13) 0 dX7_at_13 rfl rfl ?_
      refine u_get hC hw0 (pc := 14) zf7 0 (hE.o7 h0) rfl dX7_at_14 zw115 (kk := fun va8 ta8 fa8 => ?_)
      obtain ⟨a8, ma8, rfl⟩ := ta8
      obtain ⟨N9, hN9, AN9⟩ := hE.byts ma8
      refine u_alenB hC hw0 (pc := 17) (Or.inl AN9) dX7_at_17 ?_
      refine z_icmp_ge hC (pc := 18) 30 dX7_at_18 (by decide) (fun c10 => ?_) (fun c10 => ?_)
      · refine z_lvs [] rfl ?_
        exact j30
      · refine z_aload_n hC (pc := 21) 0 dX7_at_21 rfl rfl ?_
        refine u_getK hC (pc := 22) zf7 0 fa8 dX7_at_22 zw115 (kk := ?_)
        refine z_iload_n hC (pc := 25) 1 dX7_at_25 rfl rfl ?_
        refine u_bald hC hw0 (pc := 26) (Or.inl AN9) dX7_at_26 (t_inB hN9 c5 c10) (fun x11 => ?_)
        refine z_goto hC (pc := 27) 31 dX7_at_27 (by decide) ?_
        refine z_lvs [] rfl ?_
        exact j31 x11
set_option maxRecDepth 20000 in
theorem kX7_placeOf (l : Launch) (G : zG) (T : tT) (κ : Nat → List Nat) (hst : l.stackTraces = false) (hE : tE G T κ) {a0 : Nat} (h0 : a0 ∈ κ 7) {x1 : Int32} : tMi l G T yX7_placeOf cX7_placeOf 2 .int [] 0 0 0 0 [.ref a0, .int x1] uT (uPi 0x0) := by
  refine tMi.intro hst rfl (Nat.le_of_ble_eq_true rfl) ?_
  intro w0 hw0 _ X hC hR hO hX
  refine z_aload_n hC (pc := 0) 0 dX7_placeOf_0 rfl rfl ?_
  refine u_get hC hw0 (pc := 1) zf7 1 (hE.o7 h0) rfl dX7_placeOf_1 zw116 (kk := fun vx4 tx4 fx4 => ?_)
  obtain ⟨x4, rfl, zx4⟩ := t_zof tx4
  have j34 : ∀ (x5 : Int32), zS X G 2 w0 [] 0 0 34 [.int x5] := by
    intro x5
    exact hR _ _ _ _ _ _ dX7_placeOf_34 rfl (Nat.le_of_ble_eq_true rfl) (Nat.le_of_ble_eq_true rfl) ⟨hw0, rfl, rfl, tKeep.rf⟩
  refine z_if_eq hC (pc := 4) 11 dX7_placeOf_4 (by decide) (fun c6 => ?_) (fun c6 => ?_)
  · refine z_iload_n hC (pc := 11) 1 dX7_placeOf_11 rfl rfl ?_
    have j33 : zS X G 2 w0 [] 0 0 33 [] := by
      refine z_iconst hC (pc := 33) (v := 0) dX7_placeOf_33 (by decide) ?_
      exact j34 0
    refine z_if_lt hC (pc := 12) 33 dX7_placeOf_12 (by decide) (fun c7 => ?_) (fun c7 => ?_)
    · refine z_lvs [] rfl ?_
      exact j33
    · refine z_iload_n hC (pc := 15) 1 dX7_placeOf_15 rfl rfl ?_
      refine z_aload_n hC (pc := 16) 0 dX7_placeOf_16 rfl rfl ?_
      refine u_get hC hw0 (pc := 17) zf7 3 (hE.o7 h0) rfl dX7_placeOf_17 zw118 (kk := fun va8 ta8 fa8 => ?_)
      obtain ⟨a8, ma8, rfl⟩ := ta8
      obtain ⟨N9, hN9, AN9⟩ := hE.ints ma8
      refine u_alenI hC hw0 (pc := 20) AN9 dX7_placeOf_20 ?_
      refine z_icmp_ge hC (pc := 21) 33 dX7_placeOf_21 (by decide) (fun c10 => ?_) (fun c10 => ?_)
      · refine z_lvs [] rfl ?_
        exact j33
      · refine z_aload_n hC (pc := 24) 0 dX7_placeOf_24 rfl rfl ?_
        refine u_getK hC (pc := 25) zf7 3 fa8 dX7_placeOf_25 zw118 (kk := ?_)
        refine z_iload_n hC (pc := 28) 1 dX7_placeOf_28 rfl rfl ?_
        refine t_iald hC hw0 (pc := 29) AN9 dX7_placeOf_29 (t_inB hN9 c7 c10) (fun x11 _ => ?_)
        refine z_goto hC (pc := 30) 34 dX7_placeOf_30 (by decide) ?_
        refine z_lvs [] rfl ?_
        exact j34 x11
  · refine z_iload_n hC (pc := 7) 1 dX7_placeOf_7 rfl rfl ?_
    refine z_goto hC (pc := 8) 34 dX7_placeOf_8 (by decide) ?_
    refine z_lvs [] rfl ?_
    exact j34 x1
set_option maxRecDepth 20000 in
theorem kX7_stringEnd (l : Launch) (G : zG) (T : tT) (κ : Nat → List Nat) (hst : l.stackTraces = false) (hE : tE G T κ) {a0 : Nat} (h0 : a0 ∈ κ 7) : tMi l G T yX7_stringEnd cX7_stringEnd 3 .int ["java/lang/IllegalStateException"] 7 103 1 6 [.ref a0] uT (uPi 0x1800000000000000000000000000000000000000000000000000000000000000000000000000000000000000000000000000000000000000000) := by
  refine tMi.intro hst rfl (Nat.le_of_ble_eq_true rfl) ?_
  intro w0 hw0 _ X hC hR hO hX
  refine z_aload_n hC (pc := 0) 0 dX7_stringEnd_0 rfl rfl ?_
  obtain ⟨q3, hqq3⟩ := hE.o7 h0
  refine t_callVi hC hw0 (pc := 1) (As := []) (kX7_peek l G T κ hst hE h0) trivial dmX7_peek zf7 hqq3 dX7_stringEnd_1 zw1160 rfl rfl (Nat.le_of_ble_eq_true rfl) (Nat.le_of_ble_eq_true rfl) (Nat.le_of_ble_eq_true rfl) (Nat.le_of_ble_eq_true rfl) (Nat.le_of_ble_eq_true rfl) (fun _ _ _ h => nomatch h) (fun x5 cw4 nw4 w4 hw4 pw4 => ?_)
  obtain ⟨rfl, rfl, kw4⟩ := pw4
  refine z_istore_n hC (pc := 4) (lv' := [(1, .int x5), (0, .ref a0)]) dX7_stringEnd_4 rfl (by decide) rfl ?_
  refine z_aload_n hC (pc := 5) 1 dX7_stringEnd_5 rfl rfl ?_
  refine u_get hC hw4 (pc := 6) zf7 5 (hE.o7 h0) rfl dX7_stringEnd_6 zw122 (kk := fun vx6 tx6 fx6 => ?_)
  obtain ⟨x6, rfl⟩ := tx6
  refine z_iconst hC (pc := 9) (v := 1) dX7_stringEnd_9 (by decide) ?_
  refine z_iadd hC (pc := 10) (v := (x6 + 1)) dX7_stringEnd_10 rfl ?_
  refine z_istore_n hC (pc := 11) (lv' := [(2, .int (x6 + 1)), (1, .int x5), (0, .ref a0)]) dX7_stringEnd_11 rfl (by decide) rfl ?_
  have j12 : ∀ (d12 : Nat), ∀ (w7 : va_W), tW T w7 → tKeep 0x1800000000000000000000000000000000000000000000000000000000000000000000000000000000000000000000000000000000000000000 w4 w7 → ∀ (x8 : Int32), (2 ^ 31 - (x8 : Int32).toInt).toNat ≤ d12 → zS X G 3 w7 [(0, .ref a0), (1, .int x5), (2, .int x8)] 0 0 12 [] := by
    intro d12
    induction d12 with
    | zero => intro w7 hw7 kw7 x8 hd12; exact (t_zero hd12).elim
    | succ d12 ih12 =>
      intro w7 hw7 kw7 x8 hd12
      refine z_iload_n hC (pc := 12) 2 dX7_stringEnd_12 rfl rfl ?_
      refine z_aload_n hC (pc := 13) 0 dX7_stringEnd_13 rfl rfl ?_
      refine u_get hC hw7 (pc := 14) zf7 4 (hE.o7 h0) rfl dX7_stringEnd_14 zw119 (kk := fun vx9 tx9 fx9 => ?_)
      obtain ⟨x9, rfl⟩ := tx9
      have j55 : ∀ (w10 : va_W), tW T w10 → tKeep 0x0 w7 w10 → zS X G 3 w10 [(0, .ref a0), (2, .int x8)] 0 0 55 [] := by
        intro w10 hw10 kw10
        refine z_iload_n hC (pc := 55) 1 dX7_stringEnd_55 rfl rfl ?_
        refine z_aload_n hC (pc := 56) 0 dX7_stringEnd_56 rfl rfl ?_
        refine u_getK hC (pc := 57) zf7 4 (tKeep.F kw10 fx9 rfl) dX7_stringEnd_57 zw119 (kk := ?_)
        have j76 : ∀ (w11 : va_W), tW T w11 → tKeep 0x1800000000000000000000000000000000000000000000000000000000000000000000000000000000000000000000000000000000000000000 w10 w11 → zS X G 3 w11 [(2, .int x8)] 0 0 76 [] := by
          intro w11 hw11 kw11
          refine z_iload_n hC (pc := 76) 0 dX7_stringEnd_76 rfl rfl ?_
          exact hR _ _ _ _ _ _ dX7_stringEnd_77 rfl (Nat.le_of_ble_eq_true rfl) (Nat.le_of_ble_eq_true rfl) ⟨hw11, rfl, rfl, (tKeep.tr (tKeep.tr (tKeep.tr (tKeep.tr tKeep.rf kw4 rfl) kw7 rfl) kw10 rfl) kw11 rfl)⟩
        refine z_icmp_lt hC (pc := 60) 76 dX7_stringEnd_60 (by decide) (fun c12 => ?_) (fun c12 => ?_)
        · refine z_lvs [1] rfl ?_
          exact j76 w10 hw10 tKeep.rf
        · refine z_aload_n hC (pc := 63) 0 dX7_stringEnd_63 rfl rfl ?_
          refine z_iconst hC (pc := 64) (v := 1) dX7_stringEnd_64 (by decide) ?_
          refine z_aload_n hC (pc := 65) 0 dX7_stringEnd_65 rfl rfl ?_
          refine z_aload_n hC (pc := 66) 0 dX7_stringEnd_66 rfl rfl ?_
          refine u_getK hC (pc := 67) zf7 4 (tKeep.F kw10 fx9 rfl) dX7_stringEnd_67 zw119 (kk := ?_)
          refine t_callVi hC hw10 (pc := 70) (As := [.int x9]) (kX7_placeOf l G T κ hst hE h0) trivial dmX7_placeOf zf7 hqq3 dX7_stringEnd_70 zw1165 rfl rfl (Nat.le_of_ble_eq_true rfl) (Nat.le_of_ble_eq_true rfl) (Nat.le_of_ble_eq_true rfl) (Nat.le_of_ble_eq_true rfl) (Nat.le_of_ble_eq_true rfl) (fun _ _ _ h => nomatch h) (fun x14 cw13 nw13 w13 hw13 pw13 => ?_)
          obtain ⟨rfl, rfl, kw13⟩ := pw13
          refine t_callVv hC hw13 (pc := 73) (As := [.int 1, .int x14]) (kX7_fail l G T κ hst hE h0) trivial dmX7_fail zf7 hqq3 dX7_stringEnd_73 zw1020 rfl rfl (Nat.le_of_ble_eq_true rfl) (Nat.le_of_ble_eq_true rfl) (Nat.le_of_ble_eq_true rfl) (Nat.le_of_ble_eq_true rfl) (Nat.le_of_ble_eq_true rfl) (fun E w q hE hw => hO E w _ _ _ _ _ q hE (Nat.le_of_ble_eq_true rfl) (Nat.le_of_ble_eq_true rfl) hw) (fun cw15 nw15 w15 hw15 pw15 => ?_)
          obtain ⟨rfl, rfl, kw15⟩ := pw15
          refine z_lvs [1] rfl ?_
          exact j76 w15 hw15 (tKeep.tr (tKeep.tr tKeep.rf kw13 rfl) kw15 rfl)
      refine z_icmp_ge hC (pc := 17) 55 dX7_stringEnd_17 (by decide) (fun c17 => ?_) (fun c17 => ?_)
      · refine z_lvs [0, 2] rfl ?_
        exact j55 w7 hw7 tKeep.rf
      · refine z_aload_n hC (pc := 20) 0 dX7_stringEnd_20 rfl rfl ?_
        refine z_iload_n hC (pc := 21) 2 dX7_stringEnd_21 rfl rfl ?_
        refine t_callVi hC hw7 (pc := 22) (As := [.int x8]) (kX7_at l G T κ hst hE h0) trivial dmX7_at zf7 hqq3 dX7_stringEnd_22 zw1161 rfl rfl (Nat.le_of_ble_eq_true rfl) (Nat.le_of_ble_eq_true rfl) (Nat.le_of_ble_eq_true rfl) (Nat.le_of_ble_eq_true rfl) (Nat.le_of_ble_eq_true rfl) (fun _ _ _ h => nomatch h) (fun x19 cw18 nw18 w18 hw18 pw18 => ?_)
        obtain ⟨rfl, rfl, kw18⟩ := pw18
        refine z_iload_n hC (pc := 25) 1 dX7_stringEnd_25 rfl rfl ?_
        refine z_icmp_eq hC (pc := 26) 55 dX7_stringEnd_26 (by decide) (fun c20 => ?_) (fun c20 => ?_)
        · refine z_lvs [0, 2] rfl ?_
          exact j55 w18 hw18 (tKeep.tr tKeep.rf kw18 rfl)
        · refine z_aload_n hC (pc := 29) 0 dX7_stringEnd_29 rfl rfl ?_
          refine z_iload_n hC (pc := 30) 2 dX7_stringEnd_30 rfl rfl ?_
          refine t_callVi hC hw18 (pc := 31) (As := [.int x8]) (kX7_at l G T κ hst hE h0) trivial dmX7_at zf7 hqq3 dX7_stringEnd_31 zw1161 rfl rfl (Nat.le_of_ble_eq_true rfl) (Nat.le_of_ble_eq_true rfl) (Nat.le_of_ble_eq_true rfl) (Nat.le_of_ble_eq_true rfl) (Nat.le_of_ble_eq_true rfl) (fun _ _ _ h => nomatch h) (fun x22 cw21 nw21 w21 hw21 pw21 => ?_)
          obtain ⟨rfl, rfl, kw21⟩ := pw21
          refine z_bipush hC (pc := 34) (v := 10) dX7_stringEnd_34 (by decide) ?_
          have j49 : ∀ (w23 : va_W), tW T w23 → tKeep 0x1800000000000000000000000000000000000000000000000000000000000000000000000000000000000000000000000000000000000000000 w21 w23 → zS X G 3 w23 [(0, .ref a0), (1, .int x5), (2, .int x8)] 0 0 49 [] := by
            intro w23 hw23 kw23
            refine z_iinc hC (pc := 49) (v := (x8 + 1)) (lv' := [(2, .int (x8 + 1)), (0, .ref a0), (1, .int x5)]) 2 dX7_stringEnd_49 rfl (congrArg _ (by decide)) (by decide) rfl ?_
            refine z_goto hC (pc := 52) 12 dX7_stringEnd_52 (by decide) ?_
            refine z_lvs [1, 2, 0] rfl ?_
            exact ih12 w23 hw23 (tKeep.tr (tKeep.tr (tKeep.tr (tKeep.tr tKeep.rf kw7 rfl) kw18 rfl) kw21 rfl) kw23 rfl) (x8 + 1) (t_up (Int32.not_le.mp c17) hd12)
          refine z_icmp_ne hC (pc := 36) 49 dX7_stringEnd_36 (by decide) (fun c24 => ?_) (fun c24 => ?_)
          · exact j49 w21 hw21 tKeep.rf
          · refine z_aload_n hC (pc := 39) 0 dX7_stringEnd_39 rfl rfl ?_
            refine z_iconst hC (pc := 40) (v := 1) dX7_stringEnd_40 (by decide) ?_
            refine z_aload_n hC (pc := 41) 0 dX7_stringEnd_41 rfl rfl ?_
            refine z_iload_n hC (pc := 42) 2 dX7_stringEnd_42 rfl rfl ?_
            refine t_callVi hC hw21 (pc := 43) (As := [.int x8]) (kX7_placeOf l G T κ hst hE h0) trivial dmX7_placeOf zf7 hqq3 dX7_stringEnd_43 zw1165 rfl rfl (Nat.le_of_ble_eq_true rfl) (Nat.le_of_ble_eq_true rfl) (Nat.le_of_ble_eq_true rfl) (Nat.le_of_ble_eq_true rfl) (Nat.le_of_ble_eq_true rfl) (fun _ _ _ h => nomatch h) (fun x26 cw25 nw25 w25 hw25 pw25 => ?_)
            obtain ⟨rfl, rfl, kw25⟩ := pw25
            refine t_callVv hC hw25 (pc := 46) (As := [.int 1, .int x26]) (kX7_fail l G T κ hst hE h0) trivial dmX7_fail zf7 hqq3 dX7_stringEnd_46 zw1020 rfl rfl (Nat.le_of_ble_eq_true rfl) (Nat.le_of_ble_eq_true rfl) (Nat.le_of_ble_eq_true rfl) (Nat.le_of_ble_eq_true rfl) (Nat.le_of_ble_eq_true rfl) (fun E w q hE hw => hO E w _ _ _ _ _ q hE (Nat.le_of_ble_eq_true rfl) (Nat.le_of_ble_eq_true rfl) hw) (fun cw27 nw27 w27 hw27 pw27 => ?_)
            obtain ⟨rfl, rfl, kw27⟩ := pw27
            exact j49 w27 hw27 (tKeep.tr (tKeep.tr tKeep.rf kw25 rfl) kw27 rfl)
  refine z_lvs [2, 1, 0] rfl ?_
  exact j12 _ w4 hw4 tKeep.rf (x6 + 1) (Nat.le_refl _)
set_option maxRecDepth 20000 in
theorem kX12_isRow (l : Launch) (G : zG) (T : tT) (κ : Nat → List Nat) (hst : l.stackTraces = false) (hE : tE G T κ) {x0 : Int32} : tMi l G T yX12_isRow cX12_isRow 1 .boolean [] 0 0 0 0 [.int x0] uT (uPz 0x0) := by
  refine tMi.intro hst rfl (Nat.le_of_ble_eq_true rfl) ?_
  intro w0 hw0 _ X hC hR hO hX
  refine z_iload_n hC (pc := 0) 0 dX12_isRow_0 rfl rfl ?_
  refine z_bipush hC (pc := 1) (v := 97) dX12_isRow_1 (by decide) ?_
  have j47 : ∀ (x3 : Int32), tZ (.int x3) → zS X G 1 w0 [] 0 0 47 [.int x3] := by
    intro x3 zx3
    exact hR _ _ _ _ _ _ dX12_isRow_47 (t_nZ zx3) (Nat.le_of_ble_eq_true rfl) (Nat.le_of_ble_eq_true rfl) ⟨hw0, rfl, rfl, tKeep.rf, zx3⟩
  have j42 : zS X G 1 w0 [] 0 0 42 [] := by
    refine z_iconst hC (pc := 42) (v := 1) dX12_isRow_42 (by decide) ?_
    refine z_goto hC (pc := 43) 47 dX12_isRow_43 (by decide) ?_
    exact j47 1 (Or.inr rfl)
  have j12 : zS X G 1 w0 [(0, .int x0)] 0 0 12 [] := by
    refine z_iload_n hC (pc := 12) 0 dX12_isRow_12 rfl rfl ?_
    refine z_bipush hC (pc := 13) (v := 65) dX12_isRow_13 (by decide) ?_
    have j24 : zS X G 1 w0 [(0, .int x0)] 0 0 24 [] := by
      refine z_iload_n hC (pc := 24) 0 dX12_isRow_24 rfl rfl ?_
      refine z_bipush hC (pc := 25) (v := 95) dX12_isRow_25 (by decide) ?_
      refine z_icmp_eq hC (pc := 27) 42 dX12_isRow_27 (by decide) (fun c4 => ?_) (fun c4 => ?_)
      · refine z_lvs [] rfl ?_
        exact j42
      · refine z_iload_n hC (pc := 30) 0 dX12_isRow_30 rfl rfl ?_
        refine z_bipush hC (pc := 31) (v := 48) dX12_isRow_31 (by decide) ?_
        have j46 : zS X G 1 w0 [] 0 0 46 [] := by
          refine z_iconst hC (pc := 46) (v := 0) dX12_isRow_46 (by decide) ?_
          exact j47 0 (Or.inl rfl)
        refine z_icmp_lt hC (pc := 33) 46 dX12_isRow_33 (by decide) (fun c5 => ?_) (fun c5 => ?_)
        · refine z_lvs [] rfl ?_
          exact j46
        · refine z_iload_n hC (pc := 36) 0 dX12_isRow_36 rfl rfl ?_
          refine z_bipush hC (pc := 37) (v := 57) dX12_isRow_37 (by decide) ?_
          refine z_icmp_gt hC (pc := 39) 46 dX12_isRow_39 (by decide) (fun c6 => ?_) (fun c6 => ?_)
          · refine z_lvs [] rfl ?_
            exact j46
          · refine z_lvs [] rfl ?_
            exact j42
    refine z_icmp_lt hC (pc := 15) 24 dX12_isRow_15 (by decide) (fun c7 => ?_) (fun c7 => ?_)
    · exact j24
    · refine z_iload_n hC (pc := 18) 0 dX12_isRow_18 rfl rfl ?_
      refine z_bipush hC (pc := 19) (v := 90) dX12_isRow_19 (by decide) ?_
      refine z_icmp_le hC (pc := 21) 42 dX12_isRow_21 (by decide) (fun c8 => ?_) (fun c8 => ?_)
      · refine z_lvs [] rfl ?_
        exact j42
      · exact j24
  refine z_icmp_lt hC (pc := 3) 12 dX12_isRow_3 (by decide) (fun c9 => ?_) (fun c9 => ?_)
  · exact j12
  · refine z_iload_n hC (pc := 6) 0 dX12_isRow_6 rfl rfl ?_
    refine z_bipush hC (pc := 7) (v := 122) dX12_isRow_7 (by decide) ?_
    refine z_icmp_le hC (pc := 9) 42 dX12_isRow_9 (by decide) (fun c10 => ?_) (fun c10 => ?_)
    · refine z_lvs [] rfl ?_
      exact j42
    · exact j12
set_option maxRecDepth 20000 in
theorem kX7_isBecomes (l : Launch) (G : zG) (T : tT) (κ : Nat → List Nat) (hst : l.stackTraces = false) (hE : tE G T κ) {a0 : Nat} (h0 : a0 ∈ κ 7) : tMi l G T yX7_isBecomes cX7_isBecomes 1 .boolean [] 1 21 0 0 [.ref a0] uT (uPz 0x0) := by
  refine tMi.intro hst rfl (Nat.le_of_ble_eq_true rfl) ?_
  intro w0 hw0 _ X hC hR hO hX
  refine z_aload_n hC (pc := 0) 0 dX7_isBecomes_0 rfl rfl ?_
  refine z_aload_n hC (pc := 1) 0 dX7_isBecomes_1 rfl rfl ?_
  refine u_get hC hw0 (pc := 2) zf7 5 (hE.o7 h0) rfl dX7_isBecomes_2 zw122 (kk := fun vx3 tx3 fx3 => ?_)
  obtain ⟨x3, rfl⟩ := tx3
  obtain ⟨q4, hqq4⟩ := hE.o7 h0
  refine t_callVi hC hw0 (pc := 5) (As := [.int x3]) (kX7_at l G T κ hst hE h0) trivial dmX7_at zf7 hqq4 dX7_isBecomes_5 zw1161 rfl rfl (Nat.le_of_ble_eq_true rfl) (Nat.le_of_ble_eq_true rfl) (Nat.le_of_ble_eq_true rfl) (Nat.le_of_ble_eq_true rfl) (Nat.le_of_ble_eq_true rfl) (fun _ _ _ h => nomatch h) (fun x6 cw5 nw5 w5 hw5 pw5 => ?_)
  obtain ⟨rfl, rfl, kw5⟩ := pw5
  refine z_bipush hC (pc := 8) (v := 58) dX7_isBecomes_8 (by decide) ?_
  have j48 : ∀ (w7 : va_W), tW T w7 → tKeep 0x0 w5 w7 → ∀ (x8 : Int32), tZ (.int x8) → zS X G 1 w7 [] 0 0 48 [.int x8] := by
    intro w7 hw7 kw7 x8 zx8
    exact hR _ _ _ _ _ _ dX7_isBecomes_48 (t_nZ zx8) (Nat.le_of_ble_eq_true rfl) (Nat.le_of_ble_eq_true rfl) ⟨hw7, rfl, rfl, (tKeep.tr (tKeep.tr tKeep.rf kw5 rfl) kw7 rfl), zx8⟩
  have j47 : ∀ (w9 : va_W), tW T w9 → tKeep 0x0 w5 w9 → zS X G 1 w9 [] 0 0 47 [] := by
    intro w9 hw9 kw9
    refine z_iconst hC (pc := 47) (v := 0) dX7_isBecomes_47 (by decide) ?_
    exact j48 w9 hw9 (tKeep.tr tKeep.rf kw9 rfl) 0 (Or.inl rfl)
  refine z_icmp_ne hC (pc := 10) 47 dX7_isBecomes_10 (by decide) (fun c10 => ?_) (fun c10 => ?_)
  · refine z_lvs [] rfl ?_
    exact j47 w5 hw5 tKeep.rf
  · refine z_aload_n hC (pc := 13) 0 dX7_isBecomes_13 rfl rfl ?_
    refine z_aload_n hC (pc := 14) 0 dX7_isBecomes_14 rfl rfl ?_
    refine u_getK hC (pc := 15) zf7 5 (tKeep.F kw5 fx3 rfl) dX7_isBecomes_15 zw122 (kk := ?_)
    refine z_iconst hC (pc := 18) (v := 1) dX7_isBecomes_18 (by decide) ?_
    refine z_iadd hC (pc := 19) (v := (x3 + 1)) dX7_isBecomes_19 rfl ?_
    refine t_callVi hC hw5 (pc := 20) (As := [.int (x3 + 1)]) (kX7_at l G T κ hst hE h0) trivial dmX7_at zf7 hqq4 dX7_isBecomes_20 zw1161 rfl rfl (Nat.le_of_ble_eq_true rfl) (Nat.le_of_ble_eq_true rfl) (Nat.le_of_ble_eq_true rfl) (Nat.le_of_ble_eq_true rfl) (Nat.le_of_ble_eq_true rfl) (fun _ _ _ h => nomatch h) (fun x12 cw11 nw11 w11 hw11 pw11 => ?_)
    obtain ⟨rfl, rfl, kw11⟩ := pw11
    refine z_bipush hC (pc := 23) (v := 58) dX7_isBecomes_23 (by decide) ?_
    refine z_icmp_ne hC (pc := 25) 47 dX7_isBecomes_25 (by decide) (fun c13 => ?_) (fun c13 => ?_)
    · refine z_lvs [] rfl ?_
      exact j47 w11 hw11 (tKeep.tr tKeep.rf kw11 rfl)
    · refine z_aload_n hC (pc := 28) 0 dX7_isBecomes_28 rfl rfl ?_
      refine z_aload_n hC (pc := 29) 0 dX7_isBecomes_29 rfl rfl ?_
      refine u_getK hC (pc := 30) zf7 5 (tKeep.F kw11 (tKeep.F kw5 fx3 rfl) rfl) dX7_isBecomes_30 zw122 (kk := ?_)
      refine z_iconst hC (pc := 33) (v := 2) dX7_isBecomes_33 (by decide) ?_
      refine z_iadd hC (pc := 34) (v := (x3 + 2)) dX7_isBecomes_34 rfl ?_
      refine t_callVi hC hw11 (pc := 35) (As := [.int (x3 + 2)]) (kX7_at l G T κ hst hE h0) trivial dmX7_at zf7 hqq4 dX7_isBecomes_35 zw1161 rfl rfl (Nat.le_of_ble_eq_true rfl) (Nat.le_of_ble_eq_true rfl) (Nat.le_of_ble_eq_true rfl) (Nat.le_of_ble_eq_true rfl) (Nat.le_of_ble_eq_true rfl) (fun _ _ _ h => nomatch h) (fun x15 cw14 nw14 w14 hw14 pw14 => ?_)
      obtain ⟨rfl, rfl, kw14⟩ := pw14
      refine z_bipush hC (pc := 38) (v := 61) dX7_isBecomes_38 (by decide) ?_
      refine z_icmp_ne hC (pc := 40) 47 dX7_isBecomes_40 (by decide) (fun c16 => ?_) (fun c16 => ?_)
      · refine z_lvs [] rfl ?_
        exact j47 w14 hw14 (tKeep.tr (tKeep.tr tKeep.rf kw11 rfl) kw14 rfl)
      · refine z_iconst hC (pc := 43) (v := 1) dX7_isBecomes_43 (by decide) ?_
        refine z_goto hC (pc := 44) 48 dX7_isBecomes_44 (by decide) ?_
        refine z_lvs [] rfl ?_
        exact j48 w14 hw14 (tKeep.tr (tKeep.tr tKeep.rf kw11 rfl) kw14 rfl) 1 (Or.inr rfl)
set_option maxRecDepth 20000 in
theorem kX1_isOnTheWay (l : Launch) (G : zG) (T : tT) (κ : Nat → List Nat) (hst : l.stackTraces = false) (hE : tE G T κ) {a0 : Nat} (h0 : a0 ∈ κ 1) {x1 : Int32} : tMi l G T yX1_isOnTheWay cX1_isOnTheWay 3 .boolean [] 1 21 0 0 [.ref a0, .int x1] uT (uPz 0x0) := by
  refine tMi.intro hst rfl (Nat.le_of_ble_eq_true rfl) ?_
  intro w0 hw0 _ X hC hR hO hX
  refine z_iconst hC (pc := 0) (v := 0) dX1_isOnTheWay_0 (by decide) ?_
  refine z_istore_n hC (pc := 1) (lv' := [(2, .int 0), (0, .ref a0), (1, .int x1)]) dX1_isOnTheWay_1 rfl (by decide) rfl ?_
  have j2 : ∀ (d2 : Nat), ∀ (w4 : va_W), tW T w4 → tKeep 0x0 w0 w4 → ∀ (x5 : Int32), ¬ x5 < 0 → (2 ^ 31 - (x5 : Int32).toInt).toNat ≤ d2 → zS X G 3 w4 [(0, .ref a0), (1, .int x1), (2, .int x5)] 0 0 2 [] := by
    intro d2
    induction d2 with
    | zero => intro w4 hw4 kw4 x5 v6 hd2; exact (t_zero hd2).elim
    | succ d2 ih2 =>
      intro w4 hw4 kw4 x5 v6 hd2
      refine z_iload_n hC (pc := 2) 2 dX1_isOnTheWay_2 rfl rfl ?_
      refine z_aload_n hC (pc := 3) 0 dX1_isOnTheWay_3 rfl rfl ?_
      refine u_get hC hw4 (pc := 4) zf1 14 (hE.o1 h0) rfl dX1_isOnTheWay_4 zw398 (kk := fun vx7 tx7 fx7 => ?_)
      obtain ⟨x7, rfl⟩ := tx7
      refine z_icmp_ge hC (pc := 7) 30 dX1_isOnTheWay_7 (by decide) (fun c8 => ?_) (fun c8 => ?_)
      · refine z_iconst hC (pc := 30) (v := 0) dX1_isOnTheWay_30 (by decide) ?_
        exact hR _ _ _ _ _ _ dX1_isOnTheWay_31 rfl (Nat.le_of_ble_eq_true rfl) (Nat.le_of_ble_eq_true rfl) ⟨hw4, rfl, rfl, (tKeep.tr tKeep.rf kw4 rfl), (Or.inl rfl)⟩
      · refine z_aload_n hC (pc := 10) 0 dX1_isOnTheWay_10 rfl rfl ?_
        refine u_get hC hw4 (pc := 11) zf1 12 (hE.o1 h0) rfl dX1_isOnTheWay_11 zw396 (kk := fun va9 ta9 fa9 => ?_)
        obtain ⟨a9, ma9, rfl⟩ := ta9
        refine z_iload_n hC (pc := 14) 2 dX1_isOnTheWay_14 rfl rfl ?_
        refine t_callSNi hC hw4 (pc := 15) (As := [.ref a9, .int x5]) (kX12_get l G T κ hst hE ma9) trivial dmX12_get dX1_isOnTheWay_15 zw999 rfl rfl (Nat.le_of_ble_eq_true rfl) (Nat.le_of_ble_eq_true rfl) (Nat.le_of_ble_eq_true rfl) (Nat.le_of_ble_eq_true rfl) (Nat.le_of_ble_eq_true rfl) (fun _ _ _ h => nomatch h) (fun x11 cw10 nw10 w10 hw10 pw10 => ?_)
        obtain ⟨rfl, rfl, kw10⟩ := pw10
        refine z_iload_n hC (pc := 18) 1 dX1_isOnTheWay_18 rfl rfl ?_
        refine z_icmp_ne hC (pc := 19) 24 dX1_isOnTheWay_19 (by decide) (fun c12 => ?_) (fun c12 => ?_)
        · refine z_iinc hC (pc := 24) (v := (x5 + 1)) (lv' := [(2, .int (x5 + 1)), (0, .ref a0), (1, .int x1)]) 2 dX1_isOnTheWay_24 rfl (congrArg _ (by decide)) (by decide) rfl ?_
          refine z_goto hC (pc := 27) 2 dX1_isOnTheWay_27 (by decide) ?_
          refine z_lvs [1, 2, 0] rfl ?_
          exact ih2 w10 hw10 (tKeep.tr (tKeep.tr tKeep.rf kw4 rfl) kw10 rfl) (x5 + 1) (t_nnI v6 (Int32.not_le.mp c8)) (t_up (Int32.not_le.mp c8) hd2)
        · refine z_iconst hC (pc := 22) (v := 1) dX1_isOnTheWay_22 (by decide) ?_
          exact hR _ _ _ _ _ _ dX1_isOnTheWay_23 rfl (Nat.le_of_ble_eq_true rfl) (Nat.le_of_ble_eq_true rfl) ⟨hw10, rfl, rfl, (tKeep.tr (tKeep.tr tKeep.rf kw4 rfl) kw10 rfl), (Or.inr rfl)⟩
  refine z_lvs [1, 2, 0] rfl ?_
  exact j2 _ w0 hw0 tKeep.rf 0 (by decide) (Nat.le_refl _)
set_option maxRecDepth 20000 in
theorem kX4_note (l : Launch) (G : zG) (T : tT) (κ : Nat → List Nat) (hst : l.stackTraces = false) (hE : tE G T κ) {a0 : Nat} (h0 : a0 ∈ κ 4) {x1 : Int32} {x2 : Int32} : tMv l G T yX4_note cX4_note 5 [] 1 22 0 0 [.ref a0, .int x1, .int x2] uT (uPv 0x0) := by
  refine tMv.intro hst rfl (Nat.le_of_ble_eq_true rfl) ?_
  intro w0 hw0 _ X hC hR hO hX
  refine z_aload_n hC (pc := 0) 0 dX4_note_0 rfl rfl ?_
  refine u_get hC hw0 (pc := 1) zf4 1 (hE.o4 h0) rfl dX4_note_1 zw208 (kk := fun va5 ta5 fa5 => ?_)
  obtain ⟨a5, ma5, rfl⟩ := ta5
  refine z_iload_n hC (pc := 4) 1 dX4_note_4 rfl rfl ?_
  refine t_callSNi hC hw0 (pc := 5) (As := [.ref a5, .int x1]) (kX12_get l G T κ hst hE ma5) trivial dmX12_get dX4_note_5 zw992 rfl rfl (Nat.le_of_ble_eq_true rfl) (Nat.le_of_ble_eq_true rfl) (Nat.le_of_ble_eq_true rfl) (Nat.le_of_ble_eq_true rfl) (Nat.le_of_ble_eq_true rfl) (fun _ _ _ h => nomatch h) (fun x7 cw6 nw6 w6 hw6 pw6 => ?_)
  obtain ⟨rfl, rfl, kw6⟩ := pw6
  refine z_istore_n hC (pc := 8) (lv' := [(3, .int x7), (0, .ref a0), (1, .int x1), (2, .int x2)]) dX4_note_8 rfl (by decide) rfl ?_
  refine z_iconst hC (pc := 9) (v := 0) dX4_note_9 (by decide) ?_
  refine z_istore hC (pc := 10) (lv' := [(4, .int 0), (3, .int x7), (0, .ref a0), (1, .int x1), (2, .int x2)]) dX4_note_10 (by decide) rfl ?_
  have j12 : ∀ (d12 : Nat), ∀ (w8 : va_W), tW T w8 → tKeep 0x0 w6 w8 → ∀ (x9 : Int32), ¬ x9 < 0 → (2 ^ 31 - (x9 : Int32).toInt).toNat ≤ d12 → zS X G 5 w8 [(0, .ref a0), (1, .int x1), (2, .int x2), (3, .int x7), (4, .int x9)] 0 0 12 [] := by
    intro d12
    induction d12 with
    | zero => intro w8 hw8 kw8 x9 v10 hd12; exact (t_zero hd12).elim
    | succ d12 ih12 =>
      intro w8 hw8 kw8 x9 v10 hd12
      refine z_iload hC (pc := 12) 4 dX4_note_12 rfl ?_
      refine z_iload_n hC (pc := 14) 3 dX4_note_14 rfl rfl ?_
      refine z_icmp_ge hC (pc := 15) 43 dX4_note_15 (by decide) (fun c11 => ?_) (fun c11 => ?_)
      · refine z_iload_n hC (pc := 43) 3 dX4_note_43 rfl rfl ?_
        refine z_bipush hC (pc := 44) (v := 8) dX4_note_44 (by decide) ?_
        have j74 : ∀ (w12 : va_W), tW T w12 → tKeep 0x0 w8 w12 → zS X G 5 w12 [] 0 0 74 [] := by
          intro w12 hw12 kw12
          exact hR _ _ _ _ _ dX4_note_74 (Nat.le_of_ble_eq_true rfl) (Nat.le_of_ble_eq_true rfl) ⟨hw12, rfl, rfl, (tKeep.tr (tKeep.tr (tKeep.tr tKeep.rf kw6 rfl) kw8 rfl) kw12 rfl)⟩
        refine z_icmp_ge hC (pc := 46) 74 dX4_note_46 (by decide) (fun c13 => ?_) (fun c13 => ?_)
        · refine z_lvs [] rfl ?_
          exact j74 w8 hw8 tKeep.rf
        · refine z_aload_n hC (pc := 49) 0 dX4_note_49 rfl rfl ?_
          refine u_get hC hw8 (pc := 50) zf4 0 (hE.o4 h0) rfl dX4_note_50 zw206 (kk := fun va14 ta14 fa14 => ?_)
          obtain ⟨a14, ma14, rfl⟩ := ta14
          refine z_bipush hC (pc := 53) (v := 8) dX4_note_53 (by decide) ?_
          refine z_iload_n hC (pc := 55) 1 dX4_note_55 rfl rfl ?_
          refine z_imul hC (pc := 56) (v := ((8 : Int32) * x1)) dX4_note_56 rfl ?_
          refine z_iload_n hC (pc := 57) 3 dX4_note_57 rfl rfl ?_
          refine z_iadd hC (pc := 58) (v := (((8 : Int32) * x1) + x7)) dX4_note_58 rfl ?_
          refine z_iload_n hC (pc := 59) 2 dX4_note_59 rfl rfl ?_
          refine t_callSNv hC hw8 (pc := 60) (As := [.ref a14, .int (((8 : Int32) * x1) + x7), .int x2]) (kX12_set l G T κ hst hE ma14) trivial dmX12_set dX4_note_60 zw998 rfl rfl (Nat.le_of_ble_eq_true rfl) (Nat.le_of_ble_eq_true rfl) (Nat.le_of_ble_eq_true rfl) (Nat.le_of_ble_eq_true rfl) (Nat.le_of_ble_eq_true rfl) (fun _ _ _ h => nomatch h) (fun cw15 nw15 w15 hw15 pw15 => ?_)
          obtain ⟨rfl, rfl, kw15⟩ := pw15
          refine z_aload_n hC (pc := 63) 0 dX4_note_63 rfl rfl ?_
          refine u_getK hC (pc := 64) zf4 1 (tKeep.F kw15 (tKeep.F kw8 (tKeep.F kw6 fa5 rfl) rfl) rfl) dX4_note_64 zw208 (kk := ?_)
          refine z_iload_n hC (pc := 67) 1 dX4_note_67 rfl rfl ?_
          refine z_iload_n hC (pc := 68) 3 dX4_note_68 rfl rfl ?_
          refine z_iconst hC (pc := 69) (v := 1) dX4_note_69 (by decide) ?_
          refine z_iadd hC (pc := 70) (v := (x7 + 1)) dX4_note_70 rfl ?_
          refine t_callSNv hC hw15 (pc := 71) (As := [.ref a5, .int x1, .int (x7 + 1)]) (kX12_set l G T κ hst hE ma5) trivial dmX12_set dX4_note_71 zw998 rfl rfl (Nat.le_of_ble_eq_true rfl) (Nat.le_of_ble_eq_true rfl) (Nat.le_of_ble_eq_true rfl) (Nat.le_of_ble_eq_true rfl) (Nat.le_of_ble_eq_true rfl) (fun _ _ _ h => nomatch h) (fun cw17 nw17 w17 hw17 pw17 => ?_)
          obtain ⟨rfl, rfl, kw17⟩ := pw17
          refine z_lvs [] rfl ?_
          exact j74 w17 hw17 (tKeep.tr (tKeep.tr tKeep.rf kw15 rfl) kw17 rfl)
      · refine z_aload_n hC (pc := 18) 0 dX4_note_18 rfl rfl ?_
        refine u_get hC hw8 (pc := 19) zf4 0 (hE.o4 h0) rfl dX4_note_19 zw206 (kk := fun va19 ta19 fa19 => ?_)
        obtain ⟨a19, ma19, rfl⟩ := ta19
        refine z_bipush hC (pc := 22) (v := 8) dX4_note_22 (by decide) ?_
        refine z_iload_n hC (pc := 24) 1 dX4_note_24 rfl rfl ?_
        refine z_imul hC (pc := 25) (v := ((8 : Int32) * x1)) dX4_note_25 rfl ?_
        refine z_iload hC (pc := 26) 4 dX4_note_26 rfl ?_
        refine z_iadd hC (pc := 28) (v := (((8 : Int32) * x1) + x9)) dX4_note_28 rfl ?_
        refine t_callSNi hC hw8 (pc := 29) (As := [.ref a19, .int (((8 : Int32) * x1) + x9)]) (kX12_get l G T κ hst hE ma19) trivial dmX12_get dX4_note_29 zw992 rfl rfl (Nat.le_of_ble_eq_true rfl) (Nat.le_of_ble_eq_true rfl) (Nat.le_of_ble_eq_true rfl) (Nat.le_of_ble_eq_true rfl) (Nat.le_of_ble_eq_true rfl) (fun _ _ _ h => nomatch h) (fun x21 cw20 nw20 w20 hw20 pw20 => ?_)
        obtain ⟨rfl, rfl, kw20⟩ := pw20
        refine z_iload_n hC (pc := 32) 2 dX4_note_32 rfl rfl ?_
        refine z_icmp_ne hC (pc := 33) 37 dX4_note_33 (by decide) (fun c22 => ?_) (fun c22 => ?_)
        · refine z_iinc hC (pc := 37) (v := (x9 + 1)) (lv' := [(4, .int (x9 + 1)), (0, .ref a0), (1, .int x1), (2, .int x2), (3, .int x7)]) 4 dX4_note_37 rfl (congrArg _ (by decide)) (by decide) rfl ?_
          refine z_goto hC (pc := 40) 12 dX4_note_40 (by decide) ?_
          refine z_lvs [1, 2, 3, 4, 0] rfl ?_
          exact ih12 w20 hw20 (tKeep.tr (tKeep.tr tKeep.rf kw8 rfl) kw20 rfl) (x9 + 1) (t_nnI v10 (Int32.not_le.mp c11)) (t_up (Int32.not_le.mp c11) hd12)
        · exact hR _ _ _ _ _ dX4_note_36 (Nat.le_of_ble_eq_true rfl) (Nat.le_of_ble_eq_true rfl) ⟨hw20, rfl, rfl, (tKeep.tr (tKeep.tr (tKeep.tr tKeep.rf kw6 rfl) kw8 rfl) kw20 rfl)⟩
  refine z_lvs [2, 3, 4, 1, 0] rfl ?_
  exact j12 _ w6 hw6 tKeep.rf 0 (by decide) (Nat.le_refl _)
set_option maxRecDepth 20000 in
theorem kX12_isLetter (l : Launch) (G : zG) (T : tT) (κ : Nat → List Nat) (hst : l.stackTraces = false) (hE : tE G T κ) {x0 : Int32} : tMi l G T yX12_isLetter cX12_isLetter 1 .boolean [] 0 0 0 0 [.int x0] uT (uPz 0x0) := by
  refine tMi.intro hst rfl (Nat.le_of_ble_eq_true rfl) ?_
  intro w0 hw0 _ X hC hR hO hX
  refine z_iload_n hC (pc := 0) 0 dX12_isLetter_0 rfl rfl ?_
  refine z_bipush hC (pc := 1) (v := 97) dX12_isLetter_1 (by decide) ?_
  have j35 : ∀ (x3 : Int32), tZ (.int x3) → zS X G 1 w0 [] 0 0 35 [.int x3] := by
    intro x3 zx3
    exact hR _ _ _ _ _ _ dX12_isLetter_35 (t_nZ zx3) (Nat.le_of_ble_eq_true rfl) (Nat.le_of_ble_eq_true rfl) ⟨hw0, rfl, rfl, tKeep.rf, zx3⟩
  have j30 : zS X G 1 w0 [] 0 0 30 [] := by
    refine z_iconst hC (pc := 30) (v := 1) dX12_isLetter_30 (by decide) ?_
    refine z_goto hC (pc := 31) 35 dX12_isLetter_31 (by decide) ?_
    exact j35 1 (Or.inr rfl)
  have j12 : zS X G 1 w0 [(0, .int x0)] 0 0 12 [] := by
    refine z_iload_n hC (pc := 12) 0 dX12_isLetter_12 rfl rfl ?_
    refine z_bipush hC (pc := 13) (v := 65) dX12_isLetter_13 (by decide) ?_
    have j24 : zS X G 1 w0 [(0, .int x0)] 0 0 24 [] := by
      refine z_iload_n hC (pc := 24) 0 dX12_isLetter_24 rfl rfl ?_
      refine z_bipush hC (pc := 25) (v := 95) dX12_isLetter_25 (by decide) ?_
      refine z_icmp_ne hC (pc := 27) 34 dX12_isLetter_27 (by decide) (fun c4 => ?_) (fun c4 => ?_)
      · refine z_iconst hC (pc := 34) (v := 0) dX12_isLetter_34 (by decide) ?_
        refine z_lvs [] rfl ?_
        exact j35 0 (Or.inl rfl)
      · refine z_lvs [] rfl ?_
        exact j30
    refine z_icmp_lt hC (pc := 15) 24 dX12_isLetter_15 (by decide) (fun c5 => ?_) (fun c5 => ?_)
    · exact j24
    · refine z_iload_n hC (pc := 18) 0 dX12_isLetter_18 rfl rfl ?_
      refine z_bipush hC (pc := 19) (v := 90) dX12_isLetter_19 (by decide) ?_
      refine z_icmp_le hC (pc := 21) 30 dX12_isLetter_21 (by decide) (fun c6 => ?_) (fun c6 => ?_)
      · refine z_lvs [] rfl ?_
        exact j30
      · exact j24
  refine z_icmp_lt hC (pc := 3) 12 dX12_isLetter_3 (by decide) (fun c7 => ?_) (fun c7 => ?_)
  · exact j12
  · refine z_iload_n hC (pc := 6) 0 dX12_isLetter_6 rfl rfl ?_
    refine z_bipush hC (pc := 7) (v := 122) dX12_isLetter_7 (by decide) ?_
    refine z_icmp_le hC (pc := 9) 30 dX12_isLetter_9 (by decide) (fun c8 => ?_) (fun c8 => ?_)
    · refine z_lvs [] rfl ?_
      exact j30
    · exact j12
set_option maxRecDepth 20000 in
theorem kX7_here (l : Launch) (G : zG) (T : tT) (κ : Nat → List Nat) (hst : l.stackTraces = false) (hE : tE G T κ) {a0 : Nat} (h0 : a0 ∈ κ 7) : tMi l G T yX7_here cX7_here 1 .int [] 0 0 0 0 [.ref a0] uT (uPi 0x0) := by
  refine tMi.intro hst rfl (Nat.le_of_ble_eq_true rfl) ?_
  intro w0 hw0 _ X hC hR hO hX
  refine z_aload_n hC (pc := 0) 0 dX7_here_0 rfl rfl ?_
  refine u_get hC hw0 (pc := 1) zf7 1 (hE.o7 h0) rfl dX7_here_1 zw116 (kk := fun vx3 tx3 fx3 => ?_)
  obtain ⟨x3, rfl, zx3⟩ := t_zof tx3
  have j46 : ∀ (x4 : Int32), zS X G 1 w0 [] 0 0 46 [.int x4] := by
    intro x4
    exact hR _ _ _ _ _ _ dX7_here_46 rfl (Nat.le_of_ble_eq_true rfl) (Nat.le_of_ble_eq_true rfl) ⟨hw0, rfl, rfl, tKeep.rf⟩
  refine z_if_eq hC (pc := 4) 14 dX7_here_4 (by decide) (fun c5 => ?_) (fun c5 => ?_)
  · refine z_aload_n hC (pc := 14) 0 dX7_here_14 rfl rfl ?_
    refine u_get hC hw0 (pc := 15) zf7 5 (hE.o7 h0) rfl dX7_here_15 zw122 (kk := fun vx6 tx6 fx6 => ?_)
    obtain ⟨x6, rfl⟩ := tx6
    have j45 : zS X G 1 w0 [] 0 0 45 [] := by
      refine z_iconst hC (pc := 45) (v := 0) dX7_here_45 (by decide) ?_
      exact j46 0
    refine z_if_lt hC (pc := 18) 45 dX7_here_18 (by decide) (fun c7 => ?_) (fun c7 => ?_)
    · refine z_lvs [] rfl ?_
      exact j45
    · refine z_aload_n hC (pc := 21) 0 dX7_here_21 rfl rfl ?_
      refine u_getK hC (pc := 22) zf7 5 fx6 dX7_here_22 zw122 (kk := ?_)
      refine z_aload_n hC (pc := 25) 0 dX7_here_25 rfl rfl ?_
      refine u_get hC hw0 (pc := 26) zf7 3 (hE.o7 h0) rfl dX7_here_26 zw118 (kk := fun va8 ta8 fa8 => ?_)
      obtain ⟨a8, ma8, rfl⟩ := ta8
      obtain ⟨N9, hN9, AN9⟩ := hE.ints ma8
      refine u_alenI hC hw0 (pc := 29) AN9 dX7_here_29 ?_
      refine z_icmp_ge hC (pc := 30) 45 dX7_here_30 (by decide) (fun c10 => ?_) (fun c10 => ?_)
      · refine z_lvs [] rfl ?_
        exact j45
      · refine z_aload_n hC (pc := 33) 0 dX7_here_33 rfl rfl ?_
        refine u_getK hC (pc := 34) zf7 3 fa8 dX7_here_34 zw118 (kk := ?_)
        refine z_aload_n hC (pc := 37) 0 dX7_here_37 rfl rfl ?_
        refine u_getK hC (pc := 38) zf7 5 fx6 dX7_here_38 zw122 (kk := ?_)
        refine t_iald hC hw0 (pc := 41) AN9 dX7_here_41 (t_inB hN9 c7 c10) (fun x11 _ => ?_)
        refine z_goto hC (pc := 42) 46 dX7_here_42 (by decide) ?_
        refine z_lvs [] rfl ?_
        exact j46 x11
  · refine z_aload_n hC (pc := 7) 0 dX7_here_7 rfl rfl ?_
    refine u_get hC hw0 (pc := 8) zf7 5 (hE.o7 h0) rfl dX7_here_8 zw122 (kk := fun vx12 tx12 fx12 => ?_)
    obtain ⟨x12, rfl⟩ := tx12
    refine z_goto hC (pc := 11) 46 dX7_here_11 (by decide) ?_
    refine z_lvs [] rfl ?_
    exact j46 x12
set_option maxRecDepth 20000 in
theorem kX7_take (l : Launch) (G : zG) (T : tT) (κ : Nat → List Nat) (hst : l.stackTraces = false) (hE : tE G T κ) {a0 : Nat} (h0 : a0 ∈ κ 7) {x1 : Int32} {a2 : Nat} (h2 : a2 ∈ κ 6) : tMi l G T yX7_take cX7_take 4 .int [] 3 75 0 0 [.ref a0, .int x1, .ref a2] uT (uPi 0x200000000000000030000000000000000000000000000000000000000000000000000000000000000000000000000000000000000000000000) := by
  refine tMi.intro hst rfl (Nat.le_of_ble_eq_true rfl) ?_
  intro w0 hw0 _ X hC hR hO hX
  refine z_aload_n hC (pc := 0) 0 dX7_take_0 rfl rfl ?_
  refine u_get hC hw0 (pc := 1) zf7 5 (hE.o7 h0) rfl dX7_take_1 zw122 (kk := fun vx5 tx5 fx5 => ?_)
  obtain ⟨x5, rfl⟩ := tx5
  refine z_istore_n hC (pc := 4) (lv' := [(3, .int x5), (0, .ref a0), (1, .int x1), (2, .ref a2)]) dX7_take_4 rfl (by decide) rfl ?_
  refine z_aload_n hC (pc := 5) 1 dX7_take_5 rfl rfl ?_
  refine z_iload_n hC (pc := 6) 2 dX7_take_6 rfl rfl ?_
  refine u_put hC hw0 (pc := 7) zf7 5 (hE.o7 h0) rfl ⟨_, rfl⟩ dX7_take_7 zw122 rfl rfl rfl (kk := fun w6 hw6 fw6 kw6 => ?_)
  refine z_aload_n hC (pc := 10) 3 dX7_take_10 rfl rfl ?_
  refine z_aload_n hC (pc := 11) 1 dX7_take_11 rfl rfl ?_
  refine u_get hC hw6 (pc := 12) zf7 0 (hE.o7 h0) rfl dX7_take_12 zw115 (kk := fun va7 ta7 fa7 => ?_)
  obtain ⟨a7, ma7, rfl⟩ := ta7
  refine z_iload_n hC (pc := 15) 0 dX7_take_15 rfl rfl ?_
  refine z_iload_n hC (pc := 16) 2 dX7_take_16 rfl rfl ?_
  refine z_iload_n hC (pc := 17) 0 dX7_take_17 rfl rfl ?_
  refine z_isub hC (pc := 18) (v := (x1 - x5)) dX7_take_18 rfl ?_
  obtain ⟨q8, hqq8⟩ := hE.o6 h2
  refine t_callVi hC hw6 (pc := 19) (As := [.ref a7, .int x5, .int (x1 - x5)]) (kX6_intern l G T κ hst hE h2 (Or.inl ma7)) trivial dmX6_intern zf6 hqq8 dX7_take_19 zw1284 rfl rfl (Nat.le_of_ble_eq_true rfl) (Nat.le_of_ble_eq_true rfl) (Nat.le_of_ble_eq_true rfl) (Nat.le_of_ble_eq_true rfl) (Nat.le_of_ble_eq_true rfl) (fun _ _ _ h => nomatch h) (fun x10 cw9 nw9 w9 hw9 pw9 => ?_)
  obtain ⟨rfl, rfl, kw9⟩ := pw9
  exact hR _ _ _ _ _ _ dX7_take_22 rfl (Nat.le_of_ble_eq_true rfl) (Nat.le_of_ble_eq_true rfl) ⟨hw9, rfl, rfl, (tKeep.tr (tKeep.tr tKeep.rf kw6 rfl) kw9 rfl)⟩
set_option maxRecDepth 20000 in
theorem kX2_newDef (l : Launch) (G : zG) (T : tT) (κ : Nat → List Nat) (hst : l.stackTraces = false) (hE : tE G T κ) {a0 : Nat} (h0 : a0 ∈ κ 2) {x1 : Int32} {x2 : Int32} {x3 : Int32} {x4 : Int32} : tMi l G T yX2_newDef cX2_newDef 6 .int [] 1 22 0 0 [.ref a0, .int x1, .int x2, .int x3, .int x4] uT (uPi 0x10000000000000000000000000000000000) := by
  refine tMi.intro hst rfl (Nat.le_of_ble_eq_true rfl) ?_
  intro w0 hw0 _ X hC hR hO hX
  refine z_aload_n hC (pc := 0) 0 dX2_newDef_0 rfl rfl ?_
  refine u_get hC hw0 (pc := 1) zf2 8 (hE.o2 h0) rfl dX2_newDef_1 zw259 (kk := fun vx7 tx7 fx7 => ?_)
  obtain ⟨x7, rfl⟩ := tx7
  refine z_bipush hC (pc := 4) (v := 7) dX2_newDef_4 (by decide) ?_
  refine z_imul hC (pc := 6) (v := (x7 * 7)) dX2_newDef_6 rfl ?_
  refine z_istore hC (pc := 7) (lv' := [(5, .int (x7 * 7)), (0, .ref a0), (1, .int x1), (2, .int x2), (3, .int x3), (4, .int x4)]) dX2_newDef_7 (by decide) rfl ?_
  refine z_aload_n hC (pc := 9) 1 dX2_newDef_9 rfl rfl ?_
  refine u_get hC hw0 (pc := 10) zf2 7 (hE.o2 h0) rfl dX2_newDef_10 zw256 (kk := fun va8 ta8 fa8 => ?_)
  obtain ⟨a8, ma8, rfl⟩ := ta8
  refine z_iload hC (pc := 13) 0 dX2_newDef_13 rfl ?_
  refine z_iload_n hC (pc := 15) 2 dX2_newDef_15 rfl rfl ?_
  refine t_callSNv hC hw0 (pc := 16) (As := [.ref a8, .int (x7 * 7), .int x1]) (kX12_set l G T κ hst hE ma8) trivial dmX12_set dX2_newDef_16 zw1289 rfl rfl (Nat.le_of_ble_eq_true rfl) (Nat.le_of_ble_eq_true rfl) (Nat.le_of_ble_eq_true rfl) (Nat.le_of_ble_eq_true rfl) (Nat.le_of_ble_eq_true rfl) (fun _ _ _ h => nomatch h) (fun cw9 nw9 w9 hw9 pw9 => ?_)
  obtain ⟨rfl, rfl, kw9⟩ := pw9
  refine z_aload_n hC (pc := 19) 1 dX2_newDef_19 rfl rfl ?_
  refine u_getK hC (pc := 20) zf2 7 (tKeep.F kw9 fa8 rfl) dX2_newDef_20 zw256 (kk := ?_)
  refine z_iload hC (pc := 23) 0 dX2_newDef_23 rfl ?_
  refine z_iconst hC (pc := 25) (v := 1) dX2_newDef_25 (by decide) ?_
  refine z_iadd hC (pc := 26) (v := ((x7 * 7) + 1)) dX2_newDef_26 rfl ?_
  refine z_iload_n hC (pc := 27) 3 dX2_newDef_27 rfl rfl ?_
  refine t_callSNv hC hw9 (pc := 28) (As := [.ref a8, .int ((x7 * 7) + 1), .int x2]) (kX12_set l G T κ hst hE ma8) trivial dmX12_set dX2_newDef_28 zw1289 rfl rfl (Nat.le_of_ble_eq_true rfl) (Nat.le_of_ble_eq_true rfl) (Nat.le_of_ble_eq_true rfl) (Nat.le_of_ble_eq_true rfl) (Nat.le_of_ble_eq_true rfl) (fun _ _ _ h => nomatch h) (fun cw11 nw11 w11 hw11 pw11 => ?_)
  obtain ⟨rfl, rfl, kw11⟩ := pw11
  refine z_aload_n hC (pc := 31) 1 dX2_newDef_31 rfl rfl ?_
  refine u_getK hC (pc := 32) zf2 7 (tKeep.F kw11 (tKeep.F kw9 fa8 rfl) rfl) dX2_newDef_32 zw256 (kk := ?_)
  refine z_iload hC (pc := 35) 0 dX2_newDef_35 rfl ?_
  refine z_iconst hC (pc := 37) (v := 2) dX2_newDef_37 (by decide) ?_
  refine z_iadd hC (pc := 38) (v := ((x7 * 7) + 2)) dX2_newDef_38 rfl ?_
  refine z_iload_n hC (pc := 39) 4 dX2_newDef_39 rfl rfl ?_
  refine t_callSNv hC hw11 (pc := 40) (As := [.ref a8, .int ((x7 * 7) + 2), .int x3]) (kX12_set l G T κ hst hE ma8) trivial dmX12_set dX2_newDef_40 zw1289 rfl rfl (Nat.le_of_ble_eq_true rfl) (Nat.le_of_ble_eq_true rfl) (Nat.le_of_ble_eq_true rfl) (Nat.le_of_ble_eq_true rfl) (Nat.le_of_ble_eq_true rfl) (fun _ _ _ h => nomatch h) (fun cw13 nw13 w13 hw13 pw13 => ?_)
  obtain ⟨rfl, rfl, kw13⟩ := pw13
  refine z_aload_n hC (pc := 43) 1 dX2_newDef_43 rfl rfl ?_
  refine u_getK hC (pc := 44) zf2 7 (tKeep.F kw13 (tKeep.F kw11 (tKeep.F kw9 fa8 rfl) rfl) rfl) dX2_newDef_44 zw256 (kk := ?_)
  refine z_iload hC (pc := 47) 0 dX2_newDef_47 rfl ?_
  refine z_iconst hC (pc := 49) (v := 3) dX2_newDef_49 (by decide) ?_
  refine z_iadd hC (pc := 50) (v := ((x7 * 7) + 3)) dX2_newDef_50 rfl ?_
  refine z_iload hC (pc := 51) 5 dX2_newDef_51 rfl ?_
  refine t_callSNv hC hw13 (pc := 53) (As := [.ref a8, .int ((x7 * 7) + 3), .int x4]) (kX12_set l G T κ hst hE ma8) trivial dmX12_set dX2_newDef_53 zw1289 rfl rfl (Nat.le_of_ble_eq_true rfl) (Nat.le_of_ble_eq_true rfl) (Nat.le_of_ble_eq_true rfl) (Nat.le_of_ble_eq_true rfl) (Nat.le_of_ble_eq_true rfl) (fun _ _ _ h => nomatch h) (fun cw15 nw15 w15 hw15 pw15 => ?_)
  obtain ⟨rfl, rfl, kw15⟩ := pw15
  refine z_aload_n hC (pc := 56) 1 dX2_newDef_56 rfl rfl ?_
  refine z_dup hC (pc := 57) dX2_newDef_57 rfl ?_
  refine u_getK hC (pc := 58) zf2 8 (tKeep.F kw15 (tKeep.F kw13 (tKeep.F kw11 (tKeep.F kw9 fx7 rfl) rfl) rfl) rfl) dX2_newDef_58 zw259 (kk := ?_)
  refine z_iconst hC (pc := 61) (v := 1) dX2_newDef_61 (by decide) ?_
  refine z_iadd hC (pc := 62) (v := (x7 + 1)) dX2_newDef_62 rfl ?_
  refine u_put hC hw15 (pc := 63) zf2 8 (hE.o2 h0) rfl ⟨_, rfl⟩ dX2_newDef_63 zw259 rfl rfl rfl (kk := fun w17 hw17 fw17 kw17 => ?_)
  refine z_iload hC (pc := 66) 0 dX2_newDef_66 rfl ?_
  exact hR _ _ _ _ _ _ dX2_newDef_68 rfl (Nat.le_of_ble_eq_true rfl) (Nat.le_of_ble_eq_true rfl) ⟨hw17, rfl, rfl, (tKeep.tr (tKeep.tr (tKeep.tr (tKeep.tr (tKeep.tr tKeep.rf kw9 rfl) kw11 rfl) kw13 rfl) kw15 rfl) kw17 rfl)⟩
set_option maxRecDepth 20000 in
theorem kX7_isSpace (l : Launch) (G : zG) (T : tT) (κ : Nat → List Nat) (hst : l.stackTraces = false) (hE : tE G T κ) {x0 : Int32} : tMi l G T yX7_isSpace cX7_isSpace 1 .boolean [] 0 0 0 0 [.int x0] uT (uPz 0x0) := by
  refine tMi.intro hst rfl (Nat.le_of_ble_eq_true rfl) ?_
  intro w0 hw0 _ X hC hR hO hX
  refine z_iload_n hC (pc := 0) 0 dX7_isSpace_0 rfl rfl ?_
  refine z_bipush hC (pc := 1) (v := 32) dX7_isSpace_1 (by decide) ?_
  have j17 : ∀ (x3 : Int32), tZ (.int x3) → zS X G 1 w0 [] 0 0 17 [.int x3] := by
    intro x3 zx3
    exact hR _ _ _ _ _ _ dX7_isSpace_17 (t_nZ zx3) (Nat.le_of_ble_eq_true rfl) (Nat.le_of_ble_eq_true rfl) ⟨hw0, rfl, rfl, tKeep.rf, zx3⟩
  have j12 : zS X G 1 w0 [] 0 0 12 [] := by
    refine z_iconst hC (pc := 12) (v := 1) dX7_isSpace_12 (by decide) ?_
    refine z_goto hC (pc := 13) 17 dX7_isSpace_13 (by decide) ?_
    exact j17 1 (Or.inr rfl)
  refine z_icmp_eq hC (pc := 3) 12 dX7_isSpace_3 (by decide) (fun c4 => ?_) (fun c4 => ?_)
  · refine z_lvs [] rfl ?_
    exact j12
  · refine z_iload_n hC (pc := 6) 0 dX7_isSpace_6 rfl rfl ?_
    refine z_bipush hC (pc := 7) (v := 9) dX7_isSpace_7 (by decide) ?_
    refine z_icmp_ne hC (pc := 9) 16 dX7_isSpace_9 (by decide) (fun c5 => ?_) (fun c5 => ?_)
    · refine z_iconst hC (pc := 16) (v := 0) dX7_isSpace_16 (by decide) ?_
      refine z_lvs [] rfl ?_
      exact j17 0 (Or.inl rfl)
    · refine z_lvs [] rfl ?_
      exact j12
set_option maxRecDepth 20000 in
theorem kX7_openBody (l : Launch) (G : zG) (T : tT) (κ : Nat → List Nat) (hst : l.stackTraces = false) (hE : tE G T κ) {a0 : Nat} (h0 : a0 ∈ κ 7) {x1 : Int32} {x2 : Int32} {x3 : Int32} {x4 : Int32} {x5 : Int32} : tMv l G T yX7_openBody cX7_openBody 9 [] 1 22 0 0 [.ref a0, .int x1, .int x2, .int x3, .int x4, .int x5] uT (uPv 0x8330000000000000000000000000000000000000000000000000000000000000000000000000000000000000000000000000000000000000000) := by
  refine tMv.intro hst rfl (Nat.le_of_ble_eq_true rfl) ?_
  intro w0 hw0 _ X hC hR hO hX
  refine z_iconst hC (pc := 0) (v := 0) dX7_openBody_0 (by decide) ?_
  refine z_istore hC (pc := 1) (lv' := [(6, .int 0), (0, .ref a0), (1, .int x1), (2, .int x2), (3, .int x3), (4, .int x4), (5, .int x5)]) dX7_openBody_1 (by decide) rfl ?_
  refine z_iload_n hC (pc := 3) 2 dX7_openBody_3 rfl rfl ?_
  refine z_istore hC (pc := 4) (lv' := [(7, .int x1), (6, .int 0), (0, .ref a0), (1, .int x1), (2, .int x2), (3, .int x3), (4, .int x4), (5, .int x5)]) dX7_openBody_4 (by decide) rfl ?_
  have j6 : ∀ (d6 : Nat), ∀ (w8 : va_W), tW T w8 → tKeep 0x0 w0 w8 → ∀ (x9 : Int32), ∀ (x10 : Int32), ¬ x9 < 0 → (2 ^ 31 - (x9 : Int32).toInt).toNat ≤ d6 → zS X G 9 w8 [(0, .ref a0), (2, .int x2), (3, .int x3), (4, .int x4), (5, .int x5), (6, .int x9), (7, .int x10)] 0 0 6 [] := by
    intro d6
    induction d6 with
    | zero => intro w8 hw8 kw8 x9 x10 v11 hd6; exact (t_zero hd6).elim
    | succ d6 ih6 =>
      intro w8 hw8 kw8 x9 x10 v11 hd6
      refine z_iload hC (pc := 6) 6 dX7_openBody_6 rfl ?_
      refine z_iload_n hC (pc := 8) 1 dX7_openBody_8 rfl rfl ?_
      have j104 : zS X G 9 w8 [(0, .ref a0), (4, .int x4), (5, .int x5), (6, .int x9)] 0 0 104 [] := by
        refine z_aload_n hC (pc := 104) 0 dX7_openBody_104 rfl rfl ?_
        refine u_get hC hw8 (pc := 105) zf7 3 (hE.o7 h0) rfl dX7_openBody_105 zw118 (kk := fun va12 ta12 fa12 => ?_)
        obtain ⟨a12, ma12, rfl⟩ := ta12
        refine z_iload hC (pc := 108) 3 dX7_openBody_108 rfl ?_
        refine z_iload hC (pc := 110) 1 dX7_openBody_110 rfl ?_
        refine t_callSNv hC hw8 (pc := 112) (As := [.ref a12, .int x9, .int x4]) (kX12_set l G T κ hst hE ma12) trivial dmX12_set dX7_openBody_112 zw1307 rfl rfl (Nat.le_of_ble_eq_true rfl) (Nat.le_of_ble_eq_true rfl) (Nat.le_of_ble_eq_true rfl) (Nat.le_of_ble_eq_true rfl) (Nat.le_of_ble_eq_true rfl) (fun _ _ _ h => nomatch h) (fun cw13 nw13 w13 hw13 pw13 => ?_)
        obtain ⟨rfl, rfl, kw13⟩ := pw13
        refine z_aload_n hC (pc := 115) 0 dX7_openBody_115 rfl rfl ?_
        refine z_aload_n hC (pc := 116) 0 dX7_openBody_116 rfl rfl ?_
        refine u_get hC hw13 (pc := 117) zf7 2 (hE.o7 h0) rfl dX7_openBody_117 zw117 (kk := fun va15 ta15 fa15 => ?_)
        obtain ⟨a15, ma15, rfl⟩ := ta15
        refine u_put hC hw13 (pc := 120) zf7 0 (hE.o7 h0) rfl ⟨_, ma15, rfl⟩ dX7_openBody_120 zw115 rfl rfl rfl (kk := fun w16 hw16 fw16 kw16 => ?_)
        refine z_aload_n hC (pc := 123) 0 dX7_openBody_123 rfl rfl ?_
        refine z_iload hC (pc := 124) 3 dX7_openBody_124 rfl ?_
        refine u_put hC hw16 (pc := 126) zf7 4 (hE.o7 h0) rfl ⟨_, rfl⟩ dX7_openBody_126 zw119 rfl rfl rfl (kk := fun w17 hw17 fw17 kw17 => ?_)
        refine z_aload_n hC (pc := 129) 0 dX7_openBody_129 rfl rfl ?_
        refine z_iconst hC (pc := 130) (v := 0) dX7_openBody_130 (by decide) ?_
        refine u_put hC hw17 (pc := 131) zf7 5 (hE.o7 h0) rfl ⟨_, rfl⟩ dX7_openBody_131 zw122 rfl rfl rfl (kk := fun w18 hw18 fw18 kw18 => ?_)
        refine z_aload_n hC (pc := 134) 0 dX7_openBody_134 rfl rfl ?_
        refine z_iconst hC (pc := 135) (v := 0) dX7_openBody_135 (by decide) ?_
        refine u_put hC hw18 (pc := 136) zf7 1 (hE.o7 h0) rfl (Or.inl rfl) dX7_openBody_136 zw116 rfl rfl rfl (kk := fun w19 hw19 fw19 kw19 => ?_)
        refine z_aload_n hC (pc := 139) 0 dX7_openBody_139 rfl rfl ?_
        refine z_iload hC (pc := 140) 2 dX7_openBody_140 rfl ?_
        refine u_put hC hw19 (pc := 142) zf7 11 (hE.o7 h0) rfl ⟨_, rfl⟩ dX7_openBody_142 zw136 rfl rfl rfl (kk := fun w20 hw20 fw20 kw20 => ?_)
        exact hR _ _ _ _ _ dX7_openBody_145 (Nat.le_of_ble_eq_true rfl) (Nat.le_of_ble_eq_true rfl) ⟨hw20, rfl, rfl, (tKeep.tr (tKeep.tr (tKeep.tr (tKeep.tr (tKeep.tr (tKeep.tr (tKeep.tr tKeep.rf kw8 rfl) kw13 rfl) kw16 rfl) kw17 rfl) kw18 rfl) kw19 rfl) kw20 rfl)⟩
      refine z_icmp_ge hC (pc := 9) 104 dX7_openBody_9 (by decide) (fun c21 => ?_) (fun c21 => ?_)
      · refine z_lvs [0, 3, 4, 5] rfl ?_
        exact j104
      · refine z_iload hC (pc := 12) 5 dX7_openBody_12 rfl ?_
        refine z_sipush hC (pc := 14) (v := 4000) dX7_openBody_14 (by decide) ?_
        refine z_icmp_ge hC (pc := 17) 104 dX7_openBody_17 (by decide) (fun c22 => ?_) (fun c22 => ?_)
        · refine z_lvs [0, 3, 4, 5] rfl ?_
          exact j104
        · refine z_aload_n hC (pc := 20) 0 dX7_openBody_20 rfl rfl ?_
          refine u_get hC hw8 (pc := 21) zf7 9 (hE.o7 h0) rfl dX7_openBody_21 zw134 (kk := fun va23 ta23 fa23 => ?_)
          obtain ⟨a23, ma23, rfl⟩ := ta23
          refine z_iload hC (pc := 24) 6 dX7_openBody_24 rfl ?_
          refine t_callSNi hC hw8 (pc := 26) (As := [.ref a23, .int x10]) (kX12_getByte l G T κ hst hE (Or.inl ma23)) trivial dmX12_getByte dX7_openBody_26 zw1302 rfl rfl (Nat.le_of_ble_eq_true rfl) (Nat.le_of_ble_eq_true rfl) (Nat.le_of_ble_eq_true rfl) (Nat.le_of_ble_eq_true rfl) (Nat.le_of_ble_eq_true rfl) (fun _ _ _ h => nomatch h) (fun x25 cw24 nw24 w24 hw24 pw24 => ?_)
          obtain ⟨rfl, rfl, kw24⟩ := pw24
          refine z_istore hC (pc := 29) (lv' := [(8, .int x25), (0, .ref a0), (2, .int x2), (3, .int x3), (4, .int x4), (5, .int x5), (6, .int x9), (7, .int x10)]) dX7_openBody_29 (by decide) rfl ?_
          refine z_iload_n hC (pc := 31) 3 dX7_openBody_31 rfl rfl ?_
          have j73 : zS X G 9 w24 [(0, .ref a0), (2, .int x2), (3, .int x3), (4, .int x4), (5, .int x5), (6, .int x9), (7, .int x10), (8, .int x25)] 0 0 73 [] := by
            refine z_aload_n hC (pc := 73) 0 dX7_openBody_73 rfl rfl ?_
            refine u_get hC hw24 (pc := 74) zf7 2 (hE.o7 h0) rfl dX7_openBody_74 zw117 (kk := fun va26 ta26 fa26 => ?_)
            obtain ⟨a26, ma26, rfl⟩ := ta26
            refine z_iload hC (pc := 77) 5 dX7_openBody_77 rfl ?_
            refine z_iload hC (pc := 79) 7 dX7_openBody_79 rfl ?_
            refine t_callSNv hC hw24 (pc := 81) (As := [.ref a26, .int x9, .int x25]) (kX12_setByte l G T κ hst hE ma26) trivial dmX12_setByte dX7_openBody_81 zw1306 rfl rfl (Nat.le_of_ble_eq_true rfl) (Nat.le_of_ble_eq_true rfl) (Nat.le_of_ble_eq_true rfl) (Nat.le_of_ble_eq_true rfl) (Nat.le_of_ble_eq_true rfl) (fun _ _ _ h => nomatch h) (fun cw27 nw27 w27 hw27 pw27 => ?_)
            obtain ⟨rfl, rfl, kw27⟩ := pw27
            refine z_aload_n hC (pc := 84) 0 dX7_openBody_84 rfl rfl ?_
            refine u_get hC hw27 (pc := 85) zf7 3 (hE.o7 h0) rfl dX7_openBody_85 zw118 (kk := fun va29 ta29 fa29 => ?_)
            obtain ⟨a29, ma29, rfl⟩ := ta29
            refine z_iload hC (pc := 88) 5 dX7_openBody_88 rfl ?_
            refine z_iload hC (pc := 90) 6 dX7_openBody_90 rfl ?_
            refine t_callSNv hC hw27 (pc := 92) (As := [.ref a29, .int x9, .int x10]) (kX12_set l G T κ hst hE ma29) trivial dmX12_set dX7_openBody_92 zw1307 rfl rfl (Nat.le_of_ble_eq_true rfl) (Nat.le_of_ble_eq_true rfl) (Nat.le_of_ble_eq_true rfl) (Nat.le_of_ble_eq_true rfl) (Nat.le_of_ble_eq_true rfl) (fun _ _ _ h => nomatch h) (fun cw30 nw30 w30 hw30 pw30 => ?_)
            obtain ⟨rfl, rfl, kw30⟩ := pw30
            refine z_iinc hC (pc := 95) (v := (x9 + 1)) (lv' := [(6, .int (x9 + 1)), (0, .ref a0), (2, .int x2), (3, .int x3), (4, .int x4), (5, .int x5), (7, .int x10), (8, .int x25)]) 5 dX7_openBody_95 rfl (congrArg _ (by decide)) (by decide) rfl ?_
            refine z_iinc hC (pc := 98) (v := (x10 + 1)) (lv' := [(7, .int (x10 + 1)), (6, .int (x9 + 1)), (0, .ref a0), (2, .int x2), (3, .int x3), (4, .int x4), (5, .int x5), (8, .int x25)]) 6 dX7_openBody_98 rfl (congrArg _ (by decide)) (by decide) rfl ?_
            refine z_goto hC (pc := 101) 6 dX7_openBody_101 (by decide) ?_
            refine z_lvs [2, 3, 4, 5, 6, 1, 0] rfl ?_
            exact ih6 w30 hw30 (tKeep.tr (tKeep.tr (tKeep.tr (tKeep.tr tKeep.rf kw8 rfl) kw24 rfl) kw27 rfl) kw30 rfl) (x9 + 1) (x10 + 1) (t_nnI v11 (Int32.not_le.mp c22)) (t_up (Int32.not_le.mp c22) hd6)
          refine z_if_eq hC (pc := 32) 73 dX7_openBody_32 (by decide) (fun c32 => ?_) (fun c32 => ?_)
          · refine z_lvs [1, 2, 3, 4, 5, 6, 7, 0] rfl ?_
            exact j73
          · refine z_iload hC (pc := 35) 0 dX7_openBody_35 rfl ?_
            refine z_bipush hC (pc := 37) (v := 10) dX7_openBody_37 (by decide) ?_
            have j42 : ∀ (d42 : Nat), ∀ (w33 : va_W), tW T w33 → tKeep 0x0 w24 w33 → ∀ (x34 : Int32), ¬ x34 < x10 → x34 < x2 → (2 ^ 31 - (x34 : Int32).toInt).toNat ≤ d42 → zS X G 9 w33 [(0, .ref a0), (2, .int x2), (3, .int x3), (4, .int x4), (5, .int x5), (6, .int x9), (7, .int x34)] 0 0 42 [] := by
              intro d42
              induction d42 with
              | zero => intro w33 hw33 kw33 x34 v35 v36 hd42; exact (t_zero hd42).elim
              | succ d42 ih42 =>
                intro w33 hw33 kw33 x34 v35 v36 hd42
                refine z_iload hC (pc := 42) 6 dX7_openBody_42 rfl ?_
                refine z_iconst hC (pc := 44) (v := 1) dX7_openBody_44 (by decide) ?_
                refine z_iadd hC (pc := 45) (v := (x34 + 1)) dX7_openBody_45 rfl ?_
                refine z_iload_n hC (pc := 46) 1 dX7_openBody_46 rfl rfl ?_
                refine z_icmp_ge hC (pc := 47) 98 dX7_openBody_47 (by decide) (fun c37 => ?_) (fun c37 => ?_)
                · refine z_iinc hC (pc := 98) (v := (x34 + 1)) (lv' := [(7, .int (x34 + 1)), (0, .ref a0), (2, .int x2), (3, .int x3), (4, .int x4), (5, .int x5), (6, .int x9)]) 6 dX7_openBody_98 rfl (congrArg _ (by decide)) (by decide) rfl ?_
                  refine z_goto hC (pc := 101) 6 dX7_openBody_101 (by decide) ?_
                  refine z_lvs [1, 2, 3, 4, 5, 6, 0] rfl ?_
                  exact ih6 w33 hw33 (tKeep.tr (tKeep.tr (tKeep.tr tKeep.rf kw8 rfl) kw24 rfl) kw33 rfl) x9 (x34 + 1) v11 (by have o1 := Int32.le_toInt x9; have o2 := Int32.toInt_lt x9; have o3 : (0 : Int32).toInt = 0 := (by decide); have o4 := t_fnl v11; have o5 : (4000 : Int32).toInt = 4000 := (by decide); have o6 := t_fne c22; omega)
                · refine z_aload_n hC (pc := 50) 0 dX7_openBody_50 rfl rfl ?_
                  refine u_getK hC (pc := 51) zf7 9 (tKeep.F kw33 (tKeep.F kw24 fa23 rfl) rfl) dX7_openBody_51 zw134 (kk := ?_)
                  refine z_iload hC (pc := 54) 6 dX7_openBody_54 rfl ?_
                  refine z_iconst hC (pc := 56) (v := 1) dX7_openBody_56 (by decide) ?_
                  refine z_iadd hC (pc := 57) (v := (x34 + 1)) dX7_openBody_57 rfl ?_
                  refine t_callSNi hC hw33 (pc := 58) (As := [.ref a23, .int (x34 + 1)]) (kX12_getByte l G T κ hst hE (Or.inl ma23)) trivial dmX12_getByte dX7_openBody_58 zw1302 rfl rfl (Nat.le_of_ble_eq_true rfl) (Nat.le_of_ble_eq_true rfl) (Nat.le_of_ble_eq_true rfl) (Nat.le_of_ble_eq_true rfl) (Nat.le_of_ble_eq_true rfl) (fun _ _ _ h => nomatch h) (fun x39 cw38 nw38 w38 hw38 pw38 => ?_)
                  obtain ⟨rfl, rfl, kw38⟩ := pw38
                  refine t_callSi hC hw38 (pc := 61) (As := [.int x39]) (kX7_isSpace l G T κ hst hE) trivial dmX7_isSpace dX7_openBody_61 zw1303 rfl rfl (Nat.le_of_ble_eq_true rfl) (Nat.le_of_ble_eq_true rfl) (Nat.le_of_ble_eq_true rfl) (Nat.le_of_ble_eq_true rfl) (Nat.le_of_ble_eq_true rfl) (fun _ _ _ h => nomatch h) (fun x41 cw40 nw40 w40 hw40 pw40 => ?_)
                  obtain ⟨rfl, rfl, kw40, zx41⟩ := pw40
                  refine z_if_eq hC (pc := 64) 98 dX7_openBody_64 (by decide) (fun c42 => ?_) (fun c42 => ?_)
                  · refine z_iinc hC (pc := 98) (v := (x34 + 1)) (lv' := [(7, .int (x34 + 1)), (0, .ref a0), (2, .int x2), (3, .int x3), (4, .int x4), (5, .int x5), (6, .int x9)]) 6 dX7_openBody_98 rfl (congrArg _ (by decide)) (by decide) rfl ?_
                    refine z_goto hC (pc := 101) 6 dX7_openBody_101 (by decide) ?_
                    refine z_lvs [1, 2, 3, 4, 5, 6, 0] rfl ?_
                    exact ih6 w40 hw40 (tKeep.tr (tKeep.tr (tKeep.tr (tKeep.tr (tKeep.tr tKeep.rf kw8 rfl) kw24 rfl) kw33 rfl) kw38 rfl) kw40 rfl) x9 (x34 + 1) v11 (by have o1 := Int32.le_toInt x9; have o2 := Int32.toInt_lt x9; have o3 : (0 : Int32).toInt = 0 := (by decide); have o4 := t_fnl v11; have o5 : (4000 : Int32).toInt = 4000 := (by decide); have o6 := t_fne c22; omega)
                  · refine z_iinc hC (pc := 67) (v := (x34 + 1)) (lv' := [(7, .int (x34 + 1)), (0, .ref a0), (2, .int x2), (3, .int x3), (4, .int x4), (5, .int x5), (6, .int x9)]) 6 dX7_openBody_67 rfl (congrArg _ (by decide)) (by decide) rfl ?_
                    refine z_goto hC (pc := 70) 42 dX7_openBody_70 (by decide) ?_
                    refine z_lvs [1, 2, 3, 4, 5, 6, 0] rfl ?_
                    exact ih42 w40 hw40 (tKeep.tr (tKeep.tr (tKeep.tr tKeep.rf kw33 rfl) kw38 rfl) kw40 rfl) (x34 + 1) (t_nltI (by have o1 := Int32.le_toInt x10; have o2 := Int32.toInt_lt x10; have o3 := Int32.le_toInt x2; have o4 := Int32.toInt_lt x2; have o5 := t_fne c21; have o6 := Int32.le_toInt x34; have o7 := Int32.toInt_lt x34; have o8 := t_fnl v35; have o9 := t_fl v36; have o10 : (1 : Int32).toInt = 1 := (by decide); have o11 := t_addO x34 1; have o12 := t_fne c37; omega)) (Int32.not_le.mp c37) (t_up v36 hd42)
            refine z_icmp_ne hC (pc := 39) 73 dX7_openBody_39 (by decide) (fun c43 => ?_) (fun c43 => ?_)
            · refine z_lvs [1, 2, 3, 4, 5, 6, 7, 0] rfl ?_
              exact j73
            · refine z_lvs [1, 2, 3, 4, 5, 6, 7] rfl ?_
              exact j42 _ w24 hw24 tKeep.rf x10 (t_irr _) (Int32.not_le.mp c21) (Nat.le_refl _)
  refine z_lvs [2, 4, 5, 6, 7, 1, 0] rfl ?_
  exact j6 _ w0 hw0 tKeep.rf 0 x1 (by decide) (Nat.le_refl _)
set_option maxRecDepth 20000 in
theorem kX10_define (l : Launch) (G : zG) (T : tT) (κ : Nat → List Nat) (hst : l.stackTraces = false) (hE : tE G T κ) {a0 : Nat} (h0 : a0 ∈ κ 10) {x1 : Int32} {x2 : Int32} {x3 : Int32} : tMv l G T yX10_define cX10_define 4 [] 0 0 0 0 [.ref a0, .int x1, .int x2, .int x3] uT (uPv 0xf00000000000000000000000000000000000000000000000000000000000000000000000000000000000000000000000000000000000000000000000000000000000000000000000000000000000000000) := by
  refine tMv.intro hst rfl (Nat.le_of_ble_eq_true rfl) ?_
  intro w0 hw0 _ X hC hR hO hX
  refine z_aload_n hC (pc := 0) 0 dX10_define_0 rfl rfl ?_
  refine z_iload_n hC (pc := 1) 1 dX10_define_1 rfl rfl ?_
  refine u_put hC hw0 (pc := 2) zf10 4 (hE.o10 h0) rfl ⟨_, rfl⟩ dX10_define_2 zw336 rfl rfl rfl (kk := fun w6 hw6 fw6 kw6 => ?_)
  refine z_aload_n hC (pc := 5) 0 dX10_define_5 rfl rfl ?_
  refine z_iload_n hC (pc := 6) 2 dX10_define_6 rfl rfl ?_
  refine u_put hC hw6 (pc := 7) zf10 5 (hE.o10 h0) rfl ⟨_, rfl⟩ dX10_define_7 zw337 rfl rfl rfl (kk := fun w7 hw7 fw7 kw7 => ?_)
  refine z_aload_n hC (pc := 10) 0 dX10_define_10 rfl rfl ?_
  refine z_iload_n hC (pc := 11) 3 dX10_define_11 rfl rfl ?_
  refine u_put hC hw7 (pc := 12) zf10 6 (hE.o10 h0) rfl ⟨_, rfl⟩ dX10_define_12 zw338 rfl rfl rfl (kk := fun w8 hw8 fw8 kw8 => ?_)
  refine z_aload_n hC (pc := 15) 0 dX10_define_15 rfl rfl ?_
  refine z_aload_n hC (pc := 16) 0 dX10_define_16 rfl rfl ?_
  refine u_get hC hw8 (pc := 17) zf10 1 (hE.o10 h0) rfl dX10_define_17 zw331 (kk := fun va9 ta9 fa9 => ?_)
  obtain ⟨a9, ma9, rfl⟩ := ta9
  refine u_get hC hw8 (pc := 20) zf2 10 (hE.o2 ma9) rfl dX10_define_20 zw266 (kk := fun vx10 tx10 fx10 => ?_)
  obtain ⟨x10, rfl⟩ := tx10
  refine u_put hC hw8 (pc := 23) zf10 7 (hE.o10 h0) rfl ⟨_, rfl⟩ dX10_define_23 zw339 rfl rfl rfl (kk := fun w11 hw11 fw11 kw11 => ?_)
  exact hR _ _ _ _ _ dX10_define_26 (Nat.le_of_ble_eq_true rfl) (Nat.le_of_ble_eq_true rfl) ⟨hw11, rfl, rfl, (tKeep.tr (tKeep.tr (tKeep.tr (tKeep.tr tKeep.rf kw6 rfl) kw7 rfl) kw8 rfl) kw11 rfl)⟩
set_option maxRecDepth 20000 in
theorem kX2_emit (l : Launch) (G : zG) (T : tT) (κ : Nat → List Nat) (hst : l.stackTraces = false) (hE : tE G T κ) {a0 : Nat} (h0 : a0 ∈ κ 2) {x1 : Int32} : tMv l G T yX2_emit cX2_emit 2 [] 0 0 0 0 [.ref a0, .int x1] uT (uPv 0x800000000000000000000000000000000) := by
  refine tMv.intro hst rfl (Nat.le_of_ble_eq_true rfl) ?_
  intro w0 hw0 _ X hC hR hO hX
  refine z_aload_n hC (pc := 0) 0 dX2_emit_0 rfl rfl ?_
  refine u_get hC hw0 (pc := 1) zf2 3 (hE.o2 h0) rfl dX2_emit_1 zw244 (kk := fun vx4 tx4 fx4 => ?_)
  obtain ⟨x4, rfl⟩ := tx4
  have j39 : ∀ (w5 : va_W), tW T w5 → tKeep 0x800000000000000000000000000000000 w0 w5 → zS X G 2 w5 [] 0 0 39 [] := by
    intro w5 hw5 kw5
    exact hR _ _ _ _ _ dX2_emit_39 (Nat.le_of_ble_eq_true rfl) (Nat.le_of_ble_eq_true rfl) ⟨hw5, rfl, rfl, (tKeep.tr tKeep.rf kw5 rfl)⟩
  refine z_if_lt hC (pc := 4) 39 dX2_emit_4 (by decide) (fun c6 => ?_) (fun c6 => ?_)
  · refine z_lvs [] rfl ?_
    exact j39 w0 hw0 tKeep.rf
  · refine z_aload_n hC (pc := 7) 0 dX2_emit_7 rfl rfl ?_
    refine u_getK hC (pc := 8) zf2 3 fx4 dX2_emit_8 zw244 (kk := ?_)
    refine z_aload_n hC (pc := 11) 0 dX2_emit_11 rfl rfl ?_
    refine u_get hC hw0 (pc := 12) zf2 2 (hE.o2 h0) rfl dX2_emit_12 zw239 (kk := fun va7 ta7 fa7 => ?_)
    obtain ⟨a7, ma7, rfl⟩ := ta7
    obtain ⟨N8, hN8, AN8⟩ := hE.ints ma7
    refine u_alenI hC hw0 (pc := 15) AN8 dX2_emit_15 ?_
    refine z_icmp_ge hC (pc := 16) 39 dX2_emit_16 (by decide) (fun c9 => ?_) (fun c9 => ?_)
    · refine z_lvs [] rfl ?_
      exact j39 w0 hw0 tKeep.rf
    · refine z_aload_n hC (pc := 19) 0 dX2_emit_19 rfl rfl ?_
      refine u_getK hC (pc := 20) zf2 2 fa7 dX2_emit_20 zw239 (kk := ?_)
      refine z_aload_n hC (pc := 23) 0 dX2_emit_23 rfl rfl ?_
      refine u_getK hC (pc := 24) zf2 3 fx4 dX2_emit_24 zw244 (kk := ?_)
      refine z_iload_n hC (pc := 27) 1 dX2_emit_27 rfl rfl ?_
      refine u_iast hC hw0 (pc := 28) AN8 dX2_emit_28 (t_inB hN8 c6 c9) trivial (fun w10 hw10 kw10 => ?_)
      refine z_aload_n hC (pc := 29) 0 dX2_emit_29 rfl rfl ?_
      refine z_dup hC (pc := 30) dX2_emit_30 rfl ?_
      refine u_getK hC (pc := 31) zf2 3 (tKeep.F kw10 fx4 rfl) dX2_emit_31 zw244 (kk := ?_)
      refine z_iconst hC (pc := 34) (v := 1) dX2_emit_34 (by decide) ?_
      refine z_iadd hC (pc := 35) (v := (x4 + 1)) dX2_emit_35 rfl ?_
      refine u_put hC hw10 (pc := 36) zf2 3 (hE.o2 h0) rfl ⟨_, rfl⟩ dX2_emit_36 zw244 rfl rfl rfl (kk := fun w11 hw11 fw11 kw11 => ?_)
      refine z_lvs [] rfl ?_
      exact j39 w11 hw11 (tKeep.tr (tKeep.tr tKeep.rf kw10 rfl) kw11 rfl)
set_option maxRecDepth 20000 in
theorem kX2_emit__ (l : Launch) (G : zG) (T : tT) (κ : Nat → List Nat) (hst : l.stackTraces = false) (hE : tE G T κ) {a0 : Nat} (h0 : a0 ∈ κ 2) {x1 : Int32} {x2 : Int32} {x3 : Int32} : tMv l G T yX2_emit__ cX2_emit__ 4 [] 1 21 0 0 [.ref a0, .int x1, .int x2, .int x3] uT (uPv 0x800000000000000000000000000000000) := by
  refine tMv.intro hst rfl (Nat.le_of_ble_eq_true rfl) ?_
  intro w0 hw0 _ X hC hR hO hX
  refine z_aload_n hC (pc := 0) 0 dX2_emit___0 rfl rfl ?_
  refine z_iload_n hC (pc := 1) 1 dX2_emit___1 rfl rfl ?_
  obtain ⟨q6, hqq6⟩ := hE.o2 h0
  refine t_callVv hC hw0 (pc := 2) (As := [.int x1]) (kX2_emit l G T κ hst hE h0) trivial dmX2_emit zf2 hqq6 dX2_emit___2 zw1316 rfl rfl (Nat.le_of_ble_eq_true rfl) (Nat.le_of_ble_eq_true rfl) (Nat.le_of_ble_eq_true rfl) (Nat.le_of_ble_eq_true rfl) (Nat.le_of_ble_eq_true rfl) (fun _ _ _ h => nomatch h) (fun cw7 nw7 w7 hw7 pw7 => ?_)
  obtain ⟨rfl, rfl, kw7⟩ := pw7
  refine z_aload_n hC (pc := 5) 0 dX2_emit___5 rfl rfl ?_
  refine z_iload_n hC (pc := 6) 2 dX2_emit___6 rfl rfl ?_
  refine t_callVv hC hw7 (pc := 7) (As := [.int x2]) (kX2_emit l G T κ hst hE h0) trivial dmX2_emit zf2 hqq6 dX2_emit___7 zw1316 rfl rfl (Nat.le_of_ble_eq_true rfl) (Nat.le_of_ble_eq_true rfl) (Nat.le_of_ble_eq_true rfl) (Nat.le_of_ble_eq_true rfl) (Nat.le_of_ble_eq_true rfl) (fun _ _ _ h => nomatch h) (fun cw9 nw9 w9 hw9 pw9 => ?_)
  obtain ⟨rfl, rfl, kw9⟩ := pw9
  refine z_aload_n hC (pc := 10) 0 dX2_emit___10 rfl rfl ?_
  refine z_iload_n hC (pc := 11) 3 dX2_emit___11 rfl rfl ?_
  refine t_callVv hC hw9 (pc := 12) (As := [.int x3]) (kX2_emit l G T κ hst hE h0) trivial dmX2_emit zf2 hqq6 dX2_emit___12 zw1316 rfl rfl (Nat.le_of_ble_eq_true rfl) (Nat.le_of_ble_eq_true rfl) (Nat.le_of_ble_eq_true rfl) (Nat.le_of_ble_eq_true rfl) (Nat.le_of_ble_eq_true rfl) (fun _ _ _ h => nomatch h) (fun cw11 nw11 w11 hw11 pw11 => ?_)
  obtain ⟨rfl, rfl, kw11⟩ := pw11
  exact hR _ _ _ _ _ dX2_emit___15 (Nat.le_of_ble_eq_true rfl) (Nat.le_of_ble_eq_true rfl) ⟨hw11, rfl, rfl, (tKeep.tr (tKeep.tr (tKeep.tr tKeep.rf kw7 rfl) kw9 rfl) kw11 rfl)⟩
set_option maxRecDepth 20000 in
theorem kX1_checkParam (l : Launch) (G : zG) (T : tT) (κ : Nat → List Nat) (hst : l.stackTraces = false) (hE : tE G T κ) {a0 : Nat} (h0 : a0 ∈ κ 1) {x1 : Int32} {x2 : Int32} {x3 : Int32} : tMv l G T yX1_checkParam cX1_checkParam 5 ["java/lang/IllegalStateException"] 7 103 1 6 [.ref a0, .int x1, .int x2, .int x3] uT (uPv 0x1800000000000000000000000000000000000000000000000000000000000000000000000000000000000000000000000000000000000000000) := by
  refine tMv.intro hst rfl (Nat.le_of_ble_eq_true rfl) ?_
  intro w0 hw0 _ X hC hR hO hX
  refine z_iconst hC (pc := 0) (v := 0) dX1_checkParam_0 (by decide) ?_
  refine z_istore hC (pc := 1) (lv' := [(4, .int 0), (0, .ref a0), (1, .int x1), (2, .int x2), (3, .int x3)]) dX1_checkParam_1 (by decide) rfl ?_
  have j3 : ∀ (d3 : Nat), ∀ (w6 : va_W), tW T w6 → tKeep 0x1800000000000000000000000000000000000000000000000000000000000000000000000000000000000000000000000000000000000000000 w0 w6 → ∀ (x7 : Int32), ¬ x7 < 0 → (2 ^ 31 - (x7 : Int32).toInt).toNat ≤ d3 → zS X G 5 w6 [(0, .ref a0), (1, .int x1), (2, .int x2), (3, .int x3), (4, .int x7)] 0 0 3 [] := by
    intro d3
    induction d3 with
    | zero => intro w6 hw6 kw6 x7 v8 hd3; exact (t_zero hd3).elim
    | succ d3 ih3 =>
      intro w6 hw6 kw6 x7 v8 hd3
      refine z_iload hC (pc := 3) 4 dX1_checkParam_3 rfl ?_
      refine z_aload_n hC (pc := 5) 0 dX1_checkParam_5 rfl rfl ?_
      refine u_get hC hw6 (pc := 6) zf1 7 (hE.o1 h0) rfl dX1_checkParam_6 zw391 (kk := fun vx9 tx9 fx9 => ?_)
      obtain ⟨x9, rfl⟩ := tx9
      refine z_icmp_ge hC (pc := 9) 40 dX1_checkParam_9 (by decide) (fun c10 => ?_) (fun c10 => ?_)
      · refine z_iload_n hC (pc := 40) 3 dX1_checkParam_40 rfl rfl ?_
        have j53 : ∀ (w11 : va_W), tW T w11 → tKeep 0x1800000000000000000000000000000000000000000000000000000000000000000000000000000000000000000000000000000000000000000 w6 w11 → zS X G 5 w11 [(0, .ref a0), (2, .int x2)] 0 0 53 [] := by
          intro w11 hw11 kw11
          refine z_aload_n hC (pc := 53) 0 dX1_checkParam_53 rfl rfl ?_
          refine u_getK hC (pc := 54) zf1 7 (tKeep.F kw11 fx9 rfl) dX1_checkParam_54 zw391 (kk := ?_)
          refine z_bipush hC (pc := 57) (v := 12) dX1_checkParam_57 (by decide) ?_
          have j71 : ∀ (w12 : va_W), tW T w12 → tKeep 0x1800000000000000000000000000000000000000000000000000000000000000000000000000000000000000000000000000000000000000000 w11 w12 → zS X G 5 w12 [] 0 0 71 [] := by
            intro w12 hw12 kw12
            exact hR _ _ _ _ _ dX1_checkParam_71 (Nat.le_of_ble_eq_true rfl) (Nat.le_of_ble_eq_true rfl) ⟨hw12, rfl, rfl, (tKeep.tr (tKeep.tr (tKeep.tr tKeep.rf kw6 rfl) kw11 rfl) kw12 rfl)⟩
          refine z_icmp_lt hC (pc := 59) 71 dX1_checkParam_59 (by decide) (fun c13 => ?_) (fun c13 => ?_)
          · refine z_lvs [] rfl ?_
            exact j71 w11 hw11 tKeep.rf
          · refine z_aload_n hC (pc := 62) 0 dX1_checkParam_62 rfl rfl ?_
            refine u_get hC hw11 (pc := 63) zf1 2 (hE.o1 h0) rfl dX1_checkParam_63 zw386 (kk := fun va14 ta14 fa14 => ?_)
            obtain ⟨a14, ma14, rfl⟩ := ta14
            refine z_iconst hC (pc := 66) (v := 4) dX1_checkParam_66 (by decide) ?_
            refine z_iload_n hC (pc := 67) 1 dX1_checkParam_67 rfl rfl ?_
            obtain ⟨q15, hqq15⟩ := hE.o7 ma14
            refine t_callVv hC hw11 (pc := 68) (As := [.int 4, .int x2]) (kX7_fail l G T κ hst hE ma14) trivial dmX7_fail zf7 hqq15 dX1_checkParam_68 zw1155 rfl rfl (Nat.le_of_ble_eq_true rfl) (Nat.le_of_ble_eq_true rfl) (Nat.le_of_ble_eq_true rfl) (Nat.le_of_ble_eq_true rfl) (Nat.le_of_ble_eq_true rfl) (fun E w q hE hw => hO E w _ _ _ _ _ q hE (Nat.le_of_ble_eq_true rfl) (Nat.le_of_ble_eq_true rfl) hw) (fun cw16 nw16 w16 hw16 pw16 => ?_)
            obtain ⟨rfl, rfl, kw16⟩ := pw16
            refine z_lvs [] rfl ?_
            exact j71 w16 hw16 (tKeep.tr tKeep.rf kw16 rfl)
        refine z_if_eq hC (pc := 41) 53 dX1_checkParam_41 (by decide) (fun c18 => ?_) (fun c18 => ?_)
        · refine z_lvs [0, 2] rfl ?_
          exact j53 w6 hw6 tKeep.rf
        · refine z_aload_n hC (pc := 44) 0 dX1_checkParam_44 rfl rfl ?_
          refine u_get hC hw6 (pc := 45) zf1 2 (hE.o1 h0) rfl dX1_checkParam_45 zw386 (kk := fun va19 ta19 fa19 => ?_)
          obtain ⟨a19, ma19, rfl⟩ := ta19
          refine z_iconst hC (pc := 48) (v := 3) dX1_checkParam_48 (by decide) ?_
          refine z_iload_n hC (pc := 49) 2 dX1_checkParam_49 rfl rfl ?_
          obtain ⟨q20, hqq20⟩ := hE.o7 ma19
          refine t_callVv hC hw6 (pc := 50) (As := [.int 3, .int x2]) (kX7_fail l G T κ hst hE ma19) trivial dmX7_fail zf7 hqq20 dX1_checkParam_50 zw1155 rfl rfl (Nat.le_of_ble_eq_true rfl) (Nat.le_of_ble_eq_true rfl) (Nat.le_of_ble_eq_true rfl) (Nat.le_of_ble_eq_true rfl) (Nat.le_of_ble_eq_true rfl) (fun E w q hE hw => hO E w _ _ _ _ _ q hE (Nat.le_of_ble_eq_true rfl) (Nat.le_of_ble_eq_true rfl) hw) (fun cw21 nw21 w21 hw21 pw21 => ?_)
          obtain ⟨rfl, rfl, kw21⟩ := pw21
          refine z_lvs [0, 2] rfl ?_
          exact j53 w21 hw21 (tKeep.tr tKeep.rf kw21 rfl)
      · refine z_aload_n hC (pc := 12) 0 dX1_checkParam_12 rfl rfl ?_
        refine u_get hC hw6 (pc := 13) zf1 5 (hE.o1 h0) rfl dX1_checkParam_13 zw389 (kk := fun va23 ta23 fa23 => ?_)
        obtain ⟨a23, ma23, rfl⟩ := ta23
        refine z_iload hC (pc := 16) 4 dX1_checkParam_16 rfl ?_
        refine t_callSNi hC hw6 (pc := 18) (As := [.ref a23, .int x7]) (kX12_get l G T κ hst hE ma23) trivial dmX12_get dX1_checkParam_18 zw999 rfl rfl (Nat.le_of_ble_eq_true rfl) (Nat.le_of_ble_eq_true rfl) (Nat.le_of_ble_eq_true rfl) (Nat.le_of_ble_eq_true rfl) (Nat.le_of_ble_eq_true rfl) (fun _ _ _ h => nomatch h) (fun x25 cw24 nw24 w24 hw24 pw24 => ?_)
        obtain ⟨rfl, rfl, kw24⟩ := pw24
        refine z_iload_n hC (pc := 21) 1 dX1_checkParam_21 rfl rfl ?_
        have j34 : ∀ (w26 : va_W), tW T w26 → tKeep 0x1800000000000000000000000000000000000000000000000000000000000000000000000000000000000000000000000000000000000000000 w24 w26 → zS X G 5 w26 [(0, .ref a0), (1, .int x1), (2, .int x2), (3, .int x3), (4, .int x7)] 0 0 34 [] := by
          intro w26 hw26 kw26
          refine z_iinc hC (pc := 34) (v := (x7 + 1)) (lv' := [(4, .int (x7 + 1)), (0, .ref a0), (1, .int x1), (2, .int x2), (3, .int x3)]) 4 dX1_checkParam_34 rfl (congrArg _ (by decide)) (by decide) rfl ?_
          refine z_goto hC (pc := 37) 3 dX1_checkParam_37 (by decide) ?_
          refine z_lvs [1, 2, 3, 4, 0] rfl ?_
          exact ih3 w26 hw26 (tKeep.tr (tKeep.tr (tKeep.tr tKeep.rf kw6 rfl) kw24 rfl) kw26 rfl) (x7 + 1) (t_nnI v8 (Int32.not_le.mp c10)) (t_up (Int32.not_le.mp c10) hd3)
        refine z_icmp_ne hC (pc := 22) 34 dX1_checkParam_22 (by decide) (fun c27 => ?_) (fun c27 => ?_)
        · exact j34 w24 hw24 tKeep.rf
        · refine z_aload_n hC (pc := 25) 0 dX1_checkParam_25 rfl rfl ?_
          refine u_get hC hw24 (pc := 26) zf1 2 (hE.o1 h0) rfl dX1_checkParam_26 zw386 (kk := fun va28 ta28 fa28 => ?_)
          obtain ⟨a28, ma28, rfl⟩ := ta28
          refine z_iconst hC (pc := 29) (v := 3) dX1_checkParam_29 (by decide) ?_
          refine z_iload_n hC (pc := 30) 2 dX1_checkParam_30 rfl rfl ?_
          obtain ⟨q29, hqq29⟩ := hE.o7 ma28
          refine t_callVv hC hw24 (pc := 31) (As := [.int 3, .int x2]) (kX7_fail l G T κ hst hE ma28) trivial dmX7_fail zf7 hqq29 dX1_checkParam_31 zw1155 rfl rfl (Nat.le_of_ble_eq_true rfl) (Nat.le_of_ble_eq_true rfl) (Nat.le_of_ble_eq_true rfl) (Nat.le_of_ble_eq_true rfl) (Nat.le_of_ble_eq_true rfl) (fun E w q hE hw => hO E w _ _ _ _ _ q hE (Nat.le_of_ble_eq_true rfl) (Nat.le_of_ble_eq_true rfl) hw) (fun cw30 nw30 w30 hw30 pw30 => ?_)
          obtain ⟨rfl, rfl, kw30⟩ := pw30
          exact j34 w30 hw30 (tKeep.tr tKeep.rf kw30 rfl)
  refine z_lvs [1, 2, 3, 4, 0] rfl ?_
  exact j3 _ w0 hw0 tKeep.rf 0 (by decide) (Nat.le_refl _)
set_option maxRecDepth 20000 in
theorem kX2_stringFrom (l : Launch) (G : zG) (T : tT) (κ : Nat → List Nat) (hst : l.stackTraces = false) (hE : tE G T κ) {a0 : Nat} (h0 : a0 ∈ κ 2) {x1 : Int32} : tMi l G T yX2_stringFrom cX2_stringFrom 2 .int [] 0 0 0 0 [.ref a0, .int x1] uT (uPi 0x0) := by
  refine tMi.intro hst rfl (Nat.le_of_ble_eq_true rfl) ?_
  intro w0 hw0 _ X hC hR hO hX
  refine z_ldc hC (pc := 0) (v := 402653184) dX2_stringFrom_0 zw1351 ?_
  refine z_iload_n hC (pc := 2) 1 dX2_stringFrom_2 rfl rfl ?_
  refine z_bipush hC (pc := 3) (v := 12) dX2_stringFrom_3 (by decide) ?_
  refine z_ishl hC (pc := 5) (v := (x1 <<< (12 &&& 31))) dX2_stringFrom_5 rfl ?_
  refine z_ior hC (pc := 6) (v := ((402653184 : Int32) ||| (x1 <<< (12 &&& 31)))) dX2_stringFrom_6 rfl ?_
  refine z_aload_n hC (pc := 7) 0 dX2_stringFrom_7 rfl rfl ?_
  refine u_get hC hw0 (pc := 8) zf2 6 (hE.o2 h0) rfl dX2_stringFrom_8 zw253 (kk := fun vx4 tx4 fx4 => ?_)
  obtain ⟨x4, rfl⟩ := tx4
  refine z_iload_n hC (pc := 11) 1 dX2_stringFrom_11 rfl rfl ?_
  refine z_isub hC (pc := 12) (v := (x4 - x1)) dX2_stringFrom_12 rfl ?_
  refine z_ior hC (pc := 13) (v := (((402653184 : Int32) ||| (x1 <<< (12 &&& 31))) ||| (x4 - x1))) dX2_stringFrom_13 rfl ?_
  exact hR _ _ _ _ _ _ dX2_stringFrom_14 rfl (Nat.le_of_ble_eq_true rfl) (Nat.le_of_ble_eq_true rfl) ⟨hw0, rfl, rfl, tKeep.rf⟩
set_option maxRecDepth 20000 in
theorem kX7_string (l : Launch) (G : zG) (T : tT) (κ : Nat → List Nat) (hst : l.stackTraces = false) (hE : tE G T κ) {a0 : Nat} (h0 : a0 ∈ κ 7) {a1 : Nat} (h1 : a1 ∈ κ 2) {x2 : Int32} : tMi l G T yX7_string cX7_string 6 .int [] 1 22 0 0 [.ref a0, .ref a1, .int x2] uT (uPi 0x200000000000000000000000000000000000000000000000000000000000000000000000000000004000000000000000000000000000000000) := by
  refine tMi.intro hst rfl (Nat.le_of_ble_eq_true rfl) ?_
  intro w0 hw0 _ X hC hR hO hX
  refine z_aload_n hC (pc := 0) 1 dX7_string_0 rfl rfl ?_
  refine u_get hC hw0 (pc := 1) zf2 6 (hE.o2 h1) rfl dX7_string_1 zw255 (kk := fun vx5 tx5 fx5 => ?_)
  obtain ⟨x5, rfl⟩ := tx5
  refine z_istore_n hC (pc := 4) (lv' := [(3, .int x5), (0, .ref a0), (1, .ref a1), (2, .int x2)]) dX7_string_4 rfl (by decide) rfl ?_
  refine z_aload_n hC (pc := 5) 1 dX7_string_5 rfl rfl ?_
  refine u_get hC hw0 (pc := 6) zf7 5 (hE.o7 h0) rfl dX7_string_6 zw122 (kk := fun vx6 tx6 fx6 => ?_)
  obtain ⟨x6, rfl⟩ := tx6
  refine z_iconst hC (pc := 9) (v := 1) dX7_string_9 (by decide) ?_
  refine z_iadd hC (pc := 10) (v := (x6 + 1)) dX7_string_10 rfl ?_
  refine z_istore hC (pc := 11) (lv' := [(4, .int (x6 + 1)), (3, .int x5), (0, .ref a0), (1, .ref a1), (2, .int x2)]) dX7_string_11 (by decide) rfl ?_
  have j13 : ∀ (d13 : Nat), ∀ (w7 : va_W), tW T w7 → tKeep 0x4000000000000000000000000000000000 w0 w7 → ∀ (x8 : Int32), (2 ^ 31 - (x8 : Int32).toInt).toNat ≤ d13 → zS X G 6 w7 [(0, .ref a0), (1, .ref a1), (2, .int x2), (3, .int x5), (4, .int x8)] 0 0 13 [] := by
    intro d13
    induction d13 with
    | zero => intro w7 hw7 kw7 x8 hd13; exact (t_zero hd13).elim
    | succ d13 ih13 =>
      intro w7 hw7 kw7 x8 hd13
      refine z_iload hC (pc := 13) 4 dX7_string_13 rfl ?_
      refine z_iload_n hC (pc := 15) 2 dX7_string_15 rfl rfl ?_
      refine z_icmp_ge hC (pc := 16) 98 dX7_string_16 (by decide) (fun c9 => ?_) (fun c9 => ?_)
      · refine z_aload_n hC (pc := 98) 0 dX7_string_98 rfl rfl ?_
        refine z_iload_n hC (pc := 99) 2 dX7_string_99 rfl rfl ?_
        refine z_iconst hC (pc := 100) (v := 1) dX7_string_100 (by decide) ?_
        refine z_iadd hC (pc := 101) (v := (x2 + 1)) dX7_string_101 rfl ?_
        refine u_put hC hw7 (pc := 102) zf7 5 (hE.o7 h0) rfl ⟨_, rfl⟩ dX7_string_102 zw122 rfl rfl rfl (kk := fun w10 hw10 fw10 kw10 => ?_)
        refine z_aload_n hC (pc := 105) 1 dX7_string_105 rfl rfl ?_
        refine z_iload_n hC (pc := 106) 3 dX7_string_106 rfl rfl ?_
        obtain ⟨q11, hqq11⟩ := hE.o2 h1
        refine t_callVi hC hw10 (pc := 107) (As := [.int x5]) (kX2_stringFrom l G T κ hst hE h1) trivial dmX2_stringFrom zf2 hqq11 dX7_string_107 zw1347 rfl rfl (Nat.le_of_ble_eq_true rfl) (Nat.le_of_ble_eq_true rfl) (Nat.le_of_ble_eq_true rfl) (Nat.le_of_ble_eq_true rfl) (Nat.le_of_ble_eq_true rfl) (fun _ _ _ h => nomatch h) (fun x13 cw12 nw12 w12 hw12 pw12 => ?_)
        obtain ⟨rfl, rfl, kw12⟩ := pw12
        exact hR _ _ _ _ _ _ dX7_string_110 rfl (Nat.le_of_ble_eq_true rfl) (Nat.le_of_ble_eq_true rfl) ⟨hw12, rfl, rfl, (tKeep.tr (tKeep.tr (tKeep.tr tKeep.rf kw7 rfl) kw10 rfl) kw12 rfl)⟩
      · refine z_aload_n hC (pc := 19) 0 dX7_string_19 rfl rfl ?_
        refine z_iload hC (pc := 20) 4 dX7_string_20 rfl ?_
        obtain ⟨q14, hqq14⟩ := hE.o7 h0
        refine t_callVi hC hw7 (pc := 22) (As := [.int x8]) (kX7_at l G T κ hst hE h0) trivial dmX7_at zf7 hqq14 dX7_string_22 zw1161 rfl rfl (Nat.le_of_ble_eq_true rfl) (Nat.le_of_ble_eq_true rfl) (Nat.le_of_ble_eq_true rfl) (Nat.le_of_ble_eq_true rfl) (Nat.le_of_ble_eq_true rfl) (fun _ _ _ h => nomatch h) (fun x16 cw15 nw15 w15 hw15 pw15 => ?_)
        obtain ⟨rfl, rfl, kw15⟩ := pw15
        refine z_istore hC (pc := 25) (lv' := [(5, .int x16), (0, .ref a0), (1, .ref a1), (2, .int x2), (3, .int x5), (4, .int x8)]) dX7_string_25 (by decide) rfl ?_
        refine z_iload hC (pc := 27) 0 dX7_string_27 rfl ?_
        refine z_bipush hC (pc := 29) (v := 92) dX7_string_29 (by decide) ?_
        refine z_icmp_ne hC (pc := 31) 85 dX7_string_31 (by decide) (fun c17 => ?_) (fun c17 => ?_)
        · refine z_aload_n hC (pc := 85) 2 dX7_string_85 rfl rfl ?_
          refine z_iload hC (pc := 86) 0 dX7_string_86 rfl ?_
          refine z_iconst hC (pc := 88) (v := 0) dX7_string_88 (by decide) ?_
          obtain ⟨q18, hqq18⟩ := hE.o2 h1
          refine t_callVv hC hw15 (pc := 89) (As := [.int x16, .int 0]) (kX2_keep l G T κ hst hE h1) trivial dmX2_keep zf2 hqq18 dX7_string_89 zw1346 rfl rfl (Nat.le_of_ble_eq_true rfl) (Nat.le_of_ble_eq_true rfl) (Nat.le_of_ble_eq_true rfl) (Nat.le_of_ble_eq_true rfl) (Nat.le_of_ble_eq_true rfl) (fun _ _ _ h => nomatch h) (fun cw19 nw19 w19 hw19 pw19 => ?_)
          obtain ⟨rfl, rfl, kw19⟩ := pw19
          refine z_iinc hC (pc := 92) (v := (x8 + 1)) (lv' := [(4, .int (x8 + 1)), (5, .int x16), (0, .ref a0), (1, .ref a1), (2, .int x2), (3, .int x5)]) 5 dX7_string_92 rfl (congrArg _ (by decide)) (by decide) rfl ?_
          refine z_goto hC (pc := 95) 13 dX7_string_95 (by decide) ?_
          refine z_lvs [2, 3, 4, 5, 0] rfl ?_
          exact ih13 w19 hw19 (tKeep.tr (tKeep.tr (tKeep.tr tKeep.rf kw7 rfl) kw15 rfl) kw19 rfl) (x8 + 1) (t_up (Int32.not_le.mp c9) hd13)
        · refine z_iload hC (pc := 34) 5 dX7_string_34 rfl ?_
          refine z_iconst hC (pc := 36) (v := 1) dX7_string_36 (by decide) ?_
          refine z_iadd hC (pc := 37) (v := (x8 + 1)) dX7_string_37 rfl ?_
          refine z_iload_n hC (pc := 38) 3 dX7_string_38 rfl rfl ?_
          refine z_icmp_ge hC (pc := 39) 85 dX7_string_39 (by decide) (fun c21 => ?_) (fun c21 => ?_)
          · refine z_aload_n hC (pc := 85) 2 dX7_string_85 rfl rfl ?_
            refine z_iload hC (pc := 86) 0 dX7_string_86 rfl ?_
            refine z_iconst hC (pc := 88) (v := 0) dX7_string_88 (by decide) ?_
            obtain ⟨q22, hqq22⟩ := hE.o2 h1
            refine t_callVv hC hw15 (pc := 89) (As := [.int x16, .int 0]) (kX2_keep l G T κ hst hE h1) trivial dmX2_keep zf2 hqq22 dX7_string_89 zw1346 rfl rfl (Nat.le_of_ble_eq_true rfl) (Nat.le_of_ble_eq_true rfl) (Nat.le_of_ble_eq_true rfl) (Nat.le_of_ble_eq_true rfl) (Nat.le_of_ble_eq_true rfl) (fun _ _ _ h => nomatch h) (fun cw23 nw23 w23 hw23 pw23 => ?_)
            obtain ⟨rfl, rfl, kw23⟩ := pw23
            refine z_iinc hC (pc := 92) (v := (x8 + 1)) (lv' := [(4, .int (x8 + 1)), (5, .int x16), (0, .ref a0), (1, .ref a1), (2, .int x2), (3, .int x5)]) 5 dX7_string_92 rfl (congrArg _ (by decide)) (by decide) rfl ?_
            refine z_goto hC (pc := 95) 13 dX7_string_95 (by decide) ?_
            refine z_lvs [2, 3, 4, 5, 0] rfl ?_
            exact ih13 w23 hw23 (tKeep.tr (tKeep.tr (tKeep.tr tKeep.rf kw7 rfl) kw15 rfl) kw23 rfl) (x8 + 1) (t_up (Int32.not_le.mp c9) hd13)
          · refine z_iinc hC (pc := 42) (v := (x8 + 1)) (lv' := [(4, .int (x8 + 1)), (5, .int x16), (0, .ref a0), (1, .ref a1), (2, .int x2), (3, .int x5)]) 5 dX7_string_42 rfl (congrArg _ (by decide)) (by decide) rfl ?_
            refine z_aload_n hC (pc := 45) 2 dX7_string_45 rfl rfl ?_
            refine z_iload hC (pc := 46) 0 dX7_string_46 rfl ?_
            refine t_callVi hC hw15 (pc := 48) (As := [.int (x8 + 1)]) (kX7_at l G T κ hst hE h0) trivial dmX7_at zf7 hqq14 dX7_string_48 zw1161 rfl rfl (Nat.le_of_ble_eq_true rfl) (Nat.le_of_ble_eq_true rfl) (Nat.le_of_ble_eq_true rfl) (Nat.le_of_ble_eq_true rfl) (Nat.le_of_ble_eq_true rfl) (fun _ _ _ h => nomatch h) (fun x26 cw25 nw25 w25 hw25 pw25 => ?_)
            obtain ⟨rfl, rfl, kw25⟩ := pw25
            refine z_bipush hC (pc := 51) (v := 110) dX7_string_51 (by decide) ?_
            refine z_icmp_ne hC (pc := 53) 61 dX7_string_53 (by decide) (fun c27 => ?_) (fun c27 => ?_)
            · refine z_aload_n hC (pc := 61) 2 dX7_string_61 rfl rfl ?_
              refine z_iload hC (pc := 62) 0 dX7_string_62 rfl ?_
              refine t_callVi hC hw25 (pc := 64) (As := [.int (x8 + 1)]) (kX7_at l G T κ hst hE h0) trivial dmX7_at zf7 hqq14 dX7_string_64 zw1161 rfl rfl (Nat.le_of_ble_eq_true rfl) (Nat.le_of_ble_eq_true rfl) (Nat.le_of_ble_eq_true rfl) (Nat.le_of_ble_eq_true rfl) (Nat.le_of_ble_eq_true rfl) (fun _ _ _ h => nomatch h) (fun x29 cw28 nw28 w28 hw28 pw28 => ?_)
              obtain ⟨rfl, rfl, kw28⟩ := pw28
              refine z_bipush hC (pc := 67) (v := 116) dX7_string_67 (by decide) ?_
              refine z_icmp_ne hC (pc := 69) 77 dX7_string_69 (by decide) (fun c30 => ?_) (fun c30 => ?_)
              · refine z_aload_n hC (pc := 77) 2 dX7_string_77 rfl rfl ?_
                refine z_iload hC (pc := 78) 0 dX7_string_78 rfl ?_
                refine t_callVi hC hw28 (pc := 80) (As := [.int (x8 + 1)]) (kX7_at l G T κ hst hE h0) trivial dmX7_at zf7 hqq14 dX7_string_80 zw1161 rfl rfl (Nat.le_of_ble_eq_true rfl) (Nat.le_of_ble_eq_true rfl) (Nat.le_of_ble_eq_true rfl) (Nat.le_of_ble_eq_true rfl) (Nat.le_of_ble_eq_true rfl) (fun _ _ _ h => nomatch h) (fun x32 cw31 nw31 w31 hw31 pw31 => ?_)
                obtain ⟨rfl, rfl, kw31⟩ := pw31
                refine z_istore hC (pc := 83) (lv' := [(5, .int x32), (4, .int (x8 + 1)), (0, .ref a0), (1, .ref a1), (2, .int x2), (3, .int x5)]) dX7_string_83 (by decide) rfl ?_
                refine z_aload_n hC (pc := 85) 3 dX7_string_85 rfl rfl ?_
                refine z_iload hC (pc := 86) 0 dX7_string_86 rfl ?_
                refine z_iconst hC (pc := 88) (v := 0) dX7_string_88 (by decide) ?_
                obtain ⟨q33, hqq33⟩ := hE.o2 h1
                refine t_callVv hC hw31 (pc := 89) (As := [.int x32, .int 0]) (kX2_keep l G T κ hst hE h1) trivial dmX2_keep zf2 hqq33 dX7_string_89 zw1346 rfl rfl (Nat.le_of_ble_eq_true rfl) (Nat.le_of_ble_eq_true rfl) (Nat.le_of_ble_eq_true rfl) (Nat.le_of_ble_eq_true rfl) (Nat.le_of_ble_eq_true rfl) (fun _ _ _ h => nomatch h) (fun cw34 nw34 w34 hw34 pw34 => ?_)
                obtain ⟨rfl, rfl, kw34⟩ := pw34
                refine z_iinc hC (pc := 92) (v := ((x8 + 1) + 1)) (lv' := [(4, .int ((x8 + 1) + 1)), (5, .int x32), (0, .ref a0), (1, .ref a1), (2, .int x2), (3, .int x5)]) 1 dX7_string_92 rfl (congrArg _ (by decide)) (by decide) rfl ?_
                refine z_goto hC (pc := 95) 13 dX7_string_95 (by decide) ?_
                refine z_lvs [2, 3, 4, 5, 0] rfl ?_
                exact ih13 w34 hw34 (tKeep.tr (tKeep.tr (tKeep.tr (tKeep.tr (tKeep.tr (tKeep.tr tKeep.rf kw7 rfl) kw15 rfl) kw25 rfl) kw28 rfl) kw31 rfl) kw34 rfl) ((x8 + 1) + 1) (by have o1 := Int32.le_toInt x8; have o2 := Int32.toInt_lt x8; have o3 := Int32.le_toInt x2; have o4 := Int32.toInt_lt x2; have o5 := t_fne c9; have o6 : (1 : Int32).toInt = 1 := (by decide); have o7 := t_addO x8 1; have o8 := t_fne c21; have o9 := t_addO (x8 + 1) 1; omega)
              · refine z_bipush hC (pc := 72) (v := 9) dX7_string_72 (by decide) ?_
                refine z_goto hC (pc := 74) 83 dX7_string_74 (by decide) ?_
                refine z_istore hC (pc := 83) (lv' := [(5, .int 9), (4, .int (x8 + 1)), (0, .ref a0), (1, .ref a1), (2, .int x2), (3, .int x5)]) dX7_string_83 (by decide) rfl ?_
                refine z_aload_n hC (pc := 85) 3 dX7_string_85 rfl rfl ?_
                refine z_iload hC (pc := 86) 0 dX7_string_86 rfl ?_
                refine z_iconst hC (pc := 88) (v := 0) dX7_string_88 (by decide) ?_
                obtain ⟨q36, hqq36⟩ := hE.o2 h1
                refine t_callVv hC hw28 (pc := 89) (As := [.int 9, .int 0]) (kX2_keep l G T κ hst hE h1) trivial dmX2_keep zf2 hqq36 dX7_string_89 zw1346 rfl rfl (Nat.le_of_ble_eq_true rfl) (Nat.le_of_ble_eq_true rfl) (Nat.le_of_ble_eq_true rfl) (Nat.le_of_ble_eq_true rfl) (Nat.le_of_ble_eq_true rfl) (fun _ _ _ h => nomatch h) (fun cw37 nw37 w37 hw37 pw37 => ?_)
                obtain ⟨rfl, rfl, kw37⟩ := pw37
                refine z_iinc hC (pc := 92) (v := ((x8 + 1) + 1)) (lv' := [(4, .int ((x8 + 1) + 1)), (5, .int 9), (0, .ref a0), (1, .ref a1), (2, .int x2), (3, .int x5)]) 1 dX7_string_92 rfl (congrArg _ (by decide)) (by decide) rfl ?_
                refine z_goto hC (pc := 95) 13 dX7_string_95 (by decide) ?_
                refine z_lvs [2, 3, 4, 5, 0] rfl ?_
                exact ih13 w37 hw37 (tKeep.tr (tKeep.tr (tKeep.tr (tKeep.tr (tKeep.tr tKeep.rf kw7 rfl) kw15 rfl) kw25 rfl) kw28 rfl) kw37 rfl) ((x8 + 1) + 1) (by have o1 := Int32.le_toInt x8; have o2 := Int32.toInt_lt x8; have o3 := Int32.le_toInt x2; have o4 := Int32.toInt_lt x2; have o5 := t_fne c9; have o6 : (1 : Int32).toInt = 1 := (by decide); have o7 := t_addO x8 1; have o8 := t_fne c21; have o9 := t_addO (x8 + 1) 1; omega)
            · refine z_bipush hC (pc := 56) (v := 10) dX7_string_56 (by decide) ?_
              refine z_goto hC (pc := 58) 83 dX7_string_58 (by decide) ?_
              refine z_istore hC (pc := 83) (lv' := [(5, .int 10), (4, .int (x8 + 1)), (0, .ref a0), (1, .ref a1), (2, .int x2), (3, .int x5)]) dX7_string_83 (by decide) rfl ?_
              refine z_aload_n hC (pc := 85) 3 dX7_string_85 rfl rfl ?_
              refine z_iload hC (pc := 86) 0 dX7_string_86 rfl ?_
              refine z_iconst hC (pc := 88) (v := 0) dX7_string_88 (by decide) ?_
              obtain ⟨q39, hqq39⟩ := hE.o2 h1
              refine t_callVv hC hw25 (pc := 89) (As := [.int 10, .int 0]) (kX2_keep l G T κ hst hE h1) trivial dmX2_keep zf2 hqq39 dX7_string_89 zw1346 rfl rfl (Nat.le_of_ble_eq_true rfl) (Nat.le_of_ble_eq_true rfl) (Nat.le_of_ble_eq_true rfl) (Nat.le_of_ble_eq_true rfl) (Nat.le_of_ble_eq_true rfl) (fun _ _ _ h => nomatch h) (fun cw40 nw40 w40 hw40 pw40 => ?_)
              obtain ⟨rfl, rfl, kw40⟩ := pw40
              refine z_iinc hC (pc := 92) (v := ((x8 + 1) + 1)) (lv' := [(4, .int ((x8 + 1) + 1)), (5, .int 10), (0, .ref a0), (1, .ref a1), (2, .int x2), (3, .int x5)]) 1 dX7_string_92 rfl (congrArg _ (by decide)) (by decide) rfl ?_
              refine z_goto hC (pc := 95) 13 dX7_string_95 (by decide) ?_
              refine z_lvs [2, 3, 4, 5, 0] rfl ?_
              exact ih13 w40 hw40 (tKeep.tr (tKeep.tr (tKeep.tr (tKeep.tr tKeep.rf kw7 rfl) kw15 rfl) kw25 rfl) kw40 rfl) ((x8 + 1) + 1) (by have o1 := Int32.le_toInt x8; have o2 := Int32.toInt_lt x8; have o3 := Int32.le_toInt x2; have o4 := Int32.toInt_lt x2; have o5 := t_fne c9; have o6 : (1 : Int32).toInt = 1 := (by decide); have o7 := t_addO x8 1; have o8 := t_fne c21; have o9 := t_addO (x8 + 1) 1; omega)
  refine z_lvs [2, 3, 4, 1, 0] rfl ?_
  exact j13 _ w0 hw0 tKeep.rf (x6 + 1) (Nat.le_refl _)
set_option maxRecDepth 20000 in
theorem kX10_startConstant (l : Launch) (G : zG) (T : tT) (κ : Nat → List Nat) (hst : l.stackTraces = false) (hE : tE G T κ) {a0 : Nat} (h0 : a0 ∈ κ 10) : tMv l G T yX10_startConstant cX10_startConstant 1 [] 1 23 0 0 [.ref a0] uT (uPv 0x1f00000000000000000000000000000000000000000000000000000000000000000000000000000000000000000000000000000000000000000000000000000000000000000000000000000000000000000) := by
  refine tMv.intro hst rfl (Nat.le_of_ble_eq_true rfl) ?_
  intro w0 hw0 _ X hC hR hO hX
  refine z_aload_n hC (pc := 0) 0 dX10_startConstant_0 rfl rfl ?_
  refine z_iconst hC (pc := 1) (v := 2) dX10_startConstant_1 (by decide) ?_
  refine z_iconst hC (pc := 2) (v := (-1)) dX10_startConstant_2 (by decide) ?_
  refine z_iconst hC (pc := 3) (v := (-1)) dX10_startConstant_3 (by decide) ?_
  obtain ⟨q3, hqq3⟩ := hE.o10 h0
  refine t_callVv hC hw0 (pc := 4) (As := [.int 2, .int (-1), .int (-1)]) (kX10_define l G T κ hst hE h0) trivial dmX10_define zf10 hqq3 dX10_startConstant_4 zw1363 rfl rfl (Nat.le_of_ble_eq_true rfl) (Nat.le_of_ble_eq_true rfl) (Nat.le_of_ble_eq_true rfl) (Nat.le_of_ble_eq_true rfl) (Nat.le_of_ble_eq_true rfl) (fun _ _ _ h => nomatch h) (fun cw4 nw4 w4 hw4 pw4 => ?_)
  obtain ⟨rfl, rfl, kw4⟩ := pw4
  refine z_aload_n hC (pc := 7) 0 dX10_startConstant_7 rfl rfl ?_
  refine z_iconst hC (pc := 8) (v := 0) dX10_startConstant_8 (by decide) ?_
  refine u_put hC hw4 (pc := 9) zf10 8 (hE.o10 h0) rfl (Or.inl rfl) dX10_startConstant_9 zw340 rfl rfl rfl (kk := fun w6 hw6 fw6 kw6 => ?_)
  exact hR _ _ _ _ _ dX10_startConstant_12 (Nat.le_of_ble_eq_true rfl) (Nat.le_of_ble_eq_true rfl) ⟨hw6, rfl, rfl, (tKeep.tr (tKeep.tr tKeep.rf kw4 rfl) kw6 rfl)⟩
set_option maxRecDepth 20000 in
theorem kX7_blanksEnd (l : Launch) (G : zG) (T : tT) (κ : Nat → List Nat) (hst : l.stackTraces = false) (hE : tE G T κ) {a0 : Nat} (h0 : a0 ∈ κ 7) {x1 : Int32} : tMi l G T yX7_blanksEnd cX7_blanksEnd 3 .int [] 0 0 0 0 [.ref a0, .int x1] uT (uPi 0x0) := by
  refine tMi.intro hst rfl (Nat.le_of_ble_eq_true rfl) ?_
  intro w0 hw0 _ X hC hR hO hX
  refine z_iload_n hC (pc := 0) 1 dX7_blanksEnd_0 rfl rfl ?_
  refine z_istore_n hC (pc := 1) (lv' := [(2, .int x1), (0, .ref a0), (1, .int x1)]) dX7_blanksEnd_1 rfl (by decide) rfl ?_
  have j2 : ∀ (d2 : Nat), ∀ (x4 : Int32), (2 ^ 31 - (x4 : Int32).toInt).toNat ≤ d2 → zS X G 3 w0 [(0, .ref a0), (2, .int x4)] 0 0 2 [] := by
    intro d2
    induction d2 with
    | zero => intro x4 hd2; exact (t_zero hd2).elim
    | succ d2 ih2 =>
      intro x4 hd2
      refine z_iload_n hC (pc := 2) 1 dX7_blanksEnd_2 rfl rfl ?_
      have j62 : zS X G 3 w0 [(2, .int x4)] 0 0 62 [] := by
        refine z_iload_n hC (pc := 62) 0 dX7_blanksEnd_62 rfl rfl ?_
        exact hR _ _ _ _ _ _ dX7_blanksEnd_63 rfl (Nat.le_of_ble_eq_true rfl) (Nat.le_of_ble_eq_true rfl) ⟨hw0, rfl, rfl, tKeep.rf⟩
      refine z_if_lt hC (pc := 3) 62 dX7_blanksEnd_3 (by decide) (fun c5 => ?_) (fun c5 => ?_)
      · refine z_lvs [1] rfl ?_
        exact j62
      · refine z_iload_n hC (pc := 6) 1 dX7_blanksEnd_6 rfl rfl ?_
        refine z_aload_n hC (pc := 7) 0 dX7_blanksEnd_7 rfl rfl ?_
        refine u_get hC hw0 (pc := 8) zf7 4 (hE.o7 h0) rfl dX7_blanksEnd_8 zw119 (kk := fun vx6 tx6 fx6 => ?_)
        obtain ⟨x6, rfl⟩ := tx6
        refine z_icmp_ge hC (pc := 11) 62 dX7_blanksEnd_11 (by decide) (fun c7 => ?_) (fun c7 => ?_)
        · refine z_lvs [1] rfl ?_
          exact j62
        · refine z_iload_n hC (pc := 14) 1 dX7_blanksEnd_14 rfl rfl ?_
          refine z_aload_n hC (pc := 15) 0 dX7_blanksEnd_15 rfl rfl ?_
          refine u_get hC hw0 (pc := 16) zf7 0 (hE.o7 h0) rfl dX7_blanksEnd_16 zw115 (kk := fun va8 ta8 fa8 => ?_)
          obtain ⟨a8, ma8, rfl⟩ := ta8
          obtain ⟨N9, hN9, AN9⟩ := hE.byts ma8
          refine u_alenB hC hw0 (pc := 19) (Or.inl AN9) dX7_blanksEnd_19 ?_
          refine z_icmp_ge hC (pc := 20) 62 dX7_blanksEnd_20 (by decide) (fun c10 => ?_) (fun c10 => ?_)
          · refine z_lvs [1] rfl ?_
            exact j62
          · refine z_aload_n hC (pc := 23) 0 dX7_blanksEnd_23 rfl rfl ?_
            refine u_getK hC (pc := 24) zf7 0 fa8 dX7_blanksEnd_24 zw115 (kk := ?_)
            refine z_iload_n hC (pc := 27) 1 dX7_blanksEnd_27 rfl rfl ?_
            refine u_bald hC hw0 (pc := 28) (Or.inl AN9) dX7_blanksEnd_28 (t_inB hN9 c5 c10) (fun x11 => ?_)
            refine z_bipush hC (pc := 29) (v := 32) dX7_blanksEnd_29 (by decide) ?_
            have j56 : zS X G 3 w0 [(0, .ref a0), (2, .int x4)] 0 0 56 [] := by
              refine z_iinc hC (pc := 56) (v := (x4 + 1)) (lv' := [(2, .int (x4 + 1)), (0, .ref a0)]) 1 dX7_blanksEnd_56 rfl (congrArg _ (by decide)) (by decide) rfl ?_
              refine z_goto hC (pc := 59) 2 dX7_blanksEnd_59 (by decide) ?_
              refine z_lvs [1, 0] rfl ?_
              exact ih2 (x4 + 1) (t_up (Int32.not_le.mp c10) hd2)
            refine z_icmp_eq hC (pc := 31) 56 dX7_blanksEnd_31 (by decide) (fun c12 => ?_) (fun c12 => ?_)
            · exact j56
            · refine z_aload_n hC (pc := 34) 0 dX7_blanksEnd_34 rfl rfl ?_
              refine u_getK hC (pc := 35) zf7 0 fa8 dX7_blanksEnd_35 zw115 (kk := ?_)
              refine z_iload_n hC (pc := 38) 1 dX7_blanksEnd_38 rfl rfl ?_
              refine u_bald hC hw0 (pc := 39) (Or.inl AN9) dX7_blanksEnd_39 (t_inB hN9 c5 c10) (fun x13 => ?_)
              refine z_bipush hC (pc := 40) (v := 9) dX7_blanksEnd_40 (by decide) ?_
              refine z_icmp_eq hC (pc := 42) 56 dX7_blanksEnd_42 (by decide) (fun c14 => ?_) (fun c14 => ?_)
              · exact j56
              · refine z_aload_n hC (pc := 45) 0 dX7_blanksEnd_45 rfl rfl ?_
                refine u_getK hC (pc := 46) zf7 0 fa8 dX7_blanksEnd_46 zw115 (kk := ?_)
                refine z_iload_n hC (pc := 49) 1 dX7_blanksEnd_49 rfl rfl ?_
                refine u_bald hC hw0 (pc := 50) (Or.inl AN9) dX7_blanksEnd_50 (t_inB hN9 c5 c10) (fun x15 => ?_)
                refine z_bipush hC (pc := 51) (v := 10) dX7_blanksEnd_51 (by decide) ?_
                refine z_icmp_ne hC (pc := 53) 62 dX7_blanksEnd_53 (by decide) (fun c16 => ?_) (fun c16 => ?_)
                · refine z_lvs [1] rfl ?_
                  exact j62
                · exact j56
  refine z_lvs [1, 0] rfl ?_
  exact j2 _ x1 (Nat.le_refl _)
set_option maxRecDepth 20000 in
theorem kX10_isParamsAhead (l : Launch) (G : zG) (T : tT) (κ : Nat → List Nat) (hst : l.stackTraces = false) (hE : tE G T κ) {a0 : Nat} (h0 : a0 ∈ κ 10) : tMi l G T yX10_isParamsAhead cX10_isParamsAhead 3 .boolean [] 1 24 0 0 [.ref a0] uT (uPz 0x0) := by
  refine tMi.intro hst rfl (Nat.le_of_ble_eq_true rfl) ?_
  intro w0 hw0 _ X hC hR hO hX
  refine z_aload_n hC (pc := 0) 0 dX10_isParamsAhead_0 rfl rfl ?_
  refine u_get hC hw0 (pc := 1) zf10 0 (hE.o10 h0) rfl dX10_isParamsAhead_1 zw330 (kk := fun va3 ta3 fa3 => ?_)
  obtain ⟨a3, ma3, rfl⟩ := ta3
  refine u_get hC hw0 (pc := 4) zf7 5 (hE.o7 ma3) rfl dX10_isParamsAhead_4 zw124 (kk := fun vx4 tx4 fx4 => ?_)
  obtain ⟨x4, rfl⟩ := tx4
  refine z_istore_n hC (pc := 7) (lv' := [(1, .int x4), (0, .ref a0)]) dX10_isParamsAhead_7 rfl (by decide) rfl ?_
  refine z_iconst hC (pc := 8) (v := 0) dX10_isParamsAhead_8 (by decide) ?_
  refine z_istore_n hC (pc := 9) (lv' := [(2, .int 0), (1, .int x4), (0, .ref a0)]) dX10_isParamsAhead_9 rfl (by decide) rfl ?_
  have j10 : ∀ (d10 : Nat), ∀ (w5 : va_W), tW T w5 → tKeep 0x0 w0 w5 → ∀ (x6 : Int32), ∀ (x7 : Int32), ¬ x7 < 0 → (2 ^ 31 - (x7 : Int32).toInt).toNat ≤ d10 → zS X G 3 w5 [(0, .ref a0), (1, .int x6), (2, .int x7)] 0 0 10 [] := by
    intro d10
    induction d10 with
    | zero => intro w5 hw5 kw5 x6 x7 v8 hd10; exact (t_zero hd10).elim
    | succ d10 ih10 =>
      intro w5 hw5 kw5 x6 x7 v8 hd10
      refine z_iload_n hC (pc := 10) 2 dX10_isParamsAhead_10 rfl rfl ?_
      refine z_sipush hC (pc := 11) (v := 4000) dX10_isParamsAhead_11 (by decide) ?_
      refine z_icmp_ge hC (pc := 14) 99 dX10_isParamsAhead_14 (by decide) (fun c9 => ?_) (fun c9 => ?_)
      · refine z_iconst hC (pc := 99) (v := 0) dX10_isParamsAhead_99 (by decide) ?_
        exact hR _ _ _ _ _ _ dX10_isParamsAhead_100 rfl (Nat.le_of_ble_eq_true rfl) (Nat.le_of_ble_eq_true rfl) ⟨hw5, rfl, rfl, (tKeep.tr tKeep.rf kw5 rfl), (Or.inl rfl)⟩
      · refine z_aload_n hC (pc := 17) 0 dX10_isParamsAhead_17 rfl rfl ?_
        refine u_getK hC (pc := 18) zf10 0 (tKeep.F kw5 fa3 rfl) dX10_isParamsAhead_18 zw330 (kk := ?_)
        refine z_iload_n hC (pc := 21) 1 dX10_isParamsAhead_21 rfl rfl ?_
        obtain ⟨q10, hqq10⟩ := hE.o7 ma3
        refine t_callVi hC hw5 (pc := 22) (As := [.int x6]) (kX7_blanksEnd l G T κ hst hE ma3) trivial dmX7_blanksEnd zf7 hqq10 dX10_isParamsAhead_22 zw1375 rfl rfl (Nat.le_of_ble_eq_true rfl) (Nat.le_of_ble_eq_true rfl) (Nat.le_of_ble_eq_true rfl) (Nat.le_of_ble_eq_true rfl) (Nat.le_of_ble_eq_true rfl) (fun _ _ _ h => nomatch h) (fun x12 cw11 nw11 w11 hw11 pw11 => ?_)
        obtain ⟨rfl, rfl, kw11⟩ := pw11
        refine z_istore_n hC (pc := 25) (lv' := [(1, .int x12), (0, .ref a0), (2, .int x7)]) dX10_isParamsAhead_25 rfl (by decide) rfl ?_
        refine z_aload_n hC (pc := 26) 1 dX10_isParamsAhead_26 rfl rfl ?_
        refine u_getK hC (pc := 27) zf10 0 (tKeep.F kw11 (tKeep.F kw5 fa3 rfl) rfl) dX10_isParamsAhead_27 zw330 (kk := ?_)
        refine z_iload_n hC (pc := 30) 0 dX10_isParamsAhead_30 rfl rfl ?_
        refine t_callVi hC hw11 (pc := 31) (As := [.int x12]) (kX7_at l G T κ hst hE ma3) trivial dmX7_at zf7 hqq10 dX10_isParamsAhead_31 zw1379 rfl rfl (Nat.le_of_ble_eq_true rfl) (Nat.le_of_ble_eq_true rfl) (Nat.le_of_ble_eq_true rfl) (Nat.le_of_ble_eq_true rfl) (Nat.le_of_ble_eq_true rfl) (fun _ _ _ h => nomatch h) (fun x14 cw13 nw13 w13 hw13 pw13 => ?_)
        obtain ⟨rfl, rfl, kw13⟩ := pw13
        refine t_callSNi hC hw13 (pc := 34) (As := [.int x14]) (kX12_isLetter l G T κ hst hE) trivial dmX12_isLetter dX10_isParamsAhead_34 zw1380 rfl rfl (Nat.le_of_ble_eq_true rfl) (Nat.le_of_ble_eq_true rfl) (Nat.le_of_ble_eq_true rfl) (Nat.le_of_ble_eq_true rfl) (Nat.le_of_ble_eq_true rfl) (fun _ _ _ h => nomatch h) (fun x16 cw15 nw15 w15 hw15 pw15 => ?_)
        obtain ⟨rfl, rfl, kw15, zx16⟩ := pw15
        refine z_if_ne hC (pc := 37) 42 dX10_isParamsAhead_37 (by decide) (fun c17 => ?_) (fun c17 => ?_)
        · refine z_aload_n hC (pc := 42) 1 dX10_isParamsAhead_42 rfl rfl ?_
          refine u_getK hC (pc := 43) zf10 0 (tKeep.F kw15 (tKeep.F kw13 (tKeep.F kw11 (tKeep.F kw5 fa3 rfl) rfl) rfl) rfl) dX10_isParamsAhead_43 zw330 (kk := ?_)
          refine z_aload_n hC (pc := 46) 1 dX10_isParamsAhead_46 rfl rfl ?_
          refine u_getK hC (pc := 47) zf10 0 (tKeep.F kw15 (tKeep.F kw13 (tKeep.F kw11 (tKeep.F kw5 fa3 rfl) rfl) rfl) rfl) dX10_isParamsAhead_47 zw330 (kk := ?_)
          refine z_iload_n hC (pc := 50) 0 dX10_isParamsAhead_50 rfl rfl ?_
          refine t_callVi hC hw15 (pc := 51) (As := [.int x12]) (kX7_rowEnd l G T κ hst hE ma3) trivial dmX7_rowEnd zf7 hqq10 dX10_isParamsAhead_51 zw1381 rfl rfl (Nat.le_of_ble_eq_true rfl) (Nat.le_of_ble_eq_true rfl) (Nat.le_of_ble_eq_true rfl) (Nat.le_of_ble_eq_true rfl) (Nat.le_of_ble_eq_true rfl) (fun _ _ _ h => nomatch h) (fun x19 cw18 nw18 w18 hw18 pw18 => ?_)
          obtain ⟨rfl, rfl, kw18⟩ := pw18
          refine t_callVi hC hw18 (pc := 54) (As := [.int x19]) (kX7_blanksEnd l G T κ hst hE ma3) trivial dmX7_blanksEnd zf7 hqq10 dX10_isParamsAhead_54 zw1375 rfl rfl (Nat.le_of_ble_eq_true rfl) (Nat.le_of_ble_eq_true rfl) (Nat.le_of_ble_eq_true rfl) (Nat.le_of_ble_eq_true rfl) (Nat.le_of_ble_eq_true rfl) (fun _ _ _ h => nomatch h) (fun x21 cw20 nw20 w20 hw20 pw20 => ?_)
          obtain ⟨rfl, rfl, kw20⟩ := pw20
          refine z_istore_n hC (pc := 57) (lv' := [(1, .int x21), (0, .ref a0), (2, .int x7)]) dX10_isParamsAhead_57 rfl (by decide) rfl ?_
          refine z_aload_n hC (pc := 58) 1 dX10_isParamsAhead_58 rfl rfl ?_
          refine u_getK hC (pc := 59) zf10 0 (tKeep.F kw20 (tKeep.F kw18 (tKeep.F kw15 (tKeep.F kw13 (tKeep.F kw11 (tKeep.F kw5 fa3 rfl) rfl) rfl) rfl) rfl) rfl) dX10_isParamsAhead_59 zw330 (kk := ?_)
          refine z_iload_n hC (pc := 62) 0 dX10_isParamsAhead_62 rfl rfl ?_
          refine t_callVi hC hw20 (pc := 63) (As := [.int x21]) (kX7_at l G T κ hst hE ma3) trivial dmX7_at zf7 hqq10 dX10_isParamsAhead_63 zw1379 rfl rfl (Nat.le_of_ble_eq_true rfl) (Nat.le_of_ble_eq_true rfl) (Nat.le_of_ble_eq_true rfl) (Nat.le_of_ble_eq_true rfl) (Nat.le_of_ble_eq_true rfl) (fun _ _ _ h => nomatch h) (fun x23 cw22 nw22 w22 hw22 pw22 => ?_)
          obtain ⟨rfl, rfl, kw22⟩ := pw22
          refine z_bipush hC (pc := 66) (v := 44) dX10_isParamsAhead_66 (by decide) ?_
          refine z_icmp_eq hC (pc := 68) 90 dX10_isParamsAhead_68 (by decide) (fun c24 => ?_) (fun c24 => ?_)
          · refine z_iinc hC (pc := 90) (v := (x21 + 1)) (lv' := [(1, .int (x21 + 1)), (0, .ref a0), (2, .int x7)]) 0 dX10_isParamsAhead_90 rfl (congrArg _ (by decide)) (by decide) rfl ?_
            refine z_iinc hC (pc := 93) (v := (x7 + 1)) (lv' := [(2, .int (x7 + 1)), (1, .int (x21 + 1)), (0, .ref a0)]) 2 dX10_isParamsAhead_93 rfl (congrArg _ (by decide)) (by decide) rfl ?_
            refine z_goto hC (pc := 96) 10 dX10_isParamsAhead_96 (by decide) ?_
            refine z_lvs [2, 1, 0] rfl ?_
            exact ih10 w22 hw22 (tKeep.tr (tKeep.tr (tKeep.tr (tKeep.tr (tKeep.tr (tKeep.tr (tKeep.tr tKeep.rf kw5 rfl) kw11 rfl) kw13 rfl) kw15 rfl) kw18 rfl) kw20 rfl) kw22 rfl) (x21 + 1) (x7 + 1) (t_nnI v8 (Int32.not_le.mp c9)) (t_up (Int32.not_le.mp c9) hd10)
          · refine z_aload_n hC (pc := 71) 1 dX10_isParamsAhead_71 rfl rfl ?_
            refine u_getK hC (pc := 72) zf10 0 (tKeep.F kw22 (tKeep.F kw20 (tKeep.F kw18 (tKeep.F kw15 (tKeep.F kw13 (tKeep.F kw11 (tKeep.F kw5 fa3 rfl) rfl) rfl) rfl) rfl) rfl) rfl) dX10_isParamsAhead_72 zw330 (kk := ?_)
            refine z_iload_n hC (pc := 75) 0 dX10_isParamsAhead_75 rfl rfl ?_
            refine t_callVi hC hw22 (pc := 76) (As := [.int x21]) (kX7_at l G T κ hst hE ma3) trivial dmX7_at zf7 hqq10 dX10_isParamsAhead_76 zw1379 rfl rfl (Nat.le_of_ble_eq_true rfl) (Nat.le_of_ble_eq_true rfl) (Nat.le_of_ble_eq_true rfl) (Nat.le_of_ble_eq_true rfl) (Nat.le_of_ble_eq_true rfl) (fun _ _ _ h => nomatch h) (fun x26 cw25 nw25 w25 hw25 pw25 => ?_)
            obtain ⟨rfl, rfl, kw25⟩ := pw25
            refine z_bipush hC (pc := 79) (v := 124) dX10_isParamsAhead_79 (by decide) ?_
            have j89 : ∀ (x27 : Int32), tZ (.int x27) → zS X G 3 w25 [] 0 0 89 [.int x27] := by
              intro x27 zx27
              exact hR _ _ _ _ _ _ dX10_isParamsAhead_89 (t_nZ zx27) (Nat.le_of_ble_eq_true rfl) (Nat.le_of_ble_eq_true rfl) ⟨hw25, rfl, rfl, (tKeep.tr (tKeep.tr (tKeep.tr (tKeep.tr (tKeep.tr (tKeep.tr (tKeep.tr (tKeep.tr tKeep.rf kw5 rfl) kw11 rfl) kw13 rfl) kw15 rfl) kw18 rfl) kw20 rfl) kw22 rfl) kw25 rfl), zx27⟩
            refine z_icmp_ne hC (pc := 81) 88 dX10_isParamsAhead_81 (by decide) (fun c28 => ?_) (fun c28 => ?_)
            · refine z_iconst hC (pc := 88) (v := 0) dX10_isParamsAhead_88 (by decide) ?_
              refine z_lvs [] rfl ?_
              exact j89 0 (Or.inl rfl)
            · refine z_iconst hC (pc := 84) (v := 1) dX10_isParamsAhead_84 (by decide) ?_
              refine z_goto hC (pc := 85) 89 dX10_isParamsAhead_85 (by decide) ?_
              refine z_lvs [] rfl ?_
              exact j89 1 (Or.inr rfl)
        · refine z_iconst hC (pc := 40) (v := 0) dX10_isParamsAhead_40 (by decide) ?_
          exact hR _ _ _ _ _ _ dX10_isParamsAhead_41 rfl (Nat.le_of_ble_eq_true rfl) (Nat.le_of_ble_eq_true rfl) ⟨hw15, rfl, rfl, (tKeep.tr (tKeep.tr (tKeep.tr (tKeep.tr tKeep.rf kw5 rfl) kw11 rfl) kw13 rfl) kw15 rfl), (Or.inl rfl)⟩
  refine z_lvs [2, 1, 0] rfl ?_
  exact j10 _ w0 hw0 tKeep.rf x4 0 (by decide) (Nat.le_refl _)
set_option maxRecDepth 20000 in
theorem kX7_blanks (l : Launch) (G : zG) (T : tT) (κ : Nat → List Nat) (hst : l.stackTraces = false) (hE : tE G T κ) {a0 : Nat} (h0 : a0 ∈ κ 7) : tMv l G T yX7_blanks cX7_blanks 1 [] 0 0 0 0 [.ref a0] uT (uPv 0x200000000000000000000000000000000000000000000000000000000000000000000000000000000000000000000000000000000000000000) := by
  refine tMv.intro hst rfl (Nat.le_of_ble_eq_true rfl) ?_
  intro w0 hw0 _ X hC hR hO hX
  have j0 : ∀ (d0 : Nat), ∀ (w3 : va_W), tW T w3 → tKeep 0x200000000000000000000000000000000000000000000000000000000000000000000000000000000000000000000000000000000000000000 w0 w3 → ∀ (x4 : Int32), tF 7 w3 a0 5 (.int x4) → (2 ^ 31 - (x4 : Int32).toInt).toNat ≤ d0 → zS X G 1 w3 [(0, .ref a0)] 0 0 0 [] := by
    intro d0
    induction d0 with
    | zero => intro w3 hw3 kw3 x4 fx4 hd0; exact (t_zero hd0).elim
    | succ d0 ih0 =>
      intro w3 hw3 kw3 x4 fx4 hd0
      refine z_aload_n hC (pc := 0) 0 dX7_blanks_0 rfl rfl ?_
      refine u_getK hC (pc := 1) zf7 5 fx4 dX7_blanks_1 zw122 (kk := ?_)
      have j85 : zS X G 1 w3 [] 0 0 85 [] := by
        exact hR _ _ _ _ _ dX7_blanks_85 (Nat.le_of_ble_eq_true rfl) (Nat.le_of_ble_eq_true rfl) ⟨hw3, rfl, rfl, (tKeep.tr tKeep.rf kw3 rfl)⟩
      refine z_if_lt hC (pc := 4) 85 dX7_blanks_4 (by decide) (fun c5 => ?_) (fun c5 => ?_)
      · refine z_lvs [] rfl ?_
        exact j85
      · refine z_aload_n hC (pc := 7) 0 dX7_blanks_7 rfl rfl ?_
        refine u_getK hC (pc := 8) zf7 5 fx4 dX7_blanks_8 zw122 (kk := ?_)
        refine z_aload_n hC (pc := 11) 0 dX7_blanks_11 rfl rfl ?_
        refine u_get hC hw3 (pc := 12) zf7 4 (hE.o7 h0) rfl dX7_blanks_12 zw119 (kk := fun vx6 tx6 fx6 => ?_)
        obtain ⟨x6, rfl⟩ := tx6
        refine z_icmp_ge hC (pc := 15) 85 dX7_blanks_15 (by decide) (fun c7 => ?_) (fun c7 => ?_)
        · refine z_lvs [] rfl ?_
          exact j85
        · refine z_aload_n hC (pc := 18) 0 dX7_blanks_18 rfl rfl ?_
          refine u_getK hC (pc := 19) zf7 5 fx4 dX7_blanks_19 zw122 (kk := ?_)
          refine z_aload_n hC (pc := 22) 0 dX7_blanks_22 rfl rfl ?_
          refine u_get hC hw3 (pc := 23) zf7 0 (hE.o7 h0) rfl dX7_blanks_23 zw115 (kk := fun va8 ta8 fa8 => ?_)
          obtain ⟨a8, ma8, rfl⟩ := ta8
          obtain ⟨N9, hN9, AN9⟩ := hE.byts ma8
          refine u_alenB hC hw3 (pc := 26) (Or.inl AN9) dX7_blanks_26 ?_
          refine z_icmp_ge hC (pc := 27) 85 dX7_blanks_27 (by decide) (fun c10 => ?_) (fun c10 => ?_)
          · refine z_lvs [] rfl ?_
            exact j85
          · refine z_aload_n hC (pc := 30) 0 dX7_blanks_30 rfl rfl ?_
            refine u_getK hC (pc := 31) zf7 0 fa8 dX7_blanks_31 zw115 (kk := ?_)
            refine z_aload_n hC (pc := 34) 0 dX7_blanks_34 rfl rfl ?_
            refine u_getK hC (pc := 35) zf7 5 fx4 dX7_blanks_35 zw122 (kk := ?_)
            refine u_bald hC hw3 (pc := 38) (Or.inl AN9) dX7_blanks_38 (t_inB hN9 c5 c10) (fun x11 => ?_)
            refine z_bipush hC (pc := 39) (v := 32) dX7_blanks_39 (by decide) ?_
            have j72 : zS X G 1 w3 [(0, .ref a0)] 0 0 72 [] := by
              refine z_aload_n hC (pc := 72) 0 dX7_blanks_72 rfl rfl ?_
              refine z_dup hC (pc := 73) dX7_blanks_73 rfl ?_
              refine u_getK hC (pc := 74) zf7 5 fx4 dX7_blanks_74 zw122 (kk := ?_)
              refine z_iconst hC (pc := 77) (v := 1) dX7_blanks_77 (by decide) ?_
              refine z_iadd hC (pc := 78) (v := (x4 + 1)) dX7_blanks_78 rfl ?_
              refine u_put hC hw3 (pc := 79) zf7 5 (hE.o7 h0) rfl ⟨_, rfl⟩ dX7_blanks_79 zw122 rfl rfl rfl (kk := fun w12 hw12 fw12 kw12 => ?_)
              refine z_goto hC (pc := 82) 0 dX7_blanks_82 (by decide) ?_
              exact ih0 w12 hw12 (tKeep.tr (tKeep.tr tKeep.rf kw3 rfl) kw12 rfl) (x4 + 1) fw12 (t_up (Int32.not_le.mp c10) hd0)
            refine z_icmp_eq hC (pc := 41) 72 dX7_blanks_41 (by decide) (fun c13 => ?_) (fun c13 => ?_)
            · exact j72
            · refine z_aload_n hC (pc := 44) 0 dX7_blanks_44 rfl rfl ?_
              refine u_getK hC (pc := 45) zf7 0 fa8 dX7_blanks_45 zw115 (kk := ?_)
              refine z_aload_n hC (pc := 48) 0 dX7_blanks_48 rfl rfl ?_
              refine u_getK hC (pc := 49) zf7 5 fx4 dX7_blanks_49 zw122 (kk := ?_)
              refine u_bald hC hw3 (pc := 52) (Or.inl AN9) dX7_blanks_52 (t_inB hN9 c5 c10) (fun x14 => ?_)
              refine z_bipush hC (pc := 53) (v := 9) dX7_blanks_53 (by decide) ?_
              refine z_icmp_eq hC (pc := 55) 72 dX7_blanks_55 (by decide) (fun c15 => ?_) (fun c15 => ?_)
              · exact j72
              · refine z_aload_n hC (pc := 58) 0 dX7_blanks_58 rfl rfl ?_
                refine u_getK hC (pc := 59) zf7 0 fa8 dX7_blanks_59 zw115 (kk := ?_)
                refine z_aload_n hC (pc := 62) 0 dX7_blanks_62 rfl rfl ?_
                refine u_getK hC (pc := 63) zf7 5 fx4 dX7_blanks_63 zw122 (kk := ?_)
                refine u_bald hC hw3 (pc := 66) (Or.inl AN9) dX7_blanks_66 (t_inB hN9 c5 c10) (fun x16 => ?_)
                refine z_bipush hC (pc := 67) (v := 10) dX7_blanks_67 (by decide) ?_
                refine z_icmp_ne hC (pc := 69) 85 dX7_blanks_69 (by decide) (fun c17 => ?_) (fun c17 => ?_)
                · refine z_lvs [] rfl ?_
                  exact j85
                · exact j72
  obtain ⟨x18, fx18⟩ := t_fldI hw0 (hE.o7 h0) (f := 5) rfl
  exact j0 _ w0 hw0 tKeep.rf x18 fx18 (Nat.le_refl _)
