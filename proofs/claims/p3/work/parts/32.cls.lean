theorem zw402 : Cond.fieldLink "TemplateHouse$FileReader" 53 "TemplateHouse$FileReader" "hasBody" "Z" ∈ zT := zsub2 162 (by decide +kernel) (by decide +kernel)
theorem zw120 : Cond.fieldLink "TemplateHouse$FileReader" 98 "TemplateHouse$Source" "lim" "I" ∈ zT := zsub1 120 (by decide +kernel) (by decide +kernel)
theorem zw1298 : Cond.methodLink "TemplateHouse$FileReader" 304 ⟨"TemplateHouse$Source", "openBody", "(IIZII)V"⟩ ∈ zT := zsub6 98 (by decide +kernel) (by decide +kernel)
theorem zw336 : Cond.fieldLink "TemplateHouse$TextReader" 18 "TemplateHouse$TextReader" "kind" "I" ∈ zT := zsub2 96 (by decide +kernel) (by decide +kernel)
theorem zw337 : Cond.fieldLink "TemplateHouse$TextReader" 21 "TemplateHouse$TextReader" "owner" "I" ∈ zT := zsub2 97 (by decide +kernel) (by decide +kernel)
theorem zw338 : Cond.fieldLink "TemplateHouse$TextReader" 24 "TemplateHouse$TextReader" "filled" "I" ∈ zT := zsub2 98 (by decide +kernel) (by decide +kernel)
theorem zw266 : Cond.fieldLink "TemplateHouse$TextReader" 66 "TemplateHouse$Gen" "partCount" "I" ∈ zT := zsub2 26 (by decide +kernel) (by decide +kernel)
theorem zw339 : Cond.fieldLink "TemplateHouse$TextReader" 27 "TemplateHouse$TextReader" "firstPart" "I" ∈ zT := zsub2 99 (by decide +kernel) (by decide +kernel)
theorem zw239 : Cond.fieldLink "TemplateHouse$Gen" 26 "TemplateHouse$Gen" "code" "[I" ∈ zT := zsub1 239 (by decide +kernel) (by decide +kernel)
theorem zw1316 : Cond.methodLink "TemplateHouse$Gen" 88 ⟨"TemplateHouse$Gen", "emit", "(I)V"⟩ ∈ zT := zsub6 116 (by decide +kernel) (by decide +kernel)
theorem zw391 : Cond.fieldLink "TemplateHouse$FileReader" 18 "TemplateHouse$FileReader" "params" "I" ∈ zT := zsub2 151 (by decide +kernel) (by decide +kernel)
theorem zw389 : Cond.fieldLink "TemplateHouse$FileReader" 9 "TemplateHouse$FileReader" "names" "[I" ∈ zT := zsub2 149 (by decide +kernel) (by decide +kernel)
theorem zw1233 : Cond.methodLink "TemplateHouse$FileReader" 157 ⟨"TemplateHouse$Source", "sign", "(I)V"⟩ ∈ zT := zsub6 33 (by decide +kernel) (by decide +kernel)
theorem zw1337 : Cond.constant "TemplateHouse$FileReader" 275 (805306368 : Int32) ∈ zT := zsub6 137 (by decide +kernel) (by decide +kernel)
theorem zw1351 : Cond.constant "TemplateHouse$Gen" 92 (402653184 : Int32) ∈ zT := zsub6 151 (by decide +kernel) (by decide +kernel)
theorem zw255 : Cond.fieldLink "TemplateHouse$Source" 128 "TemplateHouse$Gen" "poolEnd" "I" ∈ zT := zsub2 15 (by decide +kernel) (by decide +kernel)
theorem zw1347 : Cond.methodLink "TemplateHouse$Source" 136 ⟨"TemplateHouse$Gen", "stringFrom", "(I)I"⟩ ∈ zT := zsub6 147 (by decide +kernel) (by decide +kernel)
theorem zw1346 : Cond.methodLink "TemplateHouse$Source" 133 ⟨"TemplateHouse$Gen", "keep", "(II)V"⟩ ∈ zT := zsub6 146 (by decide +kernel) (by decide +kernel)
theorem zw1363 : Cond.methodLink "TemplateHouse$TextReader" 71 ⟨"TemplateHouse$TextReader", "define", "(III)V"⟩ ∈ zT := zsub6 163 (by decide +kernel) (by decide +kernel)
theorem zw340 : Cond.fieldLink "TemplateHouse$TextReader" 30 "TemplateHouse$TextReader" "inSub" "Z" ∈ zT := zsub2 100 (by decide +kernel) (by decide +kernel)
theorem zw330 : Cond.fieldLink "TemplateHouse$TextReader" 58 "TemplateHouse$TextReader" "s" "LTemplateHouse$Source;" ∈ zT := zsub2 90 (by decide +kernel) (by decide +kernel)
theorem zw124 : Cond.fieldLink "TemplateHouse$TextReader" 75 "TemplateHouse$Source" "pos" "I" ∈ zT := zsub1 124 (by decide +kernel) (by decide +kernel)
theorem zw1375 : Cond.methodLink "TemplateHouse$TextReader" 326 ⟨"TemplateHouse$Source", "blanksEnd", "(I)I"⟩ ∈ zT := zsub6 175 (by decide +kernel) (by decide +kernel)
theorem zw1379 : Cond.methodLink "TemplateHouse$TextReader" 108 ⟨"TemplateHouse$Source", "at", "(I)I"⟩ ∈ zT := zsub6 179 (by decide +kernel) (by decide +kernel)
theorem zw1380 : Cond.methodLinkNest "TemplateHouse$TextReader" 237 ⟨"TemplateHouse", "isLetter", "(I)Z"⟩ "TemplateHouse" ∈ zNest := zsubN6 180 (by decide +kernel) (by decide +kernel)
theorem zw1381 : Cond.methodLink "TemplateHouse$TextReader" 131 ⟨"TemplateHouse$Source", "rowEnd", "(I)I"⟩ ∈ zT := zsub6 181 (by decide +kernel) (by decide +kernel)
theorem zw342 : Cond.fieldLink "TemplateHouse$TextReader" 37 "TemplateHouse$TextReader" "runLength" "I" ∈ zT := zsub2 102 (by decide +kernel) (by decide +kernel)
theorem zw341 : Cond.fieldLink "TemplateHouse$TextReader" 34 "TemplateHouse$TextReader" "runFrom" "I" ∈ zT := zsub2 101 (by decide +kernel) (by decide +kernel)
theorem zw1370 : Cond.methodLink "TemplateHouse$TextReader" 93 ⟨"TemplateHouse$Gen", "emit", "(III)V"⟩ ∈ zT := zsub6 170 (by decide +kernel) (by decide +kernel)
theorem zw245 : Cond.fieldLink "TemplateHouse$TextReader" 118 "TemplateHouse$Gen" "codeEnd" "I" ∈ zT := zsub2 5 (by decide +kernel) (by decide +kernel)
theorem zw121 : Cond.fieldLink "TemplateHouse$TextReader" 80 "TemplateHouse$Source" "lim" "I" ∈ zT := zsub1 121 (by decide +kernel) (by decide +kernel)
theorem zw1420 : Cond.methodLink "TemplateHouse$TextReader" 162 ⟨"TemplateHouse$Source", "placeOf", "(I)I"⟩ ∈ zT := zsub6 220 (by decide +kernel) (by decide +kernel)
theorem zw1369 : Cond.methodLink "TemplateHouse$TextReader" 104 ⟨"TemplateHouse$Source", "fail", "(II)V"⟩ ∈ zT := zsub6 169 (by decide +kernel) (by decide +kernel)
theorem zw343 : Cond.fieldLink "TemplateHouse$TextReader" 40 "TemplateHouse$TextReader" "lineStart" "Z" ∈ zT := zsub2 103 (by decide +kernel) (by decide +kernel)
theorem zw242 : Cond.fieldLink "TemplateHouse$TextReader" 165 "TemplateHouse$Gen" "code" "[I" ∈ zT := zsub2 2 (by decide +kernel) (by decide +kernel)
theorem zw1398 : Cond.methodLinkNest "TemplateHouse$TextReader" 169 ⟨"TemplateHouse", "set", "([III)V"⟩ "TemplateHouse" ∈ zNest := zsubN6 198 (by decide +kernel) (by decide +kernel)
theorem zw1399 : Cond.methodLink "TemplateHouse$TextReader" 83 ⟨"TemplateHouse$Source", "peek", "()I"⟩ ∈ zT := zsub6 199 (by decide +kernel) (by decide +kernel)
theorem zw1368 : Cond.methodLink "TemplateHouse$TextReader" 90 ⟨"TemplateHouse$Source", "here", "()I"⟩ ∈ zT := zsub6 168 (by decide +kernel) (by decide +kernel)
theorem zw1297 : Cond.code ⟨"TemplateHouse$FileReader", "openBody", "()V"⟩ prog_3_method_19_code 6 (Option.none : Option Jvm.ClassFile.FieldType) ∈ zT := zsub6 97 rfl rfl
theorem zw1296 : Cond.instanceMethod ⟨"TemplateHouse$FileReader", "openBody", "()V"⟩ ∈ zT := zsub6 96 (by decide +kernel) (by decide +kernel)
theorem zwp27 : Cond.selects "TemplateHouse$FileReader" ⟨"TemplateHouse$FileReader", "openBody", "()V"⟩ ⟨"TemplateHouse$FileReader", "openBody", "()V"⟩ ∈ zT := zin 27 (by decide +kernel) (by decide +kernel)
theorem zw1311 : Cond.code ⟨"TemplateHouse$TextReader", "define", "(III)V"⟩ prog_12_method_3_code 4 (Option.none : Option Jvm.ClassFile.FieldType) ∈ zT := zsub6 111 rfl rfl
theorem zw1309 : Cond.instanceMethod ⟨"TemplateHouse$TextReader", "define", "(III)V"⟩ ∈ zT := zsub6 109 (by decide +kernel) (by decide +kernel)
theorem zw1310 : Cond.selects "TemplateHouse$TextReader" ⟨"TemplateHouse$TextReader", "define", "(III)V"⟩ ⟨"TemplateHouse$TextReader", "define", "(III)V"⟩ ∈ zT := zsub6 110 (by decide +kernel) (by decide +kernel)
theorem zw1319 : Cond.code ⟨"TemplateHouse$Gen", "emit", "(I)V"⟩ prog_4_method_3_code 2 (Option.none : Option Jvm.ClassFile.FieldType) ∈ zT := zsub6 119 rfl rfl
theorem zw1317 : Cond.instanceMethod ⟨"TemplateHouse$Gen", "emit", "(I)V"⟩ ∈ zT := zsub6 117 (by decide +kernel) (by decide +kernel)
theorem zw1318 : Cond.selects "TemplateHouse$Gen" ⟨"TemplateHouse$Gen", "emit", "(I)V"⟩ ⟨"TemplateHouse$Gen", "emit", "(I)V"⟩ ∈ zT := zsub6 118 (by decide +kernel) (by decide +kernel)
theorem zw1315 : Cond.code ⟨"TemplateHouse$Gen", "emit", "(III)V"⟩ prog_4_method_5_code 4 (Option.none : Option Jvm.ClassFile.FieldType) ∈ zT := zsub6 115 rfl rfl
theorem zw1313 : Cond.instanceMethod ⟨"TemplateHouse$Gen", "emit", "(III)V"⟩ ∈ zT := zsub6 113 (by decide +kernel) (by decide +kernel)
theorem zw1314 : Cond.selects "TemplateHouse$Gen" ⟨"TemplateHouse$Gen", "emit", "(III)V"⟩ ⟨"TemplateHouse$Gen", "emit", "(III)V"⟩ ∈ zT := zsub6 114 (by decide +kernel) (by decide +kernel)
theorem zw1332 : Cond.code ⟨"TemplateHouse$FileReader", "checkParam", "(IIZ)V"⟩ prog_3_method_13_code 5 (Option.none : Option Jvm.ClassFile.FieldType) ∈ zT := zsub6 132 rfl rfl
theorem zw1331 : Cond.instanceMethod ⟨"TemplateHouse$FileReader", "checkParam", "(IIZ)V"⟩ ∈ zT := zsub6 131 (by decide +kernel) (by decide +kernel)
theorem zwp19 : Cond.selects "TemplateHouse$FileReader" ⟨"TemplateHouse$FileReader", "checkParam", "(IIZ)V"⟩ ⟨"TemplateHouse$FileReader", "checkParam", "(IIZ)V"⟩ ∈ zT := zin 19 (by decide +kernel) (by decide +kernel)
theorem zw1336 : Cond.code ⟨"TemplateHouse$FileReader", "emptyList", "()I"⟩ prog_3_method_14_code 1 (Option.some Jvm.ClassFile.FieldType.int) ∈ zT := zsub6 136 rfl rfl
theorem zw1335 : Cond.instanceMethod ⟨"TemplateHouse$FileReader", "emptyList", "()I"⟩ ∈ zT := zsub6 135 (by decide +kernel) (by decide +kernel)
theorem zwp23 : Cond.selects "TemplateHouse$FileReader" ⟨"TemplateHouse$FileReader", "emptyList", "()I"⟩ ⟨"TemplateHouse$FileReader", "emptyList", "()I"⟩ ∈ zT := zin 23 (by decide +kernel) (by decide +kernel)
theorem zw1350 : Cond.code ⟨"TemplateHouse$Gen", "stringFrom", "(I)I"⟩ prog_4_method_9_code 2 (Option.some Jvm.ClassFile.FieldType.int) ∈ zT := zsub6 150 rfl rfl
theorem zw1348 : Cond.instanceMethod ⟨"TemplateHouse$Gen", "stringFrom", "(I)I"⟩ ∈ zT := zsub6 148 (by decide +kernel) (by decide +kernel)
theorem zw1349 : Cond.selects "TemplateHouse$Gen" ⟨"TemplateHouse$Gen", "stringFrom", "(I)I"⟩ ⟨"TemplateHouse$Gen", "stringFrom", "(I)I"⟩ ∈ zT := zsub6 149 (by decide +kernel) (by decide +kernel)
theorem zw1345 : Cond.code ⟨"TemplateHouse$Source", "string", "(LTemplateHouse$Gen;I)I"⟩ prog_9_method_21_code 6 (Option.some Jvm.ClassFile.FieldType.int) ∈ zT := zsub6 145 rfl rfl
theorem zw1343 : Cond.instanceMethod ⟨"TemplateHouse$Source", "string", "(LTemplateHouse$Gen;I)I"⟩ ∈ zT := zsub6 143 (by decide +kernel) (by decide +kernel)
theorem zw1344 : Cond.selects "TemplateHouse$Source" ⟨"TemplateHouse$Source", "string", "(LTemplateHouse$Gen;I)I"⟩ ⟨"TemplateHouse$Source", "string", "(LTemplateHouse$Gen;I)I"⟩ ∈ zT := zsub6 144 (by decide +kernel) (by decide +kernel)
theorem zw1362 : Cond.code ⟨"TemplateHouse$TextReader", "startConstant", "()V"⟩ prog_12_method_4_code 1 (Option.none : Option Jvm.ClassFile.FieldType) ∈ zT := zsub6 162 rfl rfl
theorem zw1360 : Cond.instanceMethod ⟨"TemplateHouse$TextReader", "startConstant", "()V"⟩ ∈ zT := zsub6 160 (by decide +kernel) (by decide +kernel)
theorem zw1361 : Cond.selects "TemplateHouse$TextReader" ⟨"TemplateHouse$TextReader", "startConstant", "()V"⟩ ⟨"TemplateHouse$TextReader", "startConstant", "()V"⟩ ∈ zT := zsub6 161 (by decide +kernel) (by decide +kernel)
theorem zw1378 : Cond.code ⟨"TemplateHouse$Source", "blanksEnd", "(I)I"⟩ prog_9_method_12_code 3 (Option.some Jvm.ClassFile.FieldType.int) ∈ zT := zsub6 178 rfl rfl
theorem zw1376 : Cond.instanceMethod ⟨"TemplateHouse$Source", "blanksEnd", "(I)I"⟩ ∈ zT := zsub6 176 (by decide +kernel) (by decide +kernel)
theorem zw1377 : Cond.selects "TemplateHouse$Source" ⟨"TemplateHouse$Source", "blanksEnd", "(I)I"⟩ ⟨"TemplateHouse$Source", "blanksEnd", "(I)I"⟩ ∈ zT := zsub6 177 (by decide +kernel) (by decide +kernel)
theorem zw1374 : Cond.code ⟨"TemplateHouse$TextReader", "isParamsAhead", "()Z"⟩ prog_12_method_45_code 3 (Option.some Jvm.ClassFile.FieldType.boolean) ∈ zT := zsub6 174 rfl rfl
theorem zw1373 : Cond.instanceMethod ⟨"TemplateHouse$TextReader", "isParamsAhead", "()Z"⟩ ∈ zT := zsub6 173 (by decide +kernel) (by decide +kernel)
theorem zwp119 : Cond.selects "TemplateHouse$TextReader" ⟨"TemplateHouse$TextReader", "isParamsAhead", "()Z"⟩ ⟨"TemplateHouse$TextReader", "isParamsAhead", "()Z"⟩ ∈ zT := zin 119 (by decide +kernel) (by decide +kernel)
theorem zw1385 : Cond.code ⟨"TemplateHouse$Source", "blanks", "()V"⟩ prog_9_method_11_code 1 (Option.none : Option Jvm.ClassFile.FieldType) ∈ zT := zsub6 185 rfl rfl
theorem zw1383 : Cond.instanceMethod ⟨"TemplateHouse$Source", "blanks", "()V"⟩ ∈ zT := zsub6 183 (by decide +kernel) (by decide +kernel)
theorem zw1384 : Cond.selects "TemplateHouse$Source" ⟨"TemplateHouse$Source", "blanks", "()V"⟩ ⟨"TemplateHouse$Source", "blanks", "()V"⟩ ∈ zT := zsub6 184 (by decide +kernel) (by decide +kernel)
theorem zw1392 : Cond.code ⟨"TemplateHouse$Gen", "paramOf", "(II)I"⟩ prog_4_method_15_code 5 (Option.some Jvm.ClassFile.FieldType.int) ∈ zT := zsub6 192 rfl rfl
theorem zw1390 : Cond.instanceMethod ⟨"TemplateHouse$Gen", "paramOf", "(II)I"⟩ ∈ zT := zsub6 190 (by decide +kernel) (by decide +kernel)
theorem zw1391 : Cond.selects "TemplateHouse$Gen" ⟨"TemplateHouse$Gen", "paramOf", "(II)I"⟩ ⟨"TemplateHouse$Gen", "paramOf", "(II)I"⟩ ∈ zT := zsub6 191 (by decide +kernel) (by decide +kernel)
theorem zw1397 : Cond.code ⟨"TemplateHouse$Gen", "emit", "(II)V"⟩ prog_4_method_4_code 3 (Option.none : Option Jvm.ClassFile.FieldType) ∈ zT := zsub6 197 rfl rfl
theorem zw1395 : Cond.instanceMethod ⟨"TemplateHouse$Gen", "emit", "(II)V"⟩ ∈ zT := zsub6 195 (by decide +kernel) (by decide +kernel)
theorem zw1396 : Cond.selects "TemplateHouse$Gen" ⟨"TemplateHouse$Gen", "emit", "(II)V"⟩ ⟨"TemplateHouse$Gen", "emit", "(II)V"⟩ ∈ zT := zsub6 196 (by decide +kernel) (by decide +kernel)
theorem zw1407 : Cond.code ⟨"TemplateHouse$TextReader", "flush", "()I"⟩ prog_12_method_8_code 1 (Option.some Jvm.ClassFile.FieldType.int) ∈ zT := zsub6 207 rfl rfl
theorem zw1406 : Cond.instanceMethod ⟨"TemplateHouse$TextReader", "flush", "()I"⟩ ∈ zT := zsub6 206 (by decide +kernel) (by decide +kernel)
theorem zwp116 : Cond.selects "TemplateHouse$TextReader" ⟨"TemplateHouse$TextReader", "flush", "()I"⟩ ⟨"TemplateHouse$TextReader", "flush", "()I"⟩ ∈ zT := zin 116 (by decide +kernel) (by decide +kernel)
theorem zw1419 : Cond.code ⟨"TemplateHouse$TextReader", "comment", "()V"⟩ prog_12_method_11_code 2 (Option.none : Option Jvm.ClassFile.FieldType) ∈ zT := zsub6 219 rfl rfl
theorem zw1418 : Cond.instanceMethod ⟨"TemplateHouse$TextReader", "comment", "()V"⟩ ∈ zT := zsub6 218 (by decide +kernel) (by decide +kernel)
theorem zwp110 : Cond.selects "TemplateHouse$TextReader" ⟨"TemplateHouse$TextReader", "comment", "()V"⟩ ⟨"TemplateHouse$TextReader", "comment", "()V"⟩ ∈ zT := zin 110 (by decide +kernel) (by decide +kernel)
theorem zw1424 : Cond.code ⟨"TemplateHouse$TextReader", "restOfLine", "(ZI)V"⟩ prog_12_method_12_code 6 (Option.none : Option Jvm.ClassFile.FieldType) ∈ zT := zsub6 224 rfl rfl
theorem zw1423 : Cond.instanceMethod ⟨"TemplateHouse$TextReader", "restOfLine", "(ZI)V"⟩ ∈ zT := zsub6 223 (by decide +kernel) (by decide +kernel)
theorem zwp134 : Cond.selects "TemplateHouse$TextReader" ⟨"TemplateHouse$TextReader", "restOfLine", "(ZI)V"⟩ ⟨"TemplateHouse$TextReader", "restOfLine", "(ZI)V"⟩ ∈ zT := zin 134 (by decide +kernel) (by decide +kernel)
theorem zw1428 : Cond.code ⟨"TemplateHouse$TextReader", "joinLines", "()V"⟩ prog_12_method_14_code 1 (Option.none : Option Jvm.ClassFile.FieldType) ∈ zT := zsub6 228 rfl rfl
theorem zw1427 : Cond.instanceMethod ⟨"TemplateHouse$TextReader", "joinLines", "()V"⟩ ∈ zT := zsub6 227 (by decide +kernel) (by decide +kernel)
theorem zwp121 : Cond.selects "TemplateHouse$TextReader" ⟨"TemplateHouse$TextReader", "joinLines", "()V"⟩ ⟨"TemplateHouse$TextReader", "joinLines", "()V"⟩ ∈ zT := zin 121 (by decide +kernel) (by decide +kernel)
abbrev cX1_openBody : ByteArray := prog_3_method_19_code
abbrev yX1_openBody : MethodName := ⟨"TemplateHouse$FileReader", "openBody", "()V"⟩
theorem dmX1_openBody : zDv yX1_openBody cX1_openBody 6 none 0 := ⟨⟨⟨by decide +kernel, by decide +kernel, by decide +kernel⟩, zw1297, zw7⟩, zw1296, zwp27⟩
abbrev cX10_define : ByteArray := prog_12_method_3_code
abbrev yX10_define : MethodName := ⟨"TemplateHouse$TextReader", "define", "(III)V"⟩
theorem dmX10_define : zDv yX10_define cX10_define 4 none 3 := ⟨⟨⟨by decide +kernel, by decide +kernel, by decide +kernel⟩, zw1311, zw8⟩, zw1309, zw1310⟩
abbrev cX2_emit : ByteArray := prog_4_method_3_code
abbrev yX2_emit : MethodName := ⟨"TemplateHouse$Gen", "emit", "(I)V"⟩
theorem dmX2_emit : zDv yX2_emit cX2_emit 2 none 1 := ⟨⟨⟨by decide +kernel, by decide +kernel, by decide +kernel⟩, zw1319, zw4⟩, zw1317, zw1318⟩
abbrev cX2_emit__ : ByteArray := prog_4_method_5_code
abbrev yX2_emit__ : MethodName := ⟨"TemplateHouse$Gen", "emit", "(III)V"⟩
theorem dmX2_emit__ : zDv yX2_emit__ cX2_emit__ 4 none 3 := ⟨⟨⟨by decide +kernel, by decide +kernel, by decide +kernel⟩, zw1315, zw4⟩, zw1313, zw1314⟩
abbrev cX1_checkParam : ByteArray := prog_3_method_13_code
abbrev yX1_checkParam : MethodName := ⟨"TemplateHouse$FileReader", "checkParam", "(IIZ)V"⟩
theorem dmX1_checkParam : zDv yX1_checkParam cX1_checkParam 5 none 3 := ⟨⟨⟨by decide +kernel, by decide +kernel, by decide +kernel⟩, zw1332, zw7⟩, zw1331, zwp19⟩
abbrev cX1_emptyList : ByteArray := prog_3_method_14_code
abbrev yX1_emptyList : MethodName := ⟨"TemplateHouse$FileReader", "emptyList", "()I"⟩
theorem dmX1_emptyList : zDv yX1_emptyList cX1_emptyList 1 (some .int) 0 := ⟨⟨⟨by decide +kernel, by decide +kernel, by decide +kernel⟩, zw1336, zw7⟩, zw1335, zwp23⟩
abbrev cX2_stringFrom : ByteArray := prog_4_method_9_code
abbrev yX2_stringFrom : MethodName := ⟨"TemplateHouse$Gen", "stringFrom", "(I)I"⟩
theorem dmX2_stringFrom : zDv yX2_stringFrom cX2_stringFrom 2 (some .int) 1 := ⟨⟨⟨by decide +kernel, by decide +kernel, by decide +kernel⟩, zw1350, zw4⟩, zw1348, zw1349⟩
abbrev cX7_string : ByteArray := prog_9_method_21_code
abbrev yX7_string : MethodName := ⟨"TemplateHouse$Source", "string", "(LTemplateHouse$Gen;I)I"⟩
theorem dmX7_string : zDv yX7_string cX7_string 6 (some .int) 2 := ⟨⟨⟨by decide +kernel, by decide +kernel, by decide +kernel⟩, zw1345, zw3⟩, zw1343, zw1344⟩
abbrev cX10_startConstant : ByteArray := prog_12_method_4_code
abbrev yX10_startConstant : MethodName := ⟨"TemplateHouse$TextReader", "startConstant", "()V"⟩
theorem dmX10_startConstant : zDv yX10_startConstant cX10_startConstant 1 none 0 := ⟨⟨⟨by decide +kernel, by decide +kernel, by decide +kernel⟩, zw1362, zw8⟩, zw1360, zw1361⟩
abbrev cX7_blanksEnd : ByteArray := prog_9_method_12_code
abbrev yX7_blanksEnd : MethodName := ⟨"TemplateHouse$Source", "blanksEnd", "(I)I"⟩
theorem dmX7_blanksEnd : zDv yX7_blanksEnd cX7_blanksEnd 3 (some .int) 1 := ⟨⟨⟨by decide +kernel, by decide +kernel, by decide +kernel⟩, zw1378, zw3⟩, zw1376, zw1377⟩
abbrev cX10_isParamsAhead : ByteArray := prog_12_method_45_code
abbrev yX10_isParamsAhead : MethodName := ⟨"TemplateHouse$TextReader", "isParamsAhead", "()Z"⟩
theorem dmX10_isParamsAhead : zDv yX10_isParamsAhead cX10_isParamsAhead 3 (some .boolean) 0 := ⟨⟨⟨by decide +kernel, by decide +kernel, by decide +kernel⟩, zw1374, zw8⟩, zw1373, zwp119⟩
abbrev cX7_blanks : ByteArray := prog_9_method_11_code
abbrev yX7_blanks : MethodName := ⟨"TemplateHouse$Source", "blanks", "()V"⟩
theorem dmX7_blanks : zDv yX7_blanks cX7_blanks 1 none 0 := ⟨⟨⟨by decide +kernel, by decide +kernel, by decide +kernel⟩, zw1385, zw3⟩, zw1383, zw1384⟩
abbrev cX2_paramOf : ByteArray := prog_4_method_15_code
abbrev yX2_paramOf : MethodName := ⟨"TemplateHouse$Gen", "paramOf", "(II)I"⟩
theorem dmX2_paramOf : zDv yX2_paramOf cX2_paramOf 5 (some .int) 2 := ⟨⟨⟨by decide +kernel, by decide +kernel, by decide +kernel⟩, zw1392, zw4⟩, zw1390, zw1391⟩
abbrev cX2_emit_ : ByteArray := prog_4_method_4_code
abbrev yX2_emit_ : MethodName := ⟨"TemplateHouse$Gen", "emit", "(II)V"⟩
theorem dmX2_emit_ : zDv yX2_emit_ cX2_emit_ 3 none 2 := ⟨⟨⟨by decide +kernel, by decide +kernel, by decide +kernel⟩, zw1397, zw4⟩, zw1395, zw1396⟩
abbrev cX10_flush : ByteArray := prog_12_method_8_code
abbrev yX10_flush : MethodName := ⟨"TemplateHouse$TextReader", "flush", "()I"⟩
theorem dmX10_flush : zDv yX10_flush cX10_flush 1 (some .int) 0 := ⟨⟨⟨by decide +kernel, by decide +kernel, by decide +kernel⟩, zw1407, zw8⟩, zw1406, zwp116⟩
abbrev cX10_comment : ByteArray := prog_12_method_11_code
abbrev yX10_comment : MethodName := ⟨"TemplateHouse$TextReader", "comment", "()V"⟩
theorem dmX10_comment : zDv yX10_comment cX10_comment 2 none 0 := ⟨⟨⟨by decide +kernel, by decide +kernel, by decide +kernel⟩, zw1419, zw8⟩, zw1418, zwp110⟩
abbrev cX10_restOfLine : ByteArray := prog_12_method_12_code
abbrev yX10_restOfLine : MethodName := ⟨"TemplateHouse$TextReader", "restOfLine", "(ZI)V"⟩
theorem dmX10_restOfLine : zDv yX10_restOfLine cX10_restOfLine 6 none 2 := ⟨⟨⟨by decide +kernel, by decide +kernel, by decide +kernel⟩, zw1424, zw8⟩, zw1423, zwp134⟩
abbrev cX10_joinLines : ByteArray := prog_12_method_14_code
abbrev yX10_joinLines : MethodName := ⟨"TemplateHouse$TextReader", "joinLines", "()V"⟩
theorem dmX10_joinLines : zDv yX10_joinLines cX10_joinLines 1 none 0 := ⟨⟨⟨by decide +kernel, by decide +kernel, by decide +kernel⟩, zw1428, zw8⟩, zw1427, zwp121⟩
theorem dX1_openBody_0 : decode cX1_openBody 0 = .ok (.aload_n 0, 1) := by decide +kernel
theorem dX1_openBody_1 : decode cX1_openBody 1 = .ok (.iconst 1, 1) := by decide +kernel
theorem dX1_openBody_2 : decode cX1_openBody 2 = .ok (.putfield 53, 3) := by decide +kernel
theorem dX1_openBody_5 : decode cX1_openBody 5 = .ok (.aload_n 0, 1) := by decide +kernel
theorem dX1_openBody_6 : decode cX1_openBody 6 = .ok (.getfield 68, 3) := by decide +kernel
theorem dX1_openBody_9 : decode cX1_openBody 9 = .ok (.invokevirtual 90, 3) := by decide +kernel
theorem dX1_openBody_12 : decode cX1_openBody 12 = .ok (.aload_n 0, 1) := by decide +kernel
theorem dX1_openBody_13 : decode cX1_openBody 13 = .ok (.getfield 68, 3) := by decide +kernel
theorem dX1_openBody_16 : decode cX1_openBody 16 = .ok (.getfield 95, 3) := by decide +kernel
theorem dX1_openBody_19 : decode cX1_openBody 19 = .ok (.iconst 2, 1) := by decide +kernel
theorem dX1_openBody_20 : decode cX1_openBody 20 = .ok (.iadd, 1) := by decide +kernel
theorem dX1_openBody_21 : decode cX1_openBody 21 = .ok (.istore_n 1, 1) := by decide +kernel
theorem dX1_openBody_22 : decode cX1_openBody 22 = .ok (.aload_n 0, 1) := by decide +kernel
theorem dX1_openBody_23 : decode cX1_openBody 23 = .ok (.getfield 68, 3) := by decide +kernel
theorem dX1_openBody_26 : decode cX1_openBody 26 = .ok (.invokevirtual 165, 3) := by decide +kernel
theorem dX1_openBody_29 : decode cX1_openBody 29 = .ok (.bipush 34, 2) := by decide +kernel
theorem dX1_openBody_31 : decode cX1_openBody 31 = .ok (.if_icmp .ne 34, 3) := by decide +kernel
theorem dX1_openBody_65 : decode cX1_openBody 65 = .ok (.aload_n 0, 1) := by decide +kernel
theorem dX1_openBody_66 : decode cX1_openBody 66 = .ok (.getfield 68, 3) := by decide +kernel
theorem dX1_openBody_69 : decode cX1_openBody 69 = .ok (.aload_n 0, 1) := by decide +kernel
theorem dX1_openBody_70 : decode cX1_openBody 70 = .ok (.getfield 68, 3) := by decide +kernel
theorem dX1_openBody_73 : decode cX1_openBody 73 = .ok (.getfield 95, 3) := by decide +kernel
theorem dX1_openBody_76 : decode cX1_openBody 76 = .ok (.iconst 1, 1) := by decide +kernel
theorem dX1_openBody_77 : decode cX1_openBody 77 = .ok (.iadd, 1) := by decide +kernel
theorem dX1_openBody_78 : decode cX1_openBody 78 = .ok (.invokevirtual 184, 3) := by decide +kernel
theorem dX1_openBody_81 : decode cX1_openBody 81 = .ok (.istore_n 2, 1) := by decide +kernel
theorem dX1_openBody_82 : decode cX1_openBody 82 = .ok (.aload_n 0, 1) := by decide +kernel
theorem dX1_openBody_83 : decode cX1_openBody 83 = .ok (.getfield 68, 3) := by decide +kernel
theorem dX1_openBody_86 : decode cX1_openBody 86 = .ok (.invokevirtual 165, 3) := by decide +kernel
theorem dX1_openBody_89 : decode cX1_openBody 89 = .ok (.bipush 60, 2) := by decide +kernel
theorem dX1_openBody_91 : decode cX1_openBody 91 = .ok (.if_icmp .ne 15, 3) := by decide +kernel
theorem dX1_openBody_121 : decode cX1_openBody 121 = .ok (.iload_n 2, 1) := by decide +kernel
theorem dX1_openBody_122 : decode cX1_openBody 122 = .ok (.bipush 60, 2) := by decide +kernel
theorem dX1_openBody_124 : decode cX1_openBody 124 = .ok (.if_icmp .ne 8, 3) := by decide +kernel
theorem dX1_openBody_134 : decode cX1_openBody 134 = .ok (.istore_n 3, 1) := by decide +kernel
theorem dX1_openBody_135 : decode cX1_openBody 135 = .ok (.iload_n 1, 1) := by decide +kernel
theorem dX1_openBody_136 : decode cX1_openBody 136 = .ok (.istore 4, 2) := by decide +kernel
theorem dX1_openBody_138 : decode cX1_openBody 138 = .ok (.iload 4, 2) := by decide +kernel
theorem dX1_openBody_140 : decode cX1_openBody 140 = .ok (.aload_n 0, 1) := by decide +kernel
theorem dX1_openBody_141 : decode cX1_openBody 141 = .ok (.getfield 68, 3) := by decide +kernel
theorem dX1_openBody_144 : decode cX1_openBody 144 = .ok (.getfield 98, 3) := by decide +kernel
theorem dX1_openBody_147 : decode cX1_openBody 147 = .ok (.if_icmp .ge 38, 3) := by decide +kernel
theorem dX1_openBody_185 : decode cX1_openBody 185 = .ok (.iload 4, 2) := by decide +kernel
theorem dX1_openBody_187 : decode cX1_openBody 187 = .ok (.aload_n 0, 1) := by decide +kernel
theorem dX1_openBody_188 : decode cX1_openBody 188 = .ok (.getfield 68, 3) := by decide +kernel
theorem dX1_openBody_191 : decode cX1_openBody 191 = .ok (.getfield 98, 3) := by decide +kernel
theorem dX1_openBody_194 : decode cX1_openBody 194 = .ok (.if_icmp .lt 18, 3) := by decide +kernel
theorem dX1_openBody_212 : decode cX1_openBody 212 = .ok (.iload 4, 2) := by decide +kernel
theorem dX1_openBody_214 : decode cX1_openBody 214 = .ok (.istore 5, 2) := by decide +kernel
theorem dX1_openBody_216 : decode cX1_openBody 216 = .ok (.iload_n 3, 1) := by decide +kernel
theorem dX1_openBody_217 : decode cX1_openBody 217 = .ok (.bipush 62, 2) := by decide +kernel
theorem dX1_openBody_219 : decode cX1_openBody 219 = .ok (.if_icmp .ne 62, 3) := by decide +kernel
theorem dX1_openBody_281 : decode cX1_openBody 281 = .ok (.aload_n 0, 1) := by decide +kernel
theorem dX1_openBody_282 : decode cX1_openBody 282 = .ok (.getfield 68, 3) := by decide +kernel
theorem dX1_openBody_285 : decode cX1_openBody 285 = .ok (.iload_n 1, 1) := by decide +kernel
theorem dX1_openBody_286 : decode cX1_openBody 286 = .ok (.iload 5, 2) := by decide +kernel
theorem dX1_openBody_288 : decode cX1_openBody 288 = .ok (.iload_n 3, 1) := by decide +kernel
theorem dX1_openBody_289 : decode cX1_openBody 289 = .ok (.bipush 37, 2) := by decide +kernel
theorem dX1_openBody_291 : decode cX1_openBody 291 = .ok (.if_icmp .ne 7, 3) := by decide +kernel
theorem dX1_openBody_299 : decode cX1_openBody 299 = .ok (.iload 4, 2) := by decide +kernel
theorem dX1_openBody_301 : decode cX1_openBody 301 = .ok (.iload 4, 2) := by decide +kernel
theorem dX1_openBody_303 : decode cX1_openBody 303 = .ok (.iconst 2, 1) := by decide +kernel
theorem dX1_openBody_304 : decode cX1_openBody 304 = .ok (.iadd, 1) := by decide +kernel
theorem dX1_openBody_305 : decode cX1_openBody 305 = .ok (.invokevirtual 304, 3) := by decide +kernel
theorem dX1_openBody_308 : decode cX1_openBody 308 = .ok (.return_, 1) := by decide +kernel
theorem dX1_openBody_298 : decode cX1_openBody 298 = .ok (.iconst 0, 1) := by decide +kernel
theorem dX1_openBody_294 : decode cX1_openBody 294 = .ok (.iconst 1, 1) := by decide +kernel
theorem dX1_openBody_295 : decode cX1_openBody 295 = .ok (.goto 4, 3) := by decide +kernel
theorem dX1_openBody_222 : decode cX1_openBody 222 = .ok (.iload_n 1, 1) := by decide +kernel
theorem dX1_openBody_223 : decode cX1_openBody 223 = .ok (.iload_n 1, 1) := by decide +kernel
theorem dX1_openBody_224 : decode cX1_openBody 224 = .ok (.iload 5, 2) := by decide +kernel
theorem dX1_openBody_226 : decode cX1_openBody 226 = .ok (.if_icmp .ge 20, 3) := by decide +kernel
theorem dX1_openBody_247 : decode cX1_openBody 247 = .ok (.iadd, 1) := by decide +kernel
theorem dX1_openBody_248 : decode cX1_openBody 248 = .ok (.istore_n 1, 1) := by decide +kernel
theorem dX1_openBody_249 : decode cX1_openBody 249 = .ok (.iload 5, 2) := by decide +kernel
theorem dX1_openBody_251 : decode cX1_openBody 251 = .ok (.iload_n 1, 1) := by decide +kernel
theorem dX1_openBody_252 : decode cX1_openBody 252 = .ok (.iload 5, 2) := by decide +kernel
theorem dX1_openBody_254 : decode cX1_openBody 254 = .ok (.if_icmp .ge 23, 3) := by decide +kernel
theorem dX1_openBody_278 : decode cX1_openBody 278 = .ok (.isub, 1) := by decide +kernel
theorem dX1_openBody_279 : decode cX1_openBody 279 = .ok (.istore 5, 2) := by decide +kernel
theorem dX1_openBody_277 : decode cX1_openBody 277 = .ok (.iconst 0, 1) := by decide +kernel
theorem dX1_openBody_257 : decode cX1_openBody 257 = .ok (.aload_n 0, 1) := by decide +kernel
theorem dX1_openBody_258 : decode cX1_openBody 258 = .ok (.getfield 68, 3) := by decide +kernel
theorem dX1_openBody_261 : decode cX1_openBody 261 = .ok (.iload 5, 2) := by decide +kernel
theorem dX1_openBody_263 : decode cX1_openBody 263 = .ok (.iconst 1, 1) := by decide +kernel
theorem dX1_openBody_264 : decode cX1_openBody 264 = .ok (.isub, 1) := by decide +kernel
theorem dX1_openBody_265 : decode cX1_openBody 265 = .ok (.invokevirtual 184, 3) := by decide +kernel
theorem dX1_openBody_268 : decode cX1_openBody 268 = .ok (.bipush 10, 2) := by decide +kernel
theorem dX1_openBody_270 : decode cX1_openBody 270 = .ok (.if_icmp .ne 7, 3) := by decide +kernel
theorem dX1_openBody_273 : decode cX1_openBody 273 = .ok (.iconst 1, 1) := by decide +kernel
theorem dX1_openBody_274 : decode cX1_openBody 274 = .ok (.goto 4, 3) := by decide +kernel
theorem dX1_openBody_246 : decode cX1_openBody 246 = .ok (.iconst 0, 1) := by decide +kernel
theorem dX1_openBody_229 : decode cX1_openBody 229 = .ok (.aload_n 0, 1) := by decide +kernel
theorem dX1_openBody_230 : decode cX1_openBody 230 = .ok (.getfield 68, 3) := by decide +kernel
theorem dX1_openBody_233 : decode cX1_openBody 233 = .ok (.iload_n 1, 1) := by decide +kernel
theorem dX1_openBody_234 : decode cX1_openBody 234 = .ok (.invokevirtual 184, 3) := by decide +kernel
theorem dX1_openBody_237 : decode cX1_openBody 237 = .ok (.bipush 10, 2) := by decide +kernel
theorem dX1_openBody_239 : decode cX1_openBody 239 = .ok (.if_icmp .ne 7, 3) := by decide +kernel
theorem dX1_openBody_242 : decode cX1_openBody 242 = .ok (.iconst 1, 1) := by decide +kernel
theorem dX1_openBody_243 : decode cX1_openBody 243 = .ok (.goto 4, 3) := by decide +kernel
theorem dX1_openBody_197 : decode cX1_openBody 197 = .ok (.aload_n 0, 1) := by decide +kernel
theorem dX1_openBody_198 : decode cX1_openBody 198 = .ok (.getfield 68, 3) := by decide +kernel
theorem dX1_openBody_201 : decode cX1_openBody 201 = .ok (.iconst 1, 1) := by decide +kernel
theorem dX1_openBody_202 : decode cX1_openBody 202 = .ok (.aload_n 0, 1) := by decide +kernel
theorem dX1_openBody_203 : decode cX1_openBody 203 = .ok (.getfield 68, 3) := by decide +kernel
theorem dX1_openBody_206 : decode cX1_openBody 206 = .ok (.getfield 98, 3) := by decide +kernel
theorem dX1_openBody_209 : decode cX1_openBody 209 = .ok (.invokevirtual 168, 3) := by decide +kernel
theorem dX1_openBody_150 : decode cX1_openBody 150 = .ok (.aload_n 0, 1) := by decide +kernel
theorem dX1_openBody_151 : decode cX1_openBody 151 = .ok (.getfield 68, 3) := by decide +kernel
theorem dX1_openBody_154 : decode cX1_openBody 154 = .ok (.iload 4, 2) := by decide +kernel
theorem dX1_openBody_156 : decode cX1_openBody 156 = .ok (.invokevirtual 184, 3) := by decide +kernel
theorem dX1_openBody_159 : decode cX1_openBody 159 = .ok (.iload_n 3, 1) := by decide +kernel
theorem dX1_openBody_160 : decode cX1_openBody 160 = .ok (.if_icmp .ne 19, 3) := by decide +kernel
theorem dX1_openBody_179 : decode cX1_openBody 179 = .ok (.iinc 4 1, 3) := by decide +kernel
theorem dX1_openBody_182 : decode cX1_openBody 182 = .ok (.goto (-44), 3) := by decide +kernel
theorem dX1_openBody_163 : decode cX1_openBody 163 = .ok (.aload_n 0, 1) := by decide +kernel
theorem dX1_openBody_164 : decode cX1_openBody 164 = .ok (.getfield 68, 3) := by decide +kernel
theorem dX1_openBody_167 : decode cX1_openBody 167 = .ok (.iload 4, 2) := by decide +kernel
theorem dX1_openBody_169 : decode cX1_openBody 169 = .ok (.iconst 1, 1) := by decide +kernel
theorem dX1_openBody_170 : decode cX1_openBody 170 = .ok (.iadd, 1) := by decide +kernel
theorem dX1_openBody_171 : decode cX1_openBody 171 = .ok (.invokevirtual 184, 3) := by decide +kernel
theorem dX1_openBody_174 : decode cX1_openBody 174 = .ok (.bipush 62, 2) := by decide +kernel
theorem dX1_openBody_176 : decode cX1_openBody 176 = .ok (.if_icmp .eq 9, 3) := by decide +kernel
theorem dX1_openBody_132 : decode cX1_openBody 132 = .ok (.bipush 37, 2) := by decide +kernel
theorem dX1_openBody_127 : decode cX1_openBody 127 = .ok (.bipush 62, 2) := by decide +kernel
theorem dX1_openBody_129 : decode cX1_openBody 129 = .ok (.goto 5, 3) := by decide +kernel
theorem dX1_openBody_106 : decode cX1_openBody 106 = .ok (.aload_n 0, 1) := by decide +kernel
theorem dX1_openBody_107 : decode cX1_openBody 107 = .ok (.getfield 68, 3) := by decide +kernel
theorem dX1_openBody_110 : decode cX1_openBody 110 = .ok (.iconst 1, 1) := by decide +kernel
theorem dX1_openBody_111 : decode cX1_openBody 111 = .ok (.aload_n 0, 1) := by decide +kernel
theorem dX1_openBody_112 : decode cX1_openBody 112 = .ok (.getfield 68, 3) := by decide +kernel
theorem dX1_openBody_115 : decode cX1_openBody 115 = .ok (.getfield 95, 3) := by decide +kernel
theorem dX1_openBody_118 : decode cX1_openBody 118 = .ok (.invokevirtual 168, 3) := by decide +kernel
theorem dX1_openBody_94 : decode cX1_openBody 94 = .ok (.iload_n 2, 1) := by decide +kernel
theorem dX1_openBody_95 : decode cX1_openBody 95 = .ok (.bipush 60, 2) := by decide +kernel
theorem dX1_openBody_97 : decode cX1_openBody 97 = .ok (.if_icmp .eq 24, 3) := by decide +kernel
theorem dX1_openBody_100 : decode cX1_openBody 100 = .ok (.iload_n 2, 1) := by decide +kernel
theorem dX1_openBody_101 : decode cX1_openBody 101 = .ok (.bipush 37, 2) := by decide +kernel
theorem dX1_openBody_103 : decode cX1_openBody 103 = .ok (.if_icmp .eq 18, 3) := by decide +kernel
theorem dX1_openBody_34 : decode cX1_openBody 34 = .ok (.aload_n 0, 1) := by decide +kernel
theorem dX1_openBody_35 : decode cX1_openBody 35 = .ok (.getfield 68, 3) := by decide +kernel
theorem dX1_openBody_38 : decode cX1_openBody 38 = .ok (.invokevirtual 181, 3) := by decide +kernel
theorem dX1_openBody_41 : decode cX1_openBody 41 = .ok (.istore_n 2, 1) := by decide +kernel
theorem dX1_openBody_42 : decode cX1_openBody 42 = .ok (.aload_n 0, 1) := by decide +kernel
theorem dX1_openBody_43 : decode cX1_openBody 43 = .ok (.getfield 68, 3) := by decide +kernel
theorem dX1_openBody_46 : decode cX1_openBody 46 = .ok (.aload_n 0, 1) := by decide +kernel
theorem dX1_openBody_47 : decode cX1_openBody 47 = .ok (.getfield 68, 3) := by decide +kernel
theorem dX1_openBody_50 : decode cX1_openBody 50 = .ok (.getfield 95, 3) := by decide +kernel
theorem dX1_openBody_53 : decode cX1_openBody 53 = .ok (.iconst 1, 1) := by decide +kernel
theorem dX1_openBody_54 : decode cX1_openBody 54 = .ok (.iadd, 1) := by decide +kernel
theorem dX1_openBody_55 : decode cX1_openBody 55 = .ok (.iload_n 2, 1) := by decide +kernel
theorem dX1_openBody_56 : decode cX1_openBody 56 = .ok (.iconst 0, 1) := by decide +kernel
theorem dX1_openBody_57 : decode cX1_openBody 57 = .ok (.iload_n 2, 1) := by decide +kernel
theorem dX1_openBody_58 : decode cX1_openBody 58 = .ok (.iload_n 2, 1) := by decide +kernel
theorem dX1_openBody_59 : decode cX1_openBody 59 = .ok (.iconst 1, 1) := by decide +kernel
theorem dX1_openBody_60 : decode cX1_openBody 60 = .ok (.iadd, 1) := by decide +kernel
theorem dX1_openBody_61 : decode cX1_openBody 61 = .ok (.invokevirtual 304, 3) := by decide +kernel
theorem dX1_openBody_64 : decode cX1_openBody 64 = .ok (.return_, 1) := by decide +kernel
theorem dX10_define_0 : decode cX10_define 0 = .ok (.aload_n 0, 1) := by decide +kernel
theorem dX10_define_1 : decode cX10_define 1 = .ok (.iload_n 1, 1) := by decide +kernel
theorem dX10_define_2 : decode cX10_define 2 = .ok (.putfield 18, 3) := by decide +kernel
theorem dX10_define_5 : decode cX10_define 5 = .ok (.aload_n 0, 1) := by decide +kernel
theorem dX10_define_6 : decode cX10_define 6 = .ok (.iload_n 2, 1) := by decide +kernel
theorem dX10_define_7 : decode cX10_define 7 = .ok (.putfield 21, 3) := by decide +kernel
theorem dX10_define_10 : decode cX10_define 10 = .ok (.aload_n 0, 1) := by decide +kernel
theorem dX10_define_11 : decode cX10_define 11 = .ok (.iload_n 3, 1) := by decide +kernel
theorem dX10_define_12 : decode cX10_define 12 = .ok (.putfield 24, 3) := by decide +kernel
theorem dX10_define_15 : decode cX10_define 15 = .ok (.aload_n 0, 1) := by decide +kernel
theorem dX10_define_16 : decode cX10_define 16 = .ok (.aload_n 0, 1) := by decide +kernel
theorem dX10_define_17 : decode cX10_define 17 = .ok (.getfield 62, 3) := by decide +kernel
theorem dX10_define_20 : decode cX10_define 20 = .ok (.getfield 66, 3) := by decide +kernel
theorem dX10_define_23 : decode cX10_define 23 = .ok (.putfield 27, 3) := by decide +kernel
theorem dX10_define_26 : decode cX10_define 26 = .ok (.return_, 1) := by decide +kernel
theorem dX2_emit_0 : decode cX2_emit 0 = .ok (.aload_n 0, 1) := by decide +kernel
theorem dX2_emit_1 : decode cX2_emit 1 = .ok (.getfield 30, 3) := by decide +kernel
theorem dX2_emit_4 : decode cX2_emit 4 = .ok (.ifCond .lt 35, 3) := by decide +kernel
theorem dX2_emit_39 : decode cX2_emit 39 = .ok (.return_, 1) := by decide +kernel
theorem dX2_emit_7 : decode cX2_emit 7 = .ok (.aload_n 0, 1) := by decide +kernel
theorem dX2_emit_8 : decode cX2_emit 8 = .ok (.getfield 30, 3) := by decide +kernel
theorem dX2_emit_11 : decode cX2_emit 11 = .ok (.aload_n 0, 1) := by decide +kernel
theorem dX2_emit_12 : decode cX2_emit 12 = .ok (.getfield 26, 3) := by decide +kernel
theorem dX2_emit_15 : decode cX2_emit 15 = .ok (.arraylength, 1) := by decide +kernel
theorem dX2_emit_16 : decode cX2_emit 16 = .ok (.if_icmp .ge 23, 3) := by decide +kernel
theorem dX2_emit_19 : decode cX2_emit 19 = .ok (.aload_n 0, 1) := by decide +kernel
theorem dX2_emit_20 : decode cX2_emit 20 = .ok (.getfield 26, 3) := by decide +kernel
theorem dX2_emit_23 : decode cX2_emit 23 = .ok (.aload_n 0, 1) := by decide +kernel
theorem dX2_emit_24 : decode cX2_emit 24 = .ok (.getfield 30, 3) := by decide +kernel
theorem dX2_emit_27 : decode cX2_emit 27 = .ok (.iload_n 1, 1) := by decide +kernel
theorem dX2_emit_28 : decode cX2_emit 28 = .ok (.iastore, 1) := by decide +kernel
theorem dX2_emit_29 : decode cX2_emit 29 = .ok (.aload_n 0, 1) := by decide +kernel
theorem dX2_emit_30 : decode cX2_emit 30 = .ok (.dup, 1) := by decide +kernel
theorem dX2_emit_31 : decode cX2_emit 31 = .ok (.getfield 30, 3) := by decide +kernel
theorem dX2_emit_34 : decode cX2_emit 34 = .ok (.iconst 1, 1) := by decide +kernel
theorem dX2_emit_35 : decode cX2_emit 35 = .ok (.iadd, 1) := by decide +kernel
theorem dX2_emit_36 : decode cX2_emit 36 = .ok (.putfield 30, 3) := by decide +kernel
theorem dX2_emit___0 : decode cX2_emit__ 0 = .ok (.aload_n 0, 1) := by decide +kernel
theorem dX2_emit___1 : decode cX2_emit__ 1 = .ok (.iload_n 1, 1) := by decide +kernel
theorem dX2_emit___2 : decode cX2_emit__ 2 = .ok (.invokevirtual 88, 3) := by decide +kernel
theorem dX2_emit___5 : decode cX2_emit__ 5 = .ok (.aload_n 0, 1) := by decide +kernel
theorem dX2_emit___6 : decode cX2_emit__ 6 = .ok (.iload_n 2, 1) := by decide +kernel
theorem dX2_emit___7 : decode cX2_emit__ 7 = .ok (.invokevirtual 88, 3) := by decide +kernel
theorem dX2_emit___10 : decode cX2_emit__ 10 = .ok (.aload_n 0, 1) := by decide +kernel
theorem dX2_emit___11 : decode cX2_emit__ 11 = .ok (.iload_n 3, 1) := by decide +kernel
theorem dX2_emit___12 : decode cX2_emit__ 12 = .ok (.invokevirtual 88, 3) := by decide +kernel
theorem dX2_emit___15 : decode cX2_emit__ 15 = .ok (.return_, 1) := by decide +kernel
theorem dX1_checkParam_0 : decode cX1_checkParam 0 = .ok (.iconst 0, 1) := by decide +kernel
theorem dX1_checkParam_1 : decode cX1_checkParam 1 = .ok (.istore 4, 2) := by decide +kernel
theorem dX1_checkParam_3 : decode cX1_checkParam 3 = .ok (.iload 4, 2) := by decide +kernel
theorem dX1_checkParam_5 : decode cX1_checkParam 5 = .ok (.aload_n 0, 1) := by decide +kernel
theorem dX1_checkParam_6 : decode cX1_checkParam 6 = .ok (.getfield 18, 3) := by decide +kernel
theorem dX1_checkParam_9 : decode cX1_checkParam 9 = .ok (.if_icmp .ge 31, 3) := by decide +kernel
theorem dX1_checkParam_40 : decode cX1_checkParam 40 = .ok (.iload_n 3, 1) := by decide +kernel
theorem dX1_checkParam_41 : decode cX1_checkParam 41 = .ok (.ifCond .eq 12, 3) := by decide +kernel
theorem dX1_checkParam_53 : decode cX1_checkParam 53 = .ok (.aload_n 0, 1) := by decide +kernel
theorem dX1_checkParam_54 : decode cX1_checkParam 54 = .ok (.getfield 18, 3) := by decide +kernel
theorem dX1_checkParam_57 : decode cX1_checkParam 57 = .ok (.bipush 12, 2) := by decide +kernel
theorem dX1_checkParam_59 : decode cX1_checkParam 59 = .ok (.if_icmp .lt 12, 3) := by decide +kernel
theorem dX1_checkParam_71 : decode cX1_checkParam 71 = .ok (.return_, 1) := by decide +kernel
theorem dX1_checkParam_62 : decode cX1_checkParam 62 = .ok (.aload_n 0, 1) := by decide +kernel
theorem dX1_checkParam_63 : decode cX1_checkParam 63 = .ok (.getfield 68, 3) := by decide +kernel
theorem dX1_checkParam_66 : decode cX1_checkParam 66 = .ok (.iconst 4, 1) := by decide +kernel
theorem dX1_checkParam_67 : decode cX1_checkParam 67 = .ok (.iload_n 2, 1) := by decide +kernel
theorem dX1_checkParam_68 : decode cX1_checkParam 68 = .ok (.invokevirtual 168, 3) := by decide +kernel
theorem dX1_checkParam_44 : decode cX1_checkParam 44 = .ok (.aload_n 0, 1) := by decide +kernel
theorem dX1_checkParam_45 : decode cX1_checkParam 45 = .ok (.getfield 68, 3) := by decide +kernel
theorem dX1_checkParam_48 : decode cX1_checkParam 48 = .ok (.iconst 3, 1) := by decide +kernel
theorem dX1_checkParam_49 : decode cX1_checkParam 49 = .ok (.iload_n 2, 1) := by decide +kernel
theorem dX1_checkParam_50 : decode cX1_checkParam 50 = .ok (.invokevirtual 168, 3) := by decide +kernel
theorem dX1_checkParam_12 : decode cX1_checkParam 12 = .ok (.aload_n 0, 1) := by decide +kernel
theorem dX1_checkParam_13 : decode cX1_checkParam 13 = .ok (.getfield 9, 3) := by decide +kernel
theorem dX1_checkParam_16 : decode cX1_checkParam 16 = .ok (.iload 4, 2) := by decide +kernel
theorem dX1_checkParam_18 : decode cX1_checkParam 18 = .ok (.invokestatic 101, 3) := by decide +kernel
theorem dX1_checkParam_21 : decode cX1_checkParam 21 = .ok (.iload_n 1, 1) := by decide +kernel
theorem dX1_checkParam_22 : decode cX1_checkParam 22 = .ok (.if_icmp .ne 12, 3) := by decide +kernel
theorem dX1_checkParam_34 : decode cX1_checkParam 34 = .ok (.iinc 4 1, 3) := by decide +kernel
theorem dX1_checkParam_37 : decode cX1_checkParam 37 = .ok (.goto (-34), 3) := by decide +kernel
theorem dX1_checkParam_25 : decode cX1_checkParam 25 = .ok (.aload_n 0, 1) := by decide +kernel
theorem dX1_checkParam_26 : decode cX1_checkParam 26 = .ok (.getfield 68, 3) := by decide +kernel
theorem dX1_checkParam_29 : decode cX1_checkParam 29 = .ok (.iconst 3, 1) := by decide +kernel
theorem dX1_checkParam_30 : decode cX1_checkParam 30 = .ok (.iload_n 2, 1) := by decide +kernel
theorem dX1_checkParam_31 : decode cX1_checkParam 31 = .ok (.invokevirtual 168, 3) := by decide +kernel
theorem dX1_emptyList_0 : decode cX1_emptyList 0 = .ok (.aload_n 0, 1) := by decide +kernel
theorem dX1_emptyList_1 : decode cX1_emptyList 1 = .ok (.getfield 68, 3) := by decide +kernel
theorem dX1_emptyList_4 : decode cX1_emptyList 4 = .ok (.dup, 1) := by decide +kernel
theorem dX1_emptyList_5 : decode cX1_emptyList 5 = .ok (.getfield 95, 3) := by decide +kernel
theorem dX1_emptyList_8 : decode cX1_emptyList 8 = .ok (.iconst 1, 1) := by decide +kernel
theorem dX1_emptyList_9 : decode cX1_emptyList 9 = .ok (.iadd, 1) := by decide +kernel
theorem dX1_emptyList_10 : decode cX1_emptyList 10 = .ok (.putfield 95, 3) := by decide +kernel
theorem dX1_emptyList_13 : decode cX1_emptyList 13 = .ok (.aload_n 0, 1) := by decide +kernel
theorem dX1_emptyList_14 : decode cX1_emptyList 14 = .ok (.getfield 68, 3) := by decide +kernel
theorem dX1_emptyList_17 : decode cX1_emptyList 17 = .ok (.bipush 93, 2) := by decide +kernel
theorem dX1_emptyList_19 : decode cX1_emptyList 19 = .ok (.invokevirtual 157, 3) := by decide +kernel
theorem dX1_emptyList_22 : decode cX1_emptyList 22 = .ok (.ldc_w 275, 3) := by decide +kernel
theorem dX1_emptyList_25 : decode cX1_emptyList 25 = .ok (.ireturn, 1) := by decide +kernel
theorem dX2_stringFrom_0 : decode cX2_stringFrom 0 = .ok (.ldc 92, 2) := by decide +kernel
theorem dX2_stringFrom_2 : decode cX2_stringFrom 2 = .ok (.iload_n 1, 1) := by decide +kernel
theorem dX2_stringFrom_3 : decode cX2_stringFrom 3 = .ok (.bipush 12, 2) := by decide +kernel
theorem dX2_stringFrom_5 : decode cX2_stringFrom 5 = .ok (.ishl, 1) := by decide +kernel
theorem dX2_stringFrom_6 : decode cX2_stringFrom 6 = .ok (.ior, 1) := by decide +kernel
theorem dX2_stringFrom_7 : decode cX2_stringFrom 7 = .ok (.aload_n 0, 1) := by decide +kernel
theorem dX2_stringFrom_8 : decode cX2_stringFrom 8 = .ok (.getfield 41, 3) := by decide +kernel
theorem dX2_stringFrom_11 : decode cX2_stringFrom 11 = .ok (.iload_n 1, 1) := by decide +kernel
theorem dX2_stringFrom_12 : decode cX2_stringFrom 12 = .ok (.isub, 1) := by decide +kernel
theorem dX2_stringFrom_13 : decode cX2_stringFrom 13 = .ok (.ior, 1) := by decide +kernel
theorem dX2_stringFrom_14 : decode cX2_stringFrom 14 = .ok (.ireturn, 1) := by decide +kernel
theorem dX7_string_0 : decode cX7_string 0 = .ok (.aload_n 1, 1) := by decide +kernel
theorem dX7_string_1 : decode cX7_string 1 = .ok (.getfield 128, 3) := by decide +kernel
theorem dX7_string_4 : decode cX7_string 4 = .ok (.istore_n 3, 1) := by decide +kernel
theorem dX7_string_5 : decode cX7_string 5 = .ok (.aload_n 0, 1) := by decide +kernel
theorem dX7_string_6 : decode cX7_string 6 = .ok (.getfield 30, 3) := by decide +kernel
theorem dX7_string_9 : decode cX7_string 9 = .ok (.iconst 1, 1) := by decide +kernel
theorem dX7_string_10 : decode cX7_string 10 = .ok (.iadd, 1) := by decide +kernel
theorem dX7_string_11 : decode cX7_string 11 = .ok (.istore 4, 2) := by decide +kernel
theorem dX7_string_13 : decode cX7_string 13 = .ok (.iload 4, 2) := by decide +kernel
theorem dX7_string_15 : decode cX7_string 15 = .ok (.iload_n 2, 1) := by decide +kernel
theorem dX7_string_16 : decode cX7_string 16 = .ok (.if_icmp .ge 82, 3) := by decide +kernel
theorem dX7_string_98 : decode cX7_string 98 = .ok (.aload_n 0, 1) := by decide +kernel
theorem dX7_string_99 : decode cX7_string 99 = .ok (.iload_n 2, 1) := by decide +kernel
theorem dX7_string_100 : decode cX7_string 100 = .ok (.iconst 1, 1) := by decide +kernel
theorem dX7_string_101 : decode cX7_string 101 = .ok (.iadd, 1) := by decide +kernel
theorem dX7_string_102 : decode cX7_string 102 = .ok (.putfield 30, 3) := by decide +kernel
theorem dX7_string_105 : decode cX7_string 105 = .ok (.aload_n 1, 1) := by decide +kernel
theorem dX7_string_106 : decode cX7_string 106 = .ok (.iload_n 3, 1) := by decide +kernel
theorem dX7_string_107 : decode cX7_string 107 = .ok (.invokevirtual 136, 3) := by decide +kernel
theorem dX7_string_110 : decode cX7_string 110 = .ok (.ireturn, 1) := by decide +kernel
theorem dX7_string_19 : decode cX7_string 19 = .ok (.aload_n 0, 1) := by decide +kernel
theorem dX7_string_20 : decode cX7_string 20 = .ok (.iload 4, 2) := by decide +kernel
theorem dX7_string_22 : decode cX7_string 22 = .ok (.invokevirtual 122, 3) := by decide +kernel
theorem dX7_string_25 : decode cX7_string 25 = .ok (.istore 5, 2) := by decide +kernel
theorem dX7_string_27 : decode cX7_string 27 = .ok (.iload 5, 2) := by decide +kernel
theorem dX7_string_29 : decode cX7_string 29 = .ok (.bipush 92, 2) := by decide +kernel
theorem dX7_string_31 : decode cX7_string 31 = .ok (.if_icmp .ne 54, 3) := by decide +kernel
theorem dX7_string_85 : decode cX7_string 85 = .ok (.aload_n 1, 1) := by decide +kernel
theorem dX7_string_86 : decode cX7_string 86 = .ok (.iload 5, 2) := by decide +kernel
theorem dX7_string_88 : decode cX7_string 88 = .ok (.iconst 0, 1) := by decide +kernel
theorem dX7_string_89 : decode cX7_string 89 = .ok (.invokevirtual 133, 3) := by decide +kernel
theorem dX7_string_92 : decode cX7_string 92 = .ok (.iinc 4 1, 3) := by decide +kernel
theorem dX7_string_95 : decode cX7_string 95 = .ok (.goto (-82), 3) := by decide +kernel
theorem dX7_string_34 : decode cX7_string 34 = .ok (.iload 4, 2) := by decide +kernel
theorem dX7_string_36 : decode cX7_string 36 = .ok (.iconst 1, 1) := by decide +kernel
theorem dX7_string_37 : decode cX7_string 37 = .ok (.iadd, 1) := by decide +kernel
theorem dX7_string_38 : decode cX7_string 38 = .ok (.iload_n 2, 1) := by decide +kernel
theorem dX7_string_39 : decode cX7_string 39 = .ok (.if_icmp .ge 46, 3) := by decide +kernel
theorem dX7_string_42 : decode cX7_string 42 = .ok (.iinc 4 1, 3) := by decide +kernel
theorem dX7_string_45 : decode cX7_string 45 = .ok (.aload_n 0, 1) := by decide +kernel
theorem dX7_string_46 : decode cX7_string 46 = .ok (.iload 4, 2) := by decide +kernel
theorem dX7_string_48 : decode cX7_string 48 = .ok (.invokevirtual 122, 3) := by decide +kernel
theorem dX7_string_51 : decode cX7_string 51 = .ok (.bipush 110, 2) := by decide +kernel
theorem dX7_string_53 : decode cX7_string 53 = .ok (.if_icmp .ne 8, 3) := by decide +kernel
theorem dX7_string_61 : decode cX7_string 61 = .ok (.aload_n 0, 1) := by decide +kernel
theorem dX7_string_62 : decode cX7_string 62 = .ok (.iload 4, 2) := by decide +kernel
theorem dX7_string_64 : decode cX7_string 64 = .ok (.invokevirtual 122, 3) := by decide +kernel
theorem dX7_string_67 : decode cX7_string 67 = .ok (.bipush 116, 2) := by decide +kernel
theorem dX7_string_69 : decode cX7_string 69 = .ok (.if_icmp .ne 8, 3) := by decide +kernel
theorem dX7_string_77 : decode cX7_string 77 = .ok (.aload_n 0, 1) := by decide +kernel
theorem dX7_string_78 : decode cX7_string 78 = .ok (.iload 4, 2) := by decide +kernel
theorem dX7_string_80 : decode cX7_string 80 = .ok (.invokevirtual 122, 3) := by decide +kernel
theorem dX7_string_83 : decode cX7_string 83 = .ok (.istore 5, 2) := by decide +kernel
theorem dX7_string_72 : decode cX7_string 72 = .ok (.bipush 9, 2) := by decide +kernel
theorem dX7_string_74 : decode cX7_string 74 = .ok (.goto 9, 3) := by decide +kernel
theorem dX7_string_56 : decode cX7_string 56 = .ok (.bipush 10, 2) := by decide +kernel
theorem dX7_string_58 : decode cX7_string 58 = .ok (.goto 25, 3) := by decide +kernel
theorem dX10_startConstant_0 : decode cX10_startConstant 0 = .ok (.aload_n 0, 1) := by decide +kernel
theorem dX10_startConstant_1 : decode cX10_startConstant 1 = .ok (.iconst 2, 1) := by decide +kernel
theorem dX10_startConstant_2 : decode cX10_startConstant 2 = .ok (.iconst (-1), 1) := by decide +kernel
theorem dX10_startConstant_3 : decode cX10_startConstant 3 = .ok (.iconst (-1), 1) := by decide +kernel
theorem dX10_startConstant_4 : decode cX10_startConstant 4 = .ok (.invokevirtual 71, 3) := by decide +kernel
theorem dX10_startConstant_7 : decode cX10_startConstant 7 = .ok (.aload_n 0, 1) := by decide +kernel
theorem dX10_startConstant_8 : decode cX10_startConstant 8 = .ok (.iconst 0, 1) := by decide +kernel
theorem dX10_startConstant_9 : decode cX10_startConstant 9 = .ok (.putfield 30, 3) := by decide +kernel
theorem dX10_startConstant_12 : decode cX10_startConstant 12 = .ok (.return_, 1) := by decide +kernel
theorem dX7_blanksEnd_0 : decode cX7_blanksEnd 0 = .ok (.iload_n 1, 1) := by decide +kernel
theorem dX7_blanksEnd_1 : decode cX7_blanksEnd 1 = .ok (.istore_n 2, 1) := by decide +kernel
theorem dX7_blanksEnd_2 : decode cX7_blanksEnd 2 = .ok (.iload_n 2, 1) := by decide +kernel
theorem dX7_blanksEnd_3 : decode cX7_blanksEnd 3 = .ok (.ifCond .lt 59, 3) := by decide +kernel
theorem dX7_blanksEnd_62 : decode cX7_blanksEnd 62 = .ok (.iload_n 2, 1) := by decide +kernel
theorem dX7_blanksEnd_63 : decode cX7_blanksEnd 63 = .ok (.ireturn, 1) := by decide +kernel
theorem dX7_blanksEnd_6 : decode cX7_blanksEnd 6 = .ok (.iload_n 2, 1) := by decide +kernel
theorem dX7_blanksEnd_7 : decode cX7_blanksEnd 7 = .ok (.aload_n 0, 1) := by decide +kernel
theorem dX7_blanksEnd_8 : decode cX7_blanksEnd 8 = .ok (.getfield 26, 3) := by decide +kernel
theorem dX7_blanksEnd_11 : decode cX7_blanksEnd 11 = .ok (.if_icmp .ge 51, 3) := by decide +kernel
theorem dX7_blanksEnd_14 : decode cX7_blanksEnd 14 = .ok (.iload_n 2, 1) := by decide +kernel
theorem dX7_blanksEnd_15 : decode cX7_blanksEnd 15 = .ok (.aload_n 0, 1) := by decide +kernel
theorem dX7_blanksEnd_16 : decode cX7_blanksEnd 16 = .ok (.getfield 9, 3) := by decide +kernel
theorem dX7_blanksEnd_19 : decode cX7_blanksEnd 19 = .ok (.arraylength, 1) := by decide +kernel
theorem dX7_blanksEnd_20 : decode cX7_blanksEnd 20 = .ok (.if_icmp .ge 42, 3) := by decide +kernel
theorem dX7_blanksEnd_23 : decode cX7_blanksEnd 23 = .ok (.aload_n 0, 1) := by decide +kernel
theorem dX7_blanksEnd_24 : decode cX7_blanksEnd 24 = .ok (.getfield 9, 3) := by decide +kernel
theorem dX7_blanksEnd_27 : decode cX7_blanksEnd 27 = .ok (.iload_n 2, 1) := by decide +kernel
theorem dX7_blanksEnd_28 : decode cX7_blanksEnd 28 = .ok (.baload, 1) := by decide +kernel
theorem dX7_blanksEnd_29 : decode cX7_blanksEnd 29 = .ok (.bipush 32, 2) := by decide +kernel
theorem dX7_blanksEnd_31 : decode cX7_blanksEnd 31 = .ok (.if_icmp .eq 25, 3) := by decide +kernel
theorem dX7_blanksEnd_56 : decode cX7_blanksEnd 56 = .ok (.iinc 2 1, 3) := by decide +kernel
theorem dX7_blanksEnd_59 : decode cX7_blanksEnd 59 = .ok (.goto (-57), 3) := by decide +kernel
theorem dX7_blanksEnd_34 : decode cX7_blanksEnd 34 = .ok (.aload_n 0, 1) := by decide +kernel
theorem dX7_blanksEnd_35 : decode cX7_blanksEnd 35 = .ok (.getfield 9, 3) := by decide +kernel
theorem dX7_blanksEnd_38 : decode cX7_blanksEnd 38 = .ok (.iload_n 2, 1) := by decide +kernel
theorem dX7_blanksEnd_39 : decode cX7_blanksEnd 39 = .ok (.baload, 1) := by decide +kernel
theorem dX7_blanksEnd_40 : decode cX7_blanksEnd 40 = .ok (.bipush 9, 2) := by decide +kernel
theorem dX7_blanksEnd_42 : decode cX7_blanksEnd 42 = .ok (.if_icmp .eq 14, 3) := by decide +kernel
theorem dX7_blanksEnd_45 : decode cX7_blanksEnd 45 = .ok (.aload_n 0, 1) := by decide +kernel
theorem dX7_blanksEnd_46 : decode cX7_blanksEnd 46 = .ok (.getfield 9, 3) := by decide +kernel
theorem dX7_blanksEnd_49 : decode cX7_blanksEnd 49 = .ok (.iload_n 2, 1) := by decide +kernel
theorem dX7_blanksEnd_50 : decode cX7_blanksEnd 50 = .ok (.baload, 1) := by decide +kernel
theorem dX7_blanksEnd_51 : decode cX7_blanksEnd 51 = .ok (.bipush 10, 2) := by decide +kernel
theorem dX7_blanksEnd_53 : decode cX7_blanksEnd 53 = .ok (.if_icmp .ne 9, 3) := by decide +kernel
theorem dX10_isParamsAhead_0 : decode cX10_isParamsAhead 0 = .ok (.aload_n 0, 1) := by decide +kernel
theorem dX10_isParamsAhead_1 : decode cX10_isParamsAhead 1 = .ok (.getfield 58, 3) := by decide +kernel
theorem dX10_isParamsAhead_4 : decode cX10_isParamsAhead 4 = .ok (.getfield 75, 3) := by decide +kernel
theorem dX10_isParamsAhead_7 : decode cX10_isParamsAhead 7 = .ok (.istore_n 1, 1) := by decide +kernel
theorem dX10_isParamsAhead_8 : decode cX10_isParamsAhead 8 = .ok (.iconst 0, 1) := by decide +kernel
theorem dX10_isParamsAhead_9 : decode cX10_isParamsAhead 9 = .ok (.istore_n 2, 1) := by decide +kernel
theorem dX10_isParamsAhead_10 : decode cX10_isParamsAhead 10 = .ok (.iload_n 2, 1) := by decide +kernel
theorem dX10_isParamsAhead_11 : decode cX10_isParamsAhead 11 = .ok (.sipush 4000, 3) := by decide +kernel
theorem dX10_isParamsAhead_14 : decode cX10_isParamsAhead 14 = .ok (.if_icmp .ge 85, 3) := by decide +kernel
theorem dX10_isParamsAhead_99 : decode cX10_isParamsAhead 99 = .ok (.iconst 0, 1) := by decide +kernel
theorem dX10_isParamsAhead_100 : decode cX10_isParamsAhead 100 = .ok (.ireturn, 1) := by decide +kernel
theorem dX10_isParamsAhead_17 : decode cX10_isParamsAhead 17 = .ok (.aload_n 0, 1) := by decide +kernel
theorem dX10_isParamsAhead_18 : decode cX10_isParamsAhead 18 = .ok (.getfield 58, 3) := by decide +kernel
theorem dX10_isParamsAhead_21 : decode cX10_isParamsAhead 21 = .ok (.iload_n 1, 1) := by decide +kernel
theorem dX10_isParamsAhead_22 : decode cX10_isParamsAhead 22 = .ok (.invokevirtual 326, 3) := by decide +kernel
theorem dX10_isParamsAhead_25 : decode cX10_isParamsAhead 25 = .ok (.istore_n 1, 1) := by decide +kernel
theorem dX10_isParamsAhead_26 : decode cX10_isParamsAhead 26 = .ok (.aload_n 0, 1) := by decide +kernel
theorem dX10_isParamsAhead_27 : decode cX10_isParamsAhead 27 = .ok (.getfield 58, 3) := by decide +kernel
theorem dX10_isParamsAhead_30 : decode cX10_isParamsAhead 30 = .ok (.iload_n 1, 1) := by decide +kernel
theorem dX10_isParamsAhead_31 : decode cX10_isParamsAhead 31 = .ok (.invokevirtual 108, 3) := by decide +kernel
theorem dX10_isParamsAhead_34 : decode cX10_isParamsAhead 34 = .ok (.invokestatic 237, 3) := by decide +kernel
theorem dX10_isParamsAhead_37 : decode cX10_isParamsAhead 37 = .ok (.ifCond .ne 5, 3) := by decide +kernel
theorem dX10_isParamsAhead_42 : decode cX10_isParamsAhead 42 = .ok (.aload_n 0, 1) := by decide +kernel
theorem dX10_isParamsAhead_43 : decode cX10_isParamsAhead 43 = .ok (.getfield 58, 3) := by decide +kernel
theorem dX10_isParamsAhead_46 : decode cX10_isParamsAhead 46 = .ok (.aload_n 0, 1) := by decide +kernel
theorem dX10_isParamsAhead_47 : decode cX10_isParamsAhead 47 = .ok (.getfield 58, 3) := by decide +kernel
theorem dX10_isParamsAhead_50 : decode cX10_isParamsAhead 50 = .ok (.iload_n 1, 1) := by decide +kernel
theorem dX10_isParamsAhead_51 : decode cX10_isParamsAhead 51 = .ok (.invokevirtual 131, 3) := by decide +kernel
theorem dX10_isParamsAhead_54 : decode cX10_isParamsAhead 54 = .ok (.invokevirtual 326, 3) := by decide +kernel
theorem dX10_isParamsAhead_57 : decode cX10_isParamsAhead 57 = .ok (.istore_n 1, 1) := by decide +kernel
theorem dX10_isParamsAhead_58 : decode cX10_isParamsAhead 58 = .ok (.aload_n 0, 1) := by decide +kernel
theorem dX10_isParamsAhead_59 : decode cX10_isParamsAhead 59 = .ok (.getfield 58, 3) := by decide +kernel
theorem dX10_isParamsAhead_62 : decode cX10_isParamsAhead 62 = .ok (.iload_n 1, 1) := by decide +kernel
theorem dX10_isParamsAhead_63 : decode cX10_isParamsAhead 63 = .ok (.invokevirtual 108, 3) := by decide +kernel
theorem dX10_isParamsAhead_66 : decode cX10_isParamsAhead 66 = .ok (.bipush 44, 2) := by decide +kernel
theorem dX10_isParamsAhead_68 : decode cX10_isParamsAhead 68 = .ok (.if_icmp .eq 22, 3) := by decide +kernel
theorem dX10_isParamsAhead_90 : decode cX10_isParamsAhead 90 = .ok (.iinc 1 1, 3) := by decide +kernel
theorem dX10_isParamsAhead_93 : decode cX10_isParamsAhead 93 = .ok (.iinc 2 1, 3) := by decide +kernel
theorem dX10_isParamsAhead_96 : decode cX10_isParamsAhead 96 = .ok (.goto (-86), 3) := by decide +kernel
theorem dX10_isParamsAhead_71 : decode cX10_isParamsAhead 71 = .ok (.aload_n 0, 1) := by decide +kernel
theorem dX10_isParamsAhead_72 : decode cX10_isParamsAhead 72 = .ok (.getfield 58, 3) := by decide +kernel
theorem dX10_isParamsAhead_75 : decode cX10_isParamsAhead 75 = .ok (.iload_n 1, 1) := by decide +kernel
theorem dX10_isParamsAhead_76 : decode cX10_isParamsAhead 76 = .ok (.invokevirtual 108, 3) := by decide +kernel
theorem dX10_isParamsAhead_79 : decode cX10_isParamsAhead 79 = .ok (.bipush 124, 2) := by decide +kernel
theorem dX10_isParamsAhead_81 : decode cX10_isParamsAhead 81 = .ok (.if_icmp .ne 7, 3) := by decide +kernel
theorem dX10_isParamsAhead_89 : decode cX10_isParamsAhead 89 = .ok (.ireturn, 1) := by decide +kernel
theorem dX10_isParamsAhead_88 : decode cX10_isParamsAhead 88 = .ok (.iconst 0, 1) := by decide +kernel
theorem dX10_isParamsAhead_84 : decode cX10_isParamsAhead 84 = .ok (.iconst 1, 1) := by decide +kernel
theorem dX10_isParamsAhead_85 : decode cX10_isParamsAhead 85 = .ok (.goto 4, 3) := by decide +kernel
theorem dX10_isParamsAhead_40 : decode cX10_isParamsAhead 40 = .ok (.iconst 0, 1) := by decide +kernel
theorem dX10_isParamsAhead_41 : decode cX10_isParamsAhead 41 = .ok (.ireturn, 1) := by decide +kernel
theorem dX7_blanks_0 : decode cX7_blanks 0 = .ok (.aload_n 0, 1) := by decide +kernel
theorem dX7_blanks_1 : decode cX7_blanks 1 = .ok (.getfield 30, 3) := by decide +kernel
theorem dX7_blanks_4 : decode cX7_blanks 4 = .ok (.ifCond .lt 81, 3) := by decide +kernel
theorem dX7_blanks_85 : decode cX7_blanks 85 = .ok (.return_, 1) := by decide +kernel
theorem dX7_blanks_7 : decode cX7_blanks 7 = .ok (.aload_n 0, 1) := by decide +kernel
theorem dX7_blanks_8 : decode cX7_blanks 8 = .ok (.getfield 30, 3) := by decide +kernel
theorem dX7_blanks_11 : decode cX7_blanks 11 = .ok (.aload_n 0, 1) := by decide +kernel
theorem dX7_blanks_12 : decode cX7_blanks 12 = .ok (.getfield 26, 3) := by decide +kernel
theorem dX7_blanks_15 : decode cX7_blanks 15 = .ok (.if_icmp .ge 70, 3) := by decide +kernel
theorem dX7_blanks_18 : decode cX7_blanks 18 = .ok (.aload_n 0, 1) := by decide +kernel
theorem dX7_blanks_19 : decode cX7_blanks 19 = .ok (.getfield 30, 3) := by decide +kernel
theorem dX7_blanks_22 : decode cX7_blanks 22 = .ok (.aload_n 0, 1) := by decide +kernel
theorem dX7_blanks_23 : decode cX7_blanks 23 = .ok (.getfield 9, 3) := by decide +kernel
theorem dX7_blanks_26 : decode cX7_blanks 26 = .ok (.arraylength, 1) := by decide +kernel
theorem dX7_blanks_27 : decode cX7_blanks 27 = .ok (.if_icmp .ge 58, 3) := by decide +kernel
theorem dX7_blanks_30 : decode cX7_blanks 30 = .ok (.aload_n 0, 1) := by decide +kernel
theorem dX7_blanks_31 : decode cX7_blanks 31 = .ok (.getfield 9, 3) := by decide +kernel
theorem dX7_blanks_34 : decode cX7_blanks 34 = .ok (.aload_n 0, 1) := by decide +kernel
theorem dX7_blanks_35 : decode cX7_blanks 35 = .ok (.getfield 30, 3) := by decide +kernel
theorem dX7_blanks_38 : decode cX7_blanks 38 = .ok (.baload, 1) := by decide +kernel
theorem dX7_blanks_39 : decode cX7_blanks 39 = .ok (.bipush 32, 2) := by decide +kernel
theorem dX7_blanks_41 : decode cX7_blanks 41 = .ok (.if_icmp .eq 31, 3) := by decide +kernel
theorem dX7_blanks_72 : decode cX7_blanks 72 = .ok (.aload_n 0, 1) := by decide +kernel
theorem dX7_blanks_73 : decode cX7_blanks 73 = .ok (.dup, 1) := by decide +kernel
theorem dX7_blanks_74 : decode cX7_blanks 74 = .ok (.getfield 30, 3) := by decide +kernel
theorem dX7_blanks_77 : decode cX7_blanks 77 = .ok (.iconst 1, 1) := by decide +kernel
theorem dX7_blanks_78 : decode cX7_blanks 78 = .ok (.iadd, 1) := by decide +kernel
theorem dX7_blanks_79 : decode cX7_blanks 79 = .ok (.putfield 30, 3) := by decide +kernel
theorem dX7_blanks_82 : decode cX7_blanks 82 = .ok (.goto (-82), 3) := by decide +kernel
theorem dX7_blanks_44 : decode cX7_blanks 44 = .ok (.aload_n 0, 1) := by decide +kernel
theorem dX7_blanks_45 : decode cX7_blanks 45 = .ok (.getfield 9, 3) := by decide +kernel
theorem dX7_blanks_48 : decode cX7_blanks 48 = .ok (.aload_n 0, 1) := by decide +kernel
theorem dX7_blanks_49 : decode cX7_blanks 49 = .ok (.getfield 30, 3) := by decide +kernel
theorem dX7_blanks_52 : decode cX7_blanks 52 = .ok (.baload, 1) := by decide +kernel
theorem dX7_blanks_53 : decode cX7_blanks 53 = .ok (.bipush 9, 2) := by decide +kernel
theorem dX7_blanks_55 : decode cX7_blanks 55 = .ok (.if_icmp .eq 17, 3) := by decide +kernel
theorem dX7_blanks_58 : decode cX7_blanks 58 = .ok (.aload_n 0, 1) := by decide +kernel
theorem dX7_blanks_59 : decode cX7_blanks 59 = .ok (.getfield 9, 3) := by decide +kernel
theorem dX7_blanks_62 : decode cX7_blanks 62 = .ok (.aload_n 0, 1) := by decide +kernel
theorem dX7_blanks_63 : decode cX7_blanks 63 = .ok (.getfield 30, 3) := by decide +kernel
theorem dX7_blanks_66 : decode cX7_blanks 66 = .ok (.baload, 1) := by decide +kernel
theorem dX7_blanks_67 : decode cX7_blanks 67 = .ok (.bipush 10, 2) := by decide +kernel
theorem dX7_blanks_69 : decode cX7_blanks 69 = .ok (.if_icmp .ne 16, 3) := by decide +kernel
theorem dX2_paramOf_0 : decode cX2_paramOf 0 = .ok (.iload_n 1, 1) := by decide +kernel
theorem dX2_paramOf_1 : decode cX2_paramOf 1 = .ok (.ifCond .lt 14, 3) := by decide +kernel
theorem dX2_paramOf_15 : decode cX2_paramOf 15 = .ok (.iconst 0, 1) := by decide +kernel
theorem dX2_paramOf_16 : decode cX2_paramOf 16 = .ok (.goto 11, 3) := by decide +kernel
theorem dX2_paramOf_27 : decode cX2_paramOf 27 = .ok (.istore_n 3, 1) := by decide +kernel
theorem dX2_paramOf_28 : decode cX2_paramOf 28 = .ok (.iconst 0, 1) := by decide +kernel
theorem dX2_paramOf_29 : decode cX2_paramOf 29 = .ok (.istore 4, 2) := by decide +kernel
theorem dX2_paramOf_31 : decode cX2_paramOf 31 = .ok (.iload 4, 2) := by decide +kernel
theorem dX2_paramOf_33 : decode cX2_paramOf 33 = .ok (.iload_n 3, 1) := by decide +kernel
theorem dX2_paramOf_34 : decode cX2_paramOf 34 = .ok (.if_icmp .ge 45, 3) := by decide +kernel
theorem dX2_paramOf_79 : decode cX2_paramOf 79 = .ok (.iconst (-1), 1) := by decide +kernel
theorem dX2_paramOf_80 : decode cX2_paramOf 80 = .ok (.ireturn, 1) := by decide +kernel
theorem dX2_paramOf_37 : decode cX2_paramOf 37 = .ok (.iload_n 1, 1) := by decide +kernel
theorem dX2_paramOf_38 : decode cX2_paramOf 38 = .ok (.iconst 3, 1) := by decide +kernel
theorem dX2_paramOf_39 : decode cX2_paramOf 39 = .ok (.iadd, 1) := by decide +kernel
theorem dX2_paramOf_40 : decode cX2_paramOf 40 = .ok (.iconst 2, 1) := by decide +kernel
theorem dX2_paramOf_41 : decode cX2_paramOf 41 = .ok (.iload 4, 2) := by decide +kernel
theorem dX2_paramOf_43 : decode cX2_paramOf 43 = .ok (.imul, 1) := by decide +kernel
theorem dX2_paramOf_44 : decode cX2_paramOf 44 = .ok (.iadd, 1) := by decide +kernel
theorem dX2_paramOf_45 : decode cX2_paramOf 45 = .ok (.aload_n 0, 1) := by decide +kernel
theorem dX2_paramOf_46 : decode cX2_paramOf 46 = .ok (.getfield 26, 3) := by decide +kernel
theorem dX2_paramOf_49 : decode cX2_paramOf 49 = .ok (.arraylength, 1) := by decide +kernel
theorem dX2_paramOf_50 : decode cX2_paramOf 50 = .ok (.if_icmp .ge 29, 3) := by decide +kernel
theorem dX2_paramOf_53 : decode cX2_paramOf 53 = .ok (.aload_n 0, 1) := by decide +kernel
theorem dX2_paramOf_54 : decode cX2_paramOf 54 = .ok (.getfield 26, 3) := by decide +kernel
theorem dX2_paramOf_57 : decode cX2_paramOf 57 = .ok (.iload_n 1, 1) := by decide +kernel
theorem dX2_paramOf_58 : decode cX2_paramOf 58 = .ok (.iconst 3, 1) := by decide +kernel
theorem dX2_paramOf_59 : decode cX2_paramOf 59 = .ok (.iadd, 1) := by decide +kernel
theorem dX2_paramOf_60 : decode cX2_paramOf 60 = .ok (.iconst 2, 1) := by decide +kernel
theorem dX2_paramOf_61 : decode cX2_paramOf 61 = .ok (.iload 4, 2) := by decide +kernel
theorem dX2_paramOf_63 : decode cX2_paramOf 63 = .ok (.imul, 1) := by decide +kernel
theorem dX2_paramOf_64 : decode cX2_paramOf 64 = .ok (.iadd, 1) := by decide +kernel
theorem dX2_paramOf_65 : decode cX2_paramOf 65 = .ok (.iaload, 1) := by decide +kernel
theorem dX2_emit__0 : decode cX2_emit_ 0 = .ok (.aload_n 0, 1) := by decide +kernel
theorem dX2_emit__1 : decode cX2_emit_ 1 = .ok (.iload_n 1, 1) := by decide +kernel
theorem dX2_emit__2 : decode cX2_emit_ 2 = .ok (.invokevirtual 88, 3) := by decide +kernel
theorem dX2_emit__5 : decode cX2_emit_ 5 = .ok (.aload_n 0, 1) := by decide +kernel
theorem dX2_emit__6 : decode cX2_emit_ 6 = .ok (.iload_n 2, 1) := by decide +kernel
theorem dX2_emit__7 : decode cX2_emit_ 7 = .ok (.invokevirtual 88, 3) := by decide +kernel
theorem dX2_emit__10 : decode cX2_emit_ 10 = .ok (.return_, 1) := by decide +kernel
theorem dX10_flush_0 : decode cX10_flush 0 = .ok (.aload_n 0, 1) := by decide +kernel
theorem dX10_flush_1 : decode cX10_flush 1 = .ok (.getfield 37, 3) := by decide +kernel
theorem dX10_flush_4 : decode cX10_flush 4 = .ok (.ifCond .ne 5, 3) := by decide +kernel
theorem dX10_flush_9 : decode cX10_flush 9 = .ok (.aload_n 0, 1) := by decide +kernel
theorem dX10_flush_10 : decode cX10_flush 10 = .ok (.getfield 62, 3) := by decide +kernel
theorem dX10_flush_13 : decode cX10_flush 13 = .ok (.iconst 1, 1) := by decide +kernel
theorem dX10_flush_14 : decode cX10_flush 14 = .ok (.aload_n 0, 1) := by decide +kernel
theorem dX10_flush_15 : decode cX10_flush 15 = .ok (.getfield 34, 3) := by decide +kernel
theorem dX10_flush_18 : decode cX10_flush 18 = .ok (.aload_n 0, 1) := by decide +kernel
theorem dX10_flush_19 : decode cX10_flush 19 = .ok (.getfield 37, 3) := by decide +kernel
theorem dX10_flush_22 : decode cX10_flush 22 = .ok (.invokevirtual 93, 3) := by decide +kernel
theorem dX10_flush_25 : decode cX10_flush 25 = .ok (.aload_n 0, 1) := by decide +kernel
theorem dX10_flush_26 : decode cX10_flush 26 = .ok (.iconst 0, 1) := by decide +kernel
theorem dX10_flush_27 : decode cX10_flush 27 = .ok (.putfield 37, 3) := by decide +kernel
theorem dX10_flush_30 : decode cX10_flush 30 = .ok (.aload_n 0, 1) := by decide +kernel
theorem dX10_flush_31 : decode cX10_flush 31 = .ok (.getfield 62, 3) := by decide +kernel
theorem dX10_flush_34 : decode cX10_flush 34 = .ok (.getfield 118, 3) := by decide +kernel
theorem dX10_flush_37 : decode cX10_flush 37 = .ok (.iconst 1, 1) := by decide +kernel
theorem dX10_flush_38 : decode cX10_flush 38 = .ok (.isub, 1) := by decide +kernel
theorem dX10_flush_39 : decode cX10_flush 39 = .ok (.ireturn, 1) := by decide +kernel
theorem dX10_flush_7 : decode cX10_flush 7 = .ok (.iconst (-1), 1) := by decide +kernel
theorem dX10_flush_8 : decode cX10_flush 8 = .ok (.ireturn, 1) := by decide +kernel
theorem dX10_comment_0 : decode cX10_comment 0 = .ok (.aload_n 0, 1) := by decide +kernel
theorem dX10_comment_1 : decode cX10_comment 1 = .ok (.getfield 58, 3) := by decide +kernel
theorem dX10_comment_4 : decode cX10_comment 4 = .ok (.getfield 75, 3) := by decide +kernel
theorem dX10_comment_7 : decode cX10_comment 7 = .ok (.iconst 1, 1) := by decide +kernel
theorem dX10_comment_8 : decode cX10_comment 8 = .ok (.iadd, 1) := by decide +kernel
theorem dX10_comment_9 : decode cX10_comment 9 = .ok (.istore_n 1, 1) := by decide +kernel
theorem dX10_comment_10 : decode cX10_comment 10 = .ok (.iload_n 1, 1) := by decide +kernel
theorem dX10_comment_11 : decode cX10_comment 11 = .ok (.aload_n 0, 1) := by decide +kernel
theorem dX10_comment_12 : decode cX10_comment 12 = .ok (.getfield 58, 3) := by decide +kernel
theorem dX10_comment_15 : decode cX10_comment 15 = .ok (.getfield 80, 3) := by decide +kernel
theorem dX10_comment_18 : decode cX10_comment 18 = .ok (.if_icmp .ge 39, 3) := by decide +kernel
theorem dX10_comment_57 : decode cX10_comment 57 = .ok (.iload_n 1, 1) := by decide +kernel
theorem dX10_comment_58 : decode cX10_comment 58 = .ok (.aload_n 0, 1) := by decide +kernel
theorem dX10_comment_59 : decode cX10_comment 59 = .ok (.getfield 58, 3) := by decide +kernel
theorem dX10_comment_62 : decode cX10_comment 62 = .ok (.getfield 80, 3) := by decide +kernel
theorem dX10_comment_65 : decode cX10_comment 65 = .ok (.if_icmp .lt 25, 3) := by decide +kernel
theorem dX10_comment_90 : decode cX10_comment 90 = .ok (.aload_n 0, 1) := by decide +kernel
theorem dX10_comment_91 : decode cX10_comment 91 = .ok (.getfield 58, 3) := by decide +kernel
theorem dX10_comment_94 : decode cX10_comment 94 = .ok (.iload_n 1, 1) := by decide +kernel
theorem dX10_comment_95 : decode cX10_comment 95 = .ok (.iconst 2, 1) := by decide +kernel
theorem dX10_comment_96 : decode cX10_comment 96 = .ok (.iadd, 1) := by decide +kernel
theorem dX10_comment_97 : decode cX10_comment 97 = .ok (.putfield 75, 3) := by decide +kernel
theorem dX10_comment_100 : decode cX10_comment 100 = .ok (.return_, 1) := by decide +kernel
theorem dX10_comment_68 : decode cX10_comment 68 = .ok (.aload_n 0, 1) := by decide +kernel
theorem dX10_comment_69 : decode cX10_comment 69 = .ok (.getfield 58, 3) := by decide +kernel
theorem dX10_comment_72 : decode cX10_comment 72 = .ok (.iconst 1, 1) := by decide +kernel
theorem dX10_comment_73 : decode cX10_comment 73 = .ok (.aload_n 0, 1) := by decide +kernel
theorem dX10_comment_74 : decode cX10_comment 74 = .ok (.getfield 58, 3) := by decide +kernel
theorem dX10_comment_77 : decode cX10_comment 77 = .ok (.aload_n 0, 1) := by decide +kernel
theorem dX10_comment_78 : decode cX10_comment 78 = .ok (.getfield 58, 3) := by decide +kernel
theorem dX10_comment_81 : decode cX10_comment 81 = .ok (.getfield 80, 3) := by decide +kernel
theorem dX10_comment_84 : decode cX10_comment 84 = .ok (.invokevirtual 162, 3) := by decide +kernel
theorem dX10_comment_87 : decode cX10_comment 87 = .ok (.invokevirtual 104, 3) := by decide +kernel
theorem dX10_comment_21 : decode cX10_comment 21 = .ok (.aload_n 0, 1) := by decide +kernel
theorem dX10_comment_22 : decode cX10_comment 22 = .ok (.getfield 58, 3) := by decide +kernel
theorem dX10_comment_25 : decode cX10_comment 25 = .ok (.iload_n 1, 1) := by decide +kernel
theorem dX10_comment_26 : decode cX10_comment 26 = .ok (.invokevirtual 108, 3) := by decide +kernel
theorem dX10_comment_29 : decode cX10_comment 29 = .ok (.bipush 33, 2) := by decide +kernel
theorem dX10_comment_31 : decode cX10_comment 31 = .ok (.if_icmp .ne 20, 3) := by decide +kernel
theorem dX10_comment_51 : decode cX10_comment 51 = .ok (.iinc 1 1, 3) := by decide +kernel
theorem dX10_comment_54 : decode cX10_comment 54 = .ok (.goto (-44), 3) := by decide +kernel
theorem dX10_comment_34 : decode cX10_comment 34 = .ok (.aload_n 0, 1) := by decide +kernel
theorem dX10_comment_35 : decode cX10_comment 35 = .ok (.getfield 58, 3) := by decide +kernel
theorem dX10_comment_38 : decode cX10_comment 38 = .ok (.iload_n 1, 1) := by decide +kernel
theorem dX10_comment_39 : decode cX10_comment 39 = .ok (.iconst 1, 1) := by decide +kernel
theorem dX10_comment_40 : decode cX10_comment 40 = .ok (.iadd, 1) := by decide +kernel
theorem dX10_comment_41 : decode cX10_comment 41 = .ok (.invokevirtual 108, 3) := by decide +kernel
theorem dX10_comment_44 : decode cX10_comment 44 = .ok (.aload_n 0, 1) := by decide +kernel
theorem dX10_comment_45 : decode cX10_comment 45 = .ok (.getfield 15, 3) := by decide +kernel
theorem dX10_comment_48 : decode cX10_comment 48 = .ok (.if_icmp .eq 9, 3) := by decide +kernel
theorem dX10_restOfLine_0 : decode cX10_restOfLine 0 = .ok (.aload_n 0, 1) := by decide +kernel
theorem dX10_restOfLine_1 : decode cX10_restOfLine 1 = .ok (.getfield 58, 3) := by decide +kernel
theorem dX10_restOfLine_4 : decode cX10_restOfLine 4 = .ok (.getfield 75, 3) := by decide +kernel
theorem dX10_restOfLine_7 : decode cX10_restOfLine 7 = .ok (.istore_n 3, 1) := by decide +kernel
theorem dX10_restOfLine_8 : decode cX10_restOfLine 8 = .ok (.iload_n 3, 1) := by decide +kernel
theorem dX10_restOfLine_9 : decode cX10_restOfLine 9 = .ok (.aload_n 0, 1) := by decide +kernel
theorem dX10_restOfLine_10 : decode cX10_restOfLine 10 = .ok (.getfield 58, 3) := by decide +kernel
theorem dX10_restOfLine_13 : decode cX10_restOfLine 13 = .ok (.getfield 80, 3) := by decide +kernel
theorem dX10_restOfLine_16 : decode cX10_restOfLine 16 = .ok (.if_icmp .ge 35, 3) := by decide +kernel
theorem dX10_restOfLine_51 : decode cX10_restOfLine 51 = .ok (.aload_n 0, 1) := by decide +kernel
theorem dX10_restOfLine_52 : decode cX10_restOfLine 52 = .ok (.getfield 58, 3) := by decide +kernel
theorem dX10_restOfLine_55 : decode cX10_restOfLine 55 = .ok (.iload_n 3, 1) := by decide +kernel
theorem dX10_restOfLine_56 : decode cX10_restOfLine 56 = .ok (.invokevirtual 108, 3) := by decide +kernel
theorem dX10_restOfLine_59 : decode cX10_restOfLine 59 = .ok (.bipush 10, 2) := by decide +kernel
theorem dX10_restOfLine_61 : decode cX10_restOfLine 61 = .ok (.if_icmp .ne 7, 3) := by decide +kernel
theorem dX10_restOfLine_69 : decode cX10_restOfLine 69 = .ok (.istore 4, 2) := by decide +kernel
theorem dX10_restOfLine_71 : decode cX10_restOfLine 71 = .ok (.iload_n 3, 1) := by decide +kernel
theorem dX10_restOfLine_72 : decode cX10_restOfLine 72 = .ok (.aload_n 0, 1) := by decide +kernel
theorem dX10_restOfLine_73 : decode cX10_restOfLine 73 = .ok (.getfield 58, 3) := by decide +kernel
theorem dX10_restOfLine_76 : decode cX10_restOfLine 76 = .ok (.getfield 80, 3) := by decide +kernel
theorem dX10_restOfLine_79 : decode cX10_restOfLine 79 = .ok (.if_icmp .ge 23, 3) := by decide +kernel
theorem dX10_restOfLine_107 : decode cX10_restOfLine 107 = .ok (.istore 5, 2) := by decide +kernel
theorem dX10_restOfLine_109 : decode cX10_restOfLine 109 = .ok (.aload_n 0, 1) := by decide +kernel
theorem dX10_restOfLine_110 : decode cX10_restOfLine 110 = .ok (.iload_n 1, 1) := by decide +kernel
theorem dX10_restOfLine_111 : decode cX10_restOfLine 111 = .ok (.ifCond .eq 12, 3) := by decide +kernel
theorem dX10_restOfLine_124 : decode cX10_restOfLine 124 = .ok (.putfield 40, 3) := by decide +kernel
theorem dX10_restOfLine_127 : decode cX10_restOfLine 127 = .ok (.iload_n 1, 1) := by decide +kernel
theorem dX10_restOfLine_128 : decode cX10_restOfLine 128 = .ok (.ifCond .eq 49, 3) := by decide +kernel
theorem dX10_restOfLine_177 : decode cX10_restOfLine 177 = .ok (.return_, 1) := by decide +kernel
theorem dX10_restOfLine_131 : decode cX10_restOfLine 131 = .ok (.iload 4, 2) := by decide +kernel
theorem dX10_restOfLine_133 : decode cX10_restOfLine 133 = .ok (.ifCond .ne 8, 3) := by decide +kernel
theorem dX10_restOfLine_141 : decode cX10_restOfLine 141 = .ok (.iload_n 2, 1) := by decide +kernel
theorem dX10_restOfLine_142 : decode cX10_restOfLine 142 = .ok (.iconst (-1), 1) := by decide +kernel
theorem dX10_restOfLine_143 : decode cX10_restOfLine 143 = .ok (.if_icmp .eq 15, 3) := by decide +kernel
theorem dX10_restOfLine_158 : decode cX10_restOfLine 158 = .ok (.aload_n 0, 1) := by decide +kernel
theorem dX10_restOfLine_159 : decode cX10_restOfLine 159 = .ok (.getfield 58, 3) := by decide +kernel
theorem dX10_restOfLine_162 : decode cX10_restOfLine 162 = .ok (.iload 4, 2) := by decide +kernel
theorem dX10_restOfLine_164 : decode cX10_restOfLine 164 = .ok (.ifCond .eq 9, 3) := by decide +kernel
theorem dX10_restOfLine_174 : decode cX10_restOfLine 174 = .ok (.putfield 75, 3) := by decide +kernel
theorem dX10_restOfLine_173 : decode cX10_restOfLine 173 = .ok (.iload_n 3, 1) := by decide +kernel
theorem dX10_restOfLine_167 : decode cX10_restOfLine 167 = .ok (.iload_n 3, 1) := by decide +kernel
theorem dX10_restOfLine_168 : decode cX10_restOfLine 168 = .ok (.iconst 1, 1) := by decide +kernel
theorem dX10_restOfLine_169 : decode cX10_restOfLine 169 = .ok (.iadd, 1) := by decide +kernel
theorem dX10_restOfLine_170 : decode cX10_restOfLine 170 = .ok (.goto 4, 3) := by decide +kernel
theorem dX10_restOfLine_146 : decode cX10_restOfLine 146 = .ok (.aload_n 0, 1) := by decide +kernel
theorem dX10_restOfLine_147 : decode cX10_restOfLine 147 = .ok (.getfield 62, 3) := by decide +kernel
theorem dX10_restOfLine_150 : decode cX10_restOfLine 150 = .ok (.getfield 165, 3) := by decide +kernel
theorem dX10_restOfLine_153 : decode cX10_restOfLine 153 = .ok (.iload_n 2, 1) := by decide +kernel
theorem dX10_restOfLine_154 : decode cX10_restOfLine 154 = .ok (.iconst 0, 1) := by decide +kernel
theorem dX10_restOfLine_155 : decode cX10_restOfLine 155 = .ok (.invokestatic 169, 3) := by decide +kernel
theorem dX10_restOfLine_136 : decode cX10_restOfLine 136 = .ok (.iload 5, 2) := by decide +kernel
theorem dX10_restOfLine_138 : decode cX10_restOfLine 138 = .ok (.ifCond .eq 39, 3) := by decide +kernel
theorem dX10_restOfLine_123 : decode cX10_restOfLine 123 = .ok (.iconst 0, 1) := by decide +kernel
theorem dX10_restOfLine_114 : decode cX10_restOfLine 114 = .ok (.iload 4, 2) := by decide +kernel
theorem dX10_restOfLine_116 : decode cX10_restOfLine 116 = .ok (.ifCond .eq 7, 3) := by decide +kernel
theorem dX10_restOfLine_119 : decode cX10_restOfLine 119 = .ok (.iconst 1, 1) := by decide +kernel
theorem dX10_restOfLine_120 : decode cX10_restOfLine 120 = .ok (.goto 4, 3) := by decide +kernel
theorem dX10_restOfLine_102 : decode cX10_restOfLine 102 = .ok (.iconst 1, 1) := by decide +kernel
theorem dX10_restOfLine_103 : decode cX10_restOfLine 103 = .ok (.goto 4, 3) := by decide +kernel
theorem dX10_restOfLine_82 : decode cX10_restOfLine 82 = .ok (.aload_n 0, 1) := by decide +kernel
theorem dX10_restOfLine_83 : decode cX10_restOfLine 83 = .ok (.getfield 30, 3) := by decide +kernel
theorem dX10_restOfLine_86 : decode cX10_restOfLine 86 = .ok (.ifCond .eq 20, 3) := by decide +kernel
theorem dX10_restOfLine_106 : decode cX10_restOfLine 106 = .ok (.iconst 0, 1) := by decide +kernel
theorem dX10_restOfLine_89 : decode cX10_restOfLine 89 = .ok (.aload_n 0, 1) := by decide +kernel
theorem dX10_restOfLine_90 : decode cX10_restOfLine 90 = .ok (.getfield 58, 3) := by decide +kernel
theorem dX10_restOfLine_93 : decode cX10_restOfLine 93 = .ok (.iload_n 3, 1) := by decide +kernel
theorem dX10_restOfLine_94 : decode cX10_restOfLine 94 = .ok (.invokevirtual 108, 3) := by decide +kernel
theorem dX10_restOfLine_97 : decode cX10_restOfLine 97 = .ok (.bipush 125, 2) := by decide +kernel
theorem dX10_restOfLine_99 : decode cX10_restOfLine 99 = .ok (.if_icmp .ne 7, 3) := by decide +kernel
theorem dX10_restOfLine_68 : decode cX10_restOfLine 68 = .ok (.iconst 0, 1) := by decide +kernel
theorem dX10_restOfLine_64 : decode cX10_restOfLine 64 = .ok (.iconst 1, 1) := by decide +kernel
theorem dX10_restOfLine_65 : decode cX10_restOfLine 65 = .ok (.goto 4, 3) := by decide +kernel
theorem dX10_restOfLine_19 : decode cX10_restOfLine 19 = .ok (.aload_n 0, 1) := by decide +kernel
theorem dX10_restOfLine_20 : decode cX10_restOfLine 20 = .ok (.getfield 58, 3) := by decide +kernel
theorem dX10_restOfLine_23 : decode cX10_restOfLine 23 = .ok (.iload_n 3, 1) := by decide +kernel
theorem dX10_restOfLine_24 : decode cX10_restOfLine 24 = .ok (.invokevirtual 108, 3) := by decide +kernel
theorem dX10_restOfLine_27 : decode cX10_restOfLine 27 = .ok (.bipush 32, 2) := by decide +kernel
theorem dX10_restOfLine_29 : decode cX10_restOfLine 29 = .ok (.if_icmp .eq 16, 3) := by decide +kernel
theorem dX10_restOfLine_45 : decode cX10_restOfLine 45 = .ok (.iinc 3 1, 3) := by decide +kernel
theorem dX10_restOfLine_48 : decode cX10_restOfLine 48 = .ok (.goto (-40), 3) := by decide +kernel
theorem dX10_restOfLine_32 : decode cX10_restOfLine 32 = .ok (.aload_n 0, 1) := by decide +kernel
theorem dX10_restOfLine_33 : decode cX10_restOfLine 33 = .ok (.getfield 58, 3) := by decide +kernel
theorem dX10_restOfLine_36 : decode cX10_restOfLine 36 = .ok (.iload_n 3, 1) := by decide +kernel
theorem dX10_restOfLine_37 : decode cX10_restOfLine 37 = .ok (.invokevirtual 108, 3) := by decide +kernel
theorem dX10_restOfLine_40 : decode cX10_restOfLine 40 = .ok (.bipush 9, 2) := by decide +kernel
theorem dX10_restOfLine_42 : decode cX10_restOfLine 42 = .ok (.if_icmp .ne 9, 3) := by decide +kernel
theorem dX10_joinLines_0 : decode cX10_joinLines 0 = .ok (.aload_n 0, 1) := by decide +kernel
theorem dX10_joinLines_1 : decode cX10_joinLines 1 = .ok (.getfield 58, 3) := by decide +kernel
theorem dX10_joinLines_4 : decode cX10_joinLines 4 = .ok (.dup, 1) := by decide +kernel
theorem dX10_joinLines_5 : decode cX10_joinLines 5 = .ok (.getfield 75, 3) := by decide +kernel
theorem dX10_joinLines_8 : decode cX10_joinLines 8 = .ok (.iconst 2, 1) := by decide +kernel
theorem dX10_joinLines_9 : decode cX10_joinLines 9 = .ok (.iadd, 1) := by decide +kernel
theorem dX10_joinLines_10 : decode cX10_joinLines 10 = .ok (.putfield 75, 3) := by decide +kernel
theorem dX10_joinLines_13 : decode cX10_joinLines 13 = .ok (.aload_n 0, 1) := by decide +kernel
theorem dX10_joinLines_14 : decode cX10_joinLines 14 = .ok (.getfield 58, 3) := by decide +kernel
theorem dX10_joinLines_17 : decode cX10_joinLines 17 = .ok (.invokevirtual 83, 3) := by decide +kernel
theorem dX10_joinLines_20 : decode cX10_joinLines 20 = .ok (.aload_n 0, 1) := by decide +kernel
theorem dX10_joinLines_21 : decode cX10_joinLines 21 = .ok (.getfield 15, 3) := by decide +kernel
theorem dX10_joinLines_24 : decode cX10_joinLines 24 = .ok (.if_icmp .eq 18, 3) := by decide +kernel
theorem dX10_joinLines_42 : decode cX10_joinLines 42 = .ok (.aload_n 0, 1) := by decide +kernel
theorem dX10_joinLines_43 : decode cX10_joinLines 43 = .ok (.getfield 58, 3) := by decide +kernel
theorem dX10_joinLines_46 : decode cX10_joinLines 46 = .ok (.dup, 1) := by decide +kernel
theorem dX10_joinLines_47 : decode cX10_joinLines 47 = .ok (.getfield 75, 3) := by decide +kernel
theorem dX10_joinLines_50 : decode cX10_joinLines 50 = .ok (.iconst 1, 1) := by decide +kernel
theorem dX10_joinLines_51 : decode cX10_joinLines 51 = .ok (.iadd, 1) := by decide +kernel
theorem dX10_joinLines_52 : decode cX10_joinLines 52 = .ok (.putfield 75, 3) := by decide +kernel
theorem dX10_joinLines_55 : decode cX10_joinLines 55 = .ok (.aload_n 0, 1) := by decide +kernel
theorem dX10_joinLines_56 : decode cX10_joinLines 56 = .ok (.getfield 58, 3) := by decide +kernel
theorem dX10_joinLines_59 : decode cX10_joinLines 59 = .ok (.getfield 75, 3) := by decide +kernel
theorem dX10_joinLines_62 : decode cX10_joinLines 62 = .ok (.aload_n 0, 1) := by decide +kernel
theorem dX10_joinLines_63 : decode cX10_joinLines 63 = .ok (.getfield 58, 3) := by decide +kernel
theorem dX10_joinLines_66 : decode cX10_joinLines 66 = .ok (.getfield 80, 3) := by decide +kernel
theorem dX10_joinLines_69 : decode cX10_joinLines 69 = .ok (.if_icmp .ge 43, 3) := by decide +kernel
theorem dX10_joinLines_112 : decode cX10_joinLines 112 = .ok (.aload_n 0, 1) := by decide +kernel
theorem dX10_joinLines_113 : decode cX10_joinLines 113 = .ok (.getfield 58, 3) := by decide +kernel
theorem dX10_joinLines_116 : decode cX10_joinLines 116 = .ok (.invokevirtual 83, 3) := by decide +kernel
theorem dX10_joinLines_119 : decode cX10_joinLines 119 = .ok (.bipush 10, 2) := by decide +kernel
theorem dX10_joinLines_121 : decode cX10_joinLines 121 = .ok (.if_icmp .eq 18, 3) := by decide +kernel
theorem dX10_joinLines_139 : decode cX10_joinLines 139 = .ok (.aload_n 0, 1) := by decide +kernel
theorem dX10_joinLines_140 : decode cX10_joinLines 140 = .ok (.getfield 58, 3) := by decide +kernel
theorem dX10_joinLines_143 : decode cX10_joinLines 143 = .ok (.dup, 1) := by decide +kernel
theorem dX10_joinLines_144 : decode cX10_joinLines 144 = .ok (.getfield 75, 3) := by decide +kernel
theorem dX10_joinLines_147 : decode cX10_joinLines 147 = .ok (.iconst 1, 1) := by decide +kernel
theorem dX10_joinLines_148 : decode cX10_joinLines 148 = .ok (.iadd, 1) := by decide +kernel
theorem dX10_joinLines_149 : decode cX10_joinLines 149 = .ok (.putfield 75, 3) := by decide +kernel
theorem dX10_joinLines_152 : decode cX10_joinLines 152 = .ok (.aload_n 0, 1) := by decide +kernel
theorem dX10_joinLines_153 : decode cX10_joinLines 153 = .ok (.getfield 58, 3) := by decide +kernel
theorem dX10_joinLines_156 : decode cX10_joinLines 156 = .ok (.getfield 75, 3) := by decide +kernel
theorem dX10_joinLines_159 : decode cX10_joinLines 159 = .ok (.aload_n 0, 1) := by decide +kernel
theorem dX10_joinLines_160 : decode cX10_joinLines 160 = .ok (.getfield 58, 3) := by decide +kernel
theorem dX10_joinLines_163 : decode cX10_joinLines 163 = .ok (.getfield 80, 3) := by decide +kernel
theorem dX10_joinLines_166 : decode cX10_joinLines 166 = .ok (.if_icmp .ge 43, 3) := by decide +kernel
theorem dX10_joinLines_209 : decode cX10_joinLines 209 = .ok (.return_, 1) := by decide +kernel
theorem dX10_joinLines_169 : decode cX10_joinLines 169 = .ok (.aload_n 0, 1) := by decide +kernel
theorem dX10_joinLines_170 : decode cX10_joinLines 170 = .ok (.getfield 58, 3) := by decide +kernel
theorem dX10_joinLines_173 : decode cX10_joinLines 173 = .ok (.invokevirtual 83, 3) := by decide +kernel
theorem dX10_joinLines_176 : decode cX10_joinLines 176 = .ok (.bipush 32, 2) := by decide +kernel
theorem dX10_joinLines_178 : decode cX10_joinLines 178 = .ok (.if_icmp .eq 15, 3) := by decide +kernel
theorem dX10_joinLines_193 : decode cX10_joinLines 193 = .ok (.aload_n 0, 1) := by decide +kernel
theorem dX10_joinLines_194 : decode cX10_joinLines 194 = .ok (.getfield 58, 3) := by decide +kernel
theorem dX10_joinLines_197 : decode cX10_joinLines 197 = .ok (.dup, 1) := by decide +kernel
theorem dX10_joinLines_198 : decode cX10_joinLines 198 = .ok (.getfield 75, 3) := by decide +kernel
theorem dX10_joinLines_201 : decode cX10_joinLines 201 = .ok (.iconst 1, 1) := by decide +kernel
theorem dX10_joinLines_202 : decode cX10_joinLines 202 = .ok (.iadd, 1) := by decide +kernel
theorem dX10_joinLines_203 : decode cX10_joinLines 203 = .ok (.putfield 75, 3) := by decide +kernel
theorem dX10_joinLines_206 : decode cX10_joinLines 206 = .ok (.goto (-54), 3) := by decide +kernel
theorem dX10_joinLines_181 : decode cX10_joinLines 181 = .ok (.aload_n 0, 1) := by decide +kernel
theorem dX10_joinLines_182 : decode cX10_joinLines 182 = .ok (.getfield 58, 3) := by decide +kernel
theorem dX10_joinLines_185 : decode cX10_joinLines 185 = .ok (.invokevirtual 83, 3) := by decide +kernel
theorem dX10_joinLines_188 : decode cX10_joinLines 188 = .ok (.bipush 9, 2) := by decide +kernel
theorem dX10_joinLines_190 : decode cX10_joinLines 190 = .ok (.if_icmp .ne 19, 3) := by decide +kernel
theorem dX10_joinLines_124 : decode cX10_joinLines 124 = .ok (.aload_n 0, 1) := by decide +kernel
theorem dX10_joinLines_125 : decode cX10_joinLines 125 = .ok (.getfield 58, 3) := by decide +kernel
theorem dX10_joinLines_128 : decode cX10_joinLines 128 = .ok (.iconst 1, 1) := by decide +kernel
theorem dX10_joinLines_129 : decode cX10_joinLines 129 = .ok (.aload_n 0, 1) := by decide +kernel
theorem dX10_joinLines_130 : decode cX10_joinLines 130 = .ok (.getfield 58, 3) := by decide +kernel
theorem dX10_joinLines_133 : decode cX10_joinLines 133 = .ok (.invokevirtual 90, 3) := by decide +kernel
theorem dX10_joinLines_136 : decode cX10_joinLines 136 = .ok (.invokevirtual 104, 3) := by decide +kernel
theorem dX10_joinLines_72 : decode cX10_joinLines 72 = .ok (.aload_n 0, 1) := by decide +kernel
theorem dX10_joinLines_73 : decode cX10_joinLines 73 = .ok (.getfield 58, 3) := by decide +kernel
theorem dX10_joinLines_76 : decode cX10_joinLines 76 = .ok (.invokevirtual 83, 3) := by decide +kernel
theorem dX10_joinLines_79 : decode cX10_joinLines 79 = .ok (.bipush 32, 2) := by decide +kernel
theorem dX10_joinLines_81 : decode cX10_joinLines 81 = .ok (.if_icmp .eq 15, 3) := by decide +kernel
theorem dX10_joinLines_96 : decode cX10_joinLines 96 = .ok (.aload_n 0, 1) := by decide +kernel
theorem dX10_joinLines_97 : decode cX10_joinLines 97 = .ok (.getfield 58, 3) := by decide +kernel
theorem dX10_joinLines_100 : decode cX10_joinLines 100 = .ok (.dup, 1) := by decide +kernel
theorem dX10_joinLines_101 : decode cX10_joinLines 101 = .ok (.getfield 75, 3) := by decide +kernel
theorem dX10_joinLines_104 : decode cX10_joinLines 104 = .ok (.iconst 1, 1) := by decide +kernel
theorem dX10_joinLines_105 : decode cX10_joinLines 105 = .ok (.iadd, 1) := by decide +kernel
theorem dX10_joinLines_106 : decode cX10_joinLines 106 = .ok (.putfield 75, 3) := by decide +kernel
theorem dX10_joinLines_109 : decode cX10_joinLines 109 = .ok (.goto (-54), 3) := by decide +kernel
theorem dX10_joinLines_84 : decode cX10_joinLines 84 = .ok (.aload_n 0, 1) := by decide +kernel
theorem dX10_joinLines_85 : decode cX10_joinLines 85 = .ok (.getfield 58, 3) := by decide +kernel
theorem dX10_joinLines_88 : decode cX10_joinLines 88 = .ok (.invokevirtual 83, 3) := by decide +kernel
theorem dX10_joinLines_91 : decode cX10_joinLines 91 = .ok (.bipush 9, 2) := by decide +kernel
theorem dX10_joinLines_93 : decode cX10_joinLines 93 = .ok (.if_icmp .ne 19, 3) := by decide +kernel
theorem dX10_joinLines_27 : decode cX10_joinLines 27 = .ok (.aload_n 0, 1) := by decide +kernel
theorem dX10_joinLines_28 : decode cX10_joinLines 28 = .ok (.getfield 58, 3) := by decide +kernel
theorem dX10_joinLines_31 : decode cX10_joinLines 31 = .ok (.iconst 1, 1) := by decide +kernel
theorem dX10_joinLines_32 : decode cX10_joinLines 32 = .ok (.aload_n 0, 1) := by decide +kernel
theorem dX10_joinLines_33 : decode cX10_joinLines 33 = .ok (.getfield 58, 3) := by decide +kernel
theorem dX10_joinLines_36 : decode cX10_joinLines 36 = .ok (.invokevirtual 90, 3) := by decide +kernel
theorem dX10_joinLines_39 : decode cX10_joinLines 39 = .ok (.invokevirtual 104, 3) := by decide +kernel
set_option maxRecDepth 20000 in
theorem kX1_openBody (l : Launch) (G : zG) (T : tT) (κ : Nat → List Nat) (hst : l.stackTraces = false) (hE : tE G T κ) {a0 : Nat} (h0 : a0 ∈ κ 1) : tMv l G T yX1_openBody cX1_openBody 6 ["java/lang/IllegalStateException"] 8 125 1 6 [.ref a0] uT (uPv 0x9b30000000000000000000000000000000000000000000000000000000000000000000000000000000000000000000400000000000000000000) := by
  refine tMv.intro hst rfl (Nat.le_of_ble_eq_true rfl) ?_
  intro w0 hw0 _ X hC hR hO hX
  refine z_aload_n hC (pc := 0) 0 dX1_openBody_0 rfl rfl ?_
  refine z_iconst hC (pc := 1) (v := 1) dX1_openBody_1 (by decide) ?_
  refine u_put hC hw0 (pc := 2) zf1 18 (hE.o1 h0) rfl (Or.inr rfl) dX1_openBody_2 zw402 rfl rfl rfl (kk := fun w3 hw3 fw3 kw3 => ?_)
  refine z_aload_n hC (pc := 5) 0 dX1_openBody_5 rfl rfl ?_
  refine u_get hC hw3 (pc := 6) zf1 2 (hE.o1 h0) rfl dX1_openBody_6 zw386 (kk := fun va4 ta4 fa4 => ?_)
  obtain ⟨a4, ma4, rfl⟩ := ta4
  obtain ⟨q5, hqq5⟩ := hE.o7 ma4
  refine t_callVv hC hw3 (pc := 9) (As := []) (kX7_skip l G T κ hst hE ma4) trivial dmX7_skip zf7 hqq5 dX1_openBody_9 zw1012 rfl rfl (Nat.le_of_ble_eq_true rfl) (Nat.le_of_ble_eq_true rfl) (Nat.le_of_ble_eq_true rfl) (Nat.le_of_ble_eq_true rfl) (Nat.le_of_ble_eq_true rfl) (fun E w q hE hw => hO E w _ _ _ _ _ q hE (Nat.le_of_ble_eq_true rfl) (Nat.le_of_ble_eq_true rfl) hw) (fun cw6 nw6 w6 hw6 pw6 => ?_)
  obtain ⟨rfl, rfl, kw6⟩ := pw6
  refine z_aload_n hC (pc := 12) 0 dX1_openBody_12 rfl rfl ?_
  refine u_getK hC (pc := 13) zf1 2 (tKeep.F kw6 fa4 rfl) dX1_openBody_13 zw386 (kk := ?_)
  refine u_get hC hw6 (pc := 16) zf7 5 (hE.o7 ma4) rfl dX1_openBody_16 zw123 (kk := fun vx8 tx8 fx8 => ?_)
  obtain ⟨x8, rfl⟩ := tx8
  refine z_iconst hC (pc := 19) (v := 2) dX1_openBody_19 (by decide) ?_
  refine z_iadd hC (pc := 20) (v := (x8 + 2)) dX1_openBody_20 rfl ?_
  refine z_istore_n hC (pc := 21) (lv' := [(1, .int (x8 + 2)), (0, .ref a0)]) dX1_openBody_21 rfl (by decide) rfl ?_
  refine z_aload_n hC (pc := 22) 1 dX1_openBody_22 rfl rfl ?_
  refine u_getK hC (pc := 23) zf1 2 (tKeep.F kw6 fa4 rfl) dX1_openBody_23 zw386 (kk := ?_)
  refine t_callVi hC hw6 (pc := 26) (As := []) (kX7_peek l G T κ hst hE ma4) trivial dmX7_peek zf7 hqq5 dX1_openBody_26 zw1151 rfl rfl (Nat.le_of_ble_eq_true rfl) (Nat.le_of_ble_eq_true rfl) (Nat.le_of_ble_eq_true rfl) (Nat.le_of_ble_eq_true rfl) (Nat.le_of_ble_eq_true rfl) (fun _ _ _ h => nomatch h) (fun x10 cw9 nw9 w9 hw9 pw9 => ?_)
  obtain ⟨rfl, rfl, kw9⟩ := pw9
  refine z_bipush hC (pc := 29) (v := 34) dX1_openBody_29 (by decide) ?_
  refine z_icmp_ne hC (pc := 31) 65 dX1_openBody_31 (by decide) (fun c11 => ?_) (fun c11 => ?_)
  · refine z_aload_n hC (pc := 65) 1 dX1_openBody_65 rfl rfl ?_
    refine u_getK hC (pc := 66) zf1 2 (tKeep.F kw9 (tKeep.F kw6 fa4 rfl) rfl) dX1_openBody_66 zw386 (kk := ?_)
    refine z_aload_n hC (pc := 69) 1 dX1_openBody_69 rfl rfl ?_
    refine u_getK hC (pc := 70) zf1 2 (tKeep.F kw9 (tKeep.F kw6 fa4 rfl) rfl) dX1_openBody_70 zw386 (kk := ?_)
    refine u_getK hC (pc := 73) zf7 5 (tKeep.F kw9 fx8 rfl) dX1_openBody_73 zw123 (kk := ?_)
    refine z_iconst hC (pc := 76) (v := 1) dX1_openBody_76 (by decide) ?_
    refine z_iadd hC (pc := 77) (v := (x8 + 1)) dX1_openBody_77 rfl ?_
    refine t_callVi hC hw9 (pc := 78) (As := [.int (x8 + 1)]) (kX7_at l G T κ hst hE ma4) trivial dmX7_at zf7 hqq5 dX1_openBody_78 zw1169 rfl rfl (Nat.le_of_ble_eq_true rfl) (Nat.le_of_ble_eq_true rfl) (Nat.le_of_ble_eq_true rfl) (Nat.le_of_ble_eq_true rfl) (Nat.le_of_ble_eq_true rfl) (fun _ _ _ h => nomatch h) (fun x13 cw12 nw12 w12 hw12 pw12 => ?_)
    obtain ⟨rfl, rfl, kw12⟩ := pw12
    refine z_istore_n hC (pc := 81) (lv' := [(2, .int x13), (1, .int (x8 + 2)), (0, .ref a0)]) dX1_openBody_81 rfl (by decide) rfl ?_
    refine z_aload_n hC (pc := 82) 2 dX1_openBody_82 rfl rfl ?_
    refine u_getK hC (pc := 83) zf1 2 (tKeep.F kw12 (tKeep.F kw9 (tKeep.F kw6 fa4 rfl) rfl) rfl) dX1_openBody_83 zw386 (kk := ?_)
    refine t_callVi hC hw12 (pc := 86) (As := []) (kX7_peek l G T κ hst hE ma4) trivial dmX7_peek zf7 hqq5 dX1_openBody_86 zw1151 rfl rfl (Nat.le_of_ble_eq_true rfl) (Nat.le_of_ble_eq_true rfl) (Nat.le_of_ble_eq_true rfl) (Nat.le_of_ble_eq_true rfl) (Nat.le_of_ble_eq_true rfl) (fun _ _ _ h => nomatch h) (fun x15 cw14 nw14 w14 hw14 pw14 => ?_)
    obtain ⟨rfl, rfl, kw14⟩ := pw14
    refine z_bipush hC (pc := 89) (v := 60) dX1_openBody_89 (by decide) ?_
    have j121 : ∀ (w16 : va_W), tW T w16 → tKeep 0x1800000000000000000000000000000000000000000000000000000000000000000000000000000000000000000000000000000000000000000 w14 w16 → zS X G 6 w16 [(0, .ref a0), (1, .int (x8 + 2)), (2, .int x13)] 0 0 121 [] := by
      intro w16 hw16 kw16
      refine z_iload_n hC (pc := 121) 2 dX1_openBody_121 rfl rfl ?_
      refine z_bipush hC (pc := 122) (v := 60) dX1_openBody_122 (by decide) ?_
      have j134 : ∀ (x17 : Int32), zS X G 6 w16 [(0, .ref a0), (1, .int (x8 + 2))] 0 0 134 [.int x17] := by
        intro x17
        refine z_istore_n hC (pc := 134) (lv' := [(3, .int x17), (0, .ref a0), (1, .int (x8 + 2))]) dX1_openBody_134 rfl (by decide) rfl ?_
        refine z_iload_n hC (pc := 135) 2 dX1_openBody_135 rfl rfl ?_
        refine z_istore hC (pc := 136) (lv' := [(4, .int (x8 + 2)), (3, .int x17), (0, .ref a0), (1, .int (x8 + 2))]) dX1_openBody_136 (by decide) rfl ?_
        have j138 : ∀ (d138 : Nat), ∀ (w18 : va_W), tW T w18 → tKeep 0x0 w16 w18 → ∀ (x19 : Int32), (2 ^ 31 - (x19 : Int32).toInt).toNat ≤ d138 → zS X G 6 w18 [(0, .ref a0), (1, .int (x8 + 2)), (3, .int x17), (4, .int x19)] 0 0 138 [] := by
          intro d138
          induction d138 with
          | zero => intro w18 hw18 kw18 x19 hd138; exact (t_zero hd138).elim
          | succ d138 ih138 =>
            intro w18 hw18 kw18 x19 hd138
            refine z_iload hC (pc := 138) 3 dX1_openBody_138 rfl ?_
            refine z_aload_n hC (pc := 140) 0 dX1_openBody_140 rfl rfl ?_
            refine u_getK hC (pc := 141) zf1 2 (tKeep.F kw18 (tKeep.F kw16 (tKeep.F kw14 (tKeep.F kw12 (tKeep.F kw9 (tKeep.F kw6 fa4 rfl) rfl) rfl) rfl) rfl) rfl) dX1_openBody_141 zw386 (kk := ?_)
            refine u_get hC hw18 (pc := 144) zf7 4 (hE.o7 ma4) rfl dX1_openBody_144 zw120 (kk := fun vx20 tx20 fx20 => ?_)
            obtain ⟨x20, rfl⟩ := tx20
            have j185 : ∀ (w21 : va_W), tW T w21 → tKeep 0x0 w18 w21 → zS X G 6 w21 [(0, .ref a0), (1, .int (x8 + 2)), (3, .int x17), (4, .int x19)] 0 0 185 [] := by
              intro w21 hw21 kw21
              refine z_iload hC (pc := 185) 3 dX1_openBody_185 rfl ?_
              refine z_aload_n hC (pc := 187) 0 dX1_openBody_187 rfl rfl ?_
              refine u_getK hC (pc := 188) zf1 2 (tKeep.F kw21 (tKeep.F kw18 (tKeep.F kw16 (tKeep.F kw14 (tKeep.F kw12 (tKeep.F kw9 (tKeep.F kw6 fa4 rfl) rfl) rfl) rfl) rfl) rfl) rfl) dX1_openBody_188 zw386 (kk := ?_)
              refine u_getK hC (pc := 191) zf7 4 (tKeep.F kw21 fx20 rfl) dX1_openBody_191 zw120 (kk := ?_)
              have j212 : ∀ (w22 : va_W), tW T w22 → tKeep 0x1800000000000000000000000000000000000000000000000000000000000000000000000000000000000000000000000000000000000000000 w21 w22 → zS X G 6 w22 [(0, .ref a0), (1, .int (x8 + 2)), (3, .int x17), (4, .int x19)] 0 0 212 [] := by
                intro w22 hw22 kw22
                refine z_iload hC (pc := 212) 3 dX1_openBody_212 rfl ?_
                refine z_istore hC (pc := 214) (lv' := [(5, .int x19), (0, .ref a0), (1, .int (x8 + 2)), (3, .int x17), (4, .int x19)]) dX1_openBody_214 (by decide) rfl ?_
                refine z_iload_n hC (pc := 216) 3 dX1_openBody_216 rfl rfl ?_
                refine z_bipush hC (pc := 217) (v := 62) dX1_openBody_217 (by decide) ?_
                have j281 : ∀ (w23 : va_W), tW T w23 → tKeep 0x0 w22 w23 → ∀ (x24 : Int32), ∀ (x25 : Int32), zS X G 6 w23 [(0, .ref a0), (1, .int x24), (3, .int x17), (4, .int x19), (5, .int x25)] 0 0 281 [] := by
                  intro w23 hw23 kw23 x24 x25
                  refine z_aload_n hC (pc := 281) 0 dX1_openBody_281 rfl rfl ?_
                  refine u_getK hC (pc := 282) zf1 2 (tKeep.F kw23 (tKeep.F kw22 (tKeep.F kw21 (tKeep.F kw18 (tKeep.F kw16 (tKeep.F kw14 (tKeep.F kw12 (tKeep.F kw9 (tKeep.F kw6 fa4 rfl) rfl) rfl) rfl) rfl) rfl) rfl) rfl) rfl) dX1_openBody_282 zw386 (kk := ?_)
                  refine z_iload_n hC (pc := 285) 1 dX1_openBody_285 rfl rfl ?_
                  refine z_iload hC (pc := 286) 4 dX1_openBody_286 rfl ?_
                  refine z_iload_n hC (pc := 288) 2 dX1_openBody_288 rfl rfl ?_
                  refine z_bipush hC (pc := 289) (v := 37) dX1_openBody_289 (by decide) ?_
                  have j299 : ∀ (x26 : Int32), tZ (.int x26) → zS X G 6 w23 [(4, .int x19)] 0 0 299 [.int x26, .int x25, .int x24, .ref a4] := by
                    intro x26 zx26
                    refine z_iload hC (pc := 299) 0 dX1_openBody_299 rfl ?_
                    refine z_iload hC (pc := 301) 0 dX1_openBody_301 rfl ?_
                    refine z_iconst hC (pc := 303) (v := 2) dX1_openBody_303 (by decide) ?_
                    refine z_iadd hC (pc := 304) (v := (x19 + 2)) dX1_openBody_304 rfl ?_
                    refine t_callVv hC hw23 (pc := 305) (As := [.int x24, .int x25, .int x26, .int x19, .int (x19 + 2)]) (kX7_openBody l G T κ hst hE ma4) trivial dmX7_openBody zf7 hqq5 dX1_openBody_305 zw1298 rfl rfl (Nat.le_of_ble_eq_true rfl) (Nat.le_of_ble_eq_true rfl) (Nat.le_of_ble_eq_true rfl) (Nat.le_of_ble_eq_true rfl) (Nat.le_of_ble_eq_true rfl) (fun _ _ _ h => nomatch h) (fun cw27 nw27 w27 hw27 pw27 => ?_)
                    obtain ⟨rfl, rfl, kw27⟩ := pw27
                    exact hR _ _ _ _ _ dX1_openBody_308 (Nat.le_of_ble_eq_true rfl) (Nat.le_of_ble_eq_true rfl) ⟨hw27, rfl, rfl, (tKeep.tr (tKeep.tr (tKeep.tr (tKeep.tr (tKeep.tr (tKeep.tr (tKeep.tr (tKeep.tr (tKeep.tr (tKeep.tr (tKeep.tr tKeep.rf kw3 rfl) kw6 rfl) kw9 rfl) kw12 rfl) kw14 rfl) kw16 rfl) kw18 rfl) kw21 rfl) kw22 rfl) kw23 rfl) kw27 rfl)⟩
                  refine z_icmp_ne hC (pc := 291) 298 dX1_openBody_291 (by decide) (fun c29 => ?_) (fun c29 => ?_)
                  · refine z_iconst hC (pc := 298) (v := 0) dX1_openBody_298 (by decide) ?_
                    refine z_lvs [3] rfl ?_
                    exact j299 0 (Or.inl rfl)
                  · refine z_iconst hC (pc := 294) (v := 1) dX1_openBody_294 (by decide) ?_
                    refine z_goto hC (pc := 295) 299 dX1_openBody_295 (by decide) ?_
                    refine z_lvs [3] rfl ?_
                    exact j299 1 (Or.inr rfl)
                refine z_icmp_ne hC (pc := 219) 281 dX1_openBody_219 (by decide) (fun c30 => ?_) (fun c30 => ?_)
                · refine z_lvs [1, 2, 3, 4, 0] rfl ?_
                  exact j281 w22 hw22 tKeep.rf (x8 + 2) x19
                · refine z_iload_n hC (pc := 222) 2 dX1_openBody_222 rfl rfl ?_
                  refine z_iload_n hC (pc := 223) 2 dX1_openBody_223 rfl rfl ?_
                  refine z_iload hC (pc := 224) 0 dX1_openBody_224 rfl ?_
                  have j247 : ∀ (w31 : va_W), tW T w31 → tKeep 0x0 w22 w31 → ∀ (x32 : Int32), tZ (.int x32) → zS X G 6 w31 [(0, .ref a0), (3, .int x17), (4, .int x19), (5, .int x19)] 0 0 247 [.int x32, .int (x8 + 2)] := by
                    intro w31 hw31 kw31 x32 zx32
                    refine z_iadd hC (pc := 247) (v := ((x8 + 2) + x32)) dX1_openBody_247 rfl ?_
                    refine z_istore_n hC (pc := 248) (lv' := [(1, .int ((x8 + 2) + x32)), (0, .ref a0), (3, .int x17), (4, .int x19), (5, .int x19)]) dX1_openBody_248 rfl (by decide) rfl ?_
                    refine z_iload hC (pc := 249) 4 dX1_openBody_249 rfl ?_
                    refine z_iload_n hC (pc := 251) 0 dX1_openBody_251 rfl rfl ?_
                    refine z_iload hC (pc := 252) 4 dX1_openBody_252 rfl ?_
                    have j278 : ∀ (w33 : va_W), tW T w33 → tKeep 0x0 w31 w33 → ∀ (x34 : Int32), tZ (.int x34) → zS X G 6 w33 [(0, .ref a0), (1, .int ((x8 + 2) + x32)), (3, .int x17), (4, .int x19)] 0 0 278 [.int x34, .int x19] := by
                      intro w33 hw33 kw33 x34 zx34
                      refine z_isub hC (pc := 278) (v := (x19 - x34)) dX1_openBody_278 rfl ?_
                      refine z_istore hC (pc := 279) (lv' := [(5, .int (x19 - x34)), (0, .ref a0), (1, .int ((x8 + 2) + x32)), (3, .int x17), (4, .int x19)]) dX1_openBody_279 (by decide) rfl ?_
                      refine z_lvs [1, 2, 3, 4, 0] rfl ?_
                      exact j281 w33 hw33 (tKeep.tr (tKeep.tr tKeep.rf kw31 rfl) kw33 rfl) ((x8 + 2) + x32) (x19 - x34)
                    have j277 : ∀ (w35 : va_W), tW T w35 → tKeep 0x0 w31 w35 → zS X G 6 w35 [(0, .ref a0), (1, .int ((x8 + 2) + x32)), (3, .int x17), (4, .int x19)] 0 0 277 [.int x19] := by
                      intro w35 hw35 kw35
                      refine z_iconst hC (pc := 277) (v := 0) dX1_openBody_277 (by decide) ?_
                      exact j278 w35 hw35 (tKeep.tr tKeep.rf kw35 rfl) 0 (Or.inl rfl)
                    refine z_icmp_ge hC (pc := 254) 277 dX1_openBody_254 (by decide) (fun c36 => ?_) (fun c36 => ?_)
                    · refine z_lvs [1, 0, 2, 3] rfl ?_
                      exact j277 w31 hw31 tKeep.rf
                    · refine z_aload_n hC (pc := 257) 1 dX1_openBody_257 rfl rfl ?_
                      refine u_getK hC (pc := 258) zf1 2 (tKeep.F kw31 (tKeep.F kw22 (tKeep.F kw21 (tKeep.F kw18 (tKeep.F kw16 (tKeep.F kw14 (tKeep.F kw12 (tKeep.F kw9 (tKeep.F kw6 fa4 rfl) rfl) rfl) rfl) rfl) rfl) rfl) rfl) rfl) dX1_openBody_258 zw386 (kk := ?_)
                      refine z_iload hC (pc := 261) 4 dX1_openBody_261 rfl ?_
                      refine z_iconst hC (pc := 263) (v := 1) dX1_openBody_263 (by decide) ?_
                      refine z_isub hC (pc := 264) (v := (x19 - 1)) dX1_openBody_264 rfl ?_
                      refine t_callVi hC hw31 (pc := 265) (As := [.int (x19 - 1)]) (kX7_at l G T κ hst hE ma4) trivial dmX7_at zf7 hqq5 dX1_openBody_265 zw1169 rfl rfl (Nat.le_of_ble_eq_true rfl) (Nat.le_of_ble_eq_true rfl) (Nat.le_of_ble_eq_true rfl) (Nat.le_of_ble_eq_true rfl) (Nat.le_of_ble_eq_true rfl) (fun _ _ _ h => nomatch h) (fun x38 cw37 nw37 w37 hw37 pw37 => ?_)
                      obtain ⟨rfl, rfl, kw37⟩ := pw37
                      refine z_bipush hC (pc := 268) (v := 10) dX1_openBody_268 (by decide) ?_
                      refine z_icmp_ne hC (pc := 270) 277 dX1_openBody_270 (by decide) (fun c39 => ?_) (fun c39 => ?_)
                      · refine z_lvs [1, 0, 2, 3] rfl ?_
                        exact j277 w37 hw37 (tKeep.tr tKeep.rf kw37 rfl)
                      · refine z_iconst hC (pc := 273) (v := 1) dX1_openBody_273 (by decide) ?_
                        refine z_goto hC (pc := 274) 278 dX1_openBody_274 (by decide) ?_
                        refine z_lvs [1, 0, 2, 3] rfl ?_
                        exact j278 w37 hw37 (tKeep.tr tKeep.rf kw37 rfl) 1 (Or.inr rfl)
                  have j246 : ∀ (w40 : va_W), tW T w40 → tKeep 0x0 w22 w40 → zS X G 6 w40 [(0, .ref a0), (3, .int x17), (4, .int x19), (5, .int x19)] 0 0 246 [.int (x8 + 2)] := by
                    intro w40 hw40 kw40
                    refine z_iconst hC (pc := 246) (v := 0) dX1_openBody_246 (by decide) ?_
                    exact j247 w40 hw40 (tKeep.tr tKeep.rf kw40 rfl) 0 (Or.inl rfl)
                  refine z_icmp_ge hC (pc := 226) 246 dX1_openBody_226 (by decide) (fun c41 => ?_) (fun c41 => ?_)
                  · refine z_lvs [1, 3, 4, 0] rfl ?_
                    exact j246 w22 hw22 tKeep.rf
                  · refine z_aload_n hC (pc := 229) 1 dX1_openBody_229 rfl rfl ?_
                    refine u_getK hC (pc := 230) zf1 2 (tKeep.F kw22 (tKeep.F kw21 (tKeep.F kw18 (tKeep.F kw16 (tKeep.F kw14 (tKeep.F kw12 (tKeep.F kw9 (tKeep.F kw6 fa4 rfl) rfl) rfl) rfl) rfl) rfl) rfl) rfl) dX1_openBody_230 zw386 (kk := ?_)
                    refine z_iload_n hC (pc := 233) 2 dX1_openBody_233 rfl rfl ?_
                    refine t_callVi hC hw22 (pc := 234) (As := [.int (x8 + 2)]) (kX7_at l G T κ hst hE ma4) trivial dmX7_at zf7 hqq5 dX1_openBody_234 zw1169 rfl rfl (Nat.le_of_ble_eq_true rfl) (Nat.le_of_ble_eq_true rfl) (Nat.le_of_ble_eq_true rfl) (Nat.le_of_ble_eq_true rfl) (Nat.le_of_ble_eq_true rfl) (fun _ _ _ h => nomatch h) (fun x43 cw42 nw42 w42 hw42 pw42 => ?_)
                    obtain ⟨rfl, rfl, kw42⟩ := pw42
                    refine z_bipush hC (pc := 237) (v := 10) dX1_openBody_237 (by decide) ?_
                    refine z_icmp_ne hC (pc := 239) 246 dX1_openBody_239 (by decide) (fun c44 => ?_) (fun c44 => ?_)
                    · refine z_lvs [1, 3, 4, 0] rfl ?_
                      exact j246 w42 hw42 (tKeep.tr tKeep.rf kw42 rfl)
                    · refine z_iconst hC (pc := 242) (v := 1) dX1_openBody_242 (by decide) ?_
                      refine z_goto hC (pc := 243) 247 dX1_openBody_243 (by decide) ?_
                      refine z_lvs [1, 3, 4, 0] rfl ?_
                      exact j247 w42 hw42 (tKeep.tr tKeep.rf kw42 rfl) 1 (Or.inr rfl)
              refine z_icmp_lt hC (pc := 194) 212 dX1_openBody_194 (by decide) (fun c45 => ?_) (fun c45 => ?_)
              · exact j212 w21 hw21 tKeep.rf
              · refine z_aload_n hC (pc := 197) 0 dX1_openBody_197 rfl rfl ?_
                refine u_getK hC (pc := 198) zf1 2 (tKeep.F kw21 (tKeep.F kw18 (tKeep.F kw16 (tKeep.F kw14 (tKeep.F kw12 (tKeep.F kw9 (tKeep.F kw6 fa4 rfl) rfl) rfl) rfl) rfl) rfl) rfl) dX1_openBody_198 zw386 (kk := ?_)
                refine z_iconst hC (pc := 201) (v := 1) dX1_openBody_201 (by decide) ?_
                refine z_aload_n hC (pc := 202) 0 dX1_openBody_202 rfl rfl ?_
                refine u_getK hC (pc := 203) zf1 2 (tKeep.F kw21 (tKeep.F kw18 (tKeep.F kw16 (tKeep.F kw14 (tKeep.F kw12 (tKeep.F kw9 (tKeep.F kw6 fa4 rfl) rfl) rfl) rfl) rfl) rfl) rfl) dX1_openBody_203 zw386 (kk := ?_)
                refine u_getK hC (pc := 206) zf7 4 (tKeep.F kw21 fx20 rfl) dX1_openBody_206 zw120 (kk := ?_)
                refine t_callVv hC hw21 (pc := 209) (As := [.int 1, .int x20]) (kX7_fail l G T κ hst hE ma4) trivial dmX7_fail zf7 hqq5 dX1_openBody_209 zw1155 rfl rfl (Nat.le_of_ble_eq_true rfl) (Nat.le_of_ble_eq_true rfl) (Nat.le_of_ble_eq_true rfl) (Nat.le_of_ble_eq_true rfl) (Nat.le_of_ble_eq_true rfl) (fun E w q hE hw => hO E w _ _ _ _ _ q hE (Nat.le_of_ble_eq_true rfl) (Nat.le_of_ble_eq_true rfl) hw) (fun cw46 nw46 w46 hw46 pw46 => ?_)
                obtain ⟨rfl, rfl, kw46⟩ := pw46
                exact j212 w46 hw46 (tKeep.tr tKeep.rf kw46 rfl)
            refine z_icmp_ge hC (pc := 147) 185 dX1_openBody_147 (by decide) (fun c48 => ?_) (fun c48 => ?_)
            · exact j185 w18 hw18 tKeep.rf
            · refine z_aload_n hC (pc := 150) 0 dX1_openBody_150 rfl rfl ?_
              refine u_getK hC (pc := 151) zf1 2 (tKeep.F kw18 (tKeep.F kw16 (tKeep.F kw14 (tKeep.F kw12 (tKeep.F kw9 (tKeep.F kw6 fa4 rfl) rfl) rfl) rfl) rfl) rfl) dX1_openBody_151 zw386 (kk := ?_)
              refine z_iload hC (pc := 154) 3 dX1_openBody_154 rfl ?_
              refine t_callVi hC hw18 (pc := 156) (As := [.int x19]) (kX7_at l G T κ hst hE ma4) trivial dmX7_at zf7 hqq5 dX1_openBody_156 zw1169 rfl rfl (Nat.le_of_ble_eq_true rfl) (Nat.le_of_ble_eq_true rfl) (Nat.le_of_ble_eq_true rfl) (Nat.le_of_ble_eq_true rfl) (Nat.le_of_ble_eq_true rfl) (fun _ _ _ h => nomatch h) (fun x50 cw49 nw49 w49 hw49 pw49 => ?_)
              obtain ⟨rfl, rfl, kw49⟩ := pw49
              refine z_iload_n hC (pc := 159) 2 dX1_openBody_159 rfl rfl ?_
              have j179 : ∀ (w51 : va_W), tW T w51 → tKeep 0x0 w49 w51 → zS X G 6 w51 [(0, .ref a0), (1, .int (x8 + 2)), (3, .int x17), (4, .int x19)] 0 0 179 [] := by
                intro w51 hw51 kw51
                refine z_iinc hC (pc := 179) (v := (x19 + 1)) (lv' := [(4, .int (x19 + 1)), (0, .ref a0), (1, .int (x8 + 2)), (3, .int x17)]) 3 dX1_openBody_179 rfl (congrArg _ (by decide)) (by decide) rfl ?_
                refine z_goto hC (pc := 182) 138 dX1_openBody_182 (by decide) ?_
                refine z_lvs [1, 2, 3, 0] rfl ?_
                exact ih138 w51 hw51 (tKeep.tr (tKeep.tr (tKeep.tr tKeep.rf kw18 rfl) kw49 rfl) kw51 rfl) (x19 + 1) (t_up (Int32.not_le.mp c48) hd138)
              refine z_icmp_ne hC (pc := 160) 179 dX1_openBody_160 (by decide) (fun c52 => ?_) (fun c52 => ?_)
              · exact j179 w49 hw49 tKeep.rf
              · refine z_aload_n hC (pc := 163) 0 dX1_openBody_163 rfl rfl ?_
                refine u_getK hC (pc := 164) zf1 2 (tKeep.F kw49 (tKeep.F kw18 (tKeep.F kw16 (tKeep.F kw14 (tKeep.F kw12 (tKeep.F kw9 (tKeep.F kw6 fa4 rfl) rfl) rfl) rfl) rfl) rfl) rfl) dX1_openBody_164 zw386 (kk := ?_)
                refine z_iload hC (pc := 167) 3 dX1_openBody_167 rfl ?_
                refine z_iconst hC (pc := 169) (v := 1) dX1_openBody_169 (by decide) ?_
                refine z_iadd hC (pc := 170) (v := (x19 + 1)) dX1_openBody_170 rfl ?_
                refine t_callVi hC hw49 (pc := 171) (As := [.int (x19 + 1)]) (kX7_at l G T κ hst hE ma4) trivial dmX7_at zf7 hqq5 dX1_openBody_171 zw1169 rfl rfl (Nat.le_of_ble_eq_true rfl) (Nat.le_of_ble_eq_true rfl) (Nat.le_of_ble_eq_true rfl) (Nat.le_of_ble_eq_true rfl) (Nat.le_of_ble_eq_true rfl) (fun _ _ _ h => nomatch h) (fun x54 cw53 nw53 w53 hw53 pw53 => ?_)
                obtain ⟨rfl, rfl, kw53⟩ := pw53
                refine z_bipush hC (pc := 174) (v := 62) dX1_openBody_174 (by decide) ?_
                refine z_icmp_eq hC (pc := 176) 185 dX1_openBody_176 (by decide) (fun c55 => ?_) (fun c55 => ?_)
                · exact j185 w53 hw53 (tKeep.tr (tKeep.tr tKeep.rf kw49 rfl) kw53 rfl)
                · exact j179 w53 hw53 (tKeep.tr tKeep.rf kw53 rfl)
        refine z_lvs [2, 3, 1, 0] rfl ?_
        exact j138 _ w16 hw16 tKeep.rf (x8 + 2) (Nat.le_refl _)
      refine z_icmp_ne hC (pc := 124) 132 dX1_openBody_124 (by decide) (fun c56 => ?_) (fun c56 => ?_)
      · refine z_bipush hC (pc := 132) (v := 37) dX1_openBody_132 (by decide) ?_
        refine z_lvs [0, 1] rfl ?_
        exact j134 37
      · refine z_bipush hC (pc := 127) (v := 62) dX1_openBody_127 (by decide) ?_
        refine z_goto hC (pc := 129) 134 dX1_openBody_129 (by decide) ?_
        refine z_lvs [0, 1] rfl ?_
        exact j134 62
    have j106 : zS X G 6 w14 [(0, .ref a0), (1, .int (x8 + 2)), (2, .int x13)] 0 0 106 [] := by
      refine z_aload_n hC (pc := 106) 0 dX1_openBody_106 rfl rfl ?_
      refine u_getK hC (pc := 107) zf1 2 (tKeep.F kw14 (tKeep.F kw12 (tKeep.F kw9 (tKeep.F kw6 fa4 rfl) rfl) rfl) rfl) dX1_openBody_107 zw386 (kk := ?_)
      refine z_iconst hC (pc := 110) (v := 1) dX1_openBody_110 (by decide) ?_
      refine z_aload_n hC (pc := 111) 0 dX1_openBody_111 rfl rfl ?_
      refine u_getK hC (pc := 112) zf1 2 (tKeep.F kw14 (tKeep.F kw12 (tKeep.F kw9 (tKeep.F kw6 fa4 rfl) rfl) rfl) rfl) dX1_openBody_112 zw386 (kk := ?_)
      refine u_getK hC (pc := 115) zf7 5 (tKeep.F kw14 (tKeep.F kw12 (tKeep.F kw9 fx8 rfl) rfl) rfl) dX1_openBody_115 zw123 (kk := ?_)
      refine t_callVv hC hw14 (pc := 118) (As := [.int 1, .int x8]) (kX7_fail l G T κ hst hE ma4) trivial dmX7_fail zf7 hqq5 dX1_openBody_118 zw1155 rfl rfl (Nat.le_of_ble_eq_true rfl) (Nat.le_of_ble_eq_true rfl) (Nat.le_of_ble_eq_true rfl) (Nat.le_of_ble_eq_true rfl) (Nat.le_of_ble_eq_true rfl) (fun E w q hE hw => hO E w _ _ _ _ _ q hE (Nat.le_of_ble_eq_true rfl) (Nat.le_of_ble_eq_true rfl) hw) (fun cw57 nw57 w57 hw57 pw57 => ?_)
      obtain ⟨rfl, rfl, kw57⟩ := pw57
      exact j121 w57 hw57 (tKeep.tr tKeep.rf kw57 rfl)
    refine z_icmp_ne hC (pc := 91) 106 dX1_openBody_91 (by decide) (fun c59 => ?_) (fun c59 => ?_)
    · refine z_lvs [2, 1, 0] rfl ?_
      exact j106
    · refine z_iload_n hC (pc := 94) 0 dX1_openBody_94 rfl rfl ?_
      refine z_bipush hC (pc := 95) (v := 60) dX1_openBody_95 (by decide) ?_
      refine z_icmp_eq hC (pc := 97) 121 dX1_openBody_97 (by decide) (fun c60 => ?_) (fun c60 => ?_)
      · refine z_lvs [2, 1, 0] rfl ?_
        exact j121 w14 hw14 tKeep.rf
      · refine z_iload_n hC (pc := 100) 0 dX1_openBody_100 rfl rfl ?_
        refine z_bipush hC (pc := 101) (v := 37) dX1_openBody_101 (by decide) ?_
        refine z_icmp_eq hC (pc := 103) 121 dX1_openBody_103 (by decide) (fun c61 => ?_) (fun c61 => ?_)
        · refine z_lvs [2, 1, 0] rfl ?_
          exact j121 w14 hw14 tKeep.rf
        · refine z_lvs [2, 1, 0] rfl ?_
          exact j106
  · refine z_aload_n hC (pc := 34) 1 dX1_openBody_34 rfl rfl ?_
    refine u_getK hC (pc := 35) zf1 2 (tKeep.F kw9 (tKeep.F kw6 fa4 rfl) rfl) dX1_openBody_35 zw386 (kk := ?_)
    refine t_callVi hC hw9 (pc := 38) (As := []) (kX7_stringEnd l G T κ hst hE ma4) trivial dmX7_stringEnd zf7 hqq5 dX1_openBody_38 zw1156 rfl rfl (Nat.le_of_ble_eq_true rfl) (Nat.le_of_ble_eq_true rfl) (Nat.le_of_ble_eq_true rfl) (Nat.le_of_ble_eq_true rfl) (Nat.le_of_ble_eq_true rfl) (fun E w q hE hw => hO E w _ _ _ _ _ q hE (Nat.le_of_ble_eq_true rfl) (Nat.le_of_ble_eq_true rfl) hw) (fun x63 cw62 nw62 w62 hw62 pw62 => ?_)
    obtain ⟨rfl, rfl, kw62⟩ := pw62
    refine z_istore_n hC (pc := 41) (lv' := [(2, .int x63), (1, .int (x8 + 2)), (0, .ref a0)]) dX1_openBody_41 rfl (by decide) rfl ?_
    refine z_aload_n hC (pc := 42) 2 dX1_openBody_42 rfl rfl ?_
    refine u_getK hC (pc := 43) zf1 2 (tKeep.F kw62 (tKeep.F kw9 (tKeep.F kw6 fa4 rfl) rfl) rfl) dX1_openBody_43 zw386 (kk := ?_)
    refine z_aload_n hC (pc := 46) 2 dX1_openBody_46 rfl rfl ?_
    refine u_getK hC (pc := 47) zf1 2 (tKeep.F kw62 (tKeep.F kw9 (tKeep.F kw6 fa4 rfl) rfl) rfl) dX1_openBody_47 zw386 (kk := ?_)
    refine u_getK hC (pc := 50) zf7 5 (tKeep.F kw62 (tKeep.F kw9 fx8 rfl) rfl) dX1_openBody_50 zw123 (kk := ?_)
    refine z_iconst hC (pc := 53) (v := 1) dX1_openBody_53 (by decide) ?_
    refine z_iadd hC (pc := 54) (v := (x8 + 1)) dX1_openBody_54 rfl ?_
    refine z_iload_n hC (pc := 55) 0 dX1_openBody_55 rfl rfl ?_
    refine z_iconst hC (pc := 56) (v := 0) dX1_openBody_56 (by decide) ?_
    refine z_iload_n hC (pc := 57) 0 dX1_openBody_57 rfl rfl ?_
    refine z_iload_n hC (pc := 58) 0 dX1_openBody_58 rfl rfl ?_
    refine z_iconst hC (pc := 59) (v := 1) dX1_openBody_59 (by decide) ?_
    refine z_iadd hC (pc := 60) (v := (x63 + 1)) dX1_openBody_60 rfl ?_
    refine t_callVv hC hw62 (pc := 61) (As := [.int (x8 + 1), .int x63, .int 0, .int x63, .int (x63 + 1)]) (kX7_openBody l G T κ hst hE ma4) trivial dmX7_openBody zf7 hqq5 dX1_openBody_61 zw1298 rfl rfl (Nat.le_of_ble_eq_true rfl) (Nat.le_of_ble_eq_true rfl) (Nat.le_of_ble_eq_true rfl) (Nat.le_of_ble_eq_true rfl) (Nat.le_of_ble_eq_true rfl) (fun _ _ _ h => nomatch h) (fun cw64 nw64 w64 hw64 pw64 => ?_)
    obtain ⟨rfl, rfl, kw64⟩ := pw64
    exact hR _ _ _ _ _ dX1_openBody_64 (Nat.le_of_ble_eq_true rfl) (Nat.le_of_ble_eq_true rfl) ⟨hw64, rfl, rfl, (tKeep.tr (tKeep.tr (tKeep.tr (tKeep.tr (tKeep.tr tKeep.rf kw3 rfl) kw6 rfl) kw9 rfl) kw62 rfl) kw64 rfl)⟩
set_option maxRecDepth 20000 in
theorem kX10_define (l : Launch) (G : zG) (T : tT) (κ : Nat → List Nat) (hst : l.stackTraces = false) (hE : tE G T κ) {a0 : Nat} (h0 : a0 ∈ κ 10) {x1 : Int32} {x2 : Int32} {x3 : Int32} : tMv l G T yX10_define cX10_define 4 [] 0 0 0 0 [.ref a0, .int x1, .int x2, .int x3] uT (uPv 0xf00000000000000000000000000000000000000000000000000000000000000000000000000000000000000000000000000000000000000000000000000000000000000000000000000000000000000000) := by
  refine tMv.intro hst rfl (Nat.le_of_ble_eq_true rfl) ?_
  intro w0 hw0 _ X hC hR hO hX
  refine z_aload_n hC (pc := 0) 0 dX10_define_0 rfl rfl ?_
  refine z_iload_n hC (pc := 1) 1 dX10_define_1 rfl rfl ?_
  refine u_put hC hw0 (pc := 2) zf10 4 (hE.o10 h0) rfl ⟨_, rfl⟩ dX10_define_2 zw336 rfl rfl rfl (kk := fun w6 hw6 fw6 kw6 => ?_)
  refine z_aload_n hC (pc := 5) 0 dX10_define_5 rfl rfl ?_
  refine z_iload_n hC (pc := 6) 2 dX10_define_6 rfl rfl ?_
  refine u_put hC hw6 (pc := 7) zf10 5 (hE.o10 h0) rfl ⟨_, rfl⟩ dX10_define_7 zw337 rfl rfl rfl (kk := fun w7 hw7 fw7 kw7 => ?_)
  refine z_aload_n hC (pc := 10) 0 dX10_define_10 rfl rfl ?_
  refine z_iload_n hC (pc := 11) 3 dX10_define_11 rfl rfl ?_
  refine u_put hC hw7 (pc := 12) zf10 6 (hE.o10 h0) rfl ⟨_, rfl⟩ dX10_define_12 zw338 rfl rfl rfl (kk := fun w8 hw8 fw8 kw8 => ?_)
  refine z_aload_n hC (pc := 15) 0 dX10_define_15 rfl rfl ?_
  refine z_aload_n hC (pc := 16) 0 dX10_define_16 rfl rfl ?_
  refine u_get hC hw8 (pc := 17) zf10 1 (hE.o10 h0) rfl dX10_define_17 zw331 (kk := fun va9 ta9 fa9 => ?_)
  obtain ⟨a9, ma9, rfl⟩ := ta9
  refine u_get hC hw8 (pc := 20) zf2 10 (hE.o2 ma9) rfl dX10_define_20 zw266 (kk := fun vx10 tx10 fx10 => ?_)
  obtain ⟨x10, rfl⟩ := tx10
  refine u_put hC hw8 (pc := 23) zf10 7 (hE.o10 h0) rfl ⟨_, rfl⟩ dX10_define_23 zw339 rfl rfl rfl (kk := fun w11 hw11 fw11 kw11 => ?_)
  exact hR _ _ _ _ _ dX10_define_26 (Nat.le_of_ble_eq_true rfl) (Nat.le_of_ble_eq_true rfl) ⟨hw11, rfl, rfl, (tKeep.tr (tKeep.tr (tKeep.tr (tKeep.tr tKeep.rf kw6 rfl) kw7 rfl) kw8 rfl) kw11 rfl)⟩
set_option maxRecDepth 20000 in
theorem kX2_emit (l : Launch) (G : zG) (T : tT) (κ : Nat → List Nat) (hst : l.stackTraces = false) (hE : tE G T κ) {a0 : Nat} (h0 : a0 ∈ κ 2) {x1 : Int32} : tMv l G T yX2_emit cX2_emit 2 [] 0 0 0 0 [.ref a0, .int x1] uT (uPv 0x800000000000000000000000000000000) := by
  refine tMv.intro hst rfl (Nat.le_of_ble_eq_true rfl) ?_
  intro w0 hw0 _ X hC hR hO hX
  refine z_aload_n hC (pc := 0) 0 dX2_emit_0 rfl rfl ?_
  refine u_get hC hw0 (pc := 1) zf2 3 (hE.o2 h0) rfl dX2_emit_1 zw244 (kk := fun vx4 tx4 fx4 => ?_)
  obtain ⟨x4, rfl⟩ := tx4
  have j39 : ∀ (w5 : va_W), tW T w5 → tKeep 0x800000000000000000000000000000000 w0 w5 → zS X G 2 w5 [] 0 0 39 [] := by
    intro w5 hw5 kw5
    exact hR _ _ _ _ _ dX2_emit_39 (Nat.le_of_ble_eq_true rfl) (Nat.le_of_ble_eq_true rfl) ⟨hw5, rfl, rfl, (tKeep.tr tKeep.rf kw5 rfl)⟩
  refine z_if_lt hC (pc := 4) 39 dX2_emit_4 (by decide) (fun c6 => ?_) (fun c6 => ?_)
  · refine z_lvs [] rfl ?_
    exact j39 w0 hw0 tKeep.rf
  · refine z_aload_n hC (pc := 7) 0 dX2_emit_7 rfl rfl ?_
    refine u_getK hC (pc := 8) zf2 3 fx4 dX2_emit_8 zw244 (kk := ?_)
    refine z_aload_n hC (pc := 11) 0 dX2_emit_11 rfl rfl ?_
    refine u_get hC hw0 (pc := 12) zf2 2 (hE.o2 h0) rfl dX2_emit_12 zw239 (kk := fun va7 ta7 fa7 => ?_)
    obtain ⟨a7, ma7, rfl⟩ := ta7
    obtain ⟨N8, gN8, AN8⟩ := hE.ints ma7
    have hN8 : N8 < 2 ^ 31 := Nat.lt_trans gN8 (by decide)
    refine u_alenI hC hw0 (pc := 15) AN8 dX2_emit_15 ?_
    refine z_icmp_ge hC (pc := 16) 39 dX2_emit_16 (by decide) (fun c9 => ?_) (fun c9 => ?_)
    · refine z_lvs [] rfl ?_
      exact j39 w0 hw0 tKeep.rf
    · refine z_aload_n hC (pc := 19) 0 dX2_emit_19 rfl rfl ?_
      refine u_getK hC (pc := 20) zf2 2 fa7 dX2_emit_20 zw239 (kk := ?_)
      refine z_aload_n hC (pc := 23) 0 dX2_emit_23 rfl rfl ?_
      refine u_getK hC (pc := 24) zf2 3 fx4 dX2_emit_24 zw244 (kk := ?_)
      refine z_iload_n hC (pc := 27) 1 dX2_emit_27 rfl rfl ?_
      refine u_iast hC hw0 (pc := 28) AN8 dX2_emit_28 (t_inB hN8 c6 c9) trivial (fun w10 hw10 kw10 => ?_)
      refine z_aload_n hC (pc := 29) 0 dX2_emit_29 rfl rfl ?_
      refine z_dup hC (pc := 30) dX2_emit_30 rfl ?_
      refine u_getK hC (pc := 31) zf2 3 (tKeep.F kw10 fx4 rfl) dX2_emit_31 zw244 (kk := ?_)
      refine z_iconst hC (pc := 34) (v := 1) dX2_emit_34 (by decide) ?_
      refine z_iadd hC (pc := 35) (v := (x4 + 1)) dX2_emit_35 rfl ?_
      refine u_put hC hw10 (pc := 36) zf2 3 (hE.o2 h0) rfl ⟨_, rfl⟩ dX2_emit_36 zw244 rfl rfl rfl (kk := fun w11 hw11 fw11 kw11 => ?_)
      refine z_lvs [] rfl ?_
      exact j39 w11 hw11 (tKeep.tr (tKeep.tr tKeep.rf kw10 rfl) kw11 rfl)
set_option maxRecDepth 20000 in
theorem kX2_emit__ (l : Launch) (G : zG) (T : tT) (κ : Nat → List Nat) (hst : l.stackTraces = false) (hE : tE G T κ) {a0 : Nat} (h0 : a0 ∈ κ 2) {x1 : Int32} {x2 : Int32} {x3 : Int32} : tMv l G T yX2_emit__ cX2_emit__ 4 [] 1 21 0 0 [.ref a0, .int x1, .int x2, .int x3] uT (uPv 0x800000000000000000000000000000000) := by
  refine tMv.intro hst rfl (Nat.le_of_ble_eq_true rfl) ?_
  intro w0 hw0 _ X hC hR hO hX
  refine z_aload_n hC (pc := 0) 0 dX2_emit___0 rfl rfl ?_
  refine z_iload_n hC (pc := 1) 1 dX2_emit___1 rfl rfl ?_
  obtain ⟨q6, hqq6⟩ := hE.o2 h0
  refine t_callVv hC hw0 (pc := 2) (As := [.int x1]) (kX2_emit l G T κ hst hE h0) trivial dmX2_emit zf2 hqq6 dX2_emit___2 zw1316 rfl rfl (Nat.le_of_ble_eq_true rfl) (Nat.le_of_ble_eq_true rfl) (Nat.le_of_ble_eq_true rfl) (Nat.le_of_ble_eq_true rfl) (Nat.le_of_ble_eq_true rfl) (fun _ _ _ h => nomatch h) (fun cw7 nw7 w7 hw7 pw7 => ?_)
  obtain ⟨rfl, rfl, kw7⟩ := pw7
  refine z_aload_n hC (pc := 5) 0 dX2_emit___5 rfl rfl ?_
  refine z_iload_n hC (pc := 6) 2 dX2_emit___6 rfl rfl ?_
  refine t_callVv hC hw7 (pc := 7) (As := [.int x2]) (kX2_emit l G T κ hst hE h0) trivial dmX2_emit zf2 hqq6 dX2_emit___7 zw1316 rfl rfl (Nat.le_of_ble_eq_true rfl) (Nat.le_of_ble_eq_true rfl) (Nat.le_of_ble_eq_true rfl) (Nat.le_of_ble_eq_true rfl) (Nat.le_of_ble_eq_true rfl) (fun _ _ _ h => nomatch h) (fun cw9 nw9 w9 hw9 pw9 => ?_)
  obtain ⟨rfl, rfl, kw9⟩ := pw9
  refine z_aload_n hC (pc := 10) 0 dX2_emit___10 rfl rfl ?_
  refine z_iload_n hC (pc := 11) 3 dX2_emit___11 rfl rfl ?_
  refine t_callVv hC hw9 (pc := 12) (As := [.int x3]) (kX2_emit l G T κ hst hE h0) trivial dmX2_emit zf2 hqq6 dX2_emit___12 zw1316 rfl rfl (Nat.le_of_ble_eq_true rfl) (Nat.le_of_ble_eq_true rfl) (Nat.le_of_ble_eq_true rfl) (Nat.le_of_ble_eq_true rfl) (Nat.le_of_ble_eq_true rfl) (fun _ _ _ h => nomatch h) (fun cw11 nw11 w11 hw11 pw11 => ?_)
  obtain ⟨rfl, rfl, kw11⟩ := pw11
  exact hR _ _ _ _ _ dX2_emit___15 (Nat.le_of_ble_eq_true rfl) (Nat.le_of_ble_eq_true rfl) ⟨hw11, rfl, rfl, (tKeep.tr (tKeep.tr (tKeep.tr tKeep.rf kw7 rfl) kw9 rfl) kw11 rfl)⟩
set_option maxRecDepth 20000 in
theorem kX1_checkParam (l : Launch) (G : zG) (T : tT) (κ : Nat → List Nat) (hst : l.stackTraces = false) (hE : tE G T κ) {a0 : Nat} (h0 : a0 ∈ κ 1) {x1 : Int32} {x2 : Int32} {x3 : Int32} : tMv l G T yX1_checkParam cX1_checkParam 5 ["java/lang/IllegalStateException"] 7 103 1 6 [.ref a0, .int x1, .int x2, .int x3] uT (uPv 0x1800000000000000000000000000000000000000000000000000000000000000000000000000000000000000000000000000000000000000000) := by
  refine tMv.intro hst rfl (Nat.le_of_ble_eq_true rfl) ?_
  intro w0 hw0 _ X hC hR hO hX
  refine z_iconst hC (pc := 0) (v := 0) dX1_checkParam_0 (by decide) ?_
  refine z_istore hC (pc := 1) (lv' := [(4, .int 0), (0, .ref a0), (1, .int x1), (2, .int x2), (3, .int x3)]) dX1_checkParam_1 (by decide) rfl ?_
  have j3 : ∀ (d3 : Nat), ∀ (w6 : va_W), tW T w6 → tKeep 0x1800000000000000000000000000000000000000000000000000000000000000000000000000000000000000000000000000000000000000000 w0 w6 → ∀ (x7 : Int32), ¬ x7 < 0 → (2 ^ 31 - (x7 : Int32).toInt).toNat ≤ d3 → zS X G 5 w6 [(0, .ref a0), (1, .int x1), (2, .int x2), (3, .int x3), (4, .int x7)] 0 0 3 [] := by
    intro d3
    induction d3 with
    | zero => intro w6 hw6 kw6 x7 v8 hd3; exact (t_zero hd3).elim
    | succ d3 ih3 =>
      intro w6 hw6 kw6 x7 v8 hd3
      refine z_iload hC (pc := 3) 4 dX1_checkParam_3 rfl ?_
      refine z_aload_n hC (pc := 5) 0 dX1_checkParam_5 rfl rfl ?_
      refine u_get hC hw6 (pc := 6) zf1 7 (hE.o1 h0) rfl dX1_checkParam_6 zw391 (kk := fun vx9 tx9 fx9 => ?_)
      obtain ⟨x9, rfl⟩ := tx9
      refine z_icmp_ge hC (pc := 9) 40 dX1_checkParam_9 (by decide) (fun c10 => ?_) (fun c10 => ?_)
      · refine z_iload_n hC (pc := 40) 3 dX1_checkParam_40 rfl rfl ?_
        have j53 : ∀ (w11 : va_W), tW T w11 → tKeep 0x1800000000000000000000000000000000000000000000000000000000000000000000000000000000000000000000000000000000000000000 w6 w11 → zS X G 5 w11 [(0, .ref a0), (2, .int x2)] 0 0 53 [] := by
          intro w11 hw11 kw11
          refine z_aload_n hC (pc := 53) 0 dX1_checkParam_53 rfl rfl ?_
          refine u_getK hC (pc := 54) zf1 7 (tKeep.F kw11 fx9 rfl) dX1_checkParam_54 zw391 (kk := ?_)
          refine z_bipush hC (pc := 57) (v := 12) dX1_checkParam_57 (by decide) ?_
          have j71 : ∀ (w12 : va_W), tW T w12 → tKeep 0x1800000000000000000000000000000000000000000000000000000000000000000000000000000000000000000000000000000000000000000 w11 w12 → zS X G 5 w12 [] 0 0 71 [] := by
            intro w12 hw12 kw12
            exact hR _ _ _ _ _ dX1_checkParam_71 (Nat.le_of_ble_eq_true rfl) (Nat.le_of_ble_eq_true rfl) ⟨hw12, rfl, rfl, (tKeep.tr (tKeep.tr (tKeep.tr tKeep.rf kw6 rfl) kw11 rfl) kw12 rfl)⟩
          refine z_icmp_lt hC (pc := 59) 71 dX1_checkParam_59 (by decide) (fun c13 => ?_) (fun c13 => ?_)
          · refine z_lvs [] rfl ?_
            exact j71 w11 hw11 tKeep.rf
          · refine z_aload_n hC (pc := 62) 0 dX1_checkParam_62 rfl rfl ?_
            refine u_get hC hw11 (pc := 63) zf1 2 (hE.o1 h0) rfl dX1_checkParam_63 zw386 (kk := fun va14 ta14 fa14 => ?_)
            obtain ⟨a14, ma14, rfl⟩ := ta14
            refine z_iconst hC (pc := 66) (v := 4) dX1_checkParam_66 (by decide) ?_
            refine z_iload_n hC (pc := 67) 1 dX1_checkParam_67 rfl rfl ?_
            obtain ⟨q15, hqq15⟩ := hE.o7 ma14
            refine t_callVv hC hw11 (pc := 68) (As := [.int 4, .int x2]) (kX7_fail l G T κ hst hE ma14) trivial dmX7_fail zf7 hqq15 dX1_checkParam_68 zw1155 rfl rfl (Nat.le_of_ble_eq_true rfl) (Nat.le_of_ble_eq_true rfl) (Nat.le_of_ble_eq_true rfl) (Nat.le_of_ble_eq_true rfl) (Nat.le_of_ble_eq_true rfl) (fun E w q hE hw => hO E w _ _ _ _ _ q hE (Nat.le_of_ble_eq_true rfl) (Nat.le_of_ble_eq_true rfl) hw) (fun cw16 nw16 w16 hw16 pw16 => ?_)
            obtain ⟨rfl, rfl, kw16⟩ := pw16
            refine z_lvs [] rfl ?_
            exact j71 w16 hw16 (tKeep.tr tKeep.rf kw16 rfl)
        refine z_if_eq hC (pc := 41) 53 dX1_checkParam_41 (by decide) (fun c18 => ?_) (fun c18 => ?_)
        · refine z_lvs [0, 2] rfl ?_
          exact j53 w6 hw6 tKeep.rf
        · refine z_aload_n hC (pc := 44) 0 dX1_checkParam_44 rfl rfl ?_
          refine u_get hC hw6 (pc := 45) zf1 2 (hE.o1 h0) rfl dX1_checkParam_45 zw386 (kk := fun va19 ta19 fa19 => ?_)
          obtain ⟨a19, ma19, rfl⟩ := ta19
          refine z_iconst hC (pc := 48) (v := 3) dX1_checkParam_48 (by decide) ?_
          refine z_iload_n hC (pc := 49) 2 dX1_checkParam_49 rfl rfl ?_
          obtain ⟨q20, hqq20⟩ := hE.o7 ma19
          refine t_callVv hC hw6 (pc := 50) (As := [.int 3, .int x2]) (kX7_fail l G T κ hst hE ma19) trivial dmX7_fail zf7 hqq20 dX1_checkParam_50 zw1155 rfl rfl (Nat.le_of_ble_eq_true rfl) (Nat.le_of_ble_eq_true rfl) (Nat.le_of_ble_eq_true rfl) (Nat.le_of_ble_eq_true rfl) (Nat.le_of_ble_eq_true rfl) (fun E w q hE hw => hO E w _ _ _ _ _ q hE (Nat.le_of_ble_eq_true rfl) (Nat.le_of_ble_eq_true rfl) hw) (fun cw21 nw21 w21 hw21 pw21 => ?_)
          obtain ⟨rfl, rfl, kw21⟩ := pw21
          refine z_lvs [0, 2] rfl ?_
          exact j53 w21 hw21 (tKeep.tr tKeep.rf kw21 rfl)
      · refine z_aload_n hC (pc := 12) 0 dX1_checkParam_12 rfl rfl ?_
        refine u_get hC hw6 (pc := 13) zf1 5 (hE.o1 h0) rfl dX1_checkParam_13 zw389 (kk := fun va23 ta23 fa23 => ?_)
        obtain ⟨a23, ma23, rfl⟩ := ta23
        refine z_iload hC (pc := 16) 4 dX1_checkParam_16 rfl ?_
        refine t_callSNi hC hw6 (pc := 18) (As := [.ref a23, .int x7]) (kX12_get l G T κ hst hE ma23) trivial dmX12_get dX1_checkParam_18 zw999 rfl rfl (Nat.le_of_ble_eq_true rfl) (Nat.le_of_ble_eq_true rfl) (Nat.le_of_ble_eq_true rfl) (Nat.le_of_ble_eq_true rfl) (Nat.le_of_ble_eq_true rfl) (fun _ _ _ h => nomatch h) (fun x25 cw24 nw24 w24 hw24 pw24 => ?_)
        obtain ⟨rfl, rfl, kw24⟩ := pw24
        refine z_iload_n hC (pc := 21) 1 dX1_checkParam_21 rfl rfl ?_
        have j34 : ∀ (w26 : va_W), tW T w26 → tKeep 0x1800000000000000000000000000000000000000000000000000000000000000000000000000000000000000000000000000000000000000000 w24 w26 → zS X G 5 w26 [(0, .ref a0), (1, .int x1), (2, .int x2), (3, .int x3), (4, .int x7)] 0 0 34 [] := by
          intro w26 hw26 kw26
          refine z_iinc hC (pc := 34) (v := (x7 + 1)) (lv' := [(4, .int (x7 + 1)), (0, .ref a0), (1, .int x1), (2, .int x2), (3, .int x3)]) 4 dX1_checkParam_34 rfl (congrArg _ (by decide)) (by decide) rfl ?_
          refine z_goto hC (pc := 37) 3 dX1_checkParam_37 (by decide) ?_
          refine z_lvs [1, 2, 3, 4, 0] rfl ?_
          exact ih3 w26 hw26 (tKeep.tr (tKeep.tr (tKeep.tr tKeep.rf kw6 rfl) kw24 rfl) kw26 rfl) (x7 + 1) (t_nnI v8 (Int32.not_le.mp c10)) (t_up (Int32.not_le.mp c10) hd3)
        refine z_icmp_ne hC (pc := 22) 34 dX1_checkParam_22 (by decide) (fun c27 => ?_) (fun c27 => ?_)
        · exact j34 w24 hw24 tKeep.rf
        · refine z_aload_n hC (pc := 25) 0 dX1_checkParam_25 rfl rfl ?_
          refine u_get hC hw24 (pc := 26) zf1 2 (hE.o1 h0) rfl dX1_checkParam_26 zw386 (kk := fun va28 ta28 fa28 => ?_)
          obtain ⟨a28, ma28, rfl⟩ := ta28
          refine z_iconst hC (pc := 29) (v := 3) dX1_checkParam_29 (by decide) ?_
          refine z_iload_n hC (pc := 30) 2 dX1_checkParam_30 rfl rfl ?_
          obtain ⟨q29, hqq29⟩ := hE.o7 ma28
          refine t_callVv hC hw24 (pc := 31) (As := [.int 3, .int x2]) (kX7_fail l G T κ hst hE ma28) trivial dmX7_fail zf7 hqq29 dX1_checkParam_31 zw1155 rfl rfl (Nat.le_of_ble_eq_true rfl) (Nat.le_of_ble_eq_true rfl) (Nat.le_of_ble_eq_true rfl) (Nat.le_of_ble_eq_true rfl) (Nat.le_of_ble_eq_true rfl) (fun E w q hE hw => hO E w _ _ _ _ _ q hE (Nat.le_of_ble_eq_true rfl) (Nat.le_of_ble_eq_true rfl) hw) (fun cw30 nw30 w30 hw30 pw30 => ?_)
          obtain ⟨rfl, rfl, kw30⟩ := pw30
          exact j34 w30 hw30 (tKeep.tr tKeep.rf kw30 rfl)
  refine z_lvs [1, 2, 3, 4, 0] rfl ?_
  exact j3 _ w0 hw0 tKeep.rf 0 (by decide) (Nat.le_refl _)
set_option maxRecDepth 20000 in
theorem kX1_emptyList (l : Launch) (G : zG) (T : tT) (κ : Nat → List Nat) (hst : l.stackTraces = false) (hE : tE G T κ) {a0 : Nat} (h0 : a0 ∈ κ 1) : tMi l G T yX1_emptyList cX1_emptyList 1 .int ["java/lang/IllegalStateException"] 9 145 1 6 [.ref a0] uT (uPi 0x1a00000000000000000000000000000000000000000000000000000000000000000000000000000000000000000000000000000000000000000) := by
  refine tMi.intro hst rfl (Nat.le_of_ble_eq_true rfl) ?_
  intro w0 hw0 _ X hC hR hO hX
  refine z_aload_n hC (pc := 0) 0 dX1_emptyList_0 rfl rfl ?_
  refine u_get hC hw0 (pc := 1) zf1 2 (hE.o1 h0) rfl dX1_emptyList_1 zw386 (kk := fun va3 ta3 fa3 => ?_)
  obtain ⟨a3, ma3, rfl⟩ := ta3
  refine z_dup hC (pc := 4) dX1_emptyList_4 rfl ?_
  refine u_get hC hw0 (pc := 5) zf7 5 (hE.o7 ma3) rfl dX1_emptyList_5 zw123 (kk := fun vx4 tx4 fx4 => ?_)
  obtain ⟨x4, rfl⟩ := tx4
  refine z_iconst hC (pc := 8) (v := 1) dX1_emptyList_8 (by decide) ?_
  refine z_iadd hC (pc := 9) (v := (x4 + 1)) dX1_emptyList_9 rfl ?_
  refine u_put hC hw0 (pc := 10) zf7 5 (hE.o7 ma3) rfl ⟨_, rfl⟩ dX1_emptyList_10 zw123 rfl rfl rfl (kk := fun w5 hw5 fw5 kw5 => ?_)
  refine z_aload_n hC (pc := 13) 0 dX1_emptyList_13 rfl rfl ?_
  refine u_getK hC (pc := 14) zf1 2 (tKeep.F kw5 fa3 rfl) dX1_emptyList_14 zw386 (kk := ?_)
  refine z_bipush hC (pc := 17) (v := 93) dX1_emptyList_17 (by decide) ?_
  obtain ⟨q6, hqq6⟩ := hE.o7 ma3
  refine t_callVv hC hw5 (pc := 19) (As := [.int 93]) (kX7_sign l G T κ hst hE ma3) trivial dmX7_sign zf7 hqq6 dX1_emptyList_19 zw1233 rfl rfl (Nat.le_of_ble_eq_true rfl) (Nat.le_of_ble_eq_true rfl) (Nat.le_of_ble_eq_true rfl) (Nat.le_of_ble_eq_true rfl) (Nat.le_of_ble_eq_true rfl) (fun E w q hE hw => hO E w _ _ _ _ _ q hE (Nat.le_of_ble_eq_true rfl) (Nat.le_of_ble_eq_true rfl) hw) (fun cw7 nw7 w7 hw7 pw7 => ?_)
  obtain ⟨rfl, rfl, kw7⟩ := pw7
  refine z_ldc_w hC (pc := 22) (v := 805306368) dX1_emptyList_22 zw1337 ?_
  exact hR _ _ _ _ _ _ dX1_emptyList_25 rfl (Nat.le_of_ble_eq_true rfl) (Nat.le_of_ble_eq_true rfl) ⟨hw7, rfl, rfl, (tKeep.tr (tKeep.tr tKeep.rf kw5 rfl) kw7 rfl)⟩
set_option maxRecDepth 20000 in
theorem kX2_stringFrom (l : Launch) (G : zG) (T : tT) (κ : Nat → List Nat) (hst : l.stackTraces = false) (hE : tE G T κ) {a0 : Nat} (h0 : a0 ∈ κ 2) {x1 : Int32} : tMi l G T yX2_stringFrom cX2_stringFrom 2 .int [] 0 0 0 0 [.ref a0, .int x1] uT (uPi 0x0) := by
  refine tMi.intro hst rfl (Nat.le_of_ble_eq_true rfl) ?_
  intro w0 hw0 _ X hC hR hO hX
  refine z_ldc hC (pc := 0) (v := 402653184) dX2_stringFrom_0 zw1351 ?_
  refine z_iload_n hC (pc := 2) 1 dX2_stringFrom_2 rfl rfl ?_
  refine z_bipush hC (pc := 3) (v := 12) dX2_stringFrom_3 (by decide) ?_
  refine z_ishl hC (pc := 5) (v := (x1 <<< (12 &&& 31))) dX2_stringFrom_5 rfl ?_
  refine z_ior hC (pc := 6) (v := ((402653184 : Int32) ||| (x1 <<< (12 &&& 31)))) dX2_stringFrom_6 rfl ?_
  refine z_aload_n hC (pc := 7) 0 dX2_stringFrom_7 rfl rfl ?_
  refine u_get hC hw0 (pc := 8) zf2 6 (hE.o2 h0) rfl dX2_stringFrom_8 zw253 (kk := fun vx4 tx4 fx4 => ?_)
  obtain ⟨x4, rfl⟩ := tx4
  refine z_iload_n hC (pc := 11) 1 dX2_stringFrom_11 rfl rfl ?_
  refine z_isub hC (pc := 12) (v := (x4 - x1)) dX2_stringFrom_12 rfl ?_
  refine z_ior hC (pc := 13) (v := (((402653184 : Int32) ||| (x1 <<< (12 &&& 31))) ||| (x4 - x1))) dX2_stringFrom_13 rfl ?_
  exact hR _ _ _ _ _ _ dX2_stringFrom_14 rfl (Nat.le_of_ble_eq_true rfl) (Nat.le_of_ble_eq_true rfl) ⟨hw0, rfl, rfl, tKeep.rf⟩
set_option maxRecDepth 20000 in
theorem kX7_string (l : Launch) (G : zG) (T : tT) (κ : Nat → List Nat) (hst : l.stackTraces = false) (hE : tE G T κ) {a0 : Nat} (h0 : a0 ∈ κ 7) {a1 : Nat} (h1 : a1 ∈ κ 2) {x2 : Int32} : tMi l G T yX7_string cX7_string 6 .int [] 1 22 0 0 [.ref a0, .ref a1, .int x2] uT (uPi 0x200000000000000000000000000000000000000000000000000000000000000000000000000000004000000000000000000000000000000000) := by
  refine tMi.intro hst rfl (Nat.le_of_ble_eq_true rfl) ?_
  intro w0 hw0 _ X hC hR hO hX
  refine z_aload_n hC (pc := 0) 1 dX7_string_0 rfl rfl ?_
  refine u_get hC hw0 (pc := 1) zf2 6 (hE.o2 h1) rfl dX7_string_1 zw255 (kk := fun vx5 tx5 fx5 => ?_)
  obtain ⟨x5, rfl⟩ := tx5
  refine z_istore_n hC (pc := 4) (lv' := [(3, .int x5), (0, .ref a0), (1, .ref a1), (2, .int x2)]) dX7_string_4 rfl (by decide) rfl ?_
  refine z_aload_n hC (pc := 5) 1 dX7_string_5 rfl rfl ?_
  refine u_get hC hw0 (pc := 6) zf7 5 (hE.o7 h0) rfl dX7_string_6 zw122 (kk := fun vx6 tx6 fx6 => ?_)
  obtain ⟨x6, rfl⟩ := tx6
  refine z_iconst hC (pc := 9) (v := 1) dX7_string_9 (by decide) ?_
  refine z_iadd hC (pc := 10) (v := (x6 + 1)) dX7_string_10 rfl ?_
  refine z_istore hC (pc := 11) (lv' := [(4, .int (x6 + 1)), (3, .int x5), (0, .ref a0), (1, .ref a1), (2, .int x2)]) dX7_string_11 (by decide) rfl ?_
  have j13 : ∀ (d13 : Nat), ∀ (w7 : va_W), tW T w7 → tKeep 0x4000000000000000000000000000000000 w0 w7 → ∀ (x8 : Int32), (2 ^ 31 - (x8 : Int32).toInt).toNat ≤ d13 → zS X G 6 w7 [(0, .ref a0), (1, .ref a1), (2, .int x2), (3, .int x5), (4, .int x8)] 0 0 13 [] := by
    intro d13
    induction d13 with
    | zero => intro w7 hw7 kw7 x8 hd13; exact (t_zero hd13).elim
    | succ d13 ih13 =>
      intro w7 hw7 kw7 x8 hd13
      refine z_iload hC (pc := 13) 4 dX7_string_13 rfl ?_
      refine z_iload_n hC (pc := 15) 2 dX7_string_15 rfl rfl ?_
      refine z_icmp_ge hC (pc := 16) 98 dX7_string_16 (by decide) (fun c9 => ?_) (fun c9 => ?_)
      · refine z_aload_n hC (pc := 98) 0 dX7_string_98 rfl rfl ?_
        refine z_iload_n hC (pc := 99) 2 dX7_string_99 rfl rfl ?_
        refine z_iconst hC (pc := 100) (v := 1) dX7_string_100 (by decide) ?_
        refine z_iadd hC (pc := 101) (v := (x2 + 1)) dX7_string_101 rfl ?_
        refine u_put hC hw7 (pc := 102) zf7 5 (hE.o7 h0) rfl ⟨_, rfl⟩ dX7_string_102 zw122 rfl rfl rfl (kk := fun w10 hw10 fw10 kw10 => ?_)
        refine z_aload_n hC (pc := 105) 1 dX7_string_105 rfl rfl ?_
        refine z_iload_n hC (pc := 106) 3 dX7_string_106 rfl rfl ?_
        obtain ⟨q11, hqq11⟩ := hE.o2 h1
        refine t_callVi hC hw10 (pc := 107) (As := [.int x5]) (kX2_stringFrom l G T κ hst hE h1) trivial dmX2_stringFrom zf2 hqq11 dX7_string_107 zw1347 rfl rfl (Nat.le_of_ble_eq_true rfl) (Nat.le_of_ble_eq_true rfl) (Nat.le_of_ble_eq_true rfl) (Nat.le_of_ble_eq_true rfl) (Nat.le_of_ble_eq_true rfl) (fun _ _ _ h => nomatch h) (fun x13 cw12 nw12 w12 hw12 pw12 => ?_)
        obtain ⟨rfl, rfl, kw12⟩ := pw12
        exact hR _ _ _ _ _ _ dX7_string_110 rfl (Nat.le_of_ble_eq_true rfl) (Nat.le_of_ble_eq_true rfl) ⟨hw12, rfl, rfl, (tKeep.tr (tKeep.tr (tKeep.tr tKeep.rf kw7 rfl) kw10 rfl) kw12 rfl)⟩
      · refine z_aload_n hC (pc := 19) 0 dX7_string_19 rfl rfl ?_
        refine z_iload hC (pc := 20) 4 dX7_string_20 rfl ?_
        obtain ⟨q14, hqq14⟩ := hE.o7 h0
        refine t_callVi hC hw7 (pc := 22) (As := [.int x8]) (kX7_at l G T κ hst hE h0) trivial dmX7_at zf7 hqq14 dX7_string_22 zw1161 rfl rfl (Nat.le_of_ble_eq_true rfl) (Nat.le_of_ble_eq_true rfl) (Nat.le_of_ble_eq_true rfl) (Nat.le_of_ble_eq_true rfl) (Nat.le_of_ble_eq_true rfl) (fun _ _ _ h => nomatch h) (fun x16 cw15 nw15 w15 hw15 pw15 => ?_)
        obtain ⟨rfl, rfl, kw15⟩ := pw15
        refine z_istore hC (pc := 25) (lv' := [(5, .int x16), (0, .ref a0), (1, .ref a1), (2, .int x2), (3, .int x5), (4, .int x8)]) dX7_string_25 (by decide) rfl ?_
        refine z_iload hC (pc := 27) 0 dX7_string_27 rfl ?_
        refine z_bipush hC (pc := 29) (v := 92) dX7_string_29 (by decide) ?_
        refine z_icmp_ne hC (pc := 31) 85 dX7_string_31 (by decide) (fun c17 => ?_) (fun c17 => ?_)
        · refine z_aload_n hC (pc := 85) 2 dX7_string_85 rfl rfl ?_
          refine z_iload hC (pc := 86) 0 dX7_string_86 rfl ?_
          refine z_iconst hC (pc := 88) (v := 0) dX7_string_88 (by decide) ?_
          obtain ⟨q18, hqq18⟩ := hE.o2 h1
          refine t_callVv hC hw15 (pc := 89) (As := [.int x16, .int 0]) (kX2_keep l G T κ hst hE h1) trivial dmX2_keep zf2 hqq18 dX7_string_89 zw1346 rfl rfl (Nat.le_of_ble_eq_true rfl) (Nat.le_of_ble_eq_true rfl) (Nat.le_of_ble_eq_true rfl) (Nat.le_of_ble_eq_true rfl) (Nat.le_of_ble_eq_true rfl) (fun _ _ _ h => nomatch h) (fun cw19 nw19 w19 hw19 pw19 => ?_)
          obtain ⟨rfl, rfl, kw19⟩ := pw19
          refine z_iinc hC (pc := 92) (v := (x8 + 1)) (lv' := [(4, .int (x8 + 1)), (5, .int x16), (0, .ref a0), (1, .ref a1), (2, .int x2), (3, .int x5)]) 5 dX7_string_92 rfl (congrArg _ (by decide)) (by decide) rfl ?_
          refine z_goto hC (pc := 95) 13 dX7_string_95 (by decide) ?_
          refine z_lvs [2, 3, 4, 5, 0] rfl ?_
          exact ih13 w19 hw19 (tKeep.tr (tKeep.tr (tKeep.tr tKeep.rf kw7 rfl) kw15 rfl) kw19 rfl) (x8 + 1) (t_up (Int32.not_le.mp c9) hd13)
        · refine z_iload hC (pc := 34) 5 dX7_string_34 rfl ?_
          refine z_iconst hC (pc := 36) (v := 1) dX7_string_36 (by decide) ?_
          refine z_iadd hC (pc := 37) (v := (x8 + 1)) dX7_string_37 rfl ?_
          refine z_iload_n hC (pc := 38) 3 dX7_string_38 rfl rfl ?_
          refine z_icmp_ge hC (pc := 39) 85 dX7_string_39 (by decide) (fun c21 => ?_) (fun c21 => ?_)
          · refine z_aload_n hC (pc := 85) 2 dX7_string_85 rfl rfl ?_
            refine z_iload hC (pc := 86) 0 dX7_string_86 rfl ?_
            refine z_iconst hC (pc := 88) (v := 0) dX7_string_88 (by decide) ?_
            obtain ⟨q22, hqq22⟩ := hE.o2 h1
            refine t_callVv hC hw15 (pc := 89) (As := [.int x16, .int 0]) (kX2_keep l G T κ hst hE h1) trivial dmX2_keep zf2 hqq22 dX7_string_89 zw1346 rfl rfl (Nat.le_of_ble_eq_true rfl) (Nat.le_of_ble_eq_true rfl) (Nat.le_of_ble_eq_true rfl) (Nat.le_of_ble_eq_true rfl) (Nat.le_of_ble_eq_true rfl) (fun _ _ _ h => nomatch h) (fun cw23 nw23 w23 hw23 pw23 => ?_)
            obtain ⟨rfl, rfl, kw23⟩ := pw23
            refine z_iinc hC (pc := 92) (v := (x8 + 1)) (lv' := [(4, .int (x8 + 1)), (5, .int x16), (0, .ref a0), (1, .ref a1), (2, .int x2), (3, .int x5)]) 5 dX7_string_92 rfl (congrArg _ (by decide)) (by decide) rfl ?_
            refine z_goto hC (pc := 95) 13 dX7_string_95 (by decide) ?_
            refine z_lvs [2, 3, 4, 5, 0] rfl ?_
            exact ih13 w23 hw23 (tKeep.tr (tKeep.tr (tKeep.tr tKeep.rf kw7 rfl) kw15 rfl) kw23 rfl) (x8 + 1) (t_up (Int32.not_le.mp c9) hd13)
          · refine z_iinc hC (pc := 42) (v := (x8 + 1)) (lv' := [(4, .int (x8 + 1)), (5, .int x16), (0, .ref a0), (1, .ref a1), (2, .int x2), (3, .int x5)]) 5 dX7_string_42 rfl (congrArg _ (by decide)) (by decide) rfl ?_
            refine z_aload_n hC (pc := 45) 2 dX7_string_45 rfl rfl ?_
            refine z_iload hC (pc := 46) 0 dX7_string_46 rfl ?_
            refine t_callVi hC hw15 (pc := 48) (As := [.int (x8 + 1)]) (kX7_at l G T κ hst hE h0) trivial dmX7_at zf7 hqq14 dX7_string_48 zw1161 rfl rfl (Nat.le_of_ble_eq_true rfl) (Nat.le_of_ble_eq_true rfl) (Nat.le_of_ble_eq_true rfl) (Nat.le_of_ble_eq_true rfl) (Nat.le_of_ble_eq_true rfl) (fun _ _ _ h => nomatch h) (fun x26 cw25 nw25 w25 hw25 pw25 => ?_)
            obtain ⟨rfl, rfl, kw25⟩ := pw25
            refine z_bipush hC (pc := 51) (v := 110) dX7_string_51 (by decide) ?_
            refine z_icmp_ne hC (pc := 53) 61 dX7_string_53 (by decide) (fun c27 => ?_) (fun c27 => ?_)
            · refine z_aload_n hC (pc := 61) 2 dX7_string_61 rfl rfl ?_
              refine z_iload hC (pc := 62) 0 dX7_string_62 rfl ?_
              refine t_callVi hC hw25 (pc := 64) (As := [.int (x8 + 1)]) (kX7_at l G T κ hst hE h0) trivial dmX7_at zf7 hqq14 dX7_string_64 zw1161 rfl rfl (Nat.le_of_ble_eq_true rfl) (Nat.le_of_ble_eq_true rfl) (Nat.le_of_ble_eq_true rfl) (Nat.le_of_ble_eq_true rfl) (Nat.le_of_ble_eq_true rfl) (fun _ _ _ h => nomatch h) (fun x29 cw28 nw28 w28 hw28 pw28 => ?_)
              obtain ⟨rfl, rfl, kw28⟩ := pw28
              refine z_bipush hC (pc := 67) (v := 116) dX7_string_67 (by decide) ?_
              refine z_icmp_ne hC (pc := 69) 77 dX7_string_69 (by decide) (fun c30 => ?_) (fun c30 => ?_)
              · refine z_aload_n hC (pc := 77) 2 dX7_string_77 rfl rfl ?_
                refine z_iload hC (pc := 78) 0 dX7_string_78 rfl ?_
                refine t_callVi hC hw28 (pc := 80) (As := [.int (x8 + 1)]) (kX7_at l G T κ hst hE h0) trivial dmX7_at zf7 hqq14 dX7_string_80 zw1161 rfl rfl (Nat.le_of_ble_eq_true rfl) (Nat.le_of_ble_eq_true rfl) (Nat.le_of_ble_eq_true rfl) (Nat.le_of_ble_eq_true rfl) (Nat.le_of_ble_eq_true rfl) (fun _ _ _ h => nomatch h) (fun x32 cw31 nw31 w31 hw31 pw31 => ?_)
                obtain ⟨rfl, rfl, kw31⟩ := pw31
                refine z_istore hC (pc := 83) (lv' := [(5, .int x32), (4, .int (x8 + 1)), (0, .ref a0), (1, .ref a1), (2, .int x2), (3, .int x5)]) dX7_string_83 (by decide) rfl ?_
                refine z_aload_n hC (pc := 85) 3 dX7_string_85 rfl rfl ?_
                refine z_iload hC (pc := 86) 0 dX7_string_86 rfl ?_
                refine z_iconst hC (pc := 88) (v := 0) dX7_string_88 (by decide) ?_
                obtain ⟨q33, hqq33⟩ := hE.o2 h1
                refine t_callVv hC hw31 (pc := 89) (As := [.int x32, .int 0]) (kX2_keep l G T κ hst hE h1) trivial dmX2_keep zf2 hqq33 dX7_string_89 zw1346 rfl rfl (Nat.le_of_ble_eq_true rfl) (Nat.le_of_ble_eq_true rfl) (Nat.le_of_ble_eq_true rfl) (Nat.le_of_ble_eq_true rfl) (Nat.le_of_ble_eq_true rfl) (fun _ _ _ h => nomatch h) (fun cw34 nw34 w34 hw34 pw34 => ?_)
                obtain ⟨rfl, rfl, kw34⟩ := pw34
                refine z_iinc hC (pc := 92) (v := ((x8 + 1) + 1)) (lv' := [(4, .int ((x8 + 1) + 1)), (5, .int x32), (0, .ref a0), (1, .ref a1), (2, .int x2), (3, .int x5)]) 1 dX7_string_92 rfl (congrArg _ (by decide)) (by decide) rfl ?_
                refine z_goto hC (pc := 95) 13 dX7_string_95 (by decide) ?_
                refine z_lvs [2, 3, 4, 5, 0] rfl ?_
                exact ih13 w34 hw34 (tKeep.tr (tKeep.tr (tKeep.tr (tKeep.tr (tKeep.tr (tKeep.tr tKeep.rf kw7 rfl) kw15 rfl) kw25 rfl) kw28 rfl) kw31 rfl) kw34 rfl) ((x8 + 1) + 1) (by have o1 := Int32.le_toInt x8; have o2 := Int32.toInt_lt x8; have o3 := Int32.le_toInt x2; have o4 := Int32.toInt_lt x2; have o5 := t_fne c9; have o6 : (1 : Int32).toInt = 1 := (by decide); have o7 := t_addO x8 1; have o8 := t_fne c21; have o9 := t_addO (x8 + 1) 1; omega)
              · refine z_bipush hC (pc := 72) (v := 9) dX7_string_72 (by decide) ?_
                refine z_goto hC (pc := 74) 83 dX7_string_74 (by decide) ?_
                refine z_istore hC (pc := 83) (lv' := [(5, .int 9), (4, .int (x8 + 1)), (0, .ref a0), (1, .ref a1), (2, .int x2), (3, .int x5)]) dX7_string_83 (by decide) rfl ?_
                refine z_aload_n hC (pc := 85) 3 dX7_string_85 rfl rfl ?_
                refine z_iload hC (pc := 86) 0 dX7_string_86 rfl ?_
                refine z_iconst hC (pc := 88) (v := 0) dX7_string_88 (by decide) ?_
                obtain ⟨q36, hqq36⟩ := hE.o2 h1
                refine t_callVv hC hw28 (pc := 89) (As := [.int 9, .int 0]) (kX2_keep l G T κ hst hE h1) trivial dmX2_keep zf2 hqq36 dX7_string_89 zw1346 rfl rfl (Nat.le_of_ble_eq_true rfl) (Nat.le_of_ble_eq_true rfl) (Nat.le_of_ble_eq_true rfl) (Nat.le_of_ble_eq_true rfl) (Nat.le_of_ble_eq_true rfl) (fun _ _ _ h => nomatch h) (fun cw37 nw37 w37 hw37 pw37 => ?_)
                obtain ⟨rfl, rfl, kw37⟩ := pw37
                refine z_iinc hC (pc := 92) (v := ((x8 + 1) + 1)) (lv' := [(4, .int ((x8 + 1) + 1)), (5, .int 9), (0, .ref a0), (1, .ref a1), (2, .int x2), (3, .int x5)]) 1 dX7_string_92 rfl (congrArg _ (by decide)) (by decide) rfl ?_
                refine z_goto hC (pc := 95) 13 dX7_string_95 (by decide) ?_
                refine z_lvs [2, 3, 4, 5, 0] rfl ?_
                exact ih13 w37 hw37 (tKeep.tr (tKeep.tr (tKeep.tr (tKeep.tr (tKeep.tr tKeep.rf kw7 rfl) kw15 rfl) kw25 rfl) kw28 rfl) kw37 rfl) ((x8 + 1) + 1) (by have o1 := Int32.le_toInt x8; have o2 := Int32.toInt_lt x8; have o3 := Int32.le_toInt x2; have o4 := Int32.toInt_lt x2; have o5 := t_fne c9; have o6 : (1 : Int32).toInt = 1 := (by decide); have o7 := t_addO x8 1; have o8 := t_fne c21; have o9 := t_addO (x8 + 1) 1; omega)
            · refine z_bipush hC (pc := 56) (v := 10) dX7_string_56 (by decide) ?_
              refine z_goto hC (pc := 58) 83 dX7_string_58 (by decide) ?_
              refine z_istore hC (pc := 83) (lv' := [(5, .int 10), (4, .int (x8 + 1)), (0, .ref a0), (1, .ref a1), (2, .int x2), (3, .int x5)]) dX7_string_83 (by decide) rfl ?_
              refine z_aload_n hC (pc := 85) 3 dX7_string_85 rfl rfl ?_
              refine z_iload hC (pc := 86) 0 dX7_string_86 rfl ?_
              refine z_iconst hC (pc := 88) (v := 0) dX7_string_88 (by decide) ?_
              obtain ⟨q39, hqq39⟩ := hE.o2 h1
              refine t_callVv hC hw25 (pc := 89) (As := [.int 10, .int 0]) (kX2_keep l G T κ hst hE h1) trivial dmX2_keep zf2 hqq39 dX7_string_89 zw1346 rfl rfl (Nat.le_of_ble_eq_true rfl) (Nat.le_of_ble_eq_true rfl) (Nat.le_of_ble_eq_true rfl) (Nat.le_of_ble_eq_true rfl) (Nat.le_of_ble_eq_true rfl) (fun _ _ _ h => nomatch h) (fun cw40 nw40 w40 hw40 pw40 => ?_)
              obtain ⟨rfl, rfl, kw40⟩ := pw40
              refine z_iinc hC (pc := 92) (v := ((x8 + 1) + 1)) (lv' := [(4, .int ((x8 + 1) + 1)), (5, .int 10), (0, .ref a0), (1, .ref a1), (2, .int x2), (3, .int x5)]) 1 dX7_string_92 rfl (congrArg _ (by decide)) (by decide) rfl ?_
              refine z_goto hC (pc := 95) 13 dX7_string_95 (by decide) ?_
              refine z_lvs [2, 3, 4, 5, 0] rfl ?_
              exact ih13 w40 hw40 (tKeep.tr (tKeep.tr (tKeep.tr (tKeep.tr tKeep.rf kw7 rfl) kw15 rfl) kw25 rfl) kw40 rfl) ((x8 + 1) + 1) (by have o1 := Int32.le_toInt x8; have o2 := Int32.toInt_lt x8; have o3 := Int32.le_toInt x2; have o4 := Int32.toInt_lt x2; have o5 := t_fne c9; have o6 : (1 : Int32).toInt = 1 := (by decide); have o7 := t_addO x8 1; have o8 := t_fne c21; have o9 := t_addO (x8 + 1) 1; omega)
  refine z_lvs [2, 3, 4, 1, 0] rfl ?_
  exact j13 _ w0 hw0 tKeep.rf (x6 + 1) (Nat.le_refl _)
set_option maxRecDepth 20000 in
theorem kX10_startConstant (l : Launch) (G : zG) (T : tT) (κ : Nat → List Nat) (hst : l.stackTraces = false) (hE : tE G T κ) {a0 : Nat} (h0 : a0 ∈ κ 10) : tMv l G T yX10_startConstant cX10_startConstant 1 [] 1 23 0 0 [.ref a0] uT (uPv 0x1f00000000000000000000000000000000000000000000000000000000000000000000000000000000000000000000000000000000000000000000000000000000000000000000000000000000000000000) := by
  refine tMv.intro hst rfl (Nat.le_of_ble_eq_true rfl) ?_
  intro w0 hw0 _ X hC hR hO hX
  refine z_aload_n hC (pc := 0) 0 dX10_startConstant_0 rfl rfl ?_
  refine z_iconst hC (pc := 1) (v := 2) dX10_startConstant_1 (by decide) ?_
  refine z_iconst hC (pc := 2) (v := (-1)) dX10_startConstant_2 (by decide) ?_
  refine z_iconst hC (pc := 3) (v := (-1)) dX10_startConstant_3 (by decide) ?_
  obtain ⟨q3, hqq3⟩ := hE.o10 h0
  refine t_callVv hC hw0 (pc := 4) (As := [.int 2, .int (-1), .int (-1)]) (kX10_define l G T κ hst hE h0) trivial dmX10_define zf10 hqq3 dX10_startConstant_4 zw1363 rfl rfl (Nat.le_of_ble_eq_true rfl) (Nat.le_of_ble_eq_true rfl) (Nat.le_of_ble_eq_true rfl) (Nat.le_of_ble_eq_true rfl) (Nat.le_of_ble_eq_true rfl) (fun _ _ _ h => nomatch h) (fun cw4 nw4 w4 hw4 pw4 => ?_)
  obtain ⟨rfl, rfl, kw4⟩ := pw4
  refine z_aload_n hC (pc := 7) 0 dX10_startConstant_7 rfl rfl ?_
  refine z_iconst hC (pc := 8) (v := 0) dX10_startConstant_8 (by decide) ?_
  refine u_put hC hw4 (pc := 9) zf10 8 (hE.o10 h0) rfl (Or.inl rfl) dX10_startConstant_9 zw340 rfl rfl rfl (kk := fun w6 hw6 fw6 kw6 => ?_)
  exact hR _ _ _ _ _ dX10_startConstant_12 (Nat.le_of_ble_eq_true rfl) (Nat.le_of_ble_eq_true rfl) ⟨hw6, rfl, rfl, (tKeep.tr (tKeep.tr tKeep.rf kw4 rfl) kw6 rfl)⟩
set_option maxRecDepth 20000 in
theorem kX7_blanksEnd (l : Launch) (G : zG) (T : tT) (κ : Nat → List Nat) (hst : l.stackTraces = false) (hE : tE G T κ) {a0 : Nat} (h0 : a0 ∈ κ 7) {x1 : Int32} : tMi l G T yX7_blanksEnd cX7_blanksEnd 3 .int [] 0 0 0 0 [.ref a0, .int x1] uT (uPi 0x0) := by
  refine tMi.intro hst rfl (Nat.le_of_ble_eq_true rfl) ?_
  intro w0 hw0 _ X hC hR hO hX
  refine z_iload_n hC (pc := 0) 1 dX7_blanksEnd_0 rfl rfl ?_
  refine z_istore_n hC (pc := 1) (lv' := [(2, .int x1), (0, .ref a0), (1, .int x1)]) dX7_blanksEnd_1 rfl (by decide) rfl ?_
  have j2 : ∀ (d2 : Nat), ∀ (x4 : Int32), (2 ^ 31 - (x4 : Int32).toInt).toNat ≤ d2 → zS X G 3 w0 [(0, .ref a0), (2, .int x4)] 0 0 2 [] := by
    intro d2
    induction d2 with
    | zero => intro x4 hd2; exact (t_zero hd2).elim
    | succ d2 ih2 =>
      intro x4 hd2
      refine z_iload_n hC (pc := 2) 1 dX7_blanksEnd_2 rfl rfl ?_
      have j62 : zS X G 3 w0 [(2, .int x4)] 0 0 62 [] := by
        refine z_iload_n hC (pc := 62) 0 dX7_blanksEnd_62 rfl rfl ?_
        exact hR _ _ _ _ _ _ dX7_blanksEnd_63 rfl (Nat.le_of_ble_eq_true rfl) (Nat.le_of_ble_eq_true rfl) ⟨hw0, rfl, rfl, tKeep.rf⟩
      refine z_if_lt hC (pc := 3) 62 dX7_blanksEnd_3 (by decide) (fun c5 => ?_) (fun c5 => ?_)
      · refine z_lvs [1] rfl ?_
        exact j62
      · refine z_iload_n hC (pc := 6) 1 dX7_blanksEnd_6 rfl rfl ?_
        refine z_aload_n hC (pc := 7) 0 dX7_blanksEnd_7 rfl rfl ?_
        refine u_get hC hw0 (pc := 8) zf7 4 (hE.o7 h0) rfl dX7_blanksEnd_8 zw119 (kk := fun vx6 tx6 fx6 => ?_)
        obtain ⟨x6, rfl⟩ := tx6
        refine z_icmp_ge hC (pc := 11) 62 dX7_blanksEnd_11 (by decide) (fun c7 => ?_) (fun c7 => ?_)
        · refine z_lvs [1] rfl ?_
          exact j62
        · refine z_iload_n hC (pc := 14) 1 dX7_blanksEnd_14 rfl rfl ?_
          refine z_aload_n hC (pc := 15) 0 dX7_blanksEnd_15 rfl rfl ?_
          refine u_get hC hw0 (pc := 16) zf7 0 (hE.o7 h0) rfl dX7_blanksEnd_16 zw115 (kk := fun va8 ta8 fa8 => ?_)
          obtain ⟨a8, ma8, rfl⟩ := ta8
          obtain ⟨N9, gN9, AN9⟩ := hE.byts ma8
          have hN9 : N9 < 2 ^ 31 := Nat.lt_trans gN9 (by decide)
          refine u_alenB hC hw0 (pc := 19) (Or.inl AN9) dX7_blanksEnd_19 ?_
          refine z_icmp_ge hC (pc := 20) 62 dX7_blanksEnd_20 (by decide) (fun c10 => ?_) (fun c10 => ?_)
          · refine z_lvs [1] rfl ?_
            exact j62
          · refine z_aload_n hC (pc := 23) 0 dX7_blanksEnd_23 rfl rfl ?_
            refine u_getK hC (pc := 24) zf7 0 fa8 dX7_blanksEnd_24 zw115 (kk := ?_)
            refine z_iload_n hC (pc := 27) 1 dX7_blanksEnd_27 rfl rfl ?_
            refine u_bald hC hw0 (pc := 28) (Or.inl AN9) dX7_blanksEnd_28 (t_inB hN9 c5 c10) (fun x11 => ?_)
            refine z_bipush hC (pc := 29) (v := 32) dX7_blanksEnd_29 (by decide) ?_
            have j56 : zS X G 3 w0 [(0, .ref a0), (2, .int x4)] 0 0 56 [] := by
              refine z_iinc hC (pc := 56) (v := (x4 + 1)) (lv' := [(2, .int (x4 + 1)), (0, .ref a0)]) 1 dX7_blanksEnd_56 rfl (congrArg _ (by decide)) (by decide) rfl ?_
              refine z_goto hC (pc := 59) 2 dX7_blanksEnd_59 (by decide) ?_
              refine z_lvs [1, 0] rfl ?_
              exact ih2 (x4 + 1) (t_up (Int32.not_le.mp c10) hd2)
            refine z_icmp_eq hC (pc := 31) 56 dX7_blanksEnd_31 (by decide) (fun c12 => ?_) (fun c12 => ?_)
            · exact j56
            · refine z_aload_n hC (pc := 34) 0 dX7_blanksEnd_34 rfl rfl ?_
              refine u_getK hC (pc := 35) zf7 0 fa8 dX7_blanksEnd_35 zw115 (kk := ?_)
              refine z_iload_n hC (pc := 38) 1 dX7_blanksEnd_38 rfl rfl ?_
              refine u_bald hC hw0 (pc := 39) (Or.inl AN9) dX7_blanksEnd_39 (t_inB hN9 c5 c10) (fun x13 => ?_)
              refine z_bipush hC (pc := 40) (v := 9) dX7_blanksEnd_40 (by decide) ?_
              refine z_icmp_eq hC (pc := 42) 56 dX7_blanksEnd_42 (by decide) (fun c14 => ?_) (fun c14 => ?_)
              · exact j56
              · refine z_aload_n hC (pc := 45) 0 dX7_blanksEnd_45 rfl rfl ?_
                refine u_getK hC (pc := 46) zf7 0 fa8 dX7_blanksEnd_46 zw115 (kk := ?_)
                refine z_iload_n hC (pc := 49) 1 dX7_blanksEnd_49 rfl rfl ?_
                refine u_bald hC hw0 (pc := 50) (Or.inl AN9) dX7_blanksEnd_50 (t_inB hN9 c5 c10) (fun x15 => ?_)
                refine z_bipush hC (pc := 51) (v := 10) dX7_blanksEnd_51 (by decide) ?_
                refine z_icmp_ne hC (pc := 53) 62 dX7_blanksEnd_53 (by decide) (fun c16 => ?_) (fun c16 => ?_)
                · refine z_lvs [1] rfl ?_
                  exact j62
                · exact j56
  refine z_lvs [1, 0] rfl ?_
  exact j2 _ x1 (Nat.le_refl _)
set_option maxRecDepth 20000 in
theorem kX10_isParamsAhead (l : Launch) (G : zG) (T : tT) (κ : Nat → List Nat) (hst : l.stackTraces = false) (hE : tE G T κ) {a0 : Nat} (h0 : a0 ∈ κ 10) : tMi l G T yX10_isParamsAhead cX10_isParamsAhead 3 .boolean [] 1 24 0 0 [.ref a0] uT (uPz 0x0) := by
  refine tMi.intro hst rfl (Nat.le_of_ble_eq_true rfl) ?_
  intro w0 hw0 _ X hC hR hO hX
  refine z_aload_n hC (pc := 0) 0 dX10_isParamsAhead_0 rfl rfl ?_
  refine u_get hC hw0 (pc := 1) zf10 0 (hE.o10 h0) rfl dX10_isParamsAhead_1 zw330 (kk := fun va3 ta3 fa3 => ?_)
  obtain ⟨a3, ma3, rfl⟩ := ta3
  refine u_get hC hw0 (pc := 4) zf7 5 (hE.o7 ma3) rfl dX10_isParamsAhead_4 zw124 (kk := fun vx4 tx4 fx4 => ?_)
  obtain ⟨x4, rfl⟩ := tx4
  refine z_istore_n hC (pc := 7) (lv' := [(1, .int x4), (0, .ref a0)]) dX10_isParamsAhead_7 rfl (by decide) rfl ?_
  refine z_iconst hC (pc := 8) (v := 0) dX10_isParamsAhead_8 (by decide) ?_
  refine z_istore_n hC (pc := 9) (lv' := [(2, .int 0), (1, .int x4), (0, .ref a0)]) dX10_isParamsAhead_9 rfl (by decide) rfl ?_
  have j10 : ∀ (d10 : Nat), ∀ (w5 : va_W), tW T w5 → tKeep 0x0 w0 w5 → ∀ (x6 : Int32), ∀ (x7 : Int32), ¬ x7 < 0 → (2 ^ 31 - (x7 : Int32).toInt).toNat ≤ d10 → zS X G 3 w5 [(0, .ref a0), (1, .int x6), (2, .int x7)] 0 0 10 [] := by
    intro d10
    induction d10 with
    | zero => intro w5 hw5 kw5 x6 x7 v8 hd10; exact (t_zero hd10).elim
    | succ d10 ih10 =>
      intro w5 hw5 kw5 x6 x7 v8 hd10
      refine z_iload_n hC (pc := 10) 2 dX10_isParamsAhead_10 rfl rfl ?_
      refine z_sipush hC (pc := 11) (v := 4000) dX10_isParamsAhead_11 (by decide) ?_
      refine z_icmp_ge hC (pc := 14) 99 dX10_isParamsAhead_14 (by decide) (fun c9 => ?_) (fun c9 => ?_)
      · refine z_iconst hC (pc := 99) (v := 0) dX10_isParamsAhead_99 (by decide) ?_
        exact hR _ _ _ _ _ _ dX10_isParamsAhead_100 rfl (Nat.le_of_ble_eq_true rfl) (Nat.le_of_ble_eq_true rfl) ⟨hw5, rfl, rfl, (tKeep.tr tKeep.rf kw5 rfl), (Or.inl rfl)⟩
      · refine z_aload_n hC (pc := 17) 0 dX10_isParamsAhead_17 rfl rfl ?_
        refine u_getK hC (pc := 18) zf10 0 (tKeep.F kw5 fa3 rfl) dX10_isParamsAhead_18 zw330 (kk := ?_)
        refine z_iload_n hC (pc := 21) 1 dX10_isParamsAhead_21 rfl rfl ?_
        obtain ⟨q10, hqq10⟩ := hE.o7 ma3
        refine t_callVi hC hw5 (pc := 22) (As := [.int x6]) (kX7_blanksEnd l G T κ hst hE ma3) trivial dmX7_blanksEnd zf7 hqq10 dX10_isParamsAhead_22 zw1375 rfl rfl (Nat.le_of_ble_eq_true rfl) (Nat.le_of_ble_eq_true rfl) (Nat.le_of_ble_eq_true rfl) (Nat.le_of_ble_eq_true rfl) (Nat.le_of_ble_eq_true rfl) (fun _ _ _ h => nomatch h) (fun x12 cw11 nw11 w11 hw11 pw11 => ?_)
        obtain ⟨rfl, rfl, kw11⟩ := pw11
        refine z_istore_n hC (pc := 25) (lv' := [(1, .int x12), (0, .ref a0), (2, .int x7)]) dX10_isParamsAhead_25 rfl (by decide) rfl ?_
        refine z_aload_n hC (pc := 26) 1 dX10_isParamsAhead_26 rfl rfl ?_
        refine u_getK hC (pc := 27) zf10 0 (tKeep.F kw11 (tKeep.F kw5 fa3 rfl) rfl) dX10_isParamsAhead_27 zw330 (kk := ?_)
        refine z_iload_n hC (pc := 30) 0 dX10_isParamsAhead_30 rfl rfl ?_
        refine t_callVi hC hw11 (pc := 31) (As := [.int x12]) (kX7_at l G T κ hst hE ma3) trivial dmX7_at zf7 hqq10 dX10_isParamsAhead_31 zw1379 rfl rfl (Nat.le_of_ble_eq_true rfl) (Nat.le_of_ble_eq_true rfl) (Nat.le_of_ble_eq_true rfl) (Nat.le_of_ble_eq_true rfl) (Nat.le_of_ble_eq_true rfl) (fun _ _ _ h => nomatch h) (fun x14 cw13 nw13 w13 hw13 pw13 => ?_)
        obtain ⟨rfl, rfl, kw13⟩ := pw13
        refine t_callSNi hC hw13 (pc := 34) (As := [.int x14]) (kX12_isLetter l G T κ hst hE) trivial dmX12_isLetter dX10_isParamsAhead_34 zw1380 rfl rfl (Nat.le_of_ble_eq_true rfl) (Nat.le_of_ble_eq_true rfl) (Nat.le_of_ble_eq_true rfl) (Nat.le_of_ble_eq_true rfl) (Nat.le_of_ble_eq_true rfl) (fun _ _ _ h => nomatch h) (fun x16 cw15 nw15 w15 hw15 pw15 => ?_)
        obtain ⟨rfl, rfl, kw15, zx16⟩ := pw15
        refine z_if_ne hC (pc := 37) 42 dX10_isParamsAhead_37 (by decide) (fun c17 => ?_) (fun c17 => ?_)
        · refine z_aload_n hC (pc := 42) 1 dX10_isParamsAhead_42 rfl rfl ?_
          refine u_getK hC (pc := 43) zf10 0 (tKeep.F kw15 (tKeep.F kw13 (tKeep.F kw11 (tKeep.F kw5 fa3 rfl) rfl) rfl) rfl) dX10_isParamsAhead_43 zw330 (kk := ?_)
          refine z_aload_n hC (pc := 46) 1 dX10_isParamsAhead_46 rfl rfl ?_
          refine u_getK hC (pc := 47) zf10 0 (tKeep.F kw15 (tKeep.F kw13 (tKeep.F kw11 (tKeep.F kw5 fa3 rfl) rfl) rfl) rfl) dX10_isParamsAhead_47 zw330 (kk := ?_)
          refine z_iload_n hC (pc := 50) 0 dX10_isParamsAhead_50 rfl rfl ?_
          refine t_callVi hC hw15 (pc := 51) (As := [.int x12]) (kX7_rowEnd l G T κ hst hE ma3) trivial dmX7_rowEnd zf7 hqq10 dX10_isParamsAhead_51 zw1381 rfl rfl (Nat.le_of_ble_eq_true rfl) (Nat.le_of_ble_eq_true rfl) (Nat.le_of_ble_eq_true rfl) (Nat.le_of_ble_eq_true rfl) (Nat.le_of_ble_eq_true rfl) (fun _ _ _ h => nomatch h) (fun x19 cw18 nw18 w18 hw18 pw18 => ?_)
          obtain ⟨rfl, rfl, kw18⟩ := pw18
          refine t_callVi hC hw18 (pc := 54) (As := [.int x19]) (kX7_blanksEnd l G T κ hst hE ma3) trivial dmX7_blanksEnd zf7 hqq10 dX10_isParamsAhead_54 zw1375 rfl rfl (Nat.le_of_ble_eq_true rfl) (Nat.le_of_ble_eq_true rfl) (Nat.le_of_ble_eq_true rfl) (Nat.le_of_ble_eq_true rfl) (Nat.le_of_ble_eq_true rfl) (fun _ _ _ h => nomatch h) (fun x21 cw20 nw20 w20 hw20 pw20 => ?_)
          obtain ⟨rfl, rfl, kw20⟩ := pw20
          refine z_istore_n hC (pc := 57) (lv' := [(1, .int x21), (0, .ref a0), (2, .int x7)]) dX10_isParamsAhead_57 rfl (by decide) rfl ?_
          refine z_aload_n hC (pc := 58) 1 dX10_isParamsAhead_58 rfl rfl ?_
          refine u_getK hC (pc := 59) zf10 0 (tKeep.F kw20 (tKeep.F kw18 (tKeep.F kw15 (tKeep.F kw13 (tKeep.F kw11 (tKeep.F kw5 fa3 rfl) rfl) rfl) rfl) rfl) rfl) dX10_isParamsAhead_59 zw330 (kk := ?_)
          refine z_iload_n hC (pc := 62) 0 dX10_isParamsAhead_62 rfl rfl ?_
          refine t_callVi hC hw20 (pc := 63) (As := [.int x21]) (kX7_at l G T κ hst hE ma3) trivial dmX7_at zf7 hqq10 dX10_isParamsAhead_63 zw1379 rfl rfl (Nat.le_of_ble_eq_true rfl) (Nat.le_of_ble_eq_true rfl) (Nat.le_of_ble_eq_true rfl) (Nat.le_of_ble_eq_true rfl) (Nat.le_of_ble_eq_true rfl) (fun _ _ _ h => nomatch h) (fun x23 cw22 nw22 w22 hw22 pw22 => ?_)
          obtain ⟨rfl, rfl, kw22⟩ := pw22
          refine z_bipush hC (pc := 66) (v := 44) dX10_isParamsAhead_66 (by decide) ?_
          refine z_icmp_eq hC (pc := 68) 90 dX10_isParamsAhead_68 (by decide) (fun c24 => ?_) (fun c24 => ?_)
          · refine z_iinc hC (pc := 90) (v := (x21 + 1)) (lv' := [(1, .int (x21 + 1)), (0, .ref a0), (2, .int x7)]) 0 dX10_isParamsAhead_90 rfl (congrArg _ (by decide)) (by decide) rfl ?_
            refine z_iinc hC (pc := 93) (v := (x7 + 1)) (lv' := [(2, .int (x7 + 1)), (1, .int (x21 + 1)), (0, .ref a0)]) 2 dX10_isParamsAhead_93 rfl (congrArg _ (by decide)) (by decide) rfl ?_
            refine z_goto hC (pc := 96) 10 dX10_isParamsAhead_96 (by decide) ?_
            refine z_lvs [2, 1, 0] rfl ?_
            exact ih10 w22 hw22 (tKeep.tr (tKeep.tr (tKeep.tr (tKeep.tr (tKeep.tr (tKeep.tr (tKeep.tr tKeep.rf kw5 rfl) kw11 rfl) kw13 rfl) kw15 rfl) kw18 rfl) kw20 rfl) kw22 rfl) (x21 + 1) (x7 + 1) (t_nnI v8 (Int32.not_le.mp c9)) (t_up (Int32.not_le.mp c9) hd10)
          · refine z_aload_n hC (pc := 71) 1 dX10_isParamsAhead_71 rfl rfl ?_
            refine u_getK hC (pc := 72) zf10 0 (tKeep.F kw22 (tKeep.F kw20 (tKeep.F kw18 (tKeep.F kw15 (tKeep.F kw13 (tKeep.F kw11 (tKeep.F kw5 fa3 rfl) rfl) rfl) rfl) rfl) rfl) rfl) dX10_isParamsAhead_72 zw330 (kk := ?_)
            refine z_iload_n hC (pc := 75) 0 dX10_isParamsAhead_75 rfl rfl ?_
            refine t_callVi hC hw22 (pc := 76) (As := [.int x21]) (kX7_at l G T κ hst hE ma3) trivial dmX7_at zf7 hqq10 dX10_isParamsAhead_76 zw1379 rfl rfl (Nat.le_of_ble_eq_true rfl) (Nat.le_of_ble_eq_true rfl) (Nat.le_of_ble_eq_true rfl) (Nat.le_of_ble_eq_true rfl) (Nat.le_of_ble_eq_true rfl) (fun _ _ _ h => nomatch h) (fun x26 cw25 nw25 w25 hw25 pw25 => ?_)
            obtain ⟨rfl, rfl, kw25⟩ := pw25
            refine z_bipush hC (pc := 79) (v := 124) dX10_isParamsAhead_79 (by decide) ?_
            have j89 : ∀ (x27 : Int32), tZ (.int x27) → zS X G 3 w25 [] 0 0 89 [.int x27] := by
              intro x27 zx27
              exact hR _ _ _ _ _ _ dX10_isParamsAhead_89 (t_nZ zx27) (Nat.le_of_ble_eq_true rfl) (Nat.le_of_ble_eq_true rfl) ⟨hw25, rfl, rfl, (tKeep.tr (tKeep.tr (tKeep.tr (tKeep.tr (tKeep.tr (tKeep.tr (tKeep.tr (tKeep.tr tKeep.rf kw5 rfl) kw11 rfl) kw13 rfl) kw15 rfl) kw18 rfl) kw20 rfl) kw22 rfl) kw25 rfl), zx27⟩
            refine z_icmp_ne hC (pc := 81) 88 dX10_isParamsAhead_81 (by decide) (fun c28 => ?_) (fun c28 => ?_)
            · refine z_iconst hC (pc := 88) (v := 0) dX10_isParamsAhead_88 (by decide) ?_
              refine z_lvs [] rfl ?_
              exact j89 0 (Or.inl rfl)
            · refine z_iconst hC (pc := 84) (v := 1) dX10_isParamsAhead_84 (by decide) ?_
              refine z_goto hC (pc := 85) 89 dX10_isParamsAhead_85 (by decide) ?_
              refine z_lvs [] rfl ?_
              exact j89 1 (Or.inr rfl)
        · refine z_iconst hC (pc := 40) (v := 0) dX10_isParamsAhead_40 (by decide) ?_
          exact hR _ _ _ _ _ _ dX10_isParamsAhead_41 rfl (Nat.le_of_ble_eq_true rfl) (Nat.le_of_ble_eq_true rfl) ⟨hw15, rfl, rfl, (tKeep.tr (tKeep.tr (tKeep.tr (tKeep.tr tKeep.rf kw5 rfl) kw11 rfl) kw13 rfl) kw15 rfl), (Or.inl rfl)⟩
  refine z_lvs [2, 1, 0] rfl ?_
  exact j10 _ w0 hw0 tKeep.rf x4 0 (by decide) (Nat.le_refl _)
set_option maxRecDepth 20000 in
theorem kX7_blanks (l : Launch) (G : zG) (T : tT) (κ : Nat → List Nat) (hst : l.stackTraces = false) (hE : tE G T κ) {a0 : Nat} (h0 : a0 ∈ κ 7) : tMv l G T yX7_blanks cX7_blanks 1 [] 0 0 0 0 [.ref a0] uT (uPv 0x200000000000000000000000000000000000000000000000000000000000000000000000000000000000000000000000000000000000000000) := by
  refine tMv.intro hst rfl (Nat.le_of_ble_eq_true rfl) ?_
  intro w0 hw0 _ X hC hR hO hX
  have j0 : ∀ (d0 : Nat), ∀ (w3 : va_W), tW T w3 → tKeep 0x200000000000000000000000000000000000000000000000000000000000000000000000000000000000000000000000000000000000000000 w0 w3 → ∀ (x4 : Int32), tF 7 w3 a0 5 (.int x4) → (2 ^ 31 - (x4 : Int32).toInt).toNat ≤ d0 → zS X G 1 w3 [(0, .ref a0)] 0 0 0 [] := by
    intro d0
    induction d0 with
    | zero => intro w3 hw3 kw3 x4 fx4 hd0; exact (t_zero hd0).elim
    | succ d0 ih0 =>
      intro w3 hw3 kw3 x4 fx4 hd0
      refine z_aload_n hC (pc := 0) 0 dX7_blanks_0 rfl rfl ?_
      refine u_getK hC (pc := 1) zf7 5 fx4 dX7_blanks_1 zw122 (kk := ?_)
      have j85 : zS X G 1 w3 [] 0 0 85 [] := by
        exact hR _ _ _ _ _ dX7_blanks_85 (Nat.le_of_ble_eq_true rfl) (Nat.le_of_ble_eq_true rfl) ⟨hw3, rfl, rfl, (tKeep.tr tKeep.rf kw3 rfl)⟩
      refine z_if_lt hC (pc := 4) 85 dX7_blanks_4 (by decide) (fun c5 => ?_) (fun c5 => ?_)
      · refine z_lvs [] rfl ?_
        exact j85
      · refine z_aload_n hC (pc := 7) 0 dX7_blanks_7 rfl rfl ?_
        refine u_getK hC (pc := 8) zf7 5 fx4 dX7_blanks_8 zw122 (kk := ?_)
        refine z_aload_n hC (pc := 11) 0 dX7_blanks_11 rfl rfl ?_
        refine u_get hC hw3 (pc := 12) zf7 4 (hE.o7 h0) rfl dX7_blanks_12 zw119 (kk := fun vx6 tx6 fx6 => ?_)
        obtain ⟨x6, rfl⟩ := tx6
        refine z_icmp_ge hC (pc := 15) 85 dX7_blanks_15 (by decide) (fun c7 => ?_) (fun c7 => ?_)
        · refine z_lvs [] rfl ?_
          exact j85
        · refine z_aload_n hC (pc := 18) 0 dX7_blanks_18 rfl rfl ?_
          refine u_getK hC (pc := 19) zf7 5 fx4 dX7_blanks_19 zw122 (kk := ?_)
          refine z_aload_n hC (pc := 22) 0 dX7_blanks_22 rfl rfl ?_
          refine u_get hC hw3 (pc := 23) zf7 0 (hE.o7 h0) rfl dX7_blanks_23 zw115 (kk := fun va8 ta8 fa8 => ?_)
          obtain ⟨a8, ma8, rfl⟩ := ta8
          obtain ⟨N9, gN9, AN9⟩ := hE.byts ma8
          have hN9 : N9 < 2 ^ 31 := Nat.lt_trans gN9 (by decide)
          refine u_alenB hC hw3 (pc := 26) (Or.inl AN9) dX7_blanks_26 ?_
          refine z_icmp_ge hC (pc := 27) 85 dX7_blanks_27 (by decide) (fun c10 => ?_) (fun c10 => ?_)
          · refine z_lvs [] rfl ?_
            exact j85
          · refine z_aload_n hC (pc := 30) 0 dX7_blanks_30 rfl rfl ?_
            refine u_getK hC (pc := 31) zf7 0 fa8 dX7_blanks_31 zw115 (kk := ?_)
            refine z_aload_n hC (pc := 34) 0 dX7_blanks_34 rfl rfl ?_
            refine u_getK hC (pc := 35) zf7 5 fx4 dX7_blanks_35 zw122 (kk := ?_)
            refine u_bald hC hw3 (pc := 38) (Or.inl AN9) dX7_blanks_38 (t_inB hN9 c5 c10) (fun x11 => ?_)
            refine z_bipush hC (pc := 39) (v := 32) dX7_blanks_39 (by decide) ?_
            have j72 : zS X G 1 w3 [(0, .ref a0)] 0 0 72 [] := by
              refine z_aload_n hC (pc := 72) 0 dX7_blanks_72 rfl rfl ?_
              refine z_dup hC (pc := 73) dX7_blanks_73 rfl ?_
              refine u_getK hC (pc := 74) zf7 5 fx4 dX7_blanks_74 zw122 (kk := ?_)
              refine z_iconst hC (pc := 77) (v := 1) dX7_blanks_77 (by decide) ?_
              refine z_iadd hC (pc := 78) (v := (x4 + 1)) dX7_blanks_78 rfl ?_
              refine u_put hC hw3 (pc := 79) zf7 5 (hE.o7 h0) rfl ⟨_, rfl⟩ dX7_blanks_79 zw122 rfl rfl rfl (kk := fun w12 hw12 fw12 kw12 => ?_)
              refine z_goto hC (pc := 82) 0 dX7_blanks_82 (by decide) ?_
              exact ih0 w12 hw12 (tKeep.tr (tKeep.tr tKeep.rf kw3 rfl) kw12 rfl) (x4 + 1) fw12 (t_up (Int32.not_le.mp c10) hd0)
            refine z_icmp_eq hC (pc := 41) 72 dX7_blanks_41 (by decide) (fun c13 => ?_) (fun c13 => ?_)
            · exact j72
            · refine z_aload_n hC (pc := 44) 0 dX7_blanks_44 rfl rfl ?_
              refine u_getK hC (pc := 45) zf7 0 fa8 dX7_blanks_45 zw115 (kk := ?_)
              refine z_aload_n hC (pc := 48) 0 dX7_blanks_48 rfl rfl ?_
              refine u_getK hC (pc := 49) zf7 5 fx4 dX7_blanks_49 zw122 (kk := ?_)
              refine u_bald hC hw3 (pc := 52) (Or.inl AN9) dX7_blanks_52 (t_inB hN9 c5 c10) (fun x14 => ?_)
              refine z_bipush hC (pc := 53) (v := 9) dX7_blanks_53 (by decide) ?_
              refine z_icmp_eq hC (pc := 55) 72 dX7_blanks_55 (by decide) (fun c15 => ?_) (fun c15 => ?_)
              · exact j72
              · refine z_aload_n hC (pc := 58) 0 dX7_blanks_58 rfl rfl ?_
                refine u_getK hC (pc := 59) zf7 0 fa8 dX7_blanks_59 zw115 (kk := ?_)
                refine z_aload_n hC (pc := 62) 0 dX7_blanks_62 rfl rfl ?_
                refine u_getK hC (pc := 63) zf7 5 fx4 dX7_blanks_63 zw122 (kk := ?_)
                refine u_bald hC hw3 (pc := 66) (Or.inl AN9) dX7_blanks_66 (t_inB hN9 c5 c10) (fun x16 => ?_)
                refine z_bipush hC (pc := 67) (v := 10) dX7_blanks_67 (by decide) ?_
                refine z_icmp_ne hC (pc := 69) 85 dX7_blanks_69 (by decide) (fun c17 => ?_) (fun c17 => ?_)
                · refine z_lvs [] rfl ?_
                  exact j85
                · exact j72
  obtain ⟨x18, fx18⟩ := t_fldI hw0 (hE.o7 h0) (f := 5) rfl
  exact j0 _ w0 hw0 tKeep.rf x18 fx18 (Nat.le_refl _)
set_option maxRecDepth 20000 in
theorem kX2_emit_ (l : Launch) (G : zG) (T : tT) (κ : Nat → List Nat) (hst : l.stackTraces = false) (hE : tE G T κ) {a0 : Nat} (h0 : a0 ∈ κ 2) {x1 : Int32} {x2 : Int32} : tMv l G T yX2_emit_ cX2_emit_ 3 [] 1 21 0 0 [.ref a0, .int x1, .int x2] uT (uPv 0x800000000000000000000000000000000) := by
  refine tMv.intro hst rfl (Nat.le_of_ble_eq_true rfl) ?_
  intro w0 hw0 _ X hC hR hO hX
  refine z_aload_n hC (pc := 0) 0 dX2_emit__0 rfl rfl ?_
  refine z_iload_n hC (pc := 1) 1 dX2_emit__1 rfl rfl ?_
  obtain ⟨q5, hqq5⟩ := hE.o2 h0
  refine t_callVv hC hw0 (pc := 2) (As := [.int x1]) (kX2_emit l G T κ hst hE h0) trivial dmX2_emit zf2 hqq5 dX2_emit__2 zw1316 rfl rfl (Nat.le_of_ble_eq_true rfl) (Nat.le_of_ble_eq_true rfl) (Nat.le_of_ble_eq_true rfl) (Nat.le_of_ble_eq_true rfl) (Nat.le_of_ble_eq_true rfl) (fun _ _ _ h => nomatch h) (fun cw6 nw6 w6 hw6 pw6 => ?_)
  obtain ⟨rfl, rfl, kw6⟩ := pw6
  refine z_aload_n hC (pc := 5) 0 dX2_emit__5 rfl rfl ?_
  refine z_iload_n hC (pc := 6) 2 dX2_emit__6 rfl rfl ?_
  refine t_callVv hC hw6 (pc := 7) (As := [.int x2]) (kX2_emit l G T κ hst hE h0) trivial dmX2_emit zf2 hqq5 dX2_emit__7 zw1316 rfl rfl (Nat.le_of_ble_eq_true rfl) (Nat.le_of_ble_eq_true rfl) (Nat.le_of_ble_eq_true rfl) (Nat.le_of_ble_eq_true rfl) (Nat.le_of_ble_eq_true rfl) (fun _ _ _ h => nomatch h) (fun cw8 nw8 w8 hw8 pw8 => ?_)
  obtain ⟨rfl, rfl, kw8⟩ := pw8
  exact hR _ _ _ _ _ dX2_emit__10 (Nat.le_of_ble_eq_true rfl) (Nat.le_of_ble_eq_true rfl) ⟨hw8, rfl, rfl, (tKeep.tr (tKeep.tr tKeep.rf kw6 rfl) kw8 rfl)⟩
set_option maxRecDepth 20000 in
theorem kX10_flush (l : Launch) (G : zG) (T : tT) (κ : Nat → List Nat) (hst : l.stackTraces = false) (hE : tE G T κ) {a0 : Nat} (h0 : a0 ∈ κ 10) : tMi l G T yX10_flush cX10_flush 1 .int [] 2 44 0 0 [.ref a0] uT (uPi 0x4000000000000000000000000000000000000000000000000000000000000000000000000000000000000000000000000000000000000000000000000000000000800000000000000000000000000000000) := by
  refine tMi.intro hst rfl (Nat.le_of_ble_eq_true rfl) ?_
  intro w0 hw0 _ X hC hR hO hX
  refine z_aload_n hC (pc := 0) 0 dX10_flush_0 rfl rfl ?_
  refine u_get hC hw0 (pc := 1) zf10 10 (hE.o10 h0) rfl dX10_flush_1 zw342 (kk := fun vx3 tx3 fx3 => ?_)
  obtain ⟨x3, rfl⟩ := tx3
  refine z_if_ne hC (pc := 4) 9 dX10_flush_4 (by decide) (fun c4 => ?_) (fun c4 => ?_)
  · refine z_aload_n hC (pc := 9) 0 dX10_flush_9 rfl rfl ?_
    refine u_get hC hw0 (pc := 10) zf10 1 (hE.o10 h0) rfl dX10_flush_10 zw331 (kk := fun va5 ta5 fa5 => ?_)
    obtain ⟨a5, ma5, rfl⟩ := ta5
    refine z_iconst hC (pc := 13) (v := 1) dX10_flush_13 (by decide) ?_
    refine z_aload_n hC (pc := 14) 0 dX10_flush_14 rfl rfl ?_
    refine u_get hC hw0 (pc := 15) zf10 9 (hE.o10 h0) rfl dX10_flush_15 zw341 (kk := fun vx6 tx6 fx6 => ?_)
    obtain ⟨x6, rfl⟩ := tx6
    refine z_aload_n hC (pc := 18) 0 dX10_flush_18 rfl rfl ?_
    refine u_getK hC (pc := 19) zf10 10 fx3 dX10_flush_19 zw342 (kk := ?_)
    obtain ⟨q7, hqq7⟩ := hE.o2 ma5
    refine t_callVv hC hw0 (pc := 22) (As := [.int 1, .int x6, .int x3]) (kX2_emit__ l G T κ hst hE ma5) trivial dmX2_emit__ zf2 hqq7 dX10_flush_22 zw1370 rfl rfl (Nat.le_of_ble_eq_true rfl) (Nat.le_of_ble_eq_true rfl) (Nat.le_of_ble_eq_true rfl) (Nat.le_of_ble_eq_true rfl) (Nat.le_of_ble_eq_true rfl) (fun _ _ _ h => nomatch h) (fun cw8 nw8 w8 hw8 pw8 => ?_)
    obtain ⟨rfl, rfl, kw8⟩ := pw8
    refine z_aload_n hC (pc := 25) 0 dX10_flush_25 rfl rfl ?_
    refine z_iconst hC (pc := 26) (v := 0) dX10_flush_26 (by decide) ?_
    refine u_put hC hw8 (pc := 27) zf10 10 (hE.o10 h0) rfl ⟨_, rfl⟩ dX10_flush_27 zw342 rfl rfl rfl (kk := fun w10 hw10 fw10 kw10 => ?_)
    refine z_aload_n hC (pc := 30) 0 dX10_flush_30 rfl rfl ?_
    refine u_getK hC (pc := 31) zf10 1 (tKeep.F kw10 (tKeep.F kw8 fa5 rfl) rfl) dX10_flush_31 zw331 (kk := ?_)
    refine u_get hC hw10 (pc := 34) zf2 3 (hE.o2 ma5) rfl dX10_flush_34 zw245 (kk := fun vx11 tx11 fx11 => ?_)
    obtain ⟨x11, rfl⟩ := tx11
    refine z_iconst hC (pc := 37) (v := 1) dX10_flush_37 (by decide) ?_
    refine z_isub hC (pc := 38) (v := (x11 - 1)) dX10_flush_38 rfl ?_
    exact hR _ _ _ _ _ _ dX10_flush_39 rfl (Nat.le_of_ble_eq_true rfl) (Nat.le_of_ble_eq_true rfl) ⟨hw10, rfl, rfl, (tKeep.tr (tKeep.tr tKeep.rf kw8 rfl) kw10 rfl)⟩
  · refine z_iconst hC (pc := 7) (v := (-1)) dX10_flush_7 (by decide) ?_
    exact hR _ _ _ _ _ _ dX10_flush_8 rfl (Nat.le_of_ble_eq_true rfl) (Nat.le_of_ble_eq_true rfl) ⟨hw0, rfl, rfl, tKeep.rf⟩
set_option maxRecDepth 20000 in
theorem kX10_comment (l : Launch) (G : zG) (T : tT) (κ : Nat → List Nat) (hst : l.stackTraces = false) (hE : tE G T κ) {a0 : Nat} (h0 : a0 ∈ κ 10) : tMv l G T yX10_comment cX10_comment 2 ["java/lang/IllegalStateException"] 7 103 1 6 [.ref a0] uT (uPv 0x1a00000000000000000000000000000000000000000000000000000000000000000000000000000000000000000000000000000000000000000) := by
  refine tMv.intro hst rfl (Nat.le_of_ble_eq_true rfl) ?_
  intro w0 hw0 _ X hC hR hO hX
  refine z_aload_n hC (pc := 0) 0 dX10_comment_0 rfl rfl ?_
  refine u_get hC hw0 (pc := 1) zf10 0 (hE.o10 h0) rfl dX10_comment_1 zw330 (kk := fun va3 ta3 fa3 => ?_)
  obtain ⟨a3, ma3, rfl⟩ := ta3
  refine u_get hC hw0 (pc := 4) zf7 5 (hE.o7 ma3) rfl dX10_comment_4 zw124 (kk := fun vx4 tx4 fx4 => ?_)
  obtain ⟨x4, rfl⟩ := tx4
  refine z_iconst hC (pc := 7) (v := 1) dX10_comment_7 (by decide) ?_
  refine z_iadd hC (pc := 8) (v := (x4 + 1)) dX10_comment_8 rfl ?_
  refine z_istore_n hC (pc := 9) (lv' := [(1, .int (x4 + 1)), (0, .ref a0)]) dX10_comment_9 rfl (by decide) rfl ?_
  have j10 : ∀ (d10 : Nat), ∀ (w5 : va_W), tW T w5 → tKeep 0x0 w0 w5 → ∀ (x6 : Int32), (2 ^ 31 - (x6 : Int32).toInt).toNat ≤ d10 → zS X G 2 w5 [(0, .ref a0), (1, .int x6)] 0 0 10 [] := by
    intro d10
    induction d10 with
    | zero => intro w5 hw5 kw5 x6 hd10; exact (t_zero hd10).elim
    | succ d10 ih10 =>
      intro w5 hw5 kw5 x6 hd10
      refine z_iload_n hC (pc := 10) 1 dX10_comment_10 rfl rfl ?_
      refine z_aload_n hC (pc := 11) 0 dX10_comment_11 rfl rfl ?_
      refine u_getK hC (pc := 12) zf10 0 (tKeep.F kw5 fa3 rfl) dX10_comment_12 zw330 (kk := ?_)
      refine u_get hC hw5 (pc := 15) zf7 4 (hE.o7 ma3) rfl dX10_comment_15 zw121 (kk := fun vx7 tx7 fx7 => ?_)
      obtain ⟨x7, rfl⟩ := tx7
      have j57 : ∀ (w8 : va_W), tW T w8 → tKeep 0x0 w5 w8 → zS X G 2 w8 [(0, .ref a0), (1, .int x6)] 0 0 57 [] := by
        intro w8 hw8 kw8
        refine z_iload_n hC (pc := 57) 1 dX10_comment_57 rfl rfl ?_
        refine z_aload_n hC (pc := 58) 0 dX10_comment_58 rfl rfl ?_
        refine u_getK hC (pc := 59) zf10 0 (tKeep.F kw8 (tKeep.F kw5 fa3 rfl) rfl) dX10_comment_59 zw330 (kk := ?_)
        refine u_getK hC (pc := 62) zf7 4 (tKeep.F kw8 fx7 rfl) dX10_comment_62 zw121 (kk := ?_)
        have j90 : ∀ (w9 : va_W), tW T w9 → tKeep 0x1800000000000000000000000000000000000000000000000000000000000000000000000000000000000000000000000000000000000000000 w8 w9 → zS X G 2 w9 [(0, .ref a0), (1, .int x6)] 0 0 90 [] := by
          intro w9 hw9 kw9
          refine z_aload_n hC (pc := 90) 0 dX10_comment_90 rfl rfl ?_
          refine u_getK hC (pc := 91) zf10 0 (tKeep.F kw9 (tKeep.F kw8 (tKeep.F kw5 fa3 rfl) rfl) rfl) dX10_comment_91 zw330 (kk := ?_)
          refine z_iload_n hC (pc := 94) 1 dX10_comment_94 rfl rfl ?_
          refine z_iconst hC (pc := 95) (v := 2) dX10_comment_95 (by decide) ?_
          refine z_iadd hC (pc := 96) (v := (x6 + 2)) dX10_comment_96 rfl ?_
          refine u_put hC hw9 (pc := 97) zf7 5 (hE.o7 ma3) rfl ⟨_, rfl⟩ dX10_comment_97 zw124 rfl rfl rfl (kk := fun w10 hw10 fw10 kw10 => ?_)
          exact hR _ _ _ _ _ dX10_comment_100 (Nat.le_of_ble_eq_true rfl) (Nat.le_of_ble_eq_true rfl) ⟨hw10, rfl, rfl, (tKeep.tr (tKeep.tr (tKeep.tr (tKeep.tr tKeep.rf kw5 rfl) kw8 rfl) kw9 rfl) kw10 rfl)⟩
        refine z_icmp_lt hC (pc := 65) 90 dX10_comment_65 (by decide) (fun c11 => ?_) (fun c11 => ?_)
        · exact j90 w8 hw8 tKeep.rf
        · refine z_aload_n hC (pc := 68) 0 dX10_comment_68 rfl rfl ?_
          refine u_getK hC (pc := 69) zf10 0 (tKeep.F kw8 (tKeep.F kw5 fa3 rfl) rfl) dX10_comment_69 zw330 (kk := ?_)
          refine z_iconst hC (pc := 72) (v := 1) dX10_comment_72 (by decide) ?_
          refine z_aload_n hC (pc := 73) 0 dX10_comment_73 rfl rfl ?_
          refine u_getK hC (pc := 74) zf10 0 (tKeep.F kw8 (tKeep.F kw5 fa3 rfl) rfl) dX10_comment_74 zw330 (kk := ?_)
          refine z_aload_n hC (pc := 77) 0 dX10_comment_77 rfl rfl ?_
          refine u_getK hC (pc := 78) zf10 0 (tKeep.F kw8 (tKeep.F kw5 fa3 rfl) rfl) dX10_comment_78 zw330 (kk := ?_)
          refine u_getK hC (pc := 81) zf7 4 (tKeep.F kw8 fx7 rfl) dX10_comment_81 zw121 (kk := ?_)
          obtain ⟨q12, hqq12⟩ := hE.o7 ma3
          refine t_callVi hC hw8 (pc := 84) (As := [.int x7]) (kX7_placeOf l G T κ hst hE ma3) trivial dmX7_placeOf zf7 hqq12 dX10_comment_84 zw1420 rfl rfl (Nat.le_of_ble_eq_true rfl) (Nat.le_of_ble_eq_true rfl) (Nat.le_of_ble_eq_true rfl) (Nat.le_of_ble_eq_true rfl) (Nat.le_of_ble_eq_true rfl) (fun _ _ _ h => nomatch h) (fun x14 cw13 nw13 w13 hw13 pw13 => ?_)
          obtain ⟨rfl, rfl, kw13⟩ := pw13
          refine t_callVv hC hw13 (pc := 87) (As := [.int 1, .int x14]) (kX7_fail l G T κ hst hE ma3) trivial dmX7_fail zf7 hqq12 dX10_comment_87 zw1369 rfl rfl (Nat.le_of_ble_eq_true rfl) (Nat.le_of_ble_eq_true rfl) (Nat.le_of_ble_eq_true rfl) (Nat.le_of_ble_eq_true rfl) (Nat.le_of_ble_eq_true rfl) (fun E w q hE hw => hO E w _ _ _ _ _ q hE (Nat.le_of_ble_eq_true rfl) (Nat.le_of_ble_eq_true rfl) hw) (fun cw15 nw15 w15 hw15 pw15 => ?_)
          obtain ⟨rfl, rfl, kw15⟩ := pw15
          exact j90 w15 hw15 (tKeep.tr (tKeep.tr tKeep.rf kw13 rfl) kw15 rfl)
      refine z_icmp_ge hC (pc := 18) 57 dX10_comment_18 (by decide) (fun c17 => ?_) (fun c17 => ?_)
      · exact j57 w5 hw5 tKeep.rf
      · refine z_aload_n hC (pc := 21) 0 dX10_comment_21 rfl rfl ?_
        refine u_getK hC (pc := 22) zf10 0 (tKeep.F kw5 fa3 rfl) dX10_comment_22 zw330 (kk := ?_)
        refine z_iload_n hC (pc := 25) 1 dX10_comment_25 rfl rfl ?_
        obtain ⟨q18, hqq18⟩ := hE.o7 ma3
        refine t_callVi hC hw5 (pc := 26) (As := [.int x6]) (kX7_at l G T κ hst hE ma3) trivial dmX7_at zf7 hqq18 dX10_comment_26 zw1379 rfl rfl (Nat.le_of_ble_eq_true rfl) (Nat.le_of_ble_eq_true rfl) (Nat.le_of_ble_eq_true rfl) (Nat.le_of_ble_eq_true rfl) (Nat.le_of_ble_eq_true rfl) (fun _ _ _ h => nomatch h) (fun x20 cw19 nw19 w19 hw19 pw19 => ?_)
        obtain ⟨rfl, rfl, kw19⟩ := pw19
        refine z_bipush hC (pc := 29) (v := 33) dX10_comment_29 (by decide) ?_
        have j51 : ∀ (w21 : va_W), tW T w21 → tKeep 0x0 w19 w21 → zS X G 2 w21 [(0, .ref a0), (1, .int x6)] 0 0 51 [] := by
          intro w21 hw21 kw21
          refine z_iinc hC (pc := 51) (v := (x6 + 1)) (lv' := [(1, .int (x6 + 1)), (0, .ref a0)]) 1 dX10_comment_51 rfl (congrArg _ (by decide)) (by decide) rfl ?_
          refine z_goto hC (pc := 54) 10 dX10_comment_54 (by decide) ?_
          refine z_lvs [1, 0] rfl ?_
          exact ih10 w21 hw21 (tKeep.tr (tKeep.tr (tKeep.tr tKeep.rf kw5 rfl) kw19 rfl) kw21 rfl) (x6 + 1) (t_up (Int32.not_le.mp c17) hd10)
        refine z_icmp_ne hC (pc := 31) 51 dX10_comment_31 (by decide) (fun c22 => ?_) (fun c22 => ?_)
        · exact j51 w19 hw19 tKeep.rf
        · refine z_aload_n hC (pc := 34) 0 dX10_comment_34 rfl rfl ?_
          refine u_getK hC (pc := 35) zf10 0 (tKeep.F kw19 (tKeep.F kw5 fa3 rfl) rfl) dX10_comment_35 zw330 (kk := ?_)
          refine z_iload_n hC (pc := 38) 1 dX10_comment_38 rfl rfl ?_
          refine z_iconst hC (pc := 39) (v := 1) dX10_comment_39 (by decide) ?_
          refine z_iadd hC (pc := 40) (v := (x6 + 1)) dX10_comment_40 rfl ?_
          refine t_callVi hC hw19 (pc := 41) (As := [.int (x6 + 1)]) (kX7_at l G T κ hst hE ma3) trivial dmX7_at zf7 hqq18 dX10_comment_41 zw1379 rfl rfl (Nat.le_of_ble_eq_true rfl) (Nat.le_of_ble_eq_true rfl) (Nat.le_of_ble_eq_true rfl) (Nat.le_of_ble_eq_true rfl) (Nat.le_of_ble_eq_true rfl) (fun _ _ _ h => nomatch h) (fun x24 cw23 nw23 w23 hw23 pw23 => ?_)
          obtain ⟨rfl, rfl, kw23⟩ := pw23
          refine z_aload_n hC (pc := 44) 0 dX10_comment_44 rfl rfl ?_
          refine u_get hC hw23 (pc := 45) zf10 3 (hE.o10 h0) rfl dX10_comment_45 zw334 (kk := fun vx25 tx25 fx25 => ?_)
          obtain ⟨x25, rfl⟩ := tx25
          refine z_icmp_eq hC (pc := 48) 57 dX10_comment_48 (by decide) (fun c26 => ?_) (fun c26 => ?_)
          · exact j57 w23 hw23 (tKeep.tr (tKeep.tr tKeep.rf kw19 rfl) kw23 rfl)
          · exact j51 w23 hw23 (tKeep.tr tKeep.rf kw23 rfl)
  refine z_lvs [1, 0] rfl ?_
  exact j10 _ w0 hw0 tKeep.rf (x4 + 1) (Nat.le_refl _)
set_option maxRecDepth 20000 in
theorem kX10_restOfLine (l : Launch) (G : zG) (T : tT) (κ : Nat → List Nat) (hst : l.stackTraces = false) (hE : tE G T κ) {a0 : Nat} (h0 : a0 ∈ κ 10) {x1 : Int32} {x2 : Int32} : tMv l G T yX10_restOfLine cX10_restOfLine 6 [] 1 22 0 0 [.ref a0, .int x1, .int x2] uT (uPv 0x8000000000000000000000000000000000000000000000000200000000000000000000000000000000000000000000000000000000000000000000000000000000000000000000000000000000000000000) := by
  refine tMv.intro hst rfl (Nat.le_of_ble_eq_true rfl) ?_
  intro w0 hw0 _ X hC hR hO hX
  refine z_aload_n hC (pc := 0) 0 dX10_restOfLine_0 rfl rfl ?_
  refine u_get hC hw0 (pc := 1) zf10 0 (hE.o10 h0) rfl dX10_restOfLine_1 zw330 (kk := fun va5 ta5 fa5 => ?_)
  obtain ⟨a5, ma5, rfl⟩ := ta5
  refine u_get hC hw0 (pc := 4) zf7 5 (hE.o7 ma5) rfl dX10_restOfLine_4 zw124 (kk := fun vx6 tx6 fx6 => ?_)
  obtain ⟨x6, rfl⟩ := tx6
  refine z_istore_n hC (pc := 7) (lv' := [(3, .int x6), (0, .ref a0), (1, .int x1), (2, .int x2)]) dX10_restOfLine_7 rfl (by decide) rfl ?_
  have j8 : ∀ (d8 : Nat), ∀ (w7 : va_W), tW T w7 → tKeep 0x0 w0 w7 → ∀ (x8 : Int32), (2 ^ 31 - (x8 : Int32).toInt).toNat ≤ d8 → zS X G 6 w7 [(0, .ref a0), (1, .int x1), (2, .int x2), (3, .int x8)] 0 0 8 [] := by
    intro d8
    induction d8 with
    | zero => intro w7 hw7 kw7 x8 hd8; exact (t_zero hd8).elim
    | succ d8 ih8 =>
      intro w7 hw7 kw7 x8 hd8
      refine z_iload_n hC (pc := 8) 3 dX10_restOfLine_8 rfl rfl ?_
      refine z_aload_n hC (pc := 9) 0 dX10_restOfLine_9 rfl rfl ?_
      refine u_getK hC (pc := 10) zf10 0 (tKeep.F kw7 fa5 rfl) dX10_restOfLine_10 zw330 (kk := ?_)
      refine u_get hC hw7 (pc := 13) zf7 4 (hE.o7 ma5) rfl dX10_restOfLine_13 zw121 (kk := fun vx9 tx9 fx9 => ?_)
      obtain ⟨x9, rfl⟩ := tx9
      have j51 : ∀ (w10 : va_W), tW T w10 → tKeep 0x0 w7 w10 → zS X G 6 w10 [(0, .ref a0), (1, .int x1), (2, .int x2), (3, .int x8)] 0 0 51 [] := by
        intro w10 hw10 kw10
        refine z_aload_n hC (pc := 51) 0 dX10_restOfLine_51 rfl rfl ?_
        refine u_getK hC (pc := 52) zf10 0 (tKeep.F kw10 (tKeep.F kw7 fa5 rfl) rfl) dX10_restOfLine_52 zw330 (kk := ?_)
        refine z_iload_n hC (pc := 55) 3 dX10_restOfLine_55 rfl rfl ?_
        obtain ⟨q11, hqq11⟩ := hE.o7 ma5
        refine t_callVi hC hw10 (pc := 56) (As := [.int x8]) (kX7_at l G T κ hst hE ma5) trivial dmX7_at zf7 hqq11 dX10_restOfLine_56 zw1379 rfl rfl (Nat.le_of_ble_eq_true rfl) (Nat.le_of_ble_eq_true rfl) (Nat.le_of_ble_eq_true rfl) (Nat.le_of_ble_eq_true rfl) (Nat.le_of_ble_eq_true rfl) (fun _ _ _ h => nomatch h) (fun x13 cw12 nw12 w12 hw12 pw12 => ?_)
        obtain ⟨rfl, rfl, kw12⟩ := pw12
        refine z_bipush hC (pc := 59) (v := 10) dX10_restOfLine_59 (by decide) ?_
        have j69 : ∀ (x14 : Int32), tZ (.int x14) → zS X G 6 w12 [(0, .ref a0), (1, .int x1), (2, .int x2), (3, .int x8)] 0 0 69 [.int x14] := by
          intro x14 zx14
          refine z_istore hC (pc := 69) (lv' := [(4, .int x14), (0, .ref a0), (1, .int x1), (2, .int x2), (3, .int x8)]) dX10_restOfLine_69 (by decide) rfl ?_
          refine z_iload_n hC (pc := 71) 4 dX10_restOfLine_71 rfl rfl ?_
          refine z_aload_n hC (pc := 72) 1 dX10_restOfLine_72 rfl rfl ?_
          refine u_getK hC (pc := 73) zf10 0 (tKeep.F kw12 (tKeep.F kw10 (tKeep.F kw7 fa5 rfl) rfl) rfl) dX10_restOfLine_73 zw330 (kk := ?_)
          refine u_getK hC (pc := 76) zf7 4 (tKeep.F kw12 (tKeep.F kw10 fx9 rfl) rfl) dX10_restOfLine_76 zw121 (kk := ?_)
          have j107 : ∀ (w15 : va_W), tW T w15 → tKeep 0x0 w12 w15 → ∀ (x16 : Int32), tZ (.int x16) → zS X G 6 w15 [(0, .ref a0), (1, .int x1), (2, .int x2), (3, .int x8), (4, .int x14)] 0 0 107 [.int x16] := by
            intro w15 hw15 kw15 x16 zx16
            refine z_istore hC (pc := 107) (lv' := [(5, .int x16), (0, .ref a0), (1, .int x1), (2, .int x2), (3, .int x8), (4, .int x14)]) dX10_restOfLine_107 (by decide) rfl ?_
            refine z_aload_n hC (pc := 109) 1 dX10_restOfLine_109 rfl rfl ?_
            refine z_iload_n hC (pc := 110) 2 dX10_restOfLine_110 rfl rfl ?_
            have j124 : ∀ (x17 : Int32), tZ (.int x17) → zS X G 6 w15 [(0, .ref a0), (1, .int x1), (2, .int x2), (3, .int x8), (4, .int x14), (5, .int x16)] 0 0 124 [.int x17, .ref a0] := by
              intro x17 zx17
              refine u_put hC hw15 (pc := 124) zf10 11 (hE.o10 h0) rfl zx17 dX10_restOfLine_124 zw343 rfl (t_nZ zx17) (t_fZ zx17) (kk := fun w18 hw18 fw18 kw18 => ?_)
              refine z_iload_n hC (pc := 127) 1 dX10_restOfLine_127 rfl rfl ?_
              have j177 : ∀ (w19 : va_W), tW T w19 → tKeep 0x200000000000000000000000000000000000000000000000000000000000000000000000000000000000000000000000000000000000000000 w18 w19 → zS X G 6 w19 [] 0 0 177 [] := by
                intro w19 hw19 kw19
                exact hR _ _ _ _ _ dX10_restOfLine_177 (Nat.le_of_ble_eq_true rfl) (Nat.le_of_ble_eq_true rfl) ⟨hw19, rfl, rfl, (tKeep.tr (tKeep.tr (tKeep.tr (tKeep.tr (tKeep.tr (tKeep.tr tKeep.rf kw7 rfl) kw10 rfl) kw12 rfl) kw15 rfl) kw18 rfl) kw19 rfl)⟩
              refine z_if_eq hC (pc := 128) 177 dX10_restOfLine_128 (by decide) (fun c20 => ?_) (fun c20 => ?_)
              · refine z_lvs [] rfl ?_
                exact j177 w18 hw18 tKeep.rf
              · refine z_iload hC (pc := 131) 4 dX10_restOfLine_131 rfl ?_
                have j141 : zS X G 6 w18 [(0, .ref a0), (2, .int x2), (3, .int x8), (4, .int x14)] 0 0 141 [] := by
                  refine z_iload_n hC (pc := 141) 1 dX10_restOfLine_141 rfl rfl ?_
                  refine z_iconst hC (pc := 142) (v := (-1)) dX10_restOfLine_142 (by decide) ?_
                  have j158 : ∀ (w21 : va_W), tW T w21 → tKeep 0x0 w18 w21 → zS X G 6 w21 [(0, .ref a0), (3, .int x8), (4, .int x14)] 0 0 158 [] := by
                    intro w21 hw21 kw21
                    refine z_aload_n hC (pc := 158) 0 dX10_restOfLine_158 rfl rfl ?_
                    refine u_getK hC (pc := 159) zf10 0 (tKeep.F kw21 (tKeep.F kw18 (tKeep.F kw15 (tKeep.F kw12 (tKeep.F kw10 (tKeep.F kw7 fa5 rfl) rfl) rfl) rfl) rfl) rfl) dX10_restOfLine_159 zw330 (kk := ?_)
                    refine z_iload hC (pc := 162) 2 dX10_restOfLine_162 rfl ?_
                    have j174 : ∀ (x22 : Int32), zS X G 6 w21 [] 0 0 174 [.int x22, .ref a5] := by
                      intro x22
                      refine u_put hC hw21 (pc := 174) zf7 5 (hE.o7 ma5) rfl ⟨_, rfl⟩ dX10_restOfLine_174 zw124 rfl rfl rfl (kk := fun w23 hw23 fw23 kw23 => ?_)
                      exact j177 w23 hw23 (tKeep.tr (tKeep.tr tKeep.rf kw21 rfl) kw23 rfl)
                    refine z_if_eq hC (pc := 164) 173 dX10_restOfLine_164 (by decide) (fun c24 => ?_) (fun c24 => ?_)
                    · refine z_iload_n hC (pc := 173) 1 dX10_restOfLine_173 rfl rfl ?_
                      refine z_lvs [] rfl ?_
                      exact j174 x8
                    · refine z_iload_n hC (pc := 167) 1 dX10_restOfLine_167 rfl rfl ?_
                      refine z_iconst hC (pc := 168) (v := 1) dX10_restOfLine_168 (by decide) ?_
                      refine z_iadd hC (pc := 169) (v := (x8 + 1)) dX10_restOfLine_169 rfl ?_
                      refine z_goto hC (pc := 170) 174 dX10_restOfLine_170 (by decide) ?_
                      refine z_lvs [] rfl ?_
                      exact j174 (x8 + 1)
                  refine z_icmp_eq hC (pc := 143) 158 dX10_restOfLine_143 (by decide) (fun c25 => ?_) (fun c25 => ?_)
                  · refine z_lvs [0, 2, 3] rfl ?_
                    exact j158 w18 hw18 tKeep.rf
                  · refine z_aload_n hC (pc := 146) 0 dX10_restOfLine_146 rfl rfl ?_
                    refine u_get hC hw18 (pc := 147) zf10 1 (hE.o10 h0) rfl dX10_restOfLine_147 zw331 (kk := fun va26 ta26 fa26 => ?_)
                    obtain ⟨a26, ma26, rfl⟩ := ta26
                    refine u_get hC hw18 (pc := 150) zf2 2 (hE.o2 ma26) rfl dX10_restOfLine_150 zw242 (kk := fun va27 ta27 fa27 => ?_)
                    obtain ⟨a27, ma27, rfl⟩ := ta27
                    refine z_iload_n hC (pc := 153) 1 dX10_restOfLine_153 rfl rfl ?_
                    refine z_iconst hC (pc := 154) (v := 0) dX10_restOfLine_154 (by decide) ?_
                    refine t_callSNv hC hw18 (pc := 155) (As := [.ref a27, .int x2, .int 0]) (kX12_set l G T κ hst hE ma27) trivial dmX12_set dX10_restOfLine_155 zw1398 rfl rfl (Nat.le_of_ble_eq_true rfl) (Nat.le_of_ble_eq_true rfl) (Nat.le_of_ble_eq_true rfl) (Nat.le_of_ble_eq_true rfl) (Nat.le_of_ble_eq_true rfl) (fun _ _ _ h => nomatch h) (fun cw28 nw28 w28 hw28 pw28 => ?_)
                    obtain ⟨rfl, rfl, kw28⟩ := pw28
                    refine z_lvs [0, 2, 3] rfl ?_
                    exact j158 w28 hw28 (tKeep.tr tKeep.rf kw28 rfl)
                refine z_if_ne hC (pc := 133) 141 dX10_restOfLine_133 (by decide) (fun c30 => ?_) (fun c30 => ?_)
                · refine z_lvs [0, 2, 3, 4] rfl ?_
                  exact j141
                · refine z_iload hC (pc := 136) 5 dX10_restOfLine_136 rfl ?_
                  refine z_if_eq hC (pc := 138) 177 dX10_restOfLine_138 (by decide) (fun c31 => ?_) (fun c31 => ?_)
                  · refine z_lvs [] rfl ?_
                    exact j177 w18 hw18 tKeep.rf
                  · refine z_lvs [0, 2, 3, 4] rfl ?_
                    exact j141
            have j123 : zS X G 6 w15 [(0, .ref a0), (1, .int x1), (2, .int x2), (3, .int x8), (4, .int x14), (5, .int x16)] 0 0 123 [.ref a0] := by
              refine z_iconst hC (pc := 123) (v := 0) dX10_restOfLine_123 (by decide) ?_
              exact j124 0 (Or.inl rfl)
            refine z_if_eq hC (pc := 111) 123 dX10_restOfLine_111 (by decide) (fun c32 => ?_) (fun c32 => ?_)
            · refine z_lvs [1, 2, 3, 4, 5, 0] rfl ?_
              exact j123
            · refine z_iload hC (pc := 114) 5 dX10_restOfLine_114 rfl ?_
              refine z_if_eq hC (pc := 116) 123 dX10_restOfLine_116 (by decide) (fun c33 => ?_) (fun c33 => ?_)
              · refine z_lvs [1, 2, 3, 4, 5, 0] rfl ?_
                exact j123
              · refine z_iconst hC (pc := 119) (v := 1) dX10_restOfLine_119 (by decide) ?_
                refine z_goto hC (pc := 120) 124 dX10_restOfLine_120 (by decide) ?_
                refine z_lvs [1, 2, 3, 4, 5, 0] rfl ?_
                exact j124 1 (Or.inr rfl)
          have j102 : ∀ (w34 : va_W), tW T w34 → tKeep 0x0 w12 w34 → zS X G 6 w34 [(0, .ref a0), (1, .int x1), (2, .int x2), (3, .int x8), (4, .int x14)] 0 0 102 [] := by
            intro w34 hw34 kw34
            refine z_iconst hC (pc := 102) (v := 1) dX10_restOfLine_102 (by decide) ?_
            refine z_goto hC (pc := 103) 107 dX10_restOfLine_103 (by decide) ?_
            exact j107 w34 hw34 (tKeep.tr tKeep.rf kw34 rfl) 1 (Or.inr rfl)
          refine z_icmp_ge hC (pc := 79) 102 dX10_restOfLine_79 (by decide) (fun c35 => ?_) (fun c35 => ?_)
          · refine z_lvs [1, 2, 3, 4, 0] rfl ?_
            exact j102 w12 hw12 tKeep.rf
          · refine z_aload_n hC (pc := 82) 1 dX10_restOfLine_82 rfl rfl ?_
            refine u_get hC hw12 (pc := 83) zf10 8 (hE.o10 h0) rfl dX10_restOfLine_83 zw340 (kk := fun vx36 tx36 fx36 => ?_)
            obtain ⟨x36, rfl, zx36⟩ := t_zof tx36
            have j106 : ∀ (w37 : va_W), tW T w37 → tKeep 0x0 w12 w37 → zS X G 6 w37 [(0, .ref a0), (1, .int x1), (2, .int x2), (3, .int x8), (4, .int x14)] 0 0 106 [] := by
              intro w37 hw37 kw37
              refine z_iconst hC (pc := 106) (v := 0) dX10_restOfLine_106 (by decide) ?_
              exact j107 w37 hw37 (tKeep.tr tKeep.rf kw37 rfl) 0 (Or.inl rfl)
            refine z_if_eq hC (pc := 86) 106 dX10_restOfLine_86 (by decide) (fun c38 => ?_) (fun c38 => ?_)
            · refine z_lvs [1, 2, 3, 4, 0] rfl ?_
              exact j106 w12 hw12 tKeep.rf
            · refine z_aload_n hC (pc := 89) 1 dX10_restOfLine_89 rfl rfl ?_
              refine u_getK hC (pc := 90) zf10 0 (tKeep.F kw12 (tKeep.F kw10 (tKeep.F kw7 fa5 rfl) rfl) rfl) dX10_restOfLine_90 zw330 (kk := ?_)
              refine z_iload_n hC (pc := 93) 4 dX10_restOfLine_93 rfl rfl ?_
              refine t_callVi hC hw12 (pc := 94) (As := [.int x8]) (kX7_at l G T κ hst hE ma5) trivial dmX7_at zf7 hqq11 dX10_restOfLine_94 zw1379 rfl rfl (Nat.le_of_ble_eq_true rfl) (Nat.le_of_ble_eq_true rfl) (Nat.le_of_ble_eq_true rfl) (Nat.le_of_ble_eq_true rfl) (Nat.le_of_ble_eq_true rfl) (fun _ _ _ h => nomatch h) (fun x40 cw39 nw39 w39 hw39 pw39 => ?_)
              obtain ⟨rfl, rfl, kw39⟩ := pw39
              refine z_bipush hC (pc := 97) (v := 125) dX10_restOfLine_97 (by decide) ?_
              refine z_icmp_ne hC (pc := 99) 106 dX10_restOfLine_99 (by decide) (fun c41 => ?_) (fun c41 => ?_)
              · refine z_lvs [1, 2, 3, 4, 0] rfl ?_
                exact j106 w39 hw39 (tKeep.tr tKeep.rf kw39 rfl)
              · refine z_lvs [1, 2, 3, 4, 0] rfl ?_
                exact j102 w39 hw39 (tKeep.tr tKeep.rf kw39 rfl)
        refine z_icmp_ne hC (pc := 61) 68 dX10_restOfLine_61 (by decide) (fun c42 => ?_) (fun c42 => ?_)
        · refine z_iconst hC (pc := 68) (v := 0) dX10_restOfLine_68 (by decide) ?_
          exact j69 0 (Or.inl rfl)
        · refine z_iconst hC (pc := 64) (v := 1) dX10_restOfLine_64 (by decide) ?_
          refine z_goto hC (pc := 65) 69 dX10_restOfLine_65 (by decide) ?_
          exact j69 1 (Or.inr rfl)
      refine z_icmp_ge hC (pc := 16) 51 dX10_restOfLine_16 (by decide) (fun c43 => ?_) (fun c43 => ?_)
      · exact j51 w7 hw7 tKeep.rf
      · refine z_aload_n hC (pc := 19) 0 dX10_restOfLine_19 rfl rfl ?_
        refine u_getK hC (pc := 20) zf10 0 (tKeep.F kw7 fa5 rfl) dX10_restOfLine_20 zw330 (kk := ?_)
        refine z_iload_n hC (pc := 23) 3 dX10_restOfLine_23 rfl rfl ?_
        obtain ⟨q44, hqq44⟩ := hE.o7 ma5
        refine t_callVi hC hw7 (pc := 24) (As := [.int x8]) (kX7_at l G T κ hst hE ma5) trivial dmX7_at zf7 hqq44 dX10_restOfLine_24 zw1379 rfl rfl (Nat.le_of_ble_eq_true rfl) (Nat.le_of_ble_eq_true rfl) (Nat.le_of_ble_eq_true rfl) (Nat.le_of_ble_eq_true rfl) (Nat.le_of_ble_eq_true rfl) (fun _ _ _ h => nomatch h) (fun x46 cw45 nw45 w45 hw45 pw45 => ?_)
        obtain ⟨rfl, rfl, kw45⟩ := pw45
        refine z_bipush hC (pc := 27) (v := 32) dX10_restOfLine_27 (by decide) ?_
        have j45 : ∀ (w47 : va_W), tW T w47 → tKeep 0x0 w45 w47 → zS X G 6 w47 [(0, .ref a0), (1, .int x1), (2, .int x2), (3, .int x8)] 0 0 45 [] := by
          intro w47 hw47 kw47
          refine z_iinc hC (pc := 45) (v := (x8 + 1)) (lv' := [(3, .int (x8 + 1)), (0, .ref a0), (1, .int x1), (2, .int x2)]) 3 dX10_restOfLine_45 rfl (congrArg _ (by decide)) (by decide) rfl ?_
          refine z_goto hC (pc := 48) 8 dX10_restOfLine_48 (by decide) ?_
          refine z_lvs [1, 2, 3, 0] rfl ?_
          exact ih8 w47 hw47 (tKeep.tr (tKeep.tr (tKeep.tr tKeep.rf kw7 rfl) kw45 rfl) kw47 rfl) (x8 + 1) (t_up (Int32.not_le.mp c43) hd8)
        refine z_icmp_eq hC (pc := 29) 45 dX10_restOfLine_29 (by decide) (fun c48 => ?_) (fun c48 => ?_)
        · exact j45 w45 hw45 tKeep.rf
        · refine z_aload_n hC (pc := 32) 0 dX10_restOfLine_32 rfl rfl ?_
          refine u_getK hC (pc := 33) zf10 0 (tKeep.F kw45 (tKeep.F kw7 fa5 rfl) rfl) dX10_restOfLine_33 zw330 (kk := ?_)
          refine z_iload_n hC (pc := 36) 3 dX10_restOfLine_36 rfl rfl ?_
          refine t_callVi hC hw45 (pc := 37) (As := [.int x8]) (kX7_at l G T κ hst hE ma5) trivial dmX7_at zf7 hqq44 dX10_restOfLine_37 zw1379 rfl rfl (Nat.le_of_ble_eq_true rfl) (Nat.le_of_ble_eq_true rfl) (Nat.le_of_ble_eq_true rfl) (Nat.le_of_ble_eq_true rfl) (Nat.le_of_ble_eq_true rfl) (fun _ _ _ h => nomatch h) (fun x50 cw49 nw49 w49 hw49 pw49 => ?_)
          obtain ⟨rfl, rfl, kw49⟩ := pw49
          refine z_bipush hC (pc := 40) (v := 9) dX10_restOfLine_40 (by decide) ?_
          refine z_icmp_ne hC (pc := 42) 51 dX10_restOfLine_42 (by decide) (fun c51 => ?_) (fun c51 => ?_)
          · exact j51 w49 hw49 (tKeep.tr (tKeep.tr tKeep.rf kw45 rfl) kw49 rfl)
          · exact j45 w49 hw49 (tKeep.tr tKeep.rf kw49 rfl)
  refine z_lvs [1, 2, 3, 0] rfl ?_
  exact j8 _ w0 hw0 tKeep.rf x6 (Nat.le_refl _)
set_option maxRecDepth 20000 in
theorem kX10_joinLines (l : Launch) (G : zG) (T : tT) (κ : Nat → List Nat) (hst : l.stackTraces = false) (hE : tE G T κ) {a0 : Nat} (h0 : a0 ∈ κ 10) : tMv l G T yX10_joinLines cX10_joinLines 1 ["java/lang/IllegalStateException"] 7 103 1 6 [.ref a0] uT (uPv 0x1a00000000000000000000000000000000000000000000000000000000000000000000000000000000000000000000000000000000000000000) := by
  refine tMv.intro hst rfl (Nat.le_of_ble_eq_true rfl) ?_
  intro w0 hw0 _ X hC hR hO hX
  refine z_aload_n hC (pc := 0) 0 dX10_joinLines_0 rfl rfl ?_
  refine u_get hC hw0 (pc := 1) zf10 0 (hE.o10 h0) rfl dX10_joinLines_1 zw330 (kk := fun va3 ta3 fa3 => ?_)
  obtain ⟨a3, ma3, rfl⟩ := ta3
  refine z_dup hC (pc := 4) dX10_joinLines_4 rfl ?_
  refine u_get hC hw0 (pc := 5) zf7 5 (hE.o7 ma3) rfl dX10_joinLines_5 zw124 (kk := fun vx4 tx4 fx4 => ?_)
  obtain ⟨x4, rfl⟩ := tx4
  refine z_iconst hC (pc := 8) (v := 2) dX10_joinLines_8 (by decide) ?_
  refine z_iadd hC (pc := 9) (v := (x4 + 2)) dX10_joinLines_9 rfl ?_
  refine u_put hC hw0 (pc := 10) zf7 5 (hE.o7 ma3) rfl ⟨_, rfl⟩ dX10_joinLines_10 zw124 rfl rfl rfl (kk := fun w5 hw5 fw5 kw5 => ?_)
  refine z_aload_n hC (pc := 13) 0 dX10_joinLines_13 rfl rfl ?_
  refine u_getK hC (pc := 14) zf10 0 (tKeep.F kw5 fa3 rfl) dX10_joinLines_14 zw330 (kk := ?_)
  obtain ⟨q6, hqq6⟩ := hE.o7 ma3
  refine t_callVi hC hw5 (pc := 17) (As := []) (kX7_peek l G T κ hst hE ma3) trivial dmX7_peek zf7 hqq6 dX10_joinLines_17 zw1399 rfl rfl (Nat.le_of_ble_eq_true rfl) (Nat.le_of_ble_eq_true rfl) (Nat.le_of_ble_eq_true rfl) (Nat.le_of_ble_eq_true rfl) (Nat.le_of_ble_eq_true rfl) (fun _ _ _ h => nomatch h) (fun x8 cw7 nw7 w7 hw7 pw7 => ?_)
  obtain ⟨rfl, rfl, kw7⟩ := pw7
  refine z_aload_n hC (pc := 20) 0 dX10_joinLines_20 rfl rfl ?_
  refine u_get hC hw7 (pc := 21) zf10 3 (hE.o10 h0) rfl dX10_joinLines_21 zw334 (kk := fun vx9 tx9 fx9 => ?_)
  obtain ⟨x9, rfl⟩ := tx9
  have j42 : ∀ (w10 : va_W), tW T w10 → tKeep 0x1800000000000000000000000000000000000000000000000000000000000000000000000000000000000000000000000000000000000000000 w7 w10 → zS X G 1 w10 [(0, .ref a0)] 0 0 42 [] := by
    intro w10 hw10 kw10
    refine z_aload_n hC (pc := 42) 0 dX10_joinLines_42 rfl rfl ?_
    refine u_getK hC (pc := 43) zf10 0 (tKeep.F kw10 (tKeep.F kw7 (tKeep.F kw5 fa3 rfl) rfl) rfl) dX10_joinLines_43 zw330 (kk := ?_)
    refine z_dup hC (pc := 46) dX10_joinLines_46 rfl ?_
    refine u_getK hC (pc := 47) zf7 5 (tKeep.F kw10 (tKeep.F kw7 fw5 rfl) rfl) dX10_joinLines_47 zw124 (kk := ?_)
    refine z_iconst hC (pc := 50) (v := 1) dX10_joinLines_50 (by decide) ?_
    refine z_iadd hC (pc := 51) (v := ((x4 + 2) + 1)) dX10_joinLines_51 rfl ?_
    refine u_put hC hw10 (pc := 52) zf7 5 (hE.o7 ma3) rfl ⟨_, rfl⟩ dX10_joinLines_52 zw124 rfl rfl rfl (kk := fun w11 hw11 fw11 kw11 => ?_)
    have j55 : ∀ (d55 : Nat), ∀ (w12 : va_W), tW T w12 → tKeep 0x200000000000000000000000000000000000000000000000000000000000000000000000000000000000000000000000000000000000000000 w11 w12 → ∀ (x13 : Int32), tF 7 w12 a3 5 (.int x13) → (2 ^ 31 - (x13 : Int32).toInt).toNat ≤ d55 → zS X G 1 w12 [(0, .ref a0)] 0 0 55 [] := by
      intro d55
      induction d55 with
      | zero => intro w12 hw12 kw12 x13 fx13 hd55; exact (t_zero hd55).elim
      | succ d55 ih55 =>
        intro w12 hw12 kw12 x13 fx13 hd55
        refine z_aload_n hC (pc := 55) 0 dX10_joinLines_55 rfl rfl ?_
        refine u_getK hC (pc := 56) zf10 0 (tKeep.F kw12 (tKeep.F kw11 (tKeep.F kw10 (tKeep.F kw7 (tKeep.F kw5 fa3 rfl) rfl) rfl) rfl) rfl) dX10_joinLines_56 zw330 (kk := ?_)
        refine u_getK hC (pc := 59) zf7 5 fx13 dX10_joinLines_59 zw124 (kk := ?_)
        refine z_aload_n hC (pc := 62) 0 dX10_joinLines_62 rfl rfl ?_
        refine u_getK hC (pc := 63) zf10 0 (tKeep.F kw12 (tKeep.F kw11 (tKeep.F kw10 (tKeep.F kw7 (tKeep.F kw5 fa3 rfl) rfl) rfl) rfl) rfl) dX10_joinLines_63 zw330 (kk := ?_)
        refine u_get hC hw12 (pc := 66) zf7 4 (hE.o7 ma3) rfl dX10_joinLines_66 zw121 (kk := fun vx14 tx14 fx14 => ?_)
        obtain ⟨x14, rfl⟩ := tx14
        have j112 : ∀ (w15 : va_W), tW T w15 → tKeep 0x0 w12 w15 → zS X G 1 w15 [(0, .ref a0)] 0 0 112 [] := by
          intro w15 hw15 kw15
          refine z_aload_n hC (pc := 112) 0 dX10_joinLines_112 rfl rfl ?_
          refine u_getK hC (pc := 113) zf10 0 (tKeep.F kw15 (tKeep.F kw12 (tKeep.F kw11 (tKeep.F kw10 (tKeep.F kw7 (tKeep.F kw5 fa3 rfl) rfl) rfl) rfl) rfl) rfl) dX10_joinLines_113 zw330 (kk := ?_)
          refine t_callVi hC hw15 (pc := 116) (As := []) (kX7_peek l G T κ hst hE ma3) trivial dmX7_peek zf7 hqq6 dX10_joinLines_116 zw1399 rfl rfl (Nat.le_of_ble_eq_true rfl) (Nat.le_of_ble_eq_true rfl) (Nat.le_of_ble_eq_true rfl) (Nat.le_of_ble_eq_true rfl) (Nat.le_of_ble_eq_true rfl) (fun _ _ _ h => nomatch h) (fun x17 cw16 nw16 w16 hw16 pw16 => ?_)
          obtain ⟨rfl, rfl, kw16⟩ := pw16
          refine z_bipush hC (pc := 119) (v := 10) dX10_joinLines_119 (by decide) ?_
          have j139 : ∀ (w18 : va_W), tW T w18 → tKeep 0x1800000000000000000000000000000000000000000000000000000000000000000000000000000000000000000000000000000000000000000 w16 w18 → zS X G 1 w18 [(0, .ref a0)] 0 0 139 [] := by
            intro w18 hw18 kw18
            refine z_aload_n hC (pc := 139) 0 dX10_joinLines_139 rfl rfl ?_
            refine u_getK hC (pc := 140) zf10 0 (tKeep.F kw18 (tKeep.F kw16 (tKeep.F kw15 (tKeep.F kw12 (tKeep.F kw11 (tKeep.F kw10 (tKeep.F kw7 (tKeep.F kw5 fa3 rfl) rfl) rfl) rfl) rfl) rfl) rfl) rfl) dX10_joinLines_140 zw330 (kk := ?_)
            refine z_dup hC (pc := 143) dX10_joinLines_143 rfl ?_
            refine u_getK hC (pc := 144) zf7 5 (tKeep.F kw18 (tKeep.F kw16 (tKeep.F kw15 fx13 rfl) rfl) rfl) dX10_joinLines_144 zw124 (kk := ?_)
            refine z_iconst hC (pc := 147) (v := 1) dX10_joinLines_147 (by decide) ?_
            refine z_iadd hC (pc := 148) (v := (x13 + 1)) dX10_joinLines_148 rfl ?_
            refine u_put hC hw18 (pc := 149) zf7 5 (hE.o7 ma3) rfl ⟨_, rfl⟩ dX10_joinLines_149 zw124 rfl rfl rfl (kk := fun w19 hw19 fw19 kw19 => ?_)
            have j152 : ∀ (d152 : Nat), ∀ (w20 : va_W), tW T w20 → tKeep 0x200000000000000000000000000000000000000000000000000000000000000000000000000000000000000000000000000000000000000000 w19 w20 → ∀ (x21 : Int32), tF 7 w20 a3 5 (.int x21) → (2 ^ 31 - (x21 : Int32).toInt).toNat ≤ d152 → zS X G 1 w20 [(0, .ref a0)] 0 0 152 [] := by
              intro d152
              induction d152 with
              | zero => intro w20 hw20 kw20 x21 fx21 hd152; exact (t_zero hd152).elim
              | succ d152 ih152 =>
                intro w20 hw20 kw20 x21 fx21 hd152
                refine z_aload_n hC (pc := 152) 0 dX10_joinLines_152 rfl rfl ?_
                refine u_getK hC (pc := 153) zf10 0 (tKeep.F kw20 (tKeep.F kw19 (tKeep.F kw18 (tKeep.F kw16 (tKeep.F kw15 (tKeep.F kw12 (tKeep.F kw11 (tKeep.F kw10 (tKeep.F kw7 (tKeep.F kw5 fa3 rfl) rfl) rfl) rfl) rfl) rfl) rfl) rfl) rfl) rfl) dX10_joinLines_153 zw330 (kk := ?_)
                refine u_getK hC (pc := 156) zf7 5 fx21 dX10_joinLines_156 zw124 (kk := ?_)
                refine z_aload_n hC (pc := 159) 0 dX10_joinLines_159 rfl rfl ?_
                refine u_getK hC (pc := 160) zf10 0 (tKeep.F kw20 (tKeep.F kw19 (tKeep.F kw18 (tKeep.F kw16 (tKeep.F kw15 (tKeep.F kw12 (tKeep.F kw11 (tKeep.F kw10 (tKeep.F kw7 (tKeep.F kw5 fa3 rfl) rfl) rfl) rfl) rfl) rfl) rfl) rfl) rfl) rfl) dX10_joinLines_160 zw330 (kk := ?_)
                refine u_getK hC (pc := 163) zf7 4 (tKeep.F kw20 (tKeep.F kw19 (tKeep.F kw18 (tKeep.F kw16 (tKeep.F kw15 fx14 rfl) rfl) rfl) rfl) rfl) dX10_joinLines_163 zw121 (kk := ?_)
                have j209 : ∀ (w22 : va_W), tW T w22 → tKeep 0x0 w20 w22 → zS X G 1 w22 [] 0 0 209 [] := by
                  intro w22 hw22 kw22
                  exact hR _ _ _ _ _ dX10_joinLines_209 (Nat.le_of_ble_eq_true rfl) (Nat.le_of_ble_eq_true rfl) ⟨hw22, rfl, rfl, (tKeep.tr (tKeep.tr (tKeep.tr (tKeep.tr (tKeep.tr (tKeep.tr (tKeep.tr (tKeep.tr (tKeep.tr (tKeep.tr (tKeep.tr tKeep.rf kw5 rfl) kw7 rfl) kw10 rfl) kw11 rfl) kw12 rfl) kw15 rfl) kw16 rfl) kw18 rfl) kw19 rfl) kw20 rfl) kw22 rfl)⟩
                refine z_icmp_ge hC (pc := 166) 209 dX10_joinLines_166 (by decide) (fun c23 => ?_) (fun c23 => ?_)
                · refine z_lvs [] rfl ?_
                  exact j209 w20 hw20 tKeep.rf
                · refine z_aload_n hC (pc := 169) 0 dX10_joinLines_169 rfl rfl ?_
                  refine u_getK hC (pc := 170) zf10 0 (tKeep.F kw20 (tKeep.F kw19 (tKeep.F kw18 (tKeep.F kw16 (tKeep.F kw15 (tKeep.F kw12 (tKeep.F kw11 (tKeep.F kw10 (tKeep.F kw7 (tKeep.F kw5 fa3 rfl) rfl) rfl) rfl) rfl) rfl) rfl) rfl) rfl) rfl) dX10_joinLines_170 zw330 (kk := ?_)
                  refine t_callVi hC hw20 (pc := 173) (As := []) (kX7_peek l G T κ hst hE ma3) trivial dmX7_peek zf7 hqq6 dX10_joinLines_173 zw1399 rfl rfl (Nat.le_of_ble_eq_true rfl) (Nat.le_of_ble_eq_true rfl) (Nat.le_of_ble_eq_true rfl) (Nat.le_of_ble_eq_true rfl) (Nat.le_of_ble_eq_true rfl) (fun _ _ _ h => nomatch h) (fun x25 cw24 nw24 w24 hw24 pw24 => ?_)
                  obtain ⟨rfl, rfl, kw24⟩ := pw24
                  refine z_bipush hC (pc := 176) (v := 32) dX10_joinLines_176 (by decide) ?_
                  have j193 : ∀ (w26 : va_W), tW T w26 → tKeep 0x0 w24 w26 → zS X G 1 w26 [(0, .ref a0)] 0 0 193 [] := by
                    intro w26 hw26 kw26
                    refine z_aload_n hC (pc := 193) 0 dX10_joinLines_193 rfl rfl ?_
                    refine u_getK hC (pc := 194) zf10 0 (tKeep.F kw26 (tKeep.F kw24 (tKeep.F kw20 (tKeep.F kw19 (tKeep.F kw18 (tKeep.F kw16 (tKeep.F kw15 (tKeep.F kw12 (tKeep.F kw11 (tKeep.F kw10 (tKeep.F kw7 (tKeep.F kw5 fa3 rfl) rfl) rfl) rfl) rfl) rfl) rfl) rfl) rfl) rfl) rfl) rfl) dX10_joinLines_194 zw330 (kk := ?_)
                    refine z_dup hC (pc := 197) dX10_joinLines_197 rfl ?_
                    refine u_getK hC (pc := 198) zf7 5 (tKeep.F kw26 (tKeep.F kw24 fx21 rfl) rfl) dX10_joinLines_198 zw124 (kk := ?_)
                    refine z_iconst hC (pc := 201) (v := 1) dX10_joinLines_201 (by decide) ?_
                    refine z_iadd hC (pc := 202) (v := (x21 + 1)) dX10_joinLines_202 rfl ?_
                    refine u_put hC hw26 (pc := 203) zf7 5 (hE.o7 ma3) rfl ⟨_, rfl⟩ dX10_joinLines_203 zw124 rfl rfl rfl (kk := fun w27 hw27 fw27 kw27 => ?_)
                    refine z_goto hC (pc := 206) 152 dX10_joinLines_206 (by decide) ?_
                    exact ih152 w27 hw27 (tKeep.tr (tKeep.tr (tKeep.tr (tKeep.tr tKeep.rf kw20 rfl) kw24 rfl) kw26 rfl) kw27 rfl) (x21 + 1) fw27 (t_up (Int32.not_le.mp c23) hd152)
                  refine z_icmp_eq hC (pc := 178) 193 dX10_joinLines_178 (by decide) (fun c28 => ?_) (fun c28 => ?_)
                  · exact j193 w24 hw24 tKeep.rf
                  · refine z_aload_n hC (pc := 181) 0 dX10_joinLines_181 rfl rfl ?_
                    refine u_getK hC (pc := 182) zf10 0 (tKeep.F kw24 (tKeep.F kw20 (tKeep.F kw19 (tKeep.F kw18 (tKeep.F kw16 (tKeep.F kw15 (tKeep.F kw12 (tKeep.F kw11 (tKeep.F kw10 (tKeep.F kw7 (tKeep.F kw5 fa3 rfl) rfl) rfl) rfl) rfl) rfl) rfl) rfl) rfl) rfl) rfl) dX10_joinLines_182 zw330 (kk := ?_)
                    refine t_callVi hC hw24 (pc := 185) (As := []) (kX7_peek l G T κ hst hE ma3) trivial dmX7_peek zf7 hqq6 dX10_joinLines_185 zw1399 rfl rfl (Nat.le_of_ble_eq_true rfl) (Nat.le_of_ble_eq_true rfl) (Nat.le_of_ble_eq_true rfl) (Nat.le_of_ble_eq_true rfl) (Nat.le_of_ble_eq_true rfl) (fun _ _ _ h => nomatch h) (fun x30 cw29 nw29 w29 hw29 pw29 => ?_)
                    obtain ⟨rfl, rfl, kw29⟩ := pw29
                    refine z_bipush hC (pc := 188) (v := 9) dX10_joinLines_188 (by decide) ?_
                    refine z_icmp_ne hC (pc := 190) 209 dX10_joinLines_190 (by decide) (fun c31 => ?_) (fun c31 => ?_)
                    · refine z_lvs [] rfl ?_
                      exact j209 w29 hw29 (tKeep.tr (tKeep.tr tKeep.rf kw24 rfl) kw29 rfl)
                    · exact j193 w29 hw29 (tKeep.tr tKeep.rf kw29 rfl)
            exact j152 _ w19 hw19 tKeep.rf (x13 + 1) fw19 (Nat.le_refl _)
          refine z_icmp_eq hC (pc := 121) 139 dX10_joinLines_121 (by decide) (fun c32 => ?_) (fun c32 => ?_)
          · exact j139 w16 hw16 tKeep.rf
          · refine z_aload_n hC (pc := 124) 0 dX10_joinLines_124 rfl rfl ?_
            refine u_getK hC (pc := 125) zf10 0 (tKeep.F kw16 (tKeep.F kw15 (tKeep.F kw12 (tKeep.F kw11 (tKeep.F kw10 (tKeep.F kw7 (tKeep.F kw5 fa3 rfl) rfl) rfl) rfl) rfl) rfl) rfl) dX10_joinLines_125 zw330 (kk := ?_)
            refine z_iconst hC (pc := 128) (v := 1) dX10_joinLines_128 (by decide) ?_
            refine z_aload_n hC (pc := 129) 0 dX10_joinLines_129 rfl rfl ?_
            refine u_getK hC (pc := 130) zf10 0 (tKeep.F kw16 (tKeep.F kw15 (tKeep.F kw12 (tKeep.F kw11 (tKeep.F kw10 (tKeep.F kw7 (tKeep.F kw5 fa3 rfl) rfl) rfl) rfl) rfl) rfl) rfl) dX10_joinLines_130 zw330 (kk := ?_)
            refine t_callVi hC hw16 (pc := 133) (As := []) (kX7_here l G T κ hst hE ma3) trivial dmX7_here zf7 hqq6 dX10_joinLines_133 zw1368 rfl rfl (Nat.le_of_ble_eq_true rfl) (Nat.le_of_ble_eq_true rfl) (Nat.le_of_ble_eq_true rfl) (Nat.le_of_ble_eq_true rfl) (Nat.le_of_ble_eq_true rfl) (fun _ _ _ h => nomatch h) (fun x34 cw33 nw33 w33 hw33 pw33 => ?_)
            obtain ⟨rfl, rfl, kw33⟩ := pw33
            refine t_callVv hC hw33 (pc := 136) (As := [.int 1, .int x34]) (kX7_fail l G T κ hst hE ma3) trivial dmX7_fail zf7 hqq6 dX10_joinLines_136 zw1369 rfl rfl (Nat.le_of_ble_eq_true rfl) (Nat.le_of_ble_eq_true rfl) (Nat.le_of_ble_eq_true rfl) (Nat.le_of_ble_eq_true rfl) (Nat.le_of_ble_eq_true rfl) (fun E w q hE hw => hO E w _ _ _ _ _ q hE (Nat.le_of_ble_eq_true rfl) (Nat.le_of_ble_eq_true rfl) hw) (fun cw35 nw35 w35 hw35 pw35 => ?_)
            obtain ⟨rfl, rfl, kw35⟩ := pw35
            exact j139 w35 hw35 (tKeep.tr (tKeep.tr tKeep.rf kw33 rfl) kw35 rfl)
        refine z_icmp_ge hC (pc := 69) 112 dX10_joinLines_69 (by decide) (fun c37 => ?_) (fun c37 => ?_)
        · exact j112 w12 hw12 tKeep.rf
        · refine z_aload_n hC (pc := 72) 0 dX10_joinLines_72 rfl rfl ?_
          refine u_getK hC (pc := 73) zf10 0 (tKeep.F kw12 (tKeep.F kw11 (tKeep.F kw10 (tKeep.F kw7 (tKeep.F kw5 fa3 rfl) rfl) rfl) rfl) rfl) dX10_joinLines_73 zw330 (kk := ?_)
          refine t_callVi hC hw12 (pc := 76) (As := []) (kX7_peek l G T κ hst hE ma3) trivial dmX7_peek zf7 hqq6 dX10_joinLines_76 zw1399 rfl rfl (Nat.le_of_ble_eq_true rfl) (Nat.le_of_ble_eq_true rfl) (Nat.le_of_ble_eq_true rfl) (Nat.le_of_ble_eq_true rfl) (Nat.le_of_ble_eq_true rfl) (fun _ _ _ h => nomatch h) (fun x39 cw38 nw38 w38 hw38 pw38 => ?_)
          obtain ⟨rfl, rfl, kw38⟩ := pw38
          refine z_bipush hC (pc := 79) (v := 32) dX10_joinLines_79 (by decide) ?_
          have j96 : ∀ (w40 : va_W), tW T w40 → tKeep 0x0 w38 w40 → zS X G 1 w40 [(0, .ref a0)] 0 0 96 [] := by
            intro w40 hw40 kw40
            refine z_aload_n hC (pc := 96) 0 dX10_joinLines_96 rfl rfl ?_
            refine u_getK hC (pc := 97) zf10 0 (tKeep.F kw40 (tKeep.F kw38 (tKeep.F kw12 (tKeep.F kw11 (tKeep.F kw10 (tKeep.F kw7 (tKeep.F kw5 fa3 rfl) rfl) rfl) rfl) rfl) rfl) rfl) dX10_joinLines_97 zw330 (kk := ?_)
            refine z_dup hC (pc := 100) dX10_joinLines_100 rfl ?_
            refine u_getK hC (pc := 101) zf7 5 (tKeep.F kw40 (tKeep.F kw38 fx13 rfl) rfl) dX10_joinLines_101 zw124 (kk := ?_)
            refine z_iconst hC (pc := 104) (v := 1) dX10_joinLines_104 (by decide) ?_
            refine z_iadd hC (pc := 105) (v := (x13 + 1)) dX10_joinLines_105 rfl ?_
            refine u_put hC hw40 (pc := 106) zf7 5 (hE.o7 ma3) rfl ⟨_, rfl⟩ dX10_joinLines_106 zw124 rfl rfl rfl (kk := fun w41 hw41 fw41 kw41 => ?_)
            refine z_goto hC (pc := 109) 55 dX10_joinLines_109 (by decide) ?_
            exact ih55 w41 hw41 (tKeep.tr (tKeep.tr (tKeep.tr (tKeep.tr tKeep.rf kw12 rfl) kw38 rfl) kw40 rfl) kw41 rfl) (x13 + 1) fw41 (t_up (Int32.not_le.mp c37) hd55)
          refine z_icmp_eq hC (pc := 81) 96 dX10_joinLines_81 (by decide) (fun c42 => ?_) (fun c42 => ?_)
          · exact j96 w38 hw38 tKeep.rf
          · refine z_aload_n hC (pc := 84) 0 dX10_joinLines_84 rfl rfl ?_
            refine u_getK hC (pc := 85) zf10 0 (tKeep.F kw38 (tKeep.F kw12 (tKeep.F kw11 (tKeep.F kw10 (tKeep.F kw7 (tKeep.F kw5 fa3 rfl) rfl) rfl) rfl) rfl) rfl) dX10_joinLines_85 zw330 (kk := ?_)
            refine t_callVi hC hw38 (pc := 88) (As := []) (kX7_peek l G T κ hst hE ma3) trivial dmX7_peek zf7 hqq6 dX10_joinLines_88 zw1399 rfl rfl (Nat.le_of_ble_eq_true rfl) (Nat.le_of_ble_eq_true rfl) (Nat.le_of_ble_eq_true rfl) (Nat.le_of_ble_eq_true rfl) (Nat.le_of_ble_eq_true rfl) (fun _ _ _ h => nomatch h) (fun x44 cw43 nw43 w43 hw43 pw43 => ?_)
            obtain ⟨rfl, rfl, kw43⟩ := pw43
            refine z_bipush hC (pc := 91) (v := 9) dX10_joinLines_91 (by decide) ?_
            refine z_icmp_ne hC (pc := 93) 112 dX10_joinLines_93 (by decide) (fun c45 => ?_) (fun c45 => ?_)
            · exact j112 w43 hw43 (tKeep.tr (tKeep.tr tKeep.rf kw38 rfl) kw43 rfl)
            · exact j96 w43 hw43 (tKeep.tr tKeep.rf kw43 rfl)
    exact j55 _ w11 hw11 tKeep.rf ((x4 + 2) + 1) fw11 (Nat.le_refl _)
  refine z_icmp_eq hC (pc := 24) 42 dX10_joinLines_24 (by decide) (fun c46 => ?_) (fun c46 => ?_)
  · exact j42 w7 hw7 tKeep.rf
  · refine z_aload_n hC (pc := 27) 0 dX10_joinLines_27 rfl rfl ?_
    refine u_getK hC (pc := 28) zf10 0 (tKeep.F kw7 (tKeep.F kw5 fa3 rfl) rfl) dX10_joinLines_28 zw330 (kk := ?_)
    refine z_iconst hC (pc := 31) (v := 1) dX10_joinLines_31 (by decide) ?_
    refine z_aload_n hC (pc := 32) 0 dX10_joinLines_32 rfl rfl ?_
    refine u_getK hC (pc := 33) zf10 0 (tKeep.F kw7 (tKeep.F kw5 fa3 rfl) rfl) dX10_joinLines_33 zw330 (kk := ?_)
    refine t_callVi hC hw7 (pc := 36) (As := []) (kX7_here l G T κ hst hE ma3) trivial dmX7_here zf7 hqq6 dX10_joinLines_36 zw1368 rfl rfl (Nat.le_of_ble_eq_true rfl) (Nat.le_of_ble_eq_true rfl) (Nat.le_of_ble_eq_true rfl) (Nat.le_of_ble_eq_true rfl) (Nat.le_of_ble_eq_true rfl) (fun _ _ _ h => nomatch h) (fun x48 cw47 nw47 w47 hw47 pw47 => ?_)
    obtain ⟨rfl, rfl, kw47⟩ := pw47
    refine t_callVv hC hw47 (pc := 39) (As := [.int 1, .int x48]) (kX7_fail l G T κ hst hE ma3) trivial dmX7_fail zf7 hqq6 dX10_joinLines_39 zw1369 rfl rfl (Nat.le_of_ble_eq_true rfl) (Nat.le_of_ble_eq_true rfl) (Nat.le_of_ble_eq_true rfl) (Nat.le_of_ble_eq_true rfl) (Nat.le_of_ble_eq_true rfl) (fun E w q hE hw => hO E w _ _ _ _ _ q hE (Nat.le_of_ble_eq_true rfl) (Nat.le_of_ble_eq_true rfl) hw) (fun cw49 nw49 w49 hw49 pw49 => ?_)
    obtain ⟨rfl, rfl, kw49⟩ := pw49
    exact j42 w49 hw49 (tKeep.tr (tKeep.tr tKeep.rf kw47 rfl) kw49 rfl)
