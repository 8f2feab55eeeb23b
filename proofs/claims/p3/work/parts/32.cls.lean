theorem zw342 : Cond.fieldLink "TemplateHouse$TextReader" 37 "TemplateHouse$TextReader" "runLength" "I" ∈ zT := zsub2 102 (by decide +kernel) (by decide +kernel)
theorem zw341 : Cond.fieldLink "TemplateHouse$TextReader" 34 "TemplateHouse$TextReader" "runFrom" "I" ∈ zT := zsub2 101 (by decide +kernel) (by decide +kernel)
theorem zw1370 : Cond.methodLink "TemplateHouse$TextReader" 93 ⟨"TemplateHouse$Gen", "emit", "(III)V"⟩ ∈ zT := zsub6 170 (by decide +kernel) (by decide +kernel)
theorem zw245 : Cond.fieldLink "TemplateHouse$TextReader" 118 "TemplateHouse$Gen" "codeEnd" "I" ∈ zT := zsub2 5 (by decide +kernel) (by decide +kernel)
theorem zw121 : Cond.fieldLink "TemplateHouse$TextReader" 80 "TemplateHouse$Source" "lim" "I" ∈ zT := zsub1 121 (by decide +kernel) (by decide +kernel)
theorem zw1420 : Cond.methodLink "TemplateHouse$TextReader" 162 ⟨"TemplateHouse$Source", "placeOf", "(I)I"⟩ ∈ zT := zsub6 220 (by decide +kernel) (by decide +kernel)
theorem zw1369 : Cond.methodLink "TemplateHouse$TextReader" 104 ⟨"TemplateHouse$Source", "fail", "(II)V"⟩ ∈ zT := zsub6 169 (by decide +kernel) (by decide +kernel)
theorem zw343 : Cond.fieldLink "TemplateHouse$TextReader" 40 "TemplateHouse$TextReader" "lineStart" "Z" ∈ zT := zsub2 103 (by decide +kernel) (by decide +kernel)
theorem zw242 : Cond.fieldLink "TemplateHouse$TextReader" 165 "TemplateHouse$Gen" "code" "[I" ∈ zT := zsub2 2 (by decide +kernel) (by decide +kernel)
theorem zw1398 : Cond.methodLinkNest "TemplateHouse$TextReader" 169 ⟨"TemplateHouse", "set", "([III)V"⟩ "TemplateHouse" ∈ zNest := zsubN6 198 (by decide +kernel) (by decide +kernel)
theorem zw1399 : Cond.methodLink "TemplateHouse$TextReader" 83 ⟨"TemplateHouse$Source", "peek", "()I"⟩ ∈ zT := zsub6 199 (by decide +kernel) (by decide +kernel)
theorem zw1368 : Cond.methodLink "TemplateHouse$TextReader" 90 ⟨"TemplateHouse$Source", "here", "()I"⟩ ∈ zT := zsub6 168 (by decide +kernel) (by decide +kernel)
theorem zw254 : Cond.fieldLink "TemplateHouse$TextReader" 112 "TemplateHouse$Gen" "poolEnd" "I" ∈ zT := zsub2 14 (by decide +kernel) (by decide +kernel)
theorem zw1434 : Cond.methodLink "TemplateHouse$TextReader" 173 ⟨"TemplateHouse$Gen", "emit", "(IIII)V"⟩ ∈ zT := zsub6 234 (by decide +kernel) (by decide +kernel)
theorem zw1433 : Cond.methodLink "TemplateHouse$TextReader" 115 ⟨"TemplateHouse$Gen", "keep", "(II)V"⟩ ∈ zT := zsub6 233 (by decide +kernel) (by decide +kernel)
theorem zw1404 : Cond.methodLink "TemplateHouse$TextReader" 87 ⟨"TemplateHouse$TextReader", "flush", "()I"⟩ ∈ zT := zsub6 204 (by decide +kernel) (by decide +kernel)
theorem zw1429 : Cond.methodLink "TemplateHouse$TextReader" 159 ⟨"TemplateHouse$TextReader", "escape", "(I)V"⟩ ∈ zT := zsub6 229 (by decide +kernel) (by decide +kernel)
theorem zw1425 : Cond.methodLink "TemplateHouse$TextReader" 156 ⟨"TemplateHouse$TextReader", "joinLines", "()V"⟩ ∈ zT := zsub6 225 (by decide +kernel) (by decide +kernel)
theorem zw1416 : Cond.methodLink "TemplateHouse$TextReader" 149 ⟨"TemplateHouse$TextReader", "comment", "()V"⟩ ∈ zT := zsub6 216 (by decide +kernel) (by decide +kernel)
theorem zw1421 : Cond.methodLink "TemplateHouse$TextReader" 152 ⟨"TemplateHouse$TextReader", "restOfLine", "(ZI)V"⟩ ∈ zT := zsub6 221 (by decide +kernel) (by decide +kernel)
theorem zw1452 : Cond.methodLink "TemplateHouse$Source" 98 ⟨"TemplateHouse$Source", "blanks", "()V"⟩ ∈ zT := zsub7 12 (by decide +kernel) (by decide +kernel)
theorem zw1276 : Cond.methodLink "TemplateHouse$Source" 101 ⟨"TemplateHouse$Source", "here", "()I"⟩ ∈ zT := zsub6 76 (by decide +kernel) (by decide +kernel)
theorem zw1448 : Cond.methodLink "TemplateHouse$TextReader" 191 ⟨"TemplateHouse$Source", "need", "(I)V"⟩ ∈ zT := zsub7 8 (by decide +kernel) (by decide +kernel)
theorem zw1467 : Cond.methodLink "TemplateHouse$Source" 70 ⟨"TemplateHouse$Names", "lengthOf", "(I)I"⟩ ∈ zT := zsub7 27 (by decide +kernel) (by decide +kernel)
theorem zw175 : Cond.fieldLink "TemplateHouse$Source" 76 "TemplateHouse$Names" "bytes" "[B" ∈ zT := zsub1 175 (by decide +kernel) (by decide +kernel)
theorem zw179 : Cond.fieldLink "TemplateHouse$Source" 79 "TemplateHouse$Names" "from" "[I" ∈ zT := zsub1 179 (by decide +kernel) (by decide +kernel)
theorem zw1468 : Cond.methodLinkNest "TemplateHouse$Source" 82 ⟨"TemplateHouse", "get", "([II)I"⟩ "TemplateHouse" ∈ zNest := zsubN7 28 (by decide +kernel) (by decide +kernel)
theorem zw1469 : Cond.methodLinkNest "TemplateHouse$Source" 86 ⟨"TemplateHouse", "same", "([BI[BII)Z"⟩ "TemplateHouse" ∈ zNest := zsubN7 29 (by decide +kernel) (by decide +kernel)
theorem zw262 : Cond.fieldLink "TemplateHouse$Gen" 50 "TemplateHouse$Gen" "parts" "[I" ∈ zT := zsub2 22 (by decide +kernel) (by decide +kernel)
theorem zw1392 : Cond.code ⟨"TemplateHouse$Gen", "paramOf", "(II)I"⟩ prog_4_method_15_code 5 (Option.some Jvm.ClassFile.FieldType.int) ∈ zT := zsub6 192 rfl rfl
theorem zw1390 : Cond.instanceMethod ⟨"TemplateHouse$Gen", "paramOf", "(II)I"⟩ ∈ zT := zsub6 190 (by decide +kernel) (by decide +kernel)
theorem zw1391 : Cond.selects "TemplateHouse$Gen" ⟨"TemplateHouse$Gen", "paramOf", "(II)I"⟩ ⟨"TemplateHouse$Gen", "paramOf", "(II)I"⟩ ∈ zT := zsub6 191 (by decide +kernel) (by decide +kernel)
theorem zw1397 : Cond.code ⟨"TemplateHouse$Gen", "emit", "(II)V"⟩ prog_4_method_4_code 3 (Option.none : Option Jvm.ClassFile.FieldType) ∈ zT := zsub6 197 rfl rfl
theorem zw1395 : Cond.instanceMethod ⟨"TemplateHouse$Gen", "emit", "(II)V"⟩ ∈ zT := zsub6 195 (by decide +kernel) (by decide +kernel)
theorem zw1396 : Cond.selects "TemplateHouse$Gen" ⟨"TemplateHouse$Gen", "emit", "(II)V"⟩ ⟨"TemplateHouse$Gen", "emit", "(II)V"⟩ ∈ zT := zsub6 196 (by decide +kernel) (by decide +kernel)
theorem zw1407 : Cond.code ⟨"TemplateHouse$TextReader", "flush", "()I"⟩ prog_12_method_8_code 1 (Option.some Jvm.ClassFile.FieldType.int) ∈ zT := zsub6 207 rfl rfl
theorem zw1406 : Cond.instanceMethod ⟨"TemplateHouse$TextReader", "flush", "()I"⟩ ∈ zT := zsub6 206 (by decide +kernel) (by decide +kernel)
theorem zwp116 : Cond.selects "TemplateHouse$TextReader" ⟨"TemplateHouse$TextReader", "flush", "()I"⟩ ⟨"TemplateHouse$TextReader", "flush", "()I"⟩ ∈ zT := zin 116 (by decide +kernel) (by decide +kernel)
theorem zw1419 : Cond.code ⟨"TemplateHouse$TextReader", "comment", "()V"⟩ prog_12_method_11_code 2 (Option.none : Option Jvm.ClassFile.FieldType) ∈ zT := zsub6 219 rfl rfl
theorem zw1418 : Cond.instanceMethod ⟨"TemplateHouse$TextReader", "comment", "()V"⟩ ∈ zT := zsub6 218 (by decide +kernel) (by decide +kernel)
theorem zwp110 : Cond.selects "TemplateHouse$TextReader" ⟨"TemplateHouse$TextReader", "comment", "()V"⟩ ⟨"TemplateHouse$TextReader", "comment", "()V"⟩ ∈ zT := zin 110 (by decide +kernel) (by decide +kernel)
theorem zw1424 : Cond.code ⟨"TemplateHouse$TextReader", "restOfLine", "(ZI)V"⟩ prog_12_method_12_code 6 (Option.none : Option Jvm.ClassFile.FieldType) ∈ zT := zsub6 224 rfl rfl
theorem zw1423 : Cond.instanceMethod ⟨"TemplateHouse$TextReader", "restOfLine", "(ZI)V"⟩ ∈ zT := zsub6 223 (by decide +kernel) (by decide +kernel)
theorem zwp134 : Cond.selects "TemplateHouse$TextReader" ⟨"TemplateHouse$TextReader", "restOfLine", "(ZI)V"⟩ ⟨"TemplateHouse$TextReader", "restOfLine", "(ZI)V"⟩ ∈ zT := zin 134 (by decide +kernel) (by decide +kernel)
theorem zw1428 : Cond.code ⟨"TemplateHouse$TextReader", "joinLines", "()V"⟩ prog_12_method_14_code 1 (Option.none : Option Jvm.ClassFile.FieldType) ∈ zT := zsub6 228 rfl rfl
theorem zw1427 : Cond.instanceMethod ⟨"TemplateHouse$TextReader", "joinLines", "()V"⟩ ∈ zT := zsub6 227 (by decide +kernel) (by decide +kernel)
theorem zwp121 : Cond.selects "TemplateHouse$TextReader" ⟨"TemplateHouse$TextReader", "joinLines", "()V"⟩ ⟨"TemplateHouse$TextReader", "joinLines", "()V"⟩ ∈ zT := zin 121 (by decide +kernel) (by decide +kernel)
theorem zw1437 : Cond.code ⟨"TemplateHouse$Gen", "emit", "(IIII)V"⟩ prog_4_method_6_code 5 (Option.none : Option Jvm.ClassFile.FieldType) ∈ zT := zsub6 237 rfl rfl
theorem zw1435 : Cond.instanceMethod ⟨"TemplateHouse$Gen", "emit", "(IIII)V"⟩ ∈ zT := zsub6 235 (by decide +kernel) (by decide +kernel)
theorem zw1436 : Cond.selects "TemplateHouse$Gen" ⟨"TemplateHouse$Gen", "emit", "(IIII)V"⟩ ⟨"TemplateHouse$Gen", "emit", "(IIII)V"⟩ ∈ zT := zsub6 236 (by decide +kernel) (by decide +kernel)
theorem zw1432 : Cond.code ⟨"TemplateHouse$TextReader", "escape", "(I)V"⟩ prog_12_method_13_code 5 (Option.none : Option Jvm.ClassFile.FieldType) ∈ zT := zsub6 232 rfl rfl
theorem zw1431 : Cond.instanceMethod ⟨"TemplateHouse$TextReader", "escape", "(I)V"⟩ ∈ zT := zsub6 231 (by decide +kernel) (by decide +kernel)
theorem zwp114 : Cond.selects "TemplateHouse$TextReader" ⟨"TemplateHouse$TextReader", "escape", "(I)V"⟩ ⟨"TemplateHouse$TextReader", "escape", "(I)V"⟩ ∈ zT := zin 114 (by decide +kernel) (by decide +kernel)
theorem zw1415 : Cond.code ⟨"TemplateHouse$TextReader", "plainTag", "(I)V"⟩ prog_12_method_10_code 4 (Option.none : Option Jvm.ClassFile.FieldType) ∈ zT := zsub6 215 rfl rfl
theorem zw1414 : Cond.instanceMethod ⟨"TemplateHouse$TextReader", "plainTag", "(I)V"⟩ ∈ zT := zsub6 214 (by decide +kernel) (by decide +kernel)
theorem zwp130 : Cond.selects "TemplateHouse$TextReader" ⟨"TemplateHouse$TextReader", "plainTag", "(I)V"⟩ ⟨"TemplateHouse$TextReader", "plainTag", "(I)V"⟩ ∈ zT := zin 130 (by decide +kernel) (by decide +kernel)
theorem zw1451 : Cond.code ⟨"TemplateHouse$Source", "need", "(I)V"⟩ prog_9_method_17_code 2 (Option.none : Option Jvm.ClassFile.FieldType) ∈ zT := zsub7 11 rfl rfl
theorem zw1449 : Cond.instanceMethod ⟨"TemplateHouse$Source", "need", "(I)V"⟩ ∈ zT := zsub7 9 (by decide +kernel) (by decide +kernel)
theorem zw1450 : Cond.selects "TemplateHouse$Source" ⟨"TemplateHouse$Source", "need", "(I)V"⟩ ⟨"TemplateHouse$Source", "need", "(I)V"⟩ ∈ zT := zsub7 10 (by decide +kernel) (by decide +kernel)
theorem zw1447 : Cond.code ⟨"TemplateHouse$TextReader", "regionEnd", "(II)I"⟩ prog_12_method_20_code 5 (Option.some Jvm.ClassFile.FieldType.int) ∈ zT := zsub7 7 rfl rfl
theorem zw1446 : Cond.instanceMethod ⟨"TemplateHouse$TextReader", "regionEnd", "(II)I"⟩ ∈ zT := zsub7 6 (by decide +kernel) (by decide +kernel)
theorem zwp133 : Cond.selects "TemplateHouse$TextReader" ⟨"TemplateHouse$TextReader", "regionEnd", "(II)I"⟩ ⟨"TemplateHouse$TextReader", "regionEnd", "(II)I"⟩ ∈ zT := zin 133 (by decide +kernel) (by decide +kernel)
theorem zw1466 : Cond.code ⟨"TemplateHouse$Source", "isName", "(ILTemplateHouse$Names;I)Z"⟩ prog_9_method_14_code 5 (Option.some Jvm.ClassFile.FieldType.boolean) ∈ zT := zsub7 26 rfl rfl
theorem zw1464 : Cond.instanceMethod ⟨"TemplateHouse$Source", "isName", "(ILTemplateHouse$Names;I)Z"⟩ ∈ zT := zsub7 24 (by decide +kernel) (by decide +kernel)
theorem zw1465 : Cond.selects "TemplateHouse$Source" ⟨"TemplateHouse$Source", "isName", "(ILTemplateHouse$Names;I)Z"⟩ ⟨"TemplateHouse$Source", "isName", "(ILTemplateHouse$Names;I)Z"⟩ ∈ zT := zsub7 25 (by decide +kernel) (by decide +kernel)
theorem zw1477 : Cond.code ⟨"TemplateHouse$Gen", "addPart", "(IIIII)V"⟩ prog_4_method_12_code 7 (Option.none : Option Jvm.ClassFile.FieldType) ∈ zT := zsub7 37 rfl rfl
theorem zw1475 : Cond.instanceMethod ⟨"TemplateHouse$Gen", "addPart", "(IIIII)V"⟩ ∈ zT := zsub7 35 (by decide +kernel) (by decide +kernel)
theorem zw1476 : Cond.selects "TemplateHouse$Gen" ⟨"TemplateHouse$Gen", "addPart", "(IIIII)V"⟩ ⟨"TemplateHouse$Gen", "addPart", "(IIIII)V"⟩ ∈ zT := zsub7 36 (by decide +kernel) (by decide +kernel)
abbrev cX2_paramOf : ByteArray := prog_4_method_15_code
abbrev yX2_paramOf : MethodName := ⟨"TemplateHouse$Gen", "paramOf", "(II)I"⟩
theorem dmX2_paramOf : zDv yX2_paramOf cX2_paramOf 5 (some .int) 2 := ⟨⟨⟨by decide +kernel, by decide +kernel, by decide +kernel⟩, zw1392, zw4⟩, zw1390, zw1391⟩
abbrev cX2_emit_ : ByteArray := prog_4_method_4_code
abbrev yX2_emit_ : MethodName := ⟨"TemplateHouse$Gen", "emit", "(II)V"⟩
theorem dmX2_emit_ : zDv yX2_emit_ cX2_emit_ 3 none 2 := ⟨⟨⟨by decide +kernel, by decide +kernel, by decide +kernel⟩, zw1397, zw4⟩, zw1395, zw1396⟩
abbrev cX10_flush : ByteArray := prog_12_method_8_code
abbrev yX10_flush : MethodName := ⟨"TemplateHouse$TextReader", "flush", "()I"⟩
theorem dmX10_flush : zDv yX10_flush cX10_flush 1 (some .int) 0 := ⟨⟨⟨by decide +kernel, by decide +kernel, by decide +kernel⟩, zw1407, zw8⟩, zw1406, zwp116⟩
abbrev cX10_comment : ByteArray := prog_12_method_11_code
abbrev yX10_comment : MethodName := ⟨"TemplateHouse$TextReader", "comment", "()V"⟩
theorem dmX10_comment : zDv yX10_comment cX10_comment 2 none 0 := ⟨⟨⟨by decide +kernel, by decide +kernel, by decide +kernel⟩, zw1419, zw8⟩, zw1418, zwp110⟩
abbrev cX10_restOfLine : ByteArray := prog_12_method_12_code
abbrev yX10_restOfLine : MethodName := ⟨"TemplateHouse$TextReader", "restOfLine", "(ZI)V"⟩
theorem dmX10_restOfLine : zDv yX10_restOfLine cX10_restOfLine 6 none 2 := ⟨⟨⟨by decide +kernel, by decide +kernel, by decide +kernel⟩, zw1424, zw8⟩, zw1423, zwp134⟩
abbrev cX10_joinLines : ByteArray := prog_12_method_14_code
abbrev yX10_joinLines : MethodName := ⟨"TemplateHouse$TextReader", "joinLines", "()V"⟩
theorem dmX10_joinLines : zDv yX10_joinLines cX10_joinLines 1 none 0 := ⟨⟨⟨by decide +kernel, by decide +kernel, by decide +kernel⟩, zw1428, zw8⟩, zw1427, zwp121⟩
abbrev cX2_emit___ : ByteArray := prog_4_method_6_code
abbrev yX2_emit___ : MethodName := ⟨"TemplateHouse$Gen", "emit", "(IIII)V"⟩
theorem dmX2_emit___ : zDv yX2_emit___ cX2_emit___ 5 none 4 := ⟨⟨⟨by decide +kernel, by decide +kernel, by decide +kernel⟩, zw1437, zw4⟩, zw1435, zw1436⟩
abbrev cX10_escape : ByteArray := prog_12_method_13_code
abbrev yX10_escape : MethodName := ⟨"TemplateHouse$TextReader", "escape", "(I)V"⟩
theorem dmX10_escape : zDv yX10_escape cX10_escape 5 none 1 := ⟨⟨⟨by decide +kernel, by decide +kernel, by decide +kernel⟩, zw1432, zw8⟩, zw1431, zwp114⟩
abbrev cX10_plainTag : ByteArray := prog_12_method_10_code
abbrev yX10_plainTag : MethodName := ⟨"TemplateHouse$TextReader", "plainTag", "(I)V"⟩
theorem dmX10_plainTag : zDv yX10_plainTag cX10_plainTag 4 none 1 := ⟨⟨⟨by decide +kernel, by decide +kernel, by decide +kernel⟩, zw1415, zw8⟩, zw1414, zwp130⟩
abbrev cX7_need : ByteArray := prog_9_method_17_code
abbrev yX7_need : MethodName := ⟨"TemplateHouse$Source", "need", "(I)V"⟩
theorem dmX7_need : zDv yX7_need cX7_need 2 none 1 := ⟨⟨⟨by decide +kernel, by decide +kernel, by decide +kernel⟩, zw1451, zw3⟩, zw1449, zw1450⟩
abbrev cX10_regionEnd : ByteArray := prog_12_method_20_code
abbrev yX10_regionEnd : MethodName := ⟨"TemplateHouse$TextReader", "regionEnd", "(II)I"⟩
theorem dmX10_regionEnd : zDv yX10_regionEnd cX10_regionEnd 5 (some .int) 2 := ⟨⟨⟨by decide +kernel, by decide +kernel, by decide +kernel⟩, zw1447, zw8⟩, zw1446, zwp133⟩
abbrev cX7_isName : ByteArray := prog_9_method_14_code
abbrev yX7_isName : MethodName := ⟨"TemplateHouse$Source", "isName", "(ILTemplateHouse$Names;I)Z"⟩
theorem dmX7_isName : zDv yX7_isName cX7_isName 5 (some .boolean) 3 := ⟨⟨⟨by decide +kernel, by decide +kernel, by decide +kernel⟩, zw1466, zw3⟩, zw1464, zw1465⟩
abbrev cX2_addPart : ByteArray := prog_4_method_12_code
abbrev yX2_addPart : MethodName := ⟨"TemplateHouse$Gen", "addPart", "(IIIII)V"⟩
theorem dmX2_addPart : zDv yX2_addPart cX2_addPart 7 none 5 := ⟨⟨⟨by decide +kernel, by decide +kernel, by decide +kernel⟩, zw1477, zw4⟩, zw1475, zw1476⟩
theorem dX2_paramOf_0 : decode cX2_paramOf 0 = .ok (.iload_n 1, 1) := by decide +kernel
theorem dX2_paramOf_1 : decode cX2_paramOf 1 = .ok (.ifCond .lt 14, 3) := by decide +kernel
theorem dX2_paramOf_15 : decode cX2_paramOf 15 = .ok (.iconst 0, 1) := by decide +kernel
theorem dX2_paramOf_16 : decode cX2_paramOf 16 = .ok (.goto 11, 3) := by decide +kernel
theorem dX2_paramOf_27 : decode cX2_paramOf 27 = .ok (.istore_n 3, 1) := by decide +kernel
theorem dX2_paramOf_28 : decode cX2_paramOf 28 = .ok (.iconst 0, 1) := by decide +kernel
theorem dX2_paramOf_29 : decode cX2_paramOf 29 = .ok (.istore 4, 2) := by decide +kernel
theorem dX2_paramOf_31 : decode cX2_paramOf 31 = .ok (.iload 4, 2) := by decide +kernel
theorem dX2_paramOf_33 : decode cX2_paramOf 33 = .ok (.iload_n 3, 1) := by decide +kernel
theorem dX2_paramOf_34 : decode cX2_paramOf 34 = .ok (.if_icmp .ge 45, 3) := by decide +kernel
theorem dX2_paramOf_79 : decode cX2_paramOf 79 = .ok (.iconst (-1), 1) := by decide +kernel
theorem dX2_paramOf_80 : decode cX2_paramOf 80 = .ok (.ireturn, 1) := by decide +kernel
theorem dX2_paramOf_37 : decode cX2_paramOf 37 = .ok (.iload_n 1, 1) := by decide +kernel
theorem dX2_paramOf_38 : decode cX2_paramOf 38 = .ok (.iconst 3, 1) := by decide +kernel
theorem dX2_paramOf_39 : decode cX2_paramOf 39 = .ok (.iadd, 1) := by decide +kernel
theorem dX2_paramOf_40 : decode cX2_paramOf 40 = .ok (.iconst 2, 1) := by decide +kernel
theorem dX2_paramOf_41 : decode cX2_paramOf 41 = .ok (.iload 4, 2) := by decide +kernel
theorem dX2_paramOf_43 : decode cX2_paramOf 43 = .ok (.imul, 1) := by decide +kernel
theorem dX2_paramOf_44 : decode cX2_paramOf 44 = .ok (.iadd, 1) := by decide +kernel
theorem dX2_paramOf_45 : decode cX2_paramOf 45 = .ok (.aload_n 0, 1) := by decide +kernel
theorem dX2_paramOf_46 : decode cX2_paramOf 46 = .ok (.getfield 26, 3) := by decide +kernel
theorem dX2_paramOf_49 : decode cX2_paramOf 49 = .ok (.arraylength, 1) := by decide +kernel
theorem dX2_paramOf_50 : decode cX2_paramOf 50 = .ok (.if_icmp .ge 29, 3) := by decide +kernel
theorem dX2_paramOf_53 : decode cX2_paramOf 53 = .ok (.aload_n 0, 1) := by decide +kernel
theorem dX2_paramOf_54 : decode cX2_paramOf 54 = .ok (.getfield 26, 3) := by decide +kernel
theorem dX2_paramOf_57 : decode cX2_paramOf 57 = .ok (.iload_n 1, 1) := by decide +kernel
theorem dX2_paramOf_58 : decode cX2_paramOf 58 = .ok (.iconst 3, 1) := by decide +kernel
theorem dX2_paramOf_59 : decode cX2_paramOf 59 = .ok (.iadd, 1) := by decide +kernel
theorem dX2_paramOf_60 : decode cX2_paramOf 60 = .ok (.iconst 2, 1) := by decide +kernel
theorem dX2_paramOf_61 : decode cX2_paramOf 61 = .ok (.iload 4, 2) := by decide +kernel
theorem dX2_paramOf_63 : decode cX2_paramOf 63 = .ok (.imul, 1) := by decide +kernel
theorem dX2_paramOf_64 : decode cX2_paramOf 64 = .ok (.iadd, 1) := by decide +kernel
theorem dX2_paramOf_65 : decode cX2_paramOf 65 = .ok (.iaload, 1) := by decide +kernel
theorem dX2_paramOf_66 : decode cX2_paramOf 66 = .ok (.iload_n 2, 1) := by decide +kernel
theorem dX2_paramOf_67 : decode cX2_paramOf 67 = .ok (.if_icmp .ne 6, 3) := by decide +kernel
theorem dX2_paramOf_73 : decode cX2_paramOf 73 = .ok (.iinc 4 1, 3) := by decide +kernel
theorem dX2_paramOf_76 : decode cX2_paramOf 76 = .ok (.goto (-45), 3) := by decide +kernel
theorem dX2_paramOf_70 : decode cX2_paramOf 70 = .ok (.iload 4, 2) := by decide +kernel
theorem dX2_paramOf_72 : decode cX2_paramOf 72 = .ok (.ireturn, 1) := by decide +kernel
theorem dX2_paramOf_4 : decode cX2_paramOf 4 = .ok (.iload_n 1, 1) := by decide +kernel
theorem dX2_paramOf_5 : decode cX2_paramOf 5 = .ok (.iconst 2, 1) := by decide +kernel
theorem dX2_paramOf_6 : decode cX2_paramOf 6 = .ok (.iadd, 1) := by decide +kernel
theorem dX2_paramOf_7 : decode cX2_paramOf 7 = .ok (.aload_n 0, 1) := by decide +kernel
theorem dX2_paramOf_8 : decode cX2_paramOf 8 = .ok (.getfield 26, 3) := by decide +kernel
theorem dX2_paramOf_11 : decode cX2_paramOf 11 = .ok (.arraylength, 1) := by decide +kernel
theorem dX2_paramOf_12 : decode cX2_paramOf 12 = .ok (.if_icmp .lt 7, 3) := by decide +kernel
theorem dX2_paramOf_19 : decode cX2_paramOf 19 = .ok (.aload_n 0, 1) := by decide +kernel
theorem dX2_paramOf_20 : decode cX2_paramOf 20 = .ok (.getfield 26, 3) := by decide +kernel
theorem dX2_paramOf_23 : decode cX2_paramOf 23 = .ok (.iload_n 1, 1) := by decide +kernel
theorem dX2_paramOf_24 : decode cX2_paramOf 24 = .ok (.iconst 2, 1) := by decide +kernel
theorem dX2_paramOf_25 : decode cX2_paramOf 25 = .ok (.iadd, 1) := by decide +kernel
theorem dX2_paramOf_26 : decode cX2_paramOf 26 = .ok (.iaload, 1) := by decide +kernel
theorem dX2_emit__0 : decode cX2_emit_ 0 = .ok (.aload_n 0, 1) := by decide +kernel
theorem dX2_emit__1 : decode cX2_emit_ 1 = .ok (.iload_n 1, 1) := by decide +kernel
theorem dX2_emit__2 : decode cX2_emit_ 2 = .ok (.invokevirtual 88, 3) := by decide +kernel
theorem dX2_emit__5 : decode cX2_emit_ 5 = .ok (.aload_n 0, 1) := by decide +kernel
theorem dX2_emit__6 : decode cX2_emit_ 6 = .ok (.iload_n 2, 1) := by decide +kernel
theorem dX2_emit__7 : decode cX2_emit_ 7 = .ok (.invokevirtual 88, 3) := by decide +kernel
theorem dX2_emit__10 : decode cX2_emit_ 10 = .ok (.return_, 1) := by decide +kernel
theorem dX10_flush_0 : decode cX10_flush 0 = .ok (.aload_n 0, 1) := by decide +kernel
theorem dX10_flush_1 : decode cX10_flush 1 = .ok (.getfield 37, 3) := by decide +kernel
theorem dX10_flush_4 : decode cX10_flush 4 = .ok (.ifCond .ne 5, 3) := by decide +kernel
theorem dX10_flush_9 : decode cX10_flush 9 = .ok (.aload_n 0, 1) := by decide +kernel
theorem dX10_flush_10 : decode cX10_flush 10 = .ok (.getfield 62, 3) := by decide +kernel
theorem dX10_flush_13 : decode cX10_flush 13 = .ok (.iconst 1, 1) := by decide +kernel
theorem dX10_flush_14 : decode cX10_flush 14 = .ok (.aload_n 0, 1) := by decide +kernel
theorem dX10_flush_15 : decode cX10_flush 15 = .ok (.getfield 34, 3) := by decide +kernel
theorem dX10_flush_18 : decode cX10_flush 18 = .ok (.aload_n 0, 1) := by decide +kernel
theorem dX10_flush_19 : decode cX10_flush 19 = .ok (.getfield 37, 3) := by decide +kernel
theorem dX10_flush_22 : decode cX10_flush 22 = .ok (.invokevirtual 93, 3) := by decide +kernel
theorem dX10_flush_25 : decode cX10_flush 25 = .ok (.aload_n 0, 1) := by decide +kernel
theorem dX10_flush_26 : decode cX10_flush 26 = .ok (.iconst 0, 1) := by decide +kernel
theorem dX10_flush_27 : decode cX10_flush 27 = .ok (.putfield 37, 3) := by decide +kernel
theorem dX10_flush_30 : decode cX10_flush 30 = .ok (.aload_n 0, 1) := by decide +kernel
theorem dX10_flush_31 : decode cX10_flush 31 = .ok (.getfield 62, 3) := by decide +kernel
theorem dX10_flush_34 : decode cX10_flush 34 = .ok (.getfield 118, 3) := by decide +kernel
theorem dX10_flush_37 : decode cX10_flush 37 = .ok (.iconst 1, 1) := by decide +kernel
theorem dX10_flush_38 : decode cX10_flush 38 = .ok (.isub, 1) := by decide +kernel
theorem dX10_flush_39 : decode cX10_flush 39 = .ok (.ireturn, 1) := by decide +kernel
theorem dX10_flush_7 : decode cX10_flush 7 = .ok (.iconst (-1), 1) := by decide +kernel
theorem dX10_flush_8 : decode cX10_flush 8 = .ok (.ireturn, 1) := by decide +kernel
theorem dX10_comment_0 : decode cX10_comment 0 = .ok (.aload_n 0, 1) := by decide +kernel
theorem dX10_comment_1 : decode cX10_comment 1 = .ok (.getfield 58, 3) := by decide +kernel
theorem dX10_comment_4 : decode cX10_comment 4 = .ok (.getfield 75, 3) := by decide +kernel
theorem dX10_comment_7 : decode cX10_comment 7 = .ok (.iconst 1, 1) := by decide +kernel
theorem dX10_comment_8 : decode cX10_comment 8 = .ok (.iadd, 1) := by decide +kernel
theorem dX10_comment_9 : decode cX10_comment 9 = .ok (.istore_n 1, 1) := by decide +kernel
theorem dX10_comment_10 : decode cX10_comment 10 = .ok (.iload_n 1, 1) := by decide +kernel
theorem dX10_comment_11 : decode cX10_comment 11 = .ok (.aload_n 0, 1) := by decide +kernel
theorem dX10_comment_12 : decode cX10_comment 12 = .ok (.getfield 58, 3) := by decide +kernel
theorem dX10_comment_15 : decode cX10_comment 15 = .ok (.getfield 80, 3) := by decide +kernel
theorem dX10_comment_18 : decode cX10_comment 18 = .ok (.if_icmp .ge 39, 3) := by decide +kernel
theorem dX10_comment_57 : decode cX10_comment 57 = .ok (.iload_n 1, 1) := by decide +kernel
theorem dX10_comment_58 : decode cX10_comment 58 = .ok (.aload_n 0, 1) := by decide +kernel
theorem dX10_comment_59 : decode cX10_comment 59 = .ok (.getfield 58, 3) := by decide +kernel
theorem dX10_comment_62 : decode cX10_comment 62 = .ok (.getfield 80, 3) := by decide +kernel
theorem dX10_comment_65 : decode cX10_comment 65 = .ok (.if_icmp .lt 25, 3) := by decide +kernel
theorem dX10_comment_90 : decode cX10_comment 90 = .ok (.aload_n 0, 1) := by decide +kernel
theorem dX10_comment_91 : decode cX10_comment 91 = .ok (.getfield 58, 3) := by decide +kernel
theorem dX10_comment_94 : decode cX10_comment 94 = .ok (.iload_n 1, 1) := by decide +kernel
theorem dX10_comment_95 : decode cX10_comment 95 = .ok (.iconst 2, 1) := by decide +kernel
theorem dX10_comment_96 : decode cX10_comment 96 = .ok (.iadd, 1) := by decide +kernel
theorem dX10_comment_97 : decode cX10_comment 97 = .ok (.putfield 75, 3) := by decide +kernel
theorem dX10_comment_100 : decode cX10_comment 100 = .ok (.return_, 1) := by decide +kernel
theorem dX10_comment_68 : decode cX10_comment 68 = .ok (.aload_n 0, 1) := by decide +kernel
theorem dX10_comment_69 : decode cX10_comment 69 = .ok (.getfield 58, 3) := by decide +kernel
theorem dX10_comment_72 : decode cX10_comment 72 = .ok (.iconst 1, 1) := by decide +kernel
theorem dX10_comment_73 : decode cX10_comment 73 = .ok (.aload_n 0, 1) := by decide +kernel
theorem dX10_comment_74 : decode cX10_comment 74 = .ok (.getfield 58, 3) := by decide +kernel
theorem dX10_comment_77 : decode cX10_comment 77 = .ok (.aload_n 0, 1) := by decide +kernel
theorem dX10_comment_78 : decode cX10_comment 78 = .ok (.getfield 58, 3) := by decide +kernel
theorem dX10_comment_81 : decode cX10_comment 81 = .ok (.getfield 80, 3) := by decide +kernel
theorem dX10_comment_84 : decode cX10_comment 84 = .ok (.invokevirtual 162, 3) := by decide +kernel
theorem dX10_comment_87 : decode cX10_comment 87 = .ok (.invokevirtual 104, 3) := by decide +kernel
theorem dX10_comment_21 : decode cX10_comment 21 = .ok (.aload_n 0, 1) := by decide +kernel
theorem dX10_comment_22 : decode cX10_comment 22 = .ok (.getfield 58, 3) := by decide +kernel
theorem dX10_comment_25 : decode cX10_comment 25 = .ok (.iload_n 1, 1) := by decide +kernel
theorem dX10_comment_26 : decode cX10_comment 26 = .ok (.invokevirtual 108, 3) := by decide +kernel
theorem dX10_comment_29 : decode cX10_comment 29 = .ok (.bipush 33, 2) := by decide +kernel
theorem dX10_comment_31 : decode cX10_comment 31 = .ok (.if_icmp .ne 20, 3) := by decide +kernel
theorem dX10_comment_51 : decode cX10_comment 51 = .ok (.iinc 1 1, 3) := by decide +kernel
theorem dX10_comment_54 : decode cX10_comment 54 = .ok (.goto (-44), 3) := by decide +kernel
theorem dX10_comment_34 : decode cX10_comment 34 = .ok (.aload_n 0, 1) := by decide +kernel
theorem dX10_comment_35 : decode cX10_comment 35 = .ok (.getfield 58, 3) := by decide +kernel
theorem dX10_comment_38 : decode cX10_comment 38 = .ok (.iload_n 1, 1) := by decide +kernel
theorem dX10_comment_39 : decode cX10_comment 39 = .ok (.iconst 1, 1) := by decide +kernel
theorem dX10_comment_40 : decode cX10_comment 40 = .ok (.iadd, 1) := by decide +kernel
theorem dX10_comment_41 : decode cX10_comment 41 = .ok (.invokevirtual 108, 3) := by decide +kernel
theorem dX10_comment_44 : decode cX10_comment 44 = .ok (.aload_n 0, 1) := by decide +kernel
theorem dX10_comment_45 : decode cX10_comment 45 = .ok (.getfield 15, 3) := by decide +kernel
theorem dX10_comment_48 : decode cX10_comment 48 = .ok (.if_icmp .eq 9, 3) := by decide +kernel
theorem dX10_restOfLine_0 : decode cX10_restOfLine 0 = .ok (.aload_n 0, 1) := by decide +kernel
theorem dX10_restOfLine_1 : decode cX10_restOfLine 1 = .ok (.getfield 58, 3) := by decide +kernel
theorem dX10_restOfLine_4 : decode cX10_restOfLine 4 = .ok (.getfield 75, 3) := by decide +kernel
theorem dX10_restOfLine_7 : decode cX10_restOfLine 7 = .ok (.istore_n 3, 1) := by decide +kernel
theorem dX10_restOfLine_8 : decode cX10_restOfLine 8 = .ok (.iload_n 3, 1) := by decide +kernel
theorem dX10_restOfLine_9 : decode cX10_restOfLine 9 = .ok (.aload_n 0, 1) := by decide +kernel
theorem dX10_restOfLine_10 : decode cX10_restOfLine 10 = .ok (.getfield 58, 3) := by decide +kernel
theorem dX10_restOfLine_13 : decode cX10_restOfLine 13 = .ok (.getfield 80, 3) := by decide +kernel
theorem dX10_restOfLine_16 : decode cX10_restOfLine 16 = .ok (.if_icmp .ge 35, 3) := by decide +kernel
theorem dX10_restOfLine_51 : decode cX10_restOfLine 51 = .ok (.aload_n 0, 1) := by decide +kernel
theorem dX10_restOfLine_52 : decode cX10_restOfLine 52 = .ok (.getfield 58, 3) := by decide +kernel
theorem dX10_restOfLine_55 : decode cX10_restOfLine 55 = .ok (.iload_n 3, 1) := by decide +kernel
theorem dX10_restOfLine_56 : decode cX10_restOfLine 56 = .ok (.invokevirtual 108, 3) := by decide +kernel
theorem dX10_restOfLine_59 : decode cX10_restOfLine 59 = .ok (.bipush 10, 2) := by decide +kernel
theorem dX10_restOfLine_61 : decode cX10_restOfLine 61 = .ok (.if_icmp .ne 7, 3) := by decide +kernel
theorem dX10_restOfLine_69 : decode cX10_restOfLine 69 = .ok (.istore 4, 2) := by decide +kernel
theorem dX10_restOfLine_71 : decode cX10_restOfLine 71 = .ok (.iload_n 3, 1) := by decide +kernel
theorem dX10_restOfLine_72 : decode cX10_restOfLine 72 = .ok (.aload_n 0, 1) := by decide +kernel
theorem dX10_restOfLine_73 : decode cX10_restOfLine 73 = .ok (.getfield 58, 3) := by decide +kernel
theorem dX10_restOfLine_76 : decode cX10_restOfLine 76 = .ok (.getfield 80, 3) := by decide +kernel
theorem dX10_restOfLine_79 : decode cX10_restOfLine 79 = .ok (.if_icmp .ge 23, 3) := by decide +kernel
theorem dX10_restOfLine_107 : decode cX10_restOfLine 107 = .ok (.istore 5, 2) := by decide +kernel
theorem dX10_restOfLine_109 : decode cX10_restOfLine 109 = .ok (.aload_n 0, 1) := by decide +kernel
theorem dX10_restOfLine_110 : decode cX10_restOfLine 110 = .ok (.iload_n 1, 1) := by decide +kernel
theorem dX10_restOfLine_111 : decode cX10_restOfLine 111 = .ok (.ifCond .eq 12, 3) := by decide +kernel
theorem dX10_restOfLine_124 : decode cX10_restOfLine 124 = .ok (.putfield 40, 3) := by decide +kernel
theorem dX10_restOfLine_127 : decode cX10_restOfLine 127 = .ok (.iload_n 1, 1) := by decide +kernel
theorem dX10_restOfLine_128 : decode cX10_restOfLine 128 = .ok (.ifCond .eq 49, 3) := by decide +kernel
theorem dX10_restOfLine_177 : decode cX10_restOfLine 177 = .ok (.return_, 1) := by decide +kernel
theorem dX10_restOfLine_131 : decode cX10_restOfLine 131 = .ok (.iload 4, 2) := by decide +kernel
theorem dX10_restOfLine_133 : decode cX10_restOfLine 133 = .ok (.ifCond .ne 8, 3) := by decide +kernel
theorem dX10_restOfLine_141 : decode cX10_restOfLine 141 = .ok (.iload_n 2, 1) := by decide +kernel
theorem dX10_restOfLine_142 : decode cX10_restOfLine 142 = .ok (.iconst (-1), 1) := by decide +kernel
theorem dX10_restOfLine_143 : decode cX10_restOfLine 143 = .ok (.if_icmp .eq 15, 3) := by decide +kernel
theorem dX10_restOfLine_158 : decode cX10_restOfLine 158 = .ok (.aload_n 0, 1) := by decide +kernel
theorem dX10_restOfLine_159 : decode cX10_restOfLine 159 = .ok (.getfield 58, 3) := by decide +kernel
theorem dX10_restOfLine_162 : decode cX10_restOfLine 162 = .ok (.iload 4, 2) := by decide +kernel
theorem dX10_restOfLine_164 : decode cX10_restOfLine 164 = .ok (.ifCond .eq 9, 3) := by decide +kernel
theorem dX10_restOfLine_174 : decode cX10_restOfLine 174 = .ok (.putfield 75, 3) := by decide +kernel
theorem dX10_restOfLine_173 : decode cX10_restOfLine 173 = .ok (.iload_n 3, 1) := by decide +kernel
theorem dX10_restOfLine_167 : decode cX10_restOfLine 167 = .ok (.iload_n 3, 1) := by decide +kernel
theorem dX10_restOfLine_168 : decode cX10_restOfLine 168 = .ok (.iconst 1, 1) := by decide +kernel
theorem dX10_restOfLine_169 : decode cX10_restOfLine 169 = .ok (.iadd, 1) := by decide +kernel
theorem dX10_restOfLine_170 : decode cX10_restOfLine 170 = .ok (.goto 4, 3) := by decide +kernel
theorem dX10_restOfLine_146 : decode cX10_restOfLine 146 = .ok (.aload_n 0, 1) := by decide +kernel
theorem dX10_restOfLine_147 : decode cX10_restOfLine 147 = .ok (.getfield 62, 3) := by decide +kernel
theorem dX10_restOfLine_150 : decode cX10_restOfLine 150 = .ok (.getfield 165, 3) := by decide +kernel
theorem dX10_restOfLine_153 : decode cX10_restOfLine 153 = .ok (.iload_n 2, 1) := by decide +kernel
theorem dX10_restOfLine_154 : decode cX10_restOfLine 154 = .ok (.iconst 0, 1) := by decide +kernel
theorem dX10_restOfLine_155 : decode cX10_restOfLine 155 = .ok (.invokestatic 169, 3) := by decide +kernel
theorem dX10_restOfLine_136 : decode cX10_restOfLine 136 = .ok (.iload 5, 2) := by decide +kernel
theorem dX10_restOfLine_138 : decode cX10_restOfLine 138 = .ok (.ifCond .eq 39, 3) := by decide +kernel
theorem dX10_restOfLine_123 : decode cX10_restOfLine 123 = .ok (.iconst 0, 1) := by decide +kernel
theorem dX10_restOfLine_114 : decode cX10_restOfLine 114 = .ok (.iload 4, 2) := by decide +kernel
theorem dX10_restOfLine_116 : decode cX10_restOfLine 116 = .ok (.ifCond .eq 7, 3) := by decide +kernel
theorem dX10_restOfLine_119 : decode cX10_restOfLine 119 = .ok (.iconst 1, 1) := by decide +kernel
theorem dX10_restOfLine_120 : decode cX10_restOfLine 120 = .ok (.goto 4, 3) := by decide +kernel
theorem dX10_restOfLine_102 : decode cX10_restOfLine 102 = .ok (.iconst 1, 1) := by decide +kernel
theorem dX10_restOfLine_103 : decode cX10_restOfLine 103 = .ok (.goto 4, 3) := by decide +kernel
theorem dX10_restOfLine_82 : decode cX10_restOfLine 82 = .ok (.aload_n 0, 1) := by decide +kernel
theorem dX10_restOfLine_83 : decode cX10_restOfLine 83 = .ok (.getfield 30, 3) := by decide +kernel
theorem dX10_restOfLine_86 : decode cX10_restOfLine 86 = .ok (.ifCond .eq 20, 3) := by decide +kernel
theorem dX10_restOfLine_106 : decode cX10_restOfLine 106 = .ok (.iconst 0, 1) := by decide +kernel
theorem dX10_restOfLine_89 : decode cX10_restOfLine 89 = .ok (.aload_n 0, 1) := by decide +kernel
theorem dX10_restOfLine_90 : decode cX10_restOfLine 90 = .ok (.getfield 58, 3) := by decide +kernel
theorem dX10_restOfLine_93 : decode cX10_restOfLine 93 = .ok (.iload_n 3, 1) := by decide +kernel
theorem dX10_restOfLine_94 : decode cX10_restOfLine 94 = .ok (.invokevirtual 108, 3) := by decide +kernel
theorem dX10_restOfLine_97 : decode cX10_restOfLine 97 = .ok (.bipush 125, 2) := by decide +kernel
theorem dX10_restOfLine_99 : decode cX10_restOfLine 99 = .ok (.if_icmp .ne 7, 3) := by decide +kernel
theorem dX10_restOfLine_68 : decode cX10_restOfLine 68 = .ok (.iconst 0, 1) := by decide +kernel
theorem dX10_restOfLine_64 : decode cX10_restOfLine 64 = .ok (.iconst 1, 1) := by decide +kernel
theorem dX10_restOfLine_65 : decode cX10_restOfLine 65 = .ok (.goto 4, 3) := by decide +kernel
theorem dX10_restOfLine_19 : decode cX10_restOfLine 19 = .ok (.aload_n 0, 1) := by decide +kernel
theorem dX10_restOfLine_20 : decode cX10_restOfLine 20 = .ok (.getfield 58, 3) := by decide +kernel
theorem dX10_restOfLine_23 : decode cX10_restOfLine 23 = .ok (.iload_n 3, 1) := by decide +kernel
theorem dX10_restOfLine_24 : decode cX10_restOfLine 24 = .ok (.invokevirtual 108, 3) := by decide +kernel
theorem dX10_restOfLine_27 : decode cX10_restOfLine 27 = .ok (.bipush 32, 2) := by decide +kernel
theorem dX10_restOfLine_29 : decode cX10_restOfLine 29 = .ok (.if_icmp .eq 16, 3) := by decide +kernel
theorem dX10_restOfLine_45 : decode cX10_restOfLine 45 = .ok (.iinc 3 1, 3) := by decide +kernel
theorem dX10_restOfLine_48 : decode cX10_restOfLine 48 = .ok (.goto (-40), 3) := by decide +kernel
theorem dX10_restOfLine_32 : decode cX10_restOfLine 32 = .ok (.aload_n 0, 1) := by decide +kernel
theorem dX10_restOfLine_33 : decode cX10_restOfLine 33 = .ok (.getfield 58, 3) := by decide +kernel
theorem dX10_restOfLine_36 : decode cX10_restOfLine 36 = .ok (.iload_n 3, 1) := by decide +kernel
theorem dX10_restOfLine_37 : decode cX10_restOfLine 37 = .ok (.invokevirtual 108, 3) := by decide +kernel
theorem dX10_restOfLine_40 : decode cX10_restOfLine 40 = .ok (.bipush 9, 2) := by decide +kernel
theorem dX10_restOfLine_42 : decode cX10_restOfLine 42 = .ok (.if_icmp .ne 9, 3) := by decide +kernel
theorem dX10_joinLines_0 : decode cX10_joinLines 0 = .ok (.aload_n 0, 1) := by decide +kernel
theorem dX10_joinLines_1 : decode cX10_joinLines 1 = .ok (.getfield 58, 3) := by decide +kernel
theorem dX10_joinLines_4 : decode cX10_joinLines 4 = .ok (.dup, 1) := by decide +kernel
theorem dX10_joinLines_5 : decode cX10_joinLines 5 = .ok (.getfield 75, 3) := by decide +kernel
theorem dX10_joinLines_8 : decode cX10_joinLines 8 = .ok (.iconst 2, 1) := by decide +kernel
theorem dX10_joinLines_9 : decode cX10_joinLines 9 = .ok (.iadd, 1) := by decide +kernel
theorem dX10_joinLines_10 : decode cX10_joinLines 10 = .ok (.putfield 75, 3) := by decide +kernel
theorem dX10_joinLines_13 : decode cX10_joinLines 13 = .ok (.aload_n 0, 1) := by decide +kernel
theorem dX10_joinLines_14 : decode cX10_joinLines 14 = .ok (.getfield 58, 3) := by decide +kernel
theorem dX10_joinLines_17 : decode cX10_joinLines 17 = .ok (.invokevirtual 83, 3) := by decide +kernel
theorem dX10_joinLines_20 : decode cX10_joinLines 20 = .ok (.aload_n 0, 1) := by decide +kernel
theorem dX10_joinLines_21 : decode cX10_joinLines 21 = .ok (.getfield 15, 3) := by decide +kernel
theorem dX10_joinLines_24 : decode cX10_joinLines 24 = .ok (.if_icmp .eq 18, 3) := by decide +kernel
theorem dX10_joinLines_42 : decode cX10_joinLines 42 = .ok (.aload_n 0, 1) := by decide +kernel
theorem dX10_joinLines_43 : decode cX10_joinLines 43 = .ok (.getfield 58, 3) := by decide +kernel
theorem dX10_joinLines_46 : decode cX10_joinLines 46 = .ok (.dup, 1) := by decide +kernel
theorem dX10_joinLines_47 : decode cX10_joinLines 47 = .ok (.getfield 75, 3) := by decide +kernel
theorem dX10_joinLines_50 : decode cX10_joinLines 50 = .ok (.iconst 1, 1) := by decide +kernel
theorem dX10_joinLines_51 : decode cX10_joinLines 51 = .ok (.iadd, 1) := by decide +kernel
theorem dX10_joinLines_52 : decode cX10_joinLines 52 = .ok (.putfield 75, 3) := by decide +kernel
theorem dX10_joinLines_55 : decode cX10_joinLines 55 = .ok (.aload_n 0, 1) := by decide +kernel
theorem dX10_joinLines_56 : decode cX10_joinLines 56 = .ok (.getfield 58, 3) := by decide +kernel
theorem dX10_joinLines_59 : decode cX10_joinLines 59 = .ok (.getfield 75, 3) := by decide +kernel
theorem dX10_joinLines_62 : decode cX10_joinLines 62 = .ok (.aload_n 0, 1) := by decide +kernel
theorem dX10_joinLines_63 : decode cX10_joinLines 63 = .ok (.getfield 58, 3) := by decide +kernel
theorem dX10_joinLines_66 : decode cX10_joinLines 66 = .ok (.getfield 80, 3) := by decide +kernel
theorem dX10_joinLines_69 : decode cX10_joinLines 69 = .ok (.if_icmp .ge 43, 3) := by decide +kernel
theorem dX10_joinLines_112 : decode cX10_joinLines 112 = .ok (.aload_n 0, 1) := by decide +kernel
theorem dX10_joinLines_113 : decode cX10_joinLines 113 = .ok (.getfield 58, 3) := by decide +kernel
theorem dX10_joinLines_116 : decode cX10_joinLines 116 = .ok (.invokevirtual 83, 3) := by decide +kernel
theorem dX10_joinLines_119 : decode cX10_joinLines 119 = .ok (.bipush 10, 2) := by decide +kernel
theorem dX10_joinLines_121 : decode cX10_joinLines 121 = .ok (.if_icmp .eq 18, 3) := by decide +kernel
theorem dX10_joinLines_139 : decode cX10_joinLines 139 = .ok (.aload_n 0, 1) := by decide +kernel
theorem dX10_joinLines_140 : decode cX10_joinLines 140 = .ok (.getfield 58, 3) := by decide +kernel
theorem dX10_joinLines_143 : decode cX10_joinLines 143 = .ok (.dup, 1) := by decide +kernel
theorem dX10_joinLines_144 : decode cX10_joinLines 144 = .ok (.getfield 75, 3) := by decide +kernel
theorem dX10_joinLines_147 : decode cX10_joinLines 147 = .ok (.iconst 1, 1) := by decide +kernel
theorem dX10_joinLines_148 : decode cX10_joinLines 148 = .ok (.iadd, 1) := by decide +kernel
theorem dX10_joinLines_149 : decode cX10_joinLines 149 = .ok (.putfield 75, 3) := by decide +kernel
theorem dX10_joinLines_152 : decode cX10_joinLines 152 = .ok (.aload_n 0, 1) := by decide +kernel
theorem dX10_joinLines_153 : decode cX10_joinLines 153 = .ok (.getfield 58, 3) := by decide +kernel
theorem dX10_joinLines_156 : decode cX10_joinLines 156 = .ok (.getfield 75, 3) := by decide +kernel
theorem dX10_joinLines_159 : decode cX10_joinLines 159 = .ok (.aload_n 0, 1) := by decide +kernel
theorem dX10_joinLines_160 : decode cX10_joinLines 160 = .ok (.getfield 58, 3) := by decide +kernel
theorem dX10_joinLines_163 : decode cX10_joinLines 163 = .ok (.getfield 80, 3) := by decide +kernel
theorem dX10_joinLines_166 : decode cX10_joinLines 166 = .ok (.if_icmp .ge 43, 3) := by decide +kernel
theorem dX10_joinLines_209 : decode cX10_joinLines 209 = .ok (.return_, 1) := by decide +kernel
theorem dX10_joinLines_169 : decode cX10_joinLines 169 = .ok (.aload_n 0, 1) := by decide +kernel
theorem dX10_joinLines_170 : decode cX10_joinLines 170 = .ok (.getfield 58, 3) := by decide +kernel
theorem dX10_joinLines_173 : decode cX10_joinLines 173 = .ok (.invokevirtual 83, 3) := by decide +kernel
theorem dX10_joinLines_176 : decode cX10_joinLines 176 = .ok (.bipush 32, 2) := by decide +kernel
theorem dX10_joinLines_178 : decode cX10_joinLines 178 = .ok (.if_icmp .eq 15, 3) := by decide +kernel
theorem dX10_joinLines_193 : decode cX10_joinLines 193 = .ok (.aload_n 0, 1) := by decide +kernel
theorem dX10_joinLines_194 : decode cX10_joinLines 194 = .ok (.getfield 58, 3) := by decide +kernel
theorem dX10_joinLines_197 : decode cX10_joinLines 197 = .ok (.dup, 1) := by decide +kernel
theorem dX10_joinLines_198 : decode cX10_joinLines 198 = .ok (.getfield 75, 3) := by decide +kernel
theorem dX10_joinLines_201 : decode cX10_joinLines 201 = .ok (.iconst 1, 1) := by decide +kernel
theorem dX10_joinLines_202 : decode cX10_joinLines 202 = .ok (.iadd, 1) := by decide +kernel
theorem dX10_joinLines_203 : decode cX10_joinLines 203 = .ok (.putfield 75, 3) := by decide +kernel
theorem dX10_joinLines_206 : decode cX10_joinLines 206 = .ok (.goto (-54), 3) := by decide +kernel
theorem dX10_joinLines_181 : decode cX10_joinLines 181 = .ok (.aload_n 0, 1) := by decide +kernel
theorem dX10_joinLines_182 : decode cX10_joinLines 182 = .ok (.getfield 58, 3) := by decide +kernel
theorem dX10_joinLines_185 : decode cX10_joinLines 185 = .ok (.invokevirtual 83, 3) := by decide +kernel
theorem dX10_joinLines_188 : decode cX10_joinLines 188 = .ok (.bipush 9, 2) := by decide +kernel
theorem dX10_joinLines_190 : decode cX10_joinLines 190 = .ok (.if_icmp .ne 19, 3) := by decide +kernel
theorem dX10_joinLines_124 : decode cX10_joinLines 124 = .ok (.aload_n 0, 1) := by decide +kernel
theorem dX10_joinLines_125 : decode cX10_joinLines 125 = .ok (.getfield 58, 3) := by decide +kernel
theorem dX10_joinLines_128 : decode cX10_joinLines 128 = .ok (.iconst 1, 1) := by decide +kernel
theorem dX10_joinLines_129 : decode cX10_joinLines 129 = .ok (.aload_n 0, 1) := by decide +kernel
theorem dX10_joinLines_130 : decode cX10_joinLines 130 = .ok (.getfield 58, 3) := by decide +kernel
theorem dX10_joinLines_133 : decode cX10_joinLines 133 = .ok (.invokevirtual 90, 3) := by decide +kernel
theorem dX10_joinLines_136 : decode cX10_joinLines 136 = .ok (.invokevirtual 104, 3) := by decide +kernel
theorem dX10_joinLines_72 : decode cX10_joinLines 72 = .ok (.aload_n 0, 1) := by decide +kernel
theorem dX10_joinLines_73 : decode cX10_joinLines 73 = .ok (.getfield 58, 3) := by decide +kernel
theorem dX10_joinLines_76 : decode cX10_joinLines 76 = .ok (.invokevirtual 83, 3) := by decide +kernel
theorem dX10_joinLines_79 : decode cX10_joinLines 79 = .ok (.bipush 32, 2) := by decide +kernel
theorem dX10_joinLines_81 : decode cX10_joinLines 81 = .ok (.if_icmp .eq 15, 3) := by decide +kernel
theorem dX10_joinLines_96 : decode cX10_joinLines 96 = .ok (.aload_n 0, 1) := by decide +kernel
theorem dX10_joinLines_97 : decode cX10_joinLines 97 = .ok (.getfield 58, 3) := by decide +kernel
theorem dX10_joinLines_100 : decode cX10_joinLines 100 = .ok (.dup, 1) := by decide +kernel
theorem dX10_joinLines_101 : decode cX10_joinLines 101 = .ok (.getfield 75, 3) := by decide +kernel
theorem dX10_joinLines_104 : decode cX10_joinLines 104 = .ok (.iconst 1, 1) := by decide +kernel
theorem dX10_joinLines_105 : decode cX10_joinLines 105 = .ok (.iadd, 1) := by decide +kernel
theorem dX10_joinLines_106 : decode cX10_joinLines 106 = .ok (.putfield 75, 3) := by decide +kernel
theorem dX10_joinLines_109 : decode cX10_joinLines 109 = .ok (.goto (-54), 3) := by decide +kernel
theorem dX10_joinLines_84 : decode cX10_joinLines 84 = .ok (.aload_n 0, 1) := by decide +kernel
theorem dX10_joinLines_85 : decode cX10_joinLines 85 = .ok (.getfield 58, 3) := by decide +kernel
theorem dX10_joinLines_88 : decode cX10_joinLines 88 = .ok (.invokevirtual 83, 3) := by decide +kernel
theorem dX10_joinLines_91 : decode cX10_joinLines 91 = .ok (.bipush 9, 2) := by decide +kernel
theorem dX10_joinLines_93 : decode cX10_joinLines 93 = .ok (.if_icmp .ne 19, 3) := by decide +kernel
theorem dX10_joinLines_27 : decode cX10_joinLines 27 = .ok (.aload_n 0, 1) := by decide +kernel
theorem dX10_joinLines_28 : decode cX10_joinLines 28 = .ok (.getfield 58, 3) := by decide +kernel
theorem dX10_joinLines_31 : decode cX10_joinLines 31 = .ok (.iconst 1, 1) := by decide +kernel
theorem dX10_joinLines_32 : decode cX10_joinLines 32 = .ok (.aload_n 0, 1) := by decide +kernel
theorem dX10_joinLines_33 : decode cX10_joinLines 33 = .ok (.getfield 58, 3) := by decide +kernel
theorem dX10_joinLines_36 : decode cX10_joinLines 36 = .ok (.invokevirtual 90, 3) := by decide +kernel
theorem dX10_joinLines_39 : decode cX10_joinLines 39 = .ok (.invokevirtual 104, 3) := by decide +kernel
theorem dX2_emit____0 : decode cX2_emit___ 0 = .ok (.aload_n 0, 1) := by decide +kernel
theorem dX2_emit____1 : decode cX2_emit___ 1 = .ok (.iload_n 1, 1) := by decide +kernel
theorem dX2_emit____2 : decode cX2_emit___ 2 = .ok (.invokevirtual 88, 3) := by decide +kernel
theorem dX2_emit____5 : decode cX2_emit___ 5 = .ok (.aload_n 0, 1) := by decide +kernel
theorem dX2_emit____6 : decode cX2_emit___ 6 = .ok (.iload_n 2, 1) := by decide +kernel
theorem dX2_emit____7 : decode cX2_emit___ 7 = .ok (.invokevirtual 88, 3) := by decide +kernel
theorem dX2_emit____10 : decode cX2_emit___ 10 = .ok (.aload_n 0, 1) := by decide +kernel
theorem dX2_emit____11 : decode cX2_emit___ 11 = .ok (.iload_n 3, 1) := by decide +kernel
theorem dX2_emit____12 : decode cX2_emit___ 12 = .ok (.invokevirtual 88, 3) := by decide +kernel
theorem dX2_emit____15 : decode cX2_emit___ 15 = .ok (.aload_n 0, 1) := by decide +kernel
theorem dX2_emit____16 : decode cX2_emit___ 16 = .ok (.iload 4, 2) := by decide +kernel
theorem dX2_emit____18 : decode cX2_emit___ 18 = .ok (.invokevirtual 88, 3) := by decide +kernel
theorem dX2_emit____21 : decode cX2_emit___ 21 = .ok (.return_, 1) := by decide +kernel
theorem dX10_escape_0 : decode cX10_escape 0 = .ok (.aload_n 0, 1) := by decide +kernel
theorem dX10_escape_1 : decode cX10_escape 1 = .ok (.getfield 62, 3) := by decide +kernel
theorem dX10_escape_4 : decode cX10_escape 4 = .ok (.getfield 112, 3) := by decide +kernel
theorem dX10_escape_7 : decode cX10_escape 7 = .ok (.istore_n 2, 1) := by decide +kernel
theorem dX10_escape_8 : decode cX10_escape 8 = .ok (.iconst 0, 1) := by decide +kernel
theorem dX10_escape_9 : decode cX10_escape 9 = .ok (.istore_n 3, 1) := by decide +kernel
theorem dX10_escape_10 : decode cX10_escape 10 = .ok (.iload_n 3, 1) := by decide +kernel
theorem dX10_escape_11 : decode cX10_escape 11 = .ok (.sipush 4000, 3) := by decide +kernel
theorem dX10_escape_14 : decode cX10_escape 14 = .ok (.if_icmp .ge 126, 3) := by decide +kernel
theorem dX10_escape_140 : decode cX10_escape 140 = .ok (.aload_n 0, 1) := by decide +kernel
theorem dX10_escape_141 : decode cX10_escape 141 = .ok (.getfield 58, 3) := by decide +kernel
theorem dX10_escape_144 : decode cX10_escape 144 = .ok (.invokevirtual 83, 3) := by decide +kernel
theorem dX10_escape_147 : decode cX10_escape 147 = .ok (.aload_n 0, 1) := by decide +kernel
theorem dX10_escape_148 : decode cX10_escape 148 = .ok (.getfield 15, 3) := by decide +kernel
theorem dX10_escape_151 : decode cX10_escape 151 = .ok (.if_icmp .eq 18, 3) := by decide +kernel
theorem dX10_escape_169 : decode cX10_escape 169 = .ok (.aload_n 0, 1) := by decide +kernel
theorem dX10_escape_170 : decode cX10_escape 170 = .ok (.getfield 58, 3) := by decide +kernel
theorem dX10_escape_173 : decode cX10_escape 173 = .ok (.dup, 1) := by decide +kernel
theorem dX10_escape_174 : decode cX10_escape 174 = .ok (.getfield 75, 3) := by decide +kernel
theorem dX10_escape_177 : decode cX10_escape 177 = .ok (.iconst 1, 1) := by decide +kernel
theorem dX10_escape_178 : decode cX10_escape 178 = .ok (.iadd, 1) := by decide +kernel
theorem dX10_escape_179 : decode cX10_escape 179 = .ok (.putfield 75, 3) := by decide +kernel
theorem dX10_escape_182 : decode cX10_escape 182 = .ok (.aload_n 0, 1) := by decide +kernel
theorem dX10_escape_183 : decode cX10_escape 183 = .ok (.getfield 62, 3) := by decide +kernel
theorem dX10_escape_186 : decode cX10_escape 186 = .ok (.iconst 3, 1) := by decide +kernel
theorem dX10_escape_187 : decode cX10_escape 187 = .ok (.iload_n 1, 1) := by decide +kernel
theorem dX10_escape_188 : decode cX10_escape 188 = .ok (.iload_n 2, 1) := by decide +kernel
theorem dX10_escape_189 : decode cX10_escape 189 = .ok (.aload_n 0, 1) := by decide +kernel
theorem dX10_escape_190 : decode cX10_escape 190 = .ok (.getfield 62, 3) := by decide +kernel
theorem dX10_escape_193 : decode cX10_escape 193 = .ok (.getfield 112, 3) := by decide +kernel
theorem dX10_escape_196 : decode cX10_escape 196 = .ok (.iload_n 2, 1) := by decide +kernel
theorem dX10_escape_197 : decode cX10_escape 197 = .ok (.isub, 1) := by decide +kernel
theorem dX10_escape_198 : decode cX10_escape 198 = .ok (.invokevirtual 173, 3) := by decide +kernel
theorem dX10_escape_201 : decode cX10_escape 201 = .ok (.return_, 1) := by decide +kernel
theorem dX10_escape_154 : decode cX10_escape 154 = .ok (.aload_n 0, 1) := by decide +kernel
theorem dX10_escape_155 : decode cX10_escape 155 = .ok (.getfield 58, 3) := by decide +kernel
theorem dX10_escape_158 : decode cX10_escape 158 = .ok (.iconst 1, 1) := by decide +kernel
theorem dX10_escape_159 : decode cX10_escape 159 = .ok (.aload_n 0, 1) := by decide +kernel
theorem dX10_escape_160 : decode cX10_escape 160 = .ok (.getfield 58, 3) := by decide +kernel
theorem dX10_escape_163 : decode cX10_escape 163 = .ok (.invokevirtual 90, 3) := by decide +kernel
theorem dX10_escape_166 : decode cX10_escape 166 = .ok (.invokevirtual 104, 3) := by decide +kernel
theorem dX10_escape_17 : decode cX10_escape 17 = .ok (.aload_n 0, 1) := by decide +kernel
theorem dX10_escape_18 : decode cX10_escape 18 = .ok (.getfield 58, 3) := by decide +kernel
theorem dX10_escape_21 : decode cX10_escape 21 = .ok (.invokevirtual 83, 3) := by decide +kernel
theorem dX10_escape_24 : decode cX10_escape 24 = .ok (.bipush 92, 2) := by decide +kernel
theorem dX10_escape_26 : decode cX10_escape 26 = .ok (.if_icmp .ne 114, 3) := by decide +kernel
theorem dX10_escape_29 : decode cX10_escape 29 = .ok (.aload_n 0, 1) := by decide +kernel
theorem dX10_escape_30 : decode cX10_escape 30 = .ok (.getfield 58, 3) := by decide +kernel
theorem dX10_escape_33 : decode cX10_escape 33 = .ok (.dup, 1) := by decide +kernel
theorem dX10_escape_34 : decode cX10_escape 34 = .ok (.getfield 75, 3) := by decide +kernel
theorem dX10_escape_37 : decode cX10_escape 37 = .ok (.iconst 1, 1) := by decide +kernel
theorem dX10_escape_38 : decode cX10_escape 38 = .ok (.iadd, 1) := by decide +kernel
theorem dX10_escape_39 : decode cX10_escape 39 = .ok (.putfield 75, 3) := by decide +kernel
theorem dX10_escape_42 : decode cX10_escape 42 = .ok (.aload_n 0, 1) := by decide +kernel
theorem dX10_escape_43 : decode cX10_escape 43 = .ok (.getfield 58, 3) := by decide +kernel
theorem dX10_escape_46 : decode cX10_escape 46 = .ok (.invokevirtual 83, 3) := by decide +kernel
theorem dX10_escape_49 : decode cX10_escape 49 = .ok (.istore 4, 2) := by decide +kernel
theorem dX10_escape_51 : decode cX10_escape 51 = .ok (.iload 4, 2) := by decide +kernel
theorem dX10_escape_53 : decode cX10_escape 53 = .ok (.bipush 110, 2) := by decide +kernel
theorem dX10_escape_55 : decode cX10_escape 55 = .ok (.if_icmp .eq 32, 3) := by decide +kernel
theorem dX10_escape_87 : decode cX10_escape 87 = .ok (.aload_n 0, 1) := by decide +kernel
theorem dX10_escape_88 : decode cX10_escape 88 = .ok (.getfield 62, 3) := by decide +kernel
theorem dX10_escape_91 : decode cX10_escape 91 = .ok (.iload 4, 2) := by decide +kernel
theorem dX10_escape_93 : decode cX10_escape 93 = .ok (.bipush 110, 2) := by decide +kernel
theorem dX10_escape_95 : decode cX10_escape 95 = .ok (.if_icmp .ne 8, 3) := by decide +kernel
theorem dX10_escape_117 : decode cX10_escape 117 = .ok (.iload_n 1, 1) := by decide +kernel
theorem dX10_escape_118 : decode cX10_escape 118 = .ok (.invokevirtual 115, 3) := by decide +kernel
theorem dX10_escape_121 : decode cX10_escape 121 = .ok (.aload_n 0, 1) := by decide +kernel
theorem dX10_escape_122 : decode cX10_escape 122 = .ok (.getfield 58, 3) := by decide +kernel
theorem dX10_escape_125 : decode cX10_escape 125 = .ok (.dup, 1) := by decide +kernel
theorem dX10_escape_126 : decode cX10_escape 126 = .ok (.getfield 75, 3) := by decide +kernel
theorem dX10_escape_129 : decode cX10_escape 129 = .ok (.iconst 1, 1) := by decide +kernel
theorem dX10_escape_130 : decode cX10_escape 130 = .ok (.iadd, 1) := by decide +kernel
theorem dX10_escape_131 : decode cX10_escape 131 = .ok (.putfield 75, 3) := by decide +kernel
theorem dX10_escape_134 : decode cX10_escape 134 = .ok (.iinc 3 1, 3) := by decide +kernel
theorem dX10_escape_137 : decode cX10_escape 137 = .ok (.goto (-127), 3) := by decide +kernel
theorem dX10_escape_103 : decode cX10_escape 103 = .ok (.iload 4, 2) := by decide +kernel
theorem dX10_escape_105 : decode cX10_escape 105 = .ok (.bipush 116, 2) := by decide +kernel
theorem dX10_escape_107 : decode cX10_escape 107 = .ok (.if_icmp .ne 8, 3) := by decide +kernel
theorem dX10_escape_115 : decode cX10_escape 115 = .ok (.bipush 32, 2) := by decide +kernel
theorem dX10_escape_110 : decode cX10_escape 110 = .ok (.bipush 9, 2) := by decide +kernel
theorem dX10_escape_112 : decode cX10_escape 112 = .ok (.goto 5, 3) := by decide +kernel
theorem dX10_escape_98 : decode cX10_escape 98 = .ok (.bipush 10, 2) := by decide +kernel
theorem dX10_escape_100 : decode cX10_escape 100 = .ok (.goto 17, 3) := by decide +kernel
theorem dX10_escape_58 : decode cX10_escape 58 = .ok (.iload 4, 2) := by decide +kernel
theorem dX10_escape_60 : decode cX10_escape 60 = .ok (.bipush 116, 2) := by decide +kernel
theorem dX10_escape_62 : decode cX10_escape 62 = .ok (.if_icmp .eq 25, 3) := by decide +kernel
theorem dX10_escape_65 : decode cX10_escape 65 = .ok (.iload 4, 2) := by decide +kernel
theorem dX10_escape_67 : decode cX10_escape 67 = .ok (.bipush 32, 2) := by decide +kernel
theorem dX10_escape_69 : decode cX10_escape 69 = .ok (.if_icmp .eq 18, 3) := by decide +kernel
theorem dX10_escape_72 : decode cX10_escape 72 = .ok (.aload_n 0, 1) := by decide +kernel
theorem dX10_escape_73 : decode cX10_escape 73 = .ok (.getfield 58, 3) := by decide +kernel
theorem dX10_escape_76 : decode cX10_escape 76 = .ok (.iconst 1, 1) := by decide +kernel
theorem dX10_escape_77 : decode cX10_escape 77 = .ok (.aload_n 0, 1) := by decide +kernel
theorem dX10_escape_78 : decode cX10_escape 78 = .ok (.getfield 58, 3) := by decide +kernel
theorem dX10_escape_81 : decode cX10_escape 81 = .ok (.invokevirtual 90, 3) := by decide +kernel
theorem dX10_escape_84 : decode cX10_escape 84 = .ok (.invokevirtual 104, 3) := by decide +kernel
theorem dX10_plainTag_0 : decode cX10_plainTag 0 = .ok (.aload_n 0, 1) := by decide +kernel
theorem dX10_plainTag_1 : decode cX10_plainTag 1 = .ok (.getfield 40, 3) := by decide +kernel
theorem dX10_plainTag_4 : decode cX10_plainTag 4 = .ok (.istore_n 2, 1) := by decide +kernel
theorem dX10_plainTag_5 : decode cX10_plainTag 5 = .ok (.aload_n 0, 1) := by decide +kernel
theorem dX10_plainTag_6 : decode cX10_plainTag 6 = .ok (.invokevirtual 87, 3) := by decide +kernel
theorem dX10_plainTag_9 : decode cX10_plainTag 9 = .ok (.istore_n 3, 1) := by decide +kernel
theorem dX10_plainTag_10 : decode cX10_plainTag 10 = .ok (.aload_n 0, 1) := by decide +kernel
theorem dX10_plainTag_11 : decode cX10_plainTag 11 = .ok (.getfield 58, 3) := by decide +kernel
theorem dX10_plainTag_14 : decode cX10_plainTag 14 = .ok (.invokevirtual 83, 3) := by decide +kernel
theorem dX10_plainTag_17 : decode cX10_plainTag 17 = .ok (.bipush 33, 2) := by decide +kernel
theorem dX10_plainTag_19 : decode cX10_plainTag 19 = .ok (.if_icmp .ne 14, 3) := by decide +kernel
theorem dX10_plainTag_33 : decode cX10_plainTag 33 = .ok (.aload_n 0, 1) := by decide +kernel
theorem dX10_plainTag_34 : decode cX10_plainTag 34 = .ok (.iconst 0, 1) := by decide +kernel
theorem dX10_plainTag_35 : decode cX10_plainTag 35 = .ok (.putfield 40, 3) := by decide +kernel
theorem dX10_plainTag_38 : decode cX10_plainTag 38 = .ok (.aload_n 0, 1) := by decide +kernel
theorem dX10_plainTag_39 : decode cX10_plainTag 39 = .ok (.getfield 58, 3) := by decide +kernel
theorem dX10_plainTag_42 : decode cX10_plainTag 42 = .ok (.aload_n 0, 1) := by decide +kernel
theorem dX10_plainTag_43 : decode cX10_plainTag 43 = .ok (.getfield 58, 3) := by decide +kernel
theorem dX10_plainTag_46 : decode cX10_plainTag 46 = .ok (.getfield 75, 3) := by decide +kernel
theorem dX10_plainTag_49 : decode cX10_plainTag 49 = .ok (.iconst 1, 1) := by decide +kernel
theorem dX10_plainTag_50 : decode cX10_plainTag 50 = .ok (.iadd, 1) := by decide +kernel
theorem dX10_plainTag_51 : decode cX10_plainTag 51 = .ok (.invokevirtual 108, 3) := by decide +kernel
theorem dX10_plainTag_54 : decode cX10_plainTag 54 = .ok (.bipush 92, 2) := by decide +kernel
theorem dX10_plainTag_56 : decode cX10_plainTag 56 = .ok (.if_icmp .ne 10, 3) := by decide +kernel
theorem dX10_plainTag_71 : decode cX10_plainTag 71 = .ok (.return_, 1) := by decide +kernel
theorem dX10_plainTag_66 : decode cX10_plainTag 66 = .ok (.aload_n 0, 1) := by decide +kernel
theorem dX10_plainTag_67 : decode cX10_plainTag 67 = .ok (.iload_n 1, 1) := by decide +kernel
theorem dX10_plainTag_68 : decode cX10_plainTag 68 = .ok (.invokevirtual 159, 3) := by decide +kernel
theorem dX10_plainTag_59 : decode cX10_plainTag 59 = .ok (.aload_n 0, 1) := by decide +kernel
theorem dX10_plainTag_60 : decode cX10_plainTag 60 = .ok (.invokevirtual 156, 3) := by decide +kernel
theorem dX10_plainTag_63 : decode cX10_plainTag 63 = .ok (.goto 8, 3) := by decide +kernel
theorem dX10_plainTag_22 : decode cX10_plainTag 22 = .ok (.aload_n 0, 1) := by decide +kernel
theorem dX10_plainTag_23 : decode cX10_plainTag 23 = .ok (.invokevirtual 149, 3) := by decide +kernel
theorem dX10_plainTag_26 : decode cX10_plainTag 26 = .ok (.aload_n 0, 1) := by decide +kernel
theorem dX10_plainTag_27 : decode cX10_plainTag 27 = .ok (.iload_n 2, 1) := by decide +kernel
theorem dX10_plainTag_28 : decode cX10_plainTag 28 = .ok (.iload_n 3, 1) := by decide +kernel
theorem dX10_plainTag_29 : decode cX10_plainTag 29 = .ok (.invokevirtual 152, 3) := by decide +kernel
theorem dX10_plainTag_32 : decode cX10_plainTag 32 = .ok (.return_, 1) := by decide +kernel
theorem dX7_need_0 : decode cX7_need 0 = .ok (.aload_n 0, 1) := by decide +kernel
theorem dX7_need_1 : decode cX7_need 1 = .ok (.invokevirtual 98, 3) := by decide +kernel
theorem dX7_need_4 : decode cX7_need 4 = .ok (.aload_n 0, 1) := by decide +kernel
theorem dX7_need_5 : decode cX7_need 5 = .ok (.getfield 30, 3) := by decide +kernel
theorem dX7_need_8 : decode cX7_need 8 = .ok (.ifCond .lt 39, 3) := by decide +kernel
theorem dX7_need_56 : decode cX7_need 56 = .ok (.aload_n 0, 1) := by decide +kernel
theorem dX7_need_57 : decode cX7_need 57 = .ok (.dup, 1) := by decide +kernel
theorem dX7_need_58 : decode cX7_need 58 = .ok (.getfield 30, 3) := by decide +kernel
theorem dX7_need_61 : decode cX7_need 61 = .ok (.iconst 1, 1) := by decide +kernel
theorem dX7_need_62 : decode cX7_need 62 = .ok (.iadd, 1) := by decide +kernel
theorem dX7_need_63 : decode cX7_need 63 = .ok (.putfield 30, 3) := by decide +kernel
theorem dX7_need_66 : decode cX7_need 66 = .ok (.return_, 1) := by decide +kernel
theorem dX7_need_47 : decode cX7_need 47 = .ok (.aload_n 0, 1) := by decide +kernel
theorem dX7_need_48 : decode cX7_need 48 = .ok (.iconst 1, 1) := by decide +kernel
theorem dX7_need_49 : decode cX7_need 49 = .ok (.aload_n 0, 1) := by decide +kernel
theorem dX7_need_50 : decode cX7_need 50 = .ok (.invokevirtual 101, 3) := by decide +kernel
theorem dX7_need_53 : decode cX7_need 53 = .ok (.invokevirtual 105, 3) := by decide +kernel
theorem dX7_need_11 : decode cX7_need 11 = .ok (.aload_n 0, 1) := by decide +kernel
theorem dX7_need_12 : decode cX7_need 12 = .ok (.getfield 30, 3) := by decide +kernel
theorem dX7_need_15 : decode cX7_need 15 = .ok (.aload_n 0, 1) := by decide +kernel
theorem dX7_need_16 : decode cX7_need 16 = .ok (.getfield 26, 3) := by decide +kernel
theorem dX7_need_19 : decode cX7_need 19 = .ok (.if_icmp .ge 28, 3) := by decide +kernel
theorem dX7_need_22 : decode cX7_need 22 = .ok (.aload_n 0, 1) := by decide +kernel
theorem dX7_need_23 : decode cX7_need 23 = .ok (.getfield 30, 3) := by decide +kernel
theorem dX7_need_26 : decode cX7_need 26 = .ok (.aload_n 0, 1) := by decide +kernel
theorem dX7_need_27 : decode cX7_need 27 = .ok (.getfield 9, 3) := by decide +kernel
theorem dX7_need_30 : decode cX7_need 30 = .ok (.arraylength, 1) := by decide +kernel
theorem dX7_need_31 : decode cX7_need 31 = .ok (.if_icmp .ge 16, 3) := by decide +kernel
theorem dX7_need_34 : decode cX7_need 34 = .ok (.aload_n 0, 1) := by decide +kernel
theorem dX7_need_35 : decode cX7_need 35 = .ok (.getfield 9, 3) := by decide +kernel
theorem dX7_need_38 : decode cX7_need 38 = .ok (.aload_n 0, 1) := by decide +kernel
theorem dX7_need_39 : decode cX7_need 39 = .ok (.getfield 30, 3) := by decide +kernel
theorem dX7_need_42 : decode cX7_need 42 = .ok (.baload, 1) := by decide +kernel
theorem dX7_need_43 : decode cX7_need 43 = .ok (.iload_n 1, 1) := by decide +kernel
theorem dX7_need_44 : decode cX7_need 44 = .ok (.if_icmp .eq 12, 3) := by decide +kernel
theorem dX10_regionEnd_0 : decode cX10_regionEnd 0 = .ok (.iload_n 2, 1) := by decide +kernel
theorem dX10_regionEnd_1 : decode cX10_regionEnd 1 = .ok (.iconst 3, 1) := by decide +kernel
theorem dX10_regionEnd_2 : decode cX10_regionEnd 2 = .ok (.if_icmp .eq 18, 3) := by decide +kernel
theorem dX10_regionEnd_20 : decode cX10_regionEnd 20 = .ok (.aload_n 0, 1) := by decide +kernel
theorem dX10_regionEnd_21 : decode cX10_regionEnd 21 = .ok (.getfield 40, 3) := by decide +kernel
theorem dX10_regionEnd_24 : decode cX10_regionEnd 24 = .ok (.istore_n 3, 1) := by decide +kernel
theorem dX10_regionEnd_25 : decode cX10_regionEnd 25 = .ok (.aload_n 0, 1) := by decide +kernel
theorem dX10_regionEnd_26 : decode cX10_regionEnd 26 = .ok (.invokevirtual 87, 3) := by decide +kernel
theorem dX10_regionEnd_29 : decode cX10_regionEnd 29 = .ok (.istore 4, 2) := by decide +kernel
theorem dX10_regionEnd_31 : decode cX10_regionEnd 31 = .ok (.aload_n 0, 1) := by decide +kernel
theorem dX10_regionEnd_32 : decode cX10_regionEnd 32 = .ok (.getfield 58, 3) := by decide +kernel
theorem dX10_regionEnd_35 : decode cX10_regionEnd 35 = .ok (.iload_n 1, 1) := by decide +kernel
theorem dX10_regionEnd_36 : decode cX10_regionEnd 36 = .ok (.putfield 75, 3) := by decide +kernel
theorem dX10_regionEnd_39 : decode cX10_regionEnd 39 = .ok (.aload_n 0, 1) := by decide +kernel
theorem dX10_regionEnd_40 : decode cX10_regionEnd 40 = .ok (.getfield 58, 3) := by decide +kernel
theorem dX10_regionEnd_43 : decode cX10_regionEnd 43 = .ok (.aload_n 0, 1) := by decide +kernel
theorem dX10_regionEnd_44 : decode cX10_regionEnd 44 = .ok (.getfield 15, 3) := by decide +kernel
theorem dX10_regionEnd_47 : decode cX10_regionEnd 47 = .ok (.invokevirtual 191, 3) := by decide +kernel
theorem dX10_regionEnd_50 : decode cX10_regionEnd 50 = .ok (.aload_n 0, 1) := by decide +kernel
theorem dX10_regionEnd_51 : decode cX10_regionEnd 51 = .ok (.iload_n 3, 1) := by decide +kernel
theorem dX10_regionEnd_52 : decode cX10_regionEnd 52 = .ok (.iload 4, 2) := by decide +kernel
theorem dX10_regionEnd_54 : decode cX10_regionEnd 54 = .ok (.invokevirtual 152, 3) := by decide +kernel
theorem dX10_regionEnd_57 : decode cX10_regionEnd 57 = .ok (.bipush 20, 2) := by decide +kernel
theorem dX10_regionEnd_59 : decode cX10_regionEnd 59 = .ok (.ireturn, 1) := by decide +kernel
theorem dX10_regionEnd_5 : decode cX10_regionEnd 5 = .ok (.aload_n 0, 1) := by decide +kernel
theorem dX10_regionEnd_6 : decode cX10_regionEnd 6 = .ok (.getfield 58, 3) := by decide +kernel
theorem dX10_regionEnd_9 : decode cX10_regionEnd 9 = .ok (.iconst 1, 1) := by decide +kernel
theorem dX10_regionEnd_10 : decode cX10_regionEnd 10 = .ok (.aload_n 0, 1) := by decide +kernel
theorem dX10_regionEnd_11 : decode cX10_regionEnd 11 = .ok (.getfield 58, 3) := by decide +kernel
theorem dX10_regionEnd_14 : decode cX10_regionEnd 14 = .ok (.invokevirtual 90, 3) := by decide +kernel
theorem dX10_regionEnd_17 : decode cX10_regionEnd 17 = .ok (.invokevirtual 104, 3) := by decide +kernel
theorem dX7_isName_0 : decode cX7_isName 0 = .ok (.aload_n 2, 1) := by decide +kernel
theorem dX7_isName_1 : decode cX7_isName 1 = .ok (.iload_n 3, 1) := by decide +kernel
theorem dX7_isName_2 : decode cX7_isName 2 = .ok (.invokevirtual 70, 3) := by decide +kernel
theorem dX7_isName_5 : decode cX7_isName 5 = .ok (.istore 4, 2) := by decide +kernel
theorem dX7_isName_7 : decode cX7_isName 7 = .ok (.iload_n 1, 1) := by decide +kernel
theorem dX7_isName_8 : decode cX7_isName 8 = .ok (.aload_n 0, 1) := by decide +kernel
theorem dX7_isName_9 : decode cX7_isName 9 = .ok (.getfield 30, 3) := by decide +kernel
theorem dX7_isName_12 : decode cX7_isName 12 = .ok (.isub, 1) := by decide +kernel
theorem dX7_isName_13 : decode cX7_isName 13 = .ok (.iload 4, 2) := by decide +kernel
theorem dX7_isName_15 : decode cX7_isName 15 = .ok (.if_icmp .ne 35, 3) := by decide +kernel
theorem dX7_isName_51 : decode cX7_isName 51 = .ok (.ireturn, 1) := by decide +kernel
theorem dX7_isName_50 : decode cX7_isName 50 = .ok (.iconst 0, 1) := by decide +kernel
theorem dX7_isName_18 : decode cX7_isName 18 = .ok (.aload_n 0, 1) := by decide +kernel
theorem dX7_isName_19 : decode cX7_isName 19 = .ok (.getfield 9, 3) := by decide +kernel
theorem dX7_isName_22 : decode cX7_isName 22 = .ok (.aload_n 0, 1) := by decide +kernel
theorem dX7_isName_23 : decode cX7_isName 23 = .ok (.getfield 30, 3) := by decide +kernel
theorem dX7_isName_26 : decode cX7_isName 26 = .ok (.aload_n 2, 1) := by decide +kernel
theorem dX7_isName_27 : decode cX7_isName 27 = .ok (.getfield 76, 3) := by decide +kernel
theorem dX7_isName_30 : decode cX7_isName 30 = .ok (.aload_n 2, 1) := by decide +kernel
theorem dX7_isName_31 : decode cX7_isName 31 = .ok (.getfield 79, 3) := by decide +kernel
theorem dX7_isName_34 : decode cX7_isName 34 = .ok (.iload_n 3, 1) := by decide +kernel
theorem dX7_isName_35 : decode cX7_isName 35 = .ok (.invokestatic 82, 3) := by decide +kernel
theorem dX7_isName_38 : decode cX7_isName 38 = .ok (.iload 4, 2) := by decide +kernel
theorem dX7_isName_40 : decode cX7_isName 40 = .ok (.invokestatic 86, 3) := by decide +kernel
theorem dX7_isName_43 : decode cX7_isName 43 = .ok (.ifCond .eq 7, 3) := by decide +kernel
theorem dX7_isName_46 : decode cX7_isName 46 = .ok (.iconst 1, 1) := by decide +kernel
theorem dX7_isName_47 : decode cX7_isName 47 = .ok (.goto 4, 3) := by decide +kernel
theorem dX2_addPart_0 : decode cX2_addPart 0 = .ok (.aload_n 0, 1) := by decide +kernel
theorem dX2_addPart_1 : decode cX2_addPart 1 = .ok (.getfield 53, 3) := by decide +kernel
theorem dX2_addPart_4 : decode cX2_addPart 4 = .ok (.bipush 6, 2) := by decide +kernel
theorem dX2_addPart_6 : decode cX2_addPart 6 = .ok (.imul, 1) := by decide +kernel
theorem dX2_addPart_7 : decode cX2_addPart 7 = .ok (.istore 6, 2) := by decide +kernel
theorem dX2_addPart_9 : decode cX2_addPart 9 = .ok (.aload_n 0, 1) := by decide +kernel
theorem dX2_addPart_10 : decode cX2_addPart 10 = .ok (.getfield 50, 3) := by decide +kernel
theorem dX2_addPart_13 : decode cX2_addPart 13 = .ok (.iload 6, 2) := by decide +kernel
theorem dX2_addPart_15 : decode cX2_addPart 15 = .ok (.iload_n 1, 1) := by decide +kernel
theorem dX2_addPart_16 : decode cX2_addPart 16 = .ok (.invokestatic 98, 3) := by decide +kernel
theorem dX2_addPart_19 : decode cX2_addPart 19 = .ok (.aload_n 0, 1) := by decide +kernel
theorem dX2_addPart_20 : decode cX2_addPart 20 = .ok (.getfield 50, 3) := by decide +kernel
theorem dX2_addPart_23 : decode cX2_addPart 23 = .ok (.iload 6, 2) := by decide +kernel
theorem dX2_addPart_25 : decode cX2_addPart 25 = .ok (.iconst 1, 1) := by decide +kernel
theorem dX2_addPart_26 : decode cX2_addPart 26 = .ok (.iadd, 1) := by decide +kernel
theorem dX2_addPart_27 : decode cX2_addPart 27 = .ok (.iload_n 2, 1) := by decide +kernel
theorem dX2_addPart_28 : decode cX2_addPart 28 = .ok (.invokestatic 98, 3) := by decide +kernel
theorem dX2_addPart_31 : decode cX2_addPart 31 = .ok (.aload_n 0, 1) := by decide +kernel
theorem dX2_addPart_32 : decode cX2_addPart 32 = .ok (.getfield 50, 3) := by decide +kernel
theorem dX2_addPart_35 : decode cX2_addPart 35 = .ok (.iload 6, 2) := by decide +kernel
theorem dX2_addPart_37 : decode cX2_addPart 37 = .ok (.iconst 2, 1) := by decide +kernel
theorem dX2_addPart_38 : decode cX2_addPart 38 = .ok (.iadd, 1) := by decide +kernel
theorem dX2_addPart_39 : decode cX2_addPart 39 = .ok (.iload_n 3, 1) := by decide +kernel
theorem dX2_addPart_40 : decode cX2_addPart 40 = .ok (.invokestatic 98, 3) := by decide +kernel
theorem dX2_addPart_43 : decode cX2_addPart 43 = .ok (.aload_n 0, 1) := by decide +kernel
theorem dX2_addPart_44 : decode cX2_addPart 44 = .ok (.getfield 50, 3) := by decide +kernel
theorem dX2_addPart_47 : decode cX2_addPart 47 = .ok (.iload 6, 2) := by decide +kernel
theorem dX2_addPart_49 : decode cX2_addPart 49 = .ok (.iconst 3, 1) := by decide +kernel
theorem dX2_addPart_50 : decode cX2_addPart 50 = .ok (.iadd, 1) := by decide +kernel
theorem dX2_addPart_51 : decode cX2_addPart 51 = .ok (.aload_n 0, 1) := by decide +kernel
theorem dX2_addPart_52 : decode cX2_addPart 52 = .ok (.getfield 30, 3) := by decide +kernel
theorem dX2_addPart_55 : decode cX2_addPart 55 = .ok (.invokestatic 98, 3) := by decide +kernel
theorem dX2_addPart_58 : decode cX2_addPart 58 = .ok (.aload_n 0, 1) := by decide +kernel
theorem dX2_addPart_59 : decode cX2_addPart 59 = .ok (.getfield 50, 3) := by decide +kernel
theorem dX2_addPart_62 : decode cX2_addPart 62 = .ok (.iload 6, 2) := by decide +kernel
theorem dX2_addPart_64 : decode cX2_addPart 64 = .ok (.iconst 4, 1) := by decide +kernel
theorem dX2_addPart_65 : decode cX2_addPart 65 = .ok (.iadd, 1) := by decide +kernel
theorem dX2_addPart_66 : decode cX2_addPart 66 = .ok (.iload 4, 2) := by decide +kernel
theorem dX2_addPart_68 : decode cX2_addPart 68 = .ok (.invokestatic 98, 3) := by decide +kernel
theorem dX2_addPart_71 : decode cX2_addPart 71 = .ok (.aload_n 0, 1) := by decide +kernel
theorem dX2_addPart_72 : decode cX2_addPart 72 = .ok (.getfield 50, 3) := by decide +kernel
theorem dX2_addPart_75 : decode cX2_addPart 75 = .ok (.iload 6, 2) := by decide +kernel
theorem dX2_addPart_77 : decode cX2_addPart 77 = .ok (.iconst 5, 1) := by decide +kernel
theorem dX2_addPart_78 : decode cX2_addPart 78 = .ok (.iadd, 1) := by decide +kernel
theorem dX2_addPart_79 : decode cX2_addPart 79 = .ok (.iload 5, 2) := by decide +kernel
theorem dX2_addPart_81 : decode cX2_addPart 81 = .ok (.invokestatic 98, 3) := by decide +kernel
theorem dX2_addPart_84 : decode cX2_addPart 84 = .ok (.iload 6, 2) := by decide +kernel
theorem dX2_addPart_86 : decode cX2_addPart 86 = .ok (.aload_n 0, 1) := by decide +kernel
theorem dX2_addPart_87 : decode cX2_addPart 87 = .ok (.getfield 50, 3) := by decide +kernel
theorem dX2_addPart_90 : decode cX2_addPart 90 = .ok (.arraylength, 1) := by decide +kernel
theorem dX2_addPart_91 : decode cX2_addPart 91 = .ok (.if_icmp .ge 13, 3) := by decide +kernel
theorem dX2_addPart_104 : decode cX2_addPart 104 = .ok (.return_, 1) := by decide +kernel
theorem dX2_addPart_94 : decode cX2_addPart 94 = .ok (.aload_n 0, 1) := by decide +kernel
theorem dX2_addPart_95 : decode cX2_addPart 95 = .ok (.dup, 1) := by decide +kernel
theorem dX2_addPart_96 : decode cX2_addPart 96 = .ok (.getfield 53, 3) := by decide +kernel
theorem dX2_addPart_99 : decode cX2_addPart 99 = .ok (.iconst 1, 1) := by decide +kernel
theorem dX2_addPart_100 : decode cX2_addPart 100 = .ok (.iadd, 1) := by decide +kernel
theorem dX2_addPart_101 : decode cX2_addPart 101 = .ok (.putfield 53, 3) := by decide +kernel
set_option maxRecDepth 20000 in
theorem kX2_paramOf (l : Launch) (G : zG) (T : tT) (κ : Nat → List Nat) (hst : l.stackTraces = false) (hE : tE G T κ) {a0 : Nat} (h0 : a0 ∈ κ 2) {x1 : Int32} {x2 : Int32} : tMi l G T yX2_paramOf cX2_paramOf 5 .int [] 0 0 0 0 [.ref a0, .int x1, .int x2] uT (uPi 0x0) := by
  refine tMi.intro hst rfl (Nat.le_of_ble_eq_true rfl) ?_
  intro w0 hw0 _ X hC hR hO hX
  refine z_iload_n hC (pc := 0) 1 dX2_paramOf_0 rfl rfl ?_
  refine z_if_lt hC (pc := 1) 15 dX2_paramOf_1 (by decide) (fun c5 => ?_) (fun c5 => ?_)
  · refine z_iconst hC (pc := 15) (v := 0) dX2_paramOf_15 (by decide) ?_
    refine z_goto hC (pc := 16) 27 dX2_paramOf_16 (by decide) ?_
    refine z_istore_n hC (pc := 27) (lv' := [(3, .int 0), (0, .ref a0), (1, .int x1), (2, .int x2)]) dX2_paramOf_27 rfl (by decide) rfl ?_
    refine z_iconst hC (pc := 28) (v := 0) dX2_paramOf_28 (by decide) ?_
    refine z_istore hC (pc := 29) (lv' := [(4, .int 0), (3, .int 0), (0, .ref a0), (1, .int x1), (2, .int x2)]) dX2_paramOf_29 (by decide) rfl ?_
    have j31 : ∀ (d31 : Nat), ∀ (x6 : Int32), ¬ x6 < 0 → (2 ^ 31 - (x6 : Int32).toInt).toNat ≤ d31 → zS X G 5 w0 [(0, .ref a0), (1, .int x1), (2, .int x2), (3, .int 0), (4, .int x6)] 0 0 31 [] := by
      intro d31
      induction d31 with
      | zero => intro x6 v7 hd31; exact (t_zero hd31).elim
      | succ d31 ih31 =>
        intro x6 v7 hd31
        refine z_iload hC (pc := 31) 4 dX2_paramOf_31 rfl ?_
        refine z_iload_n hC (pc := 33) 3 dX2_paramOf_33 rfl rfl ?_
        refine z_icmp_ge hC (pc := 34) 79 dX2_paramOf_34 (by decide) (fun c8 => ?_) (fun c8 => ?_)
        · refine z_iconst hC (pc := 79) (v := (-1)) dX2_paramOf_79 (by decide) ?_
          exact hR _ _ _ _ _ _ dX2_paramOf_80 rfl (Nat.le_of_ble_eq_true rfl) (Nat.le_of_ble_eq_true rfl) ⟨hw0, rfl, rfl, tKeep.rf⟩
        · refine z_iload_n hC (pc := 37) 1 dX2_paramOf_37 rfl rfl ?_
          refine z_iconst hC (pc := 38) (v := 3) dX2_paramOf_38 (by decide) ?_
          refine z_iadd hC (pc := 39) (v := (x1 + 3)) dX2_paramOf_39 rfl ?_
          refine z_iconst hC (pc := 40) (v := 2) dX2_paramOf_40 (by decide) ?_
          refine z_iload hC (pc := 41) 4 dX2_paramOf_41 rfl ?_
          refine z_imul hC (pc := 43) (v := ((2 : Int32) * x6)) dX2_paramOf_43 rfl ?_
          refine z_iadd hC (pc := 44) (v := ((x1 + 3) + ((2 : Int32) * x6))) dX2_paramOf_44 rfl ?_
          refine z_aload_n hC (pc := 45) 0 dX2_paramOf_45 rfl rfl ?_
          refine u_get hC hw0 (pc := 46) zf2 2 (hE.o2 h0) rfl dX2_paramOf_46 zw239 (kk := fun va9 ta9 fa9 => ?_)
          obtain ⟨a9, ma9, rfl⟩ := ta9
          obtain ⟨N10, hN10, AN10⟩ := hE.ints ma9
          refine u_alenI hC hw0 (pc := 49) AN10 dX2_paramOf_49 ?_
          refine z_icmp_ge hC (pc := 50) 79 dX2_paramOf_50 (by decide) (fun c11 => ?_) (fun c11 => ?_)
          · refine z_iconst hC (pc := 79) (v := (-1)) dX2_paramOf_79 (by decide) ?_
            exact hR _ _ _ _ _ _ dX2_paramOf_80 rfl (Nat.le_of_ble_eq_true rfl) (Nat.le_of_ble_eq_true rfl) ⟨hw0, rfl, rfl, tKeep.rf⟩
          · refine z_aload_n hC (pc := 53) 0 dX2_paramOf_53 rfl rfl ?_
            refine u_getK hC (pc := 54) zf2 2 fa9 dX2_paramOf_54 zw239 (kk := ?_)
            refine z_iload_n hC (pc := 57) 1 dX2_paramOf_57 rfl rfl ?_
            refine z_iconst hC (pc := 58) (v := 3) dX2_paramOf_58 (by decide) ?_
            refine z_iadd hC (pc := 59) (v := (x1 + 3)) dX2_paramOf_59 rfl ?_
            refine z_iconst hC (pc := 60) (v := 2) dX2_paramOf_60 (by decide) ?_
            refine z_iload hC (pc := 61) 4 dX2_paramOf_61 rfl ?_
            refine z_imul hC (pc := 63) (v := ((2 : Int32) * x6)) dX2_paramOf_63 rfl ?_
            refine z_iadd hC (pc := 64) (v := ((x1 + 3) + ((2 : Int32) * x6))) dX2_paramOf_64 rfl ?_
            refine t_iald hC hw0 (pc := 65) AN10 dX2_paramOf_65 (by have o1 := Int32.le_toInt x1; have o2 := Int32.toInt_lt x1; have o3 : (0 : Int32).toInt = 0 := (by decide); have o4 := t_fl c5; have o5 := Int32.le_toInt x6; have o6 := Int32.toInt_lt x6; have o7 := t_fnl v7; have o8 := t_fne c8; have o9 : (3 : Int32).toInt = 3 := (by decide); have o10 := t_addO x1 3; have o11 : (2 : Int32).toInt = 2 := (by decide); obtain ⟨ko12, o12⟩ := t_mulO (2 : Int32) x6 (2) (by decide); have o13 := t_addO (x1 + 3) ((2 : Int32) * x6); have o14 : (Int32.ofNat N10).toInt = N10 := nI_toInt hN10; have o15 := hN10; have o16 := t_fne c11; rw [vp_in_iff]; omega) (fun x12 _ => ?_)
            refine z_iload_n hC (pc := 66) 2 dX2_paramOf_66 rfl rfl ?_
            refine z_icmp_ne hC (pc := 67) 73 dX2_paramOf_67 (by decide) (fun c13 => ?_) (fun c13 => ?_)
            · refine z_iinc hC (pc := 73) (v := (x6 + 1)) (lv' := [(4, .int (x6 + 1)), (0, .ref a0), (1, .int x1), (2, .int x2), (3, .int 0)]) 4 dX2_paramOf_73 rfl (congrArg _ (by decide)) (by decide) rfl ?_
              refine z_goto hC (pc := 76) 31 dX2_paramOf_76 (by decide) ?_
              refine z_lvs [1, 2, 3, 4, 0] rfl ?_
              exact ih31 (x6 + 1) (t_nnI v7 (Int32.not_le.mp c8)) (t_up (Int32.not_le.mp c8) hd31)
            · refine z_iload hC (pc := 70) 4 dX2_paramOf_70 rfl ?_
              exact hR _ _ _ _ _ _ dX2_paramOf_72 rfl (Nat.le_of_ble_eq_true rfl) (Nat.le_of_ble_eq_true rfl) ⟨hw0, rfl, rfl, tKeep.rf⟩
    refine z_lvs [2, 3, 4, 1, 0] rfl ?_
    exact j31 _ 0 (by decide) (Nat.le_refl _)
  · refine z_iload_n hC (pc := 4) 1 dX2_paramOf_4 rfl rfl ?_
    refine z_iconst hC (pc := 5) (v := 2) dX2_paramOf_5 (by decide) ?_
    refine z_iadd hC (pc := 6) (v := (x1 + 2)) dX2_paramOf_6 rfl ?_
    refine z_aload_n hC (pc := 7) 0 dX2_paramOf_7 rfl rfl ?_
    refine u_get hC hw0 (pc := 8) zf2 2 (hE.o2 h0) rfl dX2_paramOf_8 zw239 (kk := fun va14 ta14 fa14 => ?_)
    obtain ⟨a14, ma14, rfl⟩ := ta14
    obtain ⟨N15, hN15, AN15⟩ := hE.ints ma14
    refine u_alenI hC hw0 (pc := 11) AN15 dX2_paramOf_11 ?_
    refine z_icmp_lt hC (pc := 12) 19 dX2_paramOf_12 (by decide) (fun c16 => ?_) (fun c16 => ?_)
    · refine z_aload_n hC (pc := 19) 0 dX2_paramOf_19 rfl rfl ?_
      refine u_getK hC (pc := 20) zf2 2 fa14 dX2_paramOf_20 zw239 (kk := ?_)
      refine z_iload_n hC (pc := 23) 1 dX2_paramOf_23 rfl rfl ?_
      refine z_iconst hC (pc := 24) (v := 2) dX2_paramOf_24 (by decide) ?_
      refine z_iadd hC (pc := 25) (v := (x1 + 2)) dX2_paramOf_25 rfl ?_
      refine t_iald hC hw0 (pc := 26) AN15 dX2_paramOf_26 (by have o1 := Int32.le_toInt x1; have o2 := Int32.toInt_lt x1; have o3 : (0 : Int32).toInt = 0 := (by decide); have o4 := t_fnl c5; have o5 : (2 : Int32).toInt = 2 := (by decide); have o6 := t_addO x1 2; have o7 : (Int32.ofNat N15).toInt = N15 := nI_toInt hN15; have o8 := hN15; have o9 := t_fl c16; rw [vp_in_iff]; omega) (fun x17 _ => ?_)
      refine z_istore_n hC (pc := 27) (lv' := [(3, .int x17), (0, .ref a0), (1, .int x1), (2, .int x2)]) dX2_paramOf_27 rfl (by decide) rfl ?_
      refine z_iconst hC (pc := 28) (v := 0) dX2_paramOf_28 (by decide) ?_
      refine z_istore hC (pc := 29) (lv' := [(4, .int 0), (3, .int x17), (0, .ref a0), (1, .int x1), (2, .int x2)]) dX2_paramOf_29 (by decide) rfl ?_
      have j31 : ∀ (d31 : Nat), ∀ (x18 : Int32), ¬ x18 < 0 → (2 ^ 31 - (x18 : Int32).toInt).toNat ≤ d31 → zS X G 5 w0 [(0, .ref a0), (1, .int x1), (2, .int x2), (3, .int x17), (4, .int x18)] 0 0 31 [] := by
        intro d31
        induction d31 with
        | zero => intro x18 v19 hd31; exact (t_zero hd31).elim
        | succ d31 ih31 =>
          intro x18 v19 hd31
          refine z_iload hC (pc := 31) 4 dX2_paramOf_31 rfl ?_
          refine z_iload_n hC (pc := 33) 3 dX2_paramOf_33 rfl rfl ?_
          refine z_icmp_ge hC (pc := 34) 79 dX2_paramOf_34 (by decide) (fun c20 => ?_) (fun c20 => ?_)
          · refine z_iconst hC (pc := 79) (v := (-1)) dX2_paramOf_79 (by decide) ?_
            exact hR _ _ _ _ _ _ dX2_paramOf_80 rfl (Nat.le_of_ble_eq_true rfl) (Nat.le_of_ble_eq_true rfl) ⟨hw0, rfl, rfl, tKeep.rf⟩
          · refine z_iload_n hC (pc := 37) 1 dX2_paramOf_37 rfl rfl ?_
            refine z_iconst hC (pc := 38) (v := 3) dX2_paramOf_38 (by decide) ?_
            refine z_iadd hC (pc := 39) (v := (x1 + 3)) dX2_paramOf_39 rfl ?_
            refine z_iconst hC (pc := 40) (v := 2) dX2_paramOf_40 (by decide) ?_
            refine z_iload hC (pc := 41) 4 dX2_paramOf_41 rfl ?_
            refine z_imul hC (pc := 43) (v := ((2 : Int32) * x18)) dX2_paramOf_43 rfl ?_
            refine z_iadd hC (pc := 44) (v := ((x1 + 3) + ((2 : Int32) * x18))) dX2_paramOf_44 rfl ?_
            refine z_aload_n hC (pc := 45) 0 dX2_paramOf_45 rfl rfl ?_
            refine u_getK hC (pc := 46) zf2 2 fa14 dX2_paramOf_46 zw239 (kk := ?_)
            refine u_alenI hC hw0 (pc := 49) AN15 dX2_paramOf_49 ?_
            refine z_icmp_ge hC (pc := 50) 79 dX2_paramOf_50 (by decide) (fun c21 => ?_) (fun c21 => ?_)
            · refine z_iconst hC (pc := 79) (v := (-1)) dX2_paramOf_79 (by decide) ?_
              exact hR _ _ _ _ _ _ dX2_paramOf_80 rfl (Nat.le_of_ble_eq_true rfl) (Nat.le_of_ble_eq_true rfl) ⟨hw0, rfl, rfl, tKeep.rf⟩
            · refine z_aload_n hC (pc := 53) 0 dX2_paramOf_53 rfl rfl ?_
              refine u_getK hC (pc := 54) zf2 2 fa14 dX2_paramOf_54 zw239 (kk := ?_)
              refine z_iload_n hC (pc := 57) 1 dX2_paramOf_57 rfl rfl ?_
              refine z_iconst hC (pc := 58) (v := 3) dX2_paramOf_58 (by decide) ?_
              refine z_iadd hC (pc := 59) (v := (x1 + 3)) dX2_paramOf_59 rfl ?_
              refine z_iconst hC (pc := 60) (v := 2) dX2_paramOf_60 (by decide) ?_
              refine z_iload hC (pc := 61) 4 dX2_paramOf_61 rfl ?_
              refine z_imul hC (pc := 63) (v := ((2 : Int32) * x18)) dX2_paramOf_63 rfl ?_
              refine z_iadd hC (pc := 64) (v := ((x1 + 3) + ((2 : Int32) * x18))) dX2_paramOf_64 rfl ?_
              refine t_iald hC hw0 (pc := 65) AN15 dX2_paramOf_65 (by have o1 := Int32.le_toInt x1; have o2 := Int32.toInt_lt x1; have o3 : (0 : Int32).toInt = 0 := (by decide); have o4 := t_fnl c5; have o5 : (2 : Int32).toInt = 2 := (by decide); have o6 := t_addO x1 2; have o7 : (Int32.ofNat N15).toInt = N15 := nI_toInt hN15; have o8 := hN15; have o9 := t_fl c16; have o10 := Int32.le_toInt x18; have o11 := Int32.toInt_lt x18; have o12 := t_fnl v19; have o13 := Int32.le_toInt x17; have o14 := Int32.toInt_lt x17; have o15 := t_fne c20; have o16 : (3 : Int32).toInt = 3 := (by decide); have o17 := t_addO x1 3; obtain ⟨ko18, o18⟩ := t_mulO (2 : Int32) x18 (2) (by decide); have o19 := t_addO (x1 + 3) ((2 : Int32) * x18); have o20 := t_fne c21; rw [vp_in_iff]; omega) (fun x22 _ => ?_)
              refine z_iload_n hC (pc := 66) 2 dX2_paramOf_66 rfl rfl ?_
              refine z_icmp_ne hC (pc := 67) 73 dX2_paramOf_67 (by decide) (fun c23 => ?_) (fun c23 => ?_)
              · refine z_iinc hC (pc := 73) (v := (x18 + 1)) (lv' := [(4, .int (x18 + 1)), (0, .ref a0), (1, .int x1), (2, .int x2), (3, .int x17)]) 4 dX2_paramOf_73 rfl (congrArg _ (by decide)) (by decide) rfl ?_
                refine z_goto hC (pc := 76) 31 dX2_paramOf_76 (by decide) ?_
                refine z_lvs [1, 2, 3, 4, 0] rfl ?_
                exact ih31 (x18 + 1) (t_nnI v19 (Int32.not_le.mp c20)) (t_up (Int32.not_le.mp c20) hd31)
              · refine z_iload hC (pc := 70) 4 dX2_paramOf_70 rfl ?_
                exact hR _ _ _ _ _ _ dX2_paramOf_72 rfl (Nat.le_of_ble_eq_true rfl) (Nat.le_of_ble_eq_true rfl) ⟨hw0, rfl, rfl, tKeep.rf⟩
      refine z_lvs [2, 3, 4, 1, 0] rfl ?_
      exact j31 _ 0 (by decide) (Nat.le_refl _)
    · refine z_iconst hC (pc := 15) (v := 0) dX2_paramOf_15 (by decide) ?_
      refine z_goto hC (pc := 16) 27 dX2_paramOf_16 (by decide) ?_
      refine z_istore_n hC (pc := 27) (lv' := [(3, .int 0), (0, .ref a0), (1, .int x1), (2, .int x2)]) dX2_paramOf_27 rfl (by decide) rfl ?_
      refine z_iconst hC (pc := 28) (v := 0) dX2_paramOf_28 (by decide) ?_
      refine z_istore hC (pc := 29) (lv' := [(4, .int 0), (3, .int 0), (0, .ref a0), (1, .int x1), (2, .int x2)]) dX2_paramOf_29 (by decide) rfl ?_
      have j31 : ∀ (d31 : Nat), ∀ (x24 : Int32), ¬ x24 < 0 → (2 ^ 31 - (x24 : Int32).toInt).toNat ≤ d31 → zS X G 5 w0 [(0, .ref a0), (1, .int x1), (2, .int x2), (3, .int 0), (4, .int x24)] 0 0 31 [] := by
        intro d31
        induction d31 with
        | zero => intro x24 v25 hd31; exact (t_zero hd31).elim
        | succ d31 ih31 =>
          intro x24 v25 hd31
          refine z_iload hC (pc := 31) 4 dX2_paramOf_31 rfl ?_
          refine z_iload_n hC (pc := 33) 3 dX2_paramOf_33 rfl rfl ?_
          refine z_icmp_ge hC (pc := 34) 79 dX2_paramOf_34 (by decide) (fun c26 => ?_) (fun c26 => ?_)
          · refine z_iconst hC (pc := 79) (v := (-1)) dX2_paramOf_79 (by decide) ?_
            exact hR _ _ _ _ _ _ dX2_paramOf_80 rfl (Nat.le_of_ble_eq_true rfl) (Nat.le_of_ble_eq_true rfl) ⟨hw0, rfl, rfl, tKeep.rf⟩
          · refine z_iload_n hC (pc := 37) 1 dX2_paramOf_37 rfl rfl ?_
            refine z_iconst hC (pc := 38) (v := 3) dX2_paramOf_38 (by decide) ?_
            refine z_iadd hC (pc := 39) (v := (x1 + 3)) dX2_paramOf_39 rfl ?_
            refine z_iconst hC (pc := 40) (v := 2) dX2_paramOf_40 (by decide) ?_
            refine z_iload hC (pc := 41) 4 dX2_paramOf_41 rfl ?_
            refine z_imul hC (pc := 43) (v := ((2 : Int32) * x24)) dX2_paramOf_43 rfl ?_
            refine z_iadd hC (pc := 44) (v := ((x1 + 3) + ((2 : Int32) * x24))) dX2_paramOf_44 rfl ?_
            refine z_aload_n hC (pc := 45) 0 dX2_paramOf_45 rfl rfl ?_
            refine u_getK hC (pc := 46) zf2 2 fa14 dX2_paramOf_46 zw239 (kk := ?_)
            refine u_alenI hC hw0 (pc := 49) AN15 dX2_paramOf_49 ?_
            refine z_icmp_ge hC (pc := 50) 79 dX2_paramOf_50 (by decide) (fun c27 => ?_) (fun c27 => ?_)
            · refine z_iconst hC (pc := 79) (v := (-1)) dX2_paramOf_79 (by decide) ?_
              exact hR _ _ _ _ _ _ dX2_paramOf_80 rfl (Nat.le_of_ble_eq_true rfl) (Nat.le_of_ble_eq_true rfl) ⟨hw0, rfl, rfl, tKeep.rf⟩
            · refine z_aload_n hC (pc := 53) 0 dX2_paramOf_53 rfl rfl ?_
              refine u_getK hC (pc := 54) zf2 2 fa14 dX2_paramOf_54 zw239 (kk := ?_)
              refine z_iload_n hC (pc := 57) 1 dX2_paramOf_57 rfl rfl ?_
              refine z_iconst hC (pc := 58) (v := 3) dX2_paramOf_58 (by decide) ?_
              refine z_iadd hC (pc := 59) (v := (x1 + 3)) dX2_paramOf_59 rfl ?_
              refine z_iconst hC (pc := 60) (v := 2) dX2_paramOf_60 (by decide) ?_
              refine z_iload hC (pc := 61) 4 dX2_paramOf_61 rfl ?_
              refine z_imul hC (pc := 63) (v := ((2 : Int32) * x24)) dX2_paramOf_63 rfl ?_
              refine z_iadd hC (pc := 64) (v := ((x1 + 3) + ((2 : Int32) * x24))) dX2_paramOf_64 rfl ?_
              refine t_iald hC hw0 (pc := 65) AN15 dX2_paramOf_65 (by have o1 := Int32.le_toInt x1; have o2 := Int32.toInt_lt x1; have o3 : (0 : Int32).toInt = 0 := (by decide); have o4 := t_fnl c5; have o5 : (2 : Int32).toInt = 2 := (by decide); have o6 := t_addO x1 2; have o7 : (Int32.ofNat N15).toInt = N15 := nI_toInt hN15; have o8 := hN15; have o9 := t_fnl c16; have o10 := Int32.le_toInt x24; have o11 := Int32.toInt_lt x24; have o12 := t_fnl v25; have o13 := t_fne c26; have o14 : (3 : Int32).toInt = 3 := (by decide); have o15 := t_addO x1 3; obtain ⟨ko16, o16⟩ := t_mulO (2 : Int32) x24 (2) (by decide); have o17 := t_addO (x1 + 3) ((2 : Int32) * x24); have o18 := t_fne c27; rw [vp_in_iff]; omega) (fun x28 _ => ?_)
              refine z_iload_n hC (pc := 66) 2 dX2_paramOf_66 rfl rfl ?_
              refine z_icmp_ne hC (pc := 67) 73 dX2_paramOf_67 (by decide) (fun c29 => ?_) (fun c29 => ?_)
              · refine z_iinc hC (pc := 73) (v := (x24 + 1)) (lv' := [(4, .int (x24 + 1)), (0, .ref a0), (1, .int x1), (2, .int x2), (3, .int 0)]) 4 dX2_paramOf_73 rfl (congrArg _ (by decide)) (by decide) rfl ?_
                refine z_goto hC (pc := 76) 31 dX2_paramOf_76 (by decide) ?_
                refine z_lvs [1, 2, 3, 4, 0] rfl ?_
                exact ih31 (x24 + 1) (t_nnI v25 (Int32.not_le.mp c26)) (t_up (Int32.not_le.mp c26) hd31)
              · refine z_iload hC (pc := 70) 4 dX2_paramOf_70 rfl ?_
                exact hR _ _ _ _ _ _ dX2_paramOf_72 rfl (Nat.le_of_ble_eq_true rfl) (Nat.le_of_ble_eq_true rfl) ⟨hw0, rfl, rfl, tKeep.rf⟩
      refine z_lvs [2, 3, 4, 1, 0] rfl ?_
      exact j31 _ 0 (by decide) (Nat.le_refl _)
set_option maxRecDepth 20000 in
theorem kX2_emit_ (l : Launch) (G : zG) (T : tT) (κ : Nat → List Nat) (hst : l.stackTraces = false) (hE : tE G T κ) {a0 : Nat} (h0 : a0 ∈ κ 2) {x1 : Int32} {x2 : Int32} : tMv l G T yX2_emit_ cX2_emit_ 3 [] 1 21 0 0 [.ref a0, .int x1, .int x2] uT (uPv 0x800000000000000000000000000000000) := by
  refine tMv.intro hst rfl (Nat.le_of_ble_eq_true rfl) ?_
  intro w0 hw0 _ X hC hR hO hX
  refine z_aload_n hC (pc := 0) 0 dX2_emit__0 rfl rfl ?_
  refine z_iload_n hC (pc := 1) 1 dX2_emit__1 rfl rfl ?_
  obtain ⟨q5, hqq5⟩ := hE.o2 h0
  refine t_callVv hC hw0 (pc := 2) (As := [.int x1]) (kX2_emit l G T κ hst hE h0) trivial dmX2_emit zf2 hqq5 dX2_emit__2 zw1316 rfl rfl (Nat.le_of_ble_eq_true rfl) (Nat.le_of_ble_eq_true rfl) (Nat.le_of_ble_eq_true rfl) (Nat.le_of_ble_eq_true rfl) (Nat.le_of_ble_eq_true rfl) (fun _ _ _ h => nomatch h) (fun cw6 nw6 w6 hw6 pw6 => ?_)
  obtain ⟨rfl, rfl, kw6⟩ := pw6
  refine z_aload_n hC (pc := 5) 0 dX2_emit__5 rfl rfl ?_
  refine z_iload_n hC (pc := 6) 2 dX2_emit__6 rfl rfl ?_
  refine t_callVv hC hw6 (pc := 7) (As := [.int x2]) (kX2_emit l G T κ hst hE h0) trivial dmX2_emit zf2 hqq5 dX2_emit__7 zw1316 rfl rfl (Nat.le_of_ble_eq_true rfl) (Nat.le_of_ble_eq_true rfl) (Nat.le_of_ble_eq_true rfl) (Nat.le_of_ble_eq_true rfl) (Nat.le_of_ble_eq_true rfl) (fun _ _ _ h => nomatch h) (fun cw8 nw8 w8 hw8 pw8 => ?_)
  obtain ⟨rfl, rfl, kw8⟩ := pw8
  exact hR _ _ _ _ _ dX2_emit__10 (Nat.le_of_ble_eq_true rfl) (Nat.le_of_ble_eq_true rfl) ⟨hw8, rfl, rfl, (tKeep.tr (tKeep.tr tKeep.rf kw6 rfl) kw8 rfl)⟩
set_option maxRecDepth 20000 in
theorem kX10_flush (l : Launch) (G : zG) (T : tT) (κ : Nat → List Nat) (hst : l.stackTraces = false) (hE : tE G T κ) {a0 : Nat} (h0 : a0 ∈ κ 10) : tMi l G T yX10_flush cX10_flush 1 .int [] 2 44 0 0 [.ref a0] uT (uPi 0x4000000000000000000000000000000000000000000000000000000000000000000000000000000000000000000000000000000000000000000000000000000000800000000000000000000000000000000) := by
  refine tMi.intro hst rfl (Nat.le_of_ble_eq_true rfl) ?_
  intro w0 hw0 _ X hC hR hO hX
  refine z_aload_n hC (pc := 0) 0 dX10_flush_0 rfl rfl ?_
  refine u_get hC hw0 (pc := 1) zf10 10 (hE.o10 h0) rfl dX10_flush_1 zw342 (kk := fun vx3 tx3 fx3 => ?_)
  obtain ⟨x3, rfl⟩ := tx3
  refine z_if_ne hC (pc := 4) 9 dX10_flush_4 (by decide) (fun c4 => ?_) (fun c4 => ?_)
  · refine z_aload_n hC (pc := 9) 0 dX10_flush_9 rfl rfl ?_
    refine u_get hC hw0 (pc := 10) zf10 1 (hE.o10 h0) rfl dX10_flush_10 zw331 (kk := fun va5 ta5 fa5 => ?_)
    obtain ⟨a5, ma5, rfl⟩ := ta5
    refine z_iconst hC (pc := 13) (v := 1) dX10_flush_13 (by decide) ?_
    refine z_aload_n hC (pc := 14) 0 dX10_flush_14 rfl rfl ?_
    refine u_get hC hw0 (pc := 15) zf10 9 (hE.o10 h0) rfl dX10_flush_15 zw341 (kk := fun vx6 tx6 fx6 => ?_)
    obtain ⟨x6, rfl⟩ := tx6
    refine z_aload_n hC (pc := 18) 0 dX10_flush_18 rfl rfl ?_
    refine u_getK hC (pc := 19) zf10 10 fx3 dX10_flush_19 zw342 (kk := ?_)
    obtain ⟨q7, hqq7⟩ := hE.o2 ma5
    refine t_callVv hC hw0 (pc := 22) (As := [.int 1, .int x6, .int x3]) (kX2_emit__ l G T κ hst hE ma5) trivial dmX2_emit__ zf2 hqq7 dX10_flush_22 zw1370 rfl rfl (Nat.le_of_ble_eq_true rfl) (Nat.le_of_ble_eq_true rfl) (Nat.le_of_ble_eq_true rfl) (Nat.le_of_ble_eq_true rfl) (Nat.le_of_ble_eq_true rfl) (fun _ _ _ h => nomatch h) (fun cw8 nw8 w8 hw8 pw8 => ?_)
    obtain ⟨rfl, rfl, kw8⟩ := pw8
    refine z_aload_n hC (pc := 25) 0 dX10_flush_25 rfl rfl ?_
    refine z_iconst hC (pc := 26) (v := 0) dX10_flush_26 (by decide) ?_
    refine u_put hC hw8 (pc := 27) zf10 10 (hE.o10 h0) rfl ⟨_, rfl⟩ dX10_flush_27 zw342 rfl rfl rfl (kk := fun w10 hw10 fw10 kw10 => ?_)
    refine z_aload_n hC (pc := 30) 0 dX10_flush_30 rfl rfl ?_
    refine u_getK hC (pc := 31) zf10 1 (tKeep.F kw10 (tKeep.F kw8 fa5 rfl) rfl) dX10_flush_31 zw331 (kk := ?_)
    refine u_get hC hw10 (pc := 34) zf2 3 (hE.o2 ma5) rfl dX10_flush_34 zw245 (kk := fun vx11 tx11 fx11 => ?_)
    obtain ⟨x11, rfl⟩ := tx11
    refine z_iconst hC (pc := 37) (v := 1) dX10_flush_37 (by decide) ?_
    refine z_isub hC (pc := 38) (v := (x11 - 1)) dX10_flush_38 rfl ?_
    exact hR _ _ _ _ _ _ dX10_flush_39 rfl (Nat.le_of_ble_eq_true rfl) (Nat.le_of_ble_eq_true rfl) ⟨hw10, rfl, rfl, (tKeep.tr (tKeep.tr tKeep.rf kw8 rfl) kw10 rfl)⟩
  · refine z_iconst hC (pc := 7) (v := (-1)) dX10_flush_7 (by decide) ?_
    exact hR _ _ _ _ _ _ dX10_flush_8 rfl (Nat.le_of_ble_eq_true rfl) (Nat.le_of_ble_eq_true rfl) ⟨hw0, rfl, rfl, tKeep.rf⟩
set_option maxRecDepth 20000 in
theorem kX10_comment (l : Launch) (G : zG) (T : tT) (κ : Nat → List Nat) (hst : l.stackTraces = false) (hE : tE G T κ) {a0 : Nat} (h0 : a0 ∈ κ 10) : tMv l G T yX10_comment cX10_comment 2 ["java/lang/IllegalStateException"] 7 103 1 6 [.ref a0] uT (uPv 0x1a00000000000000000000000000000000000000000000000000000000000000000000000000000000000000000000000000000000000000000) := by
  refine tMv.intro hst rfl (Nat.le_of_ble_eq_true rfl) ?_
  intro w0 hw0 _ X hC hR hO hX
  refine z_aload_n hC (pc := 0) 0 dX10_comment_0 rfl rfl ?_
  refine u_get hC hw0 (pc := 1) zf10 0 (hE.o10 h0) rfl dX10_comment_1 zw330 (kk := fun va3 ta3 fa3 => ?_)
  obtain ⟨a3, ma3, rfl⟩ := ta3
  refine u_get hC hw0 (pc := 4) zf7 5 (hE.o7 ma3) rfl dX10_comment_4 zw124 (kk := fun vx4 tx4 fx4 => ?_)
  obtain ⟨x4, rfl⟩ := tx4
  refine z_iconst hC (pc := 7) (v := 1) dX10_comment_7 (by decide) ?_
  refine z_iadd hC (pc := 8) (v := (x4 + 1)) dX10_comment_8 rfl ?_
  refine z_istore_n hC (pc := 9) (lv' := [(1, .int (x4 + 1)), (0, .ref a0)]) dX10_comment_9 rfl (by decide) rfl ?_
  have j10 : ∀ (d10 : Nat), ∀ (w5 : va_W), tW T w5 → tKeep 0x0 w0 w5 → ∀ (x6 : Int32), (2 ^ 31 - (x6 : Int32).toInt).toNat ≤ d10 → zS X G 2 w5 [(0, .ref a0), (1, .int x6)] 0 0 10 [] := by
    intro d10
    induction d10 with
    | zero => intro w5 hw5 kw5 x6 hd10; exact (t_zero hd10).elim
    | succ d10 ih10 =>
      intro w5 hw5 kw5 x6 hd10
      refine z_iload_n hC (pc := 10) 1 dX10_comment_10 rfl rfl ?_
      refine z_aload_n hC (pc := 11) 0 dX10_comment_11 rfl rfl ?_
      refine u_getK hC (pc := 12) zf10 0 (tKeep.F kw5 fa3 rfl) dX10_comment_12 zw330 (kk := ?_)
      refine u_get hC hw5 (pc := 15) zf7 4 (hE.o7 ma3) rfl dX10_comment_15 zw121 (kk := fun vx7 tx7 fx7 => ?_)
      obtain ⟨x7, rfl⟩ := tx7
      have j57 : ∀ (w8 : va_W), tW T w8 → tKeep 0x0 w5 w8 → zS X G 2 w8 [(0, .ref a0), (1, .int x6)] 0 0 57 [] := by
        intro w8 hw8 kw8
        refine z_iload_n hC (pc := 57) 1 dX10_comment_57 rfl rfl ?_
        refine z_aload_n hC (pc := 58) 0 dX10_comment_58 rfl rfl ?_
        refine u_getK hC (pc := 59) zf10 0 (tKeep.F kw8 (tKeep.F kw5 fa3 rfl) rfl) dX10_comment_59 zw330 (kk := ?_)
        refine u_getK hC (pc := 62) zf7 4 (tKeep.F kw8 fx7 rfl) dX10_comment_62 zw121 (kk := ?_)
        have j90 : ∀ (w9 : va_W), tW T w9 → tKeep 0x1800000000000000000000000000000000000000000000000000000000000000000000000000000000000000000000000000000000000000000 w8 w9 → zS X G 2 w9 [(0, .ref a0), (1, .int x6)] 0 0 90 [] := by
          intro w9 hw9 kw9
          refine z_aload_n hC (pc := 90) 0 dX10_comment_90 rfl rfl ?_
          refine u_getK hC (pc := 91) zf10 0 (tKeep.F kw9 (tKeep.F kw8 (tKeep.F kw5 fa3 rfl) rfl) rfl) dX10_comment_91 zw330 (kk := ?_)
          refine z_iload_n hC (pc := 94) 1 dX10_comment_94 rfl rfl ?_
          refine z_iconst hC (pc := 95) (v := 2) dX10_comment_95 (by decide) ?_
          refine z_iadd hC (pc := 96) (v := (x6 + 2)) dX10_comment_96 rfl ?_
          refine u_put hC hw9 (pc := 97) zf7 5 (hE.o7 ma3) rfl ⟨_, rfl⟩ dX10_comment_97 zw124 rfl rfl rfl (kk := fun w10 hw10 fw10 kw10 => ?_)
          exact hR _ _ _ _ _ dX10_comment_100 (Nat.le_of_ble_eq_true rfl) (Nat.le_of_ble_eq_true rfl) ⟨hw10, rfl, rfl, (tKeep.tr (tKeep.tr (tKeep.tr (tKeep.tr tKeep.rf kw5 rfl) kw8 rfl) kw9 rfl) kw10 rfl)⟩
        refine z_icmp_lt hC (pc := 65) 90 dX10_comment_65 (by decide) (fun c11 => ?_) (fun c11 => ?_)
        · exact j90 w8 hw8 tKeep.rf
        · refine z_aload_n hC (pc := 68) 0 dX10_comment_68 rfl rfl ?_
          refine u_getK hC (pc := 69) zf10 0 (tKeep.F kw8 (tKeep.F kw5 fa3 rfl) rfl) dX10_comment_69 zw330 (kk := ?_)
          refine z_iconst hC (pc := 72) (v := 1) dX10_comment_72 (by decide) ?_
          refine z_aload_n hC (pc := 73) 0 dX10_comment_73 rfl rfl ?_
          refine u_getK hC (pc := 74) zf10 0 (tKeep.F kw8 (tKeep.F kw5 fa3 rfl) rfl) dX10_comment_74 zw330 (kk := ?_)
          refine z_aload_n hC (pc := 77) 0 dX10_comment_77 rfl rfl ?_
          refine u_getK hC (pc := 78) zf10 0 (tKeep.F kw8 (tKeep.F kw5 fa3 rfl) rfl) dX10_comment_78 zw330 (kk := ?_)
          refine u_getK hC (pc := 81) zf7 4 (tKeep.F kw8 fx7 rfl) dX10_comment_81 zw121 (kk := ?_)
          obtain ⟨q12, hqq12⟩ := hE.o7 ma3
          refine t_callVi hC hw8 (pc := 84) (As := [.int x7]) (kX7_placeOf l G T κ hst hE ma3) trivial dmX7_placeOf zf7 hqq12 dX10_comment_84 zw1420 rfl rfl (Nat.le_of_ble_eq_true rfl) (Nat.le_of_ble_eq_true rfl) (Nat.le_of_ble_eq_true rfl) (Nat.le_of_ble_eq_true rfl) (Nat.le_of_ble_eq_true rfl) (fun _ _ _ h => nomatch h) (fun x14 cw13 nw13 w13 hw13 pw13 => ?_)
          obtain ⟨rfl, rfl, kw13⟩ := pw13
          refine t_callVv hC hw13 (pc := 87) (As := [.int 1, .int x14]) (kX7_fail l G T κ hst hE ma3) trivial dmX7_fail zf7 hqq12 dX10_comment_87 zw1369 rfl rfl (Nat.le_of_ble_eq_true rfl) (Nat.le_of_ble_eq_true rfl) (Nat.le_of_ble_eq_true rfl) (Nat.le_of_ble_eq_true rfl) (Nat.le_of_ble_eq_true rfl) (fun E w q hE hw => hO E w _ _ _ _ _ q hE (Nat.le_of_ble_eq_true rfl) (Nat.le_of_ble_eq_true rfl) hw) (fun cw15 nw15 w15 hw15 pw15 => ?_)
          obtain ⟨rfl, rfl, kw15⟩ := pw15
          exact j90 w15 hw15 (tKeep.tr (tKeep.tr tKeep.rf kw13 rfl) kw15 rfl)
      refine z_icmp_ge hC (pc := 18) 57 dX10_comment_18 (by decide) (fun c17 => ?_) (fun c17 => ?_)
      · exact j57 w5 hw5 tKeep.rf
      · refine z_aload_n hC (pc := 21) 0 dX10_comment_21 rfl rfl ?_
        refine u_getK hC (pc := 22) zf10 0 (tKeep.F kw5 fa3 rfl) dX10_comment_22 zw330 (kk := ?_)
        refine z_iload_n hC (pc := 25) 1 dX10_comment_25 rfl rfl ?_
        obtain ⟨q18, hqq18⟩ := hE.o7 ma3
        refine t_callVi hC hw5 (pc := 26) (As := [.int x6]) (kX7_at l G T κ hst hE ma3) trivial dmX7_at zf7 hqq18 dX10_comment_26 zw1379 rfl rfl (Nat.le_of_ble_eq_true rfl) (Nat.le_of_ble_eq_true rfl) (Nat.le_of_ble_eq_true rfl) (Nat.le_of_ble_eq_true rfl) (Nat.le_of_ble_eq_true rfl) (fun _ _ _ h => nomatch h) (fun x20 cw19 nw19 w19 hw19 pw19 => ?_)
        obtain ⟨rfl, rfl, kw19⟩ := pw19
        refine z_bipush hC (pc := 29) (v := 33) dX10_comment_29 (by decide) ?_
        have j51 : ∀ (w21 : va_W), tW T w21 → tKeep 0x0 w19 w21 → zS X G 2 w21 [(0, .ref a0), (1, .int x6)] 0 0 51 [] := by
          intro w21 hw21 kw21
          refine z_iinc hC (pc := 51) (v := (x6 + 1)) (lv' := [(1, .int (x6 + 1)), (0, .ref a0)]) 1 dX10_comment_51 rfl (congrArg _ (by decide)) (by decide) rfl ?_
          refine z_goto hC (pc := 54) 10 dX10_comment_54 (by decide) ?_
          refine z_lvs [1, 0] rfl ?_
          exact ih10 w21 hw21 (tKeep.tr (tKeep.tr (tKeep.tr tKeep.rf kw5 rfl) kw19 rfl) kw21 rfl) (x6 + 1) (t_up (Int32.not_le.mp c17) hd10)
        refine z_icmp_ne hC (pc := 31) 51 dX10_comment_31 (by decide) (fun c22 => ?_) (fun c22 => ?_)
        · exact j51 w19 hw19 tKeep.rf
        · refine z_aload_n hC (pc := 34) 0 dX10_comment_34 rfl rfl ?_
          refine u_getK hC (pc := 35) zf10 0 (tKeep.F kw19 (tKeep.F kw5 fa3 rfl) rfl) dX10_comment_35 zw330 (kk := ?_)
          refine z_iload_n hC (pc := 38) 1 dX10_comment_38 rfl rfl ?_
          refine z_iconst hC (pc := 39) (v := 1) dX10_comment_39 (by decide) ?_
          refine z_iadd hC (pc := 40) (v := (x6 + 1)) dX10_comment_40 rfl ?_
          refine t_callVi hC hw19 (pc := 41) (As := [.int (x6 + 1)]) (kX7_at l G T κ hst hE ma3) trivial dmX7_at zf7 hqq18 dX10_comment_41 zw1379 rfl rfl (Nat.le_of_ble_eq_true rfl) (Nat.le_of_ble_eq_true rfl) (Nat.le_of_ble_eq_true rfl) (Nat.le_of_ble_eq_true rfl) (Nat.le_of_ble_eq_true rfl) (fun _ _ _ h => nomatch h) (fun x24 cw23 nw23 w23 hw23 pw23 => ?_)
          obtain ⟨rfl, rfl, kw23⟩ := pw23
          refine z_aload_n hC (pc := 44) 0 dX10_comment_44 rfl rfl ?_
          refine u_get hC hw23 (pc := 45) zf10 3 (hE.o10 h0) rfl dX10_comment_45 zw334 (kk := fun vx25 tx25 fx25 => ?_)
          obtain ⟨x25, rfl⟩ := tx25
          refine z_icmp_eq hC (pc := 48) 57 dX10_comment_48 (by decide) (fun c26 => ?_) (fun c26 => ?_)
          · exact j57 w23 hw23 (tKeep.tr (tKeep.tr tKeep.rf kw19 rfl) kw23 rfl)
          · exact j51 w23 hw23 (tKeep.tr tKeep.rf kw23 rfl)
  refine z_lvs [1, 0] rfl ?_
  exact j10 _ w0 hw0 tKeep.rf (x4 + 1) (Nat.le_refl _)
set_option maxRecDepth 20000 in
theorem kX10_restOfLine (l : Launch) (G : zG) (T : tT) (κ : Nat → List Nat) (hst : l.stackTraces = false) (hE : tE G T κ) {a0 : Nat} (h0 : a0 ∈ κ 10) {x1 : Int32} {x2 : Int32} : tMv l G T yX10_restOfLine cX10_restOfLine 6 [] 1 22 0 0 [.ref a0, .int x1, .int x2] uT (uPv 0x8000000000000000000000000000000000000000000000000200000000000000000000000000000000000000000000000000000000000000000000000000000000000000000000000000000000000000000) := by
  refine tMv.intro hst rfl (Nat.le_of_ble_eq_true rfl) ?_
  intro w0 hw0 _ X hC hR hO hX
  refine z_aload_n hC (pc := 0) 0 dX10_restOfLine_0 rfl rfl ?_
  refine u_get hC hw0 (pc := 1) zf10 0 (hE.o10 h0) rfl dX10_restOfLine_1 zw330 (kk := fun va5 ta5 fa5 => ?_)
  obtain ⟨a5, ma5, rfl⟩ := ta5
  refine u_get hC hw0 (pc := 4) zf7 5 (hE.o7 ma5) rfl dX10_restOfLine_4 zw124 (kk := fun vx6 tx6 fx6 => ?_)
  obtain ⟨x6, rfl⟩ := tx6
  refine z_istore_n hC (pc := 7) (lv' := [(3, .int x6), (0, .ref a0), (1, .int x1), (2, .int x2)]) dX10_restOfLine_7 rfl (by decide) rfl ?_
  have j8 : ∀ (d8 : Nat), ∀ (w7 : va_W), tW T w7 → tKeep 0x0 w0 w7 → ∀ (x8 : Int32), (2 ^ 31 - (x8 : Int32).toInt).toNat ≤ d8 → zS X G 6 w7 [(0, .ref a0), (1, .int x1), (2, .int x2), (3, .int x8)] 0 0 8 [] := by
    intro d8
    induction d8 with
    | zero => intro w7 hw7 kw7 x8 hd8; exact (t_zero hd8).elim
    | succ d8 ih8 =>
      intro w7 hw7 kw7 x8 hd8
      refine z_iload_n hC (pc := 8) 3 dX10_restOfLine_8 rfl rfl ?_
      refine z_aload_n hC (pc := 9) 0 dX10_restOfLine_9 rfl rfl ?_
      refine u_getK hC (pc := 10) zf10 0 (tKeep.F kw7 fa5 rfl) dX10_restOfLine_10 zw330 (kk := ?_)
      refine u_get hC hw7 (pc := 13) zf7 4 (hE.o7 ma5) rfl dX10_restOfLine_13 zw121 (kk := fun vx9 tx9 fx9 => ?_)
      obtain ⟨x9, rfl⟩ := tx9
      have j51 : ∀ (w10 : va_W), tW T w10 → tKeep 0x0 w7 w10 → zS X G 6 w10 [(0, .ref a0), (1, .int x1), (2, .int x2), (3, .int x8)] 0 0 51 [] := by
        intro w10 hw10 kw10
        refine z_aload_n hC (pc := 51) 0 dX10_restOfLine_51 rfl rfl ?_
        refine u_getK hC (pc := 52) zf10 0 (tKeep.F kw10 (tKeep.F kw7 fa5 rfl) rfl) dX10_restOfLine_52 zw330 (kk := ?_)
        refine z_iload_n hC (pc := 55) 3 dX10_restOfLine_55 rfl rfl ?_
        obtain ⟨q11, hqq11⟩ := hE.o7 ma5
        refine t_callVi hC hw10 (pc := 56) (As := [.int x8]) (kX7_at l G T κ hst hE ma5) trivial dmX7_at zf7 hqq11 dX10_restOfLine_56 zw1379 rfl rfl (Nat.le_of_ble_eq_true rfl) (Nat.le_of_ble_eq_true rfl) (Nat.le_of_ble_eq_true rfl) (Nat.le_of_ble_eq_true rfl) (Nat.le_of_ble_eq_true rfl) (fun _ _ _ h => nomatch h) (fun x13 cw12 nw12 w12 hw12 pw12 => ?_)
        obtain ⟨rfl, rfl, kw12⟩ := pw12
        refine z_bipush hC (pc := 59) (v := 10) dX10_restOfLine_59 (by decide) ?_
        have j69 : ∀ (x14 : Int32), tZ (.int x14) → zS X G 6 w12 [(0, .ref a0), (1, .int x1), (2, .int x2), (3, .int x8)] 0 0 69 [.int x14] := by
          intro x14 zx14
          refine z_istore hC (pc := 69) (lv' := [(4, .int x14), (0, .ref a0), (1, .int x1), (2, .int x2), (3, .int x8)]) dX10_restOfLine_69 (by decide) rfl ?_
          refine z_iload_n hC (pc := 71) 4 dX10_restOfLine_71 rfl rfl ?_
          refine z_aload_n hC (pc := 72) 1 dX10_restOfLine_72 rfl rfl ?_
          refine u_getK hC (pc := 73) zf10 0 (tKeep.F kw12 (tKeep.F kw10 (tKeep.F kw7 fa5 rfl) rfl) rfl) dX10_restOfLine_73 zw330 (kk := ?_)
          refine u_getK hC (pc := 76) zf7 4 (tKeep.F kw12 (tKeep.F kw10 fx9 rfl) rfl) dX10_restOfLine_76 zw121 (kk := ?_)
          have j107 : ∀ (w15 : va_W), tW T w15 → tKeep 0x0 w12 w15 → ∀ (x16 : Int32), tZ (.int x16) → zS X G 6 w15 [(0, .ref a0), (1, .int x1), (2, .int x2), (3, .int x8), (4, .int x14)] 0 0 107 [.int x16] := by
            intro w15 hw15 kw15 x16 zx16
            refine z_istore hC (pc := 107) (lv' := [(5, .int x16), (0, .ref a0), (1, .int x1), (2, .int x2), (3, .int x8), (4, .int x14)]) dX10_restOfLine_107 (by decide) rfl ?_
            refine z_aload_n hC (pc := 109) 1 dX10_restOfLine_109 rfl rfl ?_
            refine z_iload_n hC (pc := 110) 2 dX10_restOfLine_110 rfl rfl ?_
            have j124 : ∀ (x17 : Int32), tZ (.int x17) → zS X G 6 w15 [(0, .ref a0), (1, .int x1), (2, .int x2), (3, .int x8), (4, .int x14), (5, .int x16)] 0 0 124 [.int x17, .ref a0] := by
              intro x17 zx17
              refine u_put hC hw15 (pc := 124) zf10 11 (hE.o10 h0) rfl zx17 dX10_restOfLine_124 zw343 rfl (t_nZ zx17) (t_fZ zx17) (kk := fun w18 hw18 fw18 kw18 => ?_)
              refine z_iload_n hC (pc := 127) 1 dX10_restOfLine_127 rfl rfl ?_
              have j177 : ∀ (w19 : va_W), tW T w19 → tKeep 0x200000000000000000000000000000000000000000000000000000000000000000000000000000000000000000000000000000000000000000 w18 w19 → zS X G 6 w19 [] 0 0 177 [] := by
                intro w19 hw19 kw19
                exact hR _ _ _ _ _ dX10_restOfLine_177 (Nat.le_of_ble_eq_true rfl) (Nat.le_of_ble_eq_true rfl) ⟨hw19, rfl, rfl, (tKeep.tr (tKeep.tr (tKeep.tr (tKeep.tr (tKeep.tr (tKeep.tr tKeep.rf kw7 rfl) kw10 rfl) kw12 rfl) kw15 rfl) kw18 rfl) kw19 rfl)⟩
              refine z_if_eq hC (pc := 128) 177 dX10_restOfLine_128 (by decide) (fun c20 => ?_) (fun c20 => ?_)
              · refine z_lvs [] rfl ?_
                exact j177 w18 hw18 tKeep.rf
              · refine z_iload hC (pc := 131) 4 dX10_restOfLine_131 rfl ?_
                have j141 : zS X G 6 w18 [(0, .ref a0), (2, .int x2), (3, .int x8), (4, .int x14)] 0 0 141 [] := by
                  refine z_iload_n hC (pc := 141) 1 dX10_restOfLine_141 rfl rfl ?_
                  refine z_iconst hC (pc := 142) (v := (-1)) dX10_restOfLine_142 (by decide) ?_
                  have j158 : ∀ (w21 : va_W), tW T w21 → tKeep 0x0 w18 w21 → zS X G 6 w21 [(0, .ref a0), (3, .int x8), (4, .int x14)] 0 0 158 [] := by
                    intro w21 hw21 kw21
                    refine z_aload_n hC (pc := 158) 0 dX10_restOfLine_158 rfl rfl ?_
                    refine u_getK hC (pc := 159) zf10 0 (tKeep.F kw21 (tKeep.F kw18 (tKeep.F kw15 (tKeep.F kw12 (tKeep.F kw10 (tKeep.F kw7 fa5 rfl) rfl) rfl) rfl) rfl) rfl) dX10_restOfLine_159 zw330 (kk := ?_)
                    refine z_iload hC (pc := 162) 2 dX10_restOfLine_162 rfl ?_
                    have j174 : ∀ (x22 : Int32), zS X G 6 w21 [] 0 0 174 [.int x22, .ref a5] := by
                      intro x22
                      refine u_put hC hw21 (pc := 174) zf7 5 (hE.o7 ma5) rfl ⟨_, rfl⟩ dX10_restOfLine_174 zw124 rfl rfl rfl (kk := fun w23 hw23 fw23 kw23 => ?_)
                      exact j177 w23 hw23 (tKeep.tr (tKeep.tr tKeep.rf kw21 rfl) kw23 rfl)
                    refine z_if_eq hC (pc := 164) 173 dX10_restOfLine_164 (by decide) (fun c24 => ?_) (fun c24 => ?_)
                    · refine z_iload_n hC (pc := 173) 1 dX10_restOfLine_173 rfl rfl ?_
                      refine z_lvs [] rfl ?_
                      exact j174 x8
                    · refine z_iload_n hC (pc := 167) 1 dX10_restOfLine_167 rfl rfl ?_
                      refine z_iconst hC (pc := 168) (v := 1) dX10_restOfLine_168 (by decide) ?_
                      refine z_iadd hC (pc := 169) (v := (x8 + 1)) dX10_restOfLine_169 rfl ?_
                      refine z_goto hC (pc := 170) 174 dX10_restOfLine_170 (by decide) ?_
                      refine z_lvs [] rfl ?_
                      exact j174 (x8 + 1)
                  refine z_icmp_eq hC (pc := 143) 158 dX10_restOfLine_143 (by decide) (fun c25 => ?_) (fun c25 => ?_)
                  · refine z_lvs [0, 2, 3] rfl ?_
                    exact j158 w18 hw18 tKeep.rf
                  · refine z_aload_n hC (pc := 146) 0 dX10_restOfLine_146 rfl rfl ?_
                    refine u_get hC hw18 (pc := 147) zf10 1 (hE.o10 h0) rfl dX10_restOfLine_147 zw331 (kk := fun va26 ta26 fa26 => ?_)
                    obtain ⟨a26, ma26, rfl⟩ := ta26
                    refine u_get hC hw18 (pc := 150) zf2 2 (hE.o2 ma26) rfl dX10_restOfLine_150 zw242 (kk := fun va27 ta27 fa27 => ?_)
                    obtain ⟨a27, ma27, rfl⟩ := ta27
                    refine z_iload_n hC (pc := 153) 1 dX10_restOfLine_153 rfl rfl ?_
                    refine z_iconst hC (pc := 154) (v := 0) dX10_restOfLine_154 (by decide) ?_
                    refine t_callSNv hC hw18 (pc := 155) (As := [.ref a27, .int x2, .int 0]) (kX12_set l G T κ hst hE ma27) trivial dmX12_set dX10_restOfLine_155 zw1398 rfl rfl (Nat.le_of_ble_eq_true rfl) (Nat.le_of_ble_eq_true rfl) (Nat.le_of_ble_eq_true rfl) (Nat.le_of_ble_eq_true rfl) (Nat.le_of_ble_eq_true rfl) (fun _ _ _ h => nomatch h) (fun cw28 nw28 w28 hw28 pw28 => ?_)
                    obtain ⟨rfl, rfl, kw28⟩ := pw28
                    refine z_lvs [0, 2, 3] rfl ?_
                    exact j158 w28 hw28 (tKeep.tr tKeep.rf kw28 rfl)
                refine z_if_ne hC (pc := 133) 141 dX10_restOfLine_133 (by decide) (fun c30 => ?_) (fun c30 => ?_)
                · refine z_lvs [0, 2, 3, 4] rfl ?_
                  exact j141
                · refine z_iload hC (pc := 136) 5 dX10_restOfLine_136 rfl ?_
                  refine z_if_eq hC (pc := 138) 177 dX10_restOfLine_138 (by decide) (fun c31 => ?_) (fun c31 => ?_)
                  · refine z_lvs [] rfl ?_
                    exact j177 w18 hw18 tKeep.rf
                  · refine z_lvs [0, 2, 3, 4] rfl ?_
                    exact j141
            have j123 : zS X G 6 w15 [(0, .ref a0), (1, .int x1), (2, .int x2), (3, .int x8), (4, .int x14), (5, .int x16)] 0 0 123 [.ref a0] := by
              refine z_iconst hC (pc := 123) (v := 0) dX10_restOfLine_123 (by decide) ?_
              exact j124 0 (Or.inl rfl)
            refine z_if_eq hC (pc := 111) 123 dX10_restOfLine_111 (by decide) (fun c32 => ?_) (fun c32 => ?_)
            · refine z_lvs [1, 2, 3, 4, 5, 0] rfl ?_
              exact j123
            · refine z_iload hC (pc := 114) 5 dX10_restOfLine_114 rfl ?_
              refine z_if_eq hC (pc := 116) 123 dX10_restOfLine_116 (by decide) (fun c33 => ?_) (fun c33 => ?_)
              · refine z_lvs [1, 2, 3, 4, 5, 0] rfl ?_
                exact j123
              · refine z_iconst hC (pc := 119) (v := 1) dX10_restOfLine_119 (by decide) ?_
                refine z_goto hC (pc := 120) 124 dX10_restOfLine_120 (by decide) ?_
                refine z_lvs [1, 2, 3, 4, 5, 0] rfl ?_
                exact j124 1 (Or.inr rfl)
          have j102 : ∀ (w34 : va_W), tW T w34 → tKeep 0x0 w12 w34 → zS X G 6 w34 [(0, .ref a0), (1, .int x1), (2, .int x2), (3, .int x8), (4, .int x14)] 0 0 102 [] := by
            intro w34 hw34 kw34
            refine z_iconst hC (pc := 102) (v := 1) dX10_restOfLine_102 (by decide) ?_
            refine z_goto hC (pc := 103) 107 dX10_restOfLine_103 (by decide) ?_
            exact j107 w34 hw34 (tKeep.tr tKeep.rf kw34 rfl) 1 (Or.inr rfl)
          refine z_icmp_ge hC (pc := 79) 102 dX10_restOfLine_79 (by decide) (fun c35 => ?_) (fun c35 => ?_)
          · refine z_lvs [1, 2, 3, 4, 0] rfl ?_
            exact j102 w12 hw12 tKeep.rf
          · refine z_aload_n hC (pc := 82) 1 dX10_restOfLine_82 rfl rfl ?_
            refine u_get hC hw12 (pc := 83) zf10 8 (hE.o10 h0) rfl dX10_restOfLine_83 zw340 (kk := fun vx36 tx36 fx36 => ?_)
            obtain ⟨x36, rfl, zx36⟩ := t_zof tx36
            have j106 : ∀ (w37 : va_W), tW T w37 → tKeep 0x0 w12 w37 → zS X G 6 w37 [(0, .ref a0), (1, .int x1), (2, .int x2), (3, .int x8), (4, .int x14)] 0 0 106 [] := by
              intro w37 hw37 kw37
              refine z_iconst hC (pc := 106) (v := 0) dX10_restOfLine_106 (by decide) ?_
              exact j107 w37 hw37 (tKeep.tr tKeep.rf kw37 rfl) 0 (Or.inl rfl)
            refine z_if_eq hC (pc := 86) 106 dX10_restOfLine_86 (by decide) (fun c38 => ?_) (fun c38 => ?_)
            · refine z_lvs [1, 2, 3, 4, 0] rfl ?_
              exact j106 w12 hw12 tKeep.rf
            · refine z_aload_n hC (pc := 89) 1 dX10_restOfLine_89 rfl rfl ?_
              refine u_getK hC (pc := 90) zf10 0 (tKeep.F kw12 (tKeep.F kw10 (tKeep.F kw7 fa5 rfl) rfl) rfl) dX10_restOfLine_90 zw330 (kk := ?_)
              refine z_iload_n hC (pc := 93) 4 dX10_restOfLine_93 rfl rfl ?_
              refine t_callVi hC hw12 (pc := 94) (As := [.int x8]) (kX7_at l G T κ hst hE ma5) trivial dmX7_at zf7 hqq11 dX10_restOfLine_94 zw1379 rfl rfl (Nat.le_of_ble_eq_true rfl) (Nat.le_of_ble_eq_true rfl) (Nat.le_of_ble_eq_true rfl) (Nat.le_of_ble_eq_true rfl) (Nat.le_of_ble_eq_true rfl) (fun _ _ _ h => nomatch h) (fun x40 cw39 nw39 w39 hw39 pw39 => ?_)
              obtain ⟨rfl, rfl, kw39⟩ := pw39
              refine z_bipush hC (pc := 97) (v := 125) dX10_restOfLine_97 (by decide) ?_
              refine z_icmp_ne hC (pc := 99) 106 dX10_restOfLine_99 (by decide) (fun c41 => ?_) (fun c41 => ?_)
              · refine z_lvs [1, 2, 3, 4, 0] rfl ?_
                exact j106 w39 hw39 (tKeep.tr tKeep.rf kw39 rfl)
              · refine z_lvs [1, 2, 3, 4, 0] rfl ?_
                exact j102 w39 hw39 (tKeep.tr tKeep.rf kw39 rfl)
        refine z_icmp_ne hC (pc := 61) 68 dX10_restOfLine_61 (by decide) (fun c42 => ?_) (fun c42 => ?_)
        · refine z_iconst hC (pc := 68) (v := 0) dX10_restOfLine_68 (by decide) ?_
          exact j69 0 (Or.inl rfl)
        · refine z_iconst hC (pc := 64) (v := 1) dX10_restOfLine_64 (by decide) ?_
          refine z_goto hC (pc := 65) 69 dX10_restOfLine_65 (by decide) ?_
          exact j69 1 (Or.inr rfl)
      refine z_icmp_ge hC (pc := 16) 51 dX10_restOfLine_16 (by decide) (fun c43 => ?_) (fun c43 => ?_)
      · exact j51 w7 hw7 tKeep.rf
      · refine z_aload_n hC (pc := 19) 0 dX10_restOfLine_19 rfl rfl ?_
        refine u_getK hC (pc := 20) zf10 0 (tKeep.F kw7 fa5 rfl) dX10_restOfLine_20 zw330 (kk := ?_)
        refine z_iload_n hC (pc := 23) 3 dX10_restOfLine_23 rfl rfl ?_
        obtain ⟨q44, hqq44⟩ := hE.o7 ma5
        refine t_callVi hC hw7 (pc := 24) (As := [.int x8]) (kX7_at l G T κ hst hE ma5) trivial dmX7_at zf7 hqq44 dX10_restOfLine_24 zw1379 rfl rfl (Nat.le_of_ble_eq_true rfl) (Nat.le_of_ble_eq_true rfl) (Nat.le_of_ble_eq_true rfl) (Nat.le_of_ble_eq_true rfl) (Nat.le_of_ble_eq_true rfl) (fun _ _ _ h => nomatch h) (fun x46 cw45 nw45 w45 hw45 pw45 => ?_)
        obtain ⟨rfl, rfl, kw45⟩ := pw45
        refine z_bipush hC (pc := 27) (v := 32) dX10_restOfLine_27 (by decide) ?_
        have j45 : ∀ (w47 : va_W), tW T w47 → tKeep 0x0 w45 w47 → zS X G 6 w47 [(0, .ref a0), (1, .int x1), (2, .int x2), (3, .int x8)] 0 0 45 [] := by
          intro w47 hw47 kw47
          refine z_iinc hC (pc := 45) (v := (x8 + 1)) (lv' := [(3, .int (x8 + 1)), (0, .ref a0), (1, .int x1), (2, .int x2)]) 3 dX10_restOfLine_45 rfl (congrArg _ (by decide)) (by decide) rfl ?_
          refine z_goto hC (pc := 48) 8 dX10_restOfLine_48 (by decide) ?_
          refine z_lvs [1, 2, 3, 0] rfl ?_
          exact ih8 w47 hw47 (tKeep.tr (tKeep.tr (tKeep.tr tKeep.rf kw7 rfl) kw45 rfl) kw47 rfl) (x8 + 1) (t_up (Int32.not_le.mp c43) hd8)
        refine z_icmp_eq hC (pc := 29) 45 dX10_restOfLine_29 (by decide) (fun c48 => ?_) (fun c48 => ?_)
        · exact j45 w45 hw45 tKeep.rf
        · refine z_aload_n hC (pc := 32) 0 dX10_restOfLine_32 rfl rfl ?_
          refine u_getK hC (pc := 33) zf10 0 (tKeep.F kw45 (tKeep.F kw7 fa5 rfl) rfl) dX10_restOfLine_33 zw330 (kk := ?_)
          refine z_iload_n hC (pc := 36) 3 dX10_restOfLine_36 rfl rfl ?_
          refine t_callVi hC hw45 (pc := 37) (As := [.int x8]) (kX7_at l G T κ hst hE ma5) trivial dmX7_at zf7 hqq44 dX10_restOfLine_37 zw1379 rfl rfl (Nat.le_of_ble_eq_true rfl) (Nat.le_of_ble_eq_true rfl) (Nat.le_of_ble_eq_true rfl) (Nat.le_of_ble_eq_true rfl) (Nat.le_of_ble_eq_true rfl) (fun _ _ _ h => nomatch h) (fun x50 cw49 nw49 w49 hw49 pw49 => ?_)
          obtain ⟨rfl, rfl, kw49⟩ := pw49
          refine z_bipush hC (pc := 40) (v := 9) dX10_restOfLine_40 (by decide) ?_
          refine z_icmp_ne hC (pc := 42) 51 dX10_restOfLine_42 (by decide) (fun c51 => ?_) (fun c51 => ?_)
          · exact j51 w49 hw49 (tKeep.tr (tKeep.tr tKeep.rf kw45 rfl) kw49 rfl)
          · exact j45 w49 hw49 (tKeep.tr tKeep.rf kw49 rfl)
  refine z_lvs [1, 2, 3, 0] rfl ?_
  exact j8 _ w0 hw0 tKeep.rf x6 (Nat.le_refl _)
set_option maxRecDepth 20000 in
theorem kX10_joinLines (l : Launch) (G : zG) (T : tT) (κ : Nat → List Nat) (hst : l.stackTraces = false) (hE : tE G T κ) {a0 : Nat} (h0 : a0 ∈ κ 10) : tMv l G T yX10_joinLines cX10_joinLines 1 ["java/lang/IllegalStateException"] 7 103 1 6 [.ref a0] uT (uPv 0x1a00000000000000000000000000000000000000000000000000000000000000000000000000000000000000000000000000000000000000000) := by
  refine tMv.intro hst rfl (Nat.le_of_ble_eq_true rfl) ?_
  intro w0 hw0 _ X hC hR hO hX
  refine z_aload_n hC (pc := 0) 0 dX10_joinLines_0 rfl rfl ?_
  refine u_get hC hw0 (pc := 1) zf10 0 (hE.o10 h0) rfl dX10_joinLines_1 zw330 (kk := fun va3 ta3 fa3 => ?_)
  obtain ⟨a3, ma3, rfl⟩ := ta3
  refine z_dup hC (pc := 4) dX10_joinLines_4 rfl ?_
  refine u_get hC hw0 (pc := 5) zf7 5 (hE.o7 ma3) rfl dX10_joinLines_5 zw124 (kk := fun vx4 tx4 fx4 => ?_)
  obtain ⟨x4, rfl⟩ := tx4
  refine z_iconst hC (pc := 8) (v := 2) dX10_joinLines_8 (by decide) ?_
  refine z_iadd hC (pc := 9) (v := (x4 + 2)) dX10_joinLines_9 rfl ?_
  refine u_put hC hw0 (pc := 10) zf7 5 (hE.o7 ma3) rfl ⟨_, rfl⟩ dX10_joinLines_10 zw124 rfl rfl rfl (kk := fun w5 hw5 fw5 kw5 => ?_)
  refine z_aload_n hC (pc := 13) 0 dX10_joinLines_13 rfl rfl ?_
  refine u_getK hC (pc := 14) zf10 0 (tKeep.F kw5 fa3 rfl) dX10_joinLines_14 zw330 (kk := ?_)
  obtain ⟨q6, hqq6⟩ := hE.o7 ma3
  refine t_callVi hC hw5 (pc := 17) (As := []) (kX7_peek l G T κ hst hE ma3) trivial dmX7_peek zf7 hqq6 dX10_joinLines_17 zw1399 rfl rfl (Nat.le_of_ble_eq_true rfl) (Nat.le_of_ble_eq_true rfl) (Nat.le_of_ble_eq_true rfl) (Nat.le_of_ble_eq_true rfl) (Nat.le_of_ble_eq_true rfl) (fun _ _ _ h => nomatch h) (fun x8 cw7 nw7 w7 hw7 pw7 => ?_)
  obtain ⟨rfl, rfl, kw7⟩ := pw7
  refine z_aload_n hC (pc := 20) 0 dX10_joinLines_20 rfl rfl ?_
  refine u_get hC hw7 (pc := 21) zf10 3 (hE.o10 h0) rfl dX10_joinLines_21 zw334 (kk := fun vx9 tx9 fx9 => ?_)
  obtain ⟨x9, rfl⟩ := tx9
  have j42 : ∀ (w10 : va_W), tW T w10 → tKeep 0x1800000000000000000000000000000000000000000000000000000000000000000000000000000000000000000000000000000000000000000 w7 w10 → zS X G 1 w10 [(0, .ref a0)] 0 0 42 [] := by
    intro w10 hw10 kw10
    refine z_aload_n hC (pc := 42) 0 dX10_joinLines_42 rfl rfl ?_
    refine u_getK hC (pc := 43) zf10 0 (tKeep.F kw10 (tKeep.F kw7 (tKeep.F kw5 fa3 rfl) rfl) rfl) dX10_joinLines_43 zw330 (kk := ?_)
    refine z_dup hC (pc := 46) dX10_joinLines_46 rfl ?_
    refine u_getK hC (pc := 47) zf7 5 (tKeep.F kw10 (tKeep.F kw7 fw5 rfl) rfl) dX10_joinLines_47 zw124 (kk := ?_)
    refine z_iconst hC (pc := 50) (v := 1) dX10_joinLines_50 (by decide) ?_
    refine z_iadd hC (pc := 51) (v := ((x4 + 2) + 1)) dX10_joinLines_51 rfl ?_
    refine u_put hC hw10 (pc := 52) zf7 5 (hE.o7 ma3) rfl ⟨_, rfl⟩ dX10_joinLines_52 zw124 rfl rfl rfl (kk := fun w11 hw11 fw11 kw11 => ?_)
    have j55 : ∀ (d55 : Nat), ∀ (w12 : va_W), tW T w12 → tKeep 0x200000000000000000000000000000000000000000000000000000000000000000000000000000000000000000000000000000000000000000 w11 w12 → ∀ (x13 : Int32), tF 7 w12 a3 5 (.int x13) → (2 ^ 31 - (x13 : Int32).toInt).toNat ≤ d55 → zS X G 1 w12 [(0, .ref a0)] 0 0 55 [] := by
      intro d55
      induction d55 with
      | zero => intro w12 hw12 kw12 x13 fx13 hd55; exact (t_zero hd55).elim
      | succ d55 ih55 =>
        intro w12 hw12 kw12 x13 fx13 hd55
        refine z_aload_n hC (pc := 55) 0 dX10_joinLines_55 rfl rfl ?_
        refine u_getK hC (pc := 56) zf10 0 (tKeep.F kw12 (tKeep.F kw11 (tKeep.F kw10 (tKeep.F kw7 (tKeep.F kw5 fa3 rfl) rfl) rfl) rfl) rfl) dX10_joinLines_56 zw330 (kk := ?_)
        refine u_getK hC (pc := 59) zf7 5 fx13 dX10_joinLines_59 zw124 (kk := ?_)
        refine z_aload_n hC (pc := 62) 0 dX10_joinLines_62 rfl rfl ?_
        refine u_getK hC (pc := 63) zf10 0 (tKeep.F kw12 (tKeep.F kw11 (tKeep.F kw10 (tKeep.F kw7 (tKeep.F kw5 fa3 rfl) rfl) rfl) rfl) rfl) dX10_joinLines_63 zw330 (kk := ?_)
        refine u_get hC hw12 (pc := 66) zf7 4 (hE.o7 ma3) rfl dX10_joinLines_66 zw121 (kk := fun vx14 tx14 fx14 => ?_)
        obtain ⟨x14, rfl⟩ := tx14
        have j112 : ∀ (w15 : va_W), tW T w15 → tKeep 0x0 w12 w15 → zS X G 1 w15 [(0, .ref a0)] 0 0 112 [] := by
          intro w15 hw15 kw15
          refine z_aload_n hC (pc := 112) 0 dX10_joinLines_112 rfl rfl ?_
          refine u_getK hC (pc := 113) zf10 0 (tKeep.F kw15 (tKeep.F kw12 (tKeep.F kw11 (tKeep.F kw10 (tKeep.F kw7 (tKeep.F kw5 fa3 rfl) rfl) rfl) rfl) rfl) rfl) dX10_joinLines_113 zw330 (kk := ?_)
          refine t_callVi hC hw15 (pc := 116) (As := []) (kX7_peek l G T κ hst hE ma3) trivial dmX7_peek zf7 hqq6 dX10_joinLines_116 zw1399 rfl rfl (Nat.le_of_ble_eq_true rfl) (Nat.le_of_ble_eq_true rfl) (Nat.le_of_ble_eq_true rfl) (Nat.le_of_ble_eq_true rfl) (Nat.le_of_ble_eq_true rfl) (fun _ _ _ h => nomatch h) (fun x17 cw16 nw16 w16 hw16 pw16 => ?_)
          obtain ⟨rfl, rfl, kw16⟩ := pw16
          refine z_bipush hC (pc := 119) (v := 10) dX10_joinLines_119 (by decide) ?_
          have j139 : ∀ (w18 : va_W), tW T w18 → tKeep 0x1800000000000000000000000000000000000000000000000000000000000000000000000000000000000000000000000000000000000000000 w16 w18 → zS X G 1 w18 [(0, .ref a0)] 0 0 139 [] := by
            intro w18 hw18 kw18
            refine z_aload_n hC (pc := 139) 0 dX10_joinLines_139 rfl rfl ?_
            refine u_getK hC (pc := 140) zf10 0 (tKeep.F kw18 (tKeep.F kw16 (tKeep.F kw15 (tKeep.F kw12 (tKeep.F kw11 (tKeep.F kw10 (tKeep.F kw7 (tKeep.F kw5 fa3 rfl) rfl) rfl) rfl) rfl) rfl) rfl) rfl) dX10_joinLines_140 zw330 (kk := ?_)
            refine z_dup hC (pc := 143) dX10_joinLines_143 rfl ?_
            refine u_getK hC (pc := 144) zf7 5 (tKeep.F kw18 (tKeep.F kw16 (tKeep.F kw15 fx13 rfl) rfl) rfl) dX10_joinLines_144 zw124 (kk := ?_)
            refine z_iconst hC (pc := 147) (v := 1) dX10_joinLines_147 (by decide) ?_
            refine z_iadd hC (pc := 148) (v := (x13 + 1)) dX10_joinLines_148 rfl ?_
            refine u_put hC hw18 (pc := 149) zf7 5 (hE.o7 ma3) rfl ⟨_, rfl⟩ dX10_joinLines_149 zw124 rfl rfl rfl (kk := fun w19 hw19 fw19 kw19 => ?_)
            have j152 : ∀ (d152 : Nat), ∀ (w20 : va_W), tW T w20 → tKeep 0x200000000000000000000000000000000000000000000000000000000000000000000000000000000000000000000000000000000000000000 w19 w20 → ∀ (x21 : Int32), tF 7 w20 a3 5 (.int x21) → (2 ^ 31 - (x21 : Int32).toInt).toNat ≤ d152 → zS X G 1 w20 [(0, .ref a0)] 0 0 152 [] := by
              intro d152
              induction d152 with
              | zero => intro w20 hw20 kw20 x21 fx21 hd152; exact (t_zero hd152).elim
              | succ d152 ih152 =>
                intro w20 hw20 kw20 x21 fx21 hd152
                refine z_aload_n hC (pc := 152) 0 dX10_joinLines_152 rfl rfl ?_
                refine u_getK hC (pc := 153) zf10 0 (tKeep.F kw20 (tKeep.F kw19 (tKeep.F kw18 (tKeep.F kw16 (tKeep.F kw15 (tKeep.F kw12 (tKeep.F kw11 (tKeep.F kw10 (tKeep.F kw7 (tKeep.F kw5 fa3 rfl) rfl) rfl) rfl) rfl) rfl) rfl) rfl) rfl) rfl) dX10_joinLines_153 zw330 (kk := ?_)
                refine u_getK hC (pc := 156) zf7 5 fx21 dX10_joinLines_156 zw124 (kk := ?_)
                refine z_aload_n hC (pc := 159) 0 dX10_joinLines_159 rfl rfl ?_
                refine u_getK hC (pc := 160) zf10 0 (tKeep.F kw20 (tKeep.F kw19 (tKeep.F kw18 (tKeep.F kw16 (tKeep.F kw15 (tKeep.F kw12 (tKeep.F kw11 (tKeep.F kw10 (tKeep.F kw7 (tKeep.F kw5 fa3 rfl) rfl) rfl) rfl) rfl) rfl) rfl) rfl) rfl) rfl) dX10_joinLines_160 zw330 (kk := ?_)
                refine u_getK hC (pc := 163) zf7 4 (tKeep.F kw20 (tKeep.F kw19 (tKeep.F kw18 (tKeep.F kw16 (tKeep.F kw15 fx14 rfl) rfl) rfl) rfl) rfl) dX10_joinLines_163 zw121 (kk := ?_)
                have j209 : ∀ (w22 : va_W), tW T w22 → tKeep 0x0 w20 w22 → zS X G 1 w22 [] 0 0 209 [] := by
                  intro w22 hw22 kw22
                  exact hR _ _ _ _ _ dX10_joinLines_209 (Nat.le_of_ble_eq_true rfl) (Nat.le_of_ble_eq_true rfl) ⟨hw22, rfl, rfl, (tKeep.tr (tKeep.tr (tKeep.tr (tKeep.tr (tKeep.tr (tKeep.tr (tKeep.tr (tKeep.tr (tKeep.tr (tKeep.tr (tKeep.tr tKeep.rf kw5 rfl) kw7 rfl) kw10 rfl) kw11 rfl) kw12 rfl) kw15 rfl) kw16 rfl) kw18 rfl) kw19 rfl) kw20 rfl) kw22 rfl)⟩
                refine z_icmp_ge hC (pc := 166) 209 dX10_joinLines_166 (by decide) (fun c23 => ?_) (fun c23 => ?_)
                · refine z_lvs [] rfl ?_
                  exact j209 w20 hw20 tKeep.rf
                · refine z_aload_n hC (pc := 169) 0 dX10_joinLines_169 rfl rfl ?_
                  refine u_getK hC (pc := 170) zf10 0 (tKeep.F kw20 (tKeep.F kw19 (tKeep.F kw18 (tKeep.F kw16 (tKeep.F kw15 (tKeep.F kw12 (tKeep.F kw11 (tKeep.F kw10 (tKeep.F kw7 (tKeep.F kw5 fa3 rfl) rfl) rfl) rfl) rfl) rfl) rfl) rfl) rfl) rfl) dX10_joinLines_170 zw330 (kk := ?_)
                  refine t_callVi hC hw20 (pc := 173) (As := []) (kX7_peek l G T κ hst hE ma3) trivial dmX7_peek zf7 hqq6 dX10_joinLines_173 zw1399 rfl rfl (Nat.le_of_ble_eq_true rfl) (Nat.le_of_ble_eq_true rfl) (Nat.le_of_ble_eq_true rfl) (Nat.le_of_ble_eq_true rfl) (Nat.le_of_ble_eq_true rfl) (fun _ _ _ h => nomatch h) (fun x25 cw24 nw24 w24 hw24 pw24 => ?_)
                  obtain ⟨rfl, rfl, kw24⟩ := pw24
                  refine z_bipush hC (pc := 176) (v := 32) dX10_joinLines_176 (by decide) ?_
                  have j193 : ∀ (w26 : va_W), tW T w26 → tKeep 0x0 w24 w26 → zS X G 1 w26 [(0, .ref a0)] 0 0 193 [] := by
                    intro w26 hw26 kw26
                    refine z_aload_n hC (pc := 193) 0 dX10_joinLines_193 rfl rfl ?_
                    refine u_getK hC (pc := 194) zf10 0 (tKeep.F kw26 (tKeep.F kw24 (tKeep.F kw20 (tKeep.F kw19 (tKeep.F kw18 (tKeep.F kw16 (tKeep.F kw15 (tKeep.F kw12 (tKeep.F kw11 (tKeep.F kw10 (tKeep.F kw7 (tKeep.F kw5 fa3 rfl) rfl) rfl) rfl) rfl) rfl) rfl) rfl) rfl) rfl) rfl) rfl) dX10_joinLines_194 zw330 (kk := ?_)
                    refine z_dup hC (pc := 197) dX10_joinLines_197 rfl ?_
                    refine u_getK hC (pc := 198) zf7 5 (tKeep.F kw26 (tKeep.F kw24 fx21 rfl) rfl) dX10_joinLines_198 zw124 (kk := ?_)
                    refine z_iconst hC (pc := 201) (v := 1) dX10_joinLines_201 (by decide) ?_
                    refine z_iadd hC (pc := 202) (v := (x21 + 1)) dX10_joinLines_202 rfl ?_
                    refine u_put hC hw26 (pc := 203) zf7 5 (hE.o7 ma3) rfl ⟨_, rfl⟩ dX10_joinLines_203 zw124 rfl rfl rfl (kk := fun w27 hw27 fw27 kw27 => ?_)
                    refine z_goto hC (pc := 206) 152 dX10_joinLines_206 (by decide) ?_
                    exact ih152 w27 hw27 (tKeep.tr (tKeep.tr (tKeep.tr (tKeep.tr tKeep.rf kw20 rfl) kw24 rfl) kw26 rfl) kw27 rfl) (x21 + 1) fw27 (t_up (Int32.not_le.mp c23) hd152)
                  refine z_icmp_eq hC (pc := 178) 193 dX10_joinLines_178 (by decide) (fun c28 => ?_) (fun c28 => ?_)
                  · exact j193 w24 hw24 tKeep.rf
                  · refine z_aload_n hC (pc := 181) 0 dX10_joinLines_181 rfl rfl ?_
                    refine u_getK hC (pc := 182) zf10 0 (tKeep.F kw24 (tKeep.F kw20 (tKeep.F kw19 (tKeep.F kw18 (tKeep.F kw16 (tKeep.F kw15 (tKeep.F kw12 (tKeep.F kw11 (tKeep.F kw10 (tKeep.F kw7 (tKeep.F kw5 fa3 rfl) rfl) rfl) rfl) rfl) rfl) rfl) rfl) rfl) rfl) rfl) dX10_joinLines_182 zw330 (kk := ?_)
                    refine t_callVi hC hw24 (pc := 185) (As := []) (kX7_peek l G T κ hst hE ma3) trivial dmX7_peek zf7 hqq6 dX10_joinLines_185 zw1399 rfl rfl (Nat.le_of_ble_eq_true rfl) (Nat.le_of_ble_eq_true rfl) (Nat.le_of_ble_eq_true rfl) (Nat.le_of_ble_eq_true rfl) (Nat.le_of_ble_eq_true rfl) (fun _ _ _ h => nomatch h) (fun x30 cw29 nw29 w29 hw29 pw29 => ?_)
                    obtain ⟨rfl, rfl, kw29⟩ := pw29
                    refine z_bipush hC (pc := 188) (v := 9) dX10_joinLines_188 (by decide) ?_
                    refine z_icmp_ne hC (pc := 190) 209 dX10_joinLines_190 (by decide) (fun c31 => ?_) (fun c31 => ?_)
                    · refine z_lvs [] rfl ?_
                      exact j209 w29 hw29 (tKeep.tr (tKeep.tr tKeep.rf kw24 rfl) kw29 rfl)
                    · exact j193 w29 hw29 (tKeep.tr tKeep.rf kw29 rfl)
            exact j152 _ w19 hw19 tKeep.rf (x13 + 1) fw19 (Nat.le_refl _)
          refine z_icmp_eq hC (pc := 121) 139 dX10_joinLines_121 (by decide) (fun c32 => ?_) (fun c32 => ?_)
          · exact j139 w16 hw16 tKeep.rf
          · refine z_aload_n hC (pc := 124) 0 dX10_joinLines_124 rfl rfl ?_
            refine u_getK hC (pc := 125) zf10 0 (tKeep.F kw16 (tKeep.F kw15 (tKeep.F kw12 (tKeep.F kw11 (tKeep.F kw10 (tKeep.F kw7 (tKeep.F kw5 fa3 rfl) rfl) rfl) rfl) rfl) rfl) rfl) dX10_joinLines_125 zw330 (kk := ?_)
            refine z_iconst hC (pc := 128) (v := 1) dX10_joinLines_128 (by decide) ?_
            refine z_aload_n hC (pc := 129) 0 dX10_joinLines_129 rfl rfl ?_
            refine u_getK hC (pc := 130) zf10 0 (tKeep.F kw16 (tKeep.F kw15 (tKeep.F kw12 (tKeep.F kw11 (tKeep.F kw10 (tKeep.F kw7 (tKeep.F kw5 fa3 rfl) rfl) rfl) rfl) rfl) rfl) rfl) dX10_joinLines_130 zw330 (kk := ?_)
            refine t_callVi hC hw16 (pc := 133) (As := []) (kX7_here l G T κ hst hE ma3) trivial dmX7_here zf7 hqq6 dX10_joinLines_133 zw1368 rfl rfl (Nat.le_of_ble_eq_true rfl) (Nat.le_of_ble_eq_true rfl) (Nat.le_of_ble_eq_true rfl) (Nat.le_of_ble_eq_true rfl) (Nat.le_of_ble_eq_true rfl) (fun _ _ _ h => nomatch h) (fun x34 cw33 nw33 w33 hw33 pw33 => ?_)
            obtain ⟨rfl, rfl, kw33⟩ := pw33
            refine t_callVv hC hw33 (pc := 136) (As := [.int 1, .int x34]) (kX7_fail l G T κ hst hE ma3) trivial dmX7_fail zf7 hqq6 dX10_joinLines_136 zw1369 rfl rfl (Nat.le_of_ble_eq_true rfl) (Nat.le_of_ble_eq_true rfl) (Nat.le_of_ble_eq_true rfl) (Nat.le_of_ble_eq_true rfl) (Nat.le_of_ble_eq_true rfl) (fun E w q hE hw => hO E w _ _ _ _ _ q hE (Nat.le_of_ble_eq_true rfl) (Nat.le_of_ble_eq_true rfl) hw) (fun cw35 nw35 w35 hw35 pw35 => ?_)
            obtain ⟨rfl, rfl, kw35⟩ := pw35
            exact j139 w35 hw35 (tKeep.tr (tKeep.tr tKeep.rf kw33 rfl) kw35 rfl)
        refine z_icmp_ge hC (pc := 69) 112 dX10_joinLines_69 (by decide) (fun c37 => ?_) (fun c37 => ?_)
        · exact j112 w12 hw12 tKeep.rf
        · refine z_aload_n hC (pc := 72) 0 dX10_joinLines_72 rfl rfl ?_
          refine u_getK hC (pc := 73) zf10 0 (tKeep.F kw12 (tKeep.F kw11 (tKeep.F kw10 (tKeep.F kw7 (tKeep.F kw5 fa3 rfl) rfl) rfl) rfl) rfl) dX10_joinLines_73 zw330 (kk := ?_)
          refine t_callVi hC hw12 (pc := 76) (As := []) (kX7_peek l G T κ hst hE ma3) trivial dmX7_peek zf7 hqq6 dX10_joinLines_76 zw1399 rfl rfl (Nat.le_of_ble_eq_true rfl) (Nat.le_of_ble_eq_true rfl) (Nat.le_of_ble_eq_true rfl) (Nat.le_of_ble_eq_true rfl) (Nat.le_of_ble_eq_true rfl) (fun _ _ _ h => nomatch h) (fun x39 cw38 nw38 w38 hw38 pw38 => ?_)
          obtain ⟨rfl, rfl, kw38⟩ := pw38
          refine z_bipush hC (pc := 79) (v := 32) dX10_joinLines_79 (by decide) ?_
          have j96 : ∀ (w40 : va_W), tW T w40 → tKeep 0x0 w38 w40 → zS X G 1 w40 [(0, .ref a0)] 0 0 96 [] := by
            intro w40 hw40 kw40
            refine z_aload_n hC (pc := 96) 0 dX10_joinLines_96 rfl rfl ?_
            refine u_getK hC (pc := 97) zf10 0 (tKeep.F kw40 (tKeep.F kw38 (tKeep.F kw12 (tKeep.F kw11 (tKeep.F kw10 (tKeep.F kw7 (tKeep.F kw5 fa3 rfl) rfl) rfl) rfl) rfl) rfl) rfl) dX10_joinLines_97 zw330 (kk := ?_)
            refine z_dup hC (pc := 100) dX10_joinLines_100 rfl ?_
            refine u_getK hC (pc := 101) zf7 5 (tKeep.F kw40 (tKeep.F kw38 fx13 rfl) rfl) dX10_joinLines_101 zw124 (kk := ?_)
            refine z_iconst hC (pc := 104) (v := 1) dX10_joinLines_104 (by decide) ?_
            refine z_iadd hC (pc := 105) (v := (x13 + 1)) dX10_joinLines_105 rfl ?_
            refine u_put hC hw40 (pc := 106) zf7 5 (hE.o7 ma3) rfl ⟨_, rfl⟩ dX10_joinLines_106 zw124 rfl rfl rfl (kk := fun w41 hw41 fw41 kw41 => ?_)
            refine z_goto hC (pc := 109) 55 dX10_joinLines_109 (by decide) ?_
            exact ih55 w41 hw41 (tKeep.tr (tKeep.tr (tKeep.tr (tKeep.tr tKeep.rf kw12 rfl) kw38 rfl) kw40 rfl) kw41 rfl) (x13 + 1) fw41 (t_up (Int32.not_le.mp c37) hd55)
          refine z_icmp_eq hC (pc := 81) 96 dX10_joinLines_81 (by decide) (fun c42 => ?_) (fun c42 => ?_)
          · exact j96 w38 hw38 tKeep.rf
          · refine z_aload_n hC (pc := 84) 0 dX10_joinLines_84 rfl rfl ?_
            refine u_getK hC (pc := 85) zf10 0 (tKeep.F kw38 (tKeep.F kw12 (tKeep.F kw11 (tKeep.F kw10 (tKeep.F kw7 (tKeep.F kw5 fa3 rfl) rfl) rfl) rfl) rfl) rfl) dX10_joinLines_85 zw330 (kk := ?_)
            refine t_callVi hC hw38 (pc := 88) (As := []) (kX7_peek l G T κ hst hE ma3) trivial dmX7_peek zf7 hqq6 dX10_joinLines_88 zw1399 rfl rfl (Nat.le_of_ble_eq_true rfl) (Nat.le_of_ble_eq_true rfl) (Nat.le_of_ble_eq_true rfl) (Nat.le_of_ble_eq_true rfl) (Nat.le_of_ble_eq_true rfl) (fun _ _ _ h => nomatch h) (fun x44 cw43 nw43 w43 hw43 pw43 => ?_)
            obtain ⟨rfl, rfl, kw43⟩ := pw43
            refine z_bipush hC (pc := 91) (v := 9) dX10_joinLines_91 (by decide) ?_
            refine z_icmp_ne hC (pc := 93) 112 dX10_joinLines_93 (by decide) (fun c45 => ?_) (fun c45 => ?_)
            · exact j112 w43 hw43 (tKeep.tr (tKeep.tr tKeep.rf kw38 rfl) kw43 rfl)
            · exact j96 w43 hw43 (tKeep.tr tKeep.rf kw43 rfl)
    exact j55 _ w11 hw11 tKeep.rf ((x4 + 2) + 1) fw11 (Nat.le_refl _)
  refine z_icmp_eq hC (pc := 24) 42 dX10_joinLines_24 (by decide) (fun c46 => ?_) (fun c46 => ?_)
  · exact j42 w7 hw7 tKeep.rf
  · refine z_aload_n hC (pc := 27) 0 dX10_joinLines_27 rfl rfl ?_
    refine u_getK hC (pc := 28) zf10 0 (tKeep.F kw7 (tKeep.F kw5 fa3 rfl) rfl) dX10_joinLines_28 zw330 (kk := ?_)
    refine z_iconst hC (pc := 31) (v := 1) dX10_joinLines_31 (by decide) ?_
    refine z_aload_n hC (pc := 32) 0 dX10_joinLines_32 rfl rfl ?_
    refine u_getK hC (pc := 33) zf10 0 (tKeep.F kw7 (tKeep.F kw5 fa3 rfl) rfl) dX10_joinLines_33 zw330 (kk := ?_)
    refine t_callVi hC hw7 (pc := 36) (As := []) (kX7_here l G T κ hst hE ma3) trivial dmX7_here zf7 hqq6 dX10_joinLines_36 zw1368 rfl rfl (Nat.le_of_ble_eq_true rfl) (Nat.le_of_ble_eq_true rfl) (Nat.le_of_ble_eq_true rfl) (Nat.le_of_ble_eq_true rfl) (Nat.le_of_ble_eq_true rfl) (fun _ _ _ h => nomatch h) (fun x48 cw47 nw47 w47 hw47 pw47 => ?_)
    obtain ⟨rfl, rfl, kw47⟩ := pw47
    refine t_callVv hC hw47 (pc := 39) (As := [.int 1, .int x48]) (kX7_fail l G T κ hst hE ma3) trivial dmX7_fail zf7 hqq6 dX10_joinLines_39 zw1369 rfl rfl (Nat.le_of_ble_eq_true rfl) (Nat.le_of_ble_eq_true rfl) (Nat.le_of_ble_eq_true rfl) (Nat.le_of_ble_eq_true rfl) (Nat.le_of_ble_eq_true rfl) (fun E w q hE hw => hO E w _ _ _ _ _ q hE (Nat.le_of_ble_eq_true rfl) (Nat.le_of_ble_eq_true rfl) hw) (fun cw49 nw49 w49 hw49 pw49 => ?_)
    obtain ⟨rfl, rfl, kw49⟩ := pw49
    exact j42 w49 hw49 (tKeep.tr (tKeep.tr tKeep.rf kw47 rfl) kw49 rfl)
set_option maxRecDepth 20000 in
theorem kX2_emit___ (l : Launch) (G : zG) (T : tT) (κ : Nat → List Nat) (hst : l.stackTraces = false) (hE : tE G T κ) {a0 : Nat} (h0 : a0 ∈ κ 2) {x1 : Int32} {x2 : Int32} {x3 : Int32} {x4 : Int32} : tMv l G T yX2_emit___ cX2_emit___ 5 [] 1 21 0 0 [.ref a0, .int x1, .int x2, .int x3, .int x4] uT (uPv 0x800000000000000000000000000000000) := by
  refine tMv.intro hst rfl (Nat.le_of_ble_eq_true rfl) ?_
  intro w0 hw0 _ X hC hR hO hX
  refine z_aload_n hC (pc := 0) 0 dX2_emit____0 rfl rfl ?_
  refine z_iload_n hC (pc := 1) 1 dX2_emit____1 rfl rfl ?_
  obtain ⟨q7, hqq7⟩ := hE.o2 h0
  refine t_callVv hC hw0 (pc := 2) (As := [.int x1]) (kX2_emit l G T κ hst hE h0) trivial dmX2_emit zf2 hqq7 dX2_emit____2 zw1316 rfl rfl (Nat.le_of_ble_eq_true rfl) (Nat.le_of_ble_eq_true rfl) (Nat.le_of_ble_eq_true rfl) (Nat.le_of_ble_eq_true rfl) (Nat.le_of_ble_eq_true rfl) (fun _ _ _ h => nomatch h) (fun cw8 nw8 w8 hw8 pw8 => ?_)
  obtain ⟨rfl, rfl, kw8⟩ := pw8
  refine z_aload_n hC (pc := 5) 0 dX2_emit____5 rfl rfl ?_
  refine z_iload_n hC (pc := 6) 2 dX2_emit____6 rfl rfl ?_
  refine t_callVv hC hw8 (pc := 7) (As := [.int x2]) (kX2_emit l G T κ hst hE h0) trivial dmX2_emit zf2 hqq7 dX2_emit____7 zw1316 rfl rfl (Nat.le_of_ble_eq_true rfl) (Nat.le_of_ble_eq_true rfl) (Nat.le_of_ble_eq_true rfl) (Nat.le_of_ble_eq_true rfl) (Nat.le_of_ble_eq_true rfl) (fun _ _ _ h => nomatch h) (fun cw10 nw10 w10 hw10 pw10 => ?_)
  obtain ⟨rfl, rfl, kw10⟩ := pw10
  refine z_aload_n hC (pc := 10) 0 dX2_emit____10 rfl rfl ?_
  refine z_iload_n hC (pc := 11) 3 dX2_emit____11 rfl rfl ?_
  refine t_callVv hC hw10 (pc := 12) (As := [.int x3]) (kX2_emit l G T κ hst hE h0) trivial dmX2_emit zf2 hqq7 dX2_emit____12 zw1316 rfl rfl (Nat.le_of_ble_eq_true rfl) (Nat.le_of_ble_eq_true rfl) (Nat.le_of_ble_eq_true rfl) (Nat.le_of_ble_eq_true rfl) (Nat.le_of_ble_eq_true rfl) (fun _ _ _ h => nomatch h) (fun cw12 nw12 w12 hw12 pw12 => ?_)
  obtain ⟨rfl, rfl, kw12⟩ := pw12
  refine z_aload_n hC (pc := 15) 0 dX2_emit____15 rfl rfl ?_
  refine z_iload hC (pc := 16) 4 dX2_emit____16 rfl ?_
  refine t_callVv hC hw12 (pc := 18) (As := [.int x4]) (kX2_emit l G T κ hst hE h0) trivial dmX2_emit zf2 hqq7 dX2_emit____18 zw1316 rfl rfl (Nat.le_of_ble_eq_true rfl) (Nat.le_of_ble_eq_true rfl) (Nat.le_of_ble_eq_true rfl) (Nat.le_of_ble_eq_true rfl) (Nat.le_of_ble_eq_true rfl) (fun _ _ _ h => nomatch h) (fun cw14 nw14 w14 hw14 pw14 => ?_)
  obtain ⟨rfl, rfl, kw14⟩ := pw14
  exact hR _ _ _ _ _ dX2_emit____21 (Nat.le_of_ble_eq_true rfl) (Nat.le_of_ble_eq_true rfl) ⟨hw14, rfl, rfl, (tKeep.tr (tKeep.tr (tKeep.tr (tKeep.tr tKeep.rf kw8 rfl) kw10 rfl) kw12 rfl) kw14 rfl)⟩
set_option maxRecDepth 20000 in
theorem kX10_escape (l : Launch) (G : zG) (T : tT) (κ : Nat → List Nat) (hst : l.stackTraces = false) (hE : tE G T κ) {a0 : Nat} (h0 : a0 ∈ κ 10) {x1 : Int32} : tMv l G T yX10_escape cX10_escape 5 ["java/lang/IllegalStateException"] 7 103 1 6 [.ref a0, .int x1] uT (uPv 0x1a00000000000000000000000000000000000000000000000000000000000000000000000000000004800000000000000000000000000000000) := by
  refine tMv.intro hst rfl (Nat.le_of_ble_eq_true rfl) ?_
  intro w0 hw0 _ X hC hR hO hX
  refine z_aload_n hC (pc := 0) 0 dX10_escape_0 rfl rfl ?_
  refine u_get hC hw0 (pc := 1) zf10 1 (hE.o10 h0) rfl dX10_escape_1 zw331 (kk := fun va4 ta4 fa4 => ?_)
  obtain ⟨a4, ma4, rfl⟩ := ta4
  refine u_get hC hw0 (pc := 4) zf2 6 (hE.o2 ma4) rfl dX10_escape_4 zw254 (kk := fun vx5 tx5 fx5 => ?_)
  obtain ⟨x5, rfl⟩ := tx5
  refine z_istore_n hC (pc := 7) (lv' := [(2, .int x5), (0, .ref a0), (1, .int x1)]) dX10_escape_7 rfl (by decide) rfl ?_
  refine z_iconst hC (pc := 8) (v := 0) dX10_escape_8 (by decide) ?_
  refine z_istore_n hC (pc := 9) (lv' := [(3, .int 0), (2, .int x5), (0, .ref a0), (1, .int x1)]) dX10_escape_9 rfl (by decide) rfl ?_
  have j10 : ∀ (d10 : Nat), ∀ (w6 : va_W), tW T w6 → tKeep 0x1a00000000000000000000000000000000000000000000000000000000000000000000000000000004000000000000000000000000000000000 w0 w6 → ∀ (x7 : Int32), ¬ x7 < 0 → (2 ^ 31 - (x7 : Int32).toInt).toNat ≤ d10 → zS X G 5 w6 [(0, .ref a0), (1, .int x1), (2, .int x5), (3, .int x7)] 0 0 10 [] := by
    intro d10
    induction d10 with
    | zero => intro w6 hw6 kw6 x7 v8 hd10; exact (t_zero hd10).elim
    | succ d10 ih10 =>
      intro w6 hw6 kw6 x7 v8 hd10
      refine z_iload_n hC (pc := 10) 3 dX10_escape_10 rfl rfl ?_
      refine z_sipush hC (pc := 11) (v := 4000) dX10_escape_11 (by decide) ?_
      have j140 : ∀ (w9 : va_W), tW T w9 → tKeep 0x0 w6 w9 → zS X G 5 w9 [(0, .ref a0), (1, .int x1), (2, .int x5)] 0 0 140 [] := by
        intro w9 hw9 kw9
        refine z_aload_n hC (pc := 140) 0 dX10_escape_140 rfl rfl ?_
        refine u_get hC hw9 (pc := 141) zf10 0 (hE.o10 h0) rfl dX10_escape_141 zw330 (kk := fun va10 ta10 fa10 => ?_)
        obtain ⟨a10, ma10, rfl⟩ := ta10
        obtain ⟨q11, hqq11⟩ := hE.o7 ma10
        refine t_callVi hC hw9 (pc := 144) (As := []) (kX7_peek l G T κ hst hE ma10) trivial dmX7_peek zf7 hqq11 dX10_escape_144 zw1399 rfl rfl (Nat.le_of_ble_eq_true rfl) (Nat.le_of_ble_eq_true rfl) (Nat.le_of_ble_eq_true rfl) (Nat.le_of_ble_eq_true rfl) (Nat.le_of_ble_eq_true rfl) (fun _ _ _ h => nomatch h) (fun x13 cw12 nw12 w12 hw12 pw12 => ?_)
        obtain ⟨rfl, rfl, kw12⟩ := pw12
        refine z_aload_n hC (pc := 147) 0 dX10_escape_147 rfl rfl ?_
        refine u_get hC hw12 (pc := 148) zf10 3 (hE.o10 h0) rfl dX10_escape_148 zw334 (kk := fun vx14 tx14 fx14 => ?_)
        obtain ⟨x14, rfl⟩ := tx14
        have j169 : ∀ (w15 : va_W), tW T w15 → tKeep 0x1800000000000000000000000000000000000000000000000000000000000000000000000000000000000000000000000000000000000000000 w12 w15 → zS X G 5 w15 [(0, .ref a0), (1, .int x1), (2, .int x5)] 0 0 169 [] := by
          intro w15 hw15 kw15
          refine z_aload_n hC (pc := 169) 0 dX10_escape_169 rfl rfl ?_
          refine u_getK hC (pc := 170) zf10 0 (tKeep.F kw15 (tKeep.F kw12 fa10 rfl) rfl) dX10_escape_170 zw330 (kk := ?_)
          refine z_dup hC (pc := 173) dX10_escape_173 rfl ?_
          refine u_get hC hw15 (pc := 174) zf7 5 (hE.o7 ma10) rfl dX10_escape_174 zw124 (kk := fun vx16 tx16 fx16 => ?_)
          obtain ⟨x16, rfl⟩ := tx16
          refine z_iconst hC (pc := 177) (v := 1) dX10_escape_177 (by decide) ?_
          refine z_iadd hC (pc := 178) (v := (x16 + 1)) dX10_escape_178 rfl ?_
          refine u_put hC hw15 (pc := 179) zf7 5 (hE.o7 ma10) rfl ⟨_, rfl⟩ dX10_escape_179 zw124 rfl rfl rfl (kk := fun w17 hw17 fw17 kw17 => ?_)
          refine z_aload_n hC (pc := 182) 0 dX10_escape_182 rfl rfl ?_
          refine u_getK hC (pc := 183) zf10 1 (tKeep.F kw17 (tKeep.F kw15 (tKeep.F kw12 (tKeep.F kw9 (tKeep.F kw6 fa4 rfl) rfl) rfl) rfl) rfl) dX10_escape_183 zw331 (kk := ?_)
          refine z_iconst hC (pc := 186) (v := 3) dX10_escape_186 (by decide) ?_
          refine z_iload_n hC (pc := 187) 1 dX10_escape_187 rfl rfl ?_
          refine z_iload_n hC (pc := 188) 2 dX10_escape_188 rfl rfl ?_
          refine z_aload_n hC (pc := 189) 0 dX10_escape_189 rfl rfl ?_
          refine u_getK hC (pc := 190) zf10 1 (tKeep.F kw17 (tKeep.F kw15 (tKeep.F kw12 (tKeep.F kw9 (tKeep.F kw6 fa4 rfl) rfl) rfl) rfl) rfl) dX10_escape_190 zw331 (kk := ?_)
          refine u_get hC hw17 (pc := 193) zf2 6 (hE.o2 ma4) rfl dX10_escape_193 zw254 (kk := fun vx18 tx18 fx18 => ?_)
          obtain ⟨x18, rfl⟩ := tx18
          refine z_iload_n hC (pc := 196) 2 dX10_escape_196 rfl rfl ?_
          refine z_isub hC (pc := 197) (v := (x18 - x5)) dX10_escape_197 rfl ?_
          obtain ⟨q19, hqq19⟩ := hE.o2 ma4
          refine t_callVv hC hw17 (pc := 198) (As := [.int 3, .int x1, .int x5, .int (x18 - x5)]) (kX2_emit___ l G T κ hst hE ma4) trivial dmX2_emit___ zf2 hqq19 dX10_escape_198 zw1434 rfl rfl (Nat.le_of_ble_eq_true rfl) (Nat.le_of_ble_eq_true rfl) (Nat.le_of_ble_eq_true rfl) (Nat.le_of_ble_eq_true rfl) (Nat.le_of_ble_eq_true rfl) (fun _ _ _ h => nomatch h) (fun cw20 nw20 w20 hw20 pw20 => ?_)
          obtain ⟨rfl, rfl, kw20⟩ := pw20
          exact hR _ _ _ _ _ dX10_escape_201 (Nat.le_of_ble_eq_true rfl) (Nat.le_of_ble_eq_true rfl) ⟨hw20, rfl, rfl, (tKeep.tr (tKeep.tr (tKeep.tr (tKeep.tr (tKeep.tr (tKeep.tr tKeep.rf kw6 rfl) kw9 rfl) kw12 rfl) kw15 rfl) kw17 rfl) kw20 rfl)⟩
        refine z_icmp_eq hC (pc := 151) 169 dX10_escape_151 (by decide) (fun c22 => ?_) (fun c22 => ?_)
        · exact j169 w12 hw12 tKeep.rf
        · refine z_aload_n hC (pc := 154) 0 dX10_escape_154 rfl rfl ?_
          refine u_getK hC (pc := 155) zf10 0 (tKeep.F kw12 fa10 rfl) dX10_escape_155 zw330 (kk := ?_)
          refine z_iconst hC (pc := 158) (v := 1) dX10_escape_158 (by decide) ?_
          refine z_aload_n hC (pc := 159) 0 dX10_escape_159 rfl rfl ?_
          refine u_getK hC (pc := 160) zf10 0 (tKeep.F kw12 fa10 rfl) dX10_escape_160 zw330 (kk := ?_)
          refine t_callVi hC hw12 (pc := 163) (As := []) (kX7_here l G T κ hst hE ma10) trivial dmX7_here zf7 hqq11 dX10_escape_163 zw1368 rfl rfl (Nat.le_of_ble_eq_true rfl) (Nat.le_of_ble_eq_true rfl) (Nat.le_of_ble_eq_true rfl) (Nat.le_of_ble_eq_true rfl) (Nat.le_of_ble_eq_true rfl) (fun _ _ _ h => nomatch h) (fun x24 cw23 nw23 w23 hw23 pw23 => ?_)
          obtain ⟨rfl, rfl, kw23⟩ := pw23
          refine t_callVv hC hw23 (pc := 166) (As := [.int 1, .int x24]) (kX7_fail l G T κ hst hE ma10) trivial dmX7_fail zf7 hqq11 dX10_escape_166 zw1369 rfl rfl (Nat.le_of_ble_eq_true rfl) (Nat.le_of_ble_eq_true rfl) (Nat.le_of_ble_eq_true rfl) (Nat.le_of_ble_eq_true rfl) (Nat.le_of_ble_eq_true rfl) (fun E w q hE hw => hO E w _ _ _ _ _ q hE (Nat.le_of_ble_eq_true rfl) (Nat.le_of_ble_eq_true rfl) hw) (fun cw25 nw25 w25 hw25 pw25 => ?_)
          obtain ⟨rfl, rfl, kw25⟩ := pw25
          exact j169 w25 hw25 (tKeep.tr (tKeep.tr tKeep.rf kw23 rfl) kw25 rfl)
      refine z_icmp_ge hC (pc := 14) 140 dX10_escape_14 (by decide) (fun c27 => ?_) (fun c27 => ?_)
      · refine z_lvs [0, 1, 2] rfl ?_
        exact j140 w6 hw6 tKeep.rf
      · refine z_aload_n hC (pc := 17) 0 dX10_escape_17 rfl rfl ?_
        refine u_get hC hw6 (pc := 18) zf10 0 (hE.o10 h0) rfl dX10_escape_18 zw330 (kk := fun va28 ta28 fa28 => ?_)
        obtain ⟨a28, ma28, rfl⟩ := ta28
        obtain ⟨q29, hqq29⟩ := hE.o7 ma28
        refine t_callVi hC hw6 (pc := 21) (As := []) (kX7_peek l G T κ hst hE ma28) trivial dmX7_peek zf7 hqq29 dX10_escape_21 zw1399 rfl rfl (Nat.le_of_ble_eq_true rfl) (Nat.le_of_ble_eq_true rfl) (Nat.le_of_ble_eq_true rfl) (Nat.le_of_ble_eq_true rfl) (Nat.le_of_ble_eq_true rfl) (fun _ _ _ h => nomatch h) (fun x31 cw30 nw30 w30 hw30 pw30 => ?_)
        obtain ⟨rfl, rfl, kw30⟩ := pw30
        refine z_bipush hC (pc := 24) (v := 92) dX10_escape_24 (by decide) ?_
        refine z_icmp_ne hC (pc := 26) 140 dX10_escape_26 (by decide) (fun c32 => ?_) (fun c32 => ?_)
        · refine z_lvs [0, 1, 2] rfl ?_
          exact j140 w30 hw30 (tKeep.tr tKeep.rf kw30 rfl)
        · refine z_aload_n hC (pc := 29) 0 dX10_escape_29 rfl rfl ?_
          refine u_getK hC (pc := 30) zf10 0 (tKeep.F kw30 fa28 rfl) dX10_escape_30 zw330 (kk := ?_)
          refine z_dup hC (pc := 33) dX10_escape_33 rfl ?_
          refine u_get hC hw30 (pc := 34) zf7 5 (hE.o7 ma28) rfl dX10_escape_34 zw124 (kk := fun vx33 tx33 fx33 => ?_)
          obtain ⟨x33, rfl⟩ := tx33
          refine z_iconst hC (pc := 37) (v := 1) dX10_escape_37 (by decide) ?_
          refine z_iadd hC (pc := 38) (v := (x33 + 1)) dX10_escape_38 rfl ?_
          refine u_put hC hw30 (pc := 39) zf7 5 (hE.o7 ma28) rfl ⟨_, rfl⟩ dX10_escape_39 zw124 rfl rfl rfl (kk := fun w34 hw34 fw34 kw34 => ?_)
          refine z_aload_n hC (pc := 42) 0 dX10_escape_42 rfl rfl ?_
          refine u_getK hC (pc := 43) zf10 0 (tKeep.F kw34 (tKeep.F kw30 fa28 rfl) rfl) dX10_escape_43 zw330 (kk := ?_)
          refine t_callVi hC hw34 (pc := 46) (As := []) (kX7_peek l G T κ hst hE ma28) trivial dmX7_peek zf7 hqq29 dX10_escape_46 zw1399 rfl rfl (Nat.le_of_ble_eq_true rfl) (Nat.le_of_ble_eq_true rfl) (Nat.le_of_ble_eq_true rfl) (Nat.le_of_ble_eq_true rfl) (Nat.le_of_ble_eq_true rfl) (fun _ _ _ h => nomatch h) (fun x36 cw35 nw35 w35 hw35 pw35 => ?_)
          obtain ⟨rfl, rfl, kw35⟩ := pw35
          refine z_istore hC (pc := 49) (lv' := [(4, .int x36), (0, .ref a0), (1, .int x1), (2, .int x5), (3, .int x7)]) dX10_escape_49 (by decide) rfl ?_
          refine z_iload hC (pc := 51) 0 dX10_escape_51 rfl ?_
          refine z_bipush hC (pc := 53) (v := 110) dX10_escape_53 (by decide) ?_
          have j87 : ∀ (w37 : va_W), tW T w37 → tKeep 0x1800000000000000000000000000000000000000000000000000000000000000000000000000000000000000000000000000000000000000000 w35 w37 → zS X G 5 w37 [(0, .ref a0), (1, .int x1), (2, .int x5), (3, .int x7), (4, .int x36)] 0 0 87 [] := by
            intro w37 hw37 kw37
            refine z_aload_n hC (pc := 87) 0 dX10_escape_87 rfl rfl ?_
            refine u_getK hC (pc := 88) zf10 1 (tKeep.F kw37 (tKeep.F kw35 (tKeep.F kw34 (tKeep.F kw30 (tKeep.F kw6 fa4 rfl) rfl) rfl) rfl) rfl) dX10_escape_88 zw331 (kk := ?_)
            refine z_iload hC (pc := 91) 4 dX10_escape_91 rfl ?_
            refine z_bipush hC (pc := 93) (v := 110) dX10_escape_93 (by decide) ?_
            have j117 : ∀ (x38 : Int32), zS X G 5 w37 [(0, .ref a0), (1, .int x1), (2, .int x5), (3, .int x7)] 0 0 117 [.int x38, .ref a4] := by
              intro x38
              refine z_iload_n hC (pc := 117) 1 dX10_escape_117 rfl rfl ?_
              obtain ⟨q39, hqq39⟩ := hE.o2 ma4
              refine t_callVv hC hw37 (pc := 118) (As := [.int x38, .int x1]) (kX2_keep l G T κ hst hE ma4) trivial dmX2_keep zf2 hqq39 dX10_escape_118 zw1433 rfl rfl (Nat.le_of_ble_eq_true rfl) (Nat.le_of_ble_eq_true rfl) (Nat.le_of_ble_eq_true rfl) (Nat.le_of_ble_eq_true rfl) (Nat.le_of_ble_eq_true rfl) (fun _ _ _ h => nomatch h) (fun cw40 nw40 w40 hw40 pw40 => ?_)
              obtain ⟨rfl, rfl, kw40⟩ := pw40
              refine z_aload_n hC (pc := 121) 0 dX10_escape_121 rfl rfl ?_
              refine u_getK hC (pc := 122) zf10 0 (tKeep.F kw40 (tKeep.F kw37 (tKeep.F kw35 (tKeep.F kw34 (tKeep.F kw30 fa28 rfl) rfl) rfl) rfl) rfl) dX10_escape_122 zw330 (kk := ?_)
              refine z_dup hC (pc := 125) dX10_escape_125 rfl ?_
              refine u_getK hC (pc := 126) zf7 5 (tKeep.F kw40 (tKeep.F kw37 (tKeep.F kw35 fw34 rfl) rfl) rfl) dX10_escape_126 zw124 (kk := ?_)
              refine z_iconst hC (pc := 129) (v := 1) dX10_escape_129 (by decide) ?_
              refine z_iadd hC (pc := 130) (v := ((x33 + 1) + 1)) dX10_escape_130 rfl ?_
              refine u_put hC hw40 (pc := 131) zf7 5 (hE.o7 ma28) rfl ⟨_, rfl⟩ dX10_escape_131 zw124 rfl rfl rfl (kk := fun w42 hw42 fw42 kw42 => ?_)
              refine z_iinc hC (pc := 134) (v := (x7 + 1)) (lv' := [(3, .int (x7 + 1)), (0, .ref a0), (1, .int x1), (2, .int x5)]) 3 dX10_escape_134 rfl (congrArg _ (by decide)) (by decide) rfl ?_
              refine z_goto hC (pc := 137) 10 dX10_escape_137 (by decide) ?_
              refine z_lvs [1, 2, 3, 0] rfl ?_
              exact ih10 w42 hw42 (tKeep.tr (tKeep.tr (tKeep.tr (tKeep.tr (tKeep.tr (tKeep.tr (tKeep.tr tKeep.rf kw6 rfl) kw30 rfl) kw34 rfl) kw35 rfl) kw37 rfl) kw40 rfl) kw42 rfl) (x7 + 1) (t_nnI v8 (Int32.not_le.mp c27)) (t_up (Int32.not_le.mp c27) hd10)
            refine z_icmp_ne hC (pc := 95) 103 dX10_escape_95 (by decide) (fun c43 => ?_) (fun c43 => ?_)
            · refine z_iload hC (pc := 103) 4 dX10_escape_103 rfl ?_
              refine z_bipush hC (pc := 105) (v := 116) dX10_escape_105 (by decide) ?_
              refine z_icmp_ne hC (pc := 107) 115 dX10_escape_107 (by decide) (fun c44 => ?_) (fun c44 => ?_)
              · refine z_bipush hC (pc := 115) (v := 32) dX10_escape_115 (by decide) ?_
                refine z_lvs [0, 1, 2, 3] rfl ?_
                exact j117 32
              · refine z_bipush hC (pc := 110) (v := 9) dX10_escape_110 (by decide) ?_
                refine z_goto hC (pc := 112) 117 dX10_escape_112 (by decide) ?_
                refine z_lvs [0, 1, 2, 3] rfl ?_
                exact j117 9
            · refine z_bipush hC (pc := 98) (v := 10) dX10_escape_98 (by decide) ?_
              refine z_goto hC (pc := 100) 117 dX10_escape_100 (by decide) ?_
              refine z_lvs [0, 1, 2, 3] rfl ?_
              exact j117 10
          refine z_icmp_eq hC (pc := 55) 87 dX10_escape_55 (by decide) (fun c45 => ?_) (fun c45 => ?_)
          · refine z_lvs [1, 2, 3, 4, 0] rfl ?_
            exact j87 w35 hw35 tKeep.rf
          · refine z_iload hC (pc := 58) 0 dX10_escape_58 rfl ?_
            refine z_bipush hC (pc := 60) (v := 116) dX10_escape_60 (by decide) ?_
            refine z_icmp_eq hC (pc := 62) 87 dX10_escape_62 (by decide) (fun c46 => ?_) (fun c46 => ?_)
            · refine z_lvs [1, 2, 3, 4, 0] rfl ?_
              exact j87 w35 hw35 tKeep.rf
            · refine z_iload hC (pc := 65) 0 dX10_escape_65 rfl ?_
              refine z_bipush hC (pc := 67) (v := 32) dX10_escape_67 (by decide) ?_
              refine z_icmp_eq hC (pc := 69) 87 dX10_escape_69 (by decide) (fun c47 => ?_) (fun c47 => ?_)
              · refine z_lvs [1, 2, 3, 4, 0] rfl ?_
                exact j87 w35 hw35 tKeep.rf
              · refine z_aload_n hC (pc := 72) 1 dX10_escape_72 rfl rfl ?_
                refine u_getK hC (pc := 73) zf10 0 (tKeep.F kw35 (tKeep.F kw34 (tKeep.F kw30 fa28 rfl) rfl) rfl) dX10_escape_73 zw330 (kk := ?_)
                refine z_iconst hC (pc := 76) (v := 1) dX10_escape_76 (by decide) ?_
                refine z_aload_n hC (pc := 77) 1 dX10_escape_77 rfl rfl ?_
                refine u_getK hC (pc := 78) zf10 0 (tKeep.F kw35 (tKeep.F kw34 (tKeep.F kw30 fa28 rfl) rfl) rfl) dX10_escape_78 zw330 (kk := ?_)
                refine t_callVi hC hw35 (pc := 81) (As := []) (kX7_here l G T κ hst hE ma28) trivial dmX7_here zf7 hqq29 dX10_escape_81 zw1368 rfl rfl (Nat.le_of_ble_eq_true rfl) (Nat.le_of_ble_eq_true rfl) (Nat.le_of_ble_eq_true rfl) (Nat.le_of_ble_eq_true rfl) (Nat.le_of_ble_eq_true rfl) (fun _ _ _ h => nomatch h) (fun x49 cw48 nw48 w48 hw48 pw48 => ?_)
                obtain ⟨rfl, rfl, kw48⟩ := pw48
                refine t_callVv hC hw48 (pc := 84) (As := [.int 1, .int x49]) (kX7_fail l G T κ hst hE ma28) trivial dmX7_fail zf7 hqq29 dX10_escape_84 zw1369 rfl rfl (Nat.le_of_ble_eq_true rfl) (Nat.le_of_ble_eq_true rfl) (Nat.le_of_ble_eq_true rfl) (Nat.le_of_ble_eq_true rfl) (Nat.le_of_ble_eq_true rfl) (fun E w q hE hw => hO E w _ _ _ _ _ q hE (Nat.le_of_ble_eq_true rfl) (Nat.le_of_ble_eq_true rfl) hw) (fun cw50 nw50 w50 hw50 pw50 => ?_)
                obtain ⟨rfl, rfl, kw50⟩ := pw50
                refine z_lvs [1, 2, 3, 4, 0] rfl ?_
                exact j87 w50 hw50 (tKeep.tr (tKeep.tr tKeep.rf kw48 rfl) kw50 rfl)
  refine z_lvs [2, 3, 1, 0] rfl ?_
  exact j10 _ w0 hw0 tKeep.rf 0 (by decide) (Nat.le_refl _)
set_option maxRecDepth 20000 in
theorem kX10_plainTag (l : Launch) (G : zG) (T : tT) (κ : Nat → List Nat) (hst : l.stackTraces = false) (hE : tE G T κ) {a0 : Nat} (h0 : a0 ∈ κ 10) {x1 : Int32} : tMv l G T yX10_plainTag cX10_plainTag 4 ["java/lang/IllegalStateException"] 8 127 1 6 [.ref a0, .int x1] uT (uPv 0xc000000000000000000000000000000000000000000000001a00000000000000000000000000000000000000000000000000000000000000000000000000000004800000000000000000000000000000000) := by
  refine tMv.intro hst rfl (Nat.le_of_ble_eq_true rfl) ?_
  intro w0 hw0 _ X hC hR hO hX
  refine z_aload_n hC (pc := 0) 0 dX10_plainTag_0 rfl rfl ?_
  refine u_get hC hw0 (pc := 1) zf10 11 (hE.o10 h0) rfl dX10_plainTag_1 zw343 (kk := fun vx4 tx4 fx4 => ?_)
  obtain ⟨x4, rfl, zx4⟩ := t_zof tx4
  refine z_istore_n hC (pc := 4) (lv' := [(2, .int x4), (0, .ref a0), (1, .int x1)]) dX10_plainTag_4 rfl (by decide) rfl ?_
  refine z_aload_n hC (pc := 5) 1 dX10_plainTag_5 rfl rfl ?_
  obtain ⟨q5, hqq5⟩ := hE.o10 h0
  refine t_callVi hC hw0 (pc := 6) (As := []) (kX10_flush l G T κ hst hE h0) trivial dmX10_flush zf10 hqq5 dX10_plainTag_6 zw1404 rfl rfl (Nat.le_of_ble_eq_true rfl) (Nat.le_of_ble_eq_true rfl) (Nat.le_of_ble_eq_true rfl) (Nat.le_of_ble_eq_true rfl) (Nat.le_of_ble_eq_true rfl) (fun _ _ _ h => nomatch h) (fun x7 cw6 nw6 w6 hw6 pw6 => ?_)
  obtain ⟨rfl, rfl, kw6⟩ := pw6
  refine z_istore_n hC (pc := 9) (lv' := [(3, .int x7), (2, .int x4), (0, .ref a0), (1, .int x1)]) dX10_plainTag_9 rfl (by decide) rfl ?_
  refine z_aload_n hC (pc := 10) 2 dX10_plainTag_10 rfl rfl ?_
  refine u_get hC hw6 (pc := 11) zf10 0 (hE.o10 h0) rfl dX10_plainTag_11 zw330 (kk := fun va8 ta8 fa8 => ?_)
  obtain ⟨a8, ma8, rfl⟩ := ta8
  obtain ⟨q9, hqq9⟩ := hE.o7 ma8
  refine t_callVi hC hw6 (pc := 14) (As := []) (kX7_peek l G T κ hst hE ma8) trivial dmX7_peek zf7 hqq9 dX10_plainTag_14 zw1399 rfl rfl (Nat.le_of_ble_eq_true rfl) (Nat.le_of_ble_eq_true rfl) (Nat.le_of_ble_eq_true rfl) (Nat.le_of_ble_eq_true rfl) (Nat.le_of_ble_eq_true rfl) (fun _ _ _ h => nomatch h) (fun x11 cw10 nw10 w10 hw10 pw10 => ?_)
  obtain ⟨rfl, rfl, kw10⟩ := pw10
  refine z_bipush hC (pc := 17) (v := 33) dX10_plainTag_17 (by decide) ?_
  refine z_icmp_ne hC (pc := 19) 33 dX10_plainTag_19 (by decide) (fun c12 => ?_) (fun c12 => ?_)
  · refine z_aload_n hC (pc := 33) 2 dX10_plainTag_33 rfl rfl ?_
    refine z_iconst hC (pc := 34) (v := 0) dX10_plainTag_34 (by decide) ?_
    refine u_put hC hw10 (pc := 35) zf10 11 (hE.o10 h0) rfl (Or.inl rfl) dX10_plainTag_35 zw343 rfl rfl rfl (kk := fun w13 hw13 fw13 kw13 => ?_)
    refine z_aload_n hC (pc := 38) 2 dX10_plainTag_38 rfl rfl ?_
    refine u_getK hC (pc := 39) zf10 0 (tKeep.F kw13 (tKeep.F kw10 fa8 rfl) rfl) dX10_plainTag_39 zw330 (kk := ?_)
    refine z_aload_n hC (pc := 42) 2 dX10_plainTag_42 rfl rfl ?_
    refine u_getK hC (pc := 43) zf10 0 (tKeep.F kw13 (tKeep.F kw10 fa8 rfl) rfl) dX10_plainTag_43 zw330 (kk := ?_)
    refine u_get hC hw13 (pc := 46) zf7 5 (hE.o7 ma8) rfl dX10_plainTag_46 zw124 (kk := fun vx14 tx14 fx14 => ?_)
    obtain ⟨x14, rfl⟩ := tx14
    refine z_iconst hC (pc := 49) (v := 1) dX10_plainTag_49 (by decide) ?_
    refine z_iadd hC (pc := 50) (v := (x14 + 1)) dX10_plainTag_50 rfl ?_
    refine t_callVi hC hw13 (pc := 51) (As := [.int (x14 + 1)]) (kX7_at l G T κ hst hE ma8) trivial dmX7_at zf7 hqq9 dX10_plainTag_51 zw1379 rfl rfl (Nat.le_of_ble_eq_true rfl) (Nat.le_of_ble_eq_true rfl) (Nat.le_of_ble_eq_true rfl) (Nat.le_of_ble_eq_true rfl) (Nat.le_of_ble_eq_true rfl) (fun _ _ _ h => nomatch h) (fun x16 cw15 nw15 w15 hw15 pw15 => ?_)
    obtain ⟨rfl, rfl, kw15⟩ := pw15
    refine z_bipush hC (pc := 54) (v := 92) dX10_plainTag_54 (by decide) ?_
    have j71 : ∀ (w17 : va_W), tW T w17 → tKeep 0x1a00000000000000000000000000000000000000000000000000000000000000000000000000000004800000000000000000000000000000000 w15 w17 → zS X G 4 w17 [] 0 0 71 [] := by
      intro w17 hw17 kw17
      exact hR _ _ _ _ _ dX10_plainTag_71 (Nat.le_of_ble_eq_true rfl) (Nat.le_of_ble_eq_true rfl) ⟨hw17, rfl, rfl, (tKeep.tr (tKeep.tr (tKeep.tr (tKeep.tr (tKeep.tr tKeep.rf kw6 rfl) kw10 rfl) kw13 rfl) kw15 rfl) kw17 rfl)⟩
    refine z_icmp_ne hC (pc := 56) 66 dX10_plainTag_56 (by decide) (fun c18 => ?_) (fun c18 => ?_)
    · refine z_aload_n hC (pc := 66) 2 dX10_plainTag_66 rfl rfl ?_
      refine z_iload_n hC (pc := 67) 3 dX10_plainTag_67 rfl rfl ?_
      refine t_callVv hC hw15 (pc := 68) (As := [.int x1]) (kX10_escape l G T κ hst hE h0) trivial dmX10_escape zf10 hqq5 dX10_plainTag_68 zw1429 rfl rfl (Nat.le_of_ble_eq_true rfl) (Nat.le_of_ble_eq_true rfl) (Nat.le_of_ble_eq_true rfl) (Nat.le_of_ble_eq_true rfl) (Nat.le_of_ble_eq_true rfl) (fun E w q hE hw => hO E w _ _ _ _ _ q hE (Nat.le_of_ble_eq_true rfl) (Nat.le_of_ble_eq_true rfl) hw) (fun cw19 nw19 w19 hw19 pw19 => ?_)
      obtain ⟨rfl, rfl, kw19⟩ := pw19
      refine z_lvs [] rfl ?_
      exact j71 w19 hw19 (tKeep.tr tKeep.rf kw19 rfl)
    · refine z_aload_n hC (pc := 59) 2 dX10_plainTag_59 rfl rfl ?_
      refine t_callVv hC hw15 (pc := 60) (As := []) (kX10_joinLines l G T κ hst hE h0) trivial dmX10_joinLines zf10 hqq5 dX10_plainTag_60 zw1425 rfl rfl (Nat.le_of_ble_eq_true rfl) (Nat.le_of_ble_eq_true rfl) (Nat.le_of_ble_eq_true rfl) (Nat.le_of_ble_eq_true rfl) (Nat.le_of_ble_eq_true rfl) (fun E w q hE hw => hO E w _ _ _ _ _ q hE (Nat.le_of_ble_eq_true rfl) (Nat.le_of_ble_eq_true rfl) hw) (fun cw21 nw21 w21 hw21 pw21 => ?_)
      obtain ⟨rfl, rfl, kw21⟩ := pw21
      refine z_goto hC (pc := 63) 71 dX10_plainTag_63 (by decide) ?_
      refine z_lvs [] rfl ?_
      exact j71 w21 hw21 (tKeep.tr tKeep.rf kw21 rfl)
  · refine z_aload_n hC (pc := 22) 2 dX10_plainTag_22 rfl rfl ?_
    refine t_callVv hC hw10 (pc := 23) (As := []) (kX10_comment l G T κ hst hE h0) trivial dmX10_comment zf10 hqq5 dX10_plainTag_23 zw1416 rfl rfl (Nat.le_of_ble_eq_true rfl) (Nat.le_of_ble_eq_true rfl) (Nat.le_of_ble_eq_true rfl) (Nat.le_of_ble_eq_true rfl) (Nat.le_of_ble_eq_true rfl) (fun E w q hE hw => hO E w _ _ _ _ _ q hE (Nat.le_of_ble_eq_true rfl) (Nat.le_of_ble_eq_true rfl) hw) (fun cw23 nw23 w23 hw23 pw23 => ?_)
    obtain ⟨rfl, rfl, kw23⟩ := pw23
    refine z_aload_n hC (pc := 26) 2 dX10_plainTag_26 rfl rfl ?_
    refine z_iload_n hC (pc := 27) 1 dX10_plainTag_27 rfl rfl ?_
    refine z_iload_n hC (pc := 28) 0 dX10_plainTag_28 rfl rfl ?_
    refine t_callVv hC hw23 (pc := 29) (As := [.int x4, .int x7]) (kX10_restOfLine l G T κ hst hE h0) trivial dmX10_restOfLine zf10 hqq5 dX10_plainTag_29 zw1421 rfl rfl (Nat.le_of_ble_eq_true rfl) (Nat.le_of_ble_eq_true rfl) (Nat.le_of_ble_eq_true rfl) (Nat.le_of_ble_eq_true rfl) (Nat.le_of_ble_eq_true rfl) (fun _ _ _ h => nomatch h) (fun cw25 nw25 w25 hw25 pw25 => ?_)
    obtain ⟨rfl, rfl, kw25⟩ := pw25
    exact hR _ _ _ _ _ dX10_plainTag_32 (Nat.le_of_ble_eq_true rfl) (Nat.le_of_ble_eq_true rfl) ⟨hw25, rfl, rfl, (tKeep.tr (tKeep.tr (tKeep.tr (tKeep.tr tKeep.rf kw6 rfl) kw10 rfl) kw23 rfl) kw25 rfl)⟩
set_option maxRecDepth 20000 in
theorem kX7_need (l : Launch) (G : zG) (T : tT) (κ : Nat → List Nat) (hst : l.stackTraces = false) (hE : tE G T κ) {a0 : Nat} (h0 : a0 ∈ κ 7) {x1 : Int32} : tMv l G T yX7_need cX7_need 2 ["java/lang/IllegalStateException"] 7 103 1 6 [.ref a0, .int x1] uT (uPv 0x1a00000000000000000000000000000000000000000000000000000000000000000000000000000000000000000000000000000000000000000) := by
  refine tMv.intro hst rfl (Nat.le_of_ble_eq_true rfl) ?_
  intro w0 hw0 _ X hC hR hO hX
  refine z_aload_n hC (pc := 0) 0 dX7_need_0 rfl rfl ?_
  obtain ⟨q4, hqq4⟩ := hE.o7 h0
  refine t_callVv hC hw0 (pc := 1) (As := []) (kX7_blanks l G T κ hst hE h0) trivial dmX7_blanks zf7 hqq4 dX7_need_1 zw1452 rfl rfl (Nat.le_of_ble_eq_true rfl) (Nat.le_of_ble_eq_true rfl) (Nat.le_of_ble_eq_true rfl) (Nat.le_of_ble_eq_true rfl) (Nat.le_of_ble_eq_true rfl) (fun _ _ _ h => nomatch h) (fun cw5 nw5 w5 hw5 pw5 => ?_)
  obtain ⟨rfl, rfl, kw5⟩ := pw5
  refine z_aload_n hC (pc := 4) 0 dX7_need_4 rfl rfl ?_
  refine u_get hC hw5 (pc := 5) zf7 5 (hE.o7 h0) rfl dX7_need_5 zw122 (kk := fun vx7 tx7 fx7 => ?_)
  obtain ⟨x7, rfl⟩ := tx7
  have j56 : ∀ (w8 : va_W), tW T w8 → tKeep 0x1800000000000000000000000000000000000000000000000000000000000000000000000000000000000000000000000000000000000000000 w5 w8 → zS X G 2 w8 [(0, .ref a0)] 0 0 56 [] := by
    intro w8 hw8 kw8
    refine z_aload_n hC (pc := 56) 0 dX7_need_56 rfl rfl ?_
    refine z_dup hC (pc := 57) dX7_need_57 rfl ?_
    refine u_getK hC (pc := 58) zf7 5 (tKeep.F kw8 fx7 rfl) dX7_need_58 zw122 (kk := ?_)
    refine z_iconst hC (pc := 61) (v := 1) dX7_need_61 (by decide) ?_
    refine z_iadd hC (pc := 62) (v := (x7 + 1)) dX7_need_62 rfl ?_
    refine u_put hC hw8 (pc := 63) zf7 5 (hE.o7 h0) rfl ⟨_, rfl⟩ dX7_need_63 zw122 rfl rfl rfl (kk := fun w9 hw9 fw9 kw9 => ?_)
    exact hR _ _ _ _ _ dX7_need_66 (Nat.le_of_ble_eq_true rfl) (Nat.le_of_ble_eq_true rfl) ⟨hw9, rfl, rfl, (tKeep.tr (tKeep.tr (tKeep.tr tKeep.rf kw5 rfl) kw8 rfl) kw9 rfl)⟩
  have j47 : zS X G 2 w5 [(0, .ref a0)] 0 0 47 [] := by
    refine z_aload_n hC (pc := 47) 0 dX7_need_47 rfl rfl ?_
    refine z_iconst hC (pc := 48) (v := 1) dX7_need_48 (by decide) ?_
    refine z_aload_n hC (pc := 49) 0 dX7_need_49 rfl rfl ?_
    refine t_callVi hC hw5 (pc := 50) (As := []) (kX7_here l G T κ hst hE h0) trivial dmX7_here zf7 hqq4 dX7_need_50 zw1276 rfl rfl (Nat.le_of_ble_eq_true rfl) (Nat.le_of_ble_eq_true rfl) (Nat.le_of_ble_eq_true rfl) (Nat.le_of_ble_eq_true rfl) (Nat.le_of_ble_eq_true rfl) (fun _ _ _ h => nomatch h) (fun x11 cw10 nw10 w10 hw10 pw10 => ?_)
    obtain ⟨rfl, rfl, kw10⟩ := pw10
    refine t_callVv hC hw10 (pc := 53) (As := [.int 1, .int x11]) (kX7_fail l G T κ hst hE h0) trivial dmX7_fail zf7 hqq4 dX7_need_53 zw1020 rfl rfl (Nat.le_of_ble_eq_true rfl) (Nat.le_of_ble_eq_true rfl) (Nat.le_of_ble_eq_true rfl) (Nat.le_of_ble_eq_true rfl) (Nat.le_of_ble_eq_true rfl) (fun E w q hE hw => hO E w _ _ _ _ _ q hE (Nat.le_of_ble_eq_true rfl) (Nat.le_of_ble_eq_true rfl) hw) (fun cw12 nw12 w12 hw12 pw12 => ?_)
    obtain ⟨rfl, rfl, kw12⟩ := pw12
    exact j56 w12 hw12 (tKeep.tr (tKeep.tr tKeep.rf kw10 rfl) kw12 rfl)
  refine z_if_lt hC (pc := 8) 47 dX7_need_8 (by decide) (fun c14 => ?_) (fun c14 => ?_)
  · refine z_lvs [0] rfl ?_
    exact j47
  · refine z_aload_n hC (pc := 11) 0 dX7_need_11 rfl rfl ?_
    refine u_getK hC (pc := 12) zf7 5 fx7 dX7_need_12 zw122 (kk := ?_)
    refine z_aload_n hC (pc := 15) 0 dX7_need_15 rfl rfl ?_
    refine u_get hC hw5 (pc := 16) zf7 4 (hE.o7 h0) rfl dX7_need_16 zw119 (kk := fun vx15 tx15 fx15 => ?_)
    obtain ⟨x15, rfl⟩ := tx15
    refine z_icmp_ge hC (pc := 19) 47 dX7_need_19 (by decide) (fun c16 => ?_) (fun c16 => ?_)
    · refine z_lvs [0] rfl ?_
      exact j47
    · refine z_aload_n hC (pc := 22) 0 dX7_need_22 rfl rfl ?_
      refine u_getK hC (pc := 23) zf7 5 fx7 dX7_need_23 zw122 (kk := ?_)
      refine z_aload_n hC (pc := 26) 0 dX7_need_26 rfl rfl ?_
      refine u_get hC hw5 (pc := 27) zf7 0 (hE.o7 h0) rfl dX7_need_27 zw115 (kk := fun va17 ta17 fa17 => ?_)
      obtain ⟨a17, ma17, rfl⟩ := ta17
      obtain ⟨N18, hN18, AN18⟩ := hE.byts ma17
      refine u_alenB hC hw5 (pc := 30) (Or.inl AN18) dX7_need_30 ?_
      refine z_icmp_ge hC (pc := 31) 47 dX7_need_31 (by decide) (fun c19 => ?_) (fun c19 => ?_)
      · refine z_lvs [0] rfl ?_
        exact j47
      · refine z_aload_n hC (pc := 34) 0 dX7_need_34 rfl rfl ?_
        refine u_getK hC (pc := 35) zf7 0 fa17 dX7_need_35 zw115 (kk := ?_)
        refine z_aload_n hC (pc := 38) 0 dX7_need_38 rfl rfl ?_
        refine u_getK hC (pc := 39) zf7 5 fx7 dX7_need_39 zw122 (kk := ?_)
        refine u_bald hC hw5 (pc := 42) (Or.inl AN18) dX7_need_42 (t_inB hN18 c14 c19) (fun x20 => ?_)
        refine z_iload_n hC (pc := 43) 1 dX7_need_43 rfl rfl ?_
        refine z_icmp_eq hC (pc := 44) 56 dX7_need_44 (by decide) (fun c21 => ?_) (fun c21 => ?_)
        · refine z_lvs [0] rfl ?_
          exact j56 w5 hw5 tKeep.rf
        · refine z_lvs [0] rfl ?_
          exact j47
set_option maxRecDepth 20000 in
theorem kX10_regionEnd (l : Launch) (G : zG) (T : tT) (κ : Nat → List Nat) (hst : l.stackTraces = false) (hE : tE G T κ) {a0 : Nat} (h0 : a0 ∈ κ 10) {x1 : Int32} {x2 : Int32} : tMi l G T yX10_regionEnd cX10_regionEnd 5 .int ["java/lang/IllegalStateException"] 8 124 1 6 [.ref a0, .int x1, .int x2] uT (uPi 0xc000000000000000000000000000000000000000000000001a00000000000000000000000000000000000000000000000000000000000000000000000000000000800000000000000000000000000000000) := by
  refine tMi.intro hst rfl (Nat.le_of_ble_eq_true rfl) ?_
  intro w0 hw0 _ X hC hR hO hX
  refine z_iload_n hC (pc := 0) 2 dX10_regionEnd_0 rfl rfl ?_
  refine z_iconst hC (pc := 1) (v := 3) dX10_regionEnd_1 (by decide) ?_
  have j20 : ∀ (w5 : va_W), tW T w5 → tKeep 0x1800000000000000000000000000000000000000000000000000000000000000000000000000000000000000000000000000000000000000000 w0 w5 → zS X G 5 w5 [(0, .ref a0), (1, .int x1)] 0 0 20 [] := by
    intro w5 hw5 kw5
    refine z_aload_n hC (pc := 20) 0 dX10_regionEnd_20 rfl rfl ?_
    refine u_get hC hw5 (pc := 21) zf10 11 (hE.o10 h0) rfl dX10_regionEnd_21 zw343 (kk := fun vx6 tx6 fx6 => ?_)
    obtain ⟨x6, rfl, zx6⟩ := t_zof tx6
    refine z_istore_n hC (pc := 24) (lv' := [(3, .int x6), (0, .ref a0), (1, .int x1)]) dX10_regionEnd_24 rfl (by decide) rfl ?_
    refine z_aload_n hC (pc := 25) 1 dX10_regionEnd_25 rfl rfl ?_
    obtain ⟨q7, hqq7⟩ := hE.o10 h0
    refine t_callVi hC hw5 (pc := 26) (As := []) (kX10_flush l G T κ hst hE h0) trivial dmX10_flush zf10 hqq7 dX10_regionEnd_26 zw1404 rfl rfl (Nat.le_of_ble_eq_true rfl) (Nat.le_of_ble_eq_true rfl) (Nat.le_of_ble_eq_true rfl) (Nat.le_of_ble_eq_true rfl) (Nat.le_of_ble_eq_true rfl) (fun _ _ _ h => nomatch h) (fun x9 cw8 nw8 w8 hw8 pw8 => ?_)
    obtain ⟨rfl, rfl, kw8⟩ := pw8
    refine z_istore hC (pc := 29) (lv' := [(4, .int x9), (3, .int x6), (0, .ref a0), (1, .int x1)]) dX10_regionEnd_29 (by decide) rfl ?_
    refine z_aload_n hC (pc := 31) 2 dX10_regionEnd_31 rfl rfl ?_
    refine u_get hC hw8 (pc := 32) zf10 0 (hE.o10 h0) rfl dX10_regionEnd_32 zw330 (kk := fun va10 ta10 fa10 => ?_)
    obtain ⟨a10, ma10, rfl⟩ := ta10
    refine z_iload_n hC (pc := 35) 3 dX10_regionEnd_35 rfl rfl ?_
    refine u_put hC hw8 (pc := 36) zf7 5 (hE.o7 ma10) rfl ⟨_, rfl⟩ dX10_regionEnd_36 zw124 rfl rfl rfl (kk := fun w11 hw11 fw11 kw11 => ?_)
    refine z_aload_n hC (pc := 39) 2 dX10_regionEnd_39 rfl rfl ?_
    refine u_getK hC (pc := 40) zf10 0 (tKeep.F kw11 fa10 rfl) dX10_regionEnd_40 zw330 (kk := ?_)
    refine z_aload_n hC (pc := 43) 2 dX10_regionEnd_43 rfl rfl ?_
    refine u_get hC hw11 (pc := 44) zf10 3 (hE.o10 h0) rfl dX10_regionEnd_44 zw334 (kk := fun vx12 tx12 fx12 => ?_)
    obtain ⟨x12, rfl⟩ := tx12
    obtain ⟨q13, hqq13⟩ := hE.o7 ma10
    refine t_callVv hC hw11 (pc := 47) (As := [.int x12]) (kX7_need l G T κ hst hE ma10) trivial dmX7_need zf7 hqq13 dX10_regionEnd_47 zw1448 rfl rfl (Nat.le_of_ble_eq_true rfl) (Nat.le_of_ble_eq_true rfl) (Nat.le_of_ble_eq_true rfl) (Nat.le_of_ble_eq_true rfl) (Nat.le_of_ble_eq_true rfl) (fun E w q hE hw => hO E w _ _ _ _ _ q hE (Nat.le_of_ble_eq_true rfl) (Nat.le_of_ble_eq_true rfl) hw) (fun cw14 nw14 w14 hw14 pw14 => ?_)
    obtain ⟨rfl, rfl, kw14⟩ := pw14
    refine z_aload_n hC (pc := 50) 2 dX10_regionEnd_50 rfl rfl ?_
    refine z_iload_n hC (pc := 51) 1 dX10_regionEnd_51 rfl rfl ?_
    refine z_iload hC (pc := 52) 0 dX10_regionEnd_52 rfl ?_
    refine t_callVv hC hw14 (pc := 54) (As := [.int x6, .int x9]) (kX10_restOfLine l G T κ hst hE h0) trivial dmX10_restOfLine zf10 hqq7 dX10_regionEnd_54 zw1421 rfl rfl (Nat.le_of_ble_eq_true rfl) (Nat.le_of_ble_eq_true rfl) (Nat.le_of_ble_eq_true rfl) (Nat.le_of_ble_eq_true rfl) (Nat.le_of_ble_eq_true rfl) (fun _ _ _ h => nomatch h) (fun cw16 nw16 w16 hw16 pw16 => ?_)
    obtain ⟨rfl, rfl, kw16⟩ := pw16
    refine z_bipush hC (pc := 57) (v := 20) dX10_regionEnd_57 (by decide) ?_
    exact hR _ _ _ _ _ _ dX10_regionEnd_59 rfl (Nat.le_of_ble_eq_true rfl) (Nat.le_of_ble_eq_true rfl) ⟨hw16, rfl, rfl, (tKeep.tr (tKeep.tr (tKeep.tr (tKeep.tr (tKeep.tr tKeep.rf kw5 rfl) kw8 rfl) kw11 rfl) kw14 rfl) kw16 rfl)⟩
  refine z_icmp_eq hC (pc := 2) 20 dX10_regionEnd_2 (by decide) (fun c18 => ?_) (fun c18 => ?_)
  · refine z_lvs [0, 1] rfl ?_
    exact j20 w0 hw0 tKeep.rf
  · refine z_aload_n hC (pc := 5) 0 dX10_regionEnd_5 rfl rfl ?_
    refine u_get hC hw0 (pc := 6) zf10 0 (hE.o10 h0) rfl dX10_regionEnd_6 zw330 (kk := fun va19 ta19 fa19 => ?_)
    obtain ⟨a19, ma19, rfl⟩ := ta19
    refine z_iconst hC (pc := 9) (v := 1) dX10_regionEnd_9 (by decide) ?_
    refine z_aload_n hC (pc := 10) 0 dX10_regionEnd_10 rfl rfl ?_
    refine u_getK hC (pc := 11) zf10 0 fa19 dX10_regionEnd_11 zw330 (kk := ?_)
    obtain ⟨q20, hqq20⟩ := hE.o7 ma19
    refine t_callVi hC hw0 (pc := 14) (As := []) (kX7_here l G T κ hst hE ma19) trivial dmX7_here zf7 hqq20 dX10_regionEnd_14 zw1368 rfl rfl (Nat.le_of_ble_eq_true rfl) (Nat.le_of_ble_eq_true rfl) (Nat.le_of_ble_eq_true rfl) (Nat.le_of_ble_eq_true rfl) (Nat.le_of_ble_eq_true rfl) (fun _ _ _ h => nomatch h) (fun x22 cw21 nw21 w21 hw21 pw21 => ?_)
    obtain ⟨rfl, rfl, kw21⟩ := pw21
    refine t_callVv hC hw21 (pc := 17) (As := [.int 1, .int x22]) (kX7_fail l G T κ hst hE ma19) trivial dmX7_fail zf7 hqq20 dX10_regionEnd_17 zw1369 rfl rfl (Nat.le_of_ble_eq_true rfl) (Nat.le_of_ble_eq_true rfl) (Nat.le_of_ble_eq_true rfl) (Nat.le_of_ble_eq_true rfl) (Nat.le_of_ble_eq_true rfl) (fun E w q hE hw => hO E w _ _ _ _ _ q hE (Nat.le_of_ble_eq_true rfl) (Nat.le_of_ble_eq_true rfl) hw) (fun cw23 nw23 w23 hw23 pw23 => ?_)
    obtain ⟨rfl, rfl, kw23⟩ := pw23
    refine z_lvs [0, 1] rfl ?_
    exact j20 w23 hw23 (tKeep.tr (tKeep.tr tKeep.rf kw21 rfl) kw23 rfl)
set_option maxRecDepth 20000 in
theorem kX7_isName (l : Launch) (G : zG) (T : tT) (κ : Nat → List Nat) (hst : l.stackTraces = false) (hE : tE G T κ) {a0 : Nat} (h0 : a0 ∈ κ 7) {x1 : Int32} {a2 : Nat} (h2 : a2 ∈ κ 6) {x3 : Int32} : tMi l G T yX7_isName cX7_isName 5 .boolean [] 1 25 0 0 [.ref a0, .int x1, .ref a2, .int x3] uT (uPz 0x0) := by
  refine tMi.intro hst rfl (Nat.le_of_ble_eq_true rfl) ?_
  intro w0 hw0 _ X hC hR hO hX
  refine z_aload_n hC (pc := 0) 2 dX7_isName_0 rfl rfl ?_
  refine z_iload_n hC (pc := 1) 3 dX7_isName_1 rfl rfl ?_
  obtain ⟨q6, hqq6⟩ := hE.o6 h2
  refine t_callVi hC hw0 (pc := 2) (As := [.int x3]) (kX6_lengthOf l G T κ hst hE h2) trivial dmX6_lengthOf zf6 hqq6 dX7_isName_2 zw1467 rfl rfl (Nat.le_of_ble_eq_true rfl) (Nat.le_of_ble_eq_true rfl) (Nat.le_of_ble_eq_true rfl) (Nat.le_of_ble_eq_true rfl) (Nat.le_of_ble_eq_true rfl) (fun _ _ _ h => nomatch h) (fun x8 cw7 nw7 w7 hw7 pw7 => ?_)
  obtain ⟨rfl, rfl, kw7⟩ := pw7
  refine z_istore hC (pc := 5) (lv' := [(4, .int x8), (0, .ref a0), (1, .int x1), (2, .ref a2), (3, .int x3)]) dX7_isName_5 (by decide) rfl ?_
  refine z_iload_n hC (pc := 7) 2 dX7_isName_7 rfl rfl ?_
  refine z_aload_n hC (pc := 8) 1 dX7_isName_8 rfl rfl ?_
  refine u_get hC hw7 (pc := 9) zf7 5 (hE.o7 h0) rfl dX7_isName_9 zw122 (kk := fun vx9 tx9 fx9 => ?_)
  obtain ⟨x9, rfl⟩ := tx9
  refine z_isub hC (pc := 12) (v := (x1 - x9)) dX7_isName_12 rfl ?_
  refine z_iload hC (pc := 13) 0 dX7_isName_13 rfl ?_
  have j51 : ∀ (w10 : va_W), tW T w10 → tKeep 0x0 w7 w10 → ∀ (x11 : Int32), tZ (.int x11) → zS X G 5 w10 [] 0 0 51 [.int x11] := by
    intro w10 hw10 kw10 x11 zx11
    exact hR _ _ _ _ _ _ dX7_isName_51 (t_nZ zx11) (Nat.le_of_ble_eq_true rfl) (Nat.le_of_ble_eq_true rfl) ⟨hw10, rfl, rfl, (tKeep.tr (tKeep.tr tKeep.rf kw7 rfl) kw10 rfl), zx11⟩
  have j50 : ∀ (w12 : va_W), tW T w12 → tKeep 0x0 w7 w12 → zS X G 5 w12 [] 0 0 50 [] := by
    intro w12 hw12 kw12
    refine z_iconst hC (pc := 50) (v := 0) dX7_isName_50 (by decide) ?_
    exact j51 w12 hw12 (tKeep.tr tKeep.rf kw12 rfl) 0 (Or.inl rfl)
  refine z_icmp_ne hC (pc := 15) 50 dX7_isName_15 (by decide) (fun c13 => ?_) (fun c13 => ?_)
  · refine z_lvs [] rfl ?_
    exact j50 w7 hw7 tKeep.rf
  · refine z_aload_n hC (pc := 18) 1 dX7_isName_18 rfl rfl ?_
    refine u_get hC hw7 (pc := 19) zf7 0 (hE.o7 h0) rfl dX7_isName_19 zw115 (kk := fun va14 ta14 fa14 => ?_)
    obtain ⟨a14, ma14, rfl⟩ := ta14
    refine z_aload_n hC (pc := 22) 1 dX7_isName_22 rfl rfl ?_
    refine u_getK hC (pc := 23) zf7 5 fx9 dX7_isName_23 zw122 (kk := ?_)
    refine z_aload_n hC (pc := 26) 3 dX7_isName_26 rfl rfl ?_
    refine u_get hC hw7 (pc := 27) zf6 0 (hE.o6 h2) rfl dX7_isName_27 zw175 (kk := fun va15 ta15 fa15 => ?_)
    obtain ⟨a15, ma15, rfl⟩ := ta15
    refine z_aload_n hC (pc := 30) 3 dX7_isName_30 rfl rfl ?_
    refine u_get hC hw7 (pc := 31) zf6 1 (hE.o6 h2) rfl dX7_isName_31 zw179 (kk := fun va16 ta16 fa16 => ?_)
    obtain ⟨a16, ma16, rfl⟩ := ta16
    refine z_iload_n hC (pc := 34) 4 dX7_isName_34 rfl rfl ?_
    refine t_callSNi hC hw7 (pc := 35) (As := [.ref a16, .int x3]) (kX12_get l G T κ hst hE ma16) trivial dmX12_get dX7_isName_35 zw1468 rfl rfl (Nat.le_of_ble_eq_true rfl) (Nat.le_of_ble_eq_true rfl) (Nat.le_of_ble_eq_true rfl) (Nat.le_of_ble_eq_true rfl) (Nat.le_of_ble_eq_true rfl) (fun _ _ _ h => nomatch h) (fun x18 cw17 nw17 w17 hw17 pw17 => ?_)
    obtain ⟨rfl, rfl, kw17⟩ := pw17
    refine z_iload hC (pc := 38) 0 dX7_isName_38 rfl ?_
    refine t_callSNi hC hw17 (pc := 40) (As := [.ref a14, .int x9, .ref a15, .int x18, .int x8]) (kX12_same l G T κ hst hE (Or.inl ma14) (Or.inl ma15)) trivial dmX12_same dX7_isName_40 zw1469 rfl rfl (Nat.le_of_ble_eq_true rfl) (Nat.le_of_ble_eq_true rfl) (Nat.le_of_ble_eq_true rfl) (Nat.le_of_ble_eq_true rfl) (Nat.le_of_ble_eq_true rfl) (fun _ _ _ h => nomatch h) (fun x20 cw19 nw19 w19 hw19 pw19 => ?_)
    obtain ⟨rfl, rfl, kw19, zx20⟩ := pw19
    refine z_if_eq hC (pc := 43) 50 dX7_isName_43 (by decide) (fun c21 => ?_) (fun c21 => ?_)
    · refine z_lvs [] rfl ?_
      exact j50 w19 hw19 (tKeep.tr (tKeep.tr tKeep.rf kw17 rfl) kw19 rfl)
    · refine z_iconst hC (pc := 46) (v := 1) dX7_isName_46 (by decide) ?_
      refine z_goto hC (pc := 47) 51 dX7_isName_47 (by decide) ?_
      refine z_lvs [] rfl ?_
      exact j51 w19 hw19 (tKeep.tr (tKeep.tr tKeep.rf kw17 rfl) kw19 rfl) 1 (Or.inr rfl)
set_option maxRecDepth 20000 in
theorem kX2_addPart (l : Launch) (G : zG) (T : tT) (κ : Nat → List Nat) (hst : l.stackTraces = false) (hE : tE G T κ) {a0 : Nat} (h0 : a0 ∈ κ 2) {x1 : Int32} {x2 : Int32} {x3 : Int32} {x4 : Int32} {x5 : Int32} : tMv l G T yX2_addPart cX2_addPart 7 [] 1 22 0 0 [.ref a0, .int x1, .int x2, .int x3, .int x4, .int x5] uT (uPv 0x40000000000000000000000000000000000) := by
  refine tMv.intro hst rfl (Nat.le_of_ble_eq_true rfl) ?_
  intro w0 hw0 _ X hC hR hO hX
  refine z_aload_n hC (pc := 0) 0 dX2_addPart_0 rfl rfl ?_
  refine u_get hC hw0 (pc := 1) zf2 10 (hE.o2 h0) rfl dX2_addPart_1 zw265 (kk := fun vx8 tx8 fx8 => ?_)
  obtain ⟨x8, rfl⟩ := tx8
  refine z_bipush hC (pc := 4) (v := 6) dX2_addPart_4 (by decide) ?_
  refine z_imul hC (pc := 6) (v := (x8 * 6)) dX2_addPart_6 rfl ?_
  refine z_istore hC (pc := 7) (lv' := [(6, .int (x8 * 6)), (0, .ref a0), (1, .int x1), (2, .int x2), (3, .int x3), (4, .int x4), (5, .int x5)]) dX2_addPart_7 (by decide) rfl ?_
  refine z_aload_n hC (pc := 9) 1 dX2_addPart_9 rfl rfl ?_
  refine u_get hC hw0 (pc := 10) zf2 9 (hE.o2 h0) rfl dX2_addPart_10 zw262 (kk := fun va9 ta9 fa9 => ?_)
  obtain ⟨a9, ma9, rfl⟩ := ta9
  refine z_iload hC (pc := 13) 0 dX2_addPart_13 rfl ?_
  refine z_iload_n hC (pc := 15) 2 dX2_addPart_15 rfl rfl ?_
  refine t_callSNv hC hw0 (pc := 16) (As := [.ref a9, .int (x8 * 6), .int x1]) (kX12_set l G T κ hst hE ma9) trivial dmX12_set dX2_addPart_16 zw1289 rfl rfl (Nat.le_of_ble_eq_true rfl) (Nat.le_of_ble_eq_true rfl) (Nat.le_of_ble_eq_true rfl) (Nat.le_of_ble_eq_true rfl) (Nat.le_of_ble_eq_true rfl) (fun _ _ _ h => nomatch h) (fun cw10 nw10 w10 hw10 pw10 => ?_)
  obtain ⟨rfl, rfl, kw10⟩ := pw10
  refine z_aload_n hC (pc := 19) 1 dX2_addPart_19 rfl rfl ?_
  refine u_getK hC (pc := 20) zf2 9 (tKeep.F kw10 fa9 rfl) dX2_addPart_20 zw262 (kk := ?_)
  refine z_iload hC (pc := 23) 0 dX2_addPart_23 rfl ?_
  refine z_iconst hC (pc := 25) (v := 1) dX2_addPart_25 (by decide) ?_
  refine z_iadd hC (pc := 26) (v := ((x8 * 6) + 1)) dX2_addPart_26 rfl ?_
  refine z_iload_n hC (pc := 27) 3 dX2_addPart_27 rfl rfl ?_
  refine t_callSNv hC hw10 (pc := 28) (As := [.ref a9, .int ((x8 * 6) + 1), .int x2]) (kX12_set l G T κ hst hE ma9) trivial dmX12_set dX2_addPart_28 zw1289 rfl rfl (Nat.le_of_ble_eq_true rfl) (Nat.le_of_ble_eq_true rfl) (Nat.le_of_ble_eq_true rfl) (Nat.le_of_ble_eq_true rfl) (Nat.le_of_ble_eq_true rfl) (fun _ _ _ h => nomatch h) (fun cw12 nw12 w12 hw12 pw12 => ?_)
  obtain ⟨rfl, rfl, kw12⟩ := pw12
  refine z_aload_n hC (pc := 31) 1 dX2_addPart_31 rfl rfl ?_
  refine u_getK hC (pc := 32) zf2 9 (tKeep.F kw12 (tKeep.F kw10 fa9 rfl) rfl) dX2_addPart_32 zw262 (kk := ?_)
  refine z_iload hC (pc := 35) 0 dX2_addPart_35 rfl ?_
  refine z_iconst hC (pc := 37) (v := 2) dX2_addPart_37 (by decide) ?_
  refine z_iadd hC (pc := 38) (v := ((x8 * 6) + 2)) dX2_addPart_38 rfl ?_
  refine z_iload_n hC (pc := 39) 4 dX2_addPart_39 rfl rfl ?_
  refine t_callSNv hC hw12 (pc := 40) (As := [.ref a9, .int ((x8 * 6) + 2), .int x3]) (kX12_set l G T κ hst hE ma9) trivial dmX12_set dX2_addPart_40 zw1289 rfl rfl (Nat.le_of_ble_eq_true rfl) (Nat.le_of_ble_eq_true rfl) (Nat.le_of_ble_eq_true rfl) (Nat.le_of_ble_eq_true rfl) (Nat.le_of_ble_eq_true rfl) (fun _ _ _ h => nomatch h) (fun cw14 nw14 w14 hw14 pw14 => ?_)
  obtain ⟨rfl, rfl, kw14⟩ := pw14
  refine z_aload_n hC (pc := 43) 1 dX2_addPart_43 rfl rfl ?_
  refine u_getK hC (pc := 44) zf2 9 (tKeep.F kw14 (tKeep.F kw12 (tKeep.F kw10 fa9 rfl) rfl) rfl) dX2_addPart_44 zw262 (kk := ?_)
  refine z_iload hC (pc := 47) 0 dX2_addPart_47 rfl ?_
  refine z_iconst hC (pc := 49) (v := 3) dX2_addPart_49 (by decide) ?_
  refine z_iadd hC (pc := 50) (v := ((x8 * 6) + 3)) dX2_addPart_50 rfl ?_
  refine z_aload_n hC (pc := 51) 1 dX2_addPart_51 rfl rfl ?_
  refine u_get hC hw14 (pc := 52) zf2 3 (hE.o2 h0) rfl dX2_addPart_52 zw244 (kk := fun vx16 tx16 fx16 => ?_)
  obtain ⟨x16, rfl⟩ := tx16
  refine t_callSNv hC hw14 (pc := 55) (As := [.ref a9, .int ((x8 * 6) + 3), .int x16]) (kX12_set l G T κ hst hE ma9) trivial dmX12_set dX2_addPart_55 zw1289 rfl rfl (Nat.le_of_ble_eq_true rfl) (Nat.le_of_ble_eq_true rfl) (Nat.le_of_ble_eq_true rfl) (Nat.le_of_ble_eq_true rfl) (Nat.le_of_ble_eq_true rfl) (fun _ _ _ h => nomatch h) (fun cw17 nw17 w17 hw17 pw17 => ?_)
  obtain ⟨rfl, rfl, kw17⟩ := pw17
  refine z_aload_n hC (pc := 58) 1 dX2_addPart_58 rfl rfl ?_
  refine u_getK hC (pc := 59) zf2 9 (tKeep.F kw17 (tKeep.F kw14 (tKeep.F kw12 (tKeep.F kw10 fa9 rfl) rfl) rfl) rfl) dX2_addPart_59 zw262 (kk := ?_)
  refine z_iload hC (pc := 62) 0 dX2_addPart_62 rfl ?_
  refine z_iconst hC (pc := 64) (v := 4) dX2_addPart_64 (by decide) ?_
  refine z_iadd hC (pc := 65) (v := ((x8 * 6) + 4)) dX2_addPart_65 rfl ?_
  refine z_iload hC (pc := 66) 5 dX2_addPart_66 rfl ?_
  refine t_callSNv hC hw17 (pc := 68) (As := [.ref a9, .int ((x8 * 6) + 4), .int x4]) (kX12_set l G T κ hst hE ma9) trivial dmX12_set dX2_addPart_68 zw1289 rfl rfl (Nat.le_of_ble_eq_true rfl) (Nat.le_of_ble_eq_true rfl) (Nat.le_of_ble_eq_true rfl) (Nat.le_of_ble_eq_true rfl) (Nat.le_of_ble_eq_true rfl) (fun _ _ _ h => nomatch h) (fun cw19 nw19 w19 hw19 pw19 => ?_)
  obtain ⟨rfl, rfl, kw19⟩ := pw19
  refine z_aload_n hC (pc := 71) 1 dX2_addPart_71 rfl rfl ?_
  refine u_getK hC (pc := 72) zf2 9 (tKeep.F kw19 (tKeep.F kw17 (tKeep.F kw14 (tKeep.F kw12 (tKeep.F kw10 fa9 rfl) rfl) rfl) rfl) rfl) dX2_addPart_72 zw262 (kk := ?_)
  refine z_iload hC (pc := 75) 0 dX2_addPart_75 rfl ?_
  refine z_iconst hC (pc := 77) (v := 5) dX2_addPart_77 (by decide) ?_
  refine z_iadd hC (pc := 78) (v := ((x8 * 6) + 5)) dX2_addPart_78 rfl ?_
  refine z_iload hC (pc := 79) 6 dX2_addPart_79 rfl ?_
  refine t_callSNv hC hw19 (pc := 81) (As := [.ref a9, .int ((x8 * 6) + 5), .int x5]) (kX12_set l G T κ hst hE ma9) trivial dmX12_set dX2_addPart_81 zw1289 rfl rfl (Nat.le_of_ble_eq_true rfl) (Nat.le_of_ble_eq_true rfl) (Nat.le_of_ble_eq_true rfl) (Nat.le_of_ble_eq_true rfl) (Nat.le_of_ble_eq_true rfl) (fun _ _ _ h => nomatch h) (fun cw21 nw21 w21 hw21 pw21 => ?_)
  obtain ⟨rfl, rfl, kw21⟩ := pw21
  refine z_iload hC (pc := 84) 0 dX2_addPart_84 rfl ?_
  refine z_aload_n hC (pc := 86) 1 dX2_addPart_86 rfl rfl ?_
  refine u_getK hC (pc := 87) zf2 9 (tKeep.F kw21 (tKeep.F kw19 (tKeep.F kw17 (tKeep.F kw14 (tKeep.F kw12 (tKeep.F kw10 fa9 rfl) rfl) rfl) rfl) rfl) rfl) dX2_addPart_87 zw262 (kk := ?_)
  obtain ⟨N23, hN23, AN23⟩ := hE.ints ma9
  refine u_alenI hC hw21 (pc := 90) AN23 dX2_addPart_90 ?_
  have j104 : ∀ (w24 : va_W), tW T w24 → tKeep 0x40000000000000000000000000000000000 w21 w24 → zS X G 7 w24 [] 0 0 104 [] := by
    intro w24 hw24 kw24
    exact hR _ _ _ _ _ dX2_addPart_104 (Nat.le_of_ble_eq_true rfl) (Nat.le_of_ble_eq_true rfl) ⟨hw24, rfl, rfl, (tKeep.tr (tKeep.tr (tKeep.tr (tKeep.tr (tKeep.tr (tKeep.tr (tKeep.tr tKeep.rf kw10 rfl) kw12 rfl) kw14 rfl) kw17 rfl) kw19 rfl) kw21 rfl) kw24 rfl)⟩
  refine z_icmp_ge hC (pc := 91) 104 dX2_addPart_91 (by decide) (fun c25 => ?_) (fun c25 => ?_)
  · refine z_lvs [] rfl ?_
    exact j104 w21 hw21 tKeep.rf
  · refine z_aload_n hC (pc := 94) 1 dX2_addPart_94 rfl rfl ?_
    refine z_dup hC (pc := 95) dX2_addPart_95 rfl ?_
    refine u_getK hC (pc := 96) zf2 10 (tKeep.F kw21 (tKeep.F kw19 (tKeep.F kw17 (tKeep.F kw14 (tKeep.F kw12 (tKeep.F kw10 fx8 rfl) rfl) rfl) rfl) rfl) rfl) dX2_addPart_96 zw265 (kk := ?_)
    refine z_iconst hC (pc := 99) (v := 1) dX2_addPart_99 (by decide) ?_
    refine z_iadd hC (pc := 100) (v := (x8 + 1)) dX2_addPart_100 rfl ?_
    refine u_put hC hw21 (pc := 101) zf2 10 (hE.o2 h0) rfl ⟨_, rfl⟩ dX2_addPart_101 zw265 rfl rfl rfl (kk := fun w26 hw26 fw26 kw26 => ?_)
    refine z_lvs [] rfl ?_
    exact j104 w26 hw26 (tKeep.tr tKeep.rf kw26 rfl)
