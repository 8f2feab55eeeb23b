theorem zw254 : Cond.fieldLink "TemplateHouse$TextReader" 112 "TemplateHouse$Gen" "poolEnd" "I" ∈ zT := zsub2 14 (by decide +kernel) (by decide +kernel)
theorem zw1434 : Cond.methodLink "TemplateHouse$TextReader" 173 ⟨"TemplateHouse$Gen", "emit", "(IIII)V"⟩ ∈ zT := zsub6 234 (by decide +kernel) (by decide +kernel)
theorem zw1433 : Cond.methodLink "TemplateHouse$TextReader" 115 ⟨"TemplateHouse$Gen", "keep", "(II)V"⟩ ∈ zT := zsub6 233 (by decide +kernel) (by decide +kernel)
theorem zw1404 : Cond.methodLink "TemplateHouse$TextReader" 87 ⟨"TemplateHouse$TextReader", "flush", "()I"⟩ ∈ zT := zsub6 204 (by decide +kernel) (by decide +kernel)
theorem zw1429 : Cond.methodLink "TemplateHouse$TextReader" 159 ⟨"TemplateHouse$TextReader", "escape", "(I)V"⟩ ∈ zT := zsub6 229 (by decide +kernel) (by decide +kernel)
theorem zw1425 : Cond.methodLink "TemplateHouse$TextReader" 156 ⟨"TemplateHouse$TextReader", "joinLines", "()V"⟩ ∈ zT := zsub6 225 (by decide +kernel) (by decide +kernel)
theorem zw1416 : Cond.methodLink "TemplateHouse$TextReader" 149 ⟨"TemplateHouse$TextReader", "comment", "()V"⟩ ∈ zT := zsub6 216 (by decide +kernel) (by decide +kernel)
theorem zw1421 : Cond.methodLink "TemplateHouse$TextReader" 152 ⟨"TemplateHouse$TextReader", "restOfLine", "(ZI)V"⟩ ∈ zT := zsub6 221 (by decide +kernel) (by decide +kernel)
theorem zw1452 : Cond.methodLink "TemplateHouse$Source" 98 ⟨"TemplateHouse$Source", "blanks", "()V"⟩ ∈ zT := zsub7 12 (by decide +kernel) (by decide +kernel)
theorem zw1276 : Cond.methodLink "TemplateHouse$Source" 101 ⟨"TemplateHouse$Source", "here", "()I"⟩ ∈ zT := zsub6 76 (by decide +kernel) (by decide +kernel)
theorem zw1448 : Cond.methodLink "TemplateHouse$TextReader" 191 ⟨"TemplateHouse$Source", "need", "(I)V"⟩ ∈ zT := zsub7 8 (by decide +kernel) (by decide +kernel)
theorem zw1467 : Cond.methodLink "TemplateHouse$Source" 70 ⟨"TemplateHouse$Names", "lengthOf", "(I)I"⟩ ∈ zT := zsub7 27 (by decide +kernel) (by decide +kernel)
theorem zw175 : Cond.fieldLink "TemplateHouse$Source" 76 "TemplateHouse$Names" "bytes" "[B" ∈ zT := zsub1 175 (by decide +kernel) (by decide +kernel)
theorem zw179 : Cond.fieldLink "TemplateHouse$Source" 79 "TemplateHouse$Names" "from" "[I" ∈ zT := zsub1 179 (by decide +kernel) (by decide +kernel)
theorem zw1468 : Cond.methodLinkNest "TemplateHouse$Source" 82 ⟨"TemplateHouse", "get", "([II)I"⟩ "TemplateHouse" ∈ zNest := zsubN7 28 (by decide +kernel) (by decide +kernel)
theorem zw1469 : Cond.methodLinkNest "TemplateHouse$Source" 86 ⟨"TemplateHouse", "same", "([BI[BII)Z"⟩ "TemplateHouse" ∈ zNest := zsubN7 29 (by decide +kernel) (by decide +kernel)
theorem zw262 : Cond.fieldLink "TemplateHouse$Gen" 50 "TemplateHouse$Gen" "parts" "[I" ∈ zT := zsub2 22 (by decide +kernel) (by decide +kernel)
theorem zw129 : Cond.fieldLink "TemplateHouse$TextReader" 245 "TemplateHouse$Source" "file" "I" ∈ zT := zsub1 129 (by decide +kernel) (by decide +kernel)
theorem zw1474 : Cond.methodLink "TemplateHouse$TextReader" 248 ⟨"TemplateHouse$Gen", "addPart", "(IIIII)V"⟩ ∈ zT := zsub7 34 (by decide +kernel) (by decide +kernel)
theorem zw1394 : Cond.methodLink "TemplateHouse$TextReader" 182 ⟨"TemplateHouse$Gen", "emit", "(II)V"⟩ ∈ zT := zsub6 194 (by decide +kernel) (by decide +kernel)
theorem zw1478 : Cond.methodLink "TemplateHouse$TextReader" 197 ⟨"TemplateHouse$Gen", "emit", "(I)V"⟩ ∈ zT := zsub7 38 (by decide +kernel) (by decide +kernel)
theorem zw1479 : Cond.methodLink "TemplateHouse$TextReader" 184 ⟨"TemplateHouse$Gen", "patch", "(I)V"⟩ ∈ zT := zsub7 39 (by decide +kernel) (by decide +kernel)
theorem zw1559 : Cond.methodLinkNest "TemplateHouse$Gen" 102 ⟨"TemplateHouse", "get", "([II)I"⟩ "TemplateHouse" ∈ zNest := zsubN7 119 (by decide +kernel) (by decide +kernel)
theorem zw268 : Cond.fieldLink "TemplateHouse$Gen" 56 "TemplateHouse$Gen" "calls" "[I" ∈ zT := zsub2 28 (by decide +kernel) (by decide +kernel)
theorem zw1568 : Cond.methodLink "TemplateHouse$TextReader" 313 ⟨"TemplateHouse$Gen", "addCall", "(I)V"⟩ ∈ zT := zsub7 128 (by decide +kernel) (by decide +kernel)
theorem zw344 : Cond.fieldLink "TemplateHouse$TextReader" 43 "TemplateHouse$TextReader" "argCount" "I" ∈ zT := zsub2 104 (by decide +kernel) (by decide +kernel)
theorem zw345 : Cond.fieldLink "TemplateHouse$TextReader" 46 "TemplateHouse$TextReader" "argFlags" "I" ∈ zT := zsub2 105 (by decide +kernel) (by decide +kernel)
theorem zw346 : Cond.fieldLink "TemplateHouse$TextReader" 49 "TemplateHouse$TextReader" "argNamed" "I" ∈ zT := zsub2 106 (by decide +kernel) (by decide +kernel)
theorem zw347 : Cond.fieldLink "TemplateHouse$TextReader" 52 "TemplateHouse$TextReader" "endAlone" "Z" ∈ zT := zsub2 107 (by decide +kernel) (by decide +kernel)
theorem zw348 : Cond.fieldLink "TemplateHouse$TextReader" 55 "TemplateHouse$TextReader" "endPatch" "I" ∈ zT := zsub2 108 (by decide +kernel) (by decide +kernel)
theorem zw1437 : Cond.code ⟨"TemplateHouse$Gen", "emit", "(IIII)V"⟩ prog_4_method_6_code 5 (Option.none : Option Jvm.ClassFile.FieldType) ∈ zT := zsub6 237 rfl rfl
theorem zw1435 : Cond.instanceMethod ⟨"TemplateHouse$Gen", "emit", "(IIII)V"⟩ ∈ zT := zsub6 235 (by decide +kernel) (by decide +kernel)
theorem zw1436 : Cond.selects "TemplateHouse$Gen" ⟨"TemplateHouse$Gen", "emit", "(IIII)V"⟩ ⟨"TemplateHouse$Gen", "emit", "(IIII)V"⟩ ∈ zT := zsub6 236 (by decide +kernel) (by decide +kernel)
theorem zw1432 : Cond.code ⟨"TemplateHouse$TextReader", "escape", "(I)V"⟩ prog_12_method_13_code 5 (Option.none : Option Jvm.ClassFile.FieldType) ∈ zT := zsub6 232 rfl rfl
theorem zw1431 : Cond.instanceMethod ⟨"TemplateHouse$TextReader", "escape", "(I)V"⟩ ∈ zT := zsub6 231 (by decide +kernel) (by decide +kernel)
theorem zwp114 : Cond.selects "TemplateHouse$TextReader" ⟨"TemplateHouse$TextReader", "escape", "(I)V"⟩ ⟨"TemplateHouse$TextReader", "escape", "(I)V"⟩ ∈ zT := zin 114 (by decide +kernel) (by decide +kernel)
theorem zw1415 : Cond.code ⟨"TemplateHouse$TextReader", "plainTag", "(I)V"⟩ prog_12_method_10_code 4 (Option.none : Option Jvm.ClassFile.FieldType) ∈ zT := zsub6 215 rfl rfl
theorem zw1414 : Cond.instanceMethod ⟨"TemplateHouse$TextReader", "plainTag", "(I)V"⟩ ∈ zT := zsub6 214 (by decide +kernel) (by decide +kernel)
theorem zwp130 : Cond.selects "TemplateHouse$TextReader" ⟨"TemplateHouse$TextReader", "plainTag", "(I)V"⟩ ⟨"TemplateHouse$TextReader", "plainTag", "(I)V"⟩ ∈ zT := zin 130 (by decide +kernel) (by decide +kernel)
theorem zw1451 : Cond.code ⟨"TemplateHouse$Source", "need", "(I)V"⟩ prog_9_method_17_code 2 (Option.none : Option Jvm.ClassFile.FieldType) ∈ zT := zsub7 11 rfl rfl
theorem zw1449 : Cond.instanceMethod ⟨"TemplateHouse$Source", "need", "(I)V"⟩ ∈ zT := zsub7 9 (by decide +kernel) (by decide +kernel)
theorem zw1450 : Cond.selects "TemplateHouse$Source" ⟨"TemplateHouse$Source", "need", "(I)V"⟩ ⟨"TemplateHouse$Source", "need", "(I)V"⟩ ∈ zT := zsub7 10 (by decide +kernel) (by decide +kernel)
theorem zw1447 : Cond.code ⟨"TemplateHouse$TextReader", "regionEnd", "(II)I"⟩ prog_12_method_20_code 5 (Option.some Jvm.ClassFile.FieldType.int) ∈ zT := zsub7 7 rfl rfl
theorem zw1446 : Cond.instanceMethod ⟨"TemplateHouse$TextReader", "regionEnd", "(II)I"⟩ ∈ zT := zsub7 6 (by decide +kernel) (by decide +kernel)
theorem zwp133 : Cond.selects "TemplateHouse$TextReader" ⟨"TemplateHouse$TextReader", "regionEnd", "(II)I"⟩ ⟨"TemplateHouse$TextReader", "regionEnd", "(II)I"⟩ ∈ zT := zin 133 (by decide +kernel) (by decide +kernel)
theorem zw1466 : Cond.code ⟨"TemplateHouse$Source", "isName", "(ILTemplateHouse$Names;I)Z"⟩ prog_9_method_14_code 5 (Option.some Jvm.ClassFile.FieldType.boolean) ∈ zT := zsub7 26 rfl rfl
theorem zw1464 : Cond.instanceMethod ⟨"TemplateHouse$Source", "isName", "(ILTemplateHouse$Names;I)Z"⟩ ∈ zT := zsub7 24 (by decide +kernel) (by decide +kernel)
theorem zw1465 : Cond.selects "TemplateHouse$Source" ⟨"TemplateHouse$Source", "isName", "(ILTemplateHouse$Names;I)Z"⟩ ⟨"TemplateHouse$Source", "isName", "(ILTemplateHouse$Names;I)Z"⟩ ∈ zT := zsub7 25 (by decide +kernel) (by decide +kernel)
theorem zw1477 : Cond.code ⟨"TemplateHouse$Gen", "addPart", "(IIIII)V"⟩ prog_4_method_12_code 7 (Option.none : Option Jvm.ClassFile.FieldType) ∈ zT := zsub7 37 rfl rfl
theorem zw1475 : Cond.instanceMethod ⟨"TemplateHouse$Gen", "addPart", "(IIIII)V"⟩ ∈ zT := zsub7 35 (by decide +kernel) (by decide +kernel)
theorem zw1476 : Cond.selects "TemplateHouse$Gen" ⟨"TemplateHouse$Gen", "addPart", "(IIIII)V"⟩ ⟨"TemplateHouse$Gen", "addPart", "(IIIII)V"⟩ ∈ zT := zsub7 36 (by decide +kernel) (by decide +kernel)
theorem zw1482 : Cond.code ⟨"TemplateHouse$Gen", "patch", "(I)V"⟩ prog_4_method_7_code 2 (Option.none : Option Jvm.ClassFile.FieldType) ∈ zT := zsub7 42 rfl rfl
theorem zw1480 : Cond.instanceMethod ⟨"TemplateHouse$Gen", "patch", "(I)V"⟩ ∈ zT := zsub7 40 (by decide +kernel) (by decide +kernel)
theorem zw1481 : Cond.selects "TemplateHouse$Gen" ⟨"TemplateHouse$Gen", "patch", "(I)V"⟩ ⟨"TemplateHouse$Gen", "patch", "(I)V"⟩ ∈ zT := zsub7 41 (by decide +kernel) (by decide +kernel)
theorem zw1473 : Cond.code ⟨"TemplateHouse$TextReader", "partCall", "(IIII)V"⟩ prog_12_method_22_code 7 (Option.none : Option Jvm.ClassFile.FieldType) ∈ zT := zsub7 33 rfl rfl
theorem zw1472 : Cond.instanceMethod ⟨"TemplateHouse$TextReader", "partCall", "(IIII)V"⟩ ∈ zT := zsub7 32 (by decide +kernel) (by decide +kernel)
theorem zwp129 : Cond.selects "TemplateHouse$TextReader" ⟨"TemplateHouse$TextReader", "partCall", "(IIII)V"⟩ ⟨"TemplateHouse$TextReader", "partCall", "(IIII)V"⟩ ∈ zT := zin 129 (by decide +kernel) (by decide +kernel)
theorem zw1542 : Cond.code ⟨"TemplateHouse$TextReader", "dots", "()V"⟩ prog_12_method_38_code 1 (Option.none : Option Jvm.ClassFile.FieldType) ∈ zT := zsub7 102 rfl rfl
theorem zw1541 : Cond.instanceMethod ⟨"TemplateHouse$TextReader", "dots", "()V"⟩ ∈ zT := zsub7 101 (by decide +kernel) (by decide +kernel)
theorem zwp112 : Cond.selects "TemplateHouse$TextReader" ⟨"TemplateHouse$TextReader", "dots", "()V"⟩ ⟨"TemplateHouse$TextReader", "dots", "()V"⟩ ∈ zT := zin 112 (by decide +kernel) (by decide +kernel)
theorem zw1546 : Cond.code ⟨"TemplateHouse$TextReader", "isNamedAhead", "()Z"⟩ prog_12_method_39_code 2 (Option.some Jvm.ClassFile.FieldType.boolean) ∈ zT := zsub7 106 rfl rfl
theorem zw1545 : Cond.instanceMethod ⟨"TemplateHouse$TextReader", "isNamedAhead", "()Z"⟩ ∈ zT := zsub7 105 (by decide +kernel) (by decide +kernel)
theorem zwp118 : Cond.selects "TemplateHouse$TextReader" ⟨"TemplateHouse$TextReader", "isNamedAhead", "()Z"⟩ ⟨"TemplateHouse$TextReader", "isNamedAhead", "()Z"⟩ ∈ zT := zin 118 (by decide +kernel) (by decide +kernel)
theorem zw1558 : Cond.code ⟨"TemplateHouse$Gen", "addLate", "(II)V"⟩ prog_4_method_14_code 4 (Option.none : Option Jvm.ClassFile.FieldType) ∈ zT := zsub7 118 rfl rfl
theorem zw1556 : Cond.instanceMethod ⟨"TemplateHouse$Gen", "addLate", "(II)V"⟩ ∈ zT := zsub7 116 (by decide +kernel) (by decide +kernel)
theorem zw1557 : Cond.selects "TemplateHouse$Gen" ⟨"TemplateHouse$Gen", "addLate", "(II)V"⟩ ⟨"TemplateHouse$Gen", "addLate", "(II)V"⟩ ∈ zT := zsub7 117 (by decide +kernel) (by decide +kernel)
theorem zw1571 : Cond.code ⟨"TemplateHouse$Gen", "addCall", "(I)V"⟩ prog_4_method_13_code 2 (Option.none : Option Jvm.ClassFile.FieldType) ∈ zT := zsub7 131 rfl rfl
theorem zw1569 : Cond.instanceMethod ⟨"TemplateHouse$Gen", "addCall", "(I)V"⟩ ∈ zT := zsub7 129 (by decide +kernel) (by decide +kernel)
theorem zw1570 : Cond.selects "TemplateHouse$Gen" ⟨"TemplateHouse$Gen", "addCall", "(I)V"⟩ ⟨"TemplateHouse$Gen", "addCall", "(I)V"⟩ ∈ zT := zsub7 130 (by decide +kernel) (by decide +kernel)
theorem zw1567 : Cond.code ⟨"TemplateHouse$TextReader", "call", "(III)V"⟩ prog_12_method_36_code 4 (Option.none : Option Jvm.ClassFile.FieldType) ∈ zT := zsub7 127 rfl rfl
theorem zw1566 : Cond.instanceMethod ⟨"TemplateHouse$TextReader", "call", "(III)V"⟩ ∈ zT := zsub7 126 (by decide +kernel) (by decide +kernel)
theorem zwp108 : Cond.selects "TemplateHouse$TextReader" ⟨"TemplateHouse$TextReader", "call", "(III)V"⟩ ⟨"TemplateHouse$TextReader", "call", "(III)V"⟩ ∈ zT := zin 108 (by decide +kernel) (by decide +kernel)
theorem zw1585 : Cond.code ⟨"TemplateHouse$TextReader", "function", "(II)V"⟩ prog_12_method_34_code 3 (Option.none : Option Jvm.ClassFile.FieldType) ∈ zT := zsub7 145 rfl rfl
theorem zw1584 : Cond.instanceMethod ⟨"TemplateHouse$TextReader", "function", "(II)V"⟩ ∈ zT := zsub7 144 (by decide +kernel) (by decide +kernel)
theorem zwp117 : Cond.selects "TemplateHouse$TextReader" ⟨"TemplateHouse$TextReader", "function", "(II)V"⟩ ⟨"TemplateHouse$TextReader", "function", "(II)V"⟩ ∈ zT := zin 117 (by decide +kernel) (by decide +kernel)
theorem zw1593 : Cond.code ⟨"TemplateHouse$TextReader", "branchEnd", "(II)I"⟩ prog_12_method_18_code 3 (Option.some Jvm.ClassFile.FieldType.int) ∈ zT := zsub7 153 rfl rfl
theorem zw1592 : Cond.instanceMethod ⟨"TemplateHouse$TextReader", "branchEnd", "(II)I"⟩ ∈ zT := zsub7 152 (by decide +kernel) (by decide +kernel)
theorem zwp107 : Cond.selects "TemplateHouse$TextReader" ⟨"TemplateHouse$TextReader", "branchEnd", "(II)I"⟩ ⟨"TemplateHouse$TextReader", "branchEnd", "(II)I"⟩ ∈ zT := zin 107 (by decide +kernel) (by decide +kernel)
theorem zw1611 : Cond.code ⟨"TemplateHouse$TextReader", "option", "(II)V"⟩ prog_12_method_27_code 3 (Option.none : Option Jvm.ClassFile.FieldType) ∈ zT := zsub7 171 rfl rfl
theorem zw1610 : Cond.instanceMethod ⟨"TemplateHouse$TextReader", "option", "(II)V"⟩ ∈ zT := zsub7 170 (by decide +kernel) (by decide +kernel)
theorem zwp126 : Cond.selects "TemplateHouse$TextReader" ⟨"TemplateHouse$TextReader", "option", "(II)V"⟩ ⟨"TemplateHouse$TextReader", "option", "(II)V"⟩ ∈ zT := zin 126 (by decide +kernel) (by decide +kernel)
theorem zw1615 : Cond.code ⟨"TemplateHouse$TextReader", "literal", "(I)V"⟩ prog_12_method_7_code 5 (Option.none : Option Jvm.ClassFile.FieldType) ∈ zT := zsub7 175 rfl rfl
theorem zw1614 : Cond.instanceMethod ⟨"TemplateHouse$TextReader", "literal", "(I)V"⟩ ∈ zT := zsub7 174 (by decide +kernel) (by decide +kernel)
theorem zwp122 : Cond.selects "TemplateHouse$TextReader" ⟨"TemplateHouse$TextReader", "literal", "(I)V"⟩ ⟨"TemplateHouse$TextReader", "literal", "(I)V"⟩ ∈ zT := zin 122 (by decide +kernel) (by decide +kernel)
abbrev cX2_emit___ : ByteArray := prog_4_method_6_code
abbrev yX2_emit___ : MethodName := ⟨"TemplateHouse$Gen", "emit", "(IIII)V"⟩
theorem dmX2_emit___ : zDv yX2_emit___ cX2_emit___ 5 none 4 := ⟨⟨⟨by decide +kernel, by decide +kernel, by decide +kernel⟩, zw1437, zw4⟩, zw1435, zw1436⟩
abbrev cX10_escape : ByteArray := prog_12_method_13_code
abbrev yX10_escape : MethodName := ⟨"TemplateHouse$TextReader", "escape", "(I)V"⟩
theorem dmX10_escape : zDv yX10_escape cX10_escape 5 none 1 := ⟨⟨⟨by decide +kernel, by decide +kernel, by decide +kernel⟩, zw1432, zw8⟩, zw1431, zwp114⟩
abbrev cX10_plainTag : ByteArray := prog_12_method_10_code
abbrev yX10_plainTag : MethodName := ⟨"TemplateHouse$TextReader", "plainTag", "(I)V"⟩
theorem dmX10_plainTag : zDv yX10_plainTag cX10_plainTag 4 none 1 := ⟨⟨⟨by decide +kernel, by decide +kernel, by decide +kernel⟩, zw1415, zw8⟩, zw1414, zwp130⟩
abbrev cX7_need : ByteArray := prog_9_method_17_code
abbrev yX7_need : MethodName := ⟨"TemplateHouse$Source", "need", "(I)V"⟩
theorem dmX7_need : zDv yX7_need cX7_need 2 none 1 := ⟨⟨⟨by decide +kernel, by decide +kernel, by decide +kernel⟩, zw1451, zw3⟩, zw1449, zw1450⟩
abbrev cX10_regionEnd : ByteArray := prog_12_method_20_code
abbrev yX10_regionEnd : MethodName := ⟨"TemplateHouse$TextReader", "regionEnd", "(II)I"⟩
theorem dmX10_regionEnd : zDv yX10_regionEnd cX10_regionEnd 5 (some .int) 2 := ⟨⟨⟨by decide +kernel, by decide +kernel, by decide +kernel⟩, zw1447, zw8⟩, zw1446, zwp133⟩
abbrev cX7_isName : ByteArray := prog_9_method_14_code
abbrev yX7_isName : MethodName := ⟨"TemplateHouse$Source", "isName", "(ILTemplateHouse$Names;I)Z"⟩
theorem dmX7_isName : zDv yX7_isName cX7_isName 5 (some .boolean) 3 := ⟨⟨⟨by decide +kernel, by decide +kernel, by decide +kernel⟩, zw1466, zw3⟩, zw1464, zw1465⟩
abbrev cX2_addPart : ByteArray := prog_4_method_12_code
abbrev yX2_addPart : MethodName := ⟨"TemplateHouse$Gen", "addPart", "(IIIII)V"⟩
theorem dmX2_addPart : zDv yX2_addPart cX2_addPart 7 none 5 := ⟨⟨⟨by decide +kernel, by decide +kernel, by decide +kernel⟩, zw1477, zw4⟩, zw1475, zw1476⟩
abbrev cX2_patch : ByteArray := prog_4_method_7_code
abbrev yX2_patch : MethodName := ⟨"TemplateHouse$Gen", "patch", "(I)V"⟩
theorem dmX2_patch : zDv yX2_patch cX2_patch 2 none 1 := ⟨⟨⟨by decide +kernel, by decide +kernel, by decide +kernel⟩, zw1482, zw4⟩, zw1480, zw1481⟩
abbrev cX10_partCall : ByteArray := prog_12_method_22_code
abbrev yX10_partCall : MethodName := ⟨"TemplateHouse$TextReader", "partCall", "(IIII)V"⟩
theorem dmX10_partCall : zDv yX10_partCall cX10_partCall 7 none 4 := ⟨⟨⟨by decide +kernel, by decide +kernel, by decide +kernel⟩, zw1473, zw8⟩, zw1472, zwp129⟩
abbrev cX10_dots : ByteArray := prog_12_method_38_code
abbrev yX10_dots : MethodName := ⟨"TemplateHouse$TextReader", "dots", "()V"⟩
theorem dmX10_dots : zDv yX10_dots cX10_dots 1 none 0 := ⟨⟨⟨by decide +kernel, by decide +kernel, by decide +kernel⟩, zw1542, zw8⟩, zw1541, zwp112⟩
abbrev cX10_isNamedAhead : ByteArray := prog_12_method_39_code
abbrev yX10_isNamedAhead : MethodName := ⟨"TemplateHouse$TextReader", "isNamedAhead", "()Z"⟩
theorem dmX10_isNamedAhead : zDv yX10_isNamedAhead cX10_isNamedAhead 2 (some .boolean) 0 := ⟨⟨⟨by decide +kernel, by decide +kernel, by decide +kernel⟩, zw1546, zw8⟩, zw1545, zwp118⟩
abbrev cX2_addLate : ByteArray := prog_4_method_14_code
abbrev yX2_addLate : MethodName := ⟨"TemplateHouse$Gen", "addLate", "(II)V"⟩
theorem dmX2_addLate : zDv yX2_addLate cX2_addLate 4 none 2 := ⟨⟨⟨by decide +kernel, by decide +kernel, by decide +kernel⟩, zw1558, zw4⟩, zw1556, zw1557⟩
abbrev cX2_addCall : ByteArray := prog_4_method_13_code
abbrev yX2_addCall : MethodName := ⟨"TemplateHouse$Gen", "addCall", "(I)V"⟩
theorem dmX2_addCall : zDv yX2_addCall cX2_addCall 2 none 1 := ⟨⟨⟨by decide +kernel, by decide +kernel, by decide +kernel⟩, zw1571, zw4⟩, zw1569, zw1570⟩
abbrev cX10_call : ByteArray := prog_12_method_36_code
abbrev yX10_call : MethodName := ⟨"TemplateHouse$TextReader", "call", "(III)V"⟩
theorem dmX10_call : zDv yX10_call cX10_call 4 none 3 := ⟨⟨⟨by decide +kernel, by decide +kernel, by decide +kernel⟩, zw1567, zw8⟩, zw1566, zwp108⟩
abbrev cX10_function : ByteArray := prog_12_method_34_code
abbrev yX10_function : MethodName := ⟨"TemplateHouse$TextReader", "function", "(II)V"⟩
theorem dmX10_function : zDv yX10_function cX10_function 3 none 2 := ⟨⟨⟨by decide +kernel, by decide +kernel, by decide +kernel⟩, zw1585, zw8⟩, zw1584, zwp117⟩
abbrev cX10_branchEnd : ByteArray := prog_12_method_18_code
abbrev yX10_branchEnd : MethodName := ⟨"TemplateHouse$TextReader", "branchEnd", "(II)I"⟩
theorem dmX10_branchEnd : zDv yX10_branchEnd cX10_branchEnd 3 (some .int) 2 := ⟨⟨⟨by decide +kernel, by decide +kernel, by decide +kernel⟩, zw1593, zw8⟩, zw1592, zwp107⟩
abbrev cX10_option : ByteArray := prog_12_method_27_code
abbrev yX10_option : MethodName := ⟨"TemplateHouse$TextReader", "option", "(II)V"⟩
theorem dmX10_option : zDv yX10_option cX10_option 3 none 2 := ⟨⟨⟨by decide +kernel, by decide +kernel, by decide +kernel⟩, zw1611, zw8⟩, zw1610, zwp126⟩
abbrev cX10_literal : ByteArray := prog_12_method_7_code
abbrev yX10_literal : MethodName := ⟨"TemplateHouse$TextReader", "literal", "(I)V"⟩
theorem dmX10_literal : zDv yX10_literal cX10_literal 5 none 1 := ⟨⟨⟨by decide +kernel, by decide +kernel, by decide +kernel⟩, zw1615, zw8⟩, zw1614, zwp122⟩
theorem dX2_emit____0 : decode cX2_emit___ 0 = .ok (.aload_n 0, 1) := by decide +kernel
theorem dX2_emit____1 : decode cX2_emit___ 1 = .ok (.iload_n 1, 1) := by decide +kernel
theorem dX2_emit____2 : decode cX2_emit___ 2 = .ok (.invokevirtual 88, 3) := by decide +kernel
theorem dX2_emit____5 : decode cX2_emit___ 5 = .ok (.aload_n 0, 1) := by decide +kernel
theorem dX2_emit____6 : decode cX2_emit___ 6 = .ok (.iload_n 2, 1) := by decide +kernel
theorem dX2_emit____7 : decode cX2_emit___ 7 = .ok (.invokevirtual 88, 3) := by decide +kernel
theorem dX2_emit____10 : decode cX2_emit___ 10 = .ok (.aload_n 0, 1) := by decide +kernel
theorem dX2_emit____11 : decode cX2_emit___ 11 = .ok (.iload_n 3, 1) := by decide +kernel
theorem dX2_emit____12 : decode cX2_emit___ 12 = .ok (.invokevirtual 88, 3) := by decide +kernel
theorem dX2_emit____15 : decode cX2_emit___ 15 = .ok (.aload_n 0, 1) := by decide +kernel
theorem dX2_emit____16 : decode cX2_emit___ 16 = .ok (.iload 4, 2) := by decide +kernel
theorem dX2_emit____18 : decode cX2_emit___ 18 = .ok (.invokevirtual 88, 3) := by decide +kernel
theorem dX2_emit____21 : decode cX2_emit___ 21 = .ok (.return_, 1) := by decide +kernel
theorem dX10_escape_0 : decode cX10_escape 0 = .ok (.aload_n 0, 1) := by decide +kernel
theorem dX10_escape_1 : decode cX10_escape 1 = .ok (.getfield 62, 3) := by decide +kernel
theorem dX10_escape_4 : decode cX10_escape 4 = .ok (.getfield 112, 3) := by decide +kernel
theorem dX10_escape_7 : decode cX10_escape 7 = .ok (.istore_n 2, 1) := by decide +kernel
theorem dX10_escape_8 : decode cX10_escape 8 = .ok (.iconst 0, 1) := by decide +kernel
theorem dX10_escape_9 : decode cX10_escape 9 = .ok (.istore_n 3, 1) := by decide +kernel
theorem dX10_escape_10 : decode cX10_escape 10 = .ok (.iload_n 3, 1) := by decide +kernel
theorem dX10_escape_11 : decode cX10_escape 11 = .ok (.sipush 4000, 3) := by decide +kernel
theorem dX10_escape_14 : decode cX10_escape 14 = .ok (.if_icmp .ge 126, 3) := by decide +kernel
theorem dX10_escape_140 : decode cX10_escape 140 = .ok (.aload_n 0, 1) := by decide +kernel
theorem dX10_escape_141 : decode cX10_escape 141 = .ok (.getfield 58, 3) := by decide +kernel
theorem dX10_escape_144 : decode cX10_escape 144 = .ok (.invokevirtual 83, 3) := by decide +kernel
theorem dX10_escape_147 : decode cX10_escape 147 = .ok (.aload_n 0, 1) := by decide +kernel
theorem dX10_escape_148 : decode cX10_escape 148 = .ok (.getfield 15, 3) := by decide +kernel
theorem dX10_escape_151 : decode cX10_escape 151 = .ok (.if_icmp .eq 18, 3) := by decide +kernel
theorem dX10_escape_169 : decode cX10_escape 169 = .ok (.aload_n 0, 1) := by decide +kernel
theorem dX10_escape_170 : decode cX10_escape 170 = .ok (.getfield 58, 3) := by decide +kernel
theorem dX10_escape_173 : decode cX10_escape 173 = .ok (.dup, 1) := by decide +kernel
theorem dX10_escape_174 : decode cX10_escape 174 = .ok (.getfield 75, 3) := by decide +kernel
theorem dX10_escape_177 : decode cX10_escape 177 = .ok (.iconst 1, 1) := by decide +kernel
theorem dX10_escape_178 : decode cX10_escape 178 = .ok (.iadd, 1) := by decide +kernel
theorem dX10_escape_179 : decode cX10_escape 179 = .ok (.putfield 75, 3) := by decide +kernel
theorem dX10_escape_182 : decode cX10_escape 182 = .ok (.aload_n 0, 1) := by decide +kernel
theorem dX10_escape_183 : decode cX10_escape 183 = .ok (.getfield 62, 3) := by decide +kernel
theorem dX10_escape_186 : decode cX10_escape 186 = .ok (.iconst 3, 1) := by decide +kernel
theorem dX10_escape_187 : decode cX10_escape 187 = .ok (.iload_n 1, 1) := by decide +kernel
theorem dX10_escape_188 : decode cX10_escape 188 = .ok (.iload_n 2, 1) := by decide +kernel
theorem dX10_escape_189 : decode cX10_escape 189 = .ok (.aload_n 0, 1) := by decide +kernel
theorem dX10_escape_190 : decode cX10_escape 190 = .ok (.getfield 62, 3) := by decide +kernel
theorem dX10_escape_193 : decode cX10_escape 193 = .ok (.getfield 112, 3) := by decide +kernel
theorem dX10_escape_196 : decode cX10_escape 196 = .ok (.iload_n 2, 1) := by decide +kernel
theorem dX10_escape_197 : decode cX10_escape 197 = .ok (.isub, 1) := by decide +kernel
theorem dX10_escape_198 : decode cX10_escape 198 = .ok (.invokevirtual 173, 3) := by decide +kernel
theorem dX10_escape_201 : decode cX10_escape 201 = .ok (.return_, 1) := by decide +kernel
theorem dX10_escape_154 : decode cX10_escape 154 = .ok (.aload_n 0, 1) := by decide +kernel
theorem dX10_escape_155 : decode cX10_escape 155 = .ok (.getfield 58, 3) := by decide +kernel
theorem dX10_escape_158 : decode cX10_escape 158 = .ok (.iconst 1, 1) := by decide +kernel
theorem dX10_escape_159 : decode cX10_escape 159 = .ok (.aload_n 0, 1) := by decide +kernel
theorem dX10_escape_160 : decode cX10_escape 160 = .ok (.getfield 58, 3) := by decide +kernel
theorem dX10_escape_163 : decode cX10_escape 163 = .ok (.invokevirtual 90, 3) := by decide +kernel
theorem dX10_escape_166 : decode cX10_escape 166 = .ok (.invokevirtual 104, 3) := by decide +kernel
theorem dX10_escape_17 : decode cX10_escape 17 = .ok (.aload_n 0, 1) := by decide +kernel
theorem dX10_escape_18 : decode cX10_escape 18 = .ok (.getfield 58, 3) := by decide +kernel
theorem dX10_escape_21 : decode cX10_escape 21 = .ok (.invokevirtual 83, 3) := by decide +kernel
theorem dX10_escape_24 : decode cX10_escape 24 = .ok (.bipush 92, 2) := by decide +kernel
theorem dX10_escape_26 : decode cX10_escape 26 = .ok (.if_icmp .ne 114, 3) := by decide +kernel
theorem dX10_escape_29 : decode cX10_escape 29 = .ok (.aload_n 0, 1) := by decide +kernel
theorem dX10_escape_30 : decode cX10_escape 30 = .ok (.getfield 58, 3) := by decide +kernel
theorem dX10_escape_33 : decode cX10_escape 33 = .ok (.dup, 1) := by decide +kernel
theorem dX10_escape_34 : decode cX10_escape 34 = .ok (.getfield 75, 3) := by decide +kernel
theorem dX10_escape_37 : decode cX10_escape 37 = .ok (.iconst 1, 1) := by decide +kernel
theorem dX10_escape_38 : decode cX10_escape 38 = .ok (.iadd, 1) := by decide +kernel
theorem dX10_escape_39 : decode cX10_escape 39 = .ok (.putfield 75, 3) := by decide +kernel
theorem dX10_escape_42 : decode cX10_escape 42 = .ok (.aload_n 0, 1) := by decide +kernel
theorem dX10_escape_43 : decode cX10_escape 43 = .ok (.getfield 58, 3) := by decide +kernel
theorem dX10_escape_46 : decode cX10_escape 46 = .ok (.invokevirtual 83, 3) := by decide +kernel
theorem dX10_escape_49 : decode cX10_escape 49 = .ok (.istore 4, 2) := by decide +kernel
theorem dX10_escape_51 : decode cX10_escape 51 = .ok (.iload 4, 2) := by decide +kernel
theorem dX10_escape_53 : decode cX10_escape 53 = .ok (.bipush 110, 2) := by decide +kernel
theorem dX10_escape_55 : decode cX10_escape 55 = .ok (.if_icmp .eq 32, 3) := by decide +kernel
theorem dX10_escape_87 : decode cX10_escape 87 = .ok (.aload_n 0, 1) := by decide +kernel
theorem dX10_escape_88 : decode cX10_escape 88 = .ok (.getfield 62, 3) := by decide +kernel
theorem dX10_escape_91 : decode cX10_escape 91 = .ok (.iload 4, 2) := by decide +kernel
theorem dX10_escape_93 : decode cX10_escape 93 = .ok (.bipush 110, 2) := by decide +kernel
theorem dX10_escape_95 : decode cX10_escape 95 = .ok (.if_icmp .ne 8, 3) := by decide +kernel
theorem dX10_escape_117 : decode cX10_escape 117 = .ok (.iload_n 1, 1) := by decide +kernel
theorem dX10_escape_118 : decode cX10_escape 118 = .ok (.invokevirtual 115, 3) := by decide +kernel
theorem dX10_escape_121 : decode cX10_escape 121 = .ok (.aload_n 0, 1) := by decide +kernel
theorem dX10_escape_122 : decode cX10_escape 122 = .ok (.getfield 58, 3) := by decide +kernel
theorem dX10_escape_125 : decode cX10_escape 125 = .ok (.dup, 1) := by decide +kernel
theorem dX10_escape_126 : decode cX10_escape 126 = .ok (.getfield 75, 3) := by decide +kernel
theorem dX10_escape_129 : decode cX10_escape 129 = .ok (.iconst 1, 1) := by decide +kernel
theorem dX10_escape_130 : decode cX10_escape 130 = .ok (.iadd, 1) := by decide +kernel
theorem dX10_escape_131 : decode cX10_escape 131 = .ok (.putfield 75, 3) := by decide +kernel
theorem dX10_escape_134 : decode cX10_escape 134 = .ok (.iinc 3 1, 3) := by decide +kernel
theorem dX10_escape_137 : decode cX10_escape 137 = .ok (.goto (-127), 3) := by decide +kernel
theorem dX10_escape_103 : decode cX10_escape 103 = .ok (.iload 4, 2) := by decide +kernel
theorem dX10_escape_105 : decode cX10_escape 105 = .ok (.bipush 116, 2) := by decide +kernel
theorem dX10_escape_107 : decode cX10_escape 107 = .ok (.if_icmp .ne 8, 3) := by decide +kernel
theorem dX10_escape_115 : decode cX10_escape 115 = .ok (.bipush 32, 2) := by decide +kernel
theorem dX10_escape_110 : decode cX10_escape 110 = .ok (.bipush 9, 2) := by decide +kernel
theorem dX10_escape_112 : decode cX10_escape 112 = .ok (.goto 5, 3) := by decide +kernel
theorem dX10_escape_98 : decode cX10_escape 98 = .ok (.bipush 10, 2) := by decide +kernel
theorem dX10_escape_100 : decode cX10_escape 100 = .ok (.goto 17, 3) := by decide +kernel
theorem dX10_escape_58 : decode cX10_escape 58 = .ok (.iload 4, 2) := by decide +kernel
theorem dX10_escape_60 : decode cX10_escape 60 = .ok (.bipush 116, 2) := by decide +kernel
theorem dX10_escape_62 : decode cX10_escape 62 = .ok (.if_icmp .eq 25, 3) := by decide +kernel
theorem dX10_escape_65 : decode cX10_escape 65 = .ok (.iload 4, 2) := by decide +kernel
theorem dX10_escape_67 : decode cX10_escape 67 = .ok (.bipush 32, 2) := by decide +kernel
theorem dX10_escape_69 : decode cX10_escape 69 = .ok (.if_icmp .eq 18, 3) := by decide +kernel
theorem dX10_escape_72 : decode cX10_escape 72 = .ok (.aload_n 0, 1) := by decide +kernel
theorem dX10_escape_73 : decode cX10_escape 73 = .ok (.getfield 58, 3) := by decide +kernel
theorem dX10_escape_76 : decode cX10_escape 76 = .ok (.iconst 1, 1) := by decide +kernel
theorem dX10_escape_77 : decode cX10_escape 77 = .ok (.aload_n 0, 1) := by decide +kernel
theorem dX10_escape_78 : decode cX10_escape 78 = .ok (.getfield 58, 3) := by decide +kernel
theorem dX10_escape_81 : decode cX10_escape 81 = .ok (.invokevirtual 90, 3) := by decide +kernel
theorem dX10_escape_84 : decode cX10_escape 84 = .ok (.invokevirtual 104, 3) := by decide +kernel
theorem dX10_plainTag_0 : decode cX10_plainTag 0 = .ok (.aload_n 0, 1) := by decide +kernel
theorem dX10_plainTag_1 : decode cX10_plainTag 1 = .ok (.getfield 40, 3) := by decide +kernel
theorem dX10_plainTag_4 : decode cX10_plainTag 4 = .ok (.istore_n 2, 1) := by decide +kernel
theorem dX10_plainTag_5 : decode cX10_plainTag 5 = .ok (.aload_n 0, 1) := by decide +kernel
theorem dX10_plainTag_6 : decode cX10_plainTag 6 = .ok (.invokevirtual 87, 3) := by decide +kernel
theorem dX10_plainTag_9 : decode cX10_plainTag 9 = .ok (.istore_n 3, 1) := by decide +kernel
theorem dX10_plainTag_10 : decode cX10_plainTag 10 = .ok (.aload_n 0, 1) := by decide +kernel
theorem dX10_plainTag_11 : decode cX10_plainTag 11 = .ok (.getfield 58, 3) := by decide +kernel
theorem dX10_plainTag_14 : decode cX10_plainTag 14 = .ok (.invokevirtual 83, 3) := by decide +kernel
theorem dX10_plainTag_17 : decode cX10_plainTag 17 = .ok (.bipush 33, 2) := by decide +kernel
theorem dX10_plainTag_19 : decode cX10_plainTag 19 = .ok (.if_icmp .ne 14, 3) := by decide +kernel
theorem dX10_plainTag_33 : decode cX10_plainTag 33 = .ok (.aload_n 0, 1) := by decide +kernel
theorem dX10_plainTag_34 : decode cX10_plainTag 34 = .ok (.iconst 0, 1) := by decide +kernel
theorem dX10_plainTag_35 : decode cX10_plainTag 35 = .ok (.putfield 40, 3) := by decide +kernel
theorem dX10_plainTag_38 : decode cX10_plainTag 38 = .ok (.aload_n 0, 1) := by decide +kernel
theorem dX10_plainTag_39 : decode cX10_plainTag 39 = .ok (.getfield 58, 3) := by decide +kernel
theorem dX10_plainTag_42 : decode cX10_plainTag 42 = .ok (.aload_n 0, 1) := by decide +kernel
theorem dX10_plainTag_43 : decode cX10_plainTag 43 = .ok (.getfield 58, 3) := by decide +kernel
theorem dX10_plainTag_46 : decode cX10_plainTag 46 = .ok (.getfield 75, 3) := by decide +kernel
theorem dX10_plainTag_49 : decode cX10_plainTag 49 = .ok (.iconst 1, 1) := by decide +kernel
theorem dX10_plainTag_50 : decode cX10_plainTag 50 = .ok (.iadd, 1) := by decide +kernel
theorem dX10_plainTag_51 : decode cX10_plainTag 51 = .ok (.invokevirtual 108, 3) := by decide +kernel
theorem dX10_plainTag_54 : decode cX10_plainTag 54 = .ok (.bipush 92, 2) := by decide +kernel
theorem dX10_plainTag_56 : decode cX10_plainTag 56 = .ok (.if_icmp .ne 10, 3) := by decide +kernel
theorem dX10_plainTag_71 : decode cX10_plainTag 71 = .ok (.return_, 1) := by decide +kernel
theorem dX10_plainTag_66 : decode cX10_plainTag 66 = .ok (.aload_n 0, 1) := by decide +kernel
theorem dX10_plainTag_67 : decode cX10_plainTag 67 = .ok (.iload_n 1, 1) := by decide +kernel
theorem dX10_plainTag_68 : decode cX10_plainTag 68 = .ok (.invokevirtual 159, 3) := by decide +kernel
theorem dX10_plainTag_59 : decode cX10_plainTag 59 = .ok (.aload_n 0, 1) := by decide +kernel
theorem dX10_plainTag_60 : decode cX10_plainTag 60 = .ok (.invokevirtual 156, 3) := by decide +kernel
theorem dX10_plainTag_63 : decode cX10_plainTag 63 = .ok (.goto 8, 3) := by decide +kernel
theorem dX10_plainTag_22 : decode cX10_plainTag 22 = .ok (.aload_n 0, 1) := by decide +kernel
theorem dX10_plainTag_23 : decode cX10_plainTag 23 = .ok (.invokevirtual 149, 3) := by decide +kernel
theorem dX10_plainTag_26 : decode cX10_plainTag 26 = .ok (.aload_n 0, 1) := by decide +kernel
theorem dX10_plainTag_27 : decode cX10_plainTag 27 = .ok (.iload_n 2, 1) := by decide +kernel
theorem dX10_plainTag_28 : decode cX10_plainTag 28 = .ok (.iload_n 3, 1) := by decide +kernel
theorem dX10_plainTag_29 : decode cX10_plainTag 29 = .ok (.invokevirtual 152, 3) := by decide +kernel
theorem dX10_plainTag_32 : decode cX10_plainTag 32 = .ok (.return_, 1) := by decide +kernel
theorem dX7_need_0 : decode cX7_need 0 = .ok (.aload_n 0, 1) := by decide +kernel
theorem dX7_need_1 : decode cX7_need 1 = .ok (.invokevirtual 98, 3) := by decide +kernel
theorem dX7_need_4 : decode cX7_need 4 = .ok (.aload_n 0, 1) := by decide +kernel
theorem dX7_need_5 : decode cX7_need 5 = .ok (.getfield 30, 3) := by decide +kernel
theorem dX7_need_8 : decode cX7_need 8 = .ok (.ifCond .lt 39, 3) := by decide +kernel
theorem dX7_need_56 : decode cX7_need 56 = .ok (.aload_n 0, 1) := by decide +kernel
theorem dX7_need_57 : decode cX7_need 57 = .ok (.dup, 1) := by decide +kernel
theorem dX7_need_58 : decode cX7_need 58 = .ok (.getfield 30, 3) := by decide +kernel
theorem dX7_need_61 : decode cX7_need 61 = .ok (.iconst 1, 1) := by decide +kernel
theorem dX7_need_62 : decode cX7_need 62 = .ok (.iadd, 1) := by decide +kernel
theorem dX7_need_63 : decode cX7_need 63 = .ok (.putfield 30, 3) := by decide +kernel
theorem dX7_need_66 : decode cX7_need 66 = .ok (.return_, 1) := by decide +kernel
theorem dX7_need_47 : decode cX7_need 47 = .ok (.aload_n 0, 1) := by decide +kernel
theorem dX7_need_48 : decode cX7_need 48 = .ok (.iconst 1, 1) := by decide +kernel
theorem dX7_need_49 : decode cX7_need 49 = .ok (.aload_n 0, 1) := by decide +kernel
theorem dX7_need_50 : decode cX7_need 50 = .ok (.invokevirtual 101, 3) := by decide +kernel
theorem dX7_need_53 : decode cX7_need 53 = .ok (.invokevirtual 105, 3) := by decide +kernel
theorem dX7_need_11 : decode cX7_need 11 = .ok (.aload_n 0, 1) := by decide +kernel
theorem dX7_need_12 : decode cX7_need 12 = .ok (.getfield 30, 3) := by decide +kernel
theorem dX7_need_15 : decode cX7_need 15 = .ok (.aload_n 0, 1) := by decide +kernel
theorem dX7_need_16 : decode cX7_need 16 = .ok (.getfield 26, 3) := by decide +kernel
theorem dX7_need_19 : decode cX7_need 19 = .ok (.if_icmp .ge 28, 3) := by decide +kernel
theorem dX7_need_22 : decode cX7_need 22 = .ok (.aload_n 0, 1) := by decide +kernel
theorem dX7_need_23 : decode cX7_need 23 = .ok (.getfield 30, 3) := by decide +kernel
theorem dX7_need_26 : decode cX7_need 26 = .ok (.aload_n 0, 1) := by decide +kernel
theorem dX7_need_27 : decode cX7_need 27 = .ok (.getfield 9, 3) := by decide +kernel
theorem dX7_need_30 : decode cX7_need 30 = .ok (.arraylength, 1) := by decide +kernel
theorem dX7_need_31 : decode cX7_need 31 = .ok (.if_icmp .ge 16, 3) := by decide +kernel
theorem dX7_need_34 : decode cX7_need 34 = .ok (.aload_n 0, 1) := by decide +kernel
theorem dX7_need_35 : decode cX7_need 35 = .ok (.getfield 9, 3) := by decide +kernel
theorem dX7_need_38 : decode cX7_need 38 = .ok (.aload_n 0, 1) := by decide +kernel
theorem dX7_need_39 : decode cX7_need 39 = .ok (.getfield 30, 3) := by decide +kernel
theorem dX7_need_42 : decode cX7_need 42 = .ok (.baload, 1) := by decide +kernel
theorem dX7_need_43 : decode cX7_need 43 = .ok (.iload_n 1, 1) := by decide +kernel
theorem dX7_need_44 : decode cX7_need 44 = .ok (.if_icmp .eq 12, 3) := by decide +kernel
theorem dX10_regionEnd_0 : decode cX10_regionEnd 0 = .ok (.iload_n 2, 1) := by decide +kernel
theorem dX10_regionEnd_1 : decode cX10_regionEnd 1 = .ok (.iconst 3, 1) := by decide +kernel
theorem dX10_regionEnd_2 : decode cX10_regionEnd 2 = .ok (.if_icmp .eq 18, 3) := by decide +kernel
theorem dX10_regionEnd_20 : decode cX10_regionEnd 20 = .ok (.aload_n 0, 1) := by decide +kernel
theorem dX10_regionEnd_21 : decode cX10_regionEnd 21 = .ok (.getfield 40, 3) := by decide +kernel
theorem dX10_regionEnd_24 : decode cX10_regionEnd 24 = .ok (.istore_n 3, 1) := by decide +kernel
theorem dX10_regionEnd_25 : decode cX10_regionEnd 25 = .ok (.aload_n 0, 1) := by decide +kernel
theorem dX10_regionEnd_26 : decode cX10_regionEnd 26 = .ok (.invokevirtual 87, 3) := by decide +kernel
theorem dX10_regionEnd_29 : decode cX10_regionEnd 29 = .ok (.istore 4, 2) := by decide +kernel
theorem dX10_regionEnd_31 : decode cX10_regionEnd 31 = .ok (.aload_n 0, 1) := by decide +kernel
theorem dX10_regionEnd_32 : decode cX10_regionEnd 32 = .ok (.getfield 58, 3) := by decide +kernel
theorem dX10_regionEnd_35 : decode cX10_regionEnd 35 = .ok (.iload_n 1, 1) := by decide +kernel
theorem dX10_regionEnd_36 : decode cX10_regionEnd 36 = .ok (.putfield 75, 3) := by decide +kernel
theorem dX10_regionEnd_39 : decode cX10_regionEnd 39 = .ok (.aload_n 0, 1) := by decide +kernel
theorem dX10_regionEnd_40 : decode cX10_regionEnd 40 = .ok (.getfield 58, 3) := by decide +kernel
theorem dX10_regionEnd_43 : decode cX10_regionEnd 43 = .ok (.aload_n 0, 1) := by decide +kernel
theorem dX10_regionEnd_44 : decode cX10_regionEnd 44 = .ok (.getfield 15, 3) := by decide +kernel
theorem dX10_regionEnd_47 : decode cX10_regionEnd 47 = .ok (.invokevirtual 191, 3) := by decide +kernel
theorem dX10_regionEnd_50 : decode cX10_regionEnd 50 = .ok (.aload_n 0, 1) := by decide +kernel
theorem dX10_regionEnd_51 : decode cX10_regionEnd 51 = .ok (.iload_n 3, 1) := by decide +kernel
theorem dX10_regionEnd_52 : decode cX10_regionEnd 52 = .ok (.iload 4, 2) := by decide +kernel
theorem dX10_regionEnd_54 : decode cX10_regionEnd 54 = .ok (.invokevirtual 152, 3) := by decide +kernel
theorem dX10_regionEnd_57 : decode cX10_regionEnd 57 = .ok (.bipush 20, 2) := by decide +kernel
theorem dX10_regionEnd_59 : decode cX10_regionEnd 59 = .ok (.ireturn, 1) := by decide +kernel
theorem dX10_regionEnd_5 : decode cX10_regionEnd 5 = .ok (.aload_n 0, 1) := by decide +kernel
theorem dX10_regionEnd_6 : decode cX10_regionEnd 6 = .ok (.getfield 58, 3) := by decide +kernel
theorem dX10_regionEnd_9 : decode cX10_regionEnd 9 = .ok (.iconst 1, 1) := by decide +kernel
theorem dX10_regionEnd_10 : decode cX10_regionEnd 10 = .ok (.aload_n 0, 1) := by decide +kernel
theorem dX10_regionEnd_11 : decode cX10_regionEnd 11 = .ok (.getfield 58, 3) := by decide +kernel
theorem dX10_regionEnd_14 : decode cX10_regionEnd 14 = .ok (.invokevirtual 90, 3) := by decide +kernel
theorem dX10_regionEnd_17 : decode cX10_regionEnd 17 = .ok (.invokevirtual 104, 3) := by decide +kernel
theorem dX7_isName_0 : decode cX7_isName 0 = .ok (.aload_n 2, 1) := by decide +kernel
theorem dX7_isName_1 : decode cX7_isName 1 = .ok (.iload_n 3, 1) := by decide +kernel
theorem dX7_isName_2 : decode cX7_isName 2 = .ok (.invokevirtual 70, 3) := by decide +kernel
theorem dX7_isName_5 : decode cX7_isName 5 = .ok (.istore 4, 2) := by decide +kernel
theorem dX7_isName_7 : decode cX7_isName 7 = .ok (.iload_n 1, 1) := by decide +kernel
theorem dX7_isName_8 : decode cX7_isName 8 = .ok (.aload_n 0, 1) := by decide +kernel
theorem dX7_isName_9 : decode cX7_isName 9 = .ok (.getfield 30, 3) := by decide +kernel
theorem dX7_isName_12 : decode cX7_isName 12 = .ok (.isub, 1) := by decide +kernel
theorem dX7_isName_13 : decode cX7_isName 13 = .ok (.iload 4, 2) := by decide +kernel
theorem dX7_isName_15 : decode cX7_isName 15 = .ok (.if_icmp .ne 35, 3) := by decide +kernel
theorem dX7_isName_51 : decode cX7_isName 51 = .ok (.ireturn, 1) := by decide +kernel
theorem dX7_isName_50 : decode cX7_isName 50 = .ok (.iconst 0, 1) := by decide +kernel
theorem dX7_isName_18 : decode cX7_isName 18 = .ok (.aload_n 0, 1) := by decide +kernel
theorem dX7_isName_19 : decode cX7_isName 19 = .ok (.getfield 9, 3) := by decide +kernel
theorem dX7_isName_22 : decode cX7_isName 22 = .ok (.aload_n 0, 1) := by decide +kernel
theorem dX7_isName_23 : decode cX7_isName 23 = .ok (.getfield 30, 3) := by decide +kernel
theorem dX7_isName_26 : decode cX7_isName 26 = .ok (.aload_n 2, 1) := by decide +kernel
theorem dX7_isName_27 : decode cX7_isName 27 = .ok (.getfield 76, 3) := by decide +kernel
theorem dX7_isName_30 : decode cX7_isName 30 = .ok (.aload_n 2, 1) := by decide +kernel
theorem dX7_isName_31 : decode cX7_isName 31 = .ok (.getfield 79, 3) := by decide +kernel
theorem dX7_isName_34 : decode cX7_isName 34 = .ok (.iload_n 3, 1) := by decide +kernel
theorem dX7_isName_35 : decode cX7_isName 35 = .ok (.invokestatic 82, 3) := by decide +kernel
theorem dX7_isName_38 : decode cX7_isName 38 = .ok (.iload 4, 2) := by decide +kernel
theorem dX7_isName_40 : decode cX7_isName 40 = .ok (.invokestatic 86, 3) := by decide +kernel
theorem dX7_isName_43 : decode cX7_isName 43 = .ok (.ifCond .eq 7, 3) := by decide +kernel
theorem dX7_isName_46 : decode cX7_isName 46 = .ok (.iconst 1, 1) := by decide +kernel
theorem dX7_isName_47 : decode cX7_isName 47 = .ok (.goto 4, 3) := by decide +kernel
theorem dX2_addPart_0 : decode cX2_addPart 0 = .ok (.aload_n 0, 1) := by decide +kernel
theorem dX2_addPart_1 : decode cX2_addPart 1 = .ok (.getfield 53, 3) := by decide +kernel
theorem dX2_addPart_4 : decode cX2_addPart 4 = .ok (.bipush 6, 2) := by decide +kernel
theorem dX2_addPart_6 : decode cX2_addPart 6 = .ok (.imul, 1) := by decide +kernel
theorem dX2_addPart_7 : decode cX2_addPart 7 = .ok (.istore 6, 2) := by decide +kernel
theorem dX2_addPart_9 : decode cX2_addPart 9 = .ok (.aload_n 0, 1) := by decide +kernel
theorem dX2_addPart_10 : decode cX2_addPart 10 = .ok (.getfield 50, 3) := by decide +kernel
theorem dX2_addPart_13 : decode cX2_addPart 13 = .ok (.iload 6, 2) := by decide +kernel
theorem dX2_addPart_15 : decode cX2_addPart 15 = .ok (.iload_n 1, 1) := by decide +kernel
theorem dX2_addPart_16 : decode cX2_addPart 16 = .ok (.invokestatic 98, 3) := by decide +kernel
theorem dX2_addPart_19 : decode cX2_addPart 19 = .ok (.aload_n 0, 1) := by decide +kernel
theorem dX2_addPart_20 : decode cX2_addPart 20 = .ok (.getfield 50, 3) := by decide +kernel
theorem dX2_addPart_23 : decode cX2_addPart 23 = .ok (.iload 6, 2) := by decide +kernel
theorem dX2_addPart_25 : decode cX2_addPart 25 = .ok (.iconst 1, 1) := by decide +kernel
theorem dX2_addPart_26 : decode cX2_addPart 26 = .ok (.iadd, 1) := by decide +kernel
theorem dX2_addPart_27 : decode cX2_addPart 27 = .ok (.iload_n 2, 1) := by decide +kernel
theorem dX2_addPart_28 : decode cX2_addPart 28 = .ok (.invokestatic 98, 3) := by decide +kernel
theorem dX2_addPart_31 : decode cX2_addPart 31 = .ok (.aload_n 0, 1) := by decide +kernel
theorem dX2_addPart_32 : decode cX2_addPart 32 = .ok (.getfield 50, 3) := by decide +kernel
theorem dX2_addPart_35 : decode cX2_addPart 35 = .ok (.iload 6, 2) := by decide +kernel
theorem dX2_addPart_37 : decode cX2_addPart 37 = .ok (.iconst 2, 1) := by decide +kernel
theorem dX2_addPart_38 : decode cX2_addPart 38 = .ok (.iadd, 1) := by decide +kernel
theorem dX2_addPart_39 : decode cX2_addPart 39 = .ok (.iload_n 3, 1) := by decide +kernel
theorem dX2_addPart_40 : decode cX2_addPart 40 = .ok (.invokestatic 98, 3) := by decide +kernel
theorem dX2_addPart_43 : decode cX2_addPart 43 = .ok (.aload_n 0, 1) := by decide +kernel
theorem dX2_addPart_44 : decode cX2_addPart 44 = .ok (.getfield 50, 3) := by decide +kernel
theorem dX2_addPart_47 : decode cX2_addPart 47 = .ok (.iload 6, 2) := by decide +kernel
theorem dX2_addPart_49 : decode cX2_addPart 49 = .ok (.iconst 3, 1) := by decide +kernel
theorem dX2_addPart_50 : decode cX2_addPart 50 = .ok (.iadd, 1) := by decide +kernel
theorem dX2_addPart_51 : decode cX2_addPart 51 = .ok (.aload_n 0, 1) := by decide +kernel
theorem dX2_addPart_52 : decode cX2_addPart 52 = .ok (.getfield 30, 3) := by decide +kernel
theorem dX2_addPart_55 : decode cX2_addPart 55 = .ok (.invokestatic 98, 3) := by decide +kernel
theorem dX2_addPart_58 : decode cX2_addPart 58 = .ok (.aload_n 0, 1) := by decide +kernel
theorem dX2_addPart_59 : decode cX2_addPart 59 = .ok (.getfield 50, 3) := by decide +kernel
theorem dX2_addPart_62 : decode cX2_addPart 62 = .ok (.iload 6, 2) := by decide +kernel
theorem dX2_addPart_64 : decode cX2_addPart 64 = .ok (.iconst 4, 1) := by decide +kernel
theorem dX2_addPart_65 : decode cX2_addPart 65 = .ok (.iadd, 1) := by decide +kernel
theorem dX2_addPart_66 : decode cX2_addPart 66 = .ok (.iload 4, 2) := by decide +kernel
theorem dX2_addPart_68 : decode cX2_addPart 68 = .ok (.invokestatic 98, 3) := by decide +kernel
theorem dX2_addPart_71 : decode cX2_addPart 71 = .ok (.aload_n 0, 1) := by decide +kernel
theorem dX2_addPart_72 : decode cX2_addPart 72 = .ok (.getfield 50, 3) := by decide +kernel
theorem dX2_addPart_75 : decode cX2_addPart 75 = .ok (.iload 6, 2) := by decide +kernel
theorem dX2_addPart_77 : decode cX2_addPart 77 = .ok (.iconst 5, 1) := by decide +kernel
theorem dX2_addPart_78 : decode cX2_addPart 78 = .ok (.iadd, 1) := by decide +kernel
theorem dX2_addPart_79 : decode cX2_addPart 79 = .ok (.iload 5, 2) := by decide +kernel
theorem dX2_addPart_81 : decode cX2_addPart 81 = .ok (.invokestatic 98, 3) := by decide +kernel
theorem dX2_addPart_84 : decode cX2_addPart 84 = .ok (.iload 6, 2) := by decide +kernel
theorem dX2_addPart_86 : decode cX2_addPart 86 = .ok (.aload_n 0, 1) := by decide +kernel
theorem dX2_addPart_87 : decode cX2_addPart 87 = .ok (.getfield 50, 3) := by decide +kernel
theorem dX2_addPart_90 : decode cX2_addPart 90 = .ok (.arraylength, 1) := by decide +kernel
theorem dX2_addPart_91 : decode cX2_addPart 91 = .ok (.if_icmp .ge 13, 3) := by decide +kernel
theorem dX2_addPart_104 : decode cX2_addPart 104 = .ok (.return_, 1) := by decide +kernel
theorem dX2_addPart_94 : decode cX2_addPart 94 = .ok (.aload_n 0, 1) := by decide +kernel
theorem dX2_addPart_95 : decode cX2_addPart 95 = .ok (.dup, 1) := by decide +kernel
theorem dX2_addPart_96 : decode cX2_addPart 96 = .ok (.getfield 53, 3) := by decide +kernel
theorem dX2_addPart_99 : decode cX2_addPart 99 = .ok (.iconst 1, 1) := by decide +kernel
theorem dX2_addPart_100 : decode cX2_addPart 100 = .ok (.iadd, 1) := by decide +kernel
theorem dX2_addPart_101 : decode cX2_addPart 101 = .ok (.putfield 53, 3) := by decide +kernel
theorem dX2_patch_0 : decode cX2_patch 0 = .ok (.iload_n 1, 1) := by decide +kernel
theorem dX2_patch_1 : decode cX2_patch 1 = .ok (.ifCond .lt 22, 3) := by decide +kernel
theorem dX2_patch_23 : decode cX2_patch 23 = .ok (.return_, 1) := by decide +kernel
theorem dX2_patch_4 : decode cX2_patch 4 = .ok (.iload_n 1, 1) := by decide +kernel
theorem dX2_patch_5 : decode cX2_patch 5 = .ok (.aload_n 0, 1) := by decide +kernel
theorem dX2_patch_6 : decode cX2_patch 6 = .ok (.getfield 26, 3) := by decide +kernel
theorem dX2_patch_9 : decode cX2_patch 9 = .ok (.arraylength, 1) := by decide +kernel
theorem dX2_patch_10 : decode cX2_patch 10 = .ok (.if_icmp .ge 13, 3) := by decide +kernel
theorem dX2_patch_13 : decode cX2_patch 13 = .ok (.aload_n 0, 1) := by decide +kernel
theorem dX2_patch_14 : decode cX2_patch 14 = .ok (.getfield 26, 3) := by decide +kernel
theorem dX2_patch_17 : decode cX2_patch 17 = .ok (.iload_n 1, 1) := by decide +kernel
theorem dX2_patch_18 : decode cX2_patch 18 = .ok (.aload_n 0, 1) := by decide +kernel
theorem dX2_patch_19 : decode cX2_patch 19 = .ok (.getfield 30, 3) := by decide +kernel
theorem dX2_patch_22 : decode cX2_patch 22 = .ok (.iastore, 1) := by decide +kernel
theorem dX10_partCall_0 : decode cX10_partCall 0 = .ok (.iconst 0, 1) := by decide +kernel
theorem dX10_partCall_1 : decode cX10_partCall 1 = .ok (.istore 5, 2) := by decide +kernel
theorem dX10_partCall_3 : decode cX10_partCall 3 = .ok (.iconst 0, 1) := by decide +kernel
theorem dX10_partCall_4 : decode cX10_partCall 4 = .ok (.istore 6, 2) := by decide +kernel
theorem dX10_partCall_6 : decode cX10_partCall 6 = .ok (.aload_n 0, 1) := by decide +kernel
theorem dX10_partCall_7 : decode cX10_partCall 7 = .ok (.getfield 40, 3) := by decide +kernel
theorem dX10_partCall_10 : decode cX10_partCall 10 = .ok (.ifCond .eq 20, 3) := by decide +kernel
theorem dX10_partCall_30 : decode cX10_partCall 30 = .ok (.aload_n 0, 1) := by decide +kernel
theorem dX10_partCall_31 : decode cX10_partCall 31 = .ok (.invokevirtual 87, 3) := by decide +kernel
theorem dX10_partCall_34 : decode cX10_partCall 34 = .ok (.pop, 1) := by decide +kernel
theorem dX10_partCall_35 : decode cX10_partCall 35 = .ok (.aload_n 0, 1) := by decide +kernel
theorem dX10_partCall_36 : decode cX10_partCall 36 = .ok (.iconst 0, 1) := by decide +kernel
theorem dX10_partCall_37 : decode cX10_partCall 37 = .ok (.putfield 40, 3) := by decide +kernel
theorem dX10_partCall_40 : decode cX10_partCall 40 = .ok (.aload_n 0, 1) := by decide +kernel
theorem dX10_partCall_41 : decode cX10_partCall 41 = .ok (.getfield 62, 3) := by decide +kernel
theorem dX10_partCall_44 : decode cX10_partCall 44 = .ok (.aload_n 0, 1) := by decide +kernel
theorem dX10_partCall_45 : decode cX10_partCall 45 = .ok (.getfield 58, 3) := by decide +kernel
theorem dX10_partCall_48 : decode cX10_partCall 48 = .ok (.getfield 245, 3) := by decide +kernel
theorem dX10_partCall_51 : decode cX10_partCall 51 = .ok (.aload_n 0, 1) := by decide +kernel
theorem dX10_partCall_52 : decode cX10_partCall 52 = .ok (.getfield 21, 3) := by decide +kernel
theorem dX10_partCall_55 : decode cX10_partCall 55 = .ok (.iload_n 2, 1) := by decide +kernel
theorem dX10_partCall_56 : decode cX10_partCall 56 = .ok (.iload_n 3, 1) := by decide +kernel
theorem dX10_partCall_57 : decode cX10_partCall 57 = .ok (.iload 4, 2) := by decide +kernel
theorem dX10_partCall_59 : decode cX10_partCall 59 = .ok (.invokevirtual 248, 3) := by decide +kernel
theorem dX10_partCall_62 : decode cX10_partCall 62 = .ok (.aload_n 0, 1) := by decide +kernel
theorem dX10_partCall_63 : decode cX10_partCall 63 = .ok (.getfield 62, 3) := by decide +kernel
theorem dX10_partCall_66 : decode cX10_partCall 66 = .ok (.bipush 10, 2) := by decide +kernel
theorem dX10_partCall_68 : decode cX10_partCall 68 = .ok (.iload_n 1, 1) := by decide +kernel
theorem dX10_partCall_69 : decode cX10_partCall 69 = .ok (.iload 5, 2) := by decide +kernel
theorem dX10_partCall_71 : decode cX10_partCall 71 = .ok (.iload 6, 2) := by decide +kernel
theorem dX10_partCall_73 : decode cX10_partCall 73 = .ok (.invokevirtual 173, 3) := by decide +kernel
theorem dX10_partCall_76 : decode cX10_partCall 76 = .ok (.aload_n 0, 1) := by decide +kernel
theorem dX10_partCall_77 : decode cX10_partCall 77 = .ok (.getfield 62, 3) := by decide +kernel
theorem dX10_partCall_80 : decode cX10_partCall 80 = .ok (.iconst 0, 1) := by decide +kernel
theorem dX10_partCall_81 : decode cX10_partCall 81 = .ok (.iconst 0, 1) := by decide +kernel
theorem dX10_partCall_82 : decode cX10_partCall 82 = .ok (.invokevirtual 182, 3) := by decide +kernel
theorem dX10_partCall_85 : decode cX10_partCall 85 = .ok (.aload_n 0, 1) := by decide +kernel
theorem dX10_partCall_86 : decode cX10_partCall 86 = .ok (.getfield 62, 3) := by decide +kernel
theorem dX10_partCall_89 : decode cX10_partCall 89 = .ok (.aload_n 0, 1) := by decide +kernel
theorem dX10_partCall_90 : decode cX10_partCall 90 = .ok (.getfield 58, 3) := by decide +kernel
theorem dX10_partCall_93 : decode cX10_partCall 93 = .ok (.getfield 245, 3) := by decide +kernel
theorem dX10_partCall_96 : decode cX10_partCall 96 = .ok (.iload_n 2, 1) := by decide +kernel
theorem dX10_partCall_97 : decode cX10_partCall 97 = .ok (.iconst 0, 1) := by decide +kernel
theorem dX10_partCall_98 : decode cX10_partCall 98 = .ok (.invokevirtual 93, 3) := by decide +kernel
theorem dX10_partCall_101 : decode cX10_partCall 101 = .ok (.aload_n 0, 1) := by decide +kernel
theorem dX10_partCall_102 : decode cX10_partCall 102 = .ok (.getfield 62, 3) := by decide +kernel
theorem dX10_partCall_105 : decode cX10_partCall 105 = .ok (.iconst 0, 1) := by decide +kernel
theorem dX10_partCall_106 : decode cX10_partCall 106 = .ok (.invokevirtual 197, 3) := by decide +kernel
theorem dX10_partCall_109 : decode cX10_partCall 109 = .ok (.aload_n 0, 1) := by decide +kernel
theorem dX10_partCall_110 : decode cX10_partCall 110 = .ok (.getfield 62, 3) := by decide +kernel
theorem dX10_partCall_113 : decode cX10_partCall 113 = .ok (.aload_n 0, 1) := by decide +kernel
theorem dX10_partCall_114 : decode cX10_partCall 114 = .ok (.getfield 62, 3) := by decide +kernel
theorem dX10_partCall_117 : decode cX10_partCall 117 = .ok (.getfield 118, 3) := by decide +kernel
theorem dX10_partCall_120 : decode cX10_partCall 120 = .ok (.bipush 6, 2) := by decide +kernel
theorem dX10_partCall_122 : decode cX10_partCall 122 = .ok (.isub, 1) := by decide +kernel
theorem dX10_partCall_123 : decode cX10_partCall 123 = .ok (.invokevirtual 184, 3) := by decide +kernel
theorem dX10_partCall_126 : decode cX10_partCall 126 = .ok (.return_, 1) := by decide +kernel
theorem dX10_partCall_13 : decode cX10_partCall 13 = .ok (.aload_n 0, 1) := by decide +kernel
theorem dX10_partCall_14 : decode cX10_partCall 14 = .ok (.getfield 34, 3) := by decide +kernel
theorem dX10_partCall_17 : decode cX10_partCall 17 = .ok (.istore 5, 2) := by decide +kernel
theorem dX10_partCall_19 : decode cX10_partCall 19 = .ok (.aload_n 0, 1) := by decide +kernel
theorem dX10_partCall_20 : decode cX10_partCall 20 = .ok (.getfield 37, 3) := by decide +kernel
theorem dX10_partCall_23 : decode cX10_partCall 23 = .ok (.istore 6, 2) := by decide +kernel
theorem dX10_partCall_25 : decode cX10_partCall 25 = .ok (.aload_n 0, 1) := by decide +kernel
theorem dX10_partCall_26 : decode cX10_partCall 26 = .ok (.iconst 0, 1) := by decide +kernel
theorem dX10_partCall_27 : decode cX10_partCall 27 = .ok (.putfield 37, 3) := by decide +kernel
theorem dX10_dots_0 : decode cX10_dots 0 = .ok (.aload_n 0, 1) := by decide +kernel
theorem dX10_dots_1 : decode cX10_dots 1 = .ok (.getfield 58, 3) := by decide +kernel
theorem dX10_dots_4 : decode cX10_dots 4 = .ok (.aload_n 0, 1) := by decide +kernel
theorem dX10_dots_5 : decode cX10_dots 5 = .ok (.getfield 58, 3) := by decide +kernel
theorem dX10_dots_8 : decode cX10_dots 8 = .ok (.getfield 75, 3) := by decide +kernel
theorem dX10_dots_11 : decode cX10_dots 11 = .ok (.iconst 1, 1) := by decide +kernel
theorem dX10_dots_12 : decode cX10_dots 12 = .ok (.iadd, 1) := by decide +kernel
theorem dX10_dots_13 : decode cX10_dots 13 = .ok (.invokevirtual 108, 3) := by decide +kernel
theorem dX10_dots_16 : decode cX10_dots 16 = .ok (.bipush 46, 2) := by decide +kernel
theorem dX10_dots_18 : decode cX10_dots 18 = .ok (.if_icmp .ne 24, 3) := by decide +kernel
theorem dX10_dots_57 : decode cX10_dots 57 = .ok (.aload_n 0, 1) := by decide +kernel
theorem dX10_dots_58 : decode cX10_dots 58 = .ok (.getfield 58, 3) := by decide +kernel
theorem dX10_dots_61 : decode cX10_dots 61 = .ok (.dup, 1) := by decide +kernel
theorem dX10_dots_62 : decode cX10_dots 62 = .ok (.getfield 75, 3) := by decide +kernel
theorem dX10_dots_65 : decode cX10_dots 65 = .ok (.iconst 3, 1) := by decide +kernel
theorem dX10_dots_66 : decode cX10_dots 66 = .ok (.iadd, 1) := by decide +kernel
theorem dX10_dots_67 : decode cX10_dots 67 = .ok (.putfield 75, 3) := by decide +kernel
theorem dX10_dots_70 : decode cX10_dots 70 = .ok (.return_, 1) := by decide +kernel
theorem dX10_dots_42 : decode cX10_dots 42 = .ok (.aload_n 0, 1) := by decide +kernel
theorem dX10_dots_43 : decode cX10_dots 43 = .ok (.getfield 58, 3) := by decide +kernel
theorem dX10_dots_46 : decode cX10_dots 46 = .ok (.iconst 1, 1) := by decide +kernel
theorem dX10_dots_47 : decode cX10_dots 47 = .ok (.aload_n 0, 1) := by decide +kernel
theorem dX10_dots_48 : decode cX10_dots 48 = .ok (.getfield 58, 3) := by decide +kernel
theorem dX10_dots_51 : decode cX10_dots 51 = .ok (.invokevirtual 90, 3) := by decide +kernel
theorem dX10_dots_54 : decode cX10_dots 54 = .ok (.invokevirtual 104, 3) := by decide +kernel
theorem dX10_dots_21 : decode cX10_dots 21 = .ok (.aload_n 0, 1) := by decide +kernel
theorem dX10_dots_22 : decode cX10_dots 22 = .ok (.getfield 58, 3) := by decide +kernel
theorem dX10_dots_25 : decode cX10_dots 25 = .ok (.aload_n 0, 1) := by decide +kernel
theorem dX10_dots_26 : decode cX10_dots 26 = .ok (.getfield 58, 3) := by decide +kernel
theorem dX10_dots_29 : decode cX10_dots 29 = .ok (.getfield 75, 3) := by decide +kernel
theorem dX10_dots_32 : decode cX10_dots 32 = .ok (.iconst 2, 1) := by decide +kernel
theorem dX10_dots_33 : decode cX10_dots 33 = .ok (.iadd, 1) := by decide +kernel
theorem dX10_dots_34 : decode cX10_dots 34 = .ok (.invokevirtual 108, 3) := by decide +kernel
theorem dX10_dots_37 : decode cX10_dots 37 = .ok (.bipush 46, 2) := by decide +kernel
theorem dX10_dots_39 : decode cX10_dots 39 = .ok (.if_icmp .eq 18, 3) := by decide +kernel
theorem dX10_isNamedAhead_0 : decode cX10_isNamedAhead 0 = .ok (.aload_n 0, 1) := by decide +kernel
theorem dX10_isNamedAhead_1 : decode cX10_isNamedAhead 1 = .ok (.getfield 58, 3) := by decide +kernel
theorem dX10_isNamedAhead_4 : decode cX10_isNamedAhead 4 = .ok (.aload_n 0, 1) := by decide +kernel
theorem dX10_isNamedAhead_5 : decode cX10_isNamedAhead 5 = .ok (.getfield 58, 3) := by decide +kernel
theorem dX10_isNamedAhead_8 : decode cX10_isNamedAhead 8 = .ok (.getfield 75, 3) := by decide +kernel
theorem dX10_isNamedAhead_11 : decode cX10_isNamedAhead 11 = .ok (.invokevirtual 131, 3) := by decide +kernel
theorem dX10_isNamedAhead_14 : decode cX10_isNamedAhead 14 = .ok (.istore_n 1, 1) := by decide +kernel
theorem dX10_isNamedAhead_15 : decode cX10_isNamedAhead 15 = .ok (.iload_n 1, 1) := by decide +kernel
theorem dX10_isNamedAhead_16 : decode cX10_isNamedAhead 16 = .ok (.aload_n 0, 1) := by decide +kernel
theorem dX10_isNamedAhead_17 : decode cX10_isNamedAhead 17 = .ok (.getfield 58, 3) := by decide +kernel
theorem dX10_isNamedAhead_20 : decode cX10_isNamedAhead 20 = .ok (.getfield 75, 3) := by decide +kernel
theorem dX10_isNamedAhead_23 : decode cX10_isNamedAhead 23 = .ok (.if_icmp .le 27, 3) := by decide +kernel
theorem dX10_isNamedAhead_51 : decode cX10_isNamedAhead 51 = .ok (.ireturn, 1) := by decide +kernel
theorem dX10_isNamedAhead_50 : decode cX10_isNamedAhead 50 = .ok (.iconst 0, 1) := by decide +kernel
theorem dX10_isNamedAhead_26 : decode cX10_isNamedAhead 26 = .ok (.aload_n 0, 1) := by decide +kernel
theorem dX10_isNamedAhead_27 : decode cX10_isNamedAhead 27 = .ok (.getfield 58, 3) := by decide +kernel
theorem dX10_isNamedAhead_30 : decode cX10_isNamedAhead 30 = .ok (.aload_n 0, 1) := by decide +kernel
theorem dX10_isNamedAhead_31 : decode cX10_isNamedAhead 31 = .ok (.getfield 58, 3) := by decide +kernel
theorem dX10_isNamedAhead_34 : decode cX10_isNamedAhead 34 = .ok (.iload_n 1, 1) := by decide +kernel
theorem dX10_isNamedAhead_35 : decode cX10_isNamedAhead 35 = .ok (.invokevirtual 326, 3) := by decide +kernel
theorem dX10_isNamedAhead_38 : decode cX10_isNamedAhead 38 = .ok (.invokevirtual 108, 3) := by decide +kernel
theorem dX10_isNamedAhead_41 : decode cX10_isNamedAhead 41 = .ok (.bipush 61, 2) := by decide +kernel
theorem dX10_isNamedAhead_43 : decode cX10_isNamedAhead 43 = .ok (.if_icmp .ne 7, 3) := by decide +kernel
theorem dX10_isNamedAhead_46 : decode cX10_isNamedAhead 46 = .ok (.iconst 1, 1) := by decide +kernel
theorem dX10_isNamedAhead_47 : decode cX10_isNamedAhead 47 = .ok (.goto 4, 3) := by decide +kernel
theorem dX2_addLate_0 : decode cX2_addLate 0 = .ok (.aload_n 0, 1) := by decide +kernel
theorem dX2_addLate_1 : decode cX2_addLate 1 = .ok (.getfield 62, 3) := by decide +kernel
theorem dX2_addLate_4 : decode cX2_addLate 4 = .ok (.iload_n 1, 1) := by decide +kernel
theorem dX2_addLate_5 : decode cX2_addLate 5 = .ok (.invokestatic 102, 3) := by decide +kernel
theorem dX2_addLate_8 : decode cX2_addLate 8 = .ok (.istore_n 3, 1) := by decide +kernel
theorem dX2_addLate_9 : decode cX2_addLate 9 = .ok (.iload_n 3, 1) := by decide +kernel
theorem dX2_addLate_10 : decode cX2_addLate 10 = .ok (.iconst (-1), 1) := by decide +kernel
theorem dX2_addLate_11 : decode cX2_addLate 11 = .ok (.if_icmp .eq 8, 3) := by decide +kernel
theorem dX2_addLate_28 : decode cX2_addLate 28 = .ok (.return_, 1) := by decide +kernel
theorem dX2_addLate_19 : decode cX2_addLate 19 = .ok (.aload_n 0, 1) := by decide +kernel
theorem dX2_addLate_20 : decode cX2_addLate 20 = .ok (.getfield 62, 3) := by decide +kernel
theorem dX2_addLate_23 : decode cX2_addLate 23 = .ok (.iload_n 1, 1) := by decide +kernel
theorem dX2_addLate_24 : decode cX2_addLate 24 = .ok (.iload_n 2, 1) := by decide +kernel
theorem dX2_addLate_25 : decode cX2_addLate 25 = .ok (.invokestatic 98, 3) := by decide +kernel
theorem dX2_addLate_14 : decode cX2_addLate 14 = .ok (.iload_n 2, 1) := by decide +kernel
theorem dX2_addLate_15 : decode cX2_addLate 15 = .ok (.iload_n 3, 1) := by decide +kernel
theorem dX2_addLate_16 : decode cX2_addLate 16 = .ok (.if_icmp .ge 12, 3) := by decide +kernel
theorem dX2_addCall_0 : decode cX2_addCall 0 = .ok (.aload_n 0, 1) := by decide +kernel
theorem dX2_addCall_1 : decode cX2_addCall 1 = .ok (.getfield 56, 3) := by decide +kernel
theorem dX2_addCall_4 : decode cX2_addCall 4 = .ok (.iconst 2, 1) := by decide +kernel
theorem dX2_addCall_5 : decode cX2_addCall 5 = .ok (.aload_n 0, 1) := by decide +kernel
theorem dX2_addCall_6 : decode cX2_addCall 6 = .ok (.getfield 59, 3) := by decide +kernel
theorem dX2_addCall_9 : decode cX2_addCall 9 = .ok (.imul, 1) := by decide +kernel
theorem dX2_addCall_10 : decode cX2_addCall 10 = .ok (.aload_n 0, 1) := by decide +kernel
theorem dX2_addCall_11 : decode cX2_addCall 11 = .ok (.getfield 30, 3) := by decide +kernel
theorem dX2_addCall_14 : decode cX2_addCall 14 = .ok (.invokestatic 98, 3) := by decide +kernel
theorem dX2_addCall_17 : decode cX2_addCall 17 = .ok (.aload_n 0, 1) := by decide +kernel
theorem dX2_addCall_18 : decode cX2_addCall 18 = .ok (.getfield 56, 3) := by decide +kernel
theorem dX2_addCall_21 : decode cX2_addCall 21 = .ok (.iconst 2, 1) := by decide +kernel
theorem dX2_addCall_22 : decode cX2_addCall 22 = .ok (.aload_n 0, 1) := by decide +kernel
theorem dX2_addCall_23 : decode cX2_addCall 23 = .ok (.getfield 59, 3) := by decide +kernel
theorem dX2_addCall_26 : decode cX2_addCall 26 = .ok (.imul, 1) := by decide +kernel
theorem dX2_addCall_27 : decode cX2_addCall 27 = .ok (.iconst 1, 1) := by decide +kernel
theorem dX2_addCall_28 : decode cX2_addCall 28 = .ok (.iadd, 1) := by decide +kernel
theorem dX2_addCall_29 : decode cX2_addCall 29 = .ok (.iload_n 1, 1) := by decide +kernel
theorem dX2_addCall_30 : decode cX2_addCall 30 = .ok (.invokestatic 98, 3) := by decide +kernel
theorem dX2_addCall_33 : decode cX2_addCall 33 = .ok (.iconst 2, 1) := by decide +kernel
theorem dX2_addCall_34 : decode cX2_addCall 34 = .ok (.aload_n 0, 1) := by decide +kernel
theorem dX2_addCall_35 : decode cX2_addCall 35 = .ok (.getfield 59, 3) := by decide +kernel
theorem dX2_addCall_38 : decode cX2_addCall 38 = .ok (.imul, 1) := by decide +kernel
theorem dX2_addCall_39 : decode cX2_addCall 39 = .ok (.aload_n 0, 1) := by decide +kernel
theorem dX2_addCall_40 : decode cX2_addCall 40 = .ok (.getfield 56, 3) := by decide +kernel
theorem dX2_addCall_43 : decode cX2_addCall 43 = .ok (.arraylength, 1) := by decide +kernel
theorem dX2_addCall_44 : decode cX2_addCall 44 = .ok (.if_icmp .ge 13, 3) := by decide +kernel
theorem dX2_addCall_57 : decode cX2_addCall 57 = .ok (.return_, 1) := by decide +kernel
theorem dX2_addCall_47 : decode cX2_addCall 47 = .ok (.aload_n 0, 1) := by decide +kernel
theorem dX2_addCall_48 : decode cX2_addCall 48 = .ok (.dup, 1) := by decide +kernel
theorem dX2_addCall_49 : decode cX2_addCall 49 = .ok (.getfield 59, 3) := by decide +kernel
theorem dX2_addCall_52 : decode cX2_addCall 52 = .ok (.iconst 1, 1) := by decide +kernel
theorem dX2_addCall_53 : decode cX2_addCall 53 = .ok (.iadd, 1) := by decide +kernel
theorem dX2_addCall_54 : decode cX2_addCall 54 = .ok (.putfield 59, 3) := by decide +kernel
theorem dX10_call_0 : decode cX10_call 0 = .ok (.aload_n 0, 1) := by decide +kernel
theorem dX10_call_1 : decode cX10_call 1 = .ok (.getfield 62, 3) := by decide +kernel
theorem dX10_call_4 : decode cX10_call 4 = .ok (.aload_n 0, 1) := by decide +kernel
theorem dX10_call_5 : decode cX10_call 5 = .ok (.getfield 58, 3) := by decide +kernel
theorem dX10_call_8 : decode cX10_call 8 = .ok (.getfield 245, 3) := by decide +kernel
theorem dX10_call_11 : decode cX10_call 11 = .ok (.invokevirtual 313, 3) := by decide +kernel
theorem dX10_call_14 : decode cX10_call 14 = .ok (.aload_n 0, 1) := by decide +kernel
theorem dX10_call_15 : decode cX10_call 15 = .ok (.getfield 62, 3) := by decide +kernel
theorem dX10_call_18 : decode cX10_call 18 = .ok (.iload_n 3, 1) := by decide +kernel
theorem dX10_call_19 : decode cX10_call 19 = .ok (.bipush 8, 2) := by decide +kernel
theorem dX10_call_21 : decode cX10_call 21 = .ok (.iand, 1) := by decide +kernel
theorem dX10_call_22 : decode cX10_call 22 = .ok (.ifCond .eq 8, 3) := by decide +kernel
theorem dX10_call_32 : decode cX10_call 32 = .ok (.iconst 0, 1) := by decide +kernel
theorem dX10_call_33 : decode cX10_call 33 = .ok (.iload_n 1, 1) := by decide +kernel
theorem dX10_call_34 : decode cX10_call 34 = .ok (.iload_n 2, 1) := by decide +kernel
theorem dX10_call_35 : decode cX10_call 35 = .ok (.invokevirtual 173, 3) := by decide +kernel
theorem dX10_call_38 : decode cX10_call 38 = .ok (.aload_n 0, 1) := by decide +kernel
theorem dX10_call_39 : decode cX10_call 39 = .ok (.getfield 62, 3) := by decide +kernel
theorem dX10_call_42 : decode cX10_call 42 = .ok (.aload_n 0, 1) := by decide +kernel
theorem dX10_call_43 : decode cX10_call 43 = .ok (.getfield 43, 3) := by decide +kernel
theorem dX10_call_46 : decode cX10_call 46 = .ok (.aload_n 0, 1) := by decide +kernel
theorem dX10_call_47 : decode cX10_call 47 = .ok (.getfield 46, 3) := by decide +kernel
theorem dX10_call_50 : decode cX10_call 50 = .ok (.iload_n 3, 1) := by decide +kernel
theorem dX10_call_51 : decode cX10_call 51 = .ok (.ior, 1) := by decide +kernel
theorem dX10_call_52 : decode cX10_call 52 = .ok (.aload_n 0, 1) := by decide +kernel
theorem dX10_call_53 : decode cX10_call 53 = .ok (.getfield 49, 3) := by decide +kernel
theorem dX10_call_56 : decode cX10_call 56 = .ok (.invokevirtual 93, 3) := by decide +kernel
theorem dX10_call_59 : decode cX10_call 59 = .ok (.return_, 1) := by decide +kernel
theorem dX10_call_30 : decode cX10_call 30 = .ok (.bipush 15, 2) := by decide +kernel
theorem dX10_call_25 : decode cX10_call 25 = .ok (.bipush 34, 2) := by decide +kernel
theorem dX10_call_27 : decode cX10_call 27 = .ok (.goto 5, 3) := by decide +kernel
theorem dX10_function_0 : decode cX10_function 0 = .ok (.iload_n 1, 1) := by decide +kernel
theorem dX10_function_1 : decode cX10_function 1 = .ok (.bipush 6, 2) := by decide +kernel
theorem dX10_function_3 : decode cX10_function 3 = .ok (.if_icmp .gt 16, 3) := by decide +kernel
theorem dX10_function_60 : decode cX10_function 60 = .ok (.return_, 1) := by decide +kernel
theorem dX10_function_19 : decode cX10_function 19 = .ok (.aload_n 0, 1) := by decide +kernel
theorem dX10_function_20 : decode cX10_function 20 = .ok (.getfield 62, 3) := by decide +kernel
theorem dX10_function_23 : decode cX10_function 23 = .ok (.bipush 23, 2) := by decide +kernel
theorem dX10_function_25 : decode cX10_function 25 = .ok (.bipush 6, 2) := by decide +kernel
theorem dX10_function_27 : decode cX10_function 27 = .ok (.iload_n 2, 1) := by decide +kernel
theorem dX10_function_28 : decode cX10_function 28 = .ok (.aload_n 0, 1) := by decide +kernel
theorem dX10_function_29 : decode cX10_function 29 = .ok (.getfield 62, 3) := by decide +kernel
theorem dX10_function_32 : decode cX10_function 32 = .ok (.getfield 118, 3) := by decide +kernel
theorem dX10_function_35 : decode cX10_function 35 = .ok (.iconst 5, 1) := by decide +kernel
theorem dX10_function_36 : decode cX10_function 36 = .ok (.iadd, 1) := by decide +kernel
theorem dX10_function_37 : decode cX10_function 37 = .ok (.invokevirtual 173, 3) := by decide +kernel
theorem dX10_function_40 : decode cX10_function 40 = .ok (.aload_n 0, 1) := by decide +kernel
theorem dX10_function_41 : decode cX10_function 41 = .ok (.getfield 62, 3) := by decide +kernel
theorem dX10_function_44 : decode cX10_function 44 = .ok (.iload_n 1, 1) := by decide +kernel
theorem dX10_function_45 : decode cX10_function 45 = .ok (.bipush 7, 2) := by decide +kernel
theorem dX10_function_47 : decode cX10_function 47 = .ok (.if_icmp .ne 8, 3) := by decide +kernel
theorem dX10_function_57 : decode cX10_function 57 = .ok (.invokevirtual 197, 3) := by decide +kernel
theorem dX10_function_55 : decode cX10_function 55 = .ok (.bipush 25, 2) := by decide +kernel
theorem dX10_function_50 : decode cX10_function 50 = .ok (.bipush 24, 2) := by decide +kernel
theorem dX10_function_52 : decode cX10_function 52 = .ok (.goto 5, 3) := by decide +kernel
theorem dX10_function_6 : decode cX10_function 6 = .ok (.aload_n 0, 1) := by decide +kernel
theorem dX10_function_7 : decode cX10_function 7 = .ok (.getfield 62, 3) := by decide +kernel
theorem dX10_function_10 : decode cX10_function 10 = .ok (.bipush 21, 2) := by decide +kernel
theorem dX10_function_12 : decode cX10_function 12 = .ok (.iload_n 1, 1) := by decide +kernel
theorem dX10_function_13 : decode cX10_function 13 = .ok (.invokevirtual 182, 3) := by decide +kernel
theorem dX10_function_16 : decode cX10_function 16 = .ok (.goto 44, 3) := by decide +kernel
theorem dX10_branchEnd_0 : decode cX10_branchEnd 0 = .ok (.iload_n 2, 1) := by decide +kernel
theorem dX10_branchEnd_1 : decode cX10_branchEnd 1 = .ok (.iconst 1, 1) := by decide +kernel
theorem dX10_branchEnd_2 : decode cX10_branchEnd 2 = .ok (.if_icmp .eq 29, 3) := by decide +kernel
theorem dX10_branchEnd_31 : decode cX10_branchEnd 31 = .ok (.aload_n 0, 1) := by decide +kernel
theorem dX10_branchEnd_32 : decode cX10_branchEnd 32 = .ok (.aload_n 0, 1) := by decide +kernel
theorem dX10_branchEnd_33 : decode cX10_branchEnd 33 = .ok (.getfield 40, 3) := by decide +kernel
theorem dX10_branchEnd_36 : decode cX10_branchEnd 36 = .ok (.putfield 52, 3) := by decide +kernel
theorem dX10_branchEnd_39 : decode cX10_branchEnd 39 = .ok (.aload_n 0, 1) := by decide +kernel
theorem dX10_branchEnd_40 : decode cX10_branchEnd 40 = .ok (.aload_n 0, 1) := by decide +kernel
theorem dX10_branchEnd_41 : decode cX10_branchEnd 41 = .ok (.invokevirtual 87, 3) := by decide +kernel
theorem dX10_branchEnd_44 : decode cX10_branchEnd 44 = .ok (.putfield 55, 3) := by decide +kernel
theorem dX10_branchEnd_47 : decode cX10_branchEnd 47 = .ok (.aload_n 0, 1) := by decide +kernel
theorem dX10_branchEnd_48 : decode cX10_branchEnd 48 = .ok (.getfield 58, 3) := by decide +kernel
theorem dX10_branchEnd_51 : decode cX10_branchEnd 51 = .ok (.aload_n 0, 1) := by decide +kernel
theorem dX10_branchEnd_52 : decode cX10_branchEnd 52 = .ok (.getfield 58, 3) := by decide +kernel
theorem dX10_branchEnd_55 : decode cX10_branchEnd 55 = .ok (.aload_n 0, 1) := by decide +kernel
theorem dX10_branchEnd_56 : decode cX10_branchEnd 56 = .ok (.getfield 58, 3) := by decide +kernel
theorem dX10_branchEnd_59 : decode cX10_branchEnd 59 = .ok (.getfield 75, 3) := by decide +kernel
theorem dX10_branchEnd_62 : decode cX10_branchEnd 62 = .ok (.invokevirtual 131, 3) := by decide +kernel
theorem dX10_branchEnd_65 : decode cX10_branchEnd 65 = .ok (.putfield 75, 3) := by decide +kernel
theorem dX10_branchEnd_68 : decode cX10_branchEnd 68 = .ok (.iload_n 1, 1) := by decide +kernel
theorem dX10_branchEnd_69 : decode cX10_branchEnd 69 = .ok (.bipush 10, 2) := by decide +kernel
theorem dX10_branchEnd_71 : decode cX10_branchEnd 71 = .ok (.if_icmp .eq 26, 3) := by decide +kernel
theorem dX10_branchEnd_97 : decode cX10_branchEnd 97 = .ok (.iload_n 1, 1) := by decide +kernel
theorem dX10_branchEnd_98 : decode cX10_branchEnd 98 = .ok (.ireturn, 1) := by decide +kernel
theorem dX10_branchEnd_74 : decode cX10_branchEnd 74 = .ok (.aload_n 0, 1) := by decide +kernel
theorem dX10_branchEnd_75 : decode cX10_branchEnd 75 = .ok (.getfield 58, 3) := by decide +kernel
theorem dX10_branchEnd_78 : decode cX10_branchEnd 78 = .ok (.aload_n 0, 1) := by decide +kernel
theorem dX10_branchEnd_79 : decode cX10_branchEnd 79 = .ok (.getfield 15, 3) := by decide +kernel
theorem dX10_branchEnd_82 : decode cX10_branchEnd 82 = .ok (.invokevirtual 191, 3) := by decide +kernel
theorem dX10_branchEnd_85 : decode cX10_branchEnd 85 = .ok (.aload_n 0, 1) := by decide +kernel
theorem dX10_branchEnd_86 : decode cX10_branchEnd 86 = .ok (.aload_n 0, 1) := by decide +kernel
theorem dX10_branchEnd_87 : decode cX10_branchEnd 87 = .ok (.getfield 52, 3) := by decide +kernel
theorem dX10_branchEnd_90 : decode cX10_branchEnd 90 = .ok (.aload_n 0, 1) := by decide +kernel
theorem dX10_branchEnd_91 : decode cX10_branchEnd 91 = .ok (.getfield 55, 3) := by decide +kernel
theorem dX10_branchEnd_94 : decode cX10_branchEnd 94 = .ok (.invokevirtual 152, 3) := by decide +kernel
theorem dX10_branchEnd_5 : decode cX10_branchEnd 5 = .ok (.iload_n 2, 1) := by decide +kernel
theorem dX10_branchEnd_6 : decode cX10_branchEnd 6 = .ok (.iconst 2, 1) := by decide +kernel
theorem dX10_branchEnd_7 : decode cX10_branchEnd 7 = .ok (.if_icmp .ne 9, 3) := by decide +kernel
theorem dX10_branchEnd_16 : decode cX10_branchEnd 16 = .ok (.aload_n 0, 1) := by decide +kernel
theorem dX10_branchEnd_17 : decode cX10_branchEnd 17 = .ok (.getfield 58, 3) := by decide +kernel
theorem dX10_branchEnd_20 : decode cX10_branchEnd 20 = .ok (.iconst 1, 1) := by decide +kernel
theorem dX10_branchEnd_21 : decode cX10_branchEnd 21 = .ok (.aload_n 0, 1) := by decide +kernel
theorem dX10_branchEnd_22 : decode cX10_branchEnd 22 = .ok (.getfield 58, 3) := by decide +kernel
theorem dX10_branchEnd_25 : decode cX10_branchEnd 25 = .ok (.invokevirtual 90, 3) := by decide +kernel
theorem dX10_branchEnd_28 : decode cX10_branchEnd 28 = .ok (.invokevirtual 104, 3) := by decide +kernel
theorem dX10_branchEnd_10 : decode cX10_branchEnd 10 = .ok (.iload_n 1, 1) := by decide +kernel
theorem dX10_branchEnd_11 : decode cX10_branchEnd 11 = .ok (.bipush 12, 2) := by decide +kernel
theorem dX10_branchEnd_13 : decode cX10_branchEnd 13 = .ok (.if_icmp .eq 18, 3) := by decide +kernel
theorem dX10_option_0 : decode cX10_option 0 = .ok (.iload_n 1, 1) := by decide +kernel
theorem dX10_option_1 : decode cX10_option 1 = .ok (.iconst 2, 1) := by decide +kernel
theorem dX10_option_2 : decode cX10_option 2 = .ok (.if_icmp .eq 8, 3) := by decide +kernel
theorem dX10_option_30 : decode cX10_option 30 = .ok (.iload_n 1, 1) := by decide +kernel
theorem dX10_option_31 : decode cX10_option 31 = .ok (.iconst 2, 1) := by decide +kernel
theorem dX10_option_32 : decode cX10_option 32 = .ok (.if_icmp .ne 16, 3) := by decide +kernel
theorem dX10_option_58 : decode cX10_option 58 = .ok (.return_, 1) := by decide +kernel
theorem dX10_option_48 : decode cX10_option 48 = .ok (.aload_n 0, 1) := by decide +kernel
theorem dX10_option_49 : decode cX10_option 49 = .ok (.getfield 62, 3) := by decide +kernel
theorem dX10_option_52 : decode cX10_option 52 = .ok (.bipush 37, 2) := by decide +kernel
theorem dX10_option_54 : decode cX10_option 54 = .ok (.iload_n 1, 1) := by decide +kernel
theorem dX10_option_55 : decode cX10_option 55 = .ok (.invokevirtual 182, 3) := by decide +kernel
theorem dX10_option_35 : decode cX10_option 35 = .ok (.aload_n 0, 1) := by decide +kernel
theorem dX10_option_36 : decode cX10_option 36 = .ok (.getfield 62, 3) := by decide +kernel
theorem dX10_option_39 : decode cX10_option 39 = .ok (.bipush 38, 2) := by decide +kernel
theorem dX10_option_41 : decode cX10_option 41 = .ok (.iload_n 2, 1) := by decide +kernel
theorem dX10_option_42 : decode cX10_option 42 = .ok (.invokevirtual 182, 3) := by decide +kernel
theorem dX10_option_45 : decode cX10_option 45 = .ok (.goto 13, 3) := by decide +kernel
theorem dX10_option_10 : decode cX10_option 10 = .ok (.aload_n 0, 1) := by decide +kernel
theorem dX10_option_11 : decode cX10_option 11 = .ok (.getfield 62, 3) := by decide +kernel
theorem dX10_option_14 : decode cX10_option 14 = .ok (.bipush 23, 2) := by decide +kernel
theorem dX10_option_16 : decode cX10_option 16 = .ok (.iconst 0, 1) := by decide +kernel
theorem dX10_option_17 : decode cX10_option 17 = .ok (.iload_n 2, 1) := by decide +kernel
theorem dX10_option_18 : decode cX10_option 18 = .ok (.aload_n 0, 1) := by decide +kernel
theorem dX10_option_19 : decode cX10_option 19 = .ok (.getfield 62, 3) := by decide +kernel
theorem dX10_option_22 : decode cX10_option 22 = .ok (.getfield 118, 3) := by decide +kernel
theorem dX10_option_25 : decode cX10_option 25 = .ok (.iconst 4, 1) := by decide +kernel
theorem dX10_option_26 : decode cX10_option 26 = .ok (.iadd, 1) := by decide +kernel
theorem dX10_option_27 : decode cX10_option 27 = .ok (.invokevirtual 173, 3) := by decide +kernel
theorem dX10_option_5 : decode cX10_option 5 = .ok (.iload_n 1, 1) := by decide +kernel
theorem dX10_option_6 : decode cX10_option 6 = .ok (.iconst 3, 1) := by decide +kernel
theorem dX10_option_7 : decode cX10_option 7 = .ok (.if_icmp .ne 23, 3) := by decide +kernel
theorem dX10_literal_0 : decode cX10_literal 0 = .ok (.iload_n 1, 1) := by decide +kernel
theorem dX10_literal_1 : decode cX10_literal 1 = .ok (.istore_n 2, 1) := by decide +kernel
theorem dX10_literal_2 : decode cX10_literal 2 = .ok (.aload_n 0, 1) := by decide +kernel
theorem dX10_literal_3 : decode cX10_literal 3 = .ok (.getfield 58, 3) := by decide +kernel
theorem dX10_literal_6 : decode cX10_literal 6 = .ok (.invokevirtual 90, 3) := by decide +kernel
theorem dX10_literal_9 : decode cX10_literal 9 = .ok (.istore_n 3, 1) := by decide +kernel
theorem dX10_literal_10 : decode cX10_literal 10 = .ok (.iload_n 2, 1) := by decide +kernel
theorem dX10_literal_11 : decode cX10_literal 11 = .ok (.bipush 92, 2) := by decide +kernel
theorem dX10_literal_13 : decode cX10_literal 13 = .ok (.if_icmp .ne 60, 3) := by decide +kernel
theorem dX10_literal_73 : decode cX10_literal 73 = .ok (.aload_n 0, 1) := by decide +kernel
theorem dX10_literal_74 : decode cX10_literal 74 = .ok (.getfield 58, 3) := by decide +kernel
theorem dX10_literal_77 : decode cX10_literal 77 = .ok (.dup, 1) := by decide +kernel
theorem dX10_literal_78 : decode cX10_literal 78 = .ok (.getfield 75, 3) := by decide +kernel
theorem dX10_literal_81 : decode cX10_literal 81 = .ok (.iconst 1, 1) := by decide +kernel
theorem dX10_literal_82 : decode cX10_literal 82 = .ok (.iadd, 1) := by decide +kernel
theorem dX10_literal_83 : decode cX10_literal 83 = .ok (.putfield 75, 3) := by decide +kernel
theorem dX10_literal_86 : decode cX10_literal 86 = .ok (.aload_n 0, 1) := by decide +kernel
theorem dX10_literal_87 : decode cX10_literal 87 = .ok (.getfield 37, 3) := by decide +kernel
theorem dX10_literal_90 : decode cX10_literal 90 = .ok (.ifCond .ne 14, 3) := by decide +kernel
theorem dX10_literal_104 : decode cX10_literal 104 = .ok (.aload_n 0, 1) := by decide +kernel
theorem dX10_literal_105 : decode cX10_literal 105 = .ok (.getfield 62, 3) := by decide +kernel
theorem dX10_literal_108 : decode cX10_literal 108 = .ok (.iload_n 2, 1) := by decide +kernel
theorem dX10_literal_109 : decode cX10_literal 109 = .ok (.iload_n 3, 1) := by decide +kernel
theorem dX10_literal_110 : decode cX10_literal 110 = .ok (.invokevirtual 115, 3) := by decide +kernel
theorem dX10_literal_113 : decode cX10_literal 113 = .ok (.aload_n 0, 1) := by decide +kernel
theorem dX10_literal_114 : decode cX10_literal 114 = .ok (.dup, 1) := by decide +kernel
theorem dX10_literal_115 : decode cX10_literal 115 = .ok (.getfield 37, 3) := by decide +kernel
theorem dX10_literal_118 : decode cX10_literal 118 = .ok (.iconst 1, 1) := by decide +kernel
theorem dX10_literal_119 : decode cX10_literal 119 = .ok (.iadd, 1) := by decide +kernel
theorem dX10_literal_120 : decode cX10_literal 120 = .ok (.putfield 37, 3) := by decide +kernel
theorem dX10_literal_123 : decode cX10_literal 123 = .ok (.aload_n 0, 1) := by decide +kernel
theorem dX10_literal_124 : decode cX10_literal 124 = .ok (.aload_n 0, 1) := by decide +kernel
theorem dX10_literal_125 : decode cX10_literal 125 = .ok (.getfield 40, 3) := by decide +kernel
theorem dX10_literal_128 : decode cX10_literal 128 = .ok (.ifCond .eq 19, 3) := by decide +kernel
theorem dX10_literal_148 : decode cX10_literal 148 = .ok (.putfield 40, 3) := by decide +kernel
theorem dX10_literal_151 : decode cX10_literal 151 = .ok (.return_, 1) := by decide +kernel
theorem dX10_literal_147 : decode cX10_literal 147 = .ok (.iconst 0, 1) := by decide +kernel
theorem dX10_literal_131 : decode cX10_literal 131 = .ok (.iload_n 2, 1) := by decide +kernel
theorem dX10_literal_132 : decode cX10_literal 132 = .ok (.bipush 32, 2) := by decide +kernel
theorem dX10_literal_134 : decode cX10_literal 134 = .ok (.if_icmp .eq 9, 3) := by decide +kernel
theorem dX10_literal_143 : decode cX10_literal 143 = .ok (.iconst 1, 1) := by decide +kernel
theorem dX10_literal_144 : decode cX10_literal 144 = .ok (.goto 4, 3) := by decide +kernel
theorem dX10_literal_137 : decode cX10_literal 137 = .ok (.iload_n 2, 1) := by decide +kernel
theorem dX10_literal_138 : decode cX10_literal 138 = .ok (.bipush 9, 2) := by decide +kernel
theorem dX10_literal_140 : decode cX10_literal 140 = .ok (.if_icmp .ne 7, 3) := by decide +kernel
theorem dX10_literal_93 : decode cX10_literal 93 = .ok (.aload_n 0, 1) := by decide +kernel
theorem dX10_literal_94 : decode cX10_literal 94 = .ok (.aload_n 0, 1) := by decide +kernel
theorem dX10_literal_95 : decode cX10_literal 95 = .ok (.getfield 62, 3) := by decide +kernel
theorem dX10_literal_98 : decode cX10_literal 98 = .ok (.getfield 112, 3) := by decide +kernel
theorem dX10_literal_101 : decode cX10_literal 101 = .ok (.putfield 34, 3) := by decide +kernel
theorem dX10_literal_16 : decode cX10_literal 16 = .ok (.aload_n 0, 1) := by decide +kernel
theorem dX10_literal_17 : decode cX10_literal 17 = .ok (.getfield 58, 3) := by decide +kernel
theorem dX10_literal_20 : decode cX10_literal 20 = .ok (.aload_n 0, 1) := by decide +kernel
theorem dX10_literal_21 : decode cX10_literal 21 = .ok (.getfield 58, 3) := by decide +kernel
theorem dX10_literal_24 : decode cX10_literal 24 = .ok (.getfield 75, 3) := by decide +kernel
theorem dX10_literal_27 : decode cX10_literal 27 = .ok (.iconst 1, 1) := by decide +kernel
theorem dX10_literal_28 : decode cX10_literal 28 = .ok (.iadd, 1) := by decide +kernel
theorem dX10_literal_29 : decode cX10_literal 29 = .ok (.invokevirtual 108, 3) := by decide +kernel
theorem dX10_literal_32 : decode cX10_literal 32 = .ok (.istore 4, 2) := by decide +kernel
theorem dX10_literal_34 : decode cX10_literal 34 = .ok (.iload 4, 2) := by decide +kernel
theorem dX10_literal_36 : decode cX10_literal 36 = .ok (.aload_n 0, 1) := by decide +kernel
theorem dX10_literal_37 : decode cX10_literal 37 = .ok (.getfield 9, 3) := by decide +kernel
theorem dX10_literal_40 : decode cX10_literal 40 = .ok (.if_icmp .eq 17, 3) := by decide +kernel
theorem dX10_literal_57 : decode cX10_literal 57 = .ok (.iload 4, 2) := by decide +kernel
theorem dX10_literal_59 : decode cX10_literal 59 = .ok (.istore_n 2, 1) := by decide +kernel
theorem dX10_literal_60 : decode cX10_literal 60 = .ok (.aload_n 0, 1) := by decide +kernel
theorem dX10_literal_61 : decode cX10_literal 61 = .ok (.getfield 58, 3) := by decide +kernel
theorem dX10_literal_64 : decode cX10_literal 64 = .ok (.dup, 1) := by decide +kernel
theorem dX10_literal_65 : decode cX10_literal 65 = .ok (.getfield 75, 3) := by decide +kernel
theorem dX10_literal_68 : decode cX10_literal 68 = .ok (.iconst 1, 1) := by decide +kernel
theorem dX10_literal_69 : decode cX10_literal 69 = .ok (.iadd, 1) := by decide +kernel
theorem dX10_literal_70 : decode cX10_literal 70 = .ok (.putfield 75, 3) := by decide +kernel
theorem dX10_literal_43 : decode cX10_literal 43 = .ok (.iload 4, 2) := by decide +kernel
theorem dX10_literal_45 : decode cX10_literal 45 = .ok (.bipush 92, 2) := by decide +kernel
theorem dX10_literal_47 : decode cX10_literal 47 = .ok (.if_icmp .eq 10, 3) := by decide +kernel
theorem dX10_literal_50 : decode cX10_literal 50 = .ok (.iload 4, 2) := by decide +kernel
theorem dX10_literal_52 : decode cX10_literal 52 = .ok (.bipush 125, 2) := by decide +kernel
theorem dX10_literal_54 : decode cX10_literal 54 = .ok (.if_icmp .ne 19, 3) := by decide +kernel
set_option maxRecDepth 20000 in
theorem kX2_emit___ (l : Launch) (G : zG) (T : tT) (κ : Nat → List Nat) (hst : l.stackTraces = false) (hE : tE G T κ) {a0 : Nat} (h0 : a0 ∈ κ 2) {x1 : Int32} {x2 : Int32} {x3 : Int32} {x4 : Int32} : tMv l G T yX2_emit___ cX2_emit___ 5 [] 1 21 0 0 [.ref a0, .int x1, .int x2, .int x3, .int x4] uT (uPv 0x800000000000000000000000000000000) := by
  refine tMv.intro hst rfl (Nat.le_of_ble_eq_true rfl) ?_
  intro w0 hw0 _ X hC hR hO hX
  refine z_aload_n hC (pc := 0) 0 dX2_emit____0 rfl rfl ?_
  refine z_iload_n hC (pc := 1) 1 dX2_emit____1 rfl rfl ?_
  obtain ⟨q7, hqq7⟩ := hE.o2 h0
  refine t_callVv hC hw0 (pc := 2) (As := [.int x1]) (kX2_emit l G T κ hst hE h0) trivial dmX2_emit zf2 hqq7 dX2_emit____2 zw1316 rfl rfl (Nat.le_of_ble_eq_true rfl) (Nat.le_of_ble_eq_true rfl) (Nat.le_of_ble_eq_true rfl) (Nat.le_of_ble_eq_true rfl) (Nat.le_of_ble_eq_true rfl) (fun _ _ _ h => nomatch h) (fun cw8 nw8 w8 hw8 pw8 => ?_)
  obtain ⟨rfl, rfl, kw8⟩ := pw8
  refine z_aload_n hC (pc := 5) 0 dX2_emit____5 rfl rfl ?_
  refine z_iload_n hC (pc := 6) 2 dX2_emit____6 rfl rfl ?_
  refine t_callVv hC hw8 (pc := 7) (As := [.int x2]) (kX2_emit l G T κ hst hE h0) trivial dmX2_emit zf2 hqq7 dX2_emit____7 zw1316 rfl rfl (Nat.le_of_ble_eq_true rfl) (Nat.le_of_ble_eq_true rfl) (Nat.le_of_ble_eq_true rfl) (Nat.le_of_ble_eq_true rfl) (Nat.le_of_ble_eq_true rfl) (fun _ _ _ h => nomatch h) (fun cw10 nw10 w10 hw10 pw10 => ?_)
  obtain ⟨rfl, rfl, kw10⟩ := pw10
  refine z_aload_n hC (pc := 10) 0 dX2_emit____10 rfl rfl ?_
  refine z_iload_n hC (pc := 11) 3 dX2_emit____11 rfl rfl ?_
  refine t_callVv hC hw10 (pc := 12) (As := [.int x3]) (kX2_emit l G T κ hst hE h0) trivial dmX2_emit zf2 hqq7 dX2_emit____12 zw1316 rfl rfl (Nat.le_of_ble_eq_true rfl) (Nat.le_of_ble_eq_true rfl) (Nat.le_of_ble_eq_true rfl) (Nat.le_of_ble_eq_true rfl) (Nat.le_of_ble_eq_true rfl) (fun _ _ _ h => nomatch h) (fun cw12 nw12 w12 hw12 pw12 => ?_)
  obtain ⟨rfl, rfl, kw12⟩ := pw12
  refine z_aload_n hC (pc := 15) 0 dX2_emit____15 rfl rfl ?_
  refine z_iload hC (pc := 16) 4 dX2_emit____16 rfl ?_
  refine t_callVv hC hw12 (pc := 18) (As := [.int x4]) (kX2_emit l G T κ hst hE h0) trivial dmX2_emit zf2 hqq7 dX2_emit____18 zw1316 rfl rfl (Nat.le_of_ble_eq_true rfl) (Nat.le_of_ble_eq_true rfl) (Nat.le_of_ble_eq_true rfl) (Nat.le_of_ble_eq_true rfl) (Nat.le_of_ble_eq_true rfl) (fun _ _ _ h => nomatch h) (fun cw14 nw14 w14 hw14 pw14 => ?_)
  obtain ⟨rfl, rfl, kw14⟩ := pw14
  exact hR _ _ _ _ _ dX2_emit____21 (Nat.le_of_ble_eq_true rfl) (Nat.le_of_ble_eq_true rfl) ⟨hw14, rfl, rfl, (tKeep.tr (tKeep.tr (tKeep.tr (tKeep.tr tKeep.rf kw8 rfl) kw10 rfl) kw12 rfl) kw14 rfl)⟩
set_option maxRecDepth 20000 in
theorem kX10_escape (l : Launch) (G : zG) (T : tT) (κ : Nat → List Nat) (hst : l.stackTraces = false) (hE : tE G T κ) {a0 : Nat} (h0 : a0 ∈ κ 10) {x1 : Int32} : tMv l G T yX10_escape cX10_escape 5 ["java/lang/IllegalStateException"] 7 103 1 6 [.ref a0, .int x1] uT (uPv 0x1a00000000000000000000000000000000000000000000000000000000000000000000000000000004800000000000000000000000000000000) := by
  refine tMv.intro hst rfl (Nat.le_of_ble_eq_true rfl) ?_
  intro w0 hw0 _ X hC hR hO hX
  refine z_aload_n hC (pc := 0) 0 dX10_escape_0 rfl rfl ?_
  refine u_get hC hw0 (pc := 1) zf10 1 (hE.o10 h0) rfl dX10_escape_1 zw331 (kk := fun va4 ta4 fa4 => ?_)
  obtain ⟨a4, ma4, rfl⟩ := ta4
  refine u_get hC hw0 (pc := 4) zf2 6 (hE.o2 ma4) rfl dX10_escape_4 zw254 (kk := fun vx5 tx5 fx5 => ?_)
  obtain ⟨x5, rfl⟩ := tx5
  refine z_istore_n hC (pc := 7) (lv' := [(2, .int x5), (0, .ref a0), (1, .int x1)]) dX10_escape_7 rfl (by decide) rfl ?_
  refine z_iconst hC (pc := 8) (v := 0) dX10_escape_8 (by decide) ?_
  refine z_istore_n hC (pc := 9) (lv' := [(3, .int 0), (2, .int x5), (0, .ref a0), (1, .int x1)]) dX10_escape_9 rfl (by decide) rfl ?_
  have j10 : ∀ (d10 : Nat), ∀ (w6 : va_W), tW T w6 → tKeep 0x1a00000000000000000000000000000000000000000000000000000000000000000000000000000004000000000000000000000000000000000 w0 w6 → ∀ (x7 : Int32), ¬ x7 < 0 → (2 ^ 31 - (x7 : Int32).toInt).toNat ≤ d10 → zS X G 5 w6 [(0, .ref a0), (1, .int x1), (2, .int x5), (3, .int x7)] 0 0 10 [] := by
    intro d10
    induction d10 with
    | zero => intro w6 hw6 kw6 x7 v8 hd10; exact (t_zero hd10).elim
    | succ d10 ih10 =>
      intro w6 hw6 kw6 x7 v8 hd10
      refine z_iload_n hC (pc := 10) 3 dX10_escape_10 rfl rfl ?_
      refine z_sipush hC (pc := 11) (v := 4000) dX10_escape_11 (by decide) ?_
      have j140 : ∀ (w9 : va_W), tW T w9 → tKeep 0x0 w6 w9 → zS X G 5 w9 [(0, .ref a0), (1, .int x1), (2, .int x5)] 0 0 140 [] := by
        intro w9 hw9 kw9
        refine z_aload_n hC (pc := 140) 0 dX10_escape_140 rfl rfl ?_
        refine u_get hC hw9 (pc := 141) zf10 0 (hE.o10 h0) rfl dX10_escape_141 zw330 (kk := fun va10 ta10 fa10 => ?_)
        obtain ⟨a10, ma10, rfl⟩ := ta10
        obtain ⟨q11, hqq11⟩ := hE.o7 ma10
        refine t_callVi hC hw9 (pc := 144) (As := []) (kX7_peek l G T κ hst hE ma10) trivial dmX7_peek zf7 hqq11 dX10_escape_144 zw1399 rfl rfl (Nat.le_of_ble_eq_true rfl) (Nat.le_of_ble_eq_true rfl) (Nat.le_of_ble_eq_true rfl) (Nat.le_of_ble_eq_true rfl) (Nat.le_of_ble_eq_true rfl) (fun _ _ _ h => nomatch h) (fun x13 cw12 nw12 w12 hw12 pw12 => ?_)
        obtain ⟨rfl, rfl, kw12⟩ := pw12
        refine z_aload_n hC (pc := 147) 0 dX10_escape_147 rfl rfl ?_
        refine u_get hC hw12 (pc := 148) zf10 3 (hE.o10 h0) rfl dX10_escape_148 zw334 (kk := fun vx14 tx14 fx14 => ?_)
        obtain ⟨x14, rfl⟩ := tx14
        have j169 : ∀ (w15 : va_W), tW T w15 → tKeep 0x1800000000000000000000000000000000000000000000000000000000000000000000000000000000000000000000000000000000000000000 w12 w15 → zS X G 5 w15 [(0, .ref a0), (1, .int x1), (2, .int x5)] 0 0 169 [] := by
          intro w15 hw15 kw15
          refine z_aload_n hC (pc := 169) 0 dX10_escape_169 rfl rfl ?_
          refine u_getK hC (pc := 170) zf10 0 (tKeep.F kw15 (tKeep.F kw12 fa10 rfl) rfl) dX10_escape_170 zw330 (kk := ?_)
          refine z_dup hC (pc := 173) dX10_escape_173 rfl ?_
          refine u_get hC hw15 (pc := 174) zf7 5 (hE.o7 ma10) rfl dX10_escape_174 zw124 (kk := fun vx16 tx16 fx16 => ?_)
          obtain ⟨x16, rfl⟩ := tx16
          refine z_iconst hC (pc := 177) (v := 1) dX10_escape_177 (by decide) ?_
          refine z_iadd hC (pc := 178) (v := (x16 + 1)) dX10_escape_178 rfl ?_
          refine u_put hC hw15 (pc := 179) zf7 5 (hE.o7 ma10) rfl ⟨_, rfl⟩ dX10_escape_179 zw124 rfl rfl rfl (kk := fun w17 hw17 fw17 kw17 => ?_)
          refine z_aload_n hC (pc := 182) 0 dX10_escape_182 rfl rfl ?_
          refine u_getK hC (pc := 183) zf10 1 (tKeep.F kw17 (tKeep.F kw15 (tKeep.F kw12 (tKeep.F kw9 (tKeep.F kw6 fa4 rfl) rfl) rfl) rfl) rfl) dX10_escape_183 zw331 (kk := ?_)
          refine z_iconst hC (pc := 186) (v := 3) dX10_escape_186 (by decide) ?_
          refine z_iload_n hC (pc := 187) 1 dX10_escape_187 rfl rfl ?_
          refine z_iload_n hC (pc := 188) 2 dX10_escape_188 rfl rfl ?_
          refine z_aload_n hC (pc := 189) 0 dX10_escape_189 rfl rfl ?_
          refine u_getK hC (pc := 190) zf10 1 (tKeep.F kw17 (tKeep.F kw15 (tKeep.F kw12 (tKeep.F kw9 (tKeep.F kw6 fa4 rfl) rfl) rfl) rfl) rfl) dX10_escape_190 zw331 (kk := ?_)
          refine u_get hC hw17 (pc := 193) zf2 6 (hE.o2 ma4) rfl dX10_escape_193 zw254 (kk := fun vx18 tx18 fx18 => ?_)
          obtain ⟨x18, rfl⟩ := tx18
          refine z_iload_n hC (pc := 196) 2 dX10_escape_196 rfl rfl ?_
          refine z_isub hC (pc := 197) (v := (x18 - x5)) dX10_escape_197 rfl ?_
          obtain ⟨q19, hqq19⟩ := hE.o2 ma4
          refine t_callVv hC hw17 (pc := 198) (As := [.int 3, .int x1, .int x5, .int (x18 - x5)]) (kX2_emit___ l G T κ hst hE ma4) trivial dmX2_emit___ zf2 hqq19 dX10_escape_198 zw1434 rfl rfl (Nat.le_of_ble_eq_true rfl) (Nat.le_of_ble_eq_true rfl) (Nat.le_of_ble_eq_true rfl) (Nat.le_of_ble_eq_true rfl) (Nat.le_of_ble_eq_true rfl) (fun _ _ _ h => nomatch h) (fun cw20 nw20 w20 hw20 pw20 => ?_)
          obtain ⟨rfl, rfl, kw20⟩ := pw20
          exact hR _ _ _ _ _ dX10_escape_201 (Nat.le_of_ble_eq_true rfl) (Nat.le_of_ble_eq_true rfl) ⟨hw20, rfl, rfl, (tKeep.tr (tKeep.tr (tKeep.tr (tKeep.tr (tKeep.tr (tKeep.tr tKeep.rf kw6 rfl) kw9 rfl) kw12 rfl) kw15 rfl) kw17 rfl) kw20 rfl)⟩
        refine z_icmp_eq hC (pc := 151) 169 dX10_escape_151 (by decide) (fun c22 => ?_) (fun c22 => ?_)
        · exact j169 w12 hw12 tKeep.rf
        · refine z_aload_n hC (pc := 154) 0 dX10_escape_154 rfl rfl ?_
          refine u_getK hC (pc := 155) zf10 0 (tKeep.F kw12 fa10 rfl) dX10_escape_155 zw330 (kk := ?_)
          refine z_iconst hC (pc := 158) (v := 1) dX10_escape_158 (by decide) ?_
          refine z_aload_n hC (pc := 159) 0 dX10_escape_159 rfl rfl ?_
          refine u_getK hC (pc := 160) zf10 0 (tKeep.F kw12 fa10 rfl) dX10_escape_160 zw330 (kk := ?_)
          refine t_callVi hC hw12 (pc := 163) (As := []) (kX7_here l G T κ hst hE ma10) trivial dmX7_here zf7 hqq11 dX10_escape_163 zw1368 rfl rfl (Nat.le_of_ble_eq_true rfl) (Nat.le_of_ble_eq_true rfl) (Nat.le_of_ble_eq_true rfl) (Nat.le_of_ble_eq_true rfl) (Nat.le_of_ble_eq_true rfl) (fun _ _ _ h => nomatch h) (fun x24 cw23 nw23 w23 hw23 pw23 => ?_)
          obtain ⟨rfl, rfl, kw23⟩ := pw23
          refine t_callVv hC hw23 (pc := 166) (As := [.int 1, .int x24]) (kX7_fail l G T κ hst hE ma10) trivial dmX7_fail zf7 hqq11 dX10_escape_166 zw1369 rfl rfl (Nat.le_of_ble_eq_true rfl) (Nat.le_of_ble_eq_true rfl) (Nat.le_of_ble_eq_true rfl) (Nat.le_of_ble_eq_true rfl) (Nat.le_of_ble_eq_true rfl) (fun E w q hE hw => hO E w _ _ _ _ _ q hE (Nat.le_of_ble_eq_true rfl) (Nat.le_of_ble_eq_true rfl) hw) (fun cw25 nw25 w25 hw25 pw25 => ?_)
          obtain ⟨rfl, rfl, kw25⟩ := pw25
          exact j169 w25 hw25 (tKeep.tr (tKeep.tr tKeep.rf kw23 rfl) kw25 rfl)
      refine z_icmp_ge hC (pc := 14) 140 dX10_escape_14 (by decide) (fun c27 => ?_) (fun c27 => ?_)
      · refine z_lvs [0, 1, 2] rfl ?_
        exact j140 w6 hw6 tKeep.rf
      · refine z_aload_n hC (pc := 17) 0 dX10_escape_17 rfl rfl ?_
        refine u_get hC hw6 (pc := 18) zf10 0 (hE.o10 h0) rfl dX10_escape_18 zw330 (kk := fun va28 ta28 fa28 => ?_)
        obtain ⟨a28, ma28, rfl⟩ := ta28
        obtain ⟨q29, hqq29⟩ := hE.o7 ma28
        refine t_callVi hC hw6 (pc := 21) (As := []) (kX7_peek l G T κ hst hE ma28) trivial dmX7_peek zf7 hqq29 dX10_escape_21 zw1399 rfl rfl (Nat.le_of_ble_eq_true rfl) (Nat.le_of_ble_eq_true rfl) (Nat.le_of_ble_eq_true rfl) (Nat.le_of_ble_eq_true rfl) (Nat.le_of_ble_eq_true rfl) (fun _ _ _ h => nomatch h) (fun x31 cw30 nw30 w30 hw30 pw30 => ?_)
        obtain ⟨rfl, rfl, kw30⟩ := pw30
        refine z_bipush hC (pc := 24) (v := 92) dX10_escape_24 (by decide) ?_
        refine z_icmp_ne hC (pc := 26) 140 dX10_escape_26 (by decide) (fun c32 => ?_) (fun c32 => ?_)
        · refine z_lvs [0, 1, 2] rfl ?_
          exact j140 w30 hw30 (tKeep.tr tKeep.rf kw30 rfl)
        · refine z_aload_n hC (pc := 29) 0 dX10_escape_29 rfl rfl ?_
          refine u_getK hC (pc := 30) zf10 0 (tKeep.F kw30 fa28 rfl) dX10_escape_30 zw330 (kk := ?_)
          refine z_dup hC (pc := 33) dX10_escape_33 rfl ?_
          refine u_get hC hw30 (pc := 34) zf7 5 (hE.o7 ma28) rfl dX10_escape_34 zw124 (kk := fun vx33 tx33 fx33 => ?_)
          obtain ⟨x33, rfl⟩ := tx33
          refine z_iconst hC (pc := 37) (v := 1) dX10_escape_37 (by decide) ?_
          refine z_iadd hC (pc := 38) (v := (x33 + 1)) dX10_escape_38 rfl ?_
          refine u_put hC hw30 (pc := 39) zf7 5 (hE.o7 ma28) rfl ⟨_, rfl⟩ dX10_escape_39 zw124 rfl rfl rfl (kk := fun w34 hw34 fw34 kw34 => ?_)
          refine z_aload_n hC (pc := 42) 0 dX10_escape_42 rfl rfl ?_
          refine u_getK hC (pc := 43) zf10 0 (tKeep.F kw34 (tKeep.F kw30 fa28 rfl) rfl) dX10_escape_43 zw330 (kk := ?_)
          refine t_callVi hC hw34 (pc := 46) (As := []) (kX7_peek l G T κ hst hE ma28) trivial dmX7_peek zf7 hqq29 dX10_escape_46 zw1399 rfl rfl (Nat.le_of_ble_eq_true rfl) (Nat.le_of_ble_eq_true rfl) (Nat.le_of_ble_eq_true rfl) (Nat.le_of_ble_eq_true rfl) (Nat.le_of_ble_eq_true rfl) (fun _ _ _ h => nomatch h) (fun x36 cw35 nw35 w35 hw35 pw35 => ?_)
          obtain ⟨rfl, rfl, kw35⟩ := pw35
          refine z_istore hC (pc := 49) (lv' := [(4, .int x36), (0, .ref a0), (1, .int x1), (2, .int x5), (3, .int x7)]) dX10_escape_49 (by decide) rfl ?_
          refine z_iload hC (pc := 51) 0 dX10_escape_51 rfl ?_
          refine z_bipush hC (pc := 53) (v := 110) dX10_escape_53 (by decide) ?_
          have j87 : ∀ (w37 : va_W), tW T w37 → tKeep 0x1800000000000000000000000000000000000000000000000000000000000000000000000000000000000000000000000000000000000000000 w35 w37 → zS X G 5 w37 [(0, .ref a0), (1, .int x1), (2, .int x5), (3, .int x7), (4, .int x36)] 0 0 87 [] := by
            intro w37 hw37 kw37
            refine z_aload_n hC (pc := 87) 0 dX10_escape_87 rfl rfl ?_
            refine u_getK hC (pc := 88) zf10 1 (tKeep.F kw37 (tKeep.F kw35 (tKeep.F kw34 (tKeep.F kw30 (tKeep.F kw6 fa4 rfl) rfl) rfl) rfl) rfl) dX10_escape_88 zw331 (kk := ?_)
            refine z_iload hC (pc := 91) 4 dX10_escape_91 rfl ?_
            refine z_bipush hC (pc := 93) (v := 110) dX10_escape_93 (by decide) ?_
            have j117 : ∀ (x38 : Int32), zS X G 5 w37 [(0, .ref a0), (1, .int x1), (2, .int x5), (3, .int x7)] 0 0 117 [.int x38, .ref a4] := by
              intro x38
              refine z_iload_n hC (pc := 117) 1 dX10_escape_117 rfl rfl ?_
              obtain ⟨q39, hqq39⟩ := hE.o2 ma4
              refine t_callVv hC hw37 (pc := 118) (As := [.int x38, .int x1]) (kX2_keep l G T κ hst hE ma4) trivial dmX2_keep zf2 hqq39 dX10_escape_118 zw1433 rfl rfl (Nat.le_of_ble_eq_true rfl) (Nat.le_of_ble_eq_true rfl) (Nat.le_of_ble_eq_true rfl) (Nat.le_of_ble_eq_true rfl) (Nat.le_of_ble_eq_true rfl) (fun _ _ _ h => nomatch h) (fun cw40 nw40 w40 hw40 pw40 => ?_)
              obtain ⟨rfl, rfl, kw40⟩ := pw40
              refine z_aload_n hC (pc := 121) 0 dX10_escape_121 rfl rfl ?_
              refine u_getK hC (pc := 122) zf10 0 (tKeep.F kw40 (tKeep.F kw37 (tKeep.F kw35 (tKeep.F kw34 (tKeep.F kw30 fa28 rfl) rfl) rfl) rfl) rfl) dX10_escape_122 zw330 (kk := ?_)
              refine z_dup hC (pc := 125) dX10_escape_125 rfl ?_
              refine u_getK hC (pc := 126) zf7 5 (tKeep.F kw40 (tKeep.F kw37 (tKeep.F kw35 fw34 rfl) rfl) rfl) dX10_escape_126 zw124 (kk := ?_)
              refine z_iconst hC (pc := 129) (v := 1) dX10_escape_129 (by decide) ?_
              refine z_iadd hC (pc := 130) (v := ((x33 + 1) + 1)) dX10_escape_130 rfl ?_
              refine u_put hC hw40 (pc := 131) zf7 5 (hE.o7 ma28) rfl ⟨_, rfl⟩ dX10_escape_131 zw124 rfl rfl rfl (kk := fun w42 hw42 fw42 kw42 => ?_)
              refine z_iinc hC (pc := 134) (v := (x7 + 1)) (lv' := [(3, .int (x7 + 1)), (0, .ref a0), (1, .int x1), (2, .int x5)]) 3 dX10_escape_134 rfl (congrArg _ (by decide)) (by decide) rfl ?_
              refine z_goto hC (pc := 137) 10 dX10_escape_137 (by decide) ?_
              refine z_lvs [1, 2, 3, 0] rfl ?_
              exact ih10 w42 hw42 (tKeep.tr (tKeep.tr (tKeep.tr (tKeep.tr (tKeep.tr (tKeep.tr (tKeep.tr tKeep.rf kw6 rfl) kw30 rfl) kw34 rfl) kw35 rfl) kw37 rfl) kw40 rfl) kw42 rfl) (x7 + 1) (t_nnI v8 (Int32.not_le.mp c27)) (t_up (Int32.not_le.mp c27) hd10)
            refine z_icmp_ne hC (pc := 95) 103 dX10_escape_95 (by decide) (fun c43 => ?_) (fun c43 => ?_)
            · refine z_iload hC (pc := 103) 4 dX10_escape_103 rfl ?_
              refine z_bipush hC (pc := 105) (v := 116) dX10_escape_105 (by decide) ?_
              refine z_icmp_ne hC (pc := 107) 115 dX10_escape_107 (by decide) (fun c44 => ?_) (fun c44 => ?_)
              · refine z_bipush hC (pc := 115) (v := 32) dX10_escape_115 (by decide) ?_
                refine z_lvs [0, 1, 2, 3] rfl ?_
                exact j117 32
              · refine z_bipush hC (pc := 110) (v := 9) dX10_escape_110 (by decide) ?_
                refine z_goto hC (pc := 112) 117 dX10_escape_112 (by decide) ?_
                refine z_lvs [0, 1, 2, 3] rfl ?_
                exact j117 9
            · refine z_bipush hC (pc := 98) (v := 10) dX10_escape_98 (by decide) ?_
              refine z_goto hC (pc := 100) 117 dX10_escape_100 (by decide) ?_
              refine z_lvs [0, 1, 2, 3] rfl ?_
              exact j117 10
          refine z_icmp_eq hC (pc := 55) 87 dX10_escape_55 (by decide) (fun c45 => ?_) (fun c45 => ?_)
          · refine z_lvs [1, 2, 3, 4, 0] rfl ?_
            exact j87 w35 hw35 tKeep.rf
          · refine z_iload hC (pc := 58) 0 dX10_escape_58 rfl ?_
            refine z_bipush hC (pc := 60) (v := 116) dX10_escape_60 (by decide) ?_
            refine z_icmp_eq hC (pc := 62) 87 dX10_escape_62 (by decide) (fun c46 => ?_) (fun c46 => ?_)
            · refine z_lvs [1, 2, 3, 4, 0] rfl ?_
              exact j87 w35 hw35 tKeep.rf
            · refine z_iload hC (pc := 65) 0 dX10_escape_65 rfl ?_
              refine z_bipush hC (pc := 67) (v := 32) dX10_escape_67 (by decide) ?_
              refine z_icmp_eq hC (pc := 69) 87 dX10_escape_69 (by decide) (fun c47 => ?_) (fun c47 => ?_)
              · refine z_lvs [1, 2, 3, 4, 0] rfl ?_
                exact j87 w35 hw35 tKeep.rf
              · refine z_aload_n hC (pc := 72) 1 dX10_escape_72 rfl rfl ?_
                refine u_getK hC (pc := 73) zf10 0 (tKeep.F kw35 (tKeep.F kw34 (tKeep.F kw30 fa28 rfl) rfl) rfl) dX10_escape_73 zw330 (kk := ?_)
                refine z_iconst hC (pc := 76) (v := 1) dX10_escape_76 (by decide) ?_
                refine z_aload_n hC (pc := 77) 1 dX10_escape_77 rfl rfl ?_
                refine u_getK hC (pc := 78) zf10 0 (tKeep.F kw35 (tKeep.F kw34 (tKeep.F kw30 fa28 rfl) rfl) rfl) dX10_escape_78 zw330 (kk := ?_)
                refine t_callVi hC hw35 (pc := 81) (As := []) (kX7_here l G T κ hst hE ma28) trivial dmX7_here zf7 hqq29 dX10_escape_81 zw1368 rfl rfl (Nat.le_of_ble_eq_true rfl) (Nat.le_of_ble_eq_true rfl) (Nat.le_of_ble_eq_true rfl) (Nat.le_of_ble_eq_true rfl) (Nat.le_of_ble_eq_true rfl) (fun _ _ _ h => nomatch h) (fun x49 cw48 nw48 w48 hw48 pw48 => ?_)
                obtain ⟨rfl, rfl, kw48⟩ := pw48
                refine t_callVv hC hw48 (pc := 84) (As := [.int 1, .int x49]) (kX7_fail l G T κ hst hE ma28) trivial dmX7_fail zf7 hqq29 dX10_escape_84 zw1369 rfl rfl (Nat.le_of_ble_eq_true rfl) (Nat.le_of_ble_eq_true rfl) (Nat.le_of_ble_eq_true rfl) (Nat.le_of_ble_eq_true rfl) (Nat.le_of_ble_eq_true rfl) (fun E w q hE hw => hO E w _ _ _ _ _ q hE (Nat.le_of_ble_eq_true rfl) (Nat.le_of_ble_eq_true rfl) hw) (fun cw50 nw50 w50 hw50 pw50 => ?_)
                obtain ⟨rfl, rfl, kw50⟩ := pw50
                refine z_lvs [1, 2, 3, 4, 0] rfl ?_
                exact j87 w50 hw50 (tKeep.tr (tKeep.tr tKeep.rf kw48 rfl) kw50 rfl)
  refine z_lvs [2, 3, 1, 0] rfl ?_
  exact j10 _ w0 hw0 tKeep.rf 0 (by decide) (Nat.le_refl _)
set_option maxRecDepth 20000 in
theorem kX10_plainTag (l : Launch) (G : zG) (T : tT) (κ : Nat → List Nat) (hst : l.stackTraces = false) (hE : tE G T κ) {a0 : Nat} (h0 : a0 ∈ κ 10) {x1 : Int32} : tMv l G T yX10_plainTag cX10_plainTag 4 ["java/lang/IllegalStateException"] 8 127 1 6 [.ref a0, .int x1] uT (uPv 0xc000000000000000000000000000000000000000000000001a00000000000000000000000000000000000000000000000000000000000000000000000000000004800000000000000000000000000000000) := by
  refine tMv.intro hst rfl (Nat.le_of_ble_eq_true rfl) ?_
  intro w0 hw0 _ X hC hR hO hX
  refine z_aload_n hC (pc := 0) 0 dX10_plainTag_0 rfl rfl ?_
  refine u_get hC hw0 (pc := 1) zf10 11 (hE.o10 h0) rfl dX10_plainTag_1 zw343 (kk := fun vx4 tx4 fx4 => ?_)
  obtain ⟨x4, rfl, zx4⟩ := t_zof tx4
  refine z_istore_n hC (pc := 4) (lv' := [(2, .int x4), (0, .ref a0), (1, .int x1)]) dX10_plainTag_4 rfl (by decide) rfl ?_
  refine z_aload_n hC (pc := 5) 1 dX10_plainTag_5 rfl rfl ?_
  obtain ⟨q5, hqq5⟩ := hE.o10 h0
  refine t_callVi hC hw0 (pc := 6) (As := []) (kX10_flush l G T κ hst hE h0) trivial dmX10_flush zf10 hqq5 dX10_plainTag_6 zw1404 rfl rfl (Nat.le_of_ble_eq_true rfl) (Nat.le_of_ble_eq_true rfl) (Nat.le_of_ble_eq_true rfl) (Nat.le_of_ble_eq_true rfl) (Nat.le_of_ble_eq_true rfl) (fun _ _ _ h => nomatch h) (fun x7 cw6 nw6 w6 hw6 pw6 => ?_)
  obtain ⟨rfl, rfl, kw6⟩ := pw6
  refine z_istore_n hC (pc := 9) (lv' := [(3, .int x7), (2, .int x4), (0, .ref a0), (1, .int x1)]) dX10_plainTag_9 rfl (by decide) rfl ?_
  refine z_aload_n hC (pc := 10) 2 dX10_plainTag_10 rfl rfl ?_
  refine u_get hC hw6 (pc := 11) zf10 0 (hE.o10 h0) rfl dX10_plainTag_11 zw330 (kk := fun va8 ta8 fa8 => ?_)
  obtain ⟨a8, ma8, rfl⟩ := ta8
  obtain ⟨q9, hqq9⟩ := hE.o7 ma8
  refine t_callVi hC hw6 (pc := 14) (As := []) (kX7_peek l G T κ hst hE ma8) trivial dmX7_peek zf7 hqq9 dX10_plainTag_14 zw1399 rfl rfl (Nat.le_of_ble_eq_true rfl) (Nat.le_of_ble_eq_true rfl) (Nat.le_of_ble_eq_true rfl) (Nat.le_of_ble_eq_true rfl) (Nat.le_of_ble_eq_true rfl) (fun _ _ _ h => nomatch h) (fun x11 cw10 nw10 w10 hw10 pw10 => ?_)
  obtain ⟨rfl, rfl, kw10⟩ := pw10
  refine z_bipush hC (pc := 17) (v := 33) dX10_plainTag_17 (by decide) ?_
  refine z_icmp_ne hC (pc := 19) 33 dX10_plainTag_19 (by decide) (fun c12 => ?_) (fun c12 => ?_)
  · refine z_aload_n hC (pc := 33) 2 dX10_plainTag_33 rfl rfl ?_
    refine z_iconst hC (pc := 34) (v := 0) dX10_plainTag_34 (by decide) ?_
    refine u_put hC hw10 (pc := 35) zf10 11 (hE.o10 h0) rfl (Or.inl rfl) dX10_plainTag_35 zw343 rfl rfl rfl (kk := fun w13 hw13 fw13 kw13 => ?_)
    refine z_aload_n hC (pc := 38) 2 dX10_plainTag_38 rfl rfl ?_
    refine u_getK hC (pc := 39) zf10 0 (tKeep.F kw13 (tKeep.F kw10 fa8 rfl) rfl) dX10_plainTag_39 zw330 (kk := ?_)
    refine z_aload_n hC (pc := 42) 2 dX10_plainTag_42 rfl rfl ?_
    refine u_getK hC (pc := 43) zf10 0 (tKeep.F kw13 (tKeep.F kw10 fa8 rfl) rfl) dX10_plainTag_43 zw330 (kk := ?_)
    refine u_get hC hw13 (pc := 46) zf7 5 (hE.o7 ma8) rfl dX10_plainTag_46 zw124 (kk := fun vx14 tx14 fx14 => ?_)
    obtain ⟨x14, rfl⟩ := tx14
    refine z_iconst hC (pc := 49) (v := 1) dX10_plainTag_49 (by decide) ?_
    refine z_iadd hC (pc := 50) (v := (x14 + 1)) dX10_plainTag_50 rfl ?_
    refine t_callVi hC hw13 (pc := 51) (As := [.int (x14 + 1)]) (kX7_at l G T κ hst hE ma8) trivial dmX7_at zf7 hqq9 dX10_plainTag_51 zw1379 rfl rfl (Nat.le_of_ble_eq_true rfl) (Nat.le_of_ble_eq_true rfl) (Nat.le_of_ble_eq_true rfl) (Nat.le_of_ble_eq_true rfl) (Nat.le_of_ble_eq_true rfl) (fun _ _ _ h => nomatch h) (fun x16 cw15 nw15 w15 hw15 pw15 => ?_)
    obtain ⟨rfl, rfl, kw15⟩ := pw15
    refine z_bipush hC (pc := 54) (v := 92) dX10_plainTag_54 (by decide) ?_
    have j71 : ∀ (w17 : va_W), tW T w17 → tKeep 0x1a00000000000000000000000000000000000000000000000000000000000000000000000000000004800000000000000000000000000000000 w15 w17 → zS X G 4 w17 [] 0 0 71 [] := by
      intro w17 hw17 kw17
      exact hR _ _ _ _ _ dX10_plainTag_71 (Nat.le_of_ble_eq_true rfl) (Nat.le_of_ble_eq_true rfl) ⟨hw17, rfl, rfl, (tKeep.tr (tKeep.tr (tKeep.tr (tKeep.tr (tKeep.tr tKeep.rf kw6 rfl) kw10 rfl) kw13 rfl) kw15 rfl) kw17 rfl)⟩
    refine z_icmp_ne hC (pc := 56) 66 dX10_plainTag_56 (by decide) (fun c18 => ?_) (fun c18 => ?_)
    · refine z_aload_n hC (pc := 66) 2 dX10_plainTag_66 rfl rfl ?_
      refine z_iload_n hC (pc := 67) 3 dX10_plainTag_67 rfl rfl ?_
      refine t_callVv hC hw15 (pc := 68) (As := [.int x1]) (kX10_escape l G T κ hst hE h0) trivial dmX10_escape zf10 hqq5 dX10_plainTag_68 zw1429 rfl rfl (Nat.le_of_ble_eq_true rfl) (Nat.le_of_ble_eq_true rfl) (Nat.le_of_ble_eq_true rfl) (Nat.le_of_ble_eq_true rfl) (Nat.le_of_ble_eq_true rfl) (fun E w q hE hw => hO E w _ _ _ _ _ q hE (Nat.le_of_ble_eq_true rfl) (Nat.le_of_ble_eq_true rfl) hw) (fun cw19 nw19 w19 hw19 pw19 => ?_)
      obtain ⟨rfl, rfl, kw19⟩ := pw19
      refine z_lvs [] rfl ?_
      exact j71 w19 hw19 (tKeep.tr tKeep.rf kw19 rfl)
    · refine z_aload_n hC (pc := 59) 2 dX10_plainTag_59 rfl rfl ?_
      refine t_callVv hC hw15 (pc := 60) (As := []) (kX10_joinLines l G T κ hst hE h0) trivial dmX10_joinLines zf10 hqq5 dX10_plainTag_60 zw1425 rfl rfl (Nat.le_of_ble_eq_true rfl) (Nat.le_of_ble_eq_true rfl) (Nat.le_of_ble_eq_true rfl) (Nat.le_of_ble_eq_true rfl) (Nat.le_of_ble_eq_true rfl) (fun E w q hE hw => hO E w _ _ _ _ _ q hE (Nat.le_of_ble_eq_true rfl) (Nat.le_of_ble_eq_true rfl) hw) (fun cw21 nw21 w21 hw21 pw21 => ?_)
      obtain ⟨rfl, rfl, kw21⟩ := pw21
      refine z_goto hC (pc := 63) 71 dX10_plainTag_63 (by decide) ?_
      refine z_lvs [] rfl ?_
      exact j71 w21 hw21 (tKeep.tr tKeep.rf kw21 rfl)
  · refine z_aload_n hC (pc := 22) 2 dX10_plainTag_22 rfl rfl ?_
    refine t_callVv hC hw10 (pc := 23) (As := []) (kX10_comment l G T κ hst hE h0) trivial dmX10_comment zf10 hqq5 dX10_plainTag_23 zw1416 rfl rfl (Nat.le_of_ble_eq_true rfl) (Nat.le_of_ble_eq_true rfl) (Nat.le_of_ble_eq_true rfl) (Nat.le_of_ble_eq_true rfl) (Nat.le_of_ble_eq_true rfl) (fun E w q hE hw => hO E w _ _ _ _ _ q hE (Nat.le_of_ble_eq_true rfl) (Nat.le_of_ble_eq_true rfl) hw) (fun cw23 nw23 w23 hw23 pw23 => ?_)
    obtain ⟨rfl, rfl, kw23⟩ := pw23
    refine z_aload_n hC (pc := 26) 2 dX10_plainTag_26 rfl rfl ?_
    refine z_iload_n hC (pc := 27) 1 dX10_plainTag_27 rfl rfl ?_
    refine z_iload_n hC (pc := 28) 0 dX10_plainTag_28 rfl rfl ?_
    refine t_callVv hC hw23 (pc := 29) (As := [.int x4, .int x7]) (kX10_restOfLine l G T κ hst hE h0) trivial dmX10_restOfLine zf10 hqq5 dX10_plainTag_29 zw1421 rfl rfl (Nat.le_of_ble_eq_true rfl) (Nat.le_of_ble_eq_true rfl) (Nat.le_of_ble_eq_true rfl) (Nat.le_of_ble_eq_true rfl) (Nat.le_of_ble_eq_true rfl) (fun _ _ _ h => nomatch h) (fun cw25 nw25 w25 hw25 pw25 => ?_)
    obtain ⟨rfl, rfl, kw25⟩ := pw25
    exact hR _ _ _ _ _ dX10_plainTag_32 (Nat.le_of_ble_eq_true rfl) (Nat.le_of_ble_eq_true rfl) ⟨hw25, rfl, rfl, (tKeep.tr (tKeep.tr (tKeep.tr (tKeep.tr tKeep.rf kw6 rfl) kw10 rfl) kw23 rfl) kw25 rfl)⟩
set_option maxRecDepth 20000 in
theorem kX7_need (l : Launch) (G : zG) (T : tT) (κ : Nat → List Nat) (hst : l.stackTraces = false) (hE : tE G T κ) {a0 : Nat} (h0 : a0 ∈ κ 7) {x1 : Int32} : tMv l G T yX7_need cX7_need 2 ["java/lang/IllegalStateException"] 7 103 1 6 [.ref a0, .int x1] uT (uPv 0x1a00000000000000000000000000000000000000000000000000000000000000000000000000000000000000000000000000000000000000000) := by
  refine tMv.intro hst rfl (Nat.le_of_ble_eq_true rfl) ?_
  intro w0 hw0 _ X hC hR hO hX
  refine z_aload_n hC (pc := 0) 0 dX7_need_0 rfl rfl ?_
  obtain ⟨q4, hqq4⟩ := hE.o7 h0
  refine t_callVv hC hw0 (pc := 1) (As := []) (kX7_blanks l G T κ hst hE h0) trivial dmX7_blanks zf7 hqq4 dX7_need_1 zw1452 rfl rfl (Nat.le_of_ble_eq_true rfl) (Nat.le_of_ble_eq_true rfl) (Nat.le_of_ble_eq_true rfl) (Nat.le_of_ble_eq_true rfl) (Nat.le_of_ble_eq_true rfl) (fun _ _ _ h => nomatch h) (fun cw5 nw5 w5 hw5 pw5 => ?_)
  obtain ⟨rfl, rfl, kw5⟩ := pw5
  refine z_aload_n hC (pc := 4) 0 dX7_need_4 rfl rfl ?_
  refine u_get hC hw5 (pc := 5) zf7 5 (hE.o7 h0) rfl dX7_need_5 zw122 (kk := fun vx7 tx7 fx7 => ?_)
  obtain ⟨x7, rfl⟩ := tx7
  have j56 : ∀ (w8 : va_W), tW T w8 → tKeep 0x1800000000000000000000000000000000000000000000000000000000000000000000000000000000000000000000000000000000000000000 w5 w8 → zS X G 2 w8 [(0, .ref a0)] 0 0 56 [] := by
    intro w8 hw8 kw8
    refine z_aload_n hC (pc := 56) 0 dX7_need_56 rfl rfl ?_
    refine z_dup hC (pc := 57) dX7_need_57 rfl ?_
    refine u_getK hC (pc := 58) zf7 5 (tKeep.F kw8 fx7 rfl) dX7_need_58 zw122 (kk := ?_)
    refine z_iconst hC (pc := 61) (v := 1) dX7_need_61 (by decide) ?_
    refine z_iadd hC (pc := 62) (v := (x7 + 1)) dX7_need_62 rfl ?_
    refine u_put hC hw8 (pc := 63) zf7 5 (hE.o7 h0) rfl ⟨_, rfl⟩ dX7_need_63 zw122 rfl rfl rfl (kk := fun w9 hw9 fw9 kw9 => ?_)
    exact hR _ _ _ _ _ dX7_need_66 (Nat.le_of_ble_eq_true rfl) (Nat.le_of_ble_eq_true rfl) ⟨hw9, rfl, rfl, (tKeep.tr (tKeep.tr (tKeep.tr tKeep.rf kw5 rfl) kw8 rfl) kw9 rfl)⟩
  have j47 : zS X G 2 w5 [(0, .ref a0)] 0 0 47 [] := by
    refine z_aload_n hC (pc := 47) 0 dX7_need_47 rfl rfl ?_
    refine z_iconst hC (pc := 48) (v := 1) dX7_need_48 (by decide) ?_
    refine z_aload_n hC (pc := 49) 0 dX7_need_49 rfl rfl ?_
    refine t_callVi hC hw5 (pc := 50) (As := []) (kX7_here l G T κ hst hE h0) trivial dmX7_here zf7 hqq4 dX7_need_50 zw1276 rfl rfl (Nat.le_of_ble_eq_true rfl) (Nat.le_of_ble_eq_true rfl) (Nat.le_of_ble_eq_true rfl) (Nat.le_of_ble_eq_true rfl) (Nat.le_of_ble_eq_true rfl) (fun _ _ _ h => nomatch h) (fun x11 cw10 nw10 w10 hw10 pw10 => ?_)
    obtain ⟨rfl, rfl, kw10⟩ := pw10
    refine t_callVv hC hw10 (pc := 53) (As := [.int 1, .int x11]) (kX7_fail l G T κ hst hE h0) trivial dmX7_fail zf7 hqq4 dX7_need_53 zw1020 rfl rfl (Nat.le_of_ble_eq_true rfl) (Nat.le_of_ble_eq_true rfl) (Nat.le_of_ble_eq_true rfl) (Nat.le_of_ble_eq_true rfl) (Nat.le_of_ble_eq_true rfl) (fun E w q hE hw => hO E w _ _ _ _ _ q hE (Nat.le_of_ble_eq_true rfl) (Nat.le_of_ble_eq_true rfl) hw) (fun cw12 nw12 w12 hw12 pw12 => ?_)
    obtain ⟨rfl, rfl, kw12⟩ := pw12
    exact j56 w12 hw12 (tKeep.tr (tKeep.tr tKeep.rf kw10 rfl) kw12 rfl)
  refine z_if_lt hC (pc := 8) 47 dX7_need_8 (by decide) (fun c14 => ?_) (fun c14 => ?_)
  · refine z_lvs [0] rfl ?_
    exact j47
  · refine z_aload_n hC (pc := 11) 0 dX7_need_11 rfl rfl ?_
    refine u_getK hC (pc := 12) zf7 5 fx7 dX7_need_12 zw122 (kk := ?_)
    refine z_aload_n hC (pc := 15) 0 dX7_need_15 rfl rfl ?_
    refine u_get hC hw5 (pc := 16) zf7 4 (hE.o7 h0) rfl dX7_need_16 zw119 (kk := fun vx15 tx15 fx15 => ?_)
    obtain ⟨x15, rfl⟩ := tx15
    refine z_icmp_ge hC (pc := 19) 47 dX7_need_19 (by decide) (fun c16 => ?_) (fun c16 => ?_)
    · refine z_lvs [0] rfl ?_
      exact j47
    · refine z_aload_n hC (pc := 22) 0 dX7_need_22 rfl rfl ?_
      refine u_getK hC (pc := 23) zf7 5 fx7 dX7_need_23 zw122 (kk := ?_)
      refine z_aload_n hC (pc := 26) 0 dX7_need_26 rfl rfl ?_
      refine u_get hC hw5 (pc := 27) zf7 0 (hE.o7 h0) rfl dX7_need_27 zw115 (kk := fun va17 ta17 fa17 => ?_)
      obtain ⟨a17, ma17, rfl⟩ := ta17
      obtain ⟨N18, gN18, AN18⟩ := hE.byts ma17
      have hN18 : N18 < 2 ^ 31 := Nat.lt_trans gN18 (by decide)
      refine u_alenB hC hw5 (pc := 30) (Or.inl AN18) dX7_need_30 ?_
      refine z_icmp_ge hC (pc := 31) 47 dX7_need_31 (by decide) (fun c19 => ?_) (fun c19 => ?_)
      · refine z_lvs [0] rfl ?_
        exact j47
      · refine z_aload_n hC (pc := 34) 0 dX7_need_34 rfl rfl ?_
        refine u_getK hC (pc := 35) zf7 0 fa17 dX7_need_35 zw115 (kk := ?_)
        refine z_aload_n hC (pc := 38) 0 dX7_need_38 rfl rfl ?_
        refine u_getK hC (pc := 39) zf7 5 fx7 dX7_need_39 zw122 (kk := ?_)
        refine u_bald hC hw5 (pc := 42) (Or.inl AN18) dX7_need_42 (t_inB hN18 c14 c19) (fun x20 => ?_)
        refine z_iload_n hC (pc := 43) 1 dX7_need_43 rfl rfl ?_
        refine z_icmp_eq hC (pc := 44) 56 dX7_need_44 (by decide) (fun c21 => ?_) (fun c21 => ?_)
        · refine z_lvs [0] rfl ?_
          exact j56 w5 hw5 tKeep.rf
        · refine z_lvs [0] rfl ?_
          exact j47
set_option maxRecDepth 20000 in
theorem kX10_regionEnd (l : Launch) (G : zG) (T : tT) (κ : Nat → List Nat) (hst : l.stackTraces = false) (hE : tE G T κ) {a0 : Nat} (h0 : a0 ∈ κ 10) {x1 : Int32} {x2 : Int32} : tMi l G T yX10_regionEnd cX10_regionEnd 5 .int ["java/lang/IllegalStateException"] 8 124 1 6 [.ref a0, .int x1, .int x2] uT (uPi 0xc000000000000000000000000000000000000000000000001a00000000000000000000000000000000000000000000000000000000000000000000000000000000800000000000000000000000000000000) := by
  refine tMi.intro hst rfl (Nat.le_of_ble_eq_true rfl) ?_
  intro w0 hw0 _ X hC hR hO hX
  refine z_iload_n hC (pc := 0) 2 dX10_regionEnd_0 rfl rfl ?_
  refine z_iconst hC (pc := 1) (v := 3) dX10_regionEnd_1 (by decide) ?_
  have j20 : ∀ (w5 : va_W), tW T w5 → tKeep 0x1800000000000000000000000000000000000000000000000000000000000000000000000000000000000000000000000000000000000000000 w0 w5 → zS X G 5 w5 [(0, .ref a0), (1, .int x1)] 0 0 20 [] := by
    intro w5 hw5 kw5
    refine z_aload_n hC (pc := 20) 0 dX10_regionEnd_20 rfl rfl ?_
    refine u_get hC hw5 (pc := 21) zf10 11 (hE.o10 h0) rfl dX10_regionEnd_21 zw343 (kk := fun vx6 tx6 fx6 => ?_)
    obtain ⟨x6, rfl, zx6⟩ := t_zof tx6
    refine z_istore_n hC (pc := 24) (lv' := [(3, .int x6), (0, .ref a0), (1, .int x1)]) dX10_regionEnd_24 rfl (by decide) rfl ?_
    refine z_aload_n hC (pc := 25) 1 dX10_regionEnd_25 rfl rfl ?_
    obtain ⟨q7, hqq7⟩ := hE.o10 h0
    refine t_callVi hC hw5 (pc := 26) (As := []) (kX10_flush l G T κ hst hE h0) trivial dmX10_flush zf10 hqq7 dX10_regionEnd_26 zw1404 rfl rfl (Nat.le_of_ble_eq_true rfl) (Nat.le_of_ble_eq_true rfl) (Nat.le_of_ble_eq_true rfl) (Nat.le_of_ble_eq_true rfl) (Nat.le_of_ble_eq_true rfl) (fun _ _ _ h => nomatch h) (fun x9 cw8 nw8 w8 hw8 pw8 => ?_)
    obtain ⟨rfl, rfl, kw8⟩ := pw8
    refine z_istore hC (pc := 29) (lv' := [(4, .int x9), (3, .int x6), (0, .ref a0), (1, .int x1)]) dX10_regionEnd_29 (by decide) rfl ?_
    refine z_aload_n hC (pc := 31) 2 dX10_regionEnd_31 rfl rfl ?_
    refine u_get hC hw8 (pc := 32) zf10 0 (hE.o10 h0) rfl dX10_regionEnd_32 zw330 (kk := fun va10 ta10 fa10 => ?_)
    obtain ⟨a10, ma10, rfl⟩ := ta10
    refine z_iload_n hC (pc := 35) 3 dX10_regionEnd_35 rfl rfl ?_
    refine u_put hC hw8 (pc := 36) zf7 5 (hE.o7 ma10) rfl ⟨_, rfl⟩ dX10_regionEnd_36 zw124 rfl rfl rfl (kk := fun w11 hw11 fw11 kw11 => ?_)
    refine z_aload_n hC (pc := 39) 2 dX10_regionEnd_39 rfl rfl ?_
    refine u_getK hC (pc := 40) zf10 0 (tKeep.F kw11 fa10 rfl) dX10_regionEnd_40 zw330 (kk := ?_)
    refine z_aload_n hC (pc := 43) 2 dX10_regionEnd_43 rfl rfl ?_
    refine u_get hC hw11 (pc := 44) zf10 3 (hE.o10 h0) rfl dX10_regionEnd_44 zw334 (kk := fun vx12 tx12 fx12 => ?_)
    obtain ⟨x12, rfl⟩ := tx12
    obtain ⟨q13, hqq13⟩ := hE.o7 ma10
    refine t_callVv hC hw11 (pc := 47) (As := [.int x12]) (kX7_need l G T κ hst hE ma10) trivial dmX7_need zf7 hqq13 dX10_regionEnd_47 zw1448 rfl rfl (Nat.le_of_ble_eq_true rfl) (Nat.le_of_ble_eq_true rfl) (Nat.le_of_ble_eq_true rfl) (Nat.le_of_ble_eq_true rfl) (Nat.le_of_ble_eq_true rfl) (fun E w q hE hw => hO E w _ _ _ _ _ q hE (Nat.le_of_ble_eq_true rfl) (Nat.le_of_ble_eq_true rfl) hw) (fun cw14 nw14 w14 hw14 pw14 => ?_)
    obtain ⟨rfl, rfl, kw14⟩ := pw14
    refine z_aload_n hC (pc := 50) 2 dX10_regionEnd_50 rfl rfl ?_
    refine z_iload_n hC (pc := 51) 1 dX10_regionEnd_51 rfl rfl ?_
    refine z_iload hC (pc := 52) 0 dX10_regionEnd_52 rfl ?_
    refine t_callVv hC hw14 (pc := 54) (As := [.int x6, .int x9]) (kX10_restOfLine l G T κ hst hE h0) trivial dmX10_restOfLine zf10 hqq7 dX10_regionEnd_54 zw1421 rfl rfl (Nat.le_of_ble_eq_true rfl) (Nat.le_of_ble_eq_true rfl) (Nat.le_of_ble_eq_true rfl) (Nat.le_of_ble_eq_true rfl) (Nat.le_of_ble_eq_true rfl) (fun _ _ _ h => nomatch h) (fun cw16 nw16 w16 hw16 pw16 => ?_)
    obtain ⟨rfl, rfl, kw16⟩ := pw16
    refine z_bipush hC (pc := 57) (v := 20) dX10_regionEnd_57 (by decide) ?_
    exact hR _ _ _ _ _ _ dX10_regionEnd_59 rfl (Nat.le_of_ble_eq_true rfl) (Nat.le_of_ble_eq_true rfl) ⟨hw16, rfl, rfl, (tKeep.tr (tKeep.tr (tKeep.tr (tKeep.tr (tKeep.tr tKeep.rf kw5 rfl) kw8 rfl) kw11 rfl) kw14 rfl) kw16 rfl)⟩
  refine z_icmp_eq hC (pc := 2) 20 dX10_regionEnd_2 (by decide) (fun c18 => ?_) (fun c18 => ?_)
  · refine z_lvs [0, 1] rfl ?_
    exact j20 w0 hw0 tKeep.rf
  · refine z_aload_n hC (pc := 5) 0 dX10_regionEnd_5 rfl rfl ?_
    refine u_get hC hw0 (pc := 6) zf10 0 (hE.o10 h0) rfl dX10_regionEnd_6 zw330 (kk := fun va19 ta19 fa19 => ?_)
    obtain ⟨a19, ma19, rfl⟩ := ta19
    refine z_iconst hC (pc := 9) (v := 1) dX10_regionEnd_9 (by decide) ?_
    refine z_aload_n hC (pc := 10) 0 dX10_regionEnd_10 rfl rfl ?_
    refine u_getK hC (pc := 11) zf10 0 fa19 dX10_regionEnd_11 zw330 (kk := ?_)
    obtain ⟨q20, hqq20⟩ := hE.o7 ma19
    refine t_callVi hC hw0 (pc := 14) (As := []) (kX7_here l G T κ hst hE ma19) trivial dmX7_here zf7 hqq20 dX10_regionEnd_14 zw1368 rfl rfl (Nat.le_of_ble_eq_true rfl) (Nat.le_of_ble_eq_true rfl) (Nat.le_of_ble_eq_true rfl) (Nat.le_of_ble_eq_true rfl) (Nat.le_of_ble_eq_true rfl) (fun _ _ _ h => nomatch h) (fun x22 cw21 nw21 w21 hw21 pw21 => ?_)
    obtain ⟨rfl, rfl, kw21⟩ := pw21
    refine t_callVv hC hw21 (pc := 17) (As := [.int 1, .int x22]) (kX7_fail l G T κ hst hE ma19) trivial dmX7_fail zf7 hqq20 dX10_regionEnd_17 zw1369 rfl rfl (Nat.le_of_ble_eq_true rfl) (Nat.le_of_ble_eq_true rfl) (Nat.le_of_ble_eq_true rfl) (Nat.le_of_ble_eq_true rfl) (Nat.le_of_ble_eq_true rfl) (fun E w q hE hw => hO E w _ _ _ _ _ q hE (Nat.le_of_ble_eq_true rfl) (Nat.le_of_ble_eq_true rfl) hw) (fun cw23 nw23 w23 hw23 pw23 => ?_)
    obtain ⟨rfl, rfl, kw23⟩ := pw23
    refine z_lvs [0, 1] rfl ?_
    exact j20 w23 hw23 (tKeep.tr (tKeep.tr tKeep.rf kw21 rfl) kw23 rfl)
set_option maxRecDepth 20000 in
theorem kX7_isName (l : Launch) (G : zG) (T : tT) (κ : Nat → List Nat) (hst : l.stackTraces = false) (hE : tE G T κ) {a0 : Nat} (h0 : a0 ∈ κ 7) {x1 : Int32} {a2 : Nat} (h2 : a2 ∈ κ 6) {x3 : Int32} : tMi l G T yX7_isName cX7_isName 5 .boolean [] 1 25 0 0 [.ref a0, .int x1, .ref a2, .int x3] uT (uPz 0x0) := by
  refine tMi.intro hst rfl (Nat.le_of_ble_eq_true rfl) ?_
  intro w0 hw0 _ X hC hR hO hX
  refine z_aload_n hC (pc := 0) 2 dX7_isName_0 rfl rfl ?_
  refine z_iload_n hC (pc := 1) 3 dX7_isName_1 rfl rfl ?_
  obtain ⟨q6, hqq6⟩ := hE.o6 h2
  refine t_callVi hC hw0 (pc := 2) (As := [.int x3]) (kX6_lengthOf l G T κ hst hE h2) trivial dmX6_lengthOf zf6 hqq6 dX7_isName_2 zw1467 rfl rfl (Nat.le_of_ble_eq_true rfl) (Nat.le_of_ble_eq_true rfl) (Nat.le_of_ble_eq_true rfl) (Nat.le_of_ble_eq_true rfl) (Nat.le_of_ble_eq_true rfl) (fun _ _ _ h => nomatch h) (fun x8 cw7 nw7 w7 hw7 pw7 => ?_)
  obtain ⟨rfl, rfl, kw7⟩ := pw7
  refine z_istore hC (pc := 5) (lv' := [(4, .int x8), (0, .ref a0), (1, .int x1), (2, .ref a2), (3, .int x3)]) dX7_isName_5 (by decide) rfl ?_
  refine z_iload_n hC (pc := 7) 2 dX7_isName_7 rfl rfl ?_
  refine z_aload_n hC (pc := 8) 1 dX7_isName_8 rfl rfl ?_
  refine u_get hC hw7 (pc := 9) zf7 5 (hE.o7 h0) rfl dX7_isName_9 zw122 (kk := fun vx9 tx9 fx9 => ?_)
  obtain ⟨x9, rfl⟩ := tx9
  refine z_isub hC (pc := 12) (v := (x1 - x9)) dX7_isName_12 rfl ?_
  refine z_iload hC (pc := 13) 0 dX7_isName_13 rfl ?_
  have j51 : ∀ (w10 : va_W), tW T w10 → tKeep 0x0 w7 w10 → ∀ (x11 : Int32), tZ (.int x11) → zS X G 5 w10 [] 0 0 51 [.int x11] := by
    intro w10 hw10 kw10 x11 zx11
    exact hR _ _ _ _ _ _ dX7_isName_51 (t_nZ zx11) (Nat.le_of_ble_eq_true rfl) (Nat.le_of_ble_eq_true rfl) ⟨hw10, rfl, rfl, (tKeep.tr (tKeep.tr tKeep.rf kw7 rfl) kw10 rfl), zx11⟩
  have j50 : ∀ (w12 : va_W), tW T w12 → tKeep 0x0 w7 w12 → zS X G 5 w12 [] 0 0 50 [] := by
    intro w12 hw12 kw12
    refine z_iconst hC (pc := 50) (v := 0) dX7_isName_50 (by decide) ?_
    exact j51 w12 hw12 (tKeep.tr tKeep.rf kw12 rfl) 0 (Or.inl rfl)
  refine z_icmp_ne hC (pc := 15) 50 dX7_isName_15 (by decide) (fun c13 => ?_) (fun c13 => ?_)
  · refine z_lvs [] rfl ?_
    exact j50 w7 hw7 tKeep.rf
  · refine z_aload_n hC (pc := 18) 1 dX7_isName_18 rfl rfl ?_
    refine u_get hC hw7 (pc := 19) zf7 0 (hE.o7 h0) rfl dX7_isName_19 zw115 (kk := fun va14 ta14 fa14 => ?_)
    obtain ⟨a14, ma14, rfl⟩ := ta14
    refine z_aload_n hC (pc := 22) 1 dX7_isName_22 rfl rfl ?_
    refine u_getK hC (pc := 23) zf7 5 fx9 dX7_isName_23 zw122 (kk := ?_)
    refine z_aload_n hC (pc := 26) 3 dX7_isName_26 rfl rfl ?_
    refine u_get hC hw7 (pc := 27) zf6 0 (hE.o6 h2) rfl dX7_isName_27 zw175 (kk := fun va15 ta15 fa15 => ?_)
    obtain ⟨a15, ma15, rfl⟩ := ta15
    refine z_aload_n hC (pc := 30) 3 dX7_isName_30 rfl rfl ?_
    refine u_get hC hw7 (pc := 31) zf6 1 (hE.o6 h2) rfl dX7_isName_31 zw179 (kk := fun va16 ta16 fa16 => ?_)
    obtain ⟨a16, ma16, rfl⟩ := ta16
    refine z_iload_n hC (pc := 34) 4 dX7_isName_34 rfl rfl ?_
    refine t_callSNi hC hw7 (pc := 35) (As := [.ref a16, .int x3]) (kX12_get l G T κ hst hE ma16) trivial dmX12_get dX7_isName_35 zw1468 rfl rfl (Nat.le_of_ble_eq_true rfl) (Nat.le_of_ble_eq_true rfl) (Nat.le_of_ble_eq_true rfl) (Nat.le_of_ble_eq_true rfl) (Nat.le_of_ble_eq_true rfl) (fun _ _ _ h => nomatch h) (fun x18 cw17 nw17 w17 hw17 pw17 => ?_)
    obtain ⟨rfl, rfl, kw17⟩ := pw17
    refine z_iload hC (pc := 38) 0 dX7_isName_38 rfl ?_
    refine t_callSNi hC hw17 (pc := 40) (As := [.ref a14, .int x9, .ref a15, .int x18, .int x8]) (kX12_same l G T κ hst hE (Or.inl ma14) (Or.inl ma15)) trivial dmX12_same dX7_isName_40 zw1469 rfl rfl (Nat.le_of_ble_eq_true rfl) (Nat.le_of_ble_eq_true rfl) (Nat.le_of_ble_eq_true rfl) (Nat.le_of_ble_eq_true rfl) (Nat.le_of_ble_eq_true rfl) (fun _ _ _ h => nomatch h) (fun x20 cw19 nw19 w19 hw19 pw19 => ?_)
    obtain ⟨rfl, rfl, kw19, zx20⟩ := pw19
    refine z_if_eq hC (pc := 43) 50 dX7_isName_43 (by decide) (fun c21 => ?_) (fun c21 => ?_)
    · refine z_lvs [] rfl ?_
      exact j50 w19 hw19 (tKeep.tr (tKeep.tr tKeep.rf kw17 rfl) kw19 rfl)
    · refine z_iconst hC (pc := 46) (v := 1) dX7_isName_46 (by decide) ?_
      refine z_goto hC (pc := 47) 51 dX7_isName_47 (by decide) ?_
      refine z_lvs [] rfl ?_
      exact j51 w19 hw19 (tKeep.tr (tKeep.tr tKeep.rf kw17 rfl) kw19 rfl) 1 (Or.inr rfl)
set_option maxRecDepth 20000 in
theorem kX2_addPart (l : Launch) (G : zG) (T : tT) (κ : Nat → List Nat) (hst : l.stackTraces = false) (hE : tE G T κ) {a0 : Nat} (h0 : a0 ∈ κ 2) {x1 : Int32} {x2 : Int32} {x3 : Int32} {x4 : Int32} {x5 : Int32} : tMv l G T yX2_addPart cX2_addPart 7 [] 1 22 0 0 [.ref a0, .int x1, .int x2, .int x3, .int x4, .int x5] uT (uPv 0x40000000000000000000000000000000000) := by
  refine tMv.intro hst rfl (Nat.le_of_ble_eq_true rfl) ?_
  intro w0 hw0 _ X hC hR hO hX
  refine z_aload_n hC (pc := 0) 0 dX2_addPart_0 rfl rfl ?_
  refine u_get hC hw0 (pc := 1) zf2 10 (hE.o2 h0) rfl dX2_addPart_1 zw265 (kk := fun vx8 tx8 fx8 => ?_)
  obtain ⟨x8, rfl⟩ := tx8
  refine z_bipush hC (pc := 4) (v := 6) dX2_addPart_4 (by decide) ?_
  refine z_imul hC (pc := 6) (v := (x8 * 6)) dX2_addPart_6 rfl ?_
  refine z_istore hC (pc := 7) (lv' := [(6, .int (x8 * 6)), (0, .ref a0), (1, .int x1), (2, .int x2), (3, .int x3), (4, .int x4), (5, .int x5)]) dX2_addPart_7 (by decide) rfl ?_
  refine z_aload_n hC (pc := 9) 1 dX2_addPart_9 rfl rfl ?_
  refine u_get hC hw0 (pc := 10) zf2 9 (hE.o2 h0) rfl dX2_addPart_10 zw262 (kk := fun va9 ta9 fa9 => ?_)
  obtain ⟨a9, ma9, rfl⟩ := ta9
  refine z_iload hC (pc := 13) 0 dX2_addPart_13 rfl ?_
  refine z_iload_n hC (pc := 15) 2 dX2_addPart_15 rfl rfl ?_
  refine t_callSNv hC hw0 (pc := 16) (As := [.ref a9, .int (x8 * 6), .int x1]) (kX12_set l G T κ hst hE ma9) trivial dmX12_set dX2_addPart_16 zw1289 rfl rfl (Nat.le_of_ble_eq_true rfl) (Nat.le_of_ble_eq_true rfl) (Nat.le_of_ble_eq_true rfl) (Nat.le_of_ble_eq_true rfl) (Nat.le_of_ble_eq_true rfl) (fun _ _ _ h => nomatch h) (fun cw10 nw10 w10 hw10 pw10 => ?_)
  obtain ⟨rfl, rfl, kw10⟩ := pw10
  refine z_aload_n hC (pc := 19) 1 dX2_addPart_19 rfl rfl ?_
  refine u_getK hC (pc := 20) zf2 9 (tKeep.F kw10 fa9 rfl) dX2_addPart_20 zw262 (kk := ?_)
  refine z_iload hC (pc := 23) 0 dX2_addPart_23 rfl ?_
  refine z_iconst hC (pc := 25) (v := 1) dX2_addPart_25 (by decide) ?_
  refine z_iadd hC (pc := 26) (v := ((x8 * 6) + 1)) dX2_addPart_26 rfl ?_
  refine z_iload_n hC (pc := 27) 3 dX2_addPart_27 rfl rfl ?_
  refine t_callSNv hC hw10 (pc := 28) (As := [.ref a9, .int ((x8 * 6) + 1), .int x2]) (kX12_set l G T κ hst hE ma9) trivial dmX12_set dX2_addPart_28 zw1289 rfl rfl (Nat.le_of_ble_eq_true rfl) (Nat.le_of_ble_eq_true rfl) (Nat.le_of_ble_eq_true rfl) (Nat.le_of_ble_eq_true rfl) (Nat.le_of_ble_eq_true rfl) (fun _ _ _ h => nomatch h) (fun cw12 nw12 w12 hw12 pw12 => ?_)
  obtain ⟨rfl, rfl, kw12⟩ := pw12
  refine z_aload_n hC (pc := 31) 1 dX2_addPart_31 rfl rfl ?_
  refine u_getK hC (pc := 32) zf2 9 (tKeep.F kw12 (tKeep.F kw10 fa9 rfl) rfl) dX2_addPart_32 zw262 (kk := ?_)
  refine z_iload hC (pc := 35) 0 dX2_addPart_35 rfl ?_
  refine z_iconst hC (pc := 37) (v := 2) dX2_addPart_37 (by decide) ?_
  refine z_iadd hC (pc := 38) (v := ((x8 * 6) + 2)) dX2_addPart_38 rfl ?_
  refine z_iload_n hC (pc := 39) 4 dX2_addPart_39 rfl rfl ?_
  refine t_callSNv hC hw12 (pc := 40) (As := [.ref a9, .int ((x8 * 6) + 2), .int x3]) (kX12_set l G T κ hst hE ma9) trivial dmX12_set dX2_addPart_40 zw1289 rfl rfl (Nat.le_of_ble_eq_true rfl) (Nat.le_of_ble_eq_true rfl) (Nat.le_of_ble_eq_true rfl) (Nat.le_of_ble_eq_true rfl) (Nat.le_of_ble_eq_true rfl) (fun _ _ _ h => nomatch h) (fun cw14 nw14 w14 hw14 pw14 => ?_)
  obtain ⟨rfl, rfl, kw14⟩ := pw14
  refine z_aload_n hC (pc := 43) 1 dX2_addPart_43 rfl rfl ?_
  refine u_getK hC (pc := 44) zf2 9 (tKeep.F kw14 (tKeep.F kw12 (tKeep.F kw10 fa9 rfl) rfl) rfl) dX2_addPart_44 zw262 (kk := ?_)
  refine z_iload hC (pc := 47) 0 dX2_addPart_47 rfl ?_
  refine z_iconst hC (pc := 49) (v := 3) dX2_addPart_49 (by decide) ?_
  refine z_iadd hC (pc := 50) (v := ((x8 * 6) + 3)) dX2_addPart_50 rfl ?_
  refine z_aload_n hC (pc := 51) 1 dX2_addPart_51 rfl rfl ?_
  refine u_get hC hw14 (pc := 52) zf2 3 (hE.o2 h0) rfl dX2_addPart_52 zw244 (kk := fun vx16 tx16 fx16 => ?_)
  obtain ⟨x16, rfl⟩ := tx16
  refine t_callSNv hC hw14 (pc := 55) (As := [.ref a9, .int ((x8 * 6) + 3), .int x16]) (kX12_set l G T κ hst hE ma9) trivial dmX12_set dX2_addPart_55 zw1289 rfl rfl (Nat.le_of_ble_eq_true rfl) (Nat.le_of_ble_eq_true rfl) (Nat.le_of_ble_eq_true rfl) (Nat.le_of_ble_eq_true rfl) (Nat.le_of_ble_eq_true rfl) (fun _ _ _ h => nomatch h) (fun cw17 nw17 w17 hw17 pw17 => ?_)
  obtain ⟨rfl, rfl, kw17⟩ := pw17
  refine z_aload_n hC (pc := 58) 1 dX2_addPart_58 rfl rfl ?_
  refine u_getK hC (pc := 59) zf2 9 (tKeep.F kw17 (tKeep.F kw14 (tKeep.F kw12 (tKeep.F kw10 fa9 rfl) rfl) rfl) rfl) dX2_addPart_59 zw262 (kk := ?_)
  refine z_iload hC (pc := 62) 0 dX2_addPart_62 rfl ?_
  refine z_iconst hC (pc := 64) (v := 4) dX2_addPart_64 (by decide) ?_
  refine z_iadd hC (pc := 65) (v := ((x8 * 6) + 4)) dX2_addPart_65 rfl ?_
  refine z_iload hC (pc := 66) 5 dX2_addPart_66 rfl ?_
  refine t_callSNv hC hw17 (pc := 68) (As := [.ref a9, .int ((x8 * 6) + 4), .int x4]) (kX12_set l G T κ hst hE ma9) trivial dmX12_set dX2_addPart_68 zw1289 rfl rfl (Nat.le_of_ble_eq_true rfl) (Nat.le_of_ble_eq_true rfl) (Nat.le_of_ble_eq_true rfl) (Nat.le_of_ble_eq_true rfl) (Nat.le_of_ble_eq_true rfl) (fun _ _ _ h => nomatch h) (fun cw19 nw19 w19 hw19 pw19 => ?_)
  obtain ⟨rfl, rfl, kw19⟩ := pw19
  refine z_aload_n hC (pc := 71) 1 dX2_addPart_71 rfl rfl ?_
  refine u_getK hC (pc := 72) zf2 9 (tKeep.F kw19 (tKeep.F kw17 (tKeep.F kw14 (tKeep.F kw12 (tKeep.F kw10 fa9 rfl) rfl) rfl) rfl) rfl) dX2_addPart_72 zw262 (kk := ?_)
  refine z_iload hC (pc := 75) 0 dX2_addPart_75 rfl ?_
  refine z_iconst hC (pc := 77) (v := 5) dX2_addPart_77 (by decide) ?_
  refine z_iadd hC (pc := 78) (v := ((x8 * 6) + 5)) dX2_addPart_78 rfl ?_
  refine z_iload hC (pc := 79) 6 dX2_addPart_79 rfl ?_
  refine t_callSNv hC hw19 (pc := 81) (As := [.ref a9, .int ((x8 * 6) + 5), .int x5]) (kX12_set l G T κ hst hE ma9) trivial dmX12_set dX2_addPart_81 zw1289 rfl rfl (Nat.le_of_ble_eq_true rfl) (Nat.le_of_ble_eq_true rfl) (Nat.le_of_ble_eq_true rfl) (Nat.le_of_ble_eq_true rfl) (Nat.le_of_ble_eq_true rfl) (fun _ _ _ h => nomatch h) (fun cw21 nw21 w21 hw21 pw21 => ?_)
  obtain ⟨rfl, rfl, kw21⟩ := pw21
  refine z_iload hC (pc := 84) 0 dX2_addPart_84 rfl ?_
  refine z_aload_n hC (pc := 86) 1 dX2_addPart_86 rfl rfl ?_
  refine u_getK hC (pc := 87) zf2 9 (tKeep.F kw21 (tKeep.F kw19 (tKeep.F kw17 (tKeep.F kw14 (tKeep.F kw12 (tKeep.F kw10 fa9 rfl) rfl) rfl) rfl) rfl) rfl) dX2_addPart_87 zw262 (kk := ?_)
  obtain ⟨N23, gN23, AN23⟩ := hE.ints ma9
  have hN23 : N23 < 2 ^ 31 := Nat.lt_trans gN23 (by decide)
  refine u_alenI hC hw21 (pc := 90) AN23 dX2_addPart_90 ?_
  have j104 : ∀ (w24 : va_W), tW T w24 → tKeep 0x40000000000000000000000000000000000 w21 w24 → zS X G 7 w24 [] 0 0 104 [] := by
    intro w24 hw24 kw24
    exact hR _ _ _ _ _ dX2_addPart_104 (Nat.le_of_ble_eq_true rfl) (Nat.le_of_ble_eq_true rfl) ⟨hw24, rfl, rfl, (tKeep.tr (tKeep.tr (tKeep.tr (tKeep.tr (tKeep.tr (tKeep.tr (tKeep.tr tKeep.rf kw10 rfl) kw12 rfl) kw14 rfl) kw17 rfl) kw19 rfl) kw21 rfl) kw24 rfl)⟩
  refine z_icmp_ge hC (pc := 91) 104 dX2_addPart_91 (by decide) (fun c25 => ?_) (fun c25 => ?_)
  · refine z_lvs [] rfl ?_
    exact j104 w21 hw21 tKeep.rf
  · refine z_aload_n hC (pc := 94) 1 dX2_addPart_94 rfl rfl ?_
    refine z_dup hC (pc := 95) dX2_addPart_95 rfl ?_
    refine u_getK hC (pc := 96) zf2 10 (tKeep.F kw21 (tKeep.F kw19 (tKeep.F kw17 (tKeep.F kw14 (tKeep.F kw12 (tKeep.F kw10 fx8 rfl) rfl) rfl) rfl) rfl) rfl) dX2_addPart_96 zw265 (kk := ?_)
    refine z_iconst hC (pc := 99) (v := 1) dX2_addPart_99 (by decide) ?_
    refine z_iadd hC (pc := 100) (v := (x8 + 1)) dX2_addPart_100 rfl ?_
    refine u_put hC hw21 (pc := 101) zf2 10 (hE.o2 h0) rfl ⟨_, rfl⟩ dX2_addPart_101 zw265 rfl rfl rfl (kk := fun w26 hw26 fw26 kw26 => ?_)
    refine z_lvs [] rfl ?_
    exact j104 w26 hw26 (tKeep.tr tKeep.rf kw26 rfl)
set_option maxRecDepth 20000 in
theorem kX2_patch (l : Launch) (G : zG) (T : tT) (κ : Nat → List Nat) (hst : l.stackTraces = false) (hE : tE G T κ) {a0 : Nat} (h0 : a0 ∈ κ 2) {x1 : Int32} : tMv l G T yX2_patch cX2_patch 2 [] 0 0 0 0 [.ref a0, .int x1] uT (uPv 0x0) := by
  refine tMv.intro hst rfl (Nat.le_of_ble_eq_true rfl) ?_
  intro w0 hw0 _ X hC hR hO hX
  refine z_iload_n hC (pc := 0) 1 dX2_patch_0 rfl rfl ?_
  have j23 : ∀ (w4 : va_W), tW T w4 → tKeep 0x0 w0 w4 → zS X G 2 w4 [] 0 0 23 [] := by
    intro w4 hw4 kw4
    exact hR _ _ _ _ _ dX2_patch_23 (Nat.le_of_ble_eq_true rfl) (Nat.le_of_ble_eq_true rfl) ⟨hw4, rfl, rfl, (tKeep.tr tKeep.rf kw4 rfl)⟩
  refine z_if_lt hC (pc := 1) 23 dX2_patch_1 (by decide) (fun c5 => ?_) (fun c5 => ?_)
  · refine z_lvs [] rfl ?_
    exact j23 w0 hw0 tKeep.rf
  · refine z_iload_n hC (pc := 4) 1 dX2_patch_4 rfl rfl ?_
    refine z_aload_n hC (pc := 5) 0 dX2_patch_5 rfl rfl ?_
    refine u_get hC hw0 (pc := 6) zf2 2 (hE.o2 h0) rfl dX2_patch_6 zw239 (kk := fun va6 ta6 fa6 => ?_)
    obtain ⟨a6, ma6, rfl⟩ := ta6
    obtain ⟨N7, gN7, AN7⟩ := hE.ints ma6
    have hN7 : N7 < 2 ^ 31 := Nat.lt_trans gN7 (by decide)
    refine u_alenI hC hw0 (pc := 9) AN7 dX2_patch_9 ?_
    refine z_icmp_ge hC (pc := 10) 23 dX2_patch_10 (by decide) (fun c8 => ?_) (fun c8 => ?_)
    · refine z_lvs [] rfl ?_
      exact j23 w0 hw0 tKeep.rf
    · refine z_aload_n hC (pc := 13) 0 dX2_patch_13 rfl rfl ?_
      refine u_getK hC (pc := 14) zf2 2 fa6 dX2_patch_14 zw239 (kk := ?_)
      refine z_iload_n hC (pc := 17) 1 dX2_patch_17 rfl rfl ?_
      refine z_aload_n hC (pc := 18) 0 dX2_patch_18 rfl rfl ?_
      refine u_get hC hw0 (pc := 19) zf2 3 (hE.o2 h0) rfl dX2_patch_19 zw244 (kk := fun vx9 tx9 fx9 => ?_)
      obtain ⟨x9, rfl⟩ := tx9
      refine u_iast hC hw0 (pc := 22) AN7 dX2_patch_22 (t_inB hN7 c5 c8) trivial (fun w10 hw10 kw10 => ?_)
      refine z_lvs [] rfl ?_
      exact j23 w10 hw10 (tKeep.tr tKeep.rf kw10 rfl)
set_option maxRecDepth 20000 in
theorem kX10_partCall (l : Launch) (G : zG) (T : tT) (κ : Nat → List Nat) (hst : l.stackTraces = false) (hE : tE G T κ) {a0 : Nat} (h0 : a0 ∈ κ 10) {x1 : Int32} {x2 : Int32} {x3 : Int32} {x4 : Int32} : tMv l G T yX10_partCall cX10_partCall 7 [] 3 64 0 0 [.ref a0, .int x1, .int x2, .int x3, .int x4] uT (uPv 0xc000000000000000000000000000000000000000000000000000000000000000000000000000000000000000000000000000000000000000000000000000000040800000000000000000000000000000000) := by
  refine tMv.intro hst rfl (Nat.le_of_ble_eq_true rfl) ?_
  intro w0 hw0 _ X hC hR hO hX
  refine z_iconst hC (pc := 0) (v := 0) dX10_partCall_0 (by decide) ?_
  refine z_istore hC (pc := 1) (lv' := [(5, .int 0), (0, .ref a0), (1, .int x1), (2, .int x2), (3, .int x3), (4, .int x4)]) dX10_partCall_1 (by decide) rfl ?_
  refine z_iconst hC (pc := 3) (v := 0) dX10_partCall_3 (by decide) ?_
  refine z_istore hC (pc := 4) (lv' := [(6, .int 0), (5, .int 0), (0, .ref a0), (1, .int x1), (2, .int x2), (3, .int x3), (4, .int x4)]) dX10_partCall_4 (by decide) rfl ?_
  refine z_aload_n hC (pc := 6) 2 dX10_partCall_6 rfl rfl ?_
  refine u_get hC hw0 (pc := 7) zf10 11 (hE.o10 h0) rfl dX10_partCall_7 zw343 (kk := fun vx7 tx7 fx7 => ?_)
  obtain ⟨x7, rfl, zx7⟩ := t_zof tx7
  have j30 : ∀ (w8 : va_W), tW T w8 → tKeep 0x4000000000000000000000000000000000000000000000000000000000000000000000000000000000000000000000000000000000000000000000000000000000000000000000000000000000000000000 w0 w8 → ∀ (x9 : Int32), ∀ (x10 : Int32), zS X G 7 w8 [(0, .ref a0), (1, .int x1), (2, .int x2), (3, .int x3), (4, .int x4), (5, .int x9), (6, .int x10)] 0 0 30 [] := by
    intro w8 hw8 kw8 x9 x10
    refine z_aload_n hC (pc := 30) 0 dX10_partCall_30 rfl rfl ?_
    obtain ⟨q11, hqq11⟩ := hE.o10 h0
    refine t_callVi hC hw8 (pc := 31) (As := []) (kX10_flush l G T κ hst hE h0) trivial dmX10_flush zf10 hqq11 dX10_partCall_31 zw1404 rfl rfl (Nat.le_of_ble_eq_true rfl) (Nat.le_of_ble_eq_true rfl) (Nat.le_of_ble_eq_true rfl) (Nat.le_of_ble_eq_true rfl) (Nat.le_of_ble_eq_true rfl) (fun _ _ _ h => nomatch h) (fun x13 cw12 nw12 w12 hw12 pw12 => ?_)
    obtain ⟨rfl, rfl, kw12⟩ := pw12
    refine z_pop hC (pc := 34) dX10_partCall_34 rfl ?_
    refine z_aload_n hC (pc := 35) 0 dX10_partCall_35 rfl rfl ?_
    refine z_iconst hC (pc := 36) (v := 0) dX10_partCall_36 (by decide) ?_
    refine u_put hC hw12 (pc := 37) zf10 11 (hE.o10 h0) rfl (Or.inl rfl) dX10_partCall_37 zw343 rfl rfl rfl (kk := fun w14 hw14 fw14 kw14 => ?_)
    refine z_aload_n hC (pc := 40) 0 dX10_partCall_40 rfl rfl ?_
    refine u_get hC hw14 (pc := 41) zf10 1 (hE.o10 h0) rfl dX10_partCall_41 zw331 (kk := fun va15 ta15 fa15 => ?_)
    obtain ⟨a15, ma15, rfl⟩ := ta15
    refine z_aload_n hC (pc := 44) 0 dX10_partCall_44 rfl rfl ?_
    refine u_get hC hw14 (pc := 45) zf10 0 (hE.o10 h0) rfl dX10_partCall_45 zw330 (kk := fun va16 ta16 fa16 => ?_)
    obtain ⟨a16, ma16, rfl⟩ := ta16
    refine u_get hC hw14 (pc := 48) zf7 6 (hE.o7 ma16) rfl dX10_partCall_48 zw129 (kk := fun vx17 tx17 fx17 => ?_)
    obtain ⟨x17, rfl⟩ := tx17
    refine z_aload_n hC (pc := 51) 0 dX10_partCall_51 rfl rfl ?_
    refine u_get hC hw14 (pc := 52) zf10 5 (hE.o10 h0) rfl dX10_partCall_52 zw337 (kk := fun vx18 tx18 fx18 => ?_)
    obtain ⟨x18, rfl⟩ := tx18
    refine z_iload_n hC (pc := 55) 2 dX10_partCall_55 rfl rfl ?_
    refine z_iload_n hC (pc := 56) 3 dX10_partCall_56 rfl rfl ?_
    refine z_iload hC (pc := 57) 4 dX10_partCall_57 rfl ?_
    obtain ⟨q19, hqq19⟩ := hE.o2 ma15
    refine t_callVv hC hw14 (pc := 59) (As := [.int x17, .int x18, .int x2, .int x3, .int x4]) (kX2_addPart l G T κ hst hE ma15) trivial dmX2_addPart zf2 hqq19 dX10_partCall_59 zw1474 rfl rfl (Nat.le_of_ble_eq_true rfl) (Nat.le_of_ble_eq_true rfl) (Nat.le_of_ble_eq_true rfl) (Nat.le_of_ble_eq_true rfl) (Nat.le_of_ble_eq_true rfl) (fun _ _ _ h => nomatch h) (fun cw20 nw20 w20 hw20 pw20 => ?_)
    obtain ⟨rfl, rfl, kw20⟩ := pw20
    refine z_aload_n hC (pc := 62) 0 dX10_partCall_62 rfl rfl ?_
    refine u_getK hC (pc := 63) zf10 1 (tKeep.F kw20 fa15 rfl) dX10_partCall_63 zw331 (kk := ?_)
    refine z_bipush hC (pc := 66) (v := 10) dX10_partCall_66 (by decide) ?_
    refine z_iload_n hC (pc := 68) 1 dX10_partCall_68 rfl rfl ?_
    refine z_iload hC (pc := 69) 5 dX10_partCall_69 rfl ?_
    refine z_iload hC (pc := 71) 6 dX10_partCall_71 rfl ?_
    refine t_callVv hC hw20 (pc := 73) (As := [.int 10, .int x1, .int x9, .int x10]) (kX2_emit___ l G T κ hst hE ma15) trivial dmX2_emit___ zf2 hqq19 dX10_partCall_73 zw1434 rfl rfl (Nat.le_of_ble_eq_true rfl) (Nat.le_of_ble_eq_true rfl) (Nat.le_of_ble_eq_true rfl) (Nat.le_of_ble_eq_true rfl) (Nat.le_of_ble_eq_true rfl) (fun _ _ _ h => nomatch h) (fun cw22 nw22 w22 hw22 pw22 => ?_)
    obtain ⟨rfl, rfl, kw22⟩ := pw22
    refine z_aload_n hC (pc := 76) 0 dX10_partCall_76 rfl rfl ?_
    refine u_getK hC (pc := 77) zf10 1 (tKeep.F kw22 (tKeep.F kw20 fa15 rfl) rfl) dX10_partCall_77 zw331 (kk := ?_)
    refine z_iconst hC (pc := 80) (v := 0) dX10_partCall_80 (by decide) ?_
    refine z_iconst hC (pc := 81) (v := 0) dX10_partCall_81 (by decide) ?_
    refine t_callVv hC hw22 (pc := 82) (As := [.int 0, .int 0]) (kX2_emit_ l G T κ hst hE ma15) trivial dmX2_emit_ zf2 hqq19 dX10_partCall_82 zw1394 rfl rfl (Nat.le_of_ble_eq_true rfl) (Nat.le_of_ble_eq_true rfl) (Nat.le_of_ble_eq_true rfl) (Nat.le_of_ble_eq_true rfl) (Nat.le_of_ble_eq_true rfl) (fun _ _ _ h => nomatch h) (fun cw24 nw24 w24 hw24 pw24 => ?_)
    obtain ⟨rfl, rfl, kw24⟩ := pw24
    refine z_aload_n hC (pc := 85) 0 dX10_partCall_85 rfl rfl ?_
    refine u_getK hC (pc := 86) zf10 1 (tKeep.F kw24 (tKeep.F kw22 (tKeep.F kw20 fa15 rfl) rfl) rfl) dX10_partCall_86 zw331 (kk := ?_)
    refine z_aload_n hC (pc := 89) 0 dX10_partCall_89 rfl rfl ?_
    refine u_getK hC (pc := 90) zf10 0 (tKeep.F kw24 (tKeep.F kw22 (tKeep.F kw20 fa16 rfl) rfl) rfl) dX10_partCall_90 zw330 (kk := ?_)
    refine u_getK hC (pc := 93) zf7 6 (tKeep.F kw24 (tKeep.F kw22 (tKeep.F kw20 fx17 rfl) rfl) rfl) dX10_partCall_93 zw129 (kk := ?_)
    refine z_iload_n hC (pc := 96) 2 dX10_partCall_96 rfl rfl ?_
    refine z_iconst hC (pc := 97) (v := 0) dX10_partCall_97 (by decide) ?_
    refine t_callVv hC hw24 (pc := 98) (As := [.int x17, .int x2, .int 0]) (kX2_emit__ l G T κ hst hE ma15) trivial dmX2_emit__ zf2 hqq19 dX10_partCall_98 zw1370 rfl rfl (Nat.le_of_ble_eq_true rfl) (Nat.le_of_ble_eq_true rfl) (Nat.le_of_ble_eq_true rfl) (Nat.le_of_ble_eq_true rfl) (Nat.le_of_ble_eq_true rfl) (fun _ _ _ h => nomatch h) (fun cw26 nw26 w26 hw26 pw26 => ?_)
    obtain ⟨rfl, rfl, kw26⟩ := pw26
    refine z_aload_n hC (pc := 101) 0 dX10_partCall_101 rfl rfl ?_
    refine u_getK hC (pc := 102) zf10 1 (tKeep.F kw26 (tKeep.F kw24 (tKeep.F kw22 (tKeep.F kw20 fa15 rfl) rfl) rfl) rfl) dX10_partCall_102 zw331 (kk := ?_)
    refine z_iconst hC (pc := 105) (v := 0) dX10_partCall_105 (by decide) ?_
    refine t_callVv hC hw26 (pc := 106) (As := [.int 0]) (kX2_emit l G T κ hst hE ma15) trivial dmX2_emit zf2 hqq19 dX10_partCall_106 zw1478 rfl rfl (Nat.le_of_ble_eq_true rfl) (Nat.le_of_ble_eq_true rfl) (Nat.le_of_ble_eq_true rfl) (Nat.le_of_ble_eq_true rfl) (Nat.le_of_ble_eq_true rfl) (fun _ _ _ h => nomatch h) (fun cw28 nw28 w28 hw28 pw28 => ?_)
    obtain ⟨rfl, rfl, kw28⟩ := pw28
    refine z_aload_n hC (pc := 109) 0 dX10_partCall_109 rfl rfl ?_
    refine u_getK hC (pc := 110) zf10 1 (tKeep.F kw28 (tKeep.F kw26 (tKeep.F kw24 (tKeep.F kw22 (tKeep.F kw20 fa15 rfl) rfl) rfl) rfl) rfl) dX10_partCall_110 zw331 (kk := ?_)
    refine z_aload_n hC (pc := 113) 0 dX10_partCall_113 rfl rfl ?_
    refine u_getK hC (pc := 114) zf10 1 (tKeep.F kw28 (tKeep.F kw26 (tKeep.F kw24 (tKeep.F kw22 (tKeep.F kw20 fa15 rfl) rfl) rfl) rfl) rfl) dX10_partCall_114 zw331 (kk := ?_)
    refine u_get hC hw28 (pc := 117) zf2 3 (hE.o2 ma15) rfl dX10_partCall_117 zw245 (kk := fun vx30 tx30 fx30 => ?_)
    obtain ⟨x30, rfl⟩ := tx30
    refine z_bipush hC (pc := 120) (v := 6) dX10_partCall_120 (by decide) ?_
    refine z_isub hC (pc := 122) (v := (x30 - 6)) dX10_partCall_122 rfl ?_
    refine t_callVv hC hw28 (pc := 123) (As := [.int (x30 - 6)]) (kX2_patch l G T κ hst hE ma15) trivial dmX2_patch zf2 hqq19 dX10_partCall_123 zw1479 rfl rfl (Nat.le_of_ble_eq_true rfl) (Nat.le_of_ble_eq_true rfl) (Nat.le_of_ble_eq_true rfl) (Nat.le_of_ble_eq_true rfl) (Nat.le_of_ble_eq_true rfl) (fun _ _ _ h => nomatch h) (fun cw31 nw31 w31 hw31 pw31 => ?_)
    obtain ⟨rfl, rfl, kw31⟩ := pw31
    exact hR _ _ _ _ _ dX10_partCall_126 (Nat.le_of_ble_eq_true rfl) (Nat.le_of_ble_eq_true rfl) ⟨hw31, rfl, rfl, (tKeep.tr (tKeep.tr (tKeep.tr (tKeep.tr (tKeep.tr (tKeep.tr (tKeep.tr (tKeep.tr (tKeep.tr tKeep.rf kw8 rfl) kw12 rfl) kw14 rfl) kw20 rfl) kw22 rfl) kw24 rfl) kw26 rfl) kw28 rfl) kw31 rfl)⟩
  refine z_if_eq hC (pc := 10) 30 dX10_partCall_10 (by decide) (fun c33 => ?_) (fun c33 => ?_)
  · refine z_lvs [2, 3, 4, 5, 6, 1, 0] rfl ?_
    exact j30 w0 hw0 tKeep.rf 0 0
  · refine z_aload_n hC (pc := 13) 2 dX10_partCall_13 rfl rfl ?_
    refine u_get hC hw0 (pc := 14) zf10 9 (hE.o10 h0) rfl dX10_partCall_14 zw341 (kk := fun vx34 tx34 fx34 => ?_)
    obtain ⟨x34, rfl⟩ := tx34
    refine z_istore hC (pc := 17) (lv' := [(5, .int x34), (6, .int 0), (0, .ref a0), (1, .int x1), (2, .int x2), (3, .int x3), (4, .int x4)]) dX10_partCall_17 (by decide) rfl ?_
    refine z_aload_n hC (pc := 19) 2 dX10_partCall_19 rfl rfl ?_
    refine u_get hC hw0 (pc := 20) zf10 10 (hE.o10 h0) rfl dX10_partCall_20 zw342 (kk := fun vx35 tx35 fx35 => ?_)
    obtain ⟨x35, rfl⟩ := tx35
    refine z_istore hC (pc := 23) (lv' := [(6, .int x35), (5, .int x34), (0, .ref a0), (1, .int x1), (2, .int x2), (3, .int x3), (4, .int x4)]) dX10_partCall_23 (by decide) rfl ?_
    refine z_aload_n hC (pc := 25) 2 dX10_partCall_25 rfl rfl ?_
    refine z_iconst hC (pc := 26) (v := 0) dX10_partCall_26 (by decide) ?_
    refine u_put hC hw0 (pc := 27) zf10 10 (hE.o10 h0) rfl ⟨_, rfl⟩ dX10_partCall_27 zw342 rfl rfl rfl (kk := fun w36 hw36 fw36 kw36 => ?_)
    refine z_lvs [2, 3, 4, 5, 6, 1, 0] rfl ?_
    exact j30 w36 hw36 (tKeep.tr tKeep.rf kw36 rfl) x34 x35
set_option maxRecDepth 20000 in
theorem kX10_dots (l : Launch) (G : zG) (T : tT) (κ : Nat → List Nat) (hst : l.stackTraces = false) (hE : tE G T κ) {a0 : Nat} (h0 : a0 ∈ κ 10) : tMv l G T yX10_dots cX10_dots 1 ["java/lang/IllegalStateException"] 7 103 1 6 [.ref a0] uT (uPv 0x1a00000000000000000000000000000000000000000000000000000000000000000000000000000000000000000000000000000000000000000) := by
  refine tMv.intro hst rfl (Nat.le_of_ble_eq_true rfl) ?_
  intro w0 hw0 _ X hC hR hO hX
  refine z_aload_n hC (pc := 0) 0 dX10_dots_0 rfl rfl ?_
  refine u_get hC hw0 (pc := 1) zf10 0 (hE.o10 h0) rfl dX10_dots_1 zw330 (kk := fun va3 ta3 fa3 => ?_)
  obtain ⟨a3, ma3, rfl⟩ := ta3
  refine z_aload_n hC (pc := 4) 0 dX10_dots_4 rfl rfl ?_
  refine u_getK hC (pc := 5) zf10 0 fa3 dX10_dots_5 zw330 (kk := ?_)
  refine u_get hC hw0 (pc := 8) zf7 5 (hE.o7 ma3) rfl dX10_dots_8 zw124 (kk := fun vx4 tx4 fx4 => ?_)
  obtain ⟨x4, rfl⟩ := tx4
  refine z_iconst hC (pc := 11) (v := 1) dX10_dots_11 (by decide) ?_
  refine z_iadd hC (pc := 12) (v := (x4 + 1)) dX10_dots_12 rfl ?_
  obtain ⟨q5, hqq5⟩ := hE.o7 ma3
  refine t_callVi hC hw0 (pc := 13) (As := [.int (x4 + 1)]) (kX7_at l G T κ hst hE ma3) trivial dmX7_at zf7 hqq5 dX10_dots_13 zw1379 rfl rfl (Nat.le_of_ble_eq_true rfl) (Nat.le_of_ble_eq_true rfl) (Nat.le_of_ble_eq_true rfl) (Nat.le_of_ble_eq_true rfl) (Nat.le_of_ble_eq_true rfl) (fun _ _ _ h => nomatch h) (fun x7 cw6 nw6 w6 hw6 pw6 => ?_)
  obtain ⟨rfl, rfl, kw6⟩ := pw6
  refine z_bipush hC (pc := 16) (v := 46) dX10_dots_16 (by decide) ?_
  have j57 : ∀ (w8 : va_W), tW T w8 → tKeep 0x1800000000000000000000000000000000000000000000000000000000000000000000000000000000000000000000000000000000000000000 w6 w8 → zS X G 1 w8 [(0, .ref a0)] 0 0 57 [] := by
    intro w8 hw8 kw8
    refine z_aload_n hC (pc := 57) 0 dX10_dots_57 rfl rfl ?_
    refine u_getK hC (pc := 58) zf10 0 (tKeep.F kw8 (tKeep.F kw6 fa3 rfl) rfl) dX10_dots_58 zw330 (kk := ?_)
    refine z_dup hC (pc := 61) dX10_dots_61 rfl ?_
    refine u_getK hC (pc := 62) zf7 5 (tKeep.F kw8 (tKeep.F kw6 fx4 rfl) rfl) dX10_dots_62 zw124 (kk := ?_)
    refine z_iconst hC (pc := 65) (v := 3) dX10_dots_65 (by decide) ?_
    refine z_iadd hC (pc := 66) (v := (x4 + 3)) dX10_dots_66 rfl ?_
    refine u_put hC hw8 (pc := 67) zf7 5 (hE.o7 ma3) rfl ⟨_, rfl⟩ dX10_dots_67 zw124 rfl rfl rfl (kk := fun w9 hw9 fw9 kw9 => ?_)
    exact hR _ _ _ _ _ dX10_dots_70 (Nat.le_of_ble_eq_true rfl) (Nat.le_of_ble_eq_true rfl) ⟨hw9, rfl, rfl, (tKeep.tr (tKeep.tr (tKeep.tr tKeep.rf kw6 rfl) kw8 rfl) kw9 rfl)⟩
  have j42 : ∀ (w10 : va_W), tW T w10 → tKeep 0x0 w6 w10 → zS X G 1 w10 [(0, .ref a0)] 0 0 42 [] := by
    intro w10 hw10 kw10
    refine z_aload_n hC (pc := 42) 0 dX10_dots_42 rfl rfl ?_
    refine u_getK hC (pc := 43) zf10 0 (tKeep.F kw10 (tKeep.F kw6 fa3 rfl) rfl) dX10_dots_43 zw330 (kk := ?_)
    refine z_iconst hC (pc := 46) (v := 1) dX10_dots_46 (by decide) ?_
    refine z_aload_n hC (pc := 47) 0 dX10_dots_47 rfl rfl ?_
    refine u_getK hC (pc := 48) zf10 0 (tKeep.F kw10 (tKeep.F kw6 fa3 rfl) rfl) dX10_dots_48 zw330 (kk := ?_)
    refine t_callVi hC hw10 (pc := 51) (As := []) (kX7_here l G T κ hst hE ma3) trivial dmX7_here zf7 hqq5 dX10_dots_51 zw1368 rfl rfl (Nat.le_of_ble_eq_true rfl) (Nat.le_of_ble_eq_true rfl) (Nat.le_of_ble_eq_true rfl) (Nat.le_of_ble_eq_true rfl) (Nat.le_of_ble_eq_true rfl) (fun _ _ _ h => nomatch h) (fun x12 cw11 nw11 w11 hw11 pw11 => ?_)
    obtain ⟨rfl, rfl, kw11⟩ := pw11
    refine t_callVv hC hw11 (pc := 54) (As := [.int 1, .int x12]) (kX7_fail l G T κ hst hE ma3) trivial dmX7_fail zf7 hqq5 dX10_dots_54 zw1369 rfl rfl (Nat.le_of_ble_eq_true rfl) (Nat.le_of_ble_eq_true rfl) (Nat.le_of_ble_eq_true rfl) (Nat.le_of_ble_eq_true rfl) (Nat.le_of_ble_eq_true rfl) (fun E w q hE hw => hO E w _ _ _ _ _ q hE (Nat.le_of_ble_eq_true rfl) (Nat.le_of_ble_eq_true rfl) hw) (fun cw13 nw13 w13 hw13 pw13 => ?_)
    obtain ⟨rfl, rfl, kw13⟩ := pw13
    exact j57 w13 hw13 (tKeep.tr (tKeep.tr (tKeep.tr tKeep.rf kw10 rfl) kw11 rfl) kw13 rfl)
  refine z_icmp_ne hC (pc := 18) 42 dX10_dots_18 (by decide) (fun c15 => ?_) (fun c15 => ?_)
  · exact j42 w6 hw6 tKeep.rf
  · refine z_aload_n hC (pc := 21) 0 dX10_dots_21 rfl rfl ?_
    refine u_getK hC (pc := 22) zf10 0 (tKeep.F kw6 fa3 rfl) dX10_dots_22 zw330 (kk := ?_)
    refine z_aload_n hC (pc := 25) 0 dX10_dots_25 rfl rfl ?_
    refine u_getK hC (pc := 26) zf10 0 (tKeep.F kw6 fa3 rfl) dX10_dots_26 zw330 (kk := ?_)
    refine u_getK hC (pc := 29) zf7 5 (tKeep.F kw6 fx4 rfl) dX10_dots_29 zw124 (kk := ?_)
    refine z_iconst hC (pc := 32) (v := 2) dX10_dots_32 (by decide) ?_
    refine z_iadd hC (pc := 33) (v := (x4 + 2)) dX10_dots_33 rfl ?_
    refine t_callVi hC hw6 (pc := 34) (As := [.int (x4 + 2)]) (kX7_at l G T κ hst hE ma3) trivial dmX7_at zf7 hqq5 dX10_dots_34 zw1379 rfl rfl (Nat.le_of_ble_eq_true rfl) (Nat.le_of_ble_eq_true rfl) (Nat.le_of_ble_eq_true rfl) (Nat.le_of_ble_eq_true rfl) (Nat.le_of_ble_eq_true rfl) (fun _ _ _ h => nomatch h) (fun x17 cw16 nw16 w16 hw16 pw16 => ?_)
    obtain ⟨rfl, rfl, kw16⟩ := pw16
    refine z_bipush hC (pc := 37) (v := 46) dX10_dots_37 (by decide) ?_
    refine z_icmp_eq hC (pc := 39) 57 dX10_dots_39 (by decide) (fun c18 => ?_) (fun c18 => ?_)
    · exact j57 w16 hw16 (tKeep.tr tKeep.rf kw16 rfl)
    · exact j42 w16 hw16 (tKeep.tr tKeep.rf kw16 rfl)
set_option maxRecDepth 20000 in
theorem kX10_isNamedAhead (l : Launch) (G : zG) (T : tT) (κ : Nat → List Nat) (hst : l.stackTraces = false) (hE : tE G T κ) {a0 : Nat} (h0 : a0 ∈ κ 10) : tMi l G T yX10_isNamedAhead cX10_isNamedAhead 2 .boolean [] 1 24 0 0 [.ref a0] uT (uPz 0x0) := by
  refine tMi.intro hst rfl (Nat.le_of_ble_eq_true rfl) ?_
  intro w0 hw0 _ X hC hR hO hX
  refine z_aload_n hC (pc := 0) 0 dX10_isNamedAhead_0 rfl rfl ?_
  refine u_get hC hw0 (pc := 1) zf10 0 (hE.o10 h0) rfl dX10_isNamedAhead_1 zw330 (kk := fun va3 ta3 fa3 => ?_)
  obtain ⟨a3, ma3, rfl⟩ := ta3
  refine z_aload_n hC (pc := 4) 0 dX10_isNamedAhead_4 rfl rfl ?_
  refine u_getK hC (pc := 5) zf10 0 fa3 dX10_isNamedAhead_5 zw330 (kk := ?_)
  refine u_get hC hw0 (pc := 8) zf7 5 (hE.o7 ma3) rfl dX10_isNamedAhead_8 zw124 (kk := fun vx4 tx4 fx4 => ?_)
  obtain ⟨x4, rfl⟩ := tx4
  obtain ⟨q5, hqq5⟩ := hE.o7 ma3
  refine t_callVi hC hw0 (pc := 11) (As := [.int x4]) (kX7_rowEnd l G T κ hst hE ma3) trivial dmX7_rowEnd zf7 hqq5 dX10_isNamedAhead_11 zw1381 rfl rfl (Nat.le_of_ble_eq_true rfl) (Nat.le_of_ble_eq_true rfl) (Nat.le_of_ble_eq_true rfl) (Nat.le_of_ble_eq_true rfl) (Nat.le_of_ble_eq_true rfl) (fun _ _ _ h => nomatch h) (fun x7 cw6 nw6 w6 hw6 pw6 => ?_)
  obtain ⟨rfl, rfl, kw6⟩ := pw6
  refine z_istore_n hC (pc := 14) (lv' := [(1, .int x7), (0, .ref a0)]) dX10_isNamedAhead_14 rfl (by decide) rfl ?_
  refine z_iload_n hC (pc := 15) 0 dX10_isNamedAhead_15 rfl rfl ?_
  refine z_aload_n hC (pc := 16) 1 dX10_isNamedAhead_16 rfl rfl ?_
  refine u_getK hC (pc := 17) zf10 0 (tKeep.F kw6 fa3 rfl) dX10_isNamedAhead_17 zw330 (kk := ?_)
  refine u_getK hC (pc := 20) zf7 5 (tKeep.F kw6 fx4 rfl) dX10_isNamedAhead_20 zw124 (kk := ?_)
  have j51 : ∀ (w8 : va_W), tW T w8 → tKeep 0x0 w6 w8 → ∀ (x9 : Int32), tZ (.int x9) → zS X G 2 w8 [] 0 0 51 [.int x9] := by
    intro w8 hw8 kw8 x9 zx9
    exact hR _ _ _ _ _ _ dX10_isNamedAhead_51 (t_nZ zx9) (Nat.le_of_ble_eq_true rfl) (Nat.le_of_ble_eq_true rfl) ⟨hw8, rfl, rfl, (tKeep.tr (tKeep.tr tKeep.rf kw6 rfl) kw8 rfl), zx9⟩
  have j50 : ∀ (w10 : va_W), tW T w10 → tKeep 0x0 w6 w10 → zS X G 2 w10 [] 0 0 50 [] := by
    intro w10 hw10 kw10
    refine z_iconst hC (pc := 50) (v := 0) dX10_isNamedAhead_50 (by decide) ?_
    exact j51 w10 hw10 (tKeep.tr tKeep.rf kw10 rfl) 0 (Or.inl rfl)
  refine z_icmp_le hC (pc := 23) 50 dX10_isNamedAhead_23 (by decide) (fun c11 => ?_) (fun c11 => ?_)
  · refine z_lvs [] rfl ?_
    exact j50 w6 hw6 tKeep.rf
  · refine z_aload_n hC (pc := 26) 1 dX10_isNamedAhead_26 rfl rfl ?_
    refine u_getK hC (pc := 27) zf10 0 (tKeep.F kw6 fa3 rfl) dX10_isNamedAhead_27 zw330 (kk := ?_)
    refine z_aload_n hC (pc := 30) 1 dX10_isNamedAhead_30 rfl rfl ?_
    refine u_getK hC (pc := 31) zf10 0 (tKeep.F kw6 fa3 rfl) dX10_isNamedAhead_31 zw330 (kk := ?_)
    refine z_iload_n hC (pc := 34) 0 dX10_isNamedAhead_34 rfl rfl ?_
    refine t_callVi hC hw6 (pc := 35) (As := [.int x7]) (kX7_blanksEnd l G T κ hst hE ma3) trivial dmX7_blanksEnd zf7 hqq5 dX10_isNamedAhead_35 zw1375 rfl rfl (Nat.le_of_ble_eq_true rfl) (Nat.le_of_ble_eq_true rfl) (Nat.le_of_ble_eq_true rfl) (Nat.le_of_ble_eq_true rfl) (Nat.le_of_ble_eq_true rfl) (fun _ _ _ h => nomatch h) (fun x13 cw12 nw12 w12 hw12 pw12 => ?_)
    obtain ⟨rfl, rfl, kw12⟩ := pw12
    refine t_callVi hC hw12 (pc := 38) (As := [.int x13]) (kX7_at l G T κ hst hE ma3) trivial dmX7_at zf7 hqq5 dX10_isNamedAhead_38 zw1379 rfl rfl (Nat.le_of_ble_eq_true rfl) (Nat.le_of_ble_eq_true rfl) (Nat.le_of_ble_eq_true rfl) (Nat.le_of_ble_eq_true rfl) (Nat.le_of_ble_eq_true rfl) (fun _ _ _ h => nomatch h) (fun x15 cw14 nw14 w14 hw14 pw14 => ?_)
    obtain ⟨rfl, rfl, kw14⟩ := pw14
    refine z_bipush hC (pc := 41) (v := 61) dX10_isNamedAhead_41 (by decide) ?_
    refine z_icmp_ne hC (pc := 43) 50 dX10_isNamedAhead_43 (by decide) (fun c16 => ?_) (fun c16 => ?_)
    · refine z_lvs [] rfl ?_
      exact j50 w14 hw14 (tKeep.tr (tKeep.tr tKeep.rf kw12 rfl) kw14 rfl)
    · refine z_iconst hC (pc := 46) (v := 1) dX10_isNamedAhead_46 (by decide) ?_
      refine z_goto hC (pc := 47) 51 dX10_isNamedAhead_47 (by decide) ?_
      refine z_lvs [] rfl ?_
      exact j51 w14 hw14 (tKeep.tr (tKeep.tr tKeep.rf kw12 rfl) kw14 rfl) 1 (Or.inr rfl)
set_option maxRecDepth 20000 in
theorem kX2_addLate (l : Launch) (G : zG) (T : tT) (κ : Nat → List Nat) (hst : l.stackTraces = false) (hE : tE G T κ) {a0 : Nat} (h0 : a0 ∈ κ 2) {x1 : Int32} {x2 : Int32} : tMv l G T yX2_addLate cX2_addLate 4 [] 1 22 0 0 [.ref a0, .int x1, .int x2] uT (uPv 0x0) := by
  refine tMv.intro hst rfl (Nat.le_of_ble_eq_true rfl) ?_
  intro w0 hw0 _ X hC hR hO hX
  refine z_aload_n hC (pc := 0) 0 dX2_addLate_0 rfl rfl ?_
  refine u_get hC hw0 (pc := 1) zf2 13 (hE.o2 h0) rfl dX2_addLate_1 zw272 (kk := fun va5 ta5 fa5 => ?_)
  obtain ⟨a5, ma5, rfl⟩ := ta5
  refine z_iload_n hC (pc := 4) 1 dX2_addLate_4 rfl rfl ?_
  refine t_callSNi hC hw0 (pc := 5) (As := [.ref a5, .int x1]) (kX12_get l G T κ hst hE ma5) trivial dmX12_get dX2_addLate_5 zw1559 rfl rfl (Nat.le_of_ble_eq_true rfl) (Nat.le_of_ble_eq_true rfl) (Nat.le_of_ble_eq_true rfl) (Nat.le_of_ble_eq_true rfl) (Nat.le_of_ble_eq_true rfl) (fun _ _ _ h => nomatch h) (fun x7 cw6 nw6 w6 hw6 pw6 => ?_)
  obtain ⟨rfl, rfl, kw6⟩ := pw6
  refine z_istore_n hC (pc := 8) (lv' := [(3, .int x7), (0, .ref a0), (1, .int x1), (2, .int x2)]) dX2_addLate_8 rfl (by decide) rfl ?_
  refine z_iload_n hC (pc := 9) 0 dX2_addLate_9 rfl rfl ?_
  refine z_iconst hC (pc := 10) (v := (-1)) dX2_addLate_10 (by decide) ?_
  have j28 : ∀ (w8 : va_W), tW T w8 → tKeep 0x0 w6 w8 → zS X G 4 w8 [] 0 0 28 [] := by
    intro w8 hw8 kw8
    exact hR _ _ _ _ _ dX2_addLate_28 (Nat.le_of_ble_eq_true rfl) (Nat.le_of_ble_eq_true rfl) ⟨hw8, rfl, rfl, (tKeep.tr (tKeep.tr tKeep.rf kw6 rfl) kw8 rfl)⟩
  have j19 : zS X G 4 w6 [(0, .ref a0), (1, .int x1), (2, .int x2)] 0 0 19 [] := by
    refine z_aload_n hC (pc := 19) 0 dX2_addLate_19 rfl rfl ?_
    refine u_getK hC (pc := 20) zf2 13 (tKeep.F kw6 fa5 rfl) dX2_addLate_20 zw272 (kk := ?_)
    refine z_iload_n hC (pc := 23) 1 dX2_addLate_23 rfl rfl ?_
    refine z_iload_n hC (pc := 24) 2 dX2_addLate_24 rfl rfl ?_
    refine t_callSNv hC hw6 (pc := 25) (As := [.ref a5, .int x1, .int x2]) (kX12_set l G T κ hst hE ma5) trivial dmX12_set dX2_addLate_25 zw1289 rfl rfl (Nat.le_of_ble_eq_true rfl) (Nat.le_of_ble_eq_true rfl) (Nat.le_of_ble_eq_true rfl) (Nat.le_of_ble_eq_true rfl) (Nat.le_of_ble_eq_true rfl) (fun _ _ _ h => nomatch h) (fun cw9 nw9 w9 hw9 pw9 => ?_)
    obtain ⟨rfl, rfl, kw9⟩ := pw9
    refine z_lvs [] rfl ?_
    exact j28 w9 hw9 (tKeep.tr tKeep.rf kw9 rfl)
  refine z_icmp_eq hC (pc := 11) 19 dX2_addLate_11 (by decide) (fun c11 => ?_) (fun c11 => ?_)
  · refine z_lvs [1, 2, 3] rfl ?_
    exact j19
  · refine z_iload_n hC (pc := 14) 3 dX2_addLate_14 rfl rfl ?_
    refine z_iload_n hC (pc := 15) 0 dX2_addLate_15 rfl rfl ?_
    refine z_icmp_ge hC (pc := 16) 28 dX2_addLate_16 (by decide) (fun c12 => ?_) (fun c12 => ?_)
    · refine z_lvs [] rfl ?_
      exact j28 w6 hw6 tKeep.rf
    · refine z_lvs [1, 2, 3] rfl ?_
      exact j19
set_option maxRecDepth 20000 in
theorem kX2_addCall (l : Launch) (G : zG) (T : tT) (κ : Nat → List Nat) (hst : l.stackTraces = false) (hE : tE G T κ) {a0 : Nat} (h0 : a0 ∈ κ 2) {x1 : Int32} : tMv l G T yX2_addCall cX2_addCall 2 [] 1 22 0 0 [.ref a0, .int x1] uT (uPv 0x100000000000000000000000000000000000) := by
  refine tMv.intro hst rfl (Nat.le_of_ble_eq_true rfl) ?_
  intro w0 hw0 _ X hC hR hO hX
  refine z_aload_n hC (pc := 0) 0 dX2_addCall_0 rfl rfl ?_
  refine u_get hC hw0 (pc := 1) zf2 11 (hE.o2 h0) rfl dX2_addCall_1 zw268 (kk := fun va4 ta4 fa4 => ?_)
  obtain ⟨a4, ma4, rfl⟩ := ta4
  refine z_iconst hC (pc := 4) (v := 2) dX2_addCall_4 (by decide) ?_
  refine z_aload_n hC (pc := 5) 0 dX2_addCall_5 rfl rfl ?_
  refine u_get hC hw0 (pc := 6) zf2 12 (hE.o2 h0) rfl dX2_addCall_6 zw270 (kk := fun vx5 tx5 fx5 => ?_)
  obtain ⟨x5, rfl⟩ := tx5
  refine z_imul hC (pc := 9) (v := ((2 : Int32) * x5)) dX2_addCall_9 rfl ?_
  refine z_aload_n hC (pc := 10) 0 dX2_addCall_10 rfl rfl ?_
  refine u_get hC hw0 (pc := 11) zf2 3 (hE.o2 h0) rfl dX2_addCall_11 zw244 (kk := fun vx6 tx6 fx6 => ?_)
  obtain ⟨x6, rfl⟩ := tx6
  refine t_callSNv hC hw0 (pc := 14) (As := [.ref a4, .int ((2 : Int32) * x5), .int x6]) (kX12_set l G T κ hst hE ma4) trivial dmX12_set dX2_addCall_14 zw1289 rfl rfl (Nat.le_of_ble_eq_true rfl) (Nat.le_of_ble_eq_true rfl) (Nat.le_of_ble_eq_true rfl) (Nat.le_of_ble_eq_true rfl) (Nat.le_of_ble_eq_true rfl) (fun _ _ _ h => nomatch h) (fun cw7 nw7 w7 hw7 pw7 => ?_)
  obtain ⟨rfl, rfl, kw7⟩ := pw7
  refine z_aload_n hC (pc := 17) 0 dX2_addCall_17 rfl rfl ?_
  refine u_getK hC (pc := 18) zf2 11 (tKeep.F kw7 fa4 rfl) dX2_addCall_18 zw268 (kk := ?_)
  refine z_iconst hC (pc := 21) (v := 2) dX2_addCall_21 (by decide) ?_
  refine z_aload_n hC (pc := 22) 0 dX2_addCall_22 rfl rfl ?_
  refine u_getK hC (pc := 23) zf2 12 (tKeep.F kw7 fx5 rfl) dX2_addCall_23 zw270 (kk := ?_)
  refine z_imul hC (pc := 26) (v := ((2 : Int32) * x5)) dX2_addCall_26 rfl ?_
  refine z_iconst hC (pc := 27) (v := 1) dX2_addCall_27 (by decide) ?_
  refine z_iadd hC (pc := 28) (v := (((2 : Int32) * x5) + 1)) dX2_addCall_28 rfl ?_
  refine z_iload_n hC (pc := 29) 1 dX2_addCall_29 rfl rfl ?_
  refine t_callSNv hC hw7 (pc := 30) (As := [.ref a4, .int (((2 : Int32) * x5) + 1), .int x1]) (kX12_set l G T κ hst hE ma4) trivial dmX12_set dX2_addCall_30 zw1289 rfl rfl (Nat.le_of_ble_eq_true rfl) (Nat.le_of_ble_eq_true rfl) (Nat.le_of_ble_eq_true rfl) (Nat.le_of_ble_eq_true rfl) (Nat.le_of_ble_eq_true rfl) (fun _ _ _ h => nomatch h) (fun cw9 nw9 w9 hw9 pw9 => ?_)
  obtain ⟨rfl, rfl, kw9⟩ := pw9
  refine z_iconst hC (pc := 33) (v := 2) dX2_addCall_33 (by decide) ?_
  refine z_aload_n hC (pc := 34) 0 dX2_addCall_34 rfl rfl ?_
  refine u_getK hC (pc := 35) zf2 12 (tKeep.F kw9 (tKeep.F kw7 fx5 rfl) rfl) dX2_addCall_35 zw270 (kk := ?_)
  refine z_imul hC (pc := 38) (v := ((2 : Int32) * x5)) dX2_addCall_38 rfl ?_
  refine z_aload_n hC (pc := 39) 0 dX2_addCall_39 rfl rfl ?_
  refine u_getK hC (pc := 40) zf2 11 (tKeep.F kw9 (tKeep.F kw7 fa4 rfl) rfl) dX2_addCall_40 zw268 (kk := ?_)
  obtain ⟨N11, gN11, AN11⟩ := hE.ints ma4
  have hN11 : N11 < 2 ^ 31 := Nat.lt_trans gN11 (by decide)
  refine u_alenI hC hw9 (pc := 43) AN11 dX2_addCall_43 ?_
  have j57 : ∀ (w12 : va_W), tW T w12 → tKeep 0x100000000000000000000000000000000000 w9 w12 → zS X G 2 w12 [] 0 0 57 [] := by
    intro w12 hw12 kw12
    exact hR _ _ _ _ _ dX2_addCall_57 (Nat.le_of_ble_eq_true rfl) (Nat.le_of_ble_eq_true rfl) ⟨hw12, rfl, rfl, (tKeep.tr (tKeep.tr (tKeep.tr tKeep.rf kw7 rfl) kw9 rfl) kw12 rfl)⟩
  refine z_icmp_ge hC (pc := 44) 57 dX2_addCall_44 (by decide) (fun c13 => ?_) (fun c13 => ?_)
  · refine z_lvs [] rfl ?_
    exact j57 w9 hw9 tKeep.rf
  · refine z_aload_n hC (pc := 47) 0 dX2_addCall_47 rfl rfl ?_
    refine z_dup hC (pc := 48) dX2_addCall_48 rfl ?_
    refine u_getK hC (pc := 49) zf2 12 (tKeep.F kw9 (tKeep.F kw7 fx5 rfl) rfl) dX2_addCall_49 zw270 (kk := ?_)
    refine z_iconst hC (pc := 52) (v := 1) dX2_addCall_52 (by decide) ?_
    refine z_iadd hC (pc := 53) (v := (x5 + 1)) dX2_addCall_53 rfl ?_
    refine u_put hC hw9 (pc := 54) zf2 12 (hE.o2 h0) rfl ⟨_, rfl⟩ dX2_addCall_54 zw270 rfl rfl rfl (kk := fun w14 hw14 fw14 kw14 => ?_)
    refine z_lvs [] rfl ?_
    exact j57 w14 hw14 (tKeep.tr tKeep.rf kw14 rfl)
set_option maxRecDepth 20000 in
theorem kX10_call (l : Launch) (G : zG) (T : tT) (κ : Nat → List Nat) (hst : l.stackTraces = false) (hE : tE G T κ) {a0 : Nat} (h0 : a0 ∈ κ 10) {x1 : Int32} {x2 : Int32} {x3 : Int32} : tMv l G T yX10_call cX10_call 4 [] 2 45 0 0 [.ref a0, .int x1, .int x2, .int x3] uT (uPv 0x100800000000000000000000000000000000) := by
  refine tMv.intro hst rfl (Nat.le_of_ble_eq_true rfl) ?_
  intro w0 hw0 _ X hC hR hO hX
  refine z_aload_n hC (pc := 0) 0 dX10_call_0 rfl rfl ?_
  refine u_get hC hw0 (pc := 1) zf10 1 (hE.o10 h0) rfl dX10_call_1 zw331 (kk := fun va6 ta6 fa6 => ?_)
  obtain ⟨a6, ma6, rfl⟩ := ta6
  refine z_aload_n hC (pc := 4) 0 dX10_call_4 rfl rfl ?_
  refine u_get hC hw0 (pc := 5) zf10 0 (hE.o10 h0) rfl dX10_call_5 zw330 (kk := fun va7 ta7 fa7 => ?_)
  obtain ⟨a7, ma7, rfl⟩ := ta7
  refine u_get hC hw0 (pc := 8) zf7 6 (hE.o7 ma7) rfl dX10_call_8 zw129 (kk := fun vx8 tx8 fx8 => ?_)
  obtain ⟨x8, rfl⟩ := tx8
  obtain ⟨q9, hqq9⟩ := hE.o2 ma6
  refine t_callVv hC hw0 (pc := 11) (As := [.int x8]) (kX2_addCall l G T κ hst hE ma6) trivial dmX2_addCall zf2 hqq9 dX10_call_11 zw1568 rfl rfl (Nat.le_of_ble_eq_true rfl) (Nat.le_of_ble_eq_true rfl) (Nat.le_of_ble_eq_true rfl) (Nat.le_of_ble_eq_true rfl) (Nat.le_of_ble_eq_true rfl) (fun _ _ _ h => nomatch h) (fun cw10 nw10 w10 hw10 pw10 => ?_)
  obtain ⟨rfl, rfl, kw10⟩ := pw10
  refine z_aload_n hC (pc := 14) 0 dX10_call_14 rfl rfl ?_
  refine u_getK hC (pc := 15) zf10 1 (tKeep.F kw10 fa6 rfl) dX10_call_15 zw331 (kk := ?_)
  refine z_iload_n hC (pc := 18) 3 dX10_call_18 rfl rfl ?_
  refine z_bipush hC (pc := 19) (v := 8) dX10_call_19 (by decide) ?_
  refine z_iand hC (pc := 21) (v := (x3 &&& 8)) dX10_call_21 rfl ?_
  have j32 : ∀ (x12 : Int32), zS X G 4 w10 [(0, .ref a0), (1, .int x1), (2, .int x2), (3, .int x3)] 0 0 32 [.int x12, .ref a6] := by
    intro x12
    refine z_iconst hC (pc := 32) (v := 0) dX10_call_32 (by decide) ?_
    refine z_iload_n hC (pc := 33) 1 dX10_call_33 rfl rfl ?_
    refine z_iload_n hC (pc := 34) 2 dX10_call_34 rfl rfl ?_
    refine t_callVv hC hw10 (pc := 35) (As := [.int x12, .int 0, .int x1, .int x2]) (kX2_emit___ l G T κ hst hE ma6) trivial dmX2_emit___ zf2 hqq9 dX10_call_35 zw1434 rfl rfl (Nat.le_of_ble_eq_true rfl) (Nat.le_of_ble_eq_true rfl) (Nat.le_of_ble_eq_true rfl) (Nat.le_of_ble_eq_true rfl) (Nat.le_of_ble_eq_true rfl) (fun _ _ _ h => nomatch h) (fun cw13 nw13 w13 hw13 pw13 => ?_)
    obtain ⟨rfl, rfl, kw13⟩ := pw13
    refine z_aload_n hC (pc := 38) 0 dX10_call_38 rfl rfl ?_
    refine u_getK hC (pc := 39) zf10 1 (tKeep.F kw13 (tKeep.F kw10 fa6 rfl) rfl) dX10_call_39 zw331 (kk := ?_)
    refine z_aload_n hC (pc := 42) 0 dX10_call_42 rfl rfl ?_
    refine u_get hC hw13 (pc := 43) zf10 12 (hE.o10 h0) rfl dX10_call_43 zw344 (kk := fun vx15 tx15 fx15 => ?_)
    obtain ⟨x15, rfl⟩ := tx15
    refine z_aload_n hC (pc := 46) 0 dX10_call_46 rfl rfl ?_
    refine u_get hC hw13 (pc := 47) zf10 13 (hE.o10 h0) rfl dX10_call_47 zw345 (kk := fun vx16 tx16 fx16 => ?_)
    obtain ⟨x16, rfl⟩ := tx16
    refine z_iload_n hC (pc := 50) 3 dX10_call_50 rfl rfl ?_
    refine z_ior hC (pc := 51) (v := (x16 ||| x3)) dX10_call_51 rfl ?_
    refine z_aload_n hC (pc := 52) 0 dX10_call_52 rfl rfl ?_
    refine u_get hC hw13 (pc := 53) zf10 14 (hE.o10 h0) rfl dX10_call_53 zw346 (kk := fun vx17 tx17 fx17 => ?_)
    obtain ⟨x17, rfl⟩ := tx17
    refine t_callVv hC hw13 (pc := 56) (As := [.int x15, .int (x16 ||| x3), .int x17]) (kX2_emit__ l G T κ hst hE ma6) trivial dmX2_emit__ zf2 hqq9 dX10_call_56 zw1370 rfl rfl (Nat.le_of_ble_eq_true rfl) (Nat.le_of_ble_eq_true rfl) (Nat.le_of_ble_eq_true rfl) (Nat.le_of_ble_eq_true rfl) (Nat.le_of_ble_eq_true rfl) (fun _ _ _ h => nomatch h) (fun cw18 nw18 w18 hw18 pw18 => ?_)
    obtain ⟨rfl, rfl, kw18⟩ := pw18
    exact hR _ _ _ _ _ dX10_call_59 (Nat.le_of_ble_eq_true rfl) (Nat.le_of_ble_eq_true rfl) ⟨hw18, rfl, rfl, (tKeep.tr (tKeep.tr (tKeep.tr tKeep.rf kw10 rfl) kw13 rfl) kw18 rfl)⟩
  refine z_if_eq hC (pc := 22) 30 dX10_call_22 (by decide) (fun c20 => ?_) (fun c20 => ?_)
  · refine z_bipush hC (pc := 30) (v := 15) dX10_call_30 (by decide) ?_
    exact j32 15
  · refine z_bipush hC (pc := 25) (v := 34) dX10_call_25 (by decide) ?_
    refine z_goto hC (pc := 27) 32 dX10_call_27 (by decide) ?_
    exact j32 34
set_option maxRecDepth 20000 in
theorem kX10_function (l : Launch) (G : zG) (T : tT) (κ : Nat → List Nat) (hst : l.stackTraces = false) (hE : tE G T κ) {a0 : Nat} (h0 : a0 ∈ κ 10) {x1 : Int32} {x2 : Int32} : tMv l G T yX10_function cX10_function 3 [] 2 45 0 0 [.ref a0, .int x1, .int x2] uT (uPv 0x800000000000000000000000000000000) := by
  refine tMv.intro hst rfl (Nat.le_of_ble_eq_true rfl) ?_
  intro w0 hw0 _ X hC hR hO hX
  refine z_iload_n hC (pc := 0) 1 dX10_function_0 rfl rfl ?_
  refine z_bipush hC (pc := 1) (v := 6) dX10_function_1 (by decide) ?_
  have j60 : ∀ (w5 : va_W), tW T w5 → tKeep 0x800000000000000000000000000000000 w0 w5 → zS X G 3 w5 [] 0 0 60 [] := by
    intro w5 hw5 kw5
    exact hR _ _ _ _ _ dX10_function_60 (Nat.le_of_ble_eq_true rfl) (Nat.le_of_ble_eq_true rfl) ⟨hw5, rfl, rfl, (tKeep.tr tKeep.rf kw5 rfl)⟩
  refine z_icmp_gt hC (pc := 3) 19 dX10_function_3 (by decide) (fun c6 => ?_) (fun c6 => ?_)
  · refine z_aload_n hC (pc := 19) 0 dX10_function_19 rfl rfl ?_
    refine u_get hC hw0 (pc := 20) zf10 1 (hE.o10 h0) rfl dX10_function_20 zw331 (kk := fun va7 ta7 fa7 => ?_)
    obtain ⟨a7, ma7, rfl⟩ := ta7
    refine z_bipush hC (pc := 23) (v := 23) dX10_function_23 (by decide) ?_
    refine z_bipush hC (pc := 25) (v := 6) dX10_function_25 (by decide) ?_
    refine z_iload_n hC (pc := 27) 2 dX10_function_27 rfl rfl ?_
    refine z_aload_n hC (pc := 28) 0 dX10_function_28 rfl rfl ?_
    refine u_getK hC (pc := 29) zf10 1 fa7 dX10_function_29 zw331 (kk := ?_)
    refine u_get hC hw0 (pc := 32) zf2 3 (hE.o2 ma7) rfl dX10_function_32 zw245 (kk := fun vx8 tx8 fx8 => ?_)
    obtain ⟨x8, rfl⟩ := tx8
    refine z_iconst hC (pc := 35) (v := 5) dX10_function_35 (by decide) ?_
    refine z_iadd hC (pc := 36) (v := (x8 + 5)) dX10_function_36 rfl ?_
    obtain ⟨q9, hqq9⟩ := hE.o2 ma7
    refine t_callVv hC hw0 (pc := 37) (As := [.int 23, .int 6, .int x2, .int (x8 + 5)]) (kX2_emit___ l G T κ hst hE ma7) trivial dmX2_emit___ zf2 hqq9 dX10_function_37 zw1434 rfl rfl (Nat.le_of_ble_eq_true rfl) (Nat.le_of_ble_eq_true rfl) (Nat.le_of_ble_eq_true rfl) (Nat.le_of_ble_eq_true rfl) (Nat.le_of_ble_eq_true rfl) (fun _ _ _ h => nomatch h) (fun cw10 nw10 w10 hw10 pw10 => ?_)
    obtain ⟨rfl, rfl, kw10⟩ := pw10
    refine z_aload_n hC (pc := 40) 0 dX10_function_40 rfl rfl ?_
    refine u_getK hC (pc := 41) zf10 1 (tKeep.F kw10 fa7 rfl) dX10_function_41 zw331 (kk := ?_)
    refine z_iload_n hC (pc := 44) 1 dX10_function_44 rfl rfl ?_
    refine z_bipush hC (pc := 45) (v := 7) dX10_function_45 (by decide) ?_
    have j57 : ∀ (x12 : Int32), zS X G 3 w10 [] 0 0 57 [.int x12, .ref a7] := by
      intro x12
      refine t_callVv hC hw10 (pc := 57) (As := [.int x12]) (kX2_emit l G T κ hst hE ma7) trivial dmX2_emit zf2 hqq9 dX10_function_57 zw1478 rfl rfl (Nat.le_of_ble_eq_true rfl) (Nat.le_of_ble_eq_true rfl) (Nat.le_of_ble_eq_true rfl) (Nat.le_of_ble_eq_true rfl) (Nat.le_of_ble_eq_true rfl) (fun _ _ _ h => nomatch h) (fun cw13 nw13 w13 hw13 pw13 => ?_)
      obtain ⟨rfl, rfl, kw13⟩ := pw13
      exact j60 w13 hw13 (tKeep.tr (tKeep.tr tKeep.rf kw10 rfl) kw13 rfl)
    refine z_icmp_ne hC (pc := 47) 55 dX10_function_47 (by decide) (fun c15 => ?_) (fun c15 => ?_)
    · refine z_bipush hC (pc := 55) (v := 25) dX10_function_55 (by decide) ?_
      refine z_lvs [] rfl ?_
      exact j57 25
    · refine z_bipush hC (pc := 50) (v := 24) dX10_function_50 (by decide) ?_
      refine z_goto hC (pc := 52) 57 dX10_function_52 (by decide) ?_
      refine z_lvs [] rfl ?_
      exact j57 24
  · refine z_aload_n hC (pc := 6) 0 dX10_function_6 rfl rfl ?_
    refine u_get hC hw0 (pc := 7) zf10 1 (hE.o10 h0) rfl dX10_function_7 zw331 (kk := fun va16 ta16 fa16 => ?_)
    obtain ⟨a16, ma16, rfl⟩ := ta16
    refine z_bipush hC (pc := 10) (v := 21) dX10_function_10 (by decide) ?_
    refine z_iload_n hC (pc := 12) 1 dX10_function_12 rfl rfl ?_
    obtain ⟨q17, hqq17⟩ := hE.o2 ma16
    refine t_callVv hC hw0 (pc := 13) (As := [.int 21, .int x1]) (kX2_emit_ l G T κ hst hE ma16) trivial dmX2_emit_ zf2 hqq17 dX10_function_13 zw1394 rfl rfl (Nat.le_of_ble_eq_true rfl) (Nat.le_of_ble_eq_true rfl) (Nat.le_of_ble_eq_true rfl) (Nat.le_of_ble_eq_true rfl) (Nat.le_of_ble_eq_true rfl) (fun _ _ _ h => nomatch h) (fun cw18 nw18 w18 hw18 pw18 => ?_)
    obtain ⟨rfl, rfl, kw18⟩ := pw18
    refine z_goto hC (pc := 16) 60 dX10_function_16 (by decide) ?_
    refine z_lvs [] rfl ?_
    exact j60 w18 hw18 (tKeep.tr tKeep.rf kw18 rfl)
set_option maxRecDepth 20000 in
theorem kX10_branchEnd (l : Launch) (G : zG) (T : tT) (κ : Nat → List Nat) (hst : l.stackTraces = false) (hE : tE G T κ) {a0 : Nat} (h0 : a0 ∈ κ 10) {x1 : Int32} {x2 : Int32} : tMi l G T yX10_branchEnd cX10_branchEnd 3 .int ["java/lang/IllegalStateException"] 8 124 1 6 [.ref a0, .int x1, .int x2] uT (uPi 0x18c000000000000000000000000000000000000000000000001a00000000000000000000000000000000000000000000000000000000000000000000000000000000800000000000000000000000000000000) := by
  refine tMi.intro hst rfl (Nat.le_of_ble_eq_true rfl) ?_
  intro w0 hw0 _ X hC hR hO hX
  refine z_iload_n hC (pc := 0) 2 dX10_branchEnd_0 rfl rfl ?_
  refine z_iconst hC (pc := 1) (v := 1) dX10_branchEnd_1 (by decide) ?_
  have j31 : ∀ (w5 : va_W), tW T w5 → tKeep 0x1800000000000000000000000000000000000000000000000000000000000000000000000000000000000000000000000000000000000000000 w0 w5 → zS X G 3 w5 [(0, .ref a0), (1, .int x1)] 0 0 31 [] := by
    intro w5 hw5 kw5
    refine z_aload_n hC (pc := 31) 0 dX10_branchEnd_31 rfl rfl ?_
    refine z_aload_n hC (pc := 32) 0 dX10_branchEnd_32 rfl rfl ?_
    refine u_get hC hw5 (pc := 33) zf10 11 (hE.o10 h0) rfl dX10_branchEnd_33 zw343 (kk := fun vx6 tx6 fx6 => ?_)
    obtain ⟨x6, rfl, zx6⟩ := t_zof tx6
    refine u_put hC hw5 (pc := 36) zf10 15 (hE.o10 h0) rfl zx6 dX10_branchEnd_36 zw347 rfl (t_nZ zx6) (t_fZ zx6) (kk := fun w7 hw7 fw7 kw7 => ?_)
    refine z_aload_n hC (pc := 39) 0 dX10_branchEnd_39 rfl rfl ?_
    refine z_aload_n hC (pc := 40) 0 dX10_branchEnd_40 rfl rfl ?_
    obtain ⟨q8, hqq8⟩ := hE.o10 h0
    refine t_callVi hC hw7 (pc := 41) (As := []) (kX10_flush l G T κ hst hE h0) trivial dmX10_flush zf10 hqq8 dX10_branchEnd_41 zw1404 rfl rfl (Nat.le_of_ble_eq_true rfl) (Nat.le_of_ble_eq_true rfl) (Nat.le_of_ble_eq_true rfl) (Nat.le_of_ble_eq_true rfl) (Nat.le_of_ble_eq_true rfl) (fun _ _ _ h => nomatch h) (fun x10 cw9 nw9 w9 hw9 pw9 => ?_)
    obtain ⟨rfl, rfl, kw9⟩ := pw9
    refine u_put hC hw9 (pc := 44) zf10 16 (hE.o10 h0) rfl ⟨_, rfl⟩ dX10_branchEnd_44 zw348 rfl rfl rfl (kk := fun w11 hw11 fw11 kw11 => ?_)
    refine z_aload_n hC (pc := 47) 0 dX10_branchEnd_47 rfl rfl ?_
    refine u_get hC hw11 (pc := 48) zf10 0 (hE.o10 h0) rfl dX10_branchEnd_48 zw330 (kk := fun va12 ta12 fa12 => ?_)
    obtain ⟨a12, ma12, rfl⟩ := ta12
    refine z_aload_n hC (pc := 51) 0 dX10_branchEnd_51 rfl rfl ?_
    refine u_getK hC (pc := 52) zf10 0 fa12 dX10_branchEnd_52 zw330 (kk := ?_)
    refine z_aload_n hC (pc := 55) 0 dX10_branchEnd_55 rfl rfl ?_
    refine u_getK hC (pc := 56) zf10 0 fa12 dX10_branchEnd_56 zw330 (kk := ?_)
    refine u_get hC hw11 (pc := 59) zf7 5 (hE.o7 ma12) rfl dX10_branchEnd_59 zw124 (kk := fun vx13 tx13 fx13 => ?_)
    obtain ⟨x13, rfl⟩ := tx13
    obtain ⟨q14, hqq14⟩ := hE.o7 ma12
    refine t_callVi hC hw11 (pc := 62) (As := [.int x13]) (kX7_rowEnd l G T κ hst hE ma12) trivial dmX7_rowEnd zf7 hqq14 dX10_branchEnd_62 zw1381 rfl rfl (Nat.le_of_ble_eq_true rfl) (Nat.le_of_ble_eq_true rfl) (Nat.le_of_ble_eq_true rfl) (Nat.le_of_ble_eq_true rfl) (Nat.le_of_ble_eq_true rfl) (fun _ _ _ h => nomatch h) (fun x16 cw15 nw15 w15 hw15 pw15 => ?_)
    obtain ⟨rfl, rfl, kw15⟩ := pw15
    refine u_put hC hw15 (pc := 65) zf7 5 (hE.o7 ma12) rfl ⟨_, rfl⟩ dX10_branchEnd_65 zw124 rfl rfl rfl (kk := fun w17 hw17 fw17 kw17 => ?_)
    refine z_iload_n hC (pc := 68) 1 dX10_branchEnd_68 rfl rfl ?_
    refine z_bipush hC (pc := 69) (v := 10) dX10_branchEnd_69 (by decide) ?_
    have j97 : ∀ (w18 : va_W), tW T w18 → tKeep 0x8000000000000000000000000000000000000000000000001a00000000000000000000000000000000000000000000000000000000000000000000000000000000000000000000000000000000000000000 w17 w18 → zS X G 3 w18 [(1, .int x1)] 0 0 97 [] := by
      intro w18 hw18 kw18
      refine z_iload_n hC (pc := 97) 0 dX10_branchEnd_97 rfl rfl ?_
      exact hR _ _ _ _ _ _ dX10_branchEnd_98 rfl (Nat.le_of_ble_eq_true rfl) (Nat.le_of_ble_eq_true rfl) ⟨hw18, rfl, rfl, (tKeep.tr (tKeep.tr (tKeep.tr (tKeep.tr (tKeep.tr (tKeep.tr (tKeep.tr tKeep.rf kw5 rfl) kw7 rfl) kw9 rfl) kw11 rfl) kw15 rfl) kw17 rfl) kw18 rfl)⟩
    refine z_icmp_eq hC (pc := 71) 97 dX10_branchEnd_71 (by decide) (fun c19 => ?_) (fun c19 => ?_)
    · refine z_lvs [1] rfl ?_
      exact j97 w17 hw17 tKeep.rf
    · refine z_aload_n hC (pc := 74) 0 dX10_branchEnd_74 rfl rfl ?_
      refine u_getK hC (pc := 75) zf10 0 (tKeep.F kw17 (tKeep.F kw15 fa12 rfl) rfl) dX10_branchEnd_75 zw330 (kk := ?_)
      refine z_aload_n hC (pc := 78) 0 dX10_branchEnd_78 rfl rfl ?_
      refine u_get hC hw17 (pc := 79) zf10 3 (hE.o10 h0) rfl dX10_branchEnd_79 zw334 (kk := fun vx20 tx20 fx20 => ?_)
      obtain ⟨x20, rfl⟩ := tx20
      refine t_callVv hC hw17 (pc := 82) (As := [.int x20]) (kX7_need l G T κ hst hE ma12) trivial dmX7_need zf7 hqq14 dX10_branchEnd_82 zw1448 rfl rfl (Nat.le_of_ble_eq_true rfl) (Nat.le_of_ble_eq_true rfl) (Nat.le_of_ble_eq_true rfl) (Nat.le_of_ble_eq_true rfl) (Nat.le_of_ble_eq_true rfl) (fun E w q hE hw => hO E w _ _ _ _ _ q hE (Nat.le_of_ble_eq_true rfl) (Nat.le_of_ble_eq_true rfl) hw) (fun cw21 nw21 w21 hw21 pw21 => ?_)
      obtain ⟨rfl, rfl, kw21⟩ := pw21
      refine z_aload_n hC (pc := 85) 0 dX10_branchEnd_85 rfl rfl ?_
      refine z_aload_n hC (pc := 86) 0 dX10_branchEnd_86 rfl rfl ?_
      refine u_getK hC (pc := 87) zf10 15 (tKeep.F kw21 (tKeep.F kw17 (tKeep.F kw15 (tKeep.F kw11 (tKeep.F kw9 fw7 rfl) rfl) rfl) rfl) rfl) dX10_branchEnd_87 zw347 (kk := ?_)
      refine z_aload_n hC (pc := 90) 0 dX10_branchEnd_90 rfl rfl ?_
      refine u_getK hC (pc := 91) zf10 16 (tKeep.F kw21 (tKeep.F kw17 (tKeep.F kw15 fw11 rfl) rfl) rfl) dX10_branchEnd_91 zw348 (kk := ?_)
      refine t_callVv hC hw21 (pc := 94) (As := [.int x6, .int x10]) (kX10_restOfLine l G T κ hst hE h0) trivial dmX10_restOfLine zf10 hqq8 dX10_branchEnd_94 zw1421 rfl rfl (Nat.le_of_ble_eq_true rfl) (Nat.le_of_ble_eq_true rfl) (Nat.le_of_ble_eq_true rfl) (Nat.le_of_ble_eq_true rfl) (Nat.le_of_ble_eq_true rfl) (fun _ _ _ h => nomatch h) (fun cw23 nw23 w23 hw23 pw23 => ?_)
      obtain ⟨rfl, rfl, kw23⟩ := pw23
      refine z_lvs [1] rfl ?_
      exact j97 w23 hw23 (tKeep.tr (tKeep.tr tKeep.rf kw21 rfl) kw23 rfl)
  refine z_icmp_eq hC (pc := 2) 31 dX10_branchEnd_2 (by decide) (fun c25 => ?_) (fun c25 => ?_)
  · refine z_lvs [0, 1] rfl ?_
    exact j31 w0 hw0 tKeep.rf
  · refine z_iload_n hC (pc := 5) 2 dX10_branchEnd_5 rfl rfl ?_
    refine z_iconst hC (pc := 6) (v := 2) dX10_branchEnd_6 (by decide) ?_
    have j16 : zS X G 3 w0 [(0, .ref a0), (1, .int x1)] 0 0 16 [] := by
      refine z_aload_n hC (pc := 16) 0 dX10_branchEnd_16 rfl rfl ?_
      refine u_get hC hw0 (pc := 17) zf10 0 (hE.o10 h0) rfl dX10_branchEnd_17 zw330 (kk := fun va26 ta26 fa26 => ?_)
      obtain ⟨a26, ma26, rfl⟩ := ta26
      refine z_iconst hC (pc := 20) (v := 1) dX10_branchEnd_20 (by decide) ?_
      refine z_aload_n hC (pc := 21) 0 dX10_branchEnd_21 rfl rfl ?_
      refine u_getK hC (pc := 22) zf10 0 fa26 dX10_branchEnd_22 zw330 (kk := ?_)
      obtain ⟨q27, hqq27⟩ := hE.o7 ma26
      refine t_callVi hC hw0 (pc := 25) (As := []) (kX7_here l G T κ hst hE ma26) trivial dmX7_here zf7 hqq27 dX10_branchEnd_25 zw1368 rfl rfl (Nat.le_of_ble_eq_true rfl) (Nat.le_of_ble_eq_true rfl) (Nat.le_of_ble_eq_true rfl) (Nat.le_of_ble_eq_true rfl) (Nat.le_of_ble_eq_true rfl) (fun _ _ _ h => nomatch h) (fun x29 cw28 nw28 w28 hw28 pw28 => ?_)
      obtain ⟨rfl, rfl, kw28⟩ := pw28
      refine t_callVv hC hw28 (pc := 28) (As := [.int 1, .int x29]) (kX7_fail l G T κ hst hE ma26) trivial dmX7_fail zf7 hqq27 dX10_branchEnd_28 zw1369 rfl rfl (Nat.le_of_ble_eq_true rfl) (Nat.le_of_ble_eq_true rfl) (Nat.le_of_ble_eq_true rfl) (Nat.le_of_ble_eq_true rfl) (Nat.le_of_ble_eq_true rfl) (fun E w q hE hw => hO E w _ _ _ _ _ q hE (Nat.le_of_ble_eq_true rfl) (Nat.le_of_ble_eq_true rfl) hw) (fun cw30 nw30 w30 hw30 pw30 => ?_)
      obtain ⟨rfl, rfl, kw30⟩ := pw30
      exact j31 w30 hw30 (tKeep.tr (tKeep.tr tKeep.rf kw28 rfl) kw30 rfl)
    refine z_icmp_ne hC (pc := 7) 16 dX10_branchEnd_7 (by decide) (fun c32 => ?_) (fun c32 => ?_)
    · refine z_lvs [0, 1] rfl ?_
      exact j16
    · refine z_iload_n hC (pc := 10) 1 dX10_branchEnd_10 rfl rfl ?_
      refine z_bipush hC (pc := 11) (v := 12) dX10_branchEnd_11 (by decide) ?_
      refine z_icmp_eq hC (pc := 13) 31 dX10_branchEnd_13 (by decide) (fun c33 => ?_) (fun c33 => ?_)
      · refine z_lvs [0, 1] rfl ?_
        exact j31 w0 hw0 tKeep.rf
      · refine z_lvs [0, 1] rfl ?_
        exact j16
set_option maxRecDepth 20000 in
theorem kX10_option (l : Launch) (G : zG) (T : tT) (κ : Nat → List Nat) (hst : l.stackTraces = false) (hE : tE G T κ) {a0 : Nat} (h0 : a0 ∈ κ 10) {x1 : Int32} {x2 : Int32} : tMv l G T yX10_option cX10_option 3 [] 2 45 0 0 [.ref a0, .int x1, .int x2] uT (uPv 0x800000000000000000000000000000000) := by
  refine tMv.intro hst rfl (Nat.le_of_ble_eq_true rfl) ?_
  intro w0 hw0 _ X hC hR hO hX
  refine z_iload_n hC (pc := 0) 1 dX10_option_0 rfl rfl ?_
  refine z_iconst hC (pc := 1) (v := 2) dX10_option_1 (by decide) ?_
  have j30 : ∀ (w5 : va_W), tW T w5 → tKeep 0x800000000000000000000000000000000 w0 w5 → zS X G 3 w5 [(0, .ref a0), (1, .int x1), (2, .int x2)] 0 0 30 [] := by
    intro w5 hw5 kw5
    refine z_iload_n hC (pc := 30) 1 dX10_option_30 rfl rfl ?_
    refine z_iconst hC (pc := 31) (v := 2) dX10_option_31 (by decide) ?_
    have j58 : ∀ (w6 : va_W), tW T w6 → tKeep 0x800000000000000000000000000000000 w5 w6 → zS X G 3 w6 [] 0 0 58 [] := by
      intro w6 hw6 kw6
      exact hR _ _ _ _ _ dX10_option_58 (Nat.le_of_ble_eq_true rfl) (Nat.le_of_ble_eq_true rfl) ⟨hw6, rfl, rfl, (tKeep.tr (tKeep.tr tKeep.rf kw5 rfl) kw6 rfl)⟩
    refine z_icmp_ne hC (pc := 32) 48 dX10_option_32 (by decide) (fun c7 => ?_) (fun c7 => ?_)
    · refine z_aload_n hC (pc := 48) 0 dX10_option_48 rfl rfl ?_
      refine u_get hC hw5 (pc := 49) zf10 1 (hE.o10 h0) rfl dX10_option_49 zw331 (kk := fun va8 ta8 fa8 => ?_)
      obtain ⟨a8, ma8, rfl⟩ := ta8
      refine z_bipush hC (pc := 52) (v := 37) dX10_option_52 (by decide) ?_
      refine z_iload_n hC (pc := 54) 1 dX10_option_54 rfl rfl ?_
      obtain ⟨q9, hqq9⟩ := hE.o2 ma8
      refine t_callVv hC hw5 (pc := 55) (As := [.int 37, .int x1]) (kX2_emit_ l G T κ hst hE ma8) trivial dmX2_emit_ zf2 hqq9 dX10_option_55 zw1394 rfl rfl (Nat.le_of_ble_eq_true rfl) (Nat.le_of_ble_eq_true rfl) (Nat.le_of_ble_eq_true rfl) (Nat.le_of_ble_eq_true rfl) (Nat.le_of_ble_eq_true rfl) (fun _ _ _ h => nomatch h) (fun cw10 nw10 w10 hw10 pw10 => ?_)
      obtain ⟨rfl, rfl, kw10⟩ := pw10
      refine z_lvs [] rfl ?_
      exact j58 w10 hw10 (tKeep.tr tKeep.rf kw10 rfl)
    · refine z_aload_n hC (pc := 35) 0 dX10_option_35 rfl rfl ?_
      refine u_get hC hw5 (pc := 36) zf10 1 (hE.o10 h0) rfl dX10_option_36 zw331 (kk := fun va12 ta12 fa12 => ?_)
      obtain ⟨a12, ma12, rfl⟩ := ta12
      refine z_bipush hC (pc := 39) (v := 38) dX10_option_39 (by decide) ?_
      refine z_iload_n hC (pc := 41) 2 dX10_option_41 rfl rfl ?_
      obtain ⟨q13, hqq13⟩ := hE.o2 ma12
      refine t_callVv hC hw5 (pc := 42) (As := [.int 38, .int x2]) (kX2_emit_ l G T κ hst hE ma12) trivial dmX2_emit_ zf2 hqq13 dX10_option_42 zw1394 rfl rfl (Nat.le_of_ble_eq_true rfl) (Nat.le_of_ble_eq_true rfl) (Nat.le_of_ble_eq_true rfl) (Nat.le_of_ble_eq_true rfl) (Nat.le_of_ble_eq_true rfl) (fun _ _ _ h => nomatch h) (fun cw14 nw14 w14 hw14 pw14 => ?_)
      obtain ⟨rfl, rfl, kw14⟩ := pw14
      refine z_goto hC (pc := 45) 58 dX10_option_45 (by decide) ?_
      refine z_lvs [] rfl ?_
      exact j58 w14 hw14 (tKeep.tr tKeep.rf kw14 rfl)
  have j10 : zS X G 3 w0 [(0, .ref a0), (1, .int x1), (2, .int x2)] 0 0 10 [] := by
    refine z_aload_n hC (pc := 10) 0 dX10_option_10 rfl rfl ?_
    refine u_get hC hw0 (pc := 11) zf10 1 (hE.o10 h0) rfl dX10_option_11 zw331 (kk := fun va16 ta16 fa16 => ?_)
    obtain ⟨a16, ma16, rfl⟩ := ta16
    refine z_bipush hC (pc := 14) (v := 23) dX10_option_14 (by decide) ?_
    refine z_iconst hC (pc := 16) (v := 0) dX10_option_16 (by decide) ?_
    refine z_iload_n hC (pc := 17) 2 dX10_option_17 rfl rfl ?_
    refine z_aload_n hC (pc := 18) 0 dX10_option_18 rfl rfl ?_
    refine u_getK hC (pc := 19) zf10 1 fa16 dX10_option_19 zw331 (kk := ?_)
    refine u_get hC hw0 (pc := 22) zf2 3 (hE.o2 ma16) rfl dX10_option_22 zw245 (kk := fun vx17 tx17 fx17 => ?_)
    obtain ⟨x17, rfl⟩ := tx17
    refine z_iconst hC (pc := 25) (v := 4) dX10_option_25 (by decide) ?_
    refine z_iadd hC (pc := 26) (v := (x17 + 4)) dX10_option_26 rfl ?_
    obtain ⟨q18, hqq18⟩ := hE.o2 ma16
    refine t_callVv hC hw0 (pc := 27) (As := [.int 23, .int 0, .int x2, .int (x17 + 4)]) (kX2_emit___ l G T κ hst hE ma16) trivial dmX2_emit___ zf2 hqq18 dX10_option_27 zw1434 rfl rfl (Nat.le_of_ble_eq_true rfl) (Nat.le_of_ble_eq_true rfl) (Nat.le_of_ble_eq_true rfl) (Nat.le_of_ble_eq_true rfl) (Nat.le_of_ble_eq_true rfl) (fun _ _ _ h => nomatch h) (fun cw19 nw19 w19 hw19 pw19 => ?_)
    obtain ⟨rfl, rfl, kw19⟩ := pw19
    exact j30 w19 hw19 (tKeep.tr tKeep.rf kw19 rfl)
  refine z_icmp_eq hC (pc := 2) 10 dX10_option_2 (by decide) (fun c21 => ?_) (fun c21 => ?_)
  · exact j10
  · refine z_iload_n hC (pc := 5) 1 dX10_option_5 rfl rfl ?_
    refine z_iconst hC (pc := 6) (v := 3) dX10_option_6 (by decide) ?_
    refine z_icmp_ne hC (pc := 7) 30 dX10_option_7 (by decide) (fun c22 => ?_) (fun c22 => ?_)
    · exact j30 w0 hw0 tKeep.rf
    · exact j10
set_option maxRecDepth 20000 in
theorem kX10_literal (l : Launch) (G : zG) (T : tT) (κ : Nat → List Nat) (hst : l.stackTraces = false) (hE : tE G T κ) {a0 : Nat} (h0 : a0 ∈ κ 10) {x1 : Int32} : tMv l G T yX10_literal cX10_literal 5 [] 1 22 0 0 [.ref a0, .int x1] uT (uPv 0xe000000000000000000000000000000000000000000000000200000000000000000000000000000000000000000000000000000000000000000000000000000004000000000000000000000000000000000) := by
  refine tMv.intro hst rfl (Nat.le_of_ble_eq_true rfl) ?_
  intro w0 hw0 _ X hC hR hO hX
  refine z_iload_n hC (pc := 0) 1 dX10_literal_0 rfl rfl ?_
  refine z_istore_n hC (pc := 1) (lv' := [(2, .int x1), (0, .ref a0), (1, .int x1)]) dX10_literal_1 rfl (by decide) rfl ?_
  refine z_aload_n hC (pc := 2) 1 dX10_literal_2 rfl rfl ?_
  refine u_get hC hw0 (pc := 3) zf10 0 (hE.o10 h0) rfl dX10_literal_3 zw330 (kk := fun va4 ta4 fa4 => ?_)
  obtain ⟨a4, ma4, rfl⟩ := ta4
  obtain ⟨q5, hqq5⟩ := hE.o7 ma4
  refine t_callVi hC hw0 (pc := 6) (As := []) (kX7_here l G T κ hst hE ma4) trivial dmX7_here zf7 hqq5 dX10_literal_6 zw1368 rfl rfl (Nat.le_of_ble_eq_true rfl) (Nat.le_of_ble_eq_true rfl) (Nat.le_of_ble_eq_true rfl) (Nat.le_of_ble_eq_true rfl) (Nat.le_of_ble_eq_true rfl) (fun _ _ _ h => nomatch h) (fun x7 cw6 nw6 w6 hw6 pw6 => ?_)
  obtain ⟨rfl, rfl, kw6⟩ := pw6
  refine z_istore_n hC (pc := 9) (lv' := [(3, .int x7), (2, .int x1), (0, .ref a0), (1, .int x1)]) dX10_literal_9 rfl (by decide) rfl ?_
  refine z_iload_n hC (pc := 10) 1 dX10_literal_10 rfl rfl ?_
  refine z_bipush hC (pc := 11) (v := 92) dX10_literal_11 (by decide) ?_
  have j73 : ∀ (w8 : va_W), tW T w8 → tKeep 0x200000000000000000000000000000000000000000000000000000000000000000000000000000000000000000000000000000000000000000 w6 w8 → ∀ (x9 : Int32), zS X G 5 w8 [(0, .ref a0), (2, .int x9), (3, .int x7)] 0 0 73 [] := by
    intro w8 hw8 kw8 x9
    refine z_aload_n hC (pc := 73) 0 dX10_literal_73 rfl rfl ?_
    refine u_getK hC (pc := 74) zf10 0 (tKeep.F kw8 (tKeep.F kw6 fa4 rfl) rfl) dX10_literal_74 zw330 (kk := ?_)
    refine z_dup hC (pc := 77) dX10_literal_77 rfl ?_
    refine u_get hC hw8 (pc := 78) zf7 5 (hE.o7 ma4) rfl dX10_literal_78 zw124 (kk := fun vx10 tx10 fx10 => ?_)
    obtain ⟨x10, rfl⟩ := tx10
    refine z_iconst hC (pc := 81) (v := 1) dX10_literal_81 (by decide) ?_
    refine z_iadd hC (pc := 82) (v := (x10 + 1)) dX10_literal_82 rfl ?_
    refine u_put hC hw8 (pc := 83) zf7 5 (hE.o7 ma4) rfl ⟨_, rfl⟩ dX10_literal_83 zw124 rfl rfl rfl (kk := fun w11 hw11 fw11 kw11 => ?_)
    refine z_aload_n hC (pc := 86) 0 dX10_literal_86 rfl rfl ?_
    refine u_get hC hw11 (pc := 87) zf10 10 (hE.o10 h0) rfl dX10_literal_87 zw342 (kk := fun vx12 tx12 fx12 => ?_)
    obtain ⟨x12, rfl⟩ := tx12
    have j104 : ∀ (w13 : va_W), tW T w13 → tKeep 0x2000000000000000000000000000000000000000000000000000000000000000000000000000000000000000000000000000000000000000000000000000000000000000000000000000000000000000000 w11 w13 → zS X G 5 w13 [(0, .ref a0), (2, .int x9), (3, .int x7)] 0 0 104 [] := by
      intro w13 hw13 kw13
      refine z_aload_n hC (pc := 104) 0 dX10_literal_104 rfl rfl ?_
      refine u_get hC hw13 (pc := 105) zf10 1 (hE.o10 h0) rfl dX10_literal_105 zw331 (kk := fun va14 ta14 fa14 => ?_)
      obtain ⟨a14, ma14, rfl⟩ := ta14
      refine z_iload_n hC (pc := 108) 1 dX10_literal_108 rfl rfl ?_
      refine z_iload_n hC (pc := 109) 2 dX10_literal_109 rfl rfl ?_
      obtain ⟨q15, hqq15⟩ := hE.o2 ma14
      refine t_callVv hC hw13 (pc := 110) (As := [.int x9, .int x7]) (kX2_keep l G T κ hst hE ma14) trivial dmX2_keep zf2 hqq15 dX10_literal_110 zw1433 rfl rfl (Nat.le_of_ble_eq_true rfl) (Nat.le_of_ble_eq_true rfl) (Nat.le_of_ble_eq_true rfl) (Nat.le_of_ble_eq_true rfl) (Nat.le_of_ble_eq_true rfl) (fun _ _ _ h => nomatch h) (fun cw16 nw16 w16 hw16 pw16 => ?_)
      obtain ⟨rfl, rfl, kw16⟩ := pw16
      refine z_aload_n hC (pc := 113) 0 dX10_literal_113 rfl rfl ?_
      refine z_dup hC (pc := 114) dX10_literal_114 rfl ?_
      refine u_getK hC (pc := 115) zf10 10 (tKeep.F kw16 (tKeep.F kw13 fx12 rfl) rfl) dX10_literal_115 zw342 (kk := ?_)
      refine z_iconst hC (pc := 118) (v := 1) dX10_literal_118 (by decide) ?_
      refine z_iadd hC (pc := 119) (v := (x12 + 1)) dX10_literal_119 rfl ?_
      refine u_put hC hw16 (pc := 120) zf10 10 (hE.o10 h0) rfl ⟨_, rfl⟩ dX10_literal_120 zw342 rfl rfl rfl (kk := fun w18 hw18 fw18 kw18 => ?_)
      refine z_aload_n hC (pc := 123) 0 dX10_literal_123 rfl rfl ?_
      refine z_aload_n hC (pc := 124) 0 dX10_literal_124 rfl rfl ?_
      refine u_get hC hw18 (pc := 125) zf10 11 (hE.o10 h0) rfl dX10_literal_125 zw343 (kk := fun vx19 tx19 fx19 => ?_)
      obtain ⟨x19, rfl, zx19⟩ := t_zof tx19
      have j148 : ∀ (x20 : Int32), tZ (.int x20) → zS X G 5 w18 [] 0 0 148 [.int x20, .ref a0] := by
        intro x20 zx20
        refine u_put hC hw18 (pc := 148) zf10 11 (hE.o10 h0) rfl zx20 dX10_literal_148 zw343 rfl (t_nZ zx20) (t_fZ zx20) (kk := fun w21 hw21 fw21 kw21 => ?_)
        exact hR _ _ _ _ _ dX10_literal_151 (Nat.le_of_ble_eq_true rfl) (Nat.le_of_ble_eq_true rfl) ⟨hw21, rfl, rfl, (tKeep.tr (tKeep.tr (tKeep.tr (tKeep.tr (tKeep.tr (tKeep.tr (tKeep.tr tKeep.rf kw6 rfl) kw8 rfl) kw11 rfl) kw13 rfl) kw16 rfl) kw18 rfl) kw21 rfl)⟩
      have j147 : zS X G 5 w18 [] 0 0 147 [.ref a0] := by
        refine z_iconst hC (pc := 147) (v := 0) dX10_literal_147 (by decide) ?_
        exact j148 0 (Or.inl rfl)
      refine z_if_eq hC (pc := 128) 147 dX10_literal_128 (by decide) (fun c22 => ?_) (fun c22 => ?_)
      · refine z_lvs [] rfl ?_
        exact j147
      · refine z_iload_n hC (pc := 131) 1 dX10_literal_131 rfl rfl ?_
        refine z_bipush hC (pc := 132) (v := 32) dX10_literal_132 (by decide) ?_
        have j143 : zS X G 5 w18 [] 0 0 143 [.ref a0] := by
          refine z_iconst hC (pc := 143) (v := 1) dX10_literal_143 (by decide) ?_
          refine z_goto hC (pc := 144) 148 dX10_literal_144 (by decide) ?_
          exact j148 1 (Or.inr rfl)
        refine z_icmp_eq hC (pc := 134) 143 dX10_literal_134 (by decide) (fun c23 => ?_) (fun c23 => ?_)
        · refine z_lvs [] rfl ?_
          exact j143
        · refine z_iload_n hC (pc := 137) 1 dX10_literal_137 rfl rfl ?_
          refine z_bipush hC (pc := 138) (v := 9) dX10_literal_138 (by decide) ?_
          refine z_icmp_ne hC (pc := 140) 147 dX10_literal_140 (by decide) (fun c24 => ?_) (fun c24 => ?_)
          · refine z_lvs [] rfl ?_
            exact j147
          · refine z_lvs [] rfl ?_
            exact j143
    refine z_if_ne hC (pc := 90) 104 dX10_literal_90 (by decide) (fun c25 => ?_) (fun c25 => ?_)
    · exact j104 w11 hw11 tKeep.rf
    · refine z_aload_n hC (pc := 93) 0 dX10_literal_93 rfl rfl ?_
      refine z_aload_n hC (pc := 94) 0 dX10_literal_94 rfl rfl ?_
      refine u_get hC hw11 (pc := 95) zf10 1 (hE.o10 h0) rfl dX10_literal_95 zw331 (kk := fun va26 ta26 fa26 => ?_)
      obtain ⟨a26, ma26, rfl⟩ := ta26
      refine u_get hC hw11 (pc := 98) zf2 6 (hE.o2 ma26) rfl dX10_literal_98 zw254 (kk := fun vx27 tx27 fx27 => ?_)
      obtain ⟨x27, rfl⟩ := tx27
      refine u_put hC hw11 (pc := 101) zf10 9 (hE.o10 h0) rfl ⟨_, rfl⟩ dX10_literal_101 zw341 rfl rfl rfl (kk := fun w28 hw28 fw28 kw28 => ?_)
      exact j104 w28 hw28 (tKeep.tr tKeep.rf kw28 rfl)
  refine z_icmp_ne hC (pc := 13) 73 dX10_literal_13 (by decide) (fun c29 => ?_) (fun c29 => ?_)
  · refine z_lvs [2, 1, 0] rfl ?_
    exact j73 w6 hw6 tKeep.rf x1
  · refine z_aload_n hC (pc := 16) 2 dX10_literal_16 rfl rfl ?_
    refine u_getK hC (pc := 17) zf10 0 (tKeep.F kw6 fa4 rfl) dX10_literal_17 zw330 (kk := ?_)
    refine z_aload_n hC (pc := 20) 2 dX10_literal_20 rfl rfl ?_
    refine u_getK hC (pc := 21) zf10 0 (tKeep.F kw6 fa4 rfl) dX10_literal_21 zw330 (kk := ?_)
    refine u_get hC hw6 (pc := 24) zf7 5 (hE.o7 ma4) rfl dX10_literal_24 zw124 (kk := fun vx30 tx30 fx30 => ?_)
    obtain ⟨x30, rfl⟩ := tx30
    refine z_iconst hC (pc := 27) (v := 1) dX10_literal_27 (by decide) ?_
    refine z_iadd hC (pc := 28) (v := (x30 + 1)) dX10_literal_28 rfl ?_
    refine t_callVi hC hw6 (pc := 29) (As := [.int (x30 + 1)]) (kX7_at l G T κ hst hE ma4) trivial dmX7_at zf7 hqq5 dX10_literal_29 zw1379 rfl rfl (Nat.le_of_ble_eq_true rfl) (Nat.le_of_ble_eq_true rfl) (Nat.le_of_ble_eq_true rfl) (Nat.le_of_ble_eq_true rfl) (Nat.le_of_ble_eq_true rfl) (fun _ _ _ h => nomatch h) (fun x32 cw31 nw31 w31 hw31 pw31 => ?_)
    obtain ⟨rfl, rfl, kw31⟩ := pw31
    refine z_istore hC (pc := 32) (lv' := [(4, .int x32), (3, .int x7), (2, .int x1), (0, .ref a0), (1, .int x1)]) dX10_literal_32 (by decide) rfl ?_
    refine z_iload hC (pc := 34) 0 dX10_literal_34 rfl ?_
    refine z_aload_n hC (pc := 36) 3 dX10_literal_36 rfl rfl ?_
    refine u_get hC hw31 (pc := 37) zf10 2 (hE.o10 h0) rfl dX10_literal_37 zw332 (kk := fun vx33 tx33 fx33 => ?_)
    obtain ⟨x33, rfl⟩ := tx33
    have j57 : zS X G 5 w31 [(0, .ref a0), (3, .int x7), (4, .int x32)] 0 0 57 [] := by
      refine z_iload hC (pc := 57) 2 dX10_literal_57 rfl ?_
      refine z_istore_n hC (pc := 59) (lv' := [(2, .int x32), (0, .ref a0), (3, .int x7), (4, .int x32)]) dX10_literal_59 rfl (by decide) rfl ?_
      refine z_aload_n hC (pc := 60) 1 dX10_literal_60 rfl rfl ?_
      refine u_getK hC (pc := 61) zf10 0 (tKeep.F kw31 (tKeep.F kw6 fa4 rfl) rfl) dX10_literal_61 zw330 (kk := ?_)
      refine z_dup hC (pc := 64) dX10_literal_64 rfl ?_
      refine u_getK hC (pc := 65) zf7 5 (tKeep.F kw31 fx30 rfl) dX10_literal_65 zw124 (kk := ?_)
      refine z_iconst hC (pc := 68) (v := 1) dX10_literal_68 (by decide) ?_
      refine z_iadd hC (pc := 69) (v := (x30 + 1)) dX10_literal_69 rfl ?_
      refine u_put hC hw31 (pc := 70) zf7 5 (hE.o7 ma4) rfl ⟨_, rfl⟩ dX10_literal_70 zw124 rfl rfl rfl (kk := fun w34 hw34 fw34 kw34 => ?_)
      refine z_lvs [1, 0, 2] rfl ?_
      exact j73 w34 hw34 (tKeep.tr (tKeep.tr tKeep.rf kw31 rfl) kw34 rfl) x32
    refine z_icmp_eq hC (pc := 40) 57 dX10_literal_40 (by decide) (fun c35 => ?_) (fun c35 => ?_)
    · refine z_lvs [3, 1, 0] rfl ?_
      exact j57
    · refine z_iload hC (pc := 43) 0 dX10_literal_43 rfl ?_
      refine z_bipush hC (pc := 45) (v := 92) dX10_literal_45 (by decide) ?_
      refine z_icmp_eq hC (pc := 47) 57 dX10_literal_47 (by decide) (fun c36 => ?_) (fun c36 => ?_)
      · refine z_lvs [3, 1, 0] rfl ?_
        exact j57
      · refine z_iload hC (pc := 50) 0 dX10_literal_50 rfl ?_
        refine z_bipush hC (pc := 52) (v := 125) dX10_literal_52 (by decide) ?_
        refine z_icmp_ne hC (pc := 54) 73 dX10_literal_54 (by decide) (fun c37 => ?_) (fun c37 => ?_)
        · refine z_lvs [3, 2, 1] rfl ?_
          exact j73 w31 hw31 (tKeep.tr tKeep.rf kw31 rfl) x1
        · refine z_lvs [3, 1, 0] rfl ?_
          exact j57
