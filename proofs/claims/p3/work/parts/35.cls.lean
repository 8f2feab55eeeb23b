theorem zw210 : Cond.fieldLink "TemplateHouse$Imports" 16 "TemplateHouse$Imports" "ways" "[I" ∈ zT := zsub1 210 (by decide +kernel) (by decide +kernel)
theorem zw449 : Cond.fieldLink "TemplateHouse$Checker" 25 "TemplateHouse$Checker" "g" "LTemplateHouse$Gen;" ∈ zT := zsub2 209 (by decide +kernel) (by decide +kernel)
theorem zw261 : Cond.fieldLink "TemplateHouse$Checker" 113 "TemplateHouse$Gen" "defCount" "I" ∈ zT := zsub2 21 (by decide +kernel) (by decide +kernel)
theorem zw257 : Cond.fieldLink "TemplateHouse$Checker" 116 "TemplateHouse$Gen" "defs" "[I" ∈ zT := zsub2 17 (by decide +kernel) (by decide +kernel)
theorem zw1668 : Cond.methodLinkNest "TemplateHouse$Checker" 50 ⟨"TemplateHouse", "get", "([II)I"⟩ "TemplateHouse" ∈ zNest := zsubN7 228 (by decide +kernel) (by decide +kernel)
theorem zw275 : Cond.fieldLink "TemplateHouse$Checker" 88 "TemplateHouse$Gen" "template" "[I" ∈ zT := zsub2 35 (by decide +kernel) (by decide +kernel)
theorem zw1667 : Cond.methodLinkNest "TemplateHouse$Checker" 91 ⟨"TemplateHouse", "set", "([III)V"⟩ "TemplateHouse" ∈ zNest := zsubN7 227 (by decide +kernel) (by decide +kernel)
theorem zw280 : Cond.fieldLink "TemplateHouse$Checker" 98 "TemplateHouse$Gen" "templates" "I" ∈ zT := zsub2 40 (by decide +kernel) (by decide +kernel)
theorem zw277 : Cond.fieldLink "TemplateHouse$Checker" 95 "TemplateHouse$Gen" "dictionary" "[I" ∈ zT := zsub2 37 (by decide +kernel) (by decide +kernel)
theorem zw231 : Cond.fieldLink "TemplateHouse$Checker" 79 "TemplateHouse$Gen" "names" "LTemplateHouse$Names;" ∈ zT := zsub1 231 (by decide +kernel) (by decide +kernel)
theorem zw185 : Cond.fieldLink "TemplateHouse$Checker" 83 "TemplateHouse$Names" "count" "I" ∈ zT := zsub1 185 (by decide +kernel) (by decide +kernel)
theorem zw237 : Cond.fieldLink "TemplateHouse$Checker" 29 "TemplateHouse$Gen" "imports" "LTemplateHouse$Imports;" ∈ zT := zsub1 237 (by decide +kernel) (by decide +kernel)
theorem zw213 : Cond.fieldLink "TemplateHouse$Checker" 46 "TemplateHouse$Imports" "read" "[I" ∈ zT := zsub1 213 (by decide +kernel) (by decide +kernel)
theorem zw1669 : Cond.methodLink "TemplateHouse$Checker" 101 ⟨"TemplateHouse$Imports", "wayLength", "(I)I"⟩ ∈ zT := zsub7 229 (by decide +kernel) (by decide +kernel)
theorem zw1673 : Cond.methodLink "TemplateHouse$Checker" 105 ⟨"TemplateHouse$Imports", "way", "(II)I"⟩ ∈ zT := zsub7 233 (by decide +kernel) (by decide +kernel)
theorem zw1677 : Cond.methodLink "TemplateHouse$Checker" 109 ⟨"TemplateHouse$Checker", "nameFile", "(I)V"⟩ ∈ zT := zsub7 237 (by decide +kernel) (by decide +kernel)
theorem zw451 : Cond.fieldLink "TemplateHouse$Checker" 15 "TemplateHouse$Checker" "number" "I" ∈ zT := zsub2 211 (by decide +kernel) (by decide +kernel)
theorem zw452 : Cond.fieldLink "TemplateHouse$Checker" 18 "TemplateHouse$Checker" "place" "I" ∈ zT := zsub2 212 (by decide +kernel) (by decide +kernel)
theorem zw1689 : Cond.methodLink "TemplateHouse$Checker" 66 ⟨"TemplateHouse$Checker", "mark", "(II)V"⟩ ∈ zT := zsub8 9 (by decide +kernel) (by decide +kernel)
theorem zw267 : Cond.fieldLink "TemplateHouse$Checker" 155 "TemplateHouse$Gen" "partCount" "I" ∈ zT := zsub2 27 (by decide +kernel) (by decide +kernel)
theorem zw263 : Cond.fieldLink "TemplateHouse$Checker" 158 "TemplateHouse$Gen" "parts" "[I" ∈ zT := zsub2 23 (by decide +kernel) (by decide +kernel)
theorem zw450 : Cond.fieldLink "TemplateHouse$Checker" 9 "TemplateHouse$Checker" "file" "I" ∈ zT := zsub2 210 (by decide +kernel) (by decide +kernel)
theorem zw1693 : Cond.methodLink "TemplateHouse$Checker" 122 ⟨"TemplateHouse$Checker", "templateFrom", "(III)I"⟩ ∈ zT := zsub8 13 (by decide +kernel) (by decide +kernel)
theorem zw1697 : Cond.methodLink "TemplateHouse$Checker" 126 ⟨"TemplateHouse$Checker", "ownPart", "(III)I"⟩ ∈ zT := zsub8 17 (by decide +kernel) (by decide +kernel)
theorem zw1685 : Cond.methodLink "TemplateHouse$Checker" 119 ⟨"TemplateHouse$Checker", "checkAlias", "(I)V"⟩ ∈ zT := zsub8 5 (by decide +kernel) (by decide +kernel)
theorem zw274 : Cond.fieldLink "TemplateHouse$Gen" 65 "TemplateHouse$Gen" "template" "[I" ∈ zT := zsub2 34 (by decide +kernel) (by decide +kernel)
theorem zw241 : Cond.fieldLink "TemplateHouse$Checker" 138 "TemplateHouse$Gen" "code" "[I" ∈ zT := zsub2 1 (by decide +kernel) (by decide +kernel)
theorem zw1717 : Cond.constant "TemplateHouse$Checker" 151 (1476395008 : Int32) ∈ zT := zsub8 37 (by decide +kernel) (by decide +kernel)
theorem zw1718 : Cond.methodLink "TemplateHouse$Checker" 152 ⟨"TemplateHouse$Checker", "isNamed", "(II)Z"⟩ ∈ zT := zsub8 38 (by decide +kernel) (by decide +kernel)
theorem zw1658 : Cond.code ⟨"TemplateHouse$Imports", "layWays", "()V"⟩ prog_6_method_8_code 3 (Option.none : Option Jvm.ClassFile.FieldType) ∈ zT := zsub7 218 rfl rfl
theorem zw1656 : Cond.instanceMethod ⟨"TemplateHouse$Imports", "layWays", "()V"⟩ ∈ zT := zsub7 216 (by decide +kernel) (by decide +kernel)
theorem zw1657 : Cond.selects "TemplateHouse$Imports" ⟨"TemplateHouse$Imports", "layWays", "()V"⟩ ⟨"TemplateHouse$Imports", "layWays", "()V"⟩ ∈ zT := zsub7 217 (by decide +kernel) (by decide +kernel)
theorem zw1672 : Cond.code ⟨"TemplateHouse$Imports", "wayLength", "(I)I"⟩ prog_6_method_7_code 2 (Option.some Jvm.ClassFile.FieldType.int) ∈ zT := zsub7 232 rfl rfl
theorem zw1670 : Cond.instanceMethod ⟨"TemplateHouse$Imports", "wayLength", "(I)I"⟩ ∈ zT := zsub7 230 (by decide +kernel) (by decide +kernel)
theorem zw1671 : Cond.selects "TemplateHouse$Imports" ⟨"TemplateHouse$Imports", "wayLength", "(I)I"⟩ ⟨"TemplateHouse$Imports", "wayLength", "(I)I"⟩ ∈ zT := zsub7 231 (by decide +kernel) (by decide +kernel)
theorem zw1676 : Cond.code ⟨"TemplateHouse$Imports", "way", "(II)I"⟩ prog_6_method_6_code 3 (Option.some Jvm.ClassFile.FieldType.int) ∈ zT := zsub7 236 rfl rfl
theorem zw1674 : Cond.instanceMethod ⟨"TemplateHouse$Imports", "way", "(II)I"⟩ ∈ zT := zsub7 234 (by decide +kernel) (by decide +kernel)
theorem zw1675 : Cond.selects "TemplateHouse$Imports" ⟨"TemplateHouse$Imports", "way", "(II)I"⟩ ⟨"TemplateHouse$Imports", "way", "(II)I"⟩ ∈ zT := zsub7 235 (by decide +kernel) (by decide +kernel)
theorem zw1680 : Cond.code ⟨"TemplateHouse$Checker", "nameFile", "(I)V"⟩ prog_2_method_5_code 6 (Option.none : Option Jvm.ClassFile.FieldType) ∈ zT := zsub8 0 rfl rfl
theorem zw9 : Cond.initialized "TemplateHouse$Checker" ∈ zT := zsub1 9 (by decide +kernel) (by decide +kernel)
theorem zw1679 : Cond.instanceMethod ⟨"TemplateHouse$Checker", "nameFile", "(I)V"⟩ ∈ zT := zsub7 239 (by decide +kernel) (by decide +kernel)
theorem zwp14 : Cond.selects "TemplateHouse$Checker" ⟨"TemplateHouse$Checker", "nameFile", "(I)V"⟩ ⟨"TemplateHouse$Checker", "nameFile", "(I)V"⟩ ∈ zT := zin 14 (by decide +kernel) (by decide +kernel)
theorem zw1666 : Cond.code ⟨"TemplateHouse$Checker", "nameAll", "()V"⟩ prog_2_method_4_code 3 (Option.none : Option Jvm.ClassFile.FieldType) ∈ zT := zsub7 226 rfl rfl
theorem zw1665 : Cond.instanceMethod ⟨"TemplateHouse$Checker", "nameAll", "()V"⟩ ∈ zT := zsub7 225 (by decide +kernel) (by decide +kernel)
theorem zwp13 : Cond.selects "TemplateHouse$Checker" ⟨"TemplateHouse$Checker", "nameAll", "()V"⟩ ⟨"TemplateHouse$Checker", "nameAll", "()V"⟩ ∈ zT := zin 13 (by decide +kernel) (by decide +kernel)
theorem zw1692 : Cond.code ⟨"TemplateHouse$Checker", "mark", "(II)V"⟩ prog_2_method_3_code 3 (Option.none : Option Jvm.ClassFile.FieldType) ∈ zT := zsub8 12 rfl rfl
theorem zw1691 : Cond.instanceMethod ⟨"TemplateHouse$Checker", "mark", "(II)V"⟩ ∈ zT := zsub8 11 (by decide +kernel) (by decide +kernel)
theorem zwp11 : Cond.selects "TemplateHouse$Checker" ⟨"TemplateHouse$Checker", "mark", "(II)V"⟩ ⟨"TemplateHouse$Checker", "mark", "(II)V"⟩ ∈ zT := zin 11 (by decide +kernel) (by decide +kernel)
theorem zw1688 : Cond.code ⟨"TemplateHouse$Checker", "checkAlias", "(I)V"⟩ prog_2_method_7_code 4 (Option.none : Option Jvm.ClassFile.FieldType) ∈ zT := zsub8 8 rfl rfl
theorem zw1687 : Cond.instanceMethod ⟨"TemplateHouse$Checker", "checkAlias", "(I)V"⟩ ∈ zT := zsub8 7 (by decide +kernel) (by decide +kernel)
theorem zwp4 : Cond.selects "TemplateHouse$Checker" ⟨"TemplateHouse$Checker", "checkAlias", "(I)V"⟩ ⟨"TemplateHouse$Checker", "checkAlias", "(I)V"⟩ ∈ zT := zin 4 (by decide +kernel) (by decide +kernel)
theorem zw1696 : Cond.code ⟨"TemplateHouse$Checker", "templateFrom", "(III)I"⟩ prog_2_method_8_code 8 (Option.some Jvm.ClassFile.FieldType.int) ∈ zT := zsub8 16 rfl rfl
theorem zw1695 : Cond.instanceMethod ⟨"TemplateHouse$Checker", "templateFrom", "(III)I"⟩ ∈ zT := zsub8 15 (by decide +kernel) (by decide +kernel)
theorem zwp17 : Cond.selects "TemplateHouse$Checker" ⟨"TemplateHouse$Checker", "templateFrom", "(III)I"⟩ ⟨"TemplateHouse$Checker", "templateFrom", "(III)I"⟩ ∈ zT := zin 17 (by decide +kernel) (by decide +kernel)
theorem zw1700 : Cond.code ⟨"TemplateHouse$Checker", "ownPart", "(III)I"⟩ prog_2_method_14_code 6 (Option.some Jvm.ClassFile.FieldType.int) ∈ zT := zsub8 20 rfl rfl
theorem zw1699 : Cond.instanceMethod ⟨"TemplateHouse$Checker", "ownPart", "(III)I"⟩ ∈ zT := zsub8 19 (by decide +kernel) (by decide +kernel)
theorem zwp15 : Cond.selects "TemplateHouse$Checker" ⟨"TemplateHouse$Checker", "ownPart", "(III)I"⟩ ⟨"TemplateHouse$Checker", "ownPart", "(III)I"⟩ ∈ zT := zin 15 (by decide +kernel) (by decide +kernel)
theorem zw1684 : Cond.code ⟨"TemplateHouse$Checker", "checkDefs", "()V"⟩ prog_2_method_6_code 5 (Option.none : Option Jvm.ClassFile.FieldType) ∈ zT := zsub8 4 rfl rfl
theorem zw1683 : Cond.instanceMethod ⟨"TemplateHouse$Checker", "checkDefs", "()V"⟩ ∈ zT := zsub8 3 (by decide +kernel) (by decide +kernel)
theorem zwp7 : Cond.selects "TemplateHouse$Checker" ⟨"TemplateHouse$Checker", "checkDefs", "()V"⟩ ⟨"TemplateHouse$Checker", "checkDefs", "()V"⟩ ∈ zT := zin 7 (by decide +kernel) (by decide +kernel)
theorem zw1712 : Cond.code ⟨"TemplateHouse$Gen", "textOf", "(I)I"⟩ prog_4_method_17_code 4 (Option.some Jvm.ClassFile.FieldType.int) ∈ zT := zsub8 32 rfl rfl
theorem zw1710 : Cond.instanceMethod ⟨"TemplateHouse$Gen", "textOf", "(I)I"⟩ ∈ zT := zsub8 30 (by decide +kernel) (by decide +kernel)
theorem zw1711 : Cond.selects "TemplateHouse$Gen" ⟨"TemplateHouse$Gen", "textOf", "(I)I"⟩ ⟨"TemplateHouse$Gen", "textOf", "(I)I"⟩ ∈ zT := zsub8 31 (by decide +kernel) (by decide +kernel)
theorem zw1721 : Cond.code ⟨"TemplateHouse$Checker", "isNamed", "(II)Z"⟩ prog_2_method_12_code 5 (Option.some Jvm.ClassFile.FieldType.boolean) ∈ zT := zsub8 41 rfl rfl
theorem zw1720 : Cond.instanceMethod ⟨"TemplateHouse$Checker", "isNamed", "(II)Z"⟩ ∈ zT := zsub8 40 (by decide +kernel) (by decide +kernel)
theorem zwp10 : Cond.selects "TemplateHouse$Checker" ⟨"TemplateHouse$Checker", "isNamed", "(II)Z"⟩ ⟨"TemplateHouse$Checker", "isNamed", "(II)Z"⟩ ∈ zT := zin 10 (by decide +kernel) (by decide +kernel)
theorem zw1716 : Cond.code ⟨"TemplateHouse$Checker", "mayHaveArgs", "(II)Z"⟩ prog_2_method_11_code 9 (Option.some Jvm.ClassFile.FieldType.boolean) ∈ zT := zsub8 36 rfl rfl
theorem zw1715 : Cond.instanceMethod ⟨"TemplateHouse$Checker", "mayHaveArgs", "(II)Z"⟩ ∈ zT := zsub8 35 (by decide +kernel) (by decide +kernel)
theorem zwp12 : Cond.selects "TemplateHouse$Checker" ⟨"TemplateHouse$Checker", "mayHaveArgs", "(II)Z"⟩ ⟨"TemplateHouse$Checker", "mayHaveArgs", "(II)Z"⟩ ∈ zT := zin 12 (by decide +kernel) (by decide +kernel)
abbrev cX4_layWays : ByteArray := prog_6_method_8_code
abbrev yX4_layWays : MethodName := ⟨"TemplateHouse$Imports", "layWays", "()V"⟩
theorem dmX4_layWays : zDv yX4_layWays cX4_layWays 3 none 0 := ⟨⟨⟨by decide +kernel, by decide +kernel, by decide +kernel⟩, zw1658, zw6⟩, zw1656, zw1657⟩
abbrev cX4_wayLength : ByteArray := prog_6_method_7_code
abbrev yX4_wayLength : MethodName := ⟨"TemplateHouse$Imports", "wayLength", "(I)I"⟩
theorem dmX4_wayLength : zDv yX4_wayLength cX4_wayLength 2 (some .int) 1 := ⟨⟨⟨by decide +kernel, by decide +kernel, by decide +kernel⟩, zw1672, zw6⟩, zw1670, zw1671⟩
abbrev cX4_way : ByteArray := prog_6_method_6_code
abbrev yX4_way : MethodName := ⟨"TemplateHouse$Imports", "way", "(II)I"⟩
theorem dmX4_way : zDv yX4_way cX4_way 3 (some .int) 2 := ⟨⟨⟨by decide +kernel, by decide +kernel, by decide +kernel⟩, zw1676, zw6⟩, zw1674, zw1675⟩
abbrev cX0_nameFile : ByteArray := prog_2_method_5_code
abbrev yX0_nameFile : MethodName := ⟨"TemplateHouse$Checker", "nameFile", "(I)V"⟩
theorem dmX0_nameFile : zDv yX0_nameFile cX0_nameFile 6 none 1 := ⟨⟨⟨by decide +kernel, by decide +kernel, by decide +kernel⟩, zw1680, zw9⟩, zw1679, zwp14⟩
abbrev cX0_nameAll : ByteArray := prog_2_method_4_code
abbrev yX0_nameAll : MethodName := ⟨"TemplateHouse$Checker", "nameAll", "()V"⟩
theorem dmX0_nameAll : zDv yX0_nameAll cX0_nameAll 3 none 0 := ⟨⟨⟨by decide +kernel, by decide +kernel, by decide +kernel⟩, zw1666, zw9⟩, zw1665, zwp13⟩
abbrev cX0_mark : ByteArray := prog_2_method_3_code
abbrev yX0_mark : MethodName := ⟨"TemplateHouse$Checker", "mark", "(II)V"⟩
theorem dmX0_mark : zDv yX0_mark cX0_mark 3 none 2 := ⟨⟨⟨by decide +kernel, by decide +kernel, by decide +kernel⟩, zw1692, zw9⟩, zw1691, zwp11⟩
abbrev cX0_checkAlias : ByteArray := prog_2_method_7_code
abbrev yX0_checkAlias : MethodName := ⟨"TemplateHouse$Checker", "checkAlias", "(I)V"⟩
theorem dmX0_checkAlias : zDv yX0_checkAlias cX0_checkAlias 4 none 1 := ⟨⟨⟨by decide +kernel, by decide +kernel, by decide +kernel⟩, zw1688, zw9⟩, zw1687, zwp4⟩
abbrev cX0_templateFrom : ByteArray := prog_2_method_8_code
abbrev yX0_templateFrom : MethodName := ⟨"TemplateHouse$Checker", "templateFrom", "(III)I"⟩
theorem dmX0_templateFrom : zDv yX0_templateFrom cX0_templateFrom 8 (some .int) 3 := ⟨⟨⟨by decide +kernel, by decide +kernel, by decide +kernel⟩, zw1696, zw9⟩, zw1695, zwp17⟩
abbrev cX0_ownPart : ByteArray := prog_2_method_14_code
abbrev yX0_ownPart : MethodName := ⟨"TemplateHouse$Checker", "ownPart", "(III)I"⟩
theorem dmX0_ownPart : zDv yX0_ownPart cX0_ownPart 6 (some .int) 3 := ⟨⟨⟨by decide +kernel, by decide +kernel, by decide +kernel⟩, zw1700, zw9⟩, zw1699, zwp15⟩
abbrev cX0_checkDefs : ByteArray := prog_2_method_6_code
abbrev yX0_checkDefs : MethodName := ⟨"TemplateHouse$Checker", "checkDefs", "()V"⟩
theorem dmX0_checkDefs : zDv yX0_checkDefs cX0_checkDefs 5 none 0 := ⟨⟨⟨by decide +kernel, by decide +kernel, by decide +kernel⟩, zw1684, zw9⟩, zw1683, zwp7⟩
abbrev cX2_textOf : ByteArray := prog_4_method_17_code
abbrev yX2_textOf : MethodName := ⟨"TemplateHouse$Gen", "textOf", "(I)I"⟩
theorem dmX2_textOf : zDv yX2_textOf cX2_textOf 4 (some .int) 1 := ⟨⟨⟨by decide +kernel, by decide +kernel, by decide +kernel⟩, zw1712, zw4⟩, zw1710, zw1711⟩
abbrev cX0_isNamed : ByteArray := prog_2_method_12_code
abbrev yX0_isNamed : MethodName := ⟨"TemplateHouse$Checker", "isNamed", "(II)Z"⟩
theorem dmX0_isNamed : zDv yX0_isNamed cX0_isNamed 5 (some .boolean) 2 := ⟨⟨⟨by decide +kernel, by decide +kernel, by decide +kernel⟩, zw1721, zw9⟩, zw1720, zwp10⟩
abbrev cX0_mayHaveArgs : ByteArray := prog_2_method_11_code
abbrev yX0_mayHaveArgs : MethodName := ⟨"TemplateHouse$Checker", "mayHaveArgs", "(II)Z"⟩
theorem dmX0_mayHaveArgs : zDv yX0_mayHaveArgs cX0_mayHaveArgs 9 (some .boolean) 2 := ⟨⟨⟨by decide +kernel, by decide +kernel, by decide +kernel⟩, zw1716, zw9⟩, zw1715, zwp12⟩
theorem dX4_layWays_0 : decode cX4_layWays 0 = .ok (.iconst 0, 1) := by decide +kernel
theorem dX4_layWays_1 : decode cX4_layWays 1 = .ok (.istore_n 1, 1) := by decide +kernel
theorem dX4_layWays_2 : decode cX4_layWays 2 = .ok (.iload_n 1, 1) := by decide +kernel
theorem dX4_layWays_3 : decode cX4_layWays 3 = .ok (.aload_n 0, 1) := by decide +kernel
theorem dX4_layWays_4 : decode cX4_layWays 4 = .ok (.getfield 25, 3) := by decide +kernel
theorem dX4_layWays_7 : decode cX4_layWays 7 = .ok (.if_icmp .ge 33, 3) := by decide +kernel
theorem dX4_layWays_40 : decode cX4_layWays 40 = .ok (.return_, 1) := by decide +kernel
theorem dX4_layWays_10 : decode cX4_layWays 10 = .ok (.aload_n 0, 1) := by decide +kernel
theorem dX4_layWays_11 : decode cX4_layWays 11 = .ok (.getfield 22, 3) := by decide +kernel
theorem dX4_layWays_14 : decode cX4_layWays 14 = .ok (.iload_n 1, 1) := by decide +kernel
theorem dX4_layWays_15 : decode cX4_layWays 15 = .ok (.invokestatic 35, 3) := by decide +kernel
theorem dX4_layWays_18 : decode cX4_layWays 18 = .ok (.istore_n 2, 1) := by decide +kernel
theorem dX4_layWays_19 : decode cX4_layWays 19 = .ok (.aload_n 0, 1) := by decide +kernel
theorem dX4_layWays_20 : decode cX4_layWays 20 = .ok (.aload_n 0, 1) := by decide +kernel
theorem dX4_layWays_21 : decode cX4_layWays 21 = .ok (.getfield 16, 3) := by decide +kernel
theorem dX4_layWays_24 : decode cX4_layWays 24 = .ok (.aload_n 0, 1) := by decide +kernel
theorem dX4_layWays_25 : decode cX4_layWays 25 = .ok (.getfield 19, 3) := by decide +kernel
theorem dX4_layWays_28 : decode cX4_layWays 28 = .ok (.iload_n 2, 1) := by decide +kernel
theorem dX4_layWays_29 : decode cX4_layWays 29 = .ok (.iload_n 2, 1) := by decide +kernel
theorem dX4_layWays_30 : decode cX4_layWays 30 = .ok (.iconst 0, 1) := by decide +kernel
theorem dX4_layWays_31 : decode cX4_layWays 31 = .ok (.invokevirtual 45, 3) := by decide +kernel
theorem dX4_layWays_34 : decode cX4_layWays 34 = .ok (.iinc 1 1, 3) := by decide +kernel
theorem dX4_layWays_37 : decode cX4_layWays 37 = .ok (.goto (-35), 3) := by decide +kernel
theorem dX4_wayLength_0 : decode cX4_wayLength 0 = .ok (.aload_n 0, 1) := by decide +kernel
theorem dX4_wayLength_1 : decode cX4_wayLength 1 = .ok (.getfield 19, 3) := by decide +kernel
theorem dX4_wayLength_4 : decode cX4_wayLength 4 = .ok (.iload_n 1, 1) := by decide +kernel
theorem dX4_wayLength_5 : decode cX4_wayLength 5 = .ok (.invokestatic 35, 3) := by decide +kernel
theorem dX4_wayLength_8 : decode cX4_wayLength 8 = .ok (.ireturn, 1) := by decide +kernel
theorem dX4_way_0 : decode cX4_way 0 = .ok (.aload_n 0, 1) := by decide +kernel
theorem dX4_way_1 : decode cX4_way 1 = .ok (.getfield 16, 3) := by decide +kernel
theorem dX4_way_4 : decode cX4_way 4 = .ok (.bipush 8, 2) := by decide +kernel
theorem dX4_way_6 : decode cX4_way 6 = .ok (.iload_n 1, 1) := by decide +kernel
theorem dX4_way_7 : decode cX4_way 7 = .ok (.imul, 1) := by decide +kernel
theorem dX4_way_8 : decode cX4_way 8 = .ok (.iload_n 2, 1) := by decide +kernel
theorem dX4_way_9 : decode cX4_way 9 = .ok (.iadd, 1) := by decide +kernel
theorem dX4_way_10 : decode cX4_way 10 = .ok (.invokestatic 35, 3) := by decide +kernel
theorem dX4_way_13 : decode cX4_way 13 = .ok (.ireturn, 1) := by decide +kernel
theorem dX0_nameFile_0 : decode cX0_nameFile 0 = .ok (.iconst 0, 1) := by decide +kernel
theorem dX0_nameFile_1 : decode cX0_nameFile 1 = .ok (.istore_n 2, 1) := by decide +kernel
theorem dX0_nameFile_2 : decode cX0_nameFile 2 = .ok (.iload_n 2, 1) := by decide +kernel
theorem dX0_nameFile_3 : decode cX0_nameFile 3 = .ok (.aload_n 0, 1) := by decide +kernel
theorem dX0_nameFile_4 : decode cX0_nameFile 4 = .ok (.getfield 25, 3) := by decide +kernel
theorem dX0_nameFile_7 : decode cX0_nameFile 7 = .ok (.getfield 113, 3) := by decide +kernel
theorem dX0_nameFile_10 : decode cX0_nameFile 10 = .ok (.if_icmp .ge 166, 3) := by decide +kernel
theorem dX0_nameFile_176 : decode cX0_nameFile 176 = .ok (.return_, 1) := by decide +kernel
theorem dX0_nameFile_13 : decode cX0_nameFile 13 = .ok (.iload_n 2, 1) := by decide +kernel
theorem dX0_nameFile_14 : decode cX0_nameFile 14 = .ok (.bipush 7, 2) := by decide +kernel
theorem dX0_nameFile_16 : decode cX0_nameFile 16 = .ok (.imul, 1) := by decide +kernel
theorem dX0_nameFile_17 : decode cX0_nameFile 17 = .ok (.istore_n 3, 1) := by decide +kernel
theorem dX0_nameFile_18 : decode cX0_nameFile 18 = .ok (.aload_n 0, 1) := by decide +kernel
theorem dX0_nameFile_19 : decode cX0_nameFile 19 = .ok (.getfield 25, 3) := by decide +kernel
theorem dX0_nameFile_22 : decode cX0_nameFile 22 = .ok (.getfield 116, 3) := by decide +kernel
theorem dX0_nameFile_25 : decode cX0_nameFile 25 = .ok (.iload_n 3, 1) := by decide +kernel
theorem dX0_nameFile_26 : decode cX0_nameFile 26 = .ok (.invokestatic 50, 3) := by decide +kernel
theorem dX0_nameFile_29 : decode cX0_nameFile 29 = .ok (.istore 4, 2) := by decide +kernel
theorem dX0_nameFile_31 : decode cX0_nameFile 31 = .ok (.aload_n 0, 1) := by decide +kernel
theorem dX0_nameFile_32 : decode cX0_nameFile 32 = .ok (.getfield 25, 3) := by decide +kernel
theorem dX0_nameFile_35 : decode cX0_nameFile 35 = .ok (.getfield 116, 3) := by decide +kernel
theorem dX0_nameFile_38 : decode cX0_nameFile 38 = .ok (.iload_n 3, 1) := by decide +kernel
theorem dX0_nameFile_39 : decode cX0_nameFile 39 = .ok (.iconst 2, 1) := by decide +kernel
theorem dX0_nameFile_40 : decode cX0_nameFile 40 = .ok (.iadd, 1) := by decide +kernel
theorem dX0_nameFile_41 : decode cX0_nameFile 41 = .ok (.invokestatic 50, 3) := by decide +kernel
theorem dX0_nameFile_44 : decode cX0_nameFile 44 = .ok (.istore 5, 2) := by decide +kernel
theorem dX0_nameFile_46 : decode cX0_nameFile 46 = .ok (.aload_n 0, 1) := by decide +kernel
theorem dX0_nameFile_47 : decode cX0_nameFile 47 = .ok (.getfield 25, 3) := by decide +kernel
theorem dX0_nameFile_50 : decode cX0_nameFile 50 = .ok (.getfield 116, 3) := by decide +kernel
theorem dX0_nameFile_53 : decode cX0_nameFile 53 = .ok (.iload_n 3, 1) := by decide +kernel
theorem dX0_nameFile_54 : decode cX0_nameFile 54 = .ok (.iconst 1, 1) := by decide +kernel
theorem dX0_nameFile_55 : decode cX0_nameFile 55 = .ok (.iadd, 1) := by decide +kernel
theorem dX0_nameFile_56 : decode cX0_nameFile 56 = .ok (.invokestatic 50, 3) := by decide +kernel
theorem dX0_nameFile_59 : decode cX0_nameFile 59 = .ok (.iload_n 1, 1) := by decide +kernel
theorem dX0_nameFile_60 : decode cX0_nameFile 60 = .ok (.if_icmp .ne 110, 3) := by decide +kernel
theorem dX0_nameFile_170 : decode cX0_nameFile 170 = .ok (.iinc 2 1, 3) := by decide +kernel
theorem dX0_nameFile_173 : decode cX0_nameFile 173 = .ok (.goto (-171), 3) := by decide +kernel
theorem dX0_nameFile_63 : decode cX0_nameFile 63 = .ok (.iload 4, 2) := by decide +kernel
theorem dX0_nameFile_65 : decode cX0_nameFile 65 = .ok (.iconst 3, 1) := by decide +kernel
theorem dX0_nameFile_66 : decode cX0_nameFile 66 = .ok (.if_icmp .ne 6, 3) := by decide +kernel
theorem dX0_nameFile_72 : decode cX0_nameFile 72 = .ok (.iload 4, 2) := by decide +kernel
theorem dX0_nameFile_74 : decode cX0_nameFile 74 = .ok (.iconst 2, 1) := by decide +kernel
theorem dX0_nameFile_75 : decode cX0_nameFile 75 = .ok (.if_icmp .ne 47, 3) := by decide +kernel
theorem dX0_nameFile_122 : decode cX0_nameFile 122 = .ok (.iload 4, 2) := by decide +kernel
theorem dX0_nameFile_124 : decode cX0_nameFile 124 = .ok (.iconst 2, 1) := by decide +kernel
theorem dX0_nameFile_125 : decode cX0_nameFile 125 = .ok (.if_icmp .eq 45, 3) := by decide +kernel
theorem dX0_nameFile_128 : decode cX0_nameFile 128 = .ok (.aload_n 0, 1) := by decide +kernel
theorem dX0_nameFile_129 : decode cX0_nameFile 129 = .ok (.getfield 25, 3) := by decide +kernel
theorem dX0_nameFile_132 : decode cX0_nameFile 132 = .ok (.getfield 88, 3) := by decide +kernel
theorem dX0_nameFile_135 : decode cX0_nameFile 135 = .ok (.iload 5, 2) := by decide +kernel
theorem dX0_nameFile_137 : decode cX0_nameFile 137 = .ok (.invokestatic 50, 3) := by decide +kernel
theorem dX0_nameFile_140 : decode cX0_nameFile 140 = .ok (.iconst (-1), 1) := by decide +kernel
theorem dX0_nameFile_141 : decode cX0_nameFile 141 = .ok (.if_icmp .ne 29, 3) := by decide +kernel
theorem dX0_nameFile_144 : decode cX0_nameFile 144 = .ok (.aload_n 0, 1) := by decide +kernel
theorem dX0_nameFile_145 : decode cX0_nameFile 145 = .ok (.getfield 25, 3) := by decide +kernel
theorem dX0_nameFile_148 : decode cX0_nameFile 148 = .ok (.getfield 88, 3) := by decide +kernel
theorem dX0_nameFile_151 : decode cX0_nameFile 151 = .ok (.iload 5, 2) := by decide +kernel
theorem dX0_nameFile_153 : decode cX0_nameFile 153 = .ok (.iload_n 3, 1) := by decide +kernel
theorem dX0_nameFile_154 : decode cX0_nameFile 154 = .ok (.invokestatic 91, 3) := by decide +kernel
theorem dX0_nameFile_157 : decode cX0_nameFile 157 = .ok (.aload_n 0, 1) := by decide +kernel
theorem dX0_nameFile_158 : decode cX0_nameFile 158 = .ok (.getfield 25, 3) := by decide +kernel
theorem dX0_nameFile_161 : decode cX0_nameFile 161 = .ok (.dup, 1) := by decide +kernel
theorem dX0_nameFile_162 : decode cX0_nameFile 162 = .ok (.getfield 98, 3) := by decide +kernel
theorem dX0_nameFile_165 : decode cX0_nameFile 165 = .ok (.iconst 1, 1) := by decide +kernel
theorem dX0_nameFile_166 : decode cX0_nameFile 166 = .ok (.iadd, 1) := by decide +kernel
theorem dX0_nameFile_167 : decode cX0_nameFile 167 = .ok (.putfield 98, 3) := by decide +kernel
theorem dX0_nameFile_78 : decode cX0_nameFile 78 = .ok (.aload_n 0, 1) := by decide +kernel
theorem dX0_nameFile_79 : decode cX0_nameFile 79 = .ok (.getfield 25, 3) := by decide +kernel
theorem dX0_nameFile_82 : decode cX0_nameFile 82 = .ok (.getfield 95, 3) := by decide +kernel
theorem dX0_nameFile_85 : decode cX0_nameFile 85 = .ok (.iload 5, 2) := by decide +kernel
theorem dX0_nameFile_87 : decode cX0_nameFile 87 = .ok (.invokestatic 50, 3) := by decide +kernel
theorem dX0_nameFile_90 : decode cX0_nameFile 90 = .ok (.iconst (-1), 1) := by decide +kernel
theorem dX0_nameFile_91 : decode cX0_nameFile 91 = .ok (.if_icmp .ne 31, 3) := by decide +kernel
theorem dX0_nameFile_94 : decode cX0_nameFile 94 = .ok (.aload_n 0, 1) := by decide +kernel
theorem dX0_nameFile_95 : decode cX0_nameFile 95 = .ok (.getfield 25, 3) := by decide +kernel
theorem dX0_nameFile_98 : decode cX0_nameFile 98 = .ok (.getfield 95, 3) := by decide +kernel
theorem dX0_nameFile_101 : decode cX0_nameFile 101 = .ok (.iload 5, 2) := by decide +kernel
theorem dX0_nameFile_103 : decode cX0_nameFile 103 = .ok (.aload_n 0, 1) := by decide +kernel
theorem dX0_nameFile_104 : decode cX0_nameFile 104 = .ok (.getfield 25, 3) := by decide +kernel
theorem dX0_nameFile_107 : decode cX0_nameFile 107 = .ok (.getfield 116, 3) := by decide +kernel
theorem dX0_nameFile_110 : decode cX0_nameFile 110 = .ok (.iload_n 3, 1) := by decide +kernel
theorem dX0_nameFile_111 : decode cX0_nameFile 111 = .ok (.iconst 4, 1) := by decide +kernel
theorem dX0_nameFile_112 : decode cX0_nameFile 112 = .ok (.iadd, 1) := by decide +kernel
theorem dX0_nameFile_113 : decode cX0_nameFile 113 = .ok (.invokestatic 50, 3) := by decide +kernel
theorem dX0_nameFile_116 : decode cX0_nameFile 116 = .ok (.invokestatic 91, 3) := by decide +kernel
theorem dX0_nameFile_119 : decode cX0_nameFile 119 = .ok (.goto 51, 3) := by decide +kernel
theorem dX0_nameFile_69 : decode cX0_nameFile 69 = .ok (.goto 101, 3) := by decide +kernel
theorem dX0_nameAll_0 : decode cX0_nameAll 0 = .ok (.iconst 0, 1) := by decide +kernel
theorem dX0_nameAll_1 : decode cX0_nameAll 1 = .ok (.istore_n 1, 1) := by decide +kernel
theorem dX0_nameAll_2 : decode cX0_nameAll 2 = .ok (.iload_n 1, 1) := by decide +kernel
theorem dX0_nameAll_3 : decode cX0_nameAll 3 = .ok (.aload_n 0, 1) := by decide +kernel
theorem dX0_nameAll_4 : decode cX0_nameAll 4 = .ok (.getfield 25, 3) := by decide +kernel
theorem dX0_nameAll_7 : decode cX0_nameAll 7 = .ok (.getfield 79, 3) := by decide +kernel
theorem dX0_nameAll_10 : decode cX0_nameAll 10 = .ok (.getfield 83, 3) := by decide +kernel
theorem dX0_nameAll_13 : decode cX0_nameAll 13 = .ok (.if_icmp .ge 33, 3) := by decide +kernel
theorem dX0_nameAll_46 : decode cX0_nameAll 46 = .ok (.aload_n 0, 1) := by decide +kernel
theorem dX0_nameAll_47 : decode cX0_nameAll 47 = .ok (.getfield 25, 3) := by decide +kernel
theorem dX0_nameAll_50 : decode cX0_nameAll 50 = .ok (.iconst 0, 1) := by decide +kernel
theorem dX0_nameAll_51 : decode cX0_nameAll 51 = .ok (.putfield 98, 3) := by decide +kernel
theorem dX0_nameAll_54 : decode cX0_nameAll 54 = .ok (.aload_n 0, 1) := by decide +kernel
theorem dX0_nameAll_55 : decode cX0_nameAll 55 = .ok (.getfield 25, 3) := by decide +kernel
theorem dX0_nameAll_58 : decode cX0_nameAll 58 = .ok (.getfield 29, 3) := by decide +kernel
theorem dX0_nameAll_61 : decode cX0_nameAll 61 = .ok (.getfield 46, 3) := by decide +kernel
theorem dX0_nameAll_64 : decode cX0_nameAll 64 = .ok (.iconst 0, 1) := by decide +kernel
theorem dX0_nameAll_65 : decode cX0_nameAll 65 = .ok (.invokestatic 50, 3) := by decide +kernel
theorem dX0_nameAll_68 : decode cX0_nameAll 68 = .ok (.istore_n 1, 1) := by decide +kernel
theorem dX0_nameAll_69 : decode cX0_nameAll 69 = .ok (.iconst 0, 1) := by decide +kernel
theorem dX0_nameAll_70 : decode cX0_nameAll 70 = .ok (.istore_n 2, 1) := by decide +kernel
theorem dX0_nameAll_71 : decode cX0_nameAll 71 = .ok (.iload_n 2, 1) := by decide +kernel
theorem dX0_nameAll_72 : decode cX0_nameAll 72 = .ok (.aload_n 0, 1) := by decide +kernel
theorem dX0_nameAll_73 : decode cX0_nameAll 73 = .ok (.getfield 25, 3) := by decide +kernel
theorem dX0_nameAll_76 : decode cX0_nameAll 76 = .ok (.getfield 29, 3) := by decide +kernel
theorem dX0_nameAll_79 : decode cX0_nameAll 79 = .ok (.iload_n 1, 1) := by decide +kernel
theorem dX0_nameAll_80 : decode cX0_nameAll 80 = .ok (.invokevirtual 101, 3) := by decide +kernel
theorem dX0_nameAll_83 : decode cX0_nameAll 83 = .ok (.if_icmp .ge 25, 3) := by decide +kernel
theorem dX0_nameAll_108 : decode cX0_nameAll 108 = .ok (.return_, 1) := by decide +kernel
theorem dX0_nameAll_86 : decode cX0_nameAll 86 = .ok (.aload_n 0, 1) := by decide +kernel
theorem dX0_nameAll_87 : decode cX0_nameAll 87 = .ok (.aload_n 0, 1) := by decide +kernel
theorem dX0_nameAll_88 : decode cX0_nameAll 88 = .ok (.getfield 25, 3) := by decide +kernel
theorem dX0_nameAll_91 : decode cX0_nameAll 91 = .ok (.getfield 29, 3) := by decide +kernel
theorem dX0_nameAll_94 : decode cX0_nameAll 94 = .ok (.iload_n 1, 1) := by decide +kernel
theorem dX0_nameAll_95 : decode cX0_nameAll 95 = .ok (.iload_n 2, 1) := by decide +kernel
theorem dX0_nameAll_96 : decode cX0_nameAll 96 = .ok (.invokevirtual 105, 3) := by decide +kernel
theorem dX0_nameAll_99 : decode cX0_nameAll 99 = .ok (.invokevirtual 109, 3) := by decide +kernel
theorem dX0_nameAll_102 : decode cX0_nameAll 102 = .ok (.iinc 2 1, 3) := by decide +kernel
theorem dX0_nameAll_105 : decode cX0_nameAll 105 = .ok (.goto (-34), 3) := by decide +kernel
theorem dX0_nameAll_16 : decode cX0_nameAll 16 = .ok (.aload_n 0, 1) := by decide +kernel
theorem dX0_nameAll_17 : decode cX0_nameAll 17 = .ok (.getfield 25, 3) := by decide +kernel
theorem dX0_nameAll_20 : decode cX0_nameAll 20 = .ok (.getfield 88, 3) := by decide +kernel
theorem dX0_nameAll_23 : decode cX0_nameAll 23 = .ok (.iload_n 1, 1) := by decide +kernel
theorem dX0_nameAll_24 : decode cX0_nameAll 24 = .ok (.iconst (-1), 1) := by decide +kernel
theorem dX0_nameAll_25 : decode cX0_nameAll 25 = .ok (.invokestatic 91, 3) := by decide +kernel
theorem dX0_nameAll_28 : decode cX0_nameAll 28 = .ok (.aload_n 0, 1) := by decide +kernel
theorem dX0_nameAll_29 : decode cX0_nameAll 29 = .ok (.getfield 25, 3) := by decide +kernel
theorem dX0_nameAll_32 : decode cX0_nameAll 32 = .ok (.getfield 95, 3) := by decide +kernel
theorem dX0_nameAll_35 : decode cX0_nameAll 35 = .ok (.iload_n 1, 1) := by decide +kernel
theorem dX0_nameAll_36 : decode cX0_nameAll 36 = .ok (.iconst (-1), 1) := by decide +kernel
theorem dX0_nameAll_37 : decode cX0_nameAll 37 = .ok (.invokestatic 91, 3) := by decide +kernel
theorem dX0_nameAll_40 : decode cX0_nameAll 40 = .ok (.iinc 1 1, 3) := by decide +kernel
theorem dX0_nameAll_43 : decode cX0_nameAll 43 = .ok (.goto (-41), 3) := by decide +kernel
theorem dX0_mark_0 : decode cX0_mark 0 = .ok (.aload_n 0, 1) := by decide +kernel
theorem dX0_mark_1 : decode cX0_mark 1 = .ok (.getfield 15, 3) := by decide +kernel
theorem dX0_mark_4 : decode cX0_mark 4 = .ok (.ifCond .eq 27, 3) := by decide +kernel
theorem dX0_mark_41 : decode cX0_mark 41 = .ok (.return_, 1) := by decide +kernel
theorem dX0_mark_31 : decode cX0_mark 31 = .ok (.aload_n 0, 1) := by decide +kernel
theorem dX0_mark_32 : decode cX0_mark 32 = .ok (.iload_n 1, 1) := by decide +kernel
theorem dX0_mark_33 : decode cX0_mark 33 = .ok (.putfield 15, 3) := by decide +kernel
theorem dX0_mark_36 : decode cX0_mark 36 = .ok (.aload_n 0, 1) := by decide +kernel
theorem dX0_mark_37 : decode cX0_mark 37 = .ok (.iload_n 2, 1) := by decide +kernel
theorem dX0_mark_38 : decode cX0_mark 38 = .ok (.putfield 18, 3) := by decide +kernel
theorem dX0_mark_7 : decode cX0_mark 7 = .ok (.iload_n 2, 1) := by decide +kernel
theorem dX0_mark_8 : decode cX0_mark 8 = .ok (.aload_n 0, 1) := by decide +kernel
theorem dX0_mark_9 : decode cX0_mark 9 = .ok (.getfield 18, 3) := by decide +kernel
theorem dX0_mark_12 : decode cX0_mark 12 = .ok (.if_icmp .lt 19, 3) := by decide +kernel
theorem dX0_mark_15 : decode cX0_mark 15 = .ok (.iload_n 2, 1) := by decide +kernel
theorem dX0_mark_16 : decode cX0_mark 16 = .ok (.aload_n 0, 1) := by decide +kernel
theorem dX0_mark_17 : decode cX0_mark 17 = .ok (.getfield 18, 3) := by decide +kernel
theorem dX0_mark_20 : decode cX0_mark 20 = .ok (.if_icmp .ne 21, 3) := by decide +kernel
theorem dX0_mark_23 : decode cX0_mark 23 = .ok (.iload_n 1, 1) := by decide +kernel
theorem dX0_mark_24 : decode cX0_mark 24 = .ok (.aload_n 0, 1) := by decide +kernel
theorem dX0_mark_25 : decode cX0_mark 25 = .ok (.getfield 15, 3) := by decide +kernel
theorem dX0_mark_28 : decode cX0_mark 28 = .ok (.if_icmp .ge 13, 3) := by decide +kernel
theorem dX0_checkAlias_0 : decode cX0_checkAlias 0 = .ok (.aload_n 0, 1) := by decide +kernel
theorem dX0_checkAlias_1 : decode cX0_checkAlias 1 = .ok (.getfield 25, 3) := by decide +kernel
theorem dX0_checkAlias_4 : decode cX0_checkAlias 4 = .ok (.getfield 88, 3) := by decide +kernel
theorem dX0_checkAlias_7 : decode cX0_checkAlias 7 = .ok (.aload_n 0, 1) := by decide +kernel
theorem dX0_checkAlias_8 : decode cX0_checkAlias 8 = .ok (.getfield 25, 3) := by decide +kernel
theorem dX0_checkAlias_11 : decode cX0_checkAlias 11 = .ok (.getfield 116, 3) := by decide +kernel
theorem dX0_checkAlias_14 : decode cX0_checkAlias 14 = .ok (.iload_n 1, 1) := by decide +kernel
theorem dX0_checkAlias_15 : decode cX0_checkAlias 15 = .ok (.iconst 4, 1) := by decide +kernel
theorem dX0_checkAlias_16 : decode cX0_checkAlias 16 = .ok (.iadd, 1) := by decide +kernel
theorem dX0_checkAlias_17 : decode cX0_checkAlias 17 = .ok (.invokestatic 50, 3) := by decide +kernel
theorem dX0_checkAlias_20 : decode cX0_checkAlias 20 = .ok (.invokestatic 50, 3) := by decide +kernel
theorem dX0_checkAlias_23 : decode cX0_checkAlias 23 = .ok (.istore_n 2, 1) := by decide +kernel
theorem dX0_checkAlias_24 : decode cX0_checkAlias 24 = .ok (.iload_n 2, 1) := by decide +kernel
theorem dX0_checkAlias_25 : decode cX0_checkAlias 25 = .ok (.iconst (-1), 1) := by decide +kernel
theorem dX0_checkAlias_26 : decode cX0_checkAlias 26 = .ok (.if_icmp .ne 23, 3) := by decide +kernel
theorem dX0_checkAlias_49 : decode cX0_checkAlias 49 = .ok (.iconst 0, 1) := by decide +kernel
theorem dX0_checkAlias_50 : decode cX0_checkAlias 50 = .ok (.istore_n 3, 1) := by decide +kernel
theorem dX0_checkAlias_51 : decode cX0_checkAlias 51 = .ok (.iload_n 3, 1) := by decide +kernel
theorem dX0_checkAlias_52 : decode cX0_checkAlias 52 = .ok (.sipush 320, 3) := by decide +kernel
theorem dX0_checkAlias_55 : decode cX0_checkAlias 55 = .ok (.if_icmp .gt 78, 3) := by decide +kernel
theorem dX0_checkAlias_133 : decode cX0_checkAlias 133 = .ok (.return_, 1) := by decide +kernel
theorem dX0_checkAlias_58 : decode cX0_checkAlias 58 = .ok (.iload_n 2, 1) := by decide +kernel
theorem dX0_checkAlias_59 : decode cX0_checkAlias 59 = .ok (.iconst (-1), 1) := by decide +kernel
theorem dX0_checkAlias_60 : decode cX0_checkAlias 60 = .ok (.if_icmp .eq 73, 3) := by decide +kernel
theorem dX0_checkAlias_63 : decode cX0_checkAlias 63 = .ok (.aload_n 0, 1) := by decide +kernel
theorem dX0_checkAlias_64 : decode cX0_checkAlias 64 = .ok (.getfield 25, 3) := by decide +kernel
theorem dX0_checkAlias_67 : decode cX0_checkAlias 67 = .ok (.getfield 116, 3) := by decide +kernel
theorem dX0_checkAlias_70 : decode cX0_checkAlias 70 = .ok (.iload_n 2, 1) := by decide +kernel
theorem dX0_checkAlias_71 : decode cX0_checkAlias 71 = .ok (.invokestatic 50, 3) := by decide +kernel
theorem dX0_checkAlias_74 : decode cX0_checkAlias 74 = .ok (.iconst 1, 1) := by decide +kernel
theorem dX0_checkAlias_75 : decode cX0_checkAlias 75 = .ok (.if_icmp .ne 58, 3) := by decide +kernel
theorem dX0_checkAlias_78 : decode cX0_checkAlias 78 = .ok (.iload_n 2, 1) := by decide +kernel
theorem dX0_checkAlias_79 : decode cX0_checkAlias 79 = .ok (.iload_n 1, 1) := by decide +kernel
theorem dX0_checkAlias_80 : decode cX0_checkAlias 80 = .ok (.if_icmp .ne 23, 3) := by decide +kernel
theorem dX0_checkAlias_103 : decode cX0_checkAlias 103 = .ok (.aload_n 0, 1) := by decide +kernel
theorem dX0_checkAlias_104 : decode cX0_checkAlias 104 = .ok (.getfield 25, 3) := by decide +kernel
theorem dX0_checkAlias_107 : decode cX0_checkAlias 107 = .ok (.getfield 88, 3) := by decide +kernel
theorem dX0_checkAlias_110 : decode cX0_checkAlias 110 = .ok (.aload_n 0, 1) := by decide +kernel
theorem dX0_checkAlias_111 : decode cX0_checkAlias 111 = .ok (.getfield 25, 3) := by decide +kernel
theorem dX0_checkAlias_114 : decode cX0_checkAlias 114 = .ok (.getfield 116, 3) := by decide +kernel
theorem dX0_checkAlias_117 : decode cX0_checkAlias 117 = .ok (.iload_n 2, 1) := by decide +kernel
theorem dX0_checkAlias_118 : decode cX0_checkAlias 118 = .ok (.iconst 4, 1) := by decide +kernel
theorem dX0_checkAlias_119 : decode cX0_checkAlias 119 = .ok (.iadd, 1) := by decide +kernel
theorem dX0_checkAlias_120 : decode cX0_checkAlias 120 = .ok (.invokestatic 50, 3) := by decide +kernel
theorem dX0_checkAlias_123 : decode cX0_checkAlias 123 = .ok (.invokestatic 50, 3) := by decide +kernel
theorem dX0_checkAlias_126 : decode cX0_checkAlias 126 = .ok (.istore_n 2, 1) := by decide +kernel
theorem dX0_checkAlias_127 : decode cX0_checkAlias 127 = .ok (.iinc 3 1, 3) := by decide +kernel
theorem dX0_checkAlias_130 : decode cX0_checkAlias 130 = .ok (.goto (-79), 3) := by decide +kernel
theorem dX0_checkAlias_83 : decode cX0_checkAlias 83 = .ok (.aload_n 0, 1) := by decide +kernel
theorem dX0_checkAlias_84 : decode cX0_checkAlias 84 = .ok (.bipush 10, 2) := by decide +kernel
theorem dX0_checkAlias_86 : decode cX0_checkAlias 86 = .ok (.aload_n 0, 1) := by decide +kernel
theorem dX0_checkAlias_87 : decode cX0_checkAlias 87 = .ok (.getfield 25, 3) := by decide +kernel
theorem dX0_checkAlias_90 : decode cX0_checkAlias 90 = .ok (.getfield 116, 3) := by decide +kernel
theorem dX0_checkAlias_93 : decode cX0_checkAlias 93 = .ok (.iload_n 1, 1) := by decide +kernel
theorem dX0_checkAlias_94 : decode cX0_checkAlias 94 = .ok (.iconst 3, 1) := by decide +kernel
theorem dX0_checkAlias_95 : decode cX0_checkAlias 95 = .ok (.iadd, 1) := by decide +kernel
theorem dX0_checkAlias_96 : decode cX0_checkAlias 96 = .ok (.invokestatic 50, 3) := by decide +kernel
theorem dX0_checkAlias_99 : decode cX0_checkAlias 99 = .ok (.invokevirtual 66, 3) := by decide +kernel
theorem dX0_checkAlias_102 : decode cX0_checkAlias 102 = .ok (.return_, 1) := by decide +kernel
theorem dX0_checkAlias_29 : decode cX0_checkAlias 29 = .ok (.aload_n 0, 1) := by decide +kernel
theorem dX0_checkAlias_30 : decode cX0_checkAlias 30 = .ok (.bipush 6, 2) := by decide +kernel
theorem dX0_checkAlias_32 : decode cX0_checkAlias 32 = .ok (.aload_n 0, 1) := by decide +kernel
theorem dX0_checkAlias_33 : decode cX0_checkAlias 33 = .ok (.getfield 25, 3) := by decide +kernel
theorem dX0_checkAlias_36 : decode cX0_checkAlias 36 = .ok (.getfield 116, 3) := by decide +kernel
theorem dX0_checkAlias_39 : decode cX0_checkAlias 39 = .ok (.iload_n 1, 1) := by decide +kernel
theorem dX0_checkAlias_40 : decode cX0_checkAlias 40 = .ok (.bipush 6, 2) := by decide +kernel
theorem dX0_checkAlias_42 : decode cX0_checkAlias 42 = .ok (.iadd, 1) := by decide +kernel
theorem dX0_checkAlias_43 : decode cX0_checkAlias 43 = .ok (.invokestatic 50, 3) := by decide +kernel
theorem dX0_checkAlias_46 : decode cX0_checkAlias 46 = .ok (.invokevirtual 66, 3) := by decide +kernel
theorem dX0_templateFrom_0 : decode cX0_templateFrom 0 = .ok (.iload_n 2, 1) := by decide +kernel
theorem dX0_templateFrom_1 : decode cX0_templateFrom 1 = .ok (.istore 4, 2) := by decide +kernel
theorem dX0_templateFrom_3 : decode cX0_templateFrom 3 = .ok (.iload 4, 2) := by decide +kernel
theorem dX0_templateFrom_5 : decode cX0_templateFrom 5 = .ok (.aload_n 0, 1) := by decide +kernel
theorem dX0_templateFrom_6 : decode cX0_templateFrom 6 = .ok (.getfield 25, 3) := by decide +kernel
theorem dX0_templateFrom_9 : decode cX0_templateFrom 9 = .ok (.getfield 29, 3) := by decide +kernel
theorem dX0_templateFrom_12 : decode cX0_templateFrom 12 = .ok (.iload_n 1, 1) := by decide +kernel
theorem dX0_templateFrom_13 : decode cX0_templateFrom 13 = .ok (.invokevirtual 101, 3) := by decide +kernel
theorem dX0_templateFrom_16 : decode cX0_templateFrom 16 = .ok (.if_icmp .ge 123, 3) := by decide +kernel
theorem dX0_templateFrom_139 : decode cX0_templateFrom 139 = .ok (.iconst (-1), 1) := by decide +kernel
theorem dX0_templateFrom_140 : decode cX0_templateFrom 140 = .ok (.ireturn, 1) := by decide +kernel
theorem dX0_templateFrom_19 : decode cX0_templateFrom 19 = .ok (.aload_n 0, 1) := by decide +kernel
theorem dX0_templateFrom_20 : decode cX0_templateFrom 20 = .ok (.getfield 25, 3) := by decide +kernel
theorem dX0_templateFrom_23 : decode cX0_templateFrom 23 = .ok (.getfield 29, 3) := by decide +kernel
theorem dX0_templateFrom_26 : decode cX0_templateFrom 26 = .ok (.iload_n 1, 1) := by decide +kernel
theorem dX0_templateFrom_27 : decode cX0_templateFrom 27 = .ok (.iload 4, 2) := by decide +kernel
theorem dX0_templateFrom_29 : decode cX0_templateFrom 29 = .ok (.invokevirtual 105, 3) := by decide +kernel
theorem dX0_templateFrom_32 : decode cX0_templateFrom 32 = .ok (.istore 5, 2) := by decide +kernel
theorem dX0_templateFrom_34 : decode cX0_templateFrom 34 = .ok (.iconst 0, 1) := by decide +kernel
theorem dX0_templateFrom_35 : decode cX0_templateFrom 35 = .ok (.istore 6, 2) := by decide +kernel
theorem dX0_templateFrom_37 : decode cX0_templateFrom 37 = .ok (.iload 6, 2) := by decide +kernel
theorem dX0_templateFrom_39 : decode cX0_templateFrom 39 = .ok (.aload_n 0, 1) := by decide +kernel
theorem dX0_templateFrom_40 : decode cX0_templateFrom 40 = .ok (.getfield 25, 3) := by decide +kernel
theorem dX0_templateFrom_43 : decode cX0_templateFrom 43 = .ok (.getfield 113, 3) := by decide +kernel
theorem dX0_templateFrom_46 : decode cX0_templateFrom 46 = .ok (.if_icmp .ge 87, 3) := by decide +kernel
theorem dX0_templateFrom_133 : decode cX0_templateFrom 133 = .ok (.iinc 4 1, 3) := by decide +kernel
theorem dX0_templateFrom_136 : decode cX0_templateFrom 136 = .ok (.goto (-133), 3) := by decide +kernel
theorem dX0_templateFrom_49 : decode cX0_templateFrom 49 = .ok (.iload 6, 2) := by decide +kernel
theorem dX0_templateFrom_51 : decode cX0_templateFrom 51 = .ok (.bipush 7, 2) := by decide +kernel
theorem dX0_templateFrom_53 : decode cX0_templateFrom 53 = .ok (.imul, 1) := by decide +kernel
theorem dX0_templateFrom_54 : decode cX0_templateFrom 54 = .ok (.istore 7, 2) := by decide +kernel
theorem dX0_templateFrom_56 : decode cX0_templateFrom 56 = .ok (.aload_n 0, 1) := by decide +kernel
theorem dX0_templateFrom_57 : decode cX0_templateFrom 57 = .ok (.getfield 25, 3) := by decide +kernel
theorem dX0_templateFrom_60 : decode cX0_templateFrom 60 = .ok (.getfield 116, 3) := by decide +kernel
theorem dX0_templateFrom_63 : decode cX0_templateFrom 63 = .ok (.iload 7, 2) := by decide +kernel
theorem dX0_templateFrom_65 : decode cX0_templateFrom 65 = .ok (.iconst 1, 1) := by decide +kernel
theorem dX0_templateFrom_66 : decode cX0_templateFrom 66 = .ok (.iadd, 1) := by decide +kernel
theorem dX0_templateFrom_67 : decode cX0_templateFrom 67 = .ok (.invokestatic 50, 3) := by decide +kernel
theorem dX0_templateFrom_70 : decode cX0_templateFrom 70 = .ok (.iload 5, 2) := by decide +kernel
theorem dX0_templateFrom_72 : decode cX0_templateFrom 72 = .ok (.if_icmp .ne 55, 3) := by decide +kernel
theorem dX0_templateFrom_127 : decode cX0_templateFrom 127 = .ok (.iinc 6 1, 3) := by decide +kernel
theorem dX0_templateFrom_130 : decode cX0_templateFrom 130 = .ok (.goto (-93), 3) := by decide +kernel
theorem dX0_templateFrom_75 : decode cX0_templateFrom 75 = .ok (.aload_n 0, 1) := by decide +kernel
theorem dX0_templateFrom_76 : decode cX0_templateFrom 76 = .ok (.getfield 25, 3) := by decide +kernel
theorem dX0_templateFrom_79 : decode cX0_templateFrom 79 = .ok (.getfield 116, 3) := by decide +kernel
theorem dX0_templateFrom_82 : decode cX0_templateFrom 82 = .ok (.iload 7, 2) := by decide +kernel
theorem dX0_templateFrom_84 : decode cX0_templateFrom 84 = .ok (.iconst 2, 1) := by decide +kernel
theorem dX0_templateFrom_85 : decode cX0_templateFrom 85 = .ok (.iadd, 1) := by decide +kernel
theorem dX0_templateFrom_86 : decode cX0_templateFrom 86 = .ok (.invokestatic 50, 3) := by decide +kernel
theorem dX0_templateFrom_89 : decode cX0_templateFrom 89 = .ok (.iload_n 3, 1) := by decide +kernel
theorem dX0_templateFrom_90 : decode cX0_templateFrom 90 = .ok (.if_icmp .ne 37, 3) := by decide +kernel
theorem dX0_templateFrom_93 : decode cX0_templateFrom 93 = .ok (.aload_n 0, 1) := by decide +kernel
theorem dX0_templateFrom_94 : decode cX0_templateFrom 94 = .ok (.getfield 25, 3) := by decide +kernel
theorem dX0_templateFrom_97 : decode cX0_templateFrom 97 = .ok (.getfield 116, 3) := by decide +kernel
theorem dX0_templateFrom_100 : decode cX0_templateFrom 100 = .ok (.iload 7, 2) := by decide +kernel
theorem dX0_templateFrom_102 : decode cX0_templateFrom 102 = .ok (.invokestatic 50, 3) := by decide +kernel
theorem dX0_templateFrom_105 : decode cX0_templateFrom 105 = .ok (.ifCond .eq 19, 3) := by decide +kernel
theorem dX0_templateFrom_124 : decode cX0_templateFrom 124 = .ok (.iload 7, 2) := by decide +kernel
theorem dX0_templateFrom_126 : decode cX0_templateFrom 126 = .ok (.ireturn, 1) := by decide +kernel
theorem dX0_templateFrom_108 : decode cX0_templateFrom 108 = .ok (.aload_n 0, 1) := by decide +kernel
theorem dX0_templateFrom_109 : decode cX0_templateFrom 109 = .ok (.getfield 25, 3) := by decide +kernel
theorem dX0_templateFrom_112 : decode cX0_templateFrom 112 = .ok (.getfield 116, 3) := by decide +kernel
theorem dX0_templateFrom_115 : decode cX0_templateFrom 115 = .ok (.iload 7, 2) := by decide +kernel
theorem dX0_templateFrom_117 : decode cX0_templateFrom 117 = .ok (.invokestatic 50, 3) := by decide +kernel
theorem dX0_templateFrom_120 : decode cX0_templateFrom 120 = .ok (.iconst 1, 1) := by decide +kernel
theorem dX0_templateFrom_121 : decode cX0_templateFrom 121 = .ok (.if_icmp .ne 6, 3) := by decide +kernel
theorem dX0_ownPart_0 : decode cX0_ownPart 0 = .ok (.iconst 0, 1) := by decide +kernel
theorem dX0_ownPart_1 : decode cX0_ownPart 1 = .ok (.istore 4, 2) := by decide +kernel
theorem dX0_ownPart_3 : decode cX0_ownPart 3 = .ok (.iload 4, 2) := by decide +kernel
theorem dX0_ownPart_5 : decode cX0_ownPart 5 = .ok (.aload_n 0, 1) := by decide +kernel
theorem dX0_ownPart_6 : decode cX0_ownPart 6 = .ok (.getfield 25, 3) := by decide +kernel
theorem dX0_ownPart_9 : decode cX0_ownPart 9 = .ok (.getfield 155, 3) := by decide +kernel
theorem dX0_ownPart_12 : decode cX0_ownPart 12 = .ok (.if_icmp .ge 103, 3) := by decide +kernel
theorem dX0_ownPart_115 : decode cX0_ownPart 115 = .ok (.iconst (-1), 1) := by decide +kernel
theorem dX0_ownPart_116 : decode cX0_ownPart 116 = .ok (.ireturn, 1) := by decide +kernel
theorem dX0_ownPart_15 : decode cX0_ownPart 15 = .ok (.iload 4, 2) := by decide +kernel
theorem dX0_ownPart_17 : decode cX0_ownPart 17 = .ok (.bipush 6, 2) := by decide +kernel
theorem dX0_ownPart_19 : decode cX0_ownPart 19 = .ok (.imul, 1) := by decide +kernel
theorem dX0_ownPart_20 : decode cX0_ownPart 20 = .ok (.istore 5, 2) := by decide +kernel
theorem dX0_ownPart_22 : decode cX0_ownPart 22 = .ok (.aload_n 0, 1) := by decide +kernel
theorem dX0_ownPart_23 : decode cX0_ownPart 23 = .ok (.getfield 25, 3) := by decide +kernel
theorem dX0_ownPart_26 : decode cX0_ownPart 26 = .ok (.getfield 158, 3) := by decide +kernel
theorem dX0_ownPart_29 : decode cX0_ownPart 29 = .ok (.iload 5, 2) := by decide +kernel
theorem dX0_ownPart_31 : decode cX0_ownPart 31 = .ok (.iconst 2, 1) := by decide +kernel
theorem dX0_ownPart_32 : decode cX0_ownPart 32 = .ok (.iadd, 1) := by decide +kernel
theorem dX0_ownPart_33 : decode cX0_ownPart 33 = .ok (.invokestatic 50, 3) := by decide +kernel
theorem dX0_ownPart_36 : decode cX0_ownPart 36 = .ok (.iload_n 3, 1) := by decide +kernel
theorem dX0_ownPart_37 : decode cX0_ownPart 37 = .ok (.if_icmp .ne 72, 3) := by decide +kernel
theorem dX0_ownPart_109 : decode cX0_ownPart 109 = .ok (.iinc 4 1, 3) := by decide +kernel
theorem dX0_ownPart_112 : decode cX0_ownPart 112 = .ok (.goto (-109), 3) := by decide +kernel
theorem dX0_ownPart_40 : decode cX0_ownPart 40 = .ok (.aload_n 0, 1) := by decide +kernel
theorem dX0_ownPart_41 : decode cX0_ownPart 41 = .ok (.getfield 25, 3) := by decide +kernel
theorem dX0_ownPart_44 : decode cX0_ownPart 44 = .ok (.getfield 158, 3) := by decide +kernel
theorem dX0_ownPart_47 : decode cX0_ownPart 47 = .ok (.iload 5, 2) := by decide +kernel
theorem dX0_ownPart_49 : decode cX0_ownPart 49 = .ok (.iconst 1, 1) := by decide +kernel
theorem dX0_ownPart_50 : decode cX0_ownPart 50 = .ok (.iadd, 1) := by decide +kernel
theorem dX0_ownPart_51 : decode cX0_ownPart 51 = .ok (.invokestatic 50, 3) := by decide +kernel
theorem dX0_ownPart_54 : decode cX0_ownPart 54 = .ok (.iload_n 2, 1) := by decide +kernel
theorem dX0_ownPart_55 : decode cX0_ownPart 55 = .ok (.if_icmp .ne 54, 3) := by decide +kernel
theorem dX0_ownPart_58 : decode cX0_ownPart 58 = .ok (.aload_n 0, 1) := by decide +kernel
theorem dX0_ownPart_59 : decode cX0_ownPart 59 = .ok (.getfield 25, 3) := by decide +kernel
theorem dX0_ownPart_62 : decode cX0_ownPart 62 = .ok (.getfield 158, 3) := by decide +kernel
theorem dX0_ownPart_65 : decode cX0_ownPart 65 = .ok (.iload 5, 2) := by decide +kernel
theorem dX0_ownPart_67 : decode cX0_ownPart 67 = .ok (.invokestatic 50, 3) := by decide +kernel
theorem dX0_ownPart_70 : decode cX0_ownPart 70 = .ok (.iload_n 1, 1) := by decide +kernel
theorem dX0_ownPart_71 : decode cX0_ownPart 71 = .ok (.if_icmp .ne 38, 3) := by decide +kernel
theorem dX0_ownPart_74 : decode cX0_ownPart 74 = .ok (.aload_n 0, 1) := by decide +kernel
theorem dX0_ownPart_75 : decode cX0_ownPart 75 = .ok (.getfield 25, 3) := by decide +kernel
theorem dX0_ownPart_78 : decode cX0_ownPart 78 = .ok (.getfield 158, 3) := by decide +kernel
theorem dX0_ownPart_81 : decode cX0_ownPart 81 = .ok (.iload 5, 2) := by decide +kernel
theorem dX0_ownPart_83 : decode cX0_ownPart 83 = .ok (.iconst 4, 1) := by decide +kernel
theorem dX0_ownPart_84 : decode cX0_ownPart 84 = .ok (.iadd, 1) := by decide +kernel
theorem dX0_ownPart_85 : decode cX0_ownPart 85 = .ok (.invokestatic 50, 3) := by decide +kernel
theorem dX0_ownPart_88 : decode cX0_ownPart 88 = .ok (.ifCond .ne 21, 3) := by decide +kernel
theorem dX0_ownPart_91 : decode cX0_ownPart 91 = .ok (.aload_n 0, 1) := by decide +kernel
theorem dX0_ownPart_92 : decode cX0_ownPart 92 = .ok (.getfield 25, 3) := by decide +kernel
theorem dX0_ownPart_95 : decode cX0_ownPart 95 = .ok (.getfield 158, 3) := by decide +kernel
theorem dX0_ownPart_98 : decode cX0_ownPart 98 = .ok (.iload 5, 2) := by decide +kernel
theorem dX0_ownPart_100 : decode cX0_ownPart 100 = .ok (.iconst 3, 1) := by decide +kernel
theorem dX0_ownPart_101 : decode cX0_ownPart 101 = .ok (.iadd, 1) := by decide +kernel
theorem dX0_ownPart_102 : decode cX0_ownPart 102 = .ok (.invokestatic 50, 3) := by decide +kernel
theorem dX0_ownPart_105 : decode cX0_ownPart 105 = .ok (.bipush 6, 2) := by decide +kernel
theorem dX0_ownPart_107 : decode cX0_ownPart 107 = .ok (.iadd, 1) := by decide +kernel
theorem dX0_ownPart_108 : decode cX0_ownPart 108 = .ok (.ireturn, 1) := by decide +kernel
theorem dX0_checkDefs_0 : decode cX0_checkDefs 0 = .ok (.iconst 0, 1) := by decide +kernel
theorem dX0_checkDefs_1 : decode cX0_checkDefs 1 = .ok (.istore_n 1, 1) := by decide +kernel
theorem dX0_checkDefs_2 : decode cX0_checkDefs 2 = .ok (.iload_n 1, 1) := by decide +kernel
theorem dX0_checkDefs_3 : decode cX0_checkDefs 3 = .ok (.aload_n 0, 1) := by decide +kernel
theorem dX0_checkDefs_4 : decode cX0_checkDefs 4 = .ok (.getfield 25, 3) := by decide +kernel
theorem dX0_checkDefs_7 : decode cX0_checkDefs 7 = .ok (.getfield 113, 3) := by decide +kernel
theorem dX0_checkDefs_10 : decode cX0_checkDefs 10 = .ok (.if_icmp .ge 196, 3) := by decide +kernel
theorem dX0_checkDefs_206 : decode cX0_checkDefs 206 = .ok (.return_, 1) := by decide +kernel
theorem dX0_checkDefs_13 : decode cX0_checkDefs 13 = .ok (.iload_n 1, 1) := by decide +kernel
theorem dX0_checkDefs_14 : decode cX0_checkDefs 14 = .ok (.bipush 7, 2) := by decide +kernel
theorem dX0_checkDefs_16 : decode cX0_checkDefs 16 = .ok (.imul, 1) := by decide +kernel
theorem dX0_checkDefs_17 : decode cX0_checkDefs 17 = .ok (.istore_n 2, 1) := by decide +kernel
theorem dX0_checkDefs_18 : decode cX0_checkDefs 18 = .ok (.aload_n 0, 1) := by decide +kernel
theorem dX0_checkDefs_19 : decode cX0_checkDefs 19 = .ok (.getfield 25, 3) := by decide +kernel
theorem dX0_checkDefs_22 : decode cX0_checkDefs 22 = .ok (.getfield 116, 3) := by decide +kernel
theorem dX0_checkDefs_25 : decode cX0_checkDefs 25 = .ok (.iload_n 2, 1) := by decide +kernel
theorem dX0_checkDefs_26 : decode cX0_checkDefs 26 = .ok (.iconst 1, 1) := by decide +kernel
theorem dX0_checkDefs_27 : decode cX0_checkDefs 27 = .ok (.iadd, 1) := by decide +kernel
theorem dX0_checkDefs_28 : decode cX0_checkDefs 28 = .ok (.invokestatic 50, 3) := by decide +kernel
theorem dX0_checkDefs_31 : decode cX0_checkDefs 31 = .ok (.aload_n 0, 1) := by decide +kernel
theorem dX0_checkDefs_32 : decode cX0_checkDefs 32 = .ok (.getfield 9, 3) := by decide +kernel
theorem dX0_checkDefs_35 : decode cX0_checkDefs 35 = .ok (.if_icmp .eq 6, 3) := by decide +kernel
theorem dX0_checkDefs_200 : decode cX0_checkDefs 200 = .ok (.iinc 1 1, 3) := by decide +kernel
theorem dX0_checkDefs_203 : decode cX0_checkDefs 203 = .ok (.goto (-201), 3) := by decide +kernel
theorem dX0_checkDefs_41 : decode cX0_checkDefs 41 = .ok (.aload_n 0, 1) := by decide +kernel
theorem dX0_checkDefs_42 : decode cX0_checkDefs 42 = .ok (.getfield 25, 3) := by decide +kernel
theorem dX0_checkDefs_45 : decode cX0_checkDefs 45 = .ok (.getfield 116, 3) := by decide +kernel
theorem dX0_checkDefs_48 : decode cX0_checkDefs 48 = .ok (.iload_n 2, 1) := by decide +kernel
theorem dX0_checkDefs_49 : decode cX0_checkDefs 49 = .ok (.invokestatic 50, 3) := by decide +kernel
theorem dX0_checkDefs_52 : decode cX0_checkDefs 52 = .ok (.iconst 1, 1) := by decide +kernel
theorem dX0_checkDefs_53 : decode cX0_checkDefs 53 = .ok (.if_icmp .ne 11, 3) := by decide +kernel
theorem dX0_checkDefs_64 : decode cX0_checkDefs 64 = .ok (.aload_n 0, 1) := by decide +kernel
theorem dX0_checkDefs_65 : decode cX0_checkDefs 65 = .ok (.getfield 25, 3) := by decide +kernel
theorem dX0_checkDefs_68 : decode cX0_checkDefs 68 = .ok (.getfield 116, 3) := by decide +kernel
theorem dX0_checkDefs_71 : decode cX0_checkDefs 71 = .ok (.iload_n 2, 1) := by decide +kernel
theorem dX0_checkDefs_72 : decode cX0_checkDefs 72 = .ok (.invokestatic 50, 3) := by decide +kernel
theorem dX0_checkDefs_75 : decode cX0_checkDefs 75 = .ok (.iconst 3, 1) := by decide +kernel
theorem dX0_checkDefs_76 : decode cX0_checkDefs 76 = .ok (.if_icmp .ne 124, 3) := by decide +kernel
theorem dX0_checkDefs_79 : decode cX0_checkDefs 79 = .ok (.aload_n 0, 1) := by decide +kernel
theorem dX0_checkDefs_80 : decode cX0_checkDefs 80 = .ok (.aload_n 0, 1) := by decide +kernel
theorem dX0_checkDefs_81 : decode cX0_checkDefs 81 = .ok (.getfield 9, 3) := by decide +kernel
theorem dX0_checkDefs_84 : decode cX0_checkDefs 84 = .ok (.iconst 0, 1) := by decide +kernel
theorem dX0_checkDefs_85 : decode cX0_checkDefs 85 = .ok (.aload_n 0, 1) := by decide +kernel
theorem dX0_checkDefs_86 : decode cX0_checkDefs 86 = .ok (.getfield 25, 3) := by decide +kernel
theorem dX0_checkDefs_89 : decode cX0_checkDefs 89 = .ok (.getfield 116, 3) := by decide +kernel
theorem dX0_checkDefs_92 : decode cX0_checkDefs 92 = .ok (.iload_n 2, 1) := by decide +kernel
theorem dX0_checkDefs_93 : decode cX0_checkDefs 93 = .ok (.iconst 2, 1) := by decide +kernel
theorem dX0_checkDefs_94 : decode cX0_checkDefs 94 = .ok (.iadd, 1) := by decide +kernel
theorem dX0_checkDefs_95 : decode cX0_checkDefs 95 = .ok (.invokestatic 50, 3) := by decide +kernel
theorem dX0_checkDefs_98 : decode cX0_checkDefs 98 = .ok (.invokevirtual 122, 3) := by decide +kernel
theorem dX0_checkDefs_101 : decode cX0_checkDefs 101 = .ok (.istore_n 3, 1) := by decide +kernel
theorem dX0_checkDefs_102 : decode cX0_checkDefs 102 = .ok (.iload_n 3, 1) := by decide +kernel
theorem dX0_checkDefs_103 : decode cX0_checkDefs 103 = .ok (.iconst (-1), 1) := by decide +kernel
theorem dX0_checkDefs_104 : decode cX0_checkDefs 104 = .ok (.if_icmp .eq 68, 3) := by decide +kernel
theorem dX0_checkDefs_173 : decode cX0_checkDefs 173 = .ok (.istore 4, 2) := by decide +kernel
theorem dX0_checkDefs_175 : decode cX0_checkDefs 175 = .ok (.iload 4, 2) := by decide +kernel
theorem dX0_checkDefs_177 : decode cX0_checkDefs 177 = .ok (.ifCond .ne 23, 3) := by decide +kernel
theorem dX0_checkDefs_180 : decode cX0_checkDefs 180 = .ok (.aload_n 0, 1) := by decide +kernel
theorem dX0_checkDefs_181 : decode cX0_checkDefs 181 = .ok (.bipush 9, 2) := by decide +kernel
theorem dX0_checkDefs_183 : decode cX0_checkDefs 183 = .ok (.aload_n 0, 1) := by decide +kernel
theorem dX0_checkDefs_184 : decode cX0_checkDefs 184 = .ok (.getfield 25, 3) := by decide +kernel
theorem dX0_checkDefs_187 : decode cX0_checkDefs 187 = .ok (.getfield 116, 3) := by decide +kernel
theorem dX0_checkDefs_190 : decode cX0_checkDefs 190 = .ok (.iload_n 2, 1) := by decide +kernel
theorem dX0_checkDefs_191 : decode cX0_checkDefs 191 = .ok (.bipush 6, 2) := by decide +kernel
theorem dX0_checkDefs_193 : decode cX0_checkDefs 193 = .ok (.iadd, 1) := by decide +kernel
theorem dX0_checkDefs_194 : decode cX0_checkDefs 194 = .ok (.invokestatic 50, 3) := by decide +kernel
theorem dX0_checkDefs_197 : decode cX0_checkDefs 197 = .ok (.invokevirtual 66, 3) := by decide +kernel
theorem dX0_checkDefs_172 : decode cX0_checkDefs 172 = .ok (.iconst 0, 1) := by decide +kernel
theorem dX0_checkDefs_107 : decode cX0_checkDefs 107 = .ok (.aload_n 0, 1) := by decide +kernel
theorem dX0_checkDefs_108 : decode cX0_checkDefs 108 = .ok (.getfield 25, 3) := by decide +kernel
theorem dX0_checkDefs_111 : decode cX0_checkDefs 111 = .ok (.getfield 116, 3) := by decide +kernel
theorem dX0_checkDefs_114 : decode cX0_checkDefs 114 = .ok (.iload_n 3, 1) := by decide +kernel
theorem dX0_checkDefs_115 : decode cX0_checkDefs 115 = .ok (.invokestatic 50, 3) := by decide +kernel
theorem dX0_checkDefs_118 : decode cX0_checkDefs 118 = .ok (.ifCond .ne 54, 3) := by decide +kernel
theorem dX0_checkDefs_121 : decode cX0_checkDefs 121 = .ok (.aload_n 0, 1) := by decide +kernel
theorem dX0_checkDefs_122 : decode cX0_checkDefs 122 = .ok (.aload_n 0, 1) := by decide +kernel
theorem dX0_checkDefs_123 : decode cX0_checkDefs 123 = .ok (.getfield 25, 3) := by decide +kernel
theorem dX0_checkDefs_126 : decode cX0_checkDefs 126 = .ok (.getfield 116, 3) := by decide +kernel
theorem dX0_checkDefs_129 : decode cX0_checkDefs 129 = .ok (.iload_n 3, 1) := by decide +kernel
theorem dX0_checkDefs_130 : decode cX0_checkDefs 130 = .ok (.iconst 1, 1) := by decide +kernel
theorem dX0_checkDefs_131 : decode cX0_checkDefs 131 = .ok (.iadd, 1) := by decide +kernel
theorem dX0_checkDefs_132 : decode cX0_checkDefs 132 = .ok (.invokestatic 50, 3) := by decide +kernel
theorem dX0_checkDefs_135 : decode cX0_checkDefs 135 = .ok (.aload_n 0, 1) := by decide +kernel
theorem dX0_checkDefs_136 : decode cX0_checkDefs 136 = .ok (.getfield 25, 3) := by decide +kernel
theorem dX0_checkDefs_139 : decode cX0_checkDefs 139 = .ok (.getfield 116, 3) := by decide +kernel
theorem dX0_checkDefs_142 : decode cX0_checkDefs 142 = .ok (.iload_n 2, 1) := by decide +kernel
theorem dX0_checkDefs_143 : decode cX0_checkDefs 143 = .ok (.iconst 2, 1) := by decide +kernel
theorem dX0_checkDefs_144 : decode cX0_checkDefs 144 = .ok (.iadd, 1) := by decide +kernel
theorem dX0_checkDefs_145 : decode cX0_checkDefs 145 = .ok (.invokestatic 50, 3) := by decide +kernel
theorem dX0_checkDefs_148 : decode cX0_checkDefs 148 = .ok (.aload_n 0, 1) := by decide +kernel
theorem dX0_checkDefs_149 : decode cX0_checkDefs 149 = .ok (.getfield 25, 3) := by decide +kernel
theorem dX0_checkDefs_152 : decode cX0_checkDefs 152 = .ok (.getfield 116, 3) := by decide +kernel
theorem dX0_checkDefs_155 : decode cX0_checkDefs 155 = .ok (.iload_n 2, 1) := by decide +kernel
theorem dX0_checkDefs_156 : decode cX0_checkDefs 156 = .ok (.iconst 5, 1) := by decide +kernel
theorem dX0_checkDefs_157 : decode cX0_checkDefs 157 = .ok (.iadd, 1) := by decide +kernel
theorem dX0_checkDefs_158 : decode cX0_checkDefs 158 = .ok (.invokestatic 50, 3) := by decide +kernel
theorem dX0_checkDefs_161 : decode cX0_checkDefs 161 = .ok (.invokevirtual 126, 3) := by decide +kernel
theorem dX0_checkDefs_164 : decode cX0_checkDefs 164 = .ok (.iconst (-1), 1) := by decide +kernel
theorem dX0_checkDefs_165 : decode cX0_checkDefs 165 = .ok (.if_icmp .eq 7, 3) := by decide +kernel
theorem dX0_checkDefs_168 : decode cX0_checkDefs 168 = .ok (.iconst 1, 1) := by decide +kernel
theorem dX0_checkDefs_169 : decode cX0_checkDefs 169 = .ok (.goto 4, 3) := by decide +kernel
theorem dX0_checkDefs_56 : decode cX0_checkDefs 56 = .ok (.aload_n 0, 1) := by decide +kernel
theorem dX0_checkDefs_57 : decode cX0_checkDefs 57 = .ok (.iload_n 2, 1) := by decide +kernel
theorem dX0_checkDefs_58 : decode cX0_checkDefs 58 = .ok (.invokevirtual 119, 3) := by decide +kernel
theorem dX0_checkDefs_61 : decode cX0_checkDefs 61 = .ok (.goto 139, 3) := by decide +kernel
theorem dX0_checkDefs_38 : decode cX0_checkDefs 38 = .ok (.goto 162, 3) := by decide +kernel
theorem dX2_textOf_0 : decode cX2_textOf 0 = .ok (.iload_n 1, 1) := by decide +kernel
theorem dX2_textOf_1 : decode cX2_textOf 1 = .ok (.istore_n 2, 1) := by decide +kernel
theorem dX2_textOf_2 : decode cX2_textOf 2 = .ok (.iconst 0, 1) := by decide +kernel
theorem dX2_textOf_3 : decode cX2_textOf 3 = .ok (.istore_n 3, 1) := by decide +kernel
theorem dX2_textOf_4 : decode cX2_textOf 4 = .ok (.iload_n 3, 1) := by decide +kernel
theorem dX2_textOf_5 : decode cX2_textOf 5 = .ok (.sipush 320, 3) := by decide +kernel
theorem dX2_textOf_8 : decode cX2_textOf 8 = .ok (.if_icmp .gt 53, 3) := by decide +kernel
theorem dX2_textOf_61 : decode cX2_textOf 61 = .ok (.iconst (-1), 1) := by decide +kernel
theorem dX2_textOf_62 : decode cX2_textOf 62 = .ok (.ireturn, 1) := by decide +kernel
theorem dX2_textOf_11 : decode cX2_textOf 11 = .ok (.iload_n 2, 1) := by decide +kernel
theorem dX2_textOf_12 : decode cX2_textOf 12 = .ok (.ifCond .lt 49, 3) := by decide +kernel
theorem dX2_textOf_15 : decode cX2_textOf 15 = .ok (.aload_n 0, 1) := by decide +kernel
theorem dX2_textOf_16 : decode cX2_textOf 16 = .ok (.getfield 44, 3) := by decide +kernel
theorem dX2_textOf_19 : decode cX2_textOf 19 = .ok (.iload_n 2, 1) := by decide +kernel
theorem dX2_textOf_20 : decode cX2_textOf 20 = .ok (.invokestatic 102, 3) := by decide +kernel
theorem dX2_textOf_23 : decode cX2_textOf 23 = .ok (.ifCond .ne 14, 3) := by decide +kernel
theorem dX2_textOf_37 : decode cX2_textOf 37 = .ok (.aload_n 0, 1) := by decide +kernel
theorem dX2_textOf_38 : decode cX2_textOf 38 = .ok (.getfield 65, 3) := by decide +kernel
theorem dX2_textOf_41 : decode cX2_textOf 41 = .ok (.aload_n 0, 1) := by decide +kernel
theorem dX2_textOf_42 : decode cX2_textOf 42 = .ok (.getfield 44, 3) := by decide +kernel
theorem dX2_textOf_45 : decode cX2_textOf 45 = .ok (.iload_n 2, 1) := by decide +kernel
theorem dX2_textOf_46 : decode cX2_textOf 46 = .ok (.iconst 4, 1) := by decide +kernel
theorem dX2_textOf_47 : decode cX2_textOf 47 = .ok (.iadd, 1) := by decide +kernel
theorem dX2_textOf_48 : decode cX2_textOf 48 = .ok (.invokestatic 102, 3) := by decide +kernel
theorem dX2_textOf_51 : decode cX2_textOf 51 = .ok (.invokestatic 102, 3) := by decide +kernel
theorem dX2_textOf_54 : decode cX2_textOf 54 = .ok (.istore_n 2, 1) := by decide +kernel
theorem dX2_textOf_55 : decode cX2_textOf 55 = .ok (.iinc 3 1, 3) := by decide +kernel
theorem dX2_textOf_58 : decode cX2_textOf 58 = .ok (.goto (-54), 3) := by decide +kernel
theorem dX2_textOf_26 : decode cX2_textOf 26 = .ok (.aload_n 0, 1) := by decide +kernel
theorem dX2_textOf_27 : decode cX2_textOf 27 = .ok (.getfield 44, 3) := by decide +kernel
theorem dX2_textOf_30 : decode cX2_textOf 30 = .ok (.iload_n 2, 1) := by decide +kernel
theorem dX2_textOf_31 : decode cX2_textOf 31 = .ok (.iconst 4, 1) := by decide +kernel
theorem dX2_textOf_32 : decode cX2_textOf 32 = .ok (.iadd, 1) := by decide +kernel
theorem dX2_textOf_33 : decode cX2_textOf 33 = .ok (.invokestatic 102, 3) := by decide +kernel
theorem dX2_textOf_36 : decode cX2_textOf 36 = .ok (.ireturn, 1) := by decide +kernel
theorem dX0_isNamed_0 : decode cX0_isNamed 0 = .ok (.aload_n 0, 1) := by decide +kernel
theorem dX0_isNamed_1 : decode cX0_isNamed 1 = .ok (.getfield 25, 3) := by decide +kernel
theorem dX0_isNamed_4 : decode cX0_isNamed 4 = .ok (.getfield 138, 3) := by decide +kernel
theorem dX0_isNamed_7 : decode cX0_isNamed 7 = .ok (.iload_n 1, 1) := by decide +kernel
theorem dX0_isNamed_8 : decode cX0_isNamed 8 = .ok (.bipush 6, 2) := by decide +kernel
theorem dX0_isNamed_10 : decode cX0_isNamed 10 = .ok (.iadd, 1) := by decide +kernel
theorem dX0_isNamed_11 : decode cX0_isNamed 11 = .ok (.invokestatic 50, 3) := by decide +kernel
theorem dX0_isNamed_14 : decode cX0_isNamed 14 = .ok (.istore_n 3, 1) := by decide +kernel
theorem dX0_isNamed_15 : decode cX0_isNamed 15 = .ok (.iconst 0, 1) := by decide +kernel
theorem dX0_isNamed_16 : decode cX0_isNamed 16 = .ok (.istore 4, 2) := by decide +kernel
theorem dX0_isNamed_18 : decode cX0_isNamed 18 = .ok (.iload 4, 2) := by decide +kernel
theorem dX0_isNamed_20 : decode cX0_isNamed 20 = .ok (.sipush 4000, 3) := by decide +kernel
theorem dX0_isNamed_23 : decode cX0_isNamed 23 = .ok (.if_icmp .ge 46, 3) := by decide +kernel
theorem dX0_isNamed_69 : decode cX0_isNamed 69 = .ok (.iconst 0, 1) := by decide +kernel
theorem dX0_isNamed_70 : decode cX0_isNamed 70 = .ok (.ireturn, 1) := by decide +kernel
theorem dX0_isNamed_26 : decode cX0_isNamed 26 = .ok (.iload_n 3, 1) := by decide +kernel
theorem dX0_isNamed_27 : decode cX0_isNamed 27 = .ok (.ifCond .le 42, 3) := by decide +kernel
theorem dX0_isNamed_30 : decode cX0_isNamed 30 = .ok (.aload_n 0, 1) := by decide +kernel
theorem dX0_isNamed_31 : decode cX0_isNamed 31 = .ok (.getfield 25, 3) := by decide +kernel
theorem dX0_isNamed_34 : decode cX0_isNamed 34 = .ok (.getfield 138, 3) := by decide +kernel
theorem dX0_isNamed_37 : decode cX0_isNamed 37 = .ok (.iload_n 3, 1) := by decide +kernel
theorem dX0_isNamed_38 : decode cX0_isNamed 38 = .ok (.iconst 1, 1) := by decide +kernel
theorem dX0_isNamed_39 : decode cX0_isNamed 39 = .ok (.iadd, 1) := by decide +kernel
theorem dX0_isNamed_40 : decode cX0_isNamed 40 = .ok (.invokestatic 50, 3) := by decide +kernel
theorem dX0_isNamed_43 : decode cX0_isNamed 43 = .ok (.iload_n 2, 1) := by decide +kernel
theorem dX0_isNamed_44 : decode cX0_isNamed 44 = .ok (.if_icmp .ne 5, 3) := by decide +kernel
theorem dX0_isNamed_49 : decode cX0_isNamed 49 = .ok (.aload_n 0, 1) := by decide +kernel
theorem dX0_isNamed_50 : decode cX0_isNamed 50 = .ok (.getfield 25, 3) := by decide +kernel
theorem dX0_isNamed_53 : decode cX0_isNamed 53 = .ok (.getfield 138, 3) := by decide +kernel
theorem dX0_isNamed_56 : decode cX0_isNamed 56 = .ok (.iload_n 3, 1) := by decide +kernel
theorem dX0_isNamed_57 : decode cX0_isNamed 57 = .ok (.iconst 3, 1) := by decide +kernel
theorem dX0_isNamed_58 : decode cX0_isNamed 58 = .ok (.iadd, 1) := by decide +kernel
theorem dX0_isNamed_59 : decode cX0_isNamed 59 = .ok (.invokestatic 50, 3) := by decide +kernel
theorem dX0_isNamed_62 : decode cX0_isNamed 62 = .ok (.istore_n 3, 1) := by decide +kernel
theorem dX0_isNamed_63 : decode cX0_isNamed 63 = .ok (.iinc 4 1, 3) := by decide +kernel
theorem dX0_isNamed_66 : decode cX0_isNamed 66 = .ok (.goto (-48), 3) := by decide +kernel
theorem dX0_isNamed_47 : decode cX0_isNamed 47 = .ok (.iconst 1, 1) := by decide +kernel
theorem dX0_isNamed_48 : decode cX0_isNamed 48 = .ok (.ireturn, 1) := by decide +kernel
theorem dX0_mayHaveArgs_0 : decode cX0_mayHaveArgs 0 = .ok (.aload_n 0, 1) := by decide +kernel
theorem dX0_mayHaveArgs_1 : decode cX0_mayHaveArgs 1 = .ok (.getfield 25, 3) := by decide +kernel
theorem dX0_mayHaveArgs_4 : decode cX0_mayHaveArgs 4 = .ok (.getfield 138, 3) := by decide +kernel
theorem dX0_mayHaveArgs_7 : decode cX0_mayHaveArgs 7 = .ok (.iload_n 2, 1) := by decide +kernel
theorem dX0_mayHaveArgs_8 : decode cX0_mayHaveArgs 8 = .ok (.iconst 2, 1) := by decide +kernel
theorem dX0_mayHaveArgs_9 : decode cX0_mayHaveArgs 9 = .ok (.iadd, 1) := by decide +kernel
theorem dX0_mayHaveArgs_10 : decode cX0_mayHaveArgs 10 = .ok (.invokestatic 50, 3) := by decide +kernel
theorem dX0_mayHaveArgs_13 : decode cX0_mayHaveArgs 13 = .ok (.istore_n 3, 1) := by decide +kernel
theorem dX0_mayHaveArgs_14 : decode cX0_mayHaveArgs 14 = .ok (.aload_n 0, 1) := by decide +kernel
theorem dX0_mayHaveArgs_15 : decode cX0_mayHaveArgs 15 = .ok (.getfield 25, 3) := by decide +kernel
theorem dX0_mayHaveArgs_18 : decode cX0_mayHaveArgs 18 = .ok (.getfield 138, 3) := by decide +kernel
theorem dX0_mayHaveArgs_21 : decode cX0_mayHaveArgs 21 = .ok (.iload_n 1, 1) := by decide +kernel
theorem dX0_mayHaveArgs_22 : decode cX0_mayHaveArgs 22 = .ok (.iconst 4, 1) := by decide +kernel
theorem dX0_mayHaveArgs_23 : decode cX0_mayHaveArgs 23 = .ok (.iadd, 1) := by decide +kernel
theorem dX0_mayHaveArgs_24 : decode cX0_mayHaveArgs 24 = .ok (.invokestatic 50, 3) := by decide +kernel
theorem dX0_mayHaveArgs_27 : decode cX0_mayHaveArgs 27 = .ok (.istore 4, 2) := by decide +kernel
theorem dX0_mayHaveArgs_29 : decode cX0_mayHaveArgs 29 = .ok (.aload_n 0, 1) := by decide +kernel
theorem dX0_mayHaveArgs_30 : decode cX0_mayHaveArgs 30 = .ok (.getfield 25, 3) := by decide +kernel
theorem dX0_mayHaveArgs_33 : decode cX0_mayHaveArgs 33 = .ok (.getfield 138, 3) := by decide +kernel
theorem dX0_mayHaveArgs_36 : decode cX0_mayHaveArgs 36 = .ok (.iload_n 1, 1) := by decide +kernel
theorem dX0_mayHaveArgs_37 : decode cX0_mayHaveArgs 37 = .ok (.iconst 5, 1) := by decide +kernel
theorem dX0_mayHaveArgs_38 : decode cX0_mayHaveArgs 38 = .ok (.iadd, 1) := by decide +kernel
theorem dX0_mayHaveArgs_39 : decode cX0_mayHaveArgs 39 = .ok (.invokestatic 50, 3) := by decide +kernel
theorem dX0_mayHaveArgs_42 : decode cX0_mayHaveArgs 42 = .ok (.istore 5, 2) := by decide +kernel
theorem dX0_mayHaveArgs_44 : decode cX0_mayHaveArgs 44 = .ok (.iload 5, 2) := by decide +kernel
theorem dX0_mayHaveArgs_46 : decode cX0_mayHaveArgs 46 = .ok (.bipush 8, 2) := by decide +kernel
theorem dX0_mayHaveArgs_48 : decode cX0_mayHaveArgs 48 = .ok (.iand, 1) := by decide +kernel
theorem dX0_mayHaveArgs_49 : decode cX0_mayHaveArgs 49 = .ok (.ifCond .eq 7, 3) := by decide +kernel
theorem dX0_mayHaveArgs_57 : decode cX0_mayHaveArgs 57 = .ok (.istore 6, 2) := by decide +kernel
theorem dX0_mayHaveArgs_59 : decode cX0_mayHaveArgs 59 = .ok (.iload 6, 2) := by decide +kernel
theorem dX0_mayHaveArgs_61 : decode cX0_mayHaveArgs 61 = .ok (.iload_n 3, 1) := by decide +kernel
theorem dX0_mayHaveArgs_62 : decode cX0_mayHaveArgs 62 = .ok (.if_icmp .le 5, 3) := by decide +kernel
theorem dX0_mayHaveArgs_67 : decode cX0_mayHaveArgs 67 = .ok (.iload 5, 2) := by decide +kernel
theorem dX0_mayHaveArgs_69 : decode cX0_mayHaveArgs 69 = .ok (.iconst 1, 1) := by decide +kernel
theorem dX0_mayHaveArgs_70 : decode cX0_mayHaveArgs 70 = .ok (.iand, 1) := by decide +kernel
theorem dX0_mayHaveArgs_71 : decode cX0_mayHaveArgs 71 = .ok (.ifCond .ne 18, 3) := by decide +kernel
theorem dX0_mayHaveArgs_89 : decode cX0_mayHaveArgs 89 = .ok (.iload 6, 2) := by decide +kernel
theorem dX0_mayHaveArgs_91 : decode cX0_mayHaveArgs 91 = .ok (.istore 7, 2) := by decide +kernel
theorem dX0_mayHaveArgs_93 : decode cX0_mayHaveArgs 93 = .ok (.iload 7, 2) := by decide +kernel
theorem dX0_mayHaveArgs_95 : decode cX0_mayHaveArgs 95 = .ok (.iload_n 3, 1) := by decide +kernel
theorem dX0_mayHaveArgs_96 : decode cX0_mayHaveArgs 96 = .ok (.if_icmp .ge 79, 3) := by decide +kernel
theorem dX0_mayHaveArgs_175 : decode cX0_mayHaveArgs 175 = .ok (.iconst 1, 1) := by decide +kernel
theorem dX0_mayHaveArgs_176 : decode cX0_mayHaveArgs 176 = .ok (.ireturn, 1) := by decide +kernel
theorem dX0_mayHaveArgs_99 : decode cX0_mayHaveArgs 99 = .ok (.iload 5, 2) := by decide +kernel
theorem dX0_mayHaveArgs_101 : decode cX0_mayHaveArgs 101 = .ok (.iconst 2, 1) := by decide +kernel
theorem dX0_mayHaveArgs_102 : decode cX0_mayHaveArgs 102 = .ok (.iand, 1) := by decide +kernel
theorem dX0_mayHaveArgs_103 : decode cX0_mayHaveArgs 103 = .ok (.ifCond .ne 72, 3) := by decide +kernel
theorem dX0_mayHaveArgs_106 : decode cX0_mayHaveArgs 106 = .ok (.aload_n 0, 1) := by decide +kernel
theorem dX0_mayHaveArgs_107 : decode cX0_mayHaveArgs 107 = .ok (.getfield 25, 3) := by decide +kernel
theorem dX0_mayHaveArgs_110 : decode cX0_mayHaveArgs 110 = .ok (.getfield 138, 3) := by decide +kernel
theorem dX0_mayHaveArgs_113 : decode cX0_mayHaveArgs 113 = .ok (.iload_n 2, 1) := by decide +kernel
theorem dX0_mayHaveArgs_114 : decode cX0_mayHaveArgs 114 = .ok (.iconst 4, 1) := by decide +kernel
theorem dX0_mayHaveArgs_115 : decode cX0_mayHaveArgs 115 = .ok (.iadd, 1) := by decide +kernel
theorem dX0_mayHaveArgs_116 : decode cX0_mayHaveArgs 116 = .ok (.iconst 2, 1) := by decide +kernel
theorem dX0_mayHaveArgs_117 : decode cX0_mayHaveArgs 117 = .ok (.iload 7, 2) := by decide +kernel
theorem dX0_mayHaveArgs_119 : decode cX0_mayHaveArgs 119 = .ok (.imul, 1) := by decide +kernel
theorem dX0_mayHaveArgs_120 : decode cX0_mayHaveArgs 120 = .ok (.iadd, 1) := by decide +kernel
theorem dX0_mayHaveArgs_121 : decode cX0_mayHaveArgs 121 = .ok (.invokestatic 50, 3) := by decide +kernel
theorem dX0_mayHaveArgs_124 : decode cX0_mayHaveArgs 124 = .ok (.ldc 151, 2) := by decide +kernel
theorem dX0_mayHaveArgs_126 : decode cX0_mayHaveArgs 126 = .ok (.if_icmp .ne 7, 3) := by decide +kernel
theorem dX0_mayHaveArgs_134 : decode cX0_mayHaveArgs 134 = .ok (.istore 8, 2) := by decide +kernel
theorem dX0_mayHaveArgs_136 : decode cX0_mayHaveArgs 136 = .ok (.iload 8, 2) := by decide +kernel
theorem dX0_mayHaveArgs_138 : decode cX0_mayHaveArgs 138 = .ok (.ifCond .eq 31, 3) := by decide +kernel
theorem dX0_mayHaveArgs_169 : decode cX0_mayHaveArgs 169 = .ok (.iinc 7 1, 3) := by decide +kernel
theorem dX0_mayHaveArgs_172 : decode cX0_mayHaveArgs 172 = .ok (.goto (-79), 3) := by decide +kernel
theorem dX0_mayHaveArgs_141 : decode cX0_mayHaveArgs 141 = .ok (.aload_n 0, 1) := by decide +kernel
theorem dX0_mayHaveArgs_142 : decode cX0_mayHaveArgs 142 = .ok (.iload_n 1, 1) := by decide +kernel
theorem dX0_mayHaveArgs_143 : decode cX0_mayHaveArgs 143 = .ok (.aload_n 0, 1) := by decide +kernel
theorem dX0_mayHaveArgs_144 : decode cX0_mayHaveArgs 144 = .ok (.getfield 25, 3) := by decide +kernel
theorem dX0_mayHaveArgs_147 : decode cX0_mayHaveArgs 147 = .ok (.getfield 138, 3) := by decide +kernel
theorem dX0_mayHaveArgs_150 : decode cX0_mayHaveArgs 150 = .ok (.iload_n 2, 1) := by decide +kernel
theorem dX0_mayHaveArgs_151 : decode cX0_mayHaveArgs 151 = .ok (.iconst 3, 1) := by decide +kernel
theorem dX0_mayHaveArgs_152 : decode cX0_mayHaveArgs 152 = .ok (.iadd, 1) := by decide +kernel
theorem dX0_mayHaveArgs_153 : decode cX0_mayHaveArgs 153 = .ok (.iconst 2, 1) := by decide +kernel
theorem dX0_mayHaveArgs_154 : decode cX0_mayHaveArgs 154 = .ok (.iload 7, 2) := by decide +kernel
theorem dX0_mayHaveArgs_156 : decode cX0_mayHaveArgs 156 = .ok (.imul, 1) := by decide +kernel
theorem dX0_mayHaveArgs_157 : decode cX0_mayHaveArgs 157 = .ok (.iadd, 1) := by decide +kernel
theorem dX0_mayHaveArgs_158 : decode cX0_mayHaveArgs 158 = .ok (.invokestatic 50, 3) := by decide +kernel
theorem dX0_mayHaveArgs_161 : decode cX0_mayHaveArgs 161 = .ok (.invokevirtual 152, 3) := by decide +kernel
theorem dX0_mayHaveArgs_164 : decode cX0_mayHaveArgs 164 = .ok (.ifCond .ne 5, 3) := by decide +kernel
theorem dX0_mayHaveArgs_167 : decode cX0_mayHaveArgs 167 = .ok (.iconst 0, 1) := by decide +kernel
theorem dX0_mayHaveArgs_168 : decode cX0_mayHaveArgs 168 = .ok (.ireturn, 1) := by decide +kernel
theorem dX0_mayHaveArgs_133 : decode cX0_mayHaveArgs 133 = .ok (.iconst 0, 1) := by decide +kernel
theorem dX0_mayHaveArgs_129 : decode cX0_mayHaveArgs 129 = .ok (.iconst 1, 1) := by decide +kernel
theorem dX0_mayHaveArgs_130 : decode cX0_mayHaveArgs 130 = .ok (.goto 4, 3) := by decide +kernel
theorem dX0_mayHaveArgs_74 : decode cX0_mayHaveArgs 74 = .ok (.iload 6, 2) := by decide +kernel
theorem dX0_mayHaveArgs_76 : decode cX0_mayHaveArgs 76 = .ok (.iload 4, 2) := by decide +kernel
theorem dX0_mayHaveArgs_78 : decode cX0_mayHaveArgs 78 = .ok (.iadd, 1) := by decide +kernel
theorem dX0_mayHaveArgs_79 : decode cX0_mayHaveArgs 79 = .ok (.istore 6, 2) := by decide +kernel
theorem dX0_mayHaveArgs_81 : decode cX0_mayHaveArgs 81 = .ok (.iload 6, 2) := by decide +kernel
theorem dX0_mayHaveArgs_83 : decode cX0_mayHaveArgs 83 = .ok (.iload_n 3, 1) := by decide +kernel
theorem dX0_mayHaveArgs_84 : decode cX0_mayHaveArgs 84 = .ok (.if_icmp .le 5, 3) := by decide +kernel
theorem dX0_mayHaveArgs_87 : decode cX0_mayHaveArgs 87 = .ok (.iconst 0, 1) := by decide +kernel
theorem dX0_mayHaveArgs_88 : decode cX0_mayHaveArgs 88 = .ok (.ireturn, 1) := by decide +kernel
theorem dX0_mayHaveArgs_65 : decode cX0_mayHaveArgs 65 = .ok (.iconst 0, 1) := by decide +kernel
theorem dX0_mayHaveArgs_66 : decode cX0_mayHaveArgs 66 = .ok (.ireturn, 1) := by decide +kernel
theorem dX0_mayHaveArgs_56 : decode cX0_mayHaveArgs 56 = .ok (.iconst 0, 1) := by decide +kernel
theorem dX0_mayHaveArgs_52 : decode cX0_mayHaveArgs 52 = .ok (.iconst 1, 1) := by decide +kernel
theorem dX0_mayHaveArgs_53 : decode cX0_mayHaveArgs 53 = .ok (.goto 4, 3) := by decide +kernel
abbrev QX4_extend (l : Launch) (G : zG) (T : tT) (κ : Nat → List Nat) (n : Nat) : Prop := ∀ (a0 : Nat) (h0 : a0 ∈ κ 4) (a1 : Nat) (h1 : a1 ∈ κ 20) (a2 : Nat) (h2 : a2 ∈ κ 20) (x3 : Int32) (x4 : Int32) (x5 : Int32), 0 ≤ x5.toInt ∧ x5.toInt ≤ 9 → (9 - x5.toInt).toNat * 32 + 1 ≤ n → tMv l G T yX4_extend cX4_extend 8 [] (n + 20) (64 * n + 1000) 0 0 [.ref a0, .ref a1, .ref a2, .int x3, .int x4, .int x5] uT (uPv 0x0)
abbrev Q_ext (l : Launch) (G : zG) (T : tT) (κ : Nat → List Nat) (n : Nat) : Prop := QX4_extend l G T κ n
theorem qX4_extend {l : Launch} {G : zG} {T : tT} {κ : Nat → List Nat} {n : Nat} (h : Q_ext l G T κ n) : QX4_extend l G T κ n := h
set_option maxRecDepth 20000 in
theorem sX4_extend (l : Launch) (G : zG) (T : tT) (κ : Nat → List Nat) (hst : l.stackTraces = false) (hE : tE G T κ) (n : Nat) (ih : Q_ext l G T κ n) : QX4_extend l G T κ (n + 1) := by
  intro a0 h0 a1 h1 a2 h2 x3 x4 x5 hdp hmm
  refine tMv.intro hst rfl (Nat.le_of_ble_eq_true rfl) ?_
  intro w0 hw0 _ X hC hR hO hX
  refine z_aload_n hC (pc := 0) 2 dX4_extend_0 rfl rfl ?_
  refine z_iload_n hC (pc := 1) 3 dX4_extend_1 rfl rfl ?_
  refine t_callSNi hC hw0 (pc := 2) (As := [.ref a2, .int x3]) (kX12_get l G T κ hst hE h2) trivial dmX12_get dX4_extend_2 zw992 rfl rfl (Nat.le_of_ble_eq_true rfl) (Nat.le_of_ble_eq_true rfl) (by omega) (by omega) (Nat.le_of_ble_eq_true rfl) (fun _ _ _ h => nomatch h) (fun x9 cw8 nw8 w8 hw8 pw8 => ?_)
  obtain ⟨rfl, rfl, kw8⟩ := pw8
  refine z_istore hC (pc := 5) (lv' := [(6, .int x9), (0, .ref a0), (1, .ref a1), (2, .ref a2), (3, .int x3), (4, .int x4), (5, .int x5)]) dX4_extend_5 (by decide) rfl ?_
  refine z_iconst hC (pc := 7) (v := 0) dX4_extend_7 (by decide) ?_
  refine z_istore hC (pc := 8) (lv' := [(7, .int 0), (6, .int x9), (0, .ref a0), (1, .ref a1), (2, .ref a2), (3, .int x3), (4, .int x4), (5, .int x5)]) dX4_extend_8 (by decide) rfl ?_
  have j10 : ∀ (d10 : Nat), ∀ (w10 : va_W), tW T w10 → tKeep 0x0 w8 w10 → ∀ (x11 : Int32), ¬ x11 < 0 → (2 ^ 31 - (x11 : Int32).toInt).toNat ≤ d10 → zS X G 8 w10 [(0, .ref a0), (1, .ref a1), (2, .ref a2), (3, .int x3), (4, .int x4), (5, .int x5), (6, .int x9), (7, .int x11)] 0 0 10 [] := by
    intro d10
    induction d10 with
    | zero => intro w10 hw10 kw10 x11 v12 hd10; exact (t_zero hd10).elim
    | succ d10 ih10 =>
      intro w10 hw10 kw10 x11 v12 hd10
      refine z_iload hC (pc := 10) 7 dX4_extend_10 rfl ?_
      refine z_iload hC (pc := 12) 6 dX4_extend_12 rfl ?_
      refine z_icmp_ge hC (pc := 14) 40 dX4_extend_14 (by decide) (fun c13 => ?_) (fun c13 => ?_)
      · refine z_iload hC (pc := 40) 5 dX4_extend_40 rfl ?_
        refine z_bipush hC (pc := 42) (v := 8) dX4_extend_42 (by decide) ?_
        have j54 : zS X G 8 w10 [] 0 0 54 [] := by
          exact hR _ _ _ _ _ dX4_extend_54 (Nat.le_of_ble_eq_true rfl) (Nat.le_of_ble_eq_true rfl) ⟨hw10, rfl, rfl, (tKeep.tr (tKeep.tr tKeep.rf kw8 rfl) kw10 rfl)⟩
        refine z_icmp_gt hC (pc := 44) 54 dX4_extend_44 (by decide) (fun c14 => ?_) (fun c14 => ?_)
        · refine z_lvs [] rfl ?_
          exact j54
        · refine z_iload hC (pc := 47) 6 dX4_extend_47 rfl ?_
          refine z_bipush hC (pc := 49) (v := 8) dX4_extend_49 (by decide) ?_
          refine z_icmp_lt hC (pc := 51) 55 dX4_extend_51 (by decide) (fun c15 => ?_) (fun c15 => ?_)
          · refine z_aload_n hC (pc := 55) 1 dX4_extend_55 rfl rfl ?_
            refine z_bipush hC (pc := 56) (v := 8) dX4_extend_56 (by decide) ?_
            refine z_iload_n hC (pc := 58) 3 dX4_extend_58 rfl rfl ?_
            refine z_imul hC (pc := 59) (v := ((8 : Int32) * x3)) dX4_extend_59 rfl ?_
            refine z_iload hC (pc := 60) 6 dX4_extend_60 rfl ?_
            refine z_iadd hC (pc := 62) (v := (((8 : Int32) * x3) + x9)) dX4_extend_62 rfl ?_
            refine z_iload hC (pc := 63) 4 dX4_extend_63 rfl ?_
            refine t_callSNv hC hw10 (pc := 65) (As := [.ref a1, .int (((8 : Int32) * x3) + x9), .int x4]) (kX12_set l G T κ hst hE h1) trivial dmX12_set dX4_extend_65 zw998 rfl rfl (Nat.le_of_ble_eq_true rfl) (Nat.le_of_ble_eq_true rfl) (by omega) (by omega) (Nat.le_of_ble_eq_true rfl) (fun _ _ _ h => nomatch h) (fun cw16 nw16 w16 hw16 pw16 => ?_)
            obtain ⟨rfl, rfl, kw16⟩ := pw16
            refine z_aload_n hC (pc := 68) 2 dX4_extend_68 rfl rfl ?_
            refine z_iload_n hC (pc := 69) 3 dX4_extend_69 rfl rfl ?_
            refine z_iload hC (pc := 70) 6 dX4_extend_70 rfl ?_
            refine z_iconst hC (pc := 72) (v := 1) dX4_extend_72 (by decide) ?_
            refine z_iadd hC (pc := 73) (v := (x9 + 1)) dX4_extend_73 rfl ?_
            refine t_callSNv hC hw16 (pc := 74) (As := [.ref a2, .int x3, .int (x9 + 1)]) (kX12_set l G T κ hst hE h2) trivial dmX12_set dX4_extend_74 zw998 rfl rfl (Nat.le_of_ble_eq_true rfl) (Nat.le_of_ble_eq_true rfl) (by omega) (by omega) (Nat.le_of_ble_eq_true rfl) (fun _ _ _ h => nomatch h) (fun cw18 nw18 w18 hw18 pw18 => ?_)
            obtain ⟨rfl, rfl, kw18⟩ := pw18
            refine z_iconst hC (pc := 77) (v := 0) dX4_extend_77 (by decide) ?_
            refine z_istore hC (pc := 78) (lv' := [(7, .int 0), (0, .ref a0), (1, .ref a1), (2, .ref a2), (3, .int x3), (4, .int x4), (5, .int x5), (6, .int x9)]) dX4_extend_78 (by decide) rfl ?_
            have j80 : ∀ (d80 : Nat), ∀ (w20 : va_W), tW T w20 → tKeep 0x0 w18 w20 → ∀ (x21 : Int32), ¬ x21 < 0 → (2 ^ 31 - (x21 : Int32).toInt).toNat ≤ d80 → zS X G 8 w20 [(0, .ref a0), (1, .ref a1), (2, .ref a2), (3, .int x3), (4, .int x4), (5, .int x5), (7, .int x21)] 0 0 80 [] := by
              intro d80
              induction d80 with
              | zero => intro w20 hw20 kw20 x21 v22 hd80; exact (t_zero hd80).elim
              | succ d80 ih80 =>
                intro w20 hw20 kw20 x21 v22 hd80
                refine z_iload hC (pc := 80) 6 dX4_extend_80 rfl ?_
                refine z_aload_n hC (pc := 82) 0 dX4_extend_82 rfl rfl ?_
                refine u_get hC hw20 (pc := 83) zf4 1 (hE.o4 h0) rfl dX4_extend_83 zw208 (kk := fun va23 ta23 fa23 => ?_)
                obtain ⟨a23, ma23, rfl⟩ := ta23
                refine z_iload hC (pc := 86) 4 dX4_extend_86 rfl ?_
                refine t_callSNi hC hw20 (pc := 88) (As := [.ref a23, .int x4]) (kX12_get l G T κ hst hE ma23) trivial dmX12_get dX4_extend_88 zw992 rfl rfl (Nat.le_of_ble_eq_true rfl) (Nat.le_of_ble_eq_true rfl) (by omega) (by omega) (Nat.le_of_ble_eq_true rfl) (fun _ _ _ h => nomatch h) (fun x25 cw24 nw24 w24 hw24 pw24 => ?_)
                obtain ⟨rfl, rfl, kw24⟩ := pw24
                refine z_icmp_ge hC (pc := 91) 126 dX4_extend_91 (by decide) (fun c26 => ?_) (fun c26 => ?_)
                · exact hR _ _ _ _ _ dX4_extend_126 (Nat.le_of_ble_eq_true rfl) (Nat.le_of_ble_eq_true rfl) ⟨hw24, rfl, rfl, (tKeep.tr (tKeep.tr (tKeep.tr (tKeep.tr (tKeep.tr (tKeep.tr tKeep.rf kw8 rfl) kw10 rfl) kw16 rfl) kw18 rfl) kw20 rfl) kw24 rfl)⟩
                · refine z_aload_n hC (pc := 94) 0 dX4_extend_94 rfl rfl ?_
                  refine z_aload_n hC (pc := 95) 1 dX4_extend_95 rfl rfl ?_
                  refine z_aload_n hC (pc := 96) 2 dX4_extend_96 rfl rfl ?_
                  refine z_iload_n hC (pc := 97) 3 dX4_extend_97 rfl rfl ?_
                  refine z_aload_n hC (pc := 98) 0 dX4_extend_98 rfl rfl ?_
                  refine u_get hC hw24 (pc := 99) zf4 0 (hE.o4 h0) rfl dX4_extend_99 zw206 (kk := fun va27 ta27 fa27 => ?_)
                  obtain ⟨a27, ma27, rfl⟩ := ta27
                  refine z_bipush hC (pc := 102) (v := 8) dX4_extend_102 (by decide) ?_
                  refine z_iload hC (pc := 104) 4 dX4_extend_104 rfl ?_
                  refine z_imul hC (pc := 106) (v := ((8 : Int32) * x4)) dX4_extend_106 rfl ?_
                  refine z_iload hC (pc := 107) 6 dX4_extend_107 rfl ?_
                  refine z_iadd hC (pc := 109) (v := (((8 : Int32) * x4) + x21)) dX4_extend_109 rfl ?_
                  refine t_callSNi hC hw24 (pc := 110) (As := [.ref a27, .int (((8 : Int32) * x4) + x21)]) (kX12_get l G T κ hst hE ma27) trivial dmX12_get dX4_extend_110 zw992 rfl rfl (Nat.le_of_ble_eq_true rfl) (Nat.le_of_ble_eq_true rfl) (by omega) (by omega) (Nat.le_of_ble_eq_true rfl) (fun _ _ _ h => nomatch h) (fun x29 cw28 nw28 w28 hw28 pw28 => ?_)
                  obtain ⟨rfl, rfl, kw28⟩ := pw28
                  refine z_iload hC (pc := 113) 5 dX4_extend_113 rfl ?_
                  refine z_iconst hC (pc := 115) (v := 1) dX4_extend_115 (by decide) ?_
                  refine z_iadd hC (pc := 116) (v := (x5 + 1)) dX4_extend_116 rfl ?_
                  obtain ⟨q30, hqq30⟩ := hE.o4 h0
                  refine t_callVv hC hw28 (pc := 117) (As := [.ref a1, .ref a2, .int x3, .int x29, .int (x5 + 1)]) (qX4_extend ih a0 h0 a1 h1 a2 h2 x3 x29 (x5 + 1) (by have o1 := Int32.le_toInt x5; have o2 := Int32.toInt_lt x5; have o3 : (8 : Int32).toInt = 8 := (by decide); have o4 := t_fnl c14; have o5 : (1 : Int32).toInt = 1 := (by decide); have o6 := t_addO x5 1; exact ⟨by omega, by omega⟩) (by have o1 := Int32.le_toInt x5; have o2 := Int32.toInt_lt x5; have o3 : (8 : Int32).toInt = 8 := (by decide); have o4 := t_fnl c14; have o5 : (1 : Int32).toInt = 1 := (by decide); have o6 := t_addO x5 1; omega)) trivial dmX4_extend zf4 hqq30 dX4_extend_117 zw1659 rfl rfl (Nat.le_of_ble_eq_true rfl) (Nat.le_of_ble_eq_true rfl) (by omega) (by omega) (Nat.le_of_ble_eq_true rfl) (fun _ _ _ h => nomatch h) (fun cw31 nw31 w31 hw31 pw31 => ?_)
                  obtain ⟨rfl, rfl, kw31⟩ := pw31
                  refine z_iinc hC (pc := 120) (v := (x21 + 1)) (lv' := [(7, .int (x21 + 1)), (0, .ref a0), (1, .ref a1), (2, .ref a2), (3, .int x3), (4, .int x4), (5, .int x5)]) 6 dX4_extend_120 rfl (congrArg _ (by decide)) (by decide) rfl ?_
                  refine z_goto hC (pc := 123) 80 dX4_extend_123 (by decide) ?_
                  refine z_lvs [1, 2, 3, 4, 5, 6, 0] rfl ?_
                  exact ih80 w31 hw31 (tKeep.tr (tKeep.tr (tKeep.tr (tKeep.tr tKeep.rf kw20 rfl) kw24 rfl) kw28 rfl) kw31 rfl) (x21 + 1) (t_nnI v22 (Int32.not_le.mp c26)) (t_up (Int32.not_le.mp c26) hd80)
            refine z_lvs [1, 2, 3, 4, 5, 6, 0] rfl ?_
            exact j80 _ w18 hw18 tKeep.rf 0 (by decide) (Nat.le_refl _)
          · refine z_lvs [] rfl ?_
            exact j54
      · refine z_aload_n hC (pc := 17) 1 dX4_extend_17 rfl rfl ?_
        refine z_bipush hC (pc := 18) (v := 8) dX4_extend_18 (by decide) ?_
        refine z_iload_n hC (pc := 20) 3 dX4_extend_20 rfl rfl ?_
        refine z_imul hC (pc := 21) (v := ((8 : Int32) * x3)) dX4_extend_21 rfl ?_
        refine z_iload hC (pc := 22) 7 dX4_extend_22 rfl ?_
        refine z_iadd hC (pc := 24) (v := (((8 : Int32) * x3) + x11)) dX4_extend_24 rfl ?_
        refine t_callSNi hC hw10 (pc := 25) (As := [.ref a1, .int (((8 : Int32) * x3) + x11)]) (kX12_get l G T κ hst hE h1) trivial dmX12_get dX4_extend_25 zw992 rfl rfl (Nat.le_of_ble_eq_true rfl) (Nat.le_of_ble_eq_true rfl) (by omega) (by omega) (Nat.le_of_ble_eq_true rfl) (fun _ _ _ h => nomatch h) (fun x34 cw33 nw33 w33 hw33 pw33 => ?_)
        obtain ⟨rfl, rfl, kw33⟩ := pw33
        refine z_iload hC (pc := 28) 4 dX4_extend_28 rfl ?_
        refine z_icmp_ne hC (pc := 30) 34 dX4_extend_30 (by decide) (fun c35 => ?_) (fun c35 => ?_)
        · refine z_iinc hC (pc := 34) (v := (x11 + 1)) (lv' := [(7, .int (x11 + 1)), (0, .ref a0), (1, .ref a1), (2, .ref a2), (3, .int x3), (4, .int x4), (5, .int x5), (6, .int x9)]) 7 dX4_extend_34 rfl (congrArg _ (by decide)) (by decide) rfl ?_
          refine z_goto hC (pc := 37) 10 dX4_extend_37 (by decide) ?_
          refine z_lvs [1, 2, 3, 4, 5, 6, 7, 0] rfl ?_
          exact ih10 w33 hw33 (tKeep.tr (tKeep.tr tKeep.rf kw10 rfl) kw33 rfl) (x11 + 1) (t_nnI v12 (Int32.not_le.mp c13)) (t_up (Int32.not_le.mp c13) hd10)
        · exact hR _ _ _ _ _ dX4_extend_33 (Nat.le_of_ble_eq_true rfl) (Nat.le_of_ble_eq_true rfl) ⟨hw33, rfl, rfl, (tKeep.tr (tKeep.tr (tKeep.tr tKeep.rf kw8 rfl) kw10 rfl) kw33 rfl)⟩
  refine z_lvs [2, 3, 4, 5, 6, 7, 1, 0] rfl ?_
  exact j10 _ w8 hw8 tKeep.rf 0 (by decide) (Nat.le_refl _)
theorem r_ext (l : Launch) (G : zG) (T : tT) (κ : Nat → List Nat) (hst : l.stackTraces = false) (hE : tE G T κ) : ∀ n, Q_ext l G T κ n := by
  intro n
  induction n with
  | zero => exact (fun _ _ _ _ _ _ _ _ _ hd hm => absurd hm (by omega))
  | succ n ih => exact sX4_extend l G T κ hst hE n ih
theorem gX4_extend (l : Launch) (G : zG) (T : tT) (κ : Nat → List Nat) (hst : l.stackTraces = false) (hE : tE G T κ) (n : Nat) : QX4_extend l G T κ n := qX4_extend (r_ext l G T κ hst hE n)
set_option maxRecDepth 20000 in
theorem kX4_layWays (l : Launch) (G : zG) (T : tT) (κ : Nat → List Nat) (hst : l.stackTraces = false) (hE : tE G T κ) {a0 : Nat} (h0 : a0 ∈ κ 4) : tMv l G T yX4_layWays cX4_layWays 3 [] 341 21507 0 0 [.ref a0] uT (uPv 0x0) := by
  refine tMv.intro hst rfl (Nat.le_of_ble_eq_true rfl) ?_
  intro w0 hw0 _ X hC hR hO hX
  refine z_iconst hC (pc := 0) (v := 0) dX4_layWays_0 (by decide) ?_
  refine z_istore_n hC (pc := 1) (lv' := [(1, .int 0), (0, .ref a0)]) dX4_layWays_1 rfl (by decide) rfl ?_
  have j2 : ∀ (d2 : Nat), ∀ (w3 : va_W), tW T w3 → tKeep 0x0 w0 w3 → ∀ (x4 : Int32), ¬ x4 < 0 → (2 ^ 31 - (x4 : Int32).toInt).toNat ≤ d2 → zS X G 3 w3 [(0, .ref a0), (1, .int x4)] 0 0 2 [] := by
    intro d2
    induction d2 with
    | zero => intro w3 hw3 kw3 x4 v5 hd2; exact (t_zero hd2).elim
    | succ d2 ih2 =>
      intro w3 hw3 kw3 x4 v5 hd2
      refine z_iload_n hC (pc := 2) 1 dX4_layWays_2 rfl rfl ?_
      refine z_aload_n hC (pc := 3) 0 dX4_layWays_3 rfl rfl ?_
      refine u_get hC hw3 (pc := 4) zf4 5 (hE.o4 h0) rfl dX4_layWays_4 zw214 (kk := fun vx6 tx6 fx6 => ?_)
      obtain ⟨x6, rfl⟩ := tx6
      refine z_icmp_ge hC (pc := 7) 40 dX4_layWays_7 (by decide) (fun c7 => ?_) (fun c7 => ?_)
      · exact hR _ _ _ _ _ dX4_layWays_40 (Nat.le_of_ble_eq_true rfl) (Nat.le_of_ble_eq_true rfl) ⟨hw3, rfl, rfl, (tKeep.tr tKeep.rf kw3 rfl)⟩
      · refine z_aload_n hC (pc := 10) 0 dX4_layWays_10 rfl rfl ?_
        refine u_get hC hw3 (pc := 11) zf4 4 (hE.o4 h0) rfl dX4_layWays_11 zw212 (kk := fun va8 ta8 fa8 => ?_)
        obtain ⟨a8, ma8, rfl⟩ := ta8
        refine z_iload_n hC (pc := 14) 1 dX4_layWays_14 rfl rfl ?_
        refine t_callSNi hC hw3 (pc := 15) (As := [.ref a8, .int x4]) (kX12_get l G T κ hst hE ma8) trivial dmX12_get dX4_layWays_15 zw992 rfl rfl (Nat.le_of_ble_eq_true rfl) (Nat.le_of_ble_eq_true rfl) (Nat.le_of_ble_eq_true rfl) (Nat.le_of_ble_eq_true rfl) (Nat.le_of_ble_eq_true rfl) (fun _ _ _ h => nomatch h) (fun x10 cw9 nw9 w9 hw9 pw9 => ?_)
        obtain ⟨rfl, rfl, kw9⟩ := pw9
        refine z_istore_n hC (pc := 18) (lv' := [(2, .int x10), (0, .ref a0), (1, .int x4)]) dX4_layWays_18 rfl (by decide) rfl ?_
        refine z_aload_n hC (pc := 19) 1 dX4_layWays_19 rfl rfl ?_
        refine z_aload_n hC (pc := 20) 1 dX4_layWays_20 rfl rfl ?_
        refine u_get hC hw9 (pc := 21) zf4 2 (hE.o4 h0) rfl dX4_layWays_21 zw210 (kk := fun va11 ta11 fa11 => ?_)
        obtain ⟨a11, ma11, rfl⟩ := ta11
        refine z_aload_n hC (pc := 24) 1 dX4_layWays_24 rfl rfl ?_
        refine u_get hC hw9 (pc := 25) zf4 3 (hE.o4 h0) rfl dX4_layWays_25 zw211 (kk := fun va12 ta12 fa12 => ?_)
        obtain ⟨a12, ma12, rfl⟩ := ta12
        refine z_iload_n hC (pc := 28) 0 dX4_layWays_28 rfl rfl ?_
        refine z_iload_n hC (pc := 29) 0 dX4_layWays_29 rfl rfl ?_
        refine z_iconst hC (pc := 30) (v := 0) dX4_layWays_30 (by decide) ?_
        obtain ⟨q13, hqq13⟩ := hE.o4 h0
        refine t_callVv hC hw9 (pc := 31) (As := [.ref a11, .ref a12, .int x10, .int x10, .int 0]) (gX4_extend l G T κ hst hE 320 a0 h0 a11 ma11 a12 ma12 x10 x10 (0 : Int32) (by have o1 : (0 : Int32).toInt = 0 := (by decide); exact ⟨by omega, by omega⟩) (by have o1 : (0 : Int32).toInt = 0 := (by decide); omega)) trivial dmX4_extend zf4 hqq13 dX4_layWays_31 zw1659 rfl rfl (Nat.le_of_ble_eq_true rfl) (Nat.le_of_ble_eq_true rfl) (Nat.le_of_ble_eq_true rfl) (Nat.le_of_ble_eq_true rfl) (Nat.le_of_ble_eq_true rfl) (fun _ _ _ h => nomatch h) (fun cw14 nw14 w14 hw14 pw14 => ?_)
        obtain ⟨rfl, rfl, kw14⟩ := pw14
        refine z_iinc hC (pc := 34) (v := (x4 + 1)) (lv' := [(1, .int (x4 + 1)), (2, .int x10), (0, .ref a0)]) 2 dX4_layWays_34 rfl (congrArg _ (by decide)) (by decide) rfl ?_
        refine z_goto hC (pc := 37) 2 dX4_layWays_37 (by decide) ?_
        refine z_lvs [2, 0] rfl ?_
        exact ih2 w14 hw14 (tKeep.tr (tKeep.tr (tKeep.tr tKeep.rf kw3 rfl) kw9 rfl) kw14 rfl) (x4 + 1) (t_nnI v5 (Int32.not_le.mp c7)) (t_up (Int32.not_le.mp c7) hd2)
  refine z_lvs [1, 0] rfl ?_
  exact j2 _ w0 hw0 tKeep.rf 0 (by decide) (Nat.le_refl _)
set_option maxRecDepth 20000 in
theorem kX4_wayLength (l : Launch) (G : zG) (T : tT) (κ : Nat → List Nat) (hst : l.stackTraces = false) (hE : tE G T κ) {a0 : Nat} (h0 : a0 ∈ κ 4) {x1 : Int32} : tMi l G T yX4_wayLength cX4_wayLength 2 .int [] 1 21 0 0 [.ref a0, .int x1] uT (uPi 0x0) := by
  refine tMi.intro hst rfl (Nat.le_of_ble_eq_true rfl) ?_
  intro w0 hw0 _ X hC hR hO hX
  refine z_aload_n hC (pc := 0) 0 dX4_wayLength_0 rfl rfl ?_
  refine u_get hC hw0 (pc := 1) zf4 3 (hE.o4 h0) rfl dX4_wayLength_1 zw211 (kk := fun va4 ta4 fa4 => ?_)
  obtain ⟨a4, ma4, rfl⟩ := ta4
  refine z_iload_n hC (pc := 4) 1 dX4_wayLength_4 rfl rfl ?_
  refine t_callSNi hC hw0 (pc := 5) (As := [.ref a4, .int x1]) (kX12_get l G T κ hst hE ma4) trivial dmX12_get dX4_wayLength_5 zw992 rfl rfl (Nat.le_of_ble_eq_true rfl) (Nat.le_of_ble_eq_true rfl) (Nat.le_of_ble_eq_true rfl) (Nat.le_of_ble_eq_true rfl) (Nat.le_of_ble_eq_true rfl) (fun _ _ _ h => nomatch h) (fun x6 cw5 nw5 w5 hw5 pw5 => ?_)
  obtain ⟨rfl, rfl, kw5⟩ := pw5
  exact hR _ _ _ _ _ _ dX4_wayLength_8 rfl (Nat.le_of_ble_eq_true rfl) (Nat.le_of_ble_eq_true rfl) ⟨hw5, rfl, rfl, (tKeep.tr tKeep.rf kw5 rfl)⟩
set_option maxRecDepth 20000 in
theorem kX4_way (l : Launch) (G : zG) (T : tT) (κ : Nat → List Nat) (hst : l.stackTraces = false) (hE : tE G T κ) {a0 : Nat} (h0 : a0 ∈ κ 4) {x1 : Int32} {x2 : Int32} : tMi l G T yX4_way cX4_way 3 .int [] 1 21 0 0 [.ref a0, .int x1, .int x2] uT (uPi 0x0) := by
  refine tMi.intro hst rfl (Nat.le_of_ble_eq_true rfl) ?_
  intro w0 hw0 _ X hC hR hO hX
  refine z_aload_n hC (pc := 0) 0 dX4_way_0 rfl rfl ?_
  refine u_get hC hw0 (pc := 1) zf4 2 (hE.o4 h0) rfl dX4_way_1 zw210 (kk := fun va5 ta5 fa5 => ?_)
  obtain ⟨a5, ma5, rfl⟩ := ta5
  refine z_bipush hC (pc := 4) (v := 8) dX4_way_4 (by decide) ?_
  refine z_iload_n hC (pc := 6) 1 dX4_way_6 rfl rfl ?_
  refine z_imul hC (pc := 7) (v := ((8 : Int32) * x1)) dX4_way_7 rfl ?_
  refine z_iload_n hC (pc := 8) 2 dX4_way_8 rfl rfl ?_
  refine z_iadd hC (pc := 9) (v := (((8 : Int32) * x1) + x2)) dX4_way_9 rfl ?_
  refine t_callSNi hC hw0 (pc := 10) (As := [.ref a5, .int (((8 : Int32) * x1) + x2)]) (kX12_get l G T κ hst hE ma5) trivial dmX12_get dX4_way_10 zw992 rfl rfl (Nat.le_of_ble_eq_true rfl) (Nat.le_of_ble_eq_true rfl) (Nat.le_of_ble_eq_true rfl) (Nat.le_of_ble_eq_true rfl) (Nat.le_of_ble_eq_true rfl) (fun _ _ _ h => nomatch h) (fun x7 cw6 nw6 w6 hw6 pw6 => ?_)
  obtain ⟨rfl, rfl, kw6⟩ := pw6
  exact hR _ _ _ _ _ _ dX4_way_13 rfl (Nat.le_of_ble_eq_true rfl) (Nat.le_of_ble_eq_true rfl) ⟨hw6, rfl, rfl, (tKeep.tr tKeep.rf kw6 rfl)⟩
set_option maxRecDepth 20000 in
theorem kX0_nameFile (l : Launch) (G : zG) (T : tT) (κ : Nat → List Nat) (hst : l.stackTraces = false) (hE : tE G T κ) {a0 : Nat} (h0 : a0 ∈ κ 0) {x1 : Int32} : tMv l G T yX0_nameFile cX0_nameFile 6 [] 1 22 0 0 [.ref a0, .int x1] uT (uPv 0x1000000000000000000000000000000000000) := by
  refine tMv.intro hst rfl (Nat.le_of_ble_eq_true rfl) ?_
  intro w0 hw0 _ X hC hR hO hX
  refine z_iconst hC (pc := 0) (v := 0) dX0_nameFile_0 (by decide) ?_
  refine z_istore_n hC (pc := 1) (lv' := [(2, .int 0), (0, .ref a0), (1, .int x1)]) dX0_nameFile_1 rfl (by decide) rfl ?_
  have j2 : ∀ (d2 : Nat), ∀ (w4 : va_W), tW T w4 → tKeep 0x1000000000000000000000000000000000000 w0 w4 → ∀ (x5 : Int32), ¬ x5 < 0 → (2 ^ 31 - (x5 : Int32).toInt).toNat ≤ d2 → zS X G 6 w4 [(0, .ref a0), (1, .int x1), (2, .int x5)] 0 0 2 [] := by
    intro d2
    induction d2 with
    | zero => intro w4 hw4 kw4 x5 v6 hd2; exact (t_zero hd2).elim
    | succ d2 ih2 =>
      intro w4 hw4 kw4 x5 v6 hd2
      refine z_iload_n hC (pc := 2) 2 dX0_nameFile_2 rfl rfl ?_
      refine z_aload_n hC (pc := 3) 0 dX0_nameFile_3 rfl rfl ?_
      refine u_get hC hw4 (pc := 4) zf0 1 (hE.o0 h0) rfl dX0_nameFile_4 zw449 (kk := fun va7 ta7 fa7 => ?_)
      obtain ⟨a7, ma7, rfl⟩ := ta7
      refine u_get hC hw4 (pc := 7) zf2 8 (hE.o2 ma7) rfl dX0_nameFile_7 zw261 (kk := fun vx8 tx8 fx8 => ?_)
      obtain ⟨x8, rfl⟩ := tx8
      refine z_icmp_ge hC (pc := 10) 176 dX0_nameFile_10 (by decide) (fun c9 => ?_) (fun c9 => ?_)
      · exact hR _ _ _ _ _ dX0_nameFile_176 (Nat.le_of_ble_eq_true rfl) (Nat.le_of_ble_eq_true rfl) ⟨hw4, rfl, rfl, (tKeep.tr tKeep.rf kw4 rfl)⟩
      · refine z_iload_n hC (pc := 13) 2 dX0_nameFile_13 rfl rfl ?_
        refine z_bipush hC (pc := 14) (v := 7) dX0_nameFile_14 (by decide) ?_
        refine z_imul hC (pc := 16) (v := (x5 * 7)) dX0_nameFile_16 rfl ?_
        refine z_istore_n hC (pc := 17) (lv' := [(3, .int (x5 * 7)), (0, .ref a0), (1, .int x1), (2, .int x5)]) dX0_nameFile_17 rfl (by decide) rfl ?_
        refine z_aload_n hC (pc := 18) 1 dX0_nameFile_18 rfl rfl ?_
        refine u_getK hC (pc := 19) zf0 1 fa7 dX0_nameFile_19 zw449 (kk := ?_)
        refine u_get hC hw4 (pc := 22) zf2 7 (hE.o2 ma7) rfl dX0_nameFile_22 zw257 (kk := fun va10 ta10 fa10 => ?_)
        obtain ⟨a10, ma10, rfl⟩ := ta10
        refine z_iload_n hC (pc := 25) 0 dX0_nameFile_25 rfl rfl ?_
        refine t_callSNi hC hw4 (pc := 26) (As := [.ref a10, .int (x5 * 7)]) (kX12_get l G T κ hst hE ma10) trivial dmX12_get dX0_nameFile_26 zw1668 rfl rfl (Nat.le_of_ble_eq_true rfl) (Nat.le_of_ble_eq_true rfl) (Nat.le_of_ble_eq_true rfl) (Nat.le_of_ble_eq_true rfl) (Nat.le_of_ble_eq_true rfl) (fun _ _ _ h => nomatch h) (fun x12 cw11 nw11 w11 hw11 pw11 => ?_)
        obtain ⟨rfl, rfl, kw11⟩ := pw11
        refine z_istore hC (pc := 29) (lv' := [(4, .int x12), (3, .int (x5 * 7)), (0, .ref a0), (1, .int x1), (2, .int x5)]) dX0_nameFile_29 (by decide) rfl ?_
        refine z_aload_n hC (pc := 31) 2 dX0_nameFile_31 rfl rfl ?_
        refine u_getK hC (pc := 32) zf0 1 (tKeep.F kw11 fa7 rfl) dX0_nameFile_32 zw449 (kk := ?_)
        refine u_getK hC (pc := 35) zf2 7 (tKeep.F kw11 fa10 rfl) dX0_nameFile_35 zw257 (kk := ?_)
        refine z_iload_n hC (pc := 38) 1 dX0_nameFile_38 rfl rfl ?_
        refine z_iconst hC (pc := 39) (v := 2) dX0_nameFile_39 (by decide) ?_
        refine z_iadd hC (pc := 40) (v := ((x5 * 7) + 2)) dX0_nameFile_40 rfl ?_
        refine t_callSNi hC hw11 (pc := 41) (As := [.ref a10, .int ((x5 * 7) + 2)]) (kX12_get l G T κ hst hE ma10) trivial dmX12_get dX0_nameFile_41 zw1668 rfl rfl (Nat.le_of_ble_eq_true rfl) (Nat.le_of_ble_eq_true rfl) (Nat.le_of_ble_eq_true rfl) (Nat.le_of_ble_eq_true rfl) (Nat.le_of_ble_eq_true rfl) (fun _ _ _ h => nomatch h) (fun x14 cw13 nw13 w13 hw13 pw13 => ?_)
        obtain ⟨rfl, rfl, kw13⟩ := pw13
        refine z_istore hC (pc := 44) (lv' := [(5, .int x14), (4, .int x12), (3, .int (x5 * 7)), (0, .ref a0), (1, .int x1), (2, .int x5)]) dX0_nameFile_44 (by decide) rfl ?_
        refine z_aload_n hC (pc := 46) 3 dX0_nameFile_46 rfl rfl ?_
        refine u_getK hC (pc := 47) zf0 1 (tKeep.F kw13 (tKeep.F kw11 fa7 rfl) rfl) dX0_nameFile_47 zw449 (kk := ?_)
        refine u_getK hC (pc := 50) zf2 7 (tKeep.F kw13 (tKeep.F kw11 fa10 rfl) rfl) dX0_nameFile_50 zw257 (kk := ?_)
        refine z_iload_n hC (pc := 53) 2 dX0_nameFile_53 rfl rfl ?_
        refine z_iconst hC (pc := 54) (v := 1) dX0_nameFile_54 (by decide) ?_
        refine z_iadd hC (pc := 55) (v := ((x5 * 7) + 1)) dX0_nameFile_55 rfl ?_
        refine t_callSNi hC hw13 (pc := 56) (As := [.ref a10, .int ((x5 * 7) + 1)]) (kX12_get l G T κ hst hE ma10) trivial dmX12_get dX0_nameFile_56 zw1668 rfl rfl (Nat.le_of_ble_eq_true rfl) (Nat.le_of_ble_eq_true rfl) (Nat.le_of_ble_eq_true rfl) (Nat.le_of_ble_eq_true rfl) (Nat.le_of_ble_eq_true rfl) (fun _ _ _ h => nomatch h) (fun x16 cw15 nw15 w15 hw15 pw15 => ?_)
        obtain ⟨rfl, rfl, kw15⟩ := pw15
        refine z_iload_n hC (pc := 59) 4 dX0_nameFile_59 rfl rfl ?_
        have j170 : ∀ (w17 : va_W), tW T w17 → tKeep 0x1000000000000000000000000000000000000 w15 w17 → zS X G 6 w17 [(0, .ref a0), (1, .int x1), (2, .int x5)] 0 0 170 [] := by
          intro w17 hw17 kw17
          refine z_iinc hC (pc := 170) (v := (x5 + 1)) (lv' := [(2, .int (x5 + 1)), (0, .ref a0), (1, .int x1)]) 2 dX0_nameFile_170 rfl (congrArg _ (by decide)) (by decide) rfl ?_
          refine z_goto hC (pc := 173) 2 dX0_nameFile_173 (by decide) ?_
          refine z_lvs [1, 2, 0] rfl ?_
          exact ih2 w17 hw17 (tKeep.tr (tKeep.tr (tKeep.tr (tKeep.tr (tKeep.tr tKeep.rf kw4 rfl) kw11 rfl) kw13 rfl) kw15 rfl) kw17 rfl) (x5 + 1) (t_nnI v6 (Int32.not_le.mp c9)) (t_up (Int32.not_le.mp c9) hd2)
        refine z_icmp_ne hC (pc := 60) 170 dX0_nameFile_60 (by decide) (fun c18 => ?_) (fun c18 => ?_)
        · refine z_lvs [3, 4, 5] rfl ?_
          exact j170 w15 hw15 tKeep.rf
        · refine z_iload hC (pc := 63) 1 dX0_nameFile_63 rfl ?_
          refine z_iconst hC (pc := 65) (v := 3) dX0_nameFile_65 (by decide) ?_
          refine z_icmp_ne hC (pc := 66) 72 dX0_nameFile_66 (by decide) (fun c19 => ?_) (fun c19 => ?_)
          · refine z_iload hC (pc := 72) 1 dX0_nameFile_72 rfl ?_
            refine z_iconst hC (pc := 74) (v := 2) dX0_nameFile_74 (by decide) ?_
            have j122 : ∀ (w20 : va_W), tW T w20 → tKeep 0x0 w15 w20 → zS X G 6 w20 [(0, .ref a0), (1, .int x1), (2, .int x5), (3, .int (x5 * 7)), (4, .int x12), (5, .int x14)] 0 0 122 [] := by
              intro w20 hw20 kw20
              refine z_iload hC (pc := 122) 4 dX0_nameFile_122 rfl ?_
              refine z_iconst hC (pc := 124) (v := 2) dX0_nameFile_124 (by decide) ?_
              refine z_icmp_eq hC (pc := 125) 170 dX0_nameFile_125 (by decide) (fun c21 => ?_) (fun c21 => ?_)
              · refine z_lvs [0, 1, 2] rfl ?_
                exact j170 w20 hw20 (tKeep.tr tKeep.rf kw20 rfl)
              · refine z_aload_n hC (pc := 128) 0 dX0_nameFile_128 rfl rfl ?_
                refine u_getK hC (pc := 129) zf0 1 (tKeep.F kw20 (tKeep.F kw15 (tKeep.F kw13 (tKeep.F kw11 fa7 rfl) rfl) rfl) rfl) dX0_nameFile_129 zw449 (kk := ?_)
                refine u_get hC hw20 (pc := 132) zf2 14 (hE.o2 ma7) rfl dX0_nameFile_132 zw275 (kk := fun va22 ta22 fa22 => ?_)
                obtain ⟨a22, ma22, rfl⟩ := ta22
                refine z_iload hC (pc := 135) 5 dX0_nameFile_135 rfl ?_
                refine t_callSNi hC hw20 (pc := 137) (As := [.ref a22, .int x14]) (kX12_get l G T κ hst hE ma22) trivial dmX12_get dX0_nameFile_137 zw1668 rfl rfl (Nat.le_of_ble_eq_true rfl) (Nat.le_of_ble_eq_true rfl) (Nat.le_of_ble_eq_true rfl) (Nat.le_of_ble_eq_true rfl) (Nat.le_of_ble_eq_true rfl) (fun _ _ _ h => nomatch h) (fun x24 cw23 nw23 w23 hw23 pw23 => ?_)
                obtain ⟨rfl, rfl, kw23⟩ := pw23
                refine z_iconst hC (pc := 140) (v := (-1)) dX0_nameFile_140 (by decide) ?_
                refine z_icmp_ne hC (pc := 141) 170 dX0_nameFile_141 (by decide) (fun c25 => ?_) (fun c25 => ?_)
                · refine z_lvs [0, 1, 2] rfl ?_
                  exact j170 w23 hw23 (tKeep.tr (tKeep.tr tKeep.rf kw20 rfl) kw23 rfl)
                · refine z_aload_n hC (pc := 144) 0 dX0_nameFile_144 rfl rfl ?_
                  refine u_getK hC (pc := 145) zf0 1 (tKeep.F kw23 (tKeep.F kw20 (tKeep.F kw15 (tKeep.F kw13 (tKeep.F kw11 fa7 rfl) rfl) rfl) rfl) rfl) dX0_nameFile_145 zw449 (kk := ?_)
                  refine u_getK hC (pc := 148) zf2 14 (tKeep.F kw23 fa22 rfl) dX0_nameFile_148 zw275 (kk := ?_)
                  refine z_iload hC (pc := 151) 5 dX0_nameFile_151 rfl ?_
                  refine z_iload_n hC (pc := 153) 3 dX0_nameFile_153 rfl rfl ?_
                  refine t_callSNv hC hw23 (pc := 154) (As := [.ref a22, .int x14, .int (x5 * 7)]) (kX12_set l G T κ hst hE ma22) trivial dmX12_set dX0_nameFile_154 zw1667 rfl rfl (Nat.le_of_ble_eq_true rfl) (Nat.le_of_ble_eq_true rfl) (Nat.le_of_ble_eq_true rfl) (Nat.le_of_ble_eq_true rfl) (Nat.le_of_ble_eq_true rfl) (fun _ _ _ h => nomatch h) (fun cw26 nw26 w26 hw26 pw26 => ?_)
                  obtain ⟨rfl, rfl, kw26⟩ := pw26
                  refine z_aload_n hC (pc := 157) 0 dX0_nameFile_157 rfl rfl ?_
                  refine u_getK hC (pc := 158) zf0 1 (tKeep.F kw26 (tKeep.F kw23 (tKeep.F kw20 (tKeep.F kw15 (tKeep.F kw13 (tKeep.F kw11 fa7 rfl) rfl) rfl) rfl) rfl) rfl) dX0_nameFile_158 zw449 (kk := ?_)
                  refine z_dup hC (pc := 161) dX0_nameFile_161 rfl ?_
                  refine u_get hC hw26 (pc := 162) zf2 16 (hE.o2 ma7) rfl dX0_nameFile_162 zw280 (kk := fun vx28 tx28 fx28 => ?_)
                  obtain ⟨x28, rfl⟩ := tx28
                  refine z_iconst hC (pc := 165) (v := 1) dX0_nameFile_165 (by decide) ?_
                  refine z_iadd hC (pc := 166) (v := (x28 + 1)) dX0_nameFile_166 rfl ?_
                  refine u_put hC hw26 (pc := 167) zf2 16 (hE.o2 ma7) rfl ⟨_, rfl⟩ dX0_nameFile_167 zw280 rfl rfl rfl (kk := fun w29 hw29 fw29 kw29 => ?_)
                  refine z_lvs [0, 1, 2] rfl ?_
                  exact j170 w29 hw29 (tKeep.tr (tKeep.tr (tKeep.tr (tKeep.tr tKeep.rf kw20 rfl) kw23 rfl) kw26 rfl) kw29 rfl)
            refine z_icmp_ne hC (pc := 75) 122 dX0_nameFile_75 (by decide) (fun c30 => ?_) (fun c30 => ?_)
            · refine z_lvs [3, 4, 5, 2, 1, 0] rfl ?_
              exact j122 w15 hw15 tKeep.rf
            · refine z_aload_n hC (pc := 78) 3 dX0_nameFile_78 rfl rfl ?_
              refine u_getK hC (pc := 79) zf0 1 (tKeep.F kw15 (tKeep.F kw13 (tKeep.F kw11 fa7 rfl) rfl) rfl) dX0_nameFile_79 zw449 (kk := ?_)
              refine u_get hC hw15 (pc := 82) zf2 15 (hE.o2 ma7) rfl dX0_nameFile_82 zw277 (kk := fun va31 ta31 fa31 => ?_)
              obtain ⟨a31, ma31, rfl⟩ := ta31
              refine z_iload hC (pc := 85) 0 dX0_nameFile_85 rfl ?_
              refine t_callSNi hC hw15 (pc := 87) (As := [.ref a31, .int x14]) (kX12_get l G T κ hst hE ma31) trivial dmX12_get dX0_nameFile_87 zw1668 rfl rfl (Nat.le_of_ble_eq_true rfl) (Nat.le_of_ble_eq_true rfl) (Nat.le_of_ble_eq_true rfl) (Nat.le_of_ble_eq_true rfl) (Nat.le_of_ble_eq_true rfl) (fun _ _ _ h => nomatch h) (fun x33 cw32 nw32 w32 hw32 pw32 => ?_)
              obtain ⟨rfl, rfl, kw32⟩ := pw32
              refine z_iconst hC (pc := 90) (v := (-1)) dX0_nameFile_90 (by decide) ?_
              refine z_icmp_ne hC (pc := 91) 122 dX0_nameFile_91 (by decide) (fun c34 => ?_) (fun c34 => ?_)
              · refine z_lvs [3, 4, 5, 2, 1, 0] rfl ?_
                exact j122 w32 hw32 (tKeep.tr tKeep.rf kw32 rfl)
              · refine z_aload_n hC (pc := 94) 3 dX0_nameFile_94 rfl rfl ?_
                refine u_getK hC (pc := 95) zf0 1 (tKeep.F kw32 (tKeep.F kw15 (tKeep.F kw13 (tKeep.F kw11 fa7 rfl) rfl) rfl) rfl) dX0_nameFile_95 zw449 (kk := ?_)
                refine u_getK hC (pc := 98) zf2 15 (tKeep.F kw32 fa31 rfl) dX0_nameFile_98 zw277 (kk := ?_)
                refine z_iload hC (pc := 101) 0 dX0_nameFile_101 rfl ?_
                refine z_aload_n hC (pc := 103) 3 dX0_nameFile_103 rfl rfl ?_
                refine u_getK hC (pc := 104) zf0 1 (tKeep.F kw32 (tKeep.F kw15 (tKeep.F kw13 (tKeep.F kw11 fa7 rfl) rfl) rfl) rfl) dX0_nameFile_104 zw449 (kk := ?_)
                refine u_getK hC (pc := 107) zf2 7 (tKeep.F kw32 (tKeep.F kw15 (tKeep.F kw13 (tKeep.F kw11 fa10 rfl) rfl) rfl) rfl) dX0_nameFile_107 zw257 (kk := ?_)
                refine z_iload_n hC (pc := 110) 2 dX0_nameFile_110 rfl rfl ?_
                refine z_iconst hC (pc := 111) (v := 4) dX0_nameFile_111 (by decide) ?_
                refine z_iadd hC (pc := 112) (v := ((x5 * 7) + 4)) dX0_nameFile_112 rfl ?_
                refine t_callSNi hC hw32 (pc := 113) (As := [.ref a10, .int ((x5 * 7) + 4)]) (kX12_get l G T κ hst hE ma10) trivial dmX12_get dX0_nameFile_113 zw1668 rfl rfl (Nat.le_of_ble_eq_true rfl) (Nat.le_of_ble_eq_true rfl) (Nat.le_of_ble_eq_true rfl) (Nat.le_of_ble_eq_true rfl) (Nat.le_of_ble_eq_true rfl) (fun _ _ _ h => nomatch h) (fun x36 cw35 nw35 w35 hw35 pw35 => ?_)
                obtain ⟨rfl, rfl, kw35⟩ := pw35
                refine t_callSNv hC hw35 (pc := 116) (As := [.ref a31, .int x14, .int x36]) (kX12_set l G T κ hst hE ma31) trivial dmX12_set dX0_nameFile_116 zw1667 rfl rfl (Nat.le_of_ble_eq_true rfl) (Nat.le_of_ble_eq_true rfl) (Nat.le_of_ble_eq_true rfl) (Nat.le_of_ble_eq_true rfl) (Nat.le_of_ble_eq_true rfl) (fun _ _ _ h => nomatch h) (fun cw37 nw37 w37 hw37 pw37 => ?_)
                obtain ⟨rfl, rfl, kw37⟩ := pw37
                refine z_goto hC (pc := 119) 170 dX0_nameFile_119 (by decide) ?_
                refine z_lvs [3, 4, 5] rfl ?_
                exact j170 w37 hw37 (tKeep.tr (tKeep.tr (tKeep.tr tKeep.rf kw32 rfl) kw35 rfl) kw37 rfl)
          · refine z_goto hC (pc := 69) 170 dX0_nameFile_69 (by decide) ?_
            refine z_lvs [3, 4, 5] rfl ?_
            exact j170 w15 hw15 tKeep.rf
  refine z_lvs [1, 2, 0] rfl ?_
  exact j2 _ w0 hw0 tKeep.rf 0 (by decide) (Nat.le_refl _)
set_option maxRecDepth 20000 in
theorem kX0_nameAll (l : Launch) (G : zG) (T : tT) (κ : Nat → List Nat) (hst : l.stackTraces = false) (hE : tE G T κ) {a0 : Nat} (h0 : a0 ∈ κ 0) : tMv l G T yX0_nameAll cX0_nameAll 3 [] 2 47 0 0 [.ref a0] uT (uPv 0x1000000000000000000000000000000000000) := by
  refine tMv.intro hst rfl (Nat.le_of_ble_eq_true rfl) ?_
  intro w0 hw0 _ X hC hR hO hX
  refine z_iconst hC (pc := 0) (v := 0) dX0_nameAll_0 (by decide) ?_
  refine z_istore_n hC (pc := 1) (lv' := [(1, .int 0), (0, .ref a0)]) dX0_nameAll_1 rfl (by decide) rfl ?_
  have j2 : ∀ (d2 : Nat), ∀ (w3 : va_W), tW T w3 → tKeep 0x0 w0 w3 → ∀ (x4 : Int32), ¬ x4 < 0 → (2 ^ 31 - (x4 : Int32).toInt).toNat ≤ d2 → zS X G 3 w3 [(0, .ref a0), (1, .int x4)] 0 0 2 [] := by
    intro d2
    induction d2 with
    | zero => intro w3 hw3 kw3 x4 v5 hd2; exact (t_zero hd2).elim
    | succ d2 ih2 =>
      intro w3 hw3 kw3 x4 v5 hd2
      refine z_iload_n hC (pc := 2) 1 dX0_nameAll_2 rfl rfl ?_
      refine z_aload_n hC (pc := 3) 0 dX0_nameAll_3 rfl rfl ?_
      refine u_get hC hw3 (pc := 4) zf0 1 (hE.o0 h0) rfl dX0_nameAll_4 zw449 (kk := fun va6 ta6 fa6 => ?_)
      obtain ⟨a6, ma6, rfl⟩ := ta6
      refine u_get hC hw3 (pc := 7) zf2 0 (hE.o2 ma6) rfl dX0_nameAll_7 zw231 (kk := fun va7 ta7 fa7 => ?_)
      obtain ⟨a7, ma7, rfl⟩ := ta7
      refine u_get hC hw3 (pc := 10) zf6 4 (hE.o6 ma7) rfl dX0_nameAll_10 zw185 (kk := fun vx8 tx8 fx8 => ?_)
      obtain ⟨x8, rfl⟩ := tx8
      refine z_icmp_ge hC (pc := 13) 46 dX0_nameAll_13 (by decide) (fun c9 => ?_) (fun c9 => ?_)
      · refine z_aload_n hC (pc := 46) 0 dX0_nameAll_46 rfl rfl ?_
        refine u_getK hC (pc := 47) zf0 1 fa6 dX0_nameAll_47 zw449 (kk := ?_)
        refine z_iconst hC (pc := 50) (v := 0) dX0_nameAll_50 (by decide) ?_
        refine u_put hC hw3 (pc := 51) zf2 16 (hE.o2 ma6) rfl ⟨_, rfl⟩ dX0_nameAll_51 zw280 rfl rfl rfl (kk := fun w10 hw10 fw10 kw10 => ?_)
        refine z_aload_n hC (pc := 54) 0 dX0_nameAll_54 rfl rfl ?_
        refine u_getK hC (pc := 55) zf0 1 (tKeep.F kw10 fa6 rfl) dX0_nameAll_55 zw449 (kk := ?_)
        refine u_get hC hw10 (pc := 58) zf2 1 (hE.o2 ma6) rfl dX0_nameAll_58 zw237 (kk := fun va11 ta11 fa11 => ?_)
        obtain ⟨a11, ma11, rfl⟩ := ta11
        refine u_get hC hw10 (pc := 61) zf4 4 (hE.o4 ma11) rfl dX0_nameAll_61 zw213 (kk := fun va12 ta12 fa12 => ?_)
        obtain ⟨a12, ma12, rfl⟩ := ta12
        refine z_iconst hC (pc := 64) (v := 0) dX0_nameAll_64 (by decide) ?_
        refine t_callSNi hC hw10 (pc := 65) (As := [.ref a12, .int 0]) (kX12_get l G T κ hst hE ma12) trivial dmX12_get dX0_nameAll_65 zw1668 rfl rfl (Nat.le_of_ble_eq_true rfl) (Nat.le_of_ble_eq_true rfl) (Nat.le_of_ble_eq_true rfl) (Nat.le_of_ble_eq_true rfl) (Nat.le_of_ble_eq_true rfl) (fun _ _ _ h => nomatch h) (fun x14 cw13 nw13 w13 hw13 pw13 => ?_)
        obtain ⟨rfl, rfl, kw13⟩ := pw13
        refine z_istore_n hC (pc := 68) (lv' := [(1, .int x14), (0, .ref a0)]) dX0_nameAll_68 rfl (by decide) rfl ?_
        refine z_iconst hC (pc := 69) (v := 0) dX0_nameAll_69 (by decide) ?_
        refine z_istore_n hC (pc := 70) (lv' := [(2, .int 0), (1, .int x14), (0, .ref a0)]) dX0_nameAll_70 rfl (by decide) rfl ?_
        have j71 : ∀ (d71 : Nat), ∀ (w15 : va_W), tW T w15 → tKeep 0x1000000000000000000000000000000000000 w13 w15 → ∀ (x16 : Int32), ¬ x16 < 0 → (2 ^ 31 - (x16 : Int32).toInt).toNat ≤ d71 → zS X G 3 w15 [(0, .ref a0), (1, .int x14), (2, .int x16)] 0 0 71 [] := by
          intro d71
          induction d71 with
          | zero => intro w15 hw15 kw15 x16 v17 hd71; exact (t_zero hd71).elim
          | succ d71 ih71 =>
            intro w15 hw15 kw15 x16 v17 hd71
            refine z_iload_n hC (pc := 71) 2 dX0_nameAll_71 rfl rfl ?_
            refine z_aload_n hC (pc := 72) 0 dX0_nameAll_72 rfl rfl ?_
            refine u_getK hC (pc := 73) zf0 1 (tKeep.F kw15 (tKeep.F kw13 (tKeep.F kw10 fa6 rfl) rfl) rfl) dX0_nameAll_73 zw449 (kk := ?_)
            refine u_getK hC (pc := 76) zf2 1 (tKeep.F kw15 (tKeep.F kw13 fa11 rfl) rfl) dX0_nameAll_76 zw237 (kk := ?_)
            refine z_iload_n hC (pc := 79) 1 dX0_nameAll_79 rfl rfl ?_
            obtain ⟨q18, hqq18⟩ := hE.o4 ma11
            refine t_callVi hC hw15 (pc := 80) (As := [.int x14]) (kX4_wayLength l G T κ hst hE ma11) trivial dmX4_wayLength zf4 hqq18 dX0_nameAll_80 zw1669 rfl rfl (Nat.le_of_ble_eq_true rfl) (Nat.le_of_ble_eq_true rfl) (Nat.le_of_ble_eq_true rfl) (Nat.le_of_ble_eq_true rfl) (Nat.le_of_ble_eq_true rfl) (fun _ _ _ h => nomatch h) (fun x20 cw19 nw19 w19 hw19 pw19 => ?_)
            obtain ⟨rfl, rfl, kw19⟩ := pw19
            refine z_icmp_ge hC (pc := 83) 108 dX0_nameAll_83 (by decide) (fun c21 => ?_) (fun c21 => ?_)
            · exact hR _ _ _ _ _ dX0_nameAll_108 (Nat.le_of_ble_eq_true rfl) (Nat.le_of_ble_eq_true rfl) ⟨hw19, rfl, rfl, (tKeep.tr (tKeep.tr (tKeep.tr (tKeep.tr (tKeep.tr tKeep.rf kw3 rfl) kw10 rfl) kw13 rfl) kw15 rfl) kw19 rfl)⟩
            · refine z_aload_n hC (pc := 86) 0 dX0_nameAll_86 rfl rfl ?_
              refine z_aload_n hC (pc := 87) 0 dX0_nameAll_87 rfl rfl ?_
              refine u_getK hC (pc := 88) zf0 1 (tKeep.F kw19 (tKeep.F kw15 (tKeep.F kw13 (tKeep.F kw10 fa6 rfl) rfl) rfl) rfl) dX0_nameAll_88 zw449 (kk := ?_)
              refine u_getK hC (pc := 91) zf2 1 (tKeep.F kw19 (tKeep.F kw15 (tKeep.F kw13 fa11 rfl) rfl) rfl) dX0_nameAll_91 zw237 (kk := ?_)
              refine z_iload_n hC (pc := 94) 1 dX0_nameAll_94 rfl rfl ?_
              refine z_iload_n hC (pc := 95) 2 dX0_nameAll_95 rfl rfl ?_
              refine t_callVi hC hw19 (pc := 96) (As := [.int x14, .int x16]) (kX4_way l G T κ hst hE ma11) trivial dmX4_way zf4 hqq18 dX0_nameAll_96 zw1673 rfl rfl (Nat.le_of_ble_eq_true rfl) (Nat.le_of_ble_eq_true rfl) (Nat.le_of_ble_eq_true rfl) (Nat.le_of_ble_eq_true rfl) (Nat.le_of_ble_eq_true rfl) (fun _ _ _ h => nomatch h) (fun x23 cw22 nw22 w22 hw22 pw22 => ?_)
              obtain ⟨rfl, rfl, kw22⟩ := pw22
              obtain ⟨q24, hqq24⟩ := hE.o0 h0
              refine t_callVv hC hw22 (pc := 99) (As := [.int x23]) (kX0_nameFile l G T κ hst hE h0) trivial dmX0_nameFile zf0 hqq24 dX0_nameAll_99 zw1677 rfl rfl (Nat.le_of_ble_eq_true rfl) (Nat.le_of_ble_eq_true rfl) (Nat.le_of_ble_eq_true rfl) (Nat.le_of_ble_eq_true rfl) (Nat.le_of_ble_eq_true rfl) (fun _ _ _ h => nomatch h) (fun cw25 nw25 w25 hw25 pw25 => ?_)
              obtain ⟨rfl, rfl, kw25⟩ := pw25
              refine z_iinc hC (pc := 102) (v := (x16 + 1)) (lv' := [(2, .int (x16 + 1)), (0, .ref a0), (1, .int x14)]) 2 dX0_nameAll_102 rfl (congrArg _ (by decide)) (by decide) rfl ?_
              refine z_goto hC (pc := 105) 71 dX0_nameAll_105 (by decide) ?_
              refine z_lvs [1, 2, 0] rfl ?_
              exact ih71 w25 hw25 (tKeep.tr (tKeep.tr (tKeep.tr (tKeep.tr tKeep.rf kw15 rfl) kw19 rfl) kw22 rfl) kw25 rfl) (x16 + 1) (t_nnI v17 (Int32.not_le.mp c21)) (t_up (Int32.not_le.mp c21) hd71)
        refine z_lvs [2, 1, 0] rfl ?_
        exact j71 _ w13 hw13 tKeep.rf 0 (by decide) (Nat.le_refl _)
      · refine z_aload_n hC (pc := 16) 0 dX0_nameAll_16 rfl rfl ?_
        refine u_getK hC (pc := 17) zf0 1 fa6 dX0_nameAll_17 zw449 (kk := ?_)
        refine u_get hC hw3 (pc := 20) zf2 14 (hE.o2 ma6) rfl dX0_nameAll_20 zw275 (kk := fun va27 ta27 fa27 => ?_)
        obtain ⟨a27, ma27, rfl⟩ := ta27
        refine z_iload_n hC (pc := 23) 1 dX0_nameAll_23 rfl rfl ?_
        refine z_iconst hC (pc := 24) (v := (-1)) dX0_nameAll_24 (by decide) ?_
        refine t_callSNv hC hw3 (pc := 25) (As := [.ref a27, .int x4, .int (-1)]) (kX12_set l G T κ hst hE ma27) trivial dmX12_set dX0_nameAll_25 zw1667 rfl rfl (Nat.le_of_ble_eq_true rfl) (Nat.le_of_ble_eq_true rfl) (Nat.le_of_ble_eq_true rfl) (Nat.le_of_ble_eq_true rfl) (Nat.le_of_ble_eq_true rfl) (fun _ _ _ h => nomatch h) (fun cw28 nw28 w28 hw28 pw28 => ?_)
        obtain ⟨rfl, rfl, kw28⟩ := pw28
        refine z_aload_n hC (pc := 28) 0 dX0_nameAll_28 rfl rfl ?_
        refine u_getK hC (pc := 29) zf0 1 (tKeep.F kw28 fa6 rfl) dX0_nameAll_29 zw449 (kk := ?_)
        refine u_get hC hw28 (pc := 32) zf2 15 (hE.o2 ma6) rfl dX0_nameAll_32 zw277 (kk := fun va30 ta30 fa30 => ?_)
        obtain ⟨a30, ma30, rfl⟩ := ta30
        refine z_iload_n hC (pc := 35) 1 dX0_nameAll_35 rfl rfl ?_
        refine z_iconst hC (pc := 36) (v := (-1)) dX0_nameAll_36 (by decide) ?_
        refine t_callSNv hC hw28 (pc := 37) (As := [.ref a30, .int x4, .int (-1)]) (kX12_set l G T κ hst hE ma30) trivial dmX12_set dX0_nameAll_37 zw1667 rfl rfl (Nat.le_of_ble_eq_true rfl) (Nat.le_of_ble_eq_true rfl) (Nat.le_of_ble_eq_true rfl) (Nat.le_of_ble_eq_true rfl) (Nat.le_of_ble_eq_true rfl) (fun _ _ _ h => nomatch h) (fun cw31 nw31 w31 hw31 pw31 => ?_)
        obtain ⟨rfl, rfl, kw31⟩ := pw31
        refine z_iinc hC (pc := 40) (v := (x4 + 1)) (lv' := [(1, .int (x4 + 1)), (0, .ref a0)]) 1 dX0_nameAll_40 rfl (congrArg _ (by decide)) (by decide) rfl ?_
        refine z_goto hC (pc := 43) 2 dX0_nameAll_43 (by decide) ?_
        refine z_lvs [1, 0] rfl ?_
        exact ih2 w31 hw31 (tKeep.tr (tKeep.tr (tKeep.tr tKeep.rf kw3 rfl) kw28 rfl) kw31 rfl) (x4 + 1) (t_nnI v5 (Int32.not_le.mp c9)) (t_up (Int32.not_le.mp c9) hd2)
  refine z_lvs [1, 0] rfl ?_
  exact j2 _ w0 hw0 tKeep.rf 0 (by decide) (Nat.le_refl _)
set_option maxRecDepth 20000 in
theorem kX0_mark (l : Launch) (G : zG) (T : tT) (κ : Nat → List Nat) (hst : l.stackTraces = false) (hE : tE G T κ) {a0 : Nat} (h0 : a0 ∈ κ 0) {x1 : Int32} {x2 : Int32} : tMv l G T yX0_mark cX0_mark 3 [] 0 0 0 0 [.ref a0, .int x1, .int x2] uT (uPv 0x18) := by
  refine tMv.intro hst rfl (Nat.le_of_ble_eq_true rfl) ?_
  intro w0 hw0 _ X hC hR hO hX
  refine z_aload_n hC (pc := 0) 0 dX0_mark_0 rfl rfl ?_
  refine u_get hC hw0 (pc := 1) zf0 3 (hE.o0 h0) rfl dX0_mark_1 zw451 (kk := fun vx5 tx5 fx5 => ?_)
  obtain ⟨x5, rfl⟩ := tx5
  have j41 : ∀ (w6 : va_W), tW T w6 → tKeep 0x18 w0 w6 → zS X G 3 w6 [] 0 0 41 [] := by
    intro w6 hw6 kw6
    exact hR _ _ _ _ _ dX0_mark_41 (Nat.le_of_ble_eq_true rfl) (Nat.le_of_ble_eq_true rfl) ⟨hw6, rfl, rfl, (tKeep.tr tKeep.rf kw6 rfl)⟩
  have j31 : zS X G 3 w0 [(0, .ref a0), (1, .int x1), (2, .int x2)] 0 0 31 [] := by
    refine z_aload_n hC (pc := 31) 0 dX0_mark_31 rfl rfl ?_
    refine z_iload_n hC (pc := 32) 1 dX0_mark_32 rfl rfl ?_
    refine u_put hC hw0 (pc := 33) zf0 3 (hE.o0 h0) rfl ⟨_, rfl⟩ dX0_mark_33 zw451 rfl rfl rfl (kk := fun w7 hw7 fw7 kw7 => ?_)
    refine z_aload_n hC (pc := 36) 0 dX0_mark_36 rfl rfl ?_
    refine z_iload_n hC (pc := 37) 2 dX0_mark_37 rfl rfl ?_
    refine u_put hC hw7 (pc := 38) zf0 4 (hE.o0 h0) rfl ⟨_, rfl⟩ dX0_mark_38 zw452 rfl rfl rfl (kk := fun w8 hw8 fw8 kw8 => ?_)
    refine z_lvs [] rfl ?_
    exact j41 w8 hw8 (tKeep.tr (tKeep.tr tKeep.rf kw7 rfl) kw8 rfl)
  refine z_if_eq hC (pc := 4) 31 dX0_mark_4 (by decide) (fun c9 => ?_) (fun c9 => ?_)
  · exact j31
  · refine z_iload_n hC (pc := 7) 2 dX0_mark_7 rfl rfl ?_
    refine z_aload_n hC (pc := 8) 0 dX0_mark_8 rfl rfl ?_
    refine u_get hC hw0 (pc := 9) zf0 4 (hE.o0 h0) rfl dX0_mark_9 zw452 (kk := fun vx10 tx10 fx10 => ?_)
    obtain ⟨x10, rfl⟩ := tx10
    refine z_icmp_lt hC (pc := 12) 31 dX0_mark_12 (by decide) (fun c11 => ?_) (fun c11 => ?_)
    · exact j31
    · refine z_iload_n hC (pc := 15) 2 dX0_mark_15 rfl rfl ?_
      refine z_aload_n hC (pc := 16) 0 dX0_mark_16 rfl rfl ?_
      refine u_getK hC (pc := 17) zf0 4 fx10 dX0_mark_17 zw452 (kk := ?_)
      refine z_icmp_ne hC (pc := 20) 41 dX0_mark_20 (by decide) (fun c12 => ?_) (fun c12 => ?_)
      · refine z_lvs [] rfl ?_
        exact j41 w0 hw0 tKeep.rf
      · refine z_iload_n hC (pc := 23) 1 dX0_mark_23 rfl rfl ?_
        refine z_aload_n hC (pc := 24) 0 dX0_mark_24 rfl rfl ?_
        refine u_getK hC (pc := 25) zf0 3 fx5 dX0_mark_25 zw451 (kk := ?_)
        refine z_icmp_ge hC (pc := 28) 41 dX0_mark_28 (by decide) (fun c13 => ?_) (fun c13 => ?_)
        · refine z_lvs [] rfl ?_
          exact j41 w0 hw0 tKeep.rf
        · exact j31
set_option maxRecDepth 20000 in
theorem kX0_checkAlias (l : Launch) (G : zG) (T : tT) (κ : Nat → List Nat) (hst : l.stackTraces = false) (hE : tE G T κ) {a0 : Nat} (h0 : a0 ∈ κ 0) {x1 : Int32} : tMv l G T yX0_checkAlias cX0_checkAlias 4 [] 1 22 0 0 [.ref a0, .int x1] uT (uPv 0x18) := by
  refine tMv.intro hst rfl (Nat.le_of_ble_eq_true rfl) ?_
  intro w0 hw0 _ X hC hR hO hX
  refine z_aload_n hC (pc := 0) 0 dX0_checkAlias_0 rfl rfl ?_
  refine u_get hC hw0 (pc := 1) zf0 1 (hE.o0 h0) rfl dX0_checkAlias_1 zw449 (kk := fun va4 ta4 fa4 => ?_)
  obtain ⟨a4, ma4, rfl⟩ := ta4
  refine u_get hC hw0 (pc := 4) zf2 14 (hE.o2 ma4) rfl dX0_checkAlias_4 zw275 (kk := fun va5 ta5 fa5 => ?_)
  obtain ⟨a5, ma5, rfl⟩ := ta5
  refine z_aload_n hC (pc := 7) 0 dX0_checkAlias_7 rfl rfl ?_
  refine u_getK hC (pc := 8) zf0 1 fa4 dX0_checkAlias_8 zw449 (kk := ?_)
  refine u_get hC hw0 (pc := 11) zf2 7 (hE.o2 ma4) rfl dX0_checkAlias_11 zw257 (kk := fun va6 ta6 fa6 => ?_)
  obtain ⟨a6, ma6, rfl⟩ := ta6
  refine z_iload_n hC (pc := 14) 1 dX0_checkAlias_14 rfl rfl ?_
  refine z_iconst hC (pc := 15) (v := 4) dX0_checkAlias_15 (by decide) ?_
  refine z_iadd hC (pc := 16) (v := (x1 + 4)) dX0_checkAlias_16 rfl ?_
  refine t_callSNi hC hw0 (pc := 17) (As := [.ref a6, .int (x1 + 4)]) (kX12_get l G T κ hst hE ma6) trivial dmX12_get dX0_checkAlias_17 zw1668 rfl rfl (Nat.le_of_ble_eq_true rfl) (Nat.le_of_ble_eq_true rfl) (Nat.le_of_ble_eq_true rfl) (Nat.le_of_ble_eq_true rfl) (Nat.le_of_ble_eq_true rfl) (fun _ _ _ h => nomatch h) (fun x8 cw7 nw7 w7 hw7 pw7 => ?_)
  obtain ⟨rfl, rfl, kw7⟩ := pw7
  refine t_callSNi hC hw7 (pc := 20) (As := [.ref a5, .int x8]) (kX12_get l G T κ hst hE ma5) trivial dmX12_get dX0_checkAlias_20 zw1668 rfl rfl (Nat.le_of_ble_eq_true rfl) (Nat.le_of_ble_eq_true rfl) (Nat.le_of_ble_eq_true rfl) (Nat.le_of_ble_eq_true rfl) (Nat.le_of_ble_eq_true rfl) (fun _ _ _ h => nomatch h) (fun x10 cw9 nw9 w9 hw9 pw9 => ?_)
  obtain ⟨rfl, rfl, kw9⟩ := pw9
  refine z_istore_n hC (pc := 23) (lv' := [(2, .int x10), (0, .ref a0), (1, .int x1)]) dX0_checkAlias_23 rfl (by decide) rfl ?_
  refine z_iload_n hC (pc := 24) 0 dX0_checkAlias_24 rfl rfl ?_
  refine z_iconst hC (pc := 25) (v := (-1)) dX0_checkAlias_25 (by decide) ?_
  have j49 : ∀ (w11 : va_W), tW T w11 → tKeep 0x18 w9 w11 → zS X G 4 w11 [(0, .ref a0), (1, .int x1), (2, .int x10)] 0 0 49 [] := by
    intro w11 hw11 kw11
    refine z_iconst hC (pc := 49) (v := 0) dX0_checkAlias_49 (by decide) ?_
    refine z_istore_n hC (pc := 50) (lv' := [(3, .int 0), (0, .ref a0), (1, .int x1), (2, .int x10)]) dX0_checkAlias_50 rfl (by decide) rfl ?_
    have j51 : ∀ (d51 : Nat), ∀ (w12 : va_W), tW T w12 → tKeep 0x0 w11 w12 → ∀ (x13 : Int32), ∀ (x14 : Int32), ¬ x14 < 0 → (2 ^ 31 - (x14 : Int32).toInt).toNat ≤ d51 → zS X G 4 w12 [(0, .ref a0), (1, .int x1), (2, .int x13), (3, .int x14)] 0 0 51 [] := by
      intro d51
      induction d51 with
      | zero => intro w12 hw12 kw12 x13 x14 v15 hd51; exact (t_zero hd51).elim
      | succ d51 ih51 =>
        intro w12 hw12 kw12 x13 x14 v15 hd51
        refine z_iload_n hC (pc := 51) 3 dX0_checkAlias_51 rfl rfl ?_
        refine z_sipush hC (pc := 52) (v := 320) dX0_checkAlias_52 (by decide) ?_
        have j133 : ∀ (w16 : va_W), tW T w16 → tKeep 0x0 w12 w16 → zS X G 4 w16 [] 0 0 133 [] := by
          intro w16 hw16 kw16
          exact hR _ _ _ _ _ dX0_checkAlias_133 (Nat.le_of_ble_eq_true rfl) (Nat.le_of_ble_eq_true rfl) ⟨hw16, rfl, rfl, (tKeep.tr (tKeep.tr (tKeep.tr (tKeep.tr (tKeep.tr tKeep.rf kw7 rfl) kw9 rfl) kw11 rfl) kw12 rfl) kw16 rfl)⟩
        refine z_icmp_gt hC (pc := 55) 133 dX0_checkAlias_55 (by decide) (fun c17 => ?_) (fun c17 => ?_)
        · refine z_lvs [] rfl ?_
          exact j133 w12 hw12 tKeep.rf
        · refine z_iload_n hC (pc := 58) 2 dX0_checkAlias_58 rfl rfl ?_
          refine z_iconst hC (pc := 59) (v := (-1)) dX0_checkAlias_59 (by decide) ?_
          refine z_icmp_eq hC (pc := 60) 133 dX0_checkAlias_60 (by decide) (fun c18 => ?_) (fun c18 => ?_)
          · refine z_lvs [] rfl ?_
            exact j133 w12 hw12 tKeep.rf
          · refine z_aload_n hC (pc := 63) 0 dX0_checkAlias_63 rfl rfl ?_
            refine u_getK hC (pc := 64) zf0 1 (tKeep.F kw12 (tKeep.F kw11 (tKeep.F kw9 (tKeep.F kw7 fa4 rfl) rfl) rfl) rfl) dX0_checkAlias_64 zw449 (kk := ?_)
            refine u_getK hC (pc := 67) zf2 7 (tKeep.F kw12 (tKeep.F kw11 (tKeep.F kw9 (tKeep.F kw7 fa6 rfl) rfl) rfl) rfl) dX0_checkAlias_67 zw257 (kk := ?_)
            refine z_iload_n hC (pc := 70) 2 dX0_checkAlias_70 rfl rfl ?_
            refine t_callSNi hC hw12 (pc := 71) (As := [.ref a6, .int x13]) (kX12_get l G T κ hst hE ma6) trivial dmX12_get dX0_checkAlias_71 zw1668 rfl rfl (Nat.le_of_ble_eq_true rfl) (Nat.le_of_ble_eq_true rfl) (Nat.le_of_ble_eq_true rfl) (Nat.le_of_ble_eq_true rfl) (Nat.le_of_ble_eq_true rfl) (fun _ _ _ h => nomatch h) (fun x20 cw19 nw19 w19 hw19 pw19 => ?_)
            obtain ⟨rfl, rfl, kw19⟩ := pw19
            refine z_iconst hC (pc := 74) (v := 1) dX0_checkAlias_74 (by decide) ?_
            refine z_icmp_ne hC (pc := 75) 133 dX0_checkAlias_75 (by decide) (fun c21 => ?_) (fun c21 => ?_)
            · refine z_lvs [] rfl ?_
              exact j133 w19 hw19 (tKeep.tr tKeep.rf kw19 rfl)
            · refine z_iload_n hC (pc := 78) 2 dX0_checkAlias_78 rfl rfl ?_
              refine z_iload_n hC (pc := 79) 1 dX0_checkAlias_79 rfl rfl ?_
              refine z_icmp_ne hC (pc := 80) 103 dX0_checkAlias_80 (by decide) (fun c22 => ?_) (fun c22 => ?_)
              · refine z_aload_n hC (pc := 103) 0 dX0_checkAlias_103 rfl rfl ?_
                refine u_getK hC (pc := 104) zf0 1 (tKeep.F kw19 (tKeep.F kw12 (tKeep.F kw11 (tKeep.F kw9 (tKeep.F kw7 fa4 rfl) rfl) rfl) rfl) rfl) dX0_checkAlias_104 zw449 (kk := ?_)
                refine u_getK hC (pc := 107) zf2 14 (tKeep.F kw19 (tKeep.F kw12 (tKeep.F kw11 (tKeep.F kw9 (tKeep.F kw7 fa5 rfl) rfl) rfl) rfl) rfl) dX0_checkAlias_107 zw275 (kk := ?_)
                refine z_aload_n hC (pc := 110) 0 dX0_checkAlias_110 rfl rfl ?_
                refine u_getK hC (pc := 111) zf0 1 (tKeep.F kw19 (tKeep.F kw12 (tKeep.F kw11 (tKeep.F kw9 (tKeep.F kw7 fa4 rfl) rfl) rfl) rfl) rfl) dX0_checkAlias_111 zw449 (kk := ?_)
                refine u_getK hC (pc := 114) zf2 7 (tKeep.F kw19 (tKeep.F kw12 (tKeep.F kw11 (tKeep.F kw9 (tKeep.F kw7 fa6 rfl) rfl) rfl) rfl) rfl) dX0_checkAlias_114 zw257 (kk := ?_)
                refine z_iload_n hC (pc := 117) 2 dX0_checkAlias_117 rfl rfl ?_
                refine z_iconst hC (pc := 118) (v := 4) dX0_checkAlias_118 (by decide) ?_
                refine z_iadd hC (pc := 119) (v := (x13 + 4)) dX0_checkAlias_119 rfl ?_
                refine t_callSNi hC hw19 (pc := 120) (As := [.ref a6, .int (x13 + 4)]) (kX12_get l G T κ hst hE ma6) trivial dmX12_get dX0_checkAlias_120 zw1668 rfl rfl (Nat.le_of_ble_eq_true rfl) (Nat.le_of_ble_eq_true rfl) (Nat.le_of_ble_eq_true rfl) (Nat.le_of_ble_eq_true rfl) (Nat.le_of_ble_eq_true rfl) (fun _ _ _ h => nomatch h) (fun x24 cw23 nw23 w23 hw23 pw23 => ?_)
                obtain ⟨rfl, rfl, kw23⟩ := pw23
                refine t_callSNi hC hw23 (pc := 123) (As := [.ref a5, .int x24]) (kX12_get l G T κ hst hE ma5) trivial dmX12_get dX0_checkAlias_123 zw1668 rfl rfl (Nat.le_of_ble_eq_true rfl) (Nat.le_of_ble_eq_true rfl) (Nat.le_of_ble_eq_true rfl) (Nat.le_of_ble_eq_true rfl) (Nat.le_of_ble_eq_true rfl) (fun _ _ _ h => nomatch h) (fun x26 cw25 nw25 w25 hw25 pw25 => ?_)
                obtain ⟨rfl, rfl, kw25⟩ := pw25
                refine z_istore_n hC (pc := 126) (lv' := [(2, .int x26), (0, .ref a0), (1, .int x1), (3, .int x14)]) dX0_checkAlias_126 rfl (by decide) rfl ?_
                refine z_iinc hC (pc := 127) (v := (x14 + 1)) (lv' := [(3, .int (x14 + 1)), (2, .int x26), (0, .ref a0), (1, .int x1)]) 3 dX0_checkAlias_127 rfl (congrArg _ (by decide)) (by decide) rfl ?_
                refine z_goto hC (pc := 130) 51 dX0_checkAlias_130 (by decide) ?_
                refine z_lvs [2, 3, 1, 0] rfl ?_
                exact ih51 w25 hw25 (tKeep.tr (tKeep.tr (tKeep.tr (tKeep.tr tKeep.rf kw12 rfl) kw19 rfl) kw23 rfl) kw25 rfl) x26 (x14 + 1) (t_nnI v15 (t_lec (Int32.not_lt.mp c17) (by decide))) (t_up (t_lec (Int32.not_lt.mp c17) (by decide)) hd51)
              · refine z_aload_n hC (pc := 83) 0 dX0_checkAlias_83 rfl rfl ?_
                refine z_bipush hC (pc := 84) (v := 10) dX0_checkAlias_84 (by decide) ?_
                refine z_aload_n hC (pc := 86) 0 dX0_checkAlias_86 rfl rfl ?_
                refine u_getK hC (pc := 87) zf0 1 (tKeep.F kw19 (tKeep.F kw12 (tKeep.F kw11 (tKeep.F kw9 (tKeep.F kw7 fa4 rfl) rfl) rfl) rfl) rfl) dX0_checkAlias_87 zw449 (kk := ?_)
                refine u_getK hC (pc := 90) zf2 7 (tKeep.F kw19 (tKeep.F kw12 (tKeep.F kw11 (tKeep.F kw9 (tKeep.F kw7 fa6 rfl) rfl) rfl) rfl) rfl) dX0_checkAlias_90 zw257 (kk := ?_)
                refine z_iload_n hC (pc := 93) 1 dX0_checkAlias_93 rfl rfl ?_
                refine z_iconst hC (pc := 94) (v := 3) dX0_checkAlias_94 (by decide) ?_
                refine z_iadd hC (pc := 95) (v := (x1 + 3)) dX0_checkAlias_95 rfl ?_
                refine t_callSNi hC hw19 (pc := 96) (As := [.ref a6, .int (x1 + 3)]) (kX12_get l G T κ hst hE ma6) trivial dmX12_get dX0_checkAlias_96 zw1668 rfl rfl (Nat.le_of_ble_eq_true rfl) (Nat.le_of_ble_eq_true rfl) (Nat.le_of_ble_eq_true rfl) (Nat.le_of_ble_eq_true rfl) (Nat.le_of_ble_eq_true rfl) (fun _ _ _ h => nomatch h) (fun x28 cw27 nw27 w27 hw27 pw27 => ?_)
                obtain ⟨rfl, rfl, kw27⟩ := pw27
                obtain ⟨q29, hqq29⟩ := hE.o0 h0
                refine t_callVv hC hw27 (pc := 99) (As := [.int 10, .int x28]) (kX0_mark l G T κ hst hE h0) trivial dmX0_mark zf0 hqq29 dX0_checkAlias_99 zw1689 rfl rfl (Nat.le_of_ble_eq_true rfl) (Nat.le_of_ble_eq_true rfl) (Nat.le_of_ble_eq_true rfl) (Nat.le_of_ble_eq_true rfl) (Nat.le_of_ble_eq_true rfl) (fun _ _ _ h => nomatch h) (fun cw30 nw30 w30 hw30 pw30 => ?_)
                obtain ⟨rfl, rfl, kw30⟩ := pw30
                exact hR _ _ _ _ _ dX0_checkAlias_102 (Nat.le_of_ble_eq_true rfl) (Nat.le_of_ble_eq_true rfl) ⟨hw30, rfl, rfl, (tKeep.tr (tKeep.tr (tKeep.tr (tKeep.tr (tKeep.tr (tKeep.tr (tKeep.tr tKeep.rf kw7 rfl) kw9 rfl) kw11 rfl) kw12 rfl) kw19 rfl) kw27 rfl) kw30 rfl)⟩
    refine z_lvs [1, 2, 3, 0] rfl ?_
    exact j51 _ w11 hw11 tKeep.rf x10 0 (by decide) (Nat.le_refl _)
  refine z_icmp_ne hC (pc := 26) 49 dX0_checkAlias_26 (by decide) (fun c32 => ?_) (fun c32 => ?_)
  · refine z_lvs [1, 2, 0] rfl ?_
    exact j49 w9 hw9 tKeep.rf
  · refine z_aload_n hC (pc := 29) 1 dX0_checkAlias_29 rfl rfl ?_
    refine z_bipush hC (pc := 30) (v := 6) dX0_checkAlias_30 (by decide) ?_
    refine z_aload_n hC (pc := 32) 1 dX0_checkAlias_32 rfl rfl ?_
    refine u_getK hC (pc := 33) zf0 1 (tKeep.F kw9 (tKeep.F kw7 fa4 rfl) rfl) dX0_checkAlias_33 zw449 (kk := ?_)
    refine u_getK hC (pc := 36) zf2 7 (tKeep.F kw9 (tKeep.F kw7 fa6 rfl) rfl) dX0_checkAlias_36 zw257 (kk := ?_)
    refine z_iload_n hC (pc := 39) 2 dX0_checkAlias_39 rfl rfl ?_
    refine z_bipush hC (pc := 40) (v := 6) dX0_checkAlias_40 (by decide) ?_
    refine z_iadd hC (pc := 42) (v := (x1 + 6)) dX0_checkAlias_42 rfl ?_
    refine t_callSNi hC hw9 (pc := 43) (As := [.ref a6, .int (x1 + 6)]) (kX12_get l G T κ hst hE ma6) trivial dmX12_get dX0_checkAlias_43 zw1668 rfl rfl (Nat.le_of_ble_eq_true rfl) (Nat.le_of_ble_eq_true rfl) (Nat.le_of_ble_eq_true rfl) (Nat.le_of_ble_eq_true rfl) (Nat.le_of_ble_eq_true rfl) (fun _ _ _ h => nomatch h) (fun x34 cw33 nw33 w33 hw33 pw33 => ?_)
    obtain ⟨rfl, rfl, kw33⟩ := pw33
    obtain ⟨q35, hqq35⟩ := hE.o0 h0
    refine t_callVv hC hw33 (pc := 46) (As := [.int 6, .int x34]) (kX0_mark l G T κ hst hE h0) trivial dmX0_mark zf0 hqq35 dX0_checkAlias_46 zw1689 rfl rfl (Nat.le_of_ble_eq_true rfl) (Nat.le_of_ble_eq_true rfl) (Nat.le_of_ble_eq_true rfl) (Nat.le_of_ble_eq_true rfl) (Nat.le_of_ble_eq_true rfl) (fun _ _ _ h => nomatch h) (fun cw36 nw36 w36 hw36 pw36 => ?_)
    obtain ⟨rfl, rfl, kw36⟩ := pw36
    refine z_lvs [1, 2, 0] rfl ?_
    exact j49 w36 hw36 (tKeep.tr (tKeep.tr tKeep.rf kw33 rfl) kw36 rfl)
set_option maxRecDepth 20000 in
theorem kX0_templateFrom (l : Launch) (G : zG) (T : tT) (κ : Nat → List Nat) (hst : l.stackTraces = false) (hE : tE G T κ) {a0 : Nat} (h0 : a0 ∈ κ 0) {x1 : Int32} {x2 : Int32} {x3 : Int32} : tMi l G T yX0_templateFrom cX0_templateFrom 8 .int [] 2 43 0 0 [.ref a0, .int x1, .int x2, .int x3] uT (uPi 0x0) := by
  refine tMi.intro hst rfl (Nat.le_of_ble_eq_true rfl) ?_
  intro w0 hw0 _ X hC hR hO hX
  refine z_iload_n hC (pc := 0) 2 dX0_templateFrom_0 rfl rfl ?_
  refine z_istore hC (pc := 1) (lv' := [(4, .int x2), (0, .ref a0), (1, .int x1), (2, .int x2), (3, .int x3)]) dX0_templateFrom_1 (by decide) rfl ?_
  have j3 : ∀ (d3 : Nat), ∀ (w6 : va_W), tW T w6 → tKeep 0x0 w0 w6 → ∀ (x7 : Int32), (2 ^ 31 - (x7 : Int32).toInt).toNat ≤ d3 → zS X G 8 w6 [(0, .ref a0), (1, .int x1), (3, .int x3), (4, .int x7)] 0 0 3 [] := by
    intro d3
    induction d3 with
    | zero => intro w6 hw6 kw6 x7 hd3; exact (t_zero hd3).elim
    | succ d3 ih3 =>
      intro w6 hw6 kw6 x7 hd3
      refine z_iload hC (pc := 3) 3 dX0_templateFrom_3 rfl ?_
      refine z_aload_n hC (pc := 5) 0 dX0_templateFrom_5 rfl rfl ?_
      refine u_get hC hw6 (pc := 6) zf0 1 (hE.o0 h0) rfl dX0_templateFrom_6 zw449 (kk := fun va8 ta8 fa8 => ?_)
      obtain ⟨a8, ma8, rfl⟩ := ta8
      refine u_get hC hw6 (pc := 9) zf2 1 (hE.o2 ma8) rfl dX0_templateFrom_9 zw237 (kk := fun va9 ta9 fa9 => ?_)
      obtain ⟨a9, ma9, rfl⟩ := ta9
      refine z_iload_n hC (pc := 12) 1 dX0_templateFrom_12 rfl rfl ?_
      obtain ⟨q10, hqq10⟩ := hE.o4 ma9
      refine t_callVi hC hw6 (pc := 13) (As := [.int x1]) (kX4_wayLength l G T κ hst hE ma9) trivial dmX4_wayLength zf4 hqq10 dX0_templateFrom_13 zw1669 rfl rfl (Nat.le_of_ble_eq_true rfl) (Nat.le_of_ble_eq_true rfl) (Nat.le_of_ble_eq_true rfl) (Nat.le_of_ble_eq_true rfl) (Nat.le_of_ble_eq_true rfl) (fun _ _ _ h => nomatch h) (fun x12 cw11 nw11 w11 hw11 pw11 => ?_)
      obtain ⟨rfl, rfl, kw11⟩ := pw11
      refine z_icmp_ge hC (pc := 16) 139 dX0_templateFrom_16 (by decide) (fun c13 => ?_) (fun c13 => ?_)
      · refine z_iconst hC (pc := 139) (v := (-1)) dX0_templateFrom_139 (by decide) ?_
        exact hR _ _ _ _ _ _ dX0_templateFrom_140 rfl (Nat.le_of_ble_eq_true rfl) (Nat.le_of_ble_eq_true rfl) ⟨hw11, rfl, rfl, (tKeep.tr (tKeep.tr tKeep.rf kw6 rfl) kw11 rfl)⟩
      · refine z_aload_n hC (pc := 19) 0 dX0_templateFrom_19 rfl rfl ?_
        refine u_getK hC (pc := 20) zf0 1 (tKeep.F kw11 fa8 rfl) dX0_templateFrom_20 zw449 (kk := ?_)
        refine u_getK hC (pc := 23) zf2 1 (tKeep.F kw11 fa9 rfl) dX0_templateFrom_23 zw237 (kk := ?_)
        refine z_iload_n hC (pc := 26) 1 dX0_templateFrom_26 rfl rfl ?_
        refine z_iload hC (pc := 27) 3 dX0_templateFrom_27 rfl ?_
        refine t_callVi hC hw11 (pc := 29) (As := [.int x1, .int x7]) (kX4_way l G T κ hst hE ma9) trivial dmX4_way zf4 hqq10 dX0_templateFrom_29 zw1673 rfl rfl (Nat.le_of_ble_eq_true rfl) (Nat.le_of_ble_eq_true rfl) (Nat.le_of_ble_eq_true rfl) (Nat.le_of_ble_eq_true rfl) (Nat.le_of_ble_eq_true rfl) (fun _ _ _ h => nomatch h) (fun x15 cw14 nw14 w14 hw14 pw14 => ?_)
        obtain ⟨rfl, rfl, kw14⟩ := pw14
        refine z_istore hC (pc := 32) (lv' := [(5, .int x15), (0, .ref a0), (1, .int x1), (3, .int x3), (4, .int x7)]) dX0_templateFrom_32 (by decide) rfl ?_
        refine z_iconst hC (pc := 34) (v := 0) dX0_templateFrom_34 (by decide) ?_
        refine z_istore hC (pc := 35) (lv' := [(6, .int 0), (5, .int x15), (0, .ref a0), (1, .int x1), (3, .int x3), (4, .int x7)]) dX0_templateFrom_35 (by decide) rfl ?_
        have j37 : ∀ (d37 : Nat), ∀ (w16 : va_W), tW T w16 → tKeep 0x0 w14 w16 → ∀ (x17 : Int32), ¬ x17 < 0 → (2 ^ 31 - (x17 : Int32).toInt).toNat ≤ d37 → zS X G 8 w16 [(0, .ref a0), (1, .int x1), (3, .int x3), (4, .int x7), (5, .int x15), (6, .int x17)] 0 0 37 [] := by
          intro d37
          induction d37 with
          | zero => intro w16 hw16 kw16 x17 v18 hd37; exact (t_zero hd37).elim
          | succ d37 ih37 =>
            intro w16 hw16 kw16 x17 v18 hd37
            refine z_iload hC (pc := 37) 5 dX0_templateFrom_37 rfl ?_
            refine z_aload_n hC (pc := 39) 0 dX0_templateFrom_39 rfl rfl ?_
            refine u_getK hC (pc := 40) zf0 1 (tKeep.F kw16 (tKeep.F kw14 (tKeep.F kw11 fa8 rfl) rfl) rfl) dX0_templateFrom_40 zw449 (kk := ?_)
            refine u_get hC hw16 (pc := 43) zf2 8 (hE.o2 ma8) rfl dX0_templateFrom_43 zw261 (kk := fun vx19 tx19 fx19 => ?_)
            obtain ⟨x19, rfl⟩ := tx19
            refine z_icmp_ge hC (pc := 46) 133 dX0_templateFrom_46 (by decide) (fun c20 => ?_) (fun c20 => ?_)
            · refine z_iinc hC (pc := 133) (v := (x7 + 1)) (lv' := [(4, .int (x7 + 1)), (0, .ref a0), (1, .int x1), (3, .int x3), (5, .int x15), (6, .int x17)]) 3 dX0_templateFrom_133 rfl (congrArg _ (by decide)) (by decide) rfl ?_
              refine z_goto hC (pc := 136) 3 dX0_templateFrom_136 (by decide) ?_
              refine z_lvs [1, 2, 3, 0] rfl ?_
              exact ih3 w16 hw16 (tKeep.tr (tKeep.tr (tKeep.tr (tKeep.tr tKeep.rf kw6 rfl) kw11 rfl) kw14 rfl) kw16 rfl) (x7 + 1) (t_up (Int32.not_le.mp c13) hd3)
            · refine z_iload hC (pc := 49) 5 dX0_templateFrom_49 rfl ?_
              refine z_bipush hC (pc := 51) (v := 7) dX0_templateFrom_51 (by decide) ?_
              refine z_imul hC (pc := 53) (v := (x17 * 7)) dX0_templateFrom_53 rfl ?_
              refine z_istore hC (pc := 54) (lv' := [(7, .int (x17 * 7)), (0, .ref a0), (1, .int x1), (3, .int x3), (4, .int x7), (5, .int x15), (6, .int x17)]) dX0_templateFrom_54 (by decide) rfl ?_
              refine z_aload_n hC (pc := 56) 1 dX0_templateFrom_56 rfl rfl ?_
              refine u_getK hC (pc := 57) zf0 1 (tKeep.F kw16 (tKeep.F kw14 (tKeep.F kw11 fa8 rfl) rfl) rfl) dX0_templateFrom_57 zw449 (kk := ?_)
              refine u_get hC hw16 (pc := 60) zf2 7 (hE.o2 ma8) rfl dX0_templateFrom_60 zw257 (kk := fun va21 ta21 fa21 => ?_)
              obtain ⟨a21, ma21, rfl⟩ := ta21
              refine z_iload hC (pc := 63) 0 dX0_templateFrom_63 rfl ?_
              refine z_iconst hC (pc := 65) (v := 1) dX0_templateFrom_65 (by decide) ?_
              refine z_iadd hC (pc := 66) (v := ((x17 * 7) + 1)) dX0_templateFrom_66 rfl ?_
              refine t_callSNi hC hw16 (pc := 67) (As := [.ref a21, .int ((x17 * 7) + 1)]) (kX12_get l G T κ hst hE ma21) trivial dmX12_get dX0_templateFrom_67 zw1668 rfl rfl (Nat.le_of_ble_eq_true rfl) (Nat.le_of_ble_eq_true rfl) (Nat.le_of_ble_eq_true rfl) (Nat.le_of_ble_eq_true rfl) (Nat.le_of_ble_eq_true rfl) (fun _ _ _ h => nomatch h) (fun x23 cw22 nw22 w22 hw22 pw22 => ?_)
              obtain ⟨rfl, rfl, kw22⟩ := pw22
              refine z_iload hC (pc := 70) 5 dX0_templateFrom_70 rfl ?_
              have j127 : ∀ (w24 : va_W), tW T w24 → tKeep 0x0 w22 w24 → zS X G 8 w24 [(0, .ref a0), (1, .int x1), (3, .int x3), (4, .int x7), (5, .int x15), (6, .int x17)] 0 0 127 [] := by
                intro w24 hw24 kw24
                refine z_iinc hC (pc := 127) (v := (x17 + 1)) (lv' := [(6, .int (x17 + 1)), (0, .ref a0), (1, .int x1), (3, .int x3), (4, .int x7), (5, .int x15)]) 5 dX0_templateFrom_127 rfl (congrArg _ (by decide)) (by decide) rfl ?_
                refine z_goto hC (pc := 130) 37 dX0_templateFrom_130 (by decide) ?_
                refine z_lvs [1, 2, 3, 4, 5, 0] rfl ?_
                exact ih37 w24 hw24 (tKeep.tr (tKeep.tr (tKeep.tr tKeep.rf kw16 rfl) kw22 rfl) kw24 rfl) (x17 + 1) (t_nnI v18 (Int32.not_le.mp c20)) (t_up (Int32.not_le.mp c20) hd37)
              refine z_icmp_ne hC (pc := 72) 127 dX0_templateFrom_72 (by decide) (fun c25 => ?_) (fun c25 => ?_)
              · refine z_lvs [1, 2, 3, 4, 5, 6] rfl ?_
                exact j127 w22 hw22 tKeep.rf
              · refine z_aload_n hC (pc := 75) 1 dX0_templateFrom_75 rfl rfl ?_
                refine u_getK hC (pc := 76) zf0 1 (tKeep.F kw22 (tKeep.F kw16 (tKeep.F kw14 (tKeep.F kw11 fa8 rfl) rfl) rfl) rfl) dX0_templateFrom_76 zw449 (kk := ?_)
                refine u_getK hC (pc := 79) zf2 7 (tKeep.F kw22 fa21 rfl) dX0_templateFrom_79 zw257 (kk := ?_)
                refine z_iload hC (pc := 82) 0 dX0_templateFrom_82 rfl ?_
                refine z_iconst hC (pc := 84) (v := 2) dX0_templateFrom_84 (by decide) ?_
                refine z_iadd hC (pc := 85) (v := ((x17 * 7) + 2)) dX0_templateFrom_85 rfl ?_
                refine t_callSNi hC hw22 (pc := 86) (As := [.ref a21, .int ((x17 * 7) + 2)]) (kX12_get l G T κ hst hE ma21) trivial dmX12_get dX0_templateFrom_86 zw1668 rfl rfl (Nat.le_of_ble_eq_true rfl) (Nat.le_of_ble_eq_true rfl) (Nat.le_of_ble_eq_true rfl) (Nat.le_of_ble_eq_true rfl) (Nat.le_of_ble_eq_true rfl) (fun _ _ _ h => nomatch h) (fun x27 cw26 nw26 w26 hw26 pw26 => ?_)
                obtain ⟨rfl, rfl, kw26⟩ := pw26
                refine z_iload_n hC (pc := 89) 3 dX0_templateFrom_89 rfl rfl ?_
                refine z_icmp_ne hC (pc := 90) 127 dX0_templateFrom_90 (by decide) (fun c28 => ?_) (fun c28 => ?_)
                · refine z_lvs [1, 2, 3, 4, 5, 6] rfl ?_
                  exact j127 w26 hw26 (tKeep.tr tKeep.rf kw26 rfl)
                · refine z_aload_n hC (pc := 93) 1 dX0_templateFrom_93 rfl rfl ?_
                  refine u_getK hC (pc := 94) zf0 1 (tKeep.F kw26 (tKeep.F kw22 (tKeep.F kw16 (tKeep.F kw14 (tKeep.F kw11 fa8 rfl) rfl) rfl) rfl) rfl) dX0_templateFrom_94 zw449 (kk := ?_)
                  refine u_getK hC (pc := 97) zf2 7 (tKeep.F kw26 (tKeep.F kw22 fa21 rfl) rfl) dX0_templateFrom_97 zw257 (kk := ?_)
                  refine z_iload hC (pc := 100) 0 dX0_templateFrom_100 rfl ?_
                  refine t_callSNi hC hw26 (pc := 102) (As := [.ref a21, .int (x17 * 7)]) (kX12_get l G T κ hst hE ma21) trivial dmX12_get dX0_templateFrom_102 zw1668 rfl rfl (Nat.le_of_ble_eq_true rfl) (Nat.le_of_ble_eq_true rfl) (Nat.le_of_ble_eq_true rfl) (Nat.le_of_ble_eq_true rfl) (Nat.le_of_ble_eq_true rfl) (fun _ _ _ h => nomatch h) (fun x30 cw29 nw29 w29 hw29 pw29 => ?_)
                  obtain ⟨rfl, rfl, kw29⟩ := pw29
                  have j124 : ∀ (w31 : va_W), tW T w31 → tKeep 0x0 w29 w31 → zS X G 8 w31 [(7, .int (x17 * 7))] 0 0 124 [] := by
                    intro w31 hw31 kw31
                    refine z_iload hC (pc := 124) 0 dX0_templateFrom_124 rfl ?_
                    exact hR _ _ _ _ _ _ dX0_templateFrom_126 rfl (Nat.le_of_ble_eq_true rfl) (Nat.le_of_ble_eq_true rfl) ⟨hw31, rfl, rfl, (tKeep.tr (tKeep.tr (tKeep.tr (tKeep.tr (tKeep.tr (tKeep.tr (tKeep.tr (tKeep.tr tKeep.rf kw6 rfl) kw11 rfl) kw14 rfl) kw16 rfl) kw22 rfl) kw26 rfl) kw29 rfl) kw31 rfl)⟩
                  refine z_if_eq hC (pc := 105) 124 dX0_templateFrom_105 (by decide) (fun c32 => ?_) (fun c32 => ?_)
                  · refine z_lvs [0] rfl ?_
                    exact j124 w29 hw29 tKeep.rf
                  · refine z_aload_n hC (pc := 108) 1 dX0_templateFrom_108 rfl rfl ?_
                    refine u_getK hC (pc := 109) zf0 1 (tKeep.F kw29 (tKeep.F kw26 (tKeep.F kw22 (tKeep.F kw16 (tKeep.F kw14 (tKeep.F kw11 fa8 rfl) rfl) rfl) rfl) rfl) rfl) dX0_templateFrom_109 zw449 (kk := ?_)
                    refine u_getK hC (pc := 112) zf2 7 (tKeep.F kw29 (tKeep.F kw26 (tKeep.F kw22 fa21 rfl) rfl) rfl) dX0_templateFrom_112 zw257 (kk := ?_)
                    refine z_iload hC (pc := 115) 0 dX0_templateFrom_115 rfl ?_
                    refine t_callSNi hC hw29 (pc := 117) (As := [.ref a21, .int (x17 * 7)]) (kX12_get l G T κ hst hE ma21) trivial dmX12_get dX0_templateFrom_117 zw1668 rfl rfl (Nat.le_of_ble_eq_true rfl) (Nat.le_of_ble_eq_true rfl) (Nat.le_of_ble_eq_true rfl) (Nat.le_of_ble_eq_true rfl) (Nat.le_of_ble_eq_true rfl) (fun _ _ _ h => nomatch h) (fun x34 cw33 nw33 w33 hw33 pw33 => ?_)
                    obtain ⟨rfl, rfl, kw33⟩ := pw33
                    refine z_iconst hC (pc := 120) (v := 1) dX0_templateFrom_120 (by decide) ?_
                    refine z_icmp_ne hC (pc := 121) 127 dX0_templateFrom_121 (by decide) (fun c35 => ?_) (fun c35 => ?_)
                    · refine z_lvs [1, 2, 3, 4, 5, 6] rfl ?_
                      exact j127 w33 hw33 (tKeep.tr (tKeep.tr (tKeep.tr tKeep.rf kw26 rfl) kw29 rfl) kw33 rfl)
                    · refine z_lvs [0] rfl ?_
                      exact j124 w33 hw33 (tKeep.tr tKeep.rf kw33 rfl)
        refine z_lvs [2, 3, 4, 5, 1, 0] rfl ?_
        exact j37 _ w14 hw14 tKeep.rf 0 (by decide) (Nat.le_refl _)
  refine z_lvs [1, 2, 4, 0] rfl ?_
  exact j3 _ w0 hw0 tKeep.rf x2 (Nat.le_refl _)
set_option maxRecDepth 20000 in
theorem kX0_ownPart (l : Launch) (G : zG) (T : tT) (κ : Nat → List Nat) (hst : l.stackTraces = false) (hE : tE G T κ) {a0 : Nat} (h0 : a0 ∈ κ 0) {x1 : Int32} {x2 : Int32} {x3 : Int32} : tMi l G T yX0_ownPart cX0_ownPart 6 .int [] 1 21 0 0 [.ref a0, .int x1, .int x2, .int x3] uT (uPi 0x0) := by
  refine tMi.intro hst rfl (Nat.le_of_ble_eq_true rfl) ?_
  intro w0 hw0 _ X hC hR hO hX
  refine z_iconst hC (pc := 0) (v := 0) dX0_ownPart_0 (by decide) ?_
  refine z_istore hC (pc := 1) (lv' := [(4, .int 0), (0, .ref a0), (1, .int x1), (2, .int x2), (3, .int x3)]) dX0_ownPart_1 (by decide) rfl ?_
  have j3 : ∀ (d3 : Nat), ∀ (w6 : va_W), tW T w6 → tKeep 0x0 w0 w6 → ∀ (x7 : Int32), ¬ x7 < 0 → (2 ^ 31 - (x7 : Int32).toInt).toNat ≤ d3 → zS X G 6 w6 [(0, .ref a0), (1, .int x1), (2, .int x2), (3, .int x3), (4, .int x7)] 0 0 3 [] := by
    intro d3
    induction d3 with
    | zero => intro w6 hw6 kw6 x7 v8 hd3; exact (t_zero hd3).elim
    | succ d3 ih3 =>
      intro w6 hw6 kw6 x7 v8 hd3
      refine z_iload hC (pc := 3) 4 dX0_ownPart_3 rfl ?_
      refine z_aload_n hC (pc := 5) 0 dX0_ownPart_5 rfl rfl ?_
      refine u_get hC hw6 (pc := 6) zf0 1 (hE.o0 h0) rfl dX0_ownPart_6 zw449 (kk := fun va9 ta9 fa9 => ?_)
      obtain ⟨a9, ma9, rfl⟩ := ta9
      refine u_get hC hw6 (pc := 9) zf2 10 (hE.o2 ma9) rfl dX0_ownPart_9 zw267 (kk := fun vx10 tx10 fx10 => ?_)
      obtain ⟨x10, rfl⟩ := tx10
      refine z_icmp_ge hC (pc := 12) 115 dX0_ownPart_12 (by decide) (fun c11 => ?_) (fun c11 => ?_)
      · refine z_iconst hC (pc := 115) (v := (-1)) dX0_ownPart_115 (by decide) ?_
        exact hR _ _ _ _ _ _ dX0_ownPart_116 rfl (Nat.le_of_ble_eq_true rfl) (Nat.le_of_ble_eq_true rfl) ⟨hw6, rfl, rfl, (tKeep.tr tKeep.rf kw6 rfl)⟩
      · refine z_iload hC (pc := 15) 4 dX0_ownPart_15 rfl ?_
        refine z_bipush hC (pc := 17) (v := 6) dX0_ownPart_17 (by decide) ?_
        refine z_imul hC (pc := 19) (v := (x7 * 6)) dX0_ownPart_19 rfl ?_
        refine z_istore hC (pc := 20) (lv' := [(5, .int (x7 * 6)), (0, .ref a0), (1, .int x1), (2, .int x2), (3, .int x3), (4, .int x7)]) dX0_ownPart_20 (by decide) rfl ?_
        refine z_aload_n hC (pc := 22) 1 dX0_ownPart_22 rfl rfl ?_
        refine u_getK hC (pc := 23) zf0 1 fa9 dX0_ownPart_23 zw449 (kk := ?_)
        refine u_get hC hw6 (pc := 26) zf2 9 (hE.o2 ma9) rfl dX0_ownPart_26 zw263 (kk := fun va12 ta12 fa12 => ?_)
        obtain ⟨a12, ma12, rfl⟩ := ta12
        refine z_iload hC (pc := 29) 0 dX0_ownPart_29 rfl ?_
        refine z_iconst hC (pc := 31) (v := 2) dX0_ownPart_31 (by decide) ?_
        refine z_iadd hC (pc := 32) (v := ((x7 * 6) + 2)) dX0_ownPart_32 rfl ?_
        refine t_callSNi hC hw6 (pc := 33) (As := [.ref a12, .int ((x7 * 6) + 2)]) (kX12_get l G T κ hst hE ma12) trivial dmX12_get dX0_ownPart_33 zw1668 rfl rfl (Nat.le_of_ble_eq_true rfl) (Nat.le_of_ble_eq_true rfl) (Nat.le_of_ble_eq_true rfl) (Nat.le_of_ble_eq_true rfl) (Nat.le_of_ble_eq_true rfl) (fun _ _ _ h => nomatch h) (fun x14 cw13 nw13 w13 hw13 pw13 => ?_)
        obtain ⟨rfl, rfl, kw13⟩ := pw13
        refine z_iload_n hC (pc := 36) 4 dX0_ownPart_36 rfl rfl ?_
        have j109 : ∀ (w15 : va_W), tW T w15 → tKeep 0x0 w13 w15 → zS X G 6 w15 [(0, .ref a0), (1, .int x1), (2, .int x2), (3, .int x3), (4, .int x7)] 0 0 109 [] := by
          intro w15 hw15 kw15
          refine z_iinc hC (pc := 109) (v := (x7 + 1)) (lv' := [(4, .int (x7 + 1)), (0, .ref a0), (1, .int x1), (2, .int x2), (3, .int x3)]) 4 dX0_ownPart_109 rfl (congrArg _ (by decide)) (by decide) rfl ?_
          refine z_goto hC (pc := 112) 3 dX0_ownPart_112 (by decide) ?_
          refine z_lvs [1, 2, 3, 4, 0] rfl ?_
          exact ih3 w15 hw15 (tKeep.tr (tKeep.tr (tKeep.tr tKeep.rf kw6 rfl) kw13 rfl) kw15 rfl) (x7 + 1) (t_nnI v8 (Int32.not_le.mp c11)) (t_up (Int32.not_le.mp c11) hd3)
        refine z_icmp_ne hC (pc := 37) 109 dX0_ownPart_37 (by decide) (fun c16 => ?_) (fun c16 => ?_)
        · refine z_lvs [1, 2, 3, 4, 5] rfl ?_
          exact j109 w13 hw13 tKeep.rf
        · refine z_aload_n hC (pc := 40) 1 dX0_ownPart_40 rfl rfl ?_
          refine u_getK hC (pc := 41) zf0 1 (tKeep.F kw13 fa9 rfl) dX0_ownPart_41 zw449 (kk := ?_)
          refine u_getK hC (pc := 44) zf2 9 (tKeep.F kw13 fa12 rfl) dX0_ownPart_44 zw263 (kk := ?_)
          refine z_iload hC (pc := 47) 0 dX0_ownPart_47 rfl ?_
          refine z_iconst hC (pc := 49) (v := 1) dX0_ownPart_49 (by decide) ?_
          refine z_iadd hC (pc := 50) (v := ((x7 * 6) + 1)) dX0_ownPart_50 rfl ?_
          refine t_callSNi hC hw13 (pc := 51) (As := [.ref a12, .int ((x7 * 6) + 1)]) (kX12_get l G T κ hst hE ma12) trivial dmX12_get dX0_ownPart_51 zw1668 rfl rfl (Nat.le_of_ble_eq_true rfl) (Nat.le_of_ble_eq_true rfl) (Nat.le_of_ble_eq_true rfl) (Nat.le_of_ble_eq_true rfl) (Nat.le_of_ble_eq_true rfl) (fun _ _ _ h => nomatch h) (fun x18 cw17 nw17 w17 hw17 pw17 => ?_)
          obtain ⟨rfl, rfl, kw17⟩ := pw17
          refine z_iload_n hC (pc := 54) 3 dX0_ownPart_54 rfl rfl ?_
          refine z_icmp_ne hC (pc := 55) 109 dX0_ownPart_55 (by decide) (fun c19 => ?_) (fun c19 => ?_)
          · refine z_lvs [1, 2, 3, 4, 5] rfl ?_
            exact j109 w17 hw17 (tKeep.tr tKeep.rf kw17 rfl)
          · refine z_aload_n hC (pc := 58) 1 dX0_ownPart_58 rfl rfl ?_
            refine u_getK hC (pc := 59) zf0 1 (tKeep.F kw17 (tKeep.F kw13 fa9 rfl) rfl) dX0_ownPart_59 zw449 (kk := ?_)
            refine u_getK hC (pc := 62) zf2 9 (tKeep.F kw17 (tKeep.F kw13 fa12 rfl) rfl) dX0_ownPart_62 zw263 (kk := ?_)
            refine z_iload hC (pc := 65) 0 dX0_ownPart_65 rfl ?_
            refine t_callSNi hC hw17 (pc := 67) (As := [.ref a12, .int (x7 * 6)]) (kX12_get l G T κ hst hE ma12) trivial dmX12_get dX0_ownPart_67 zw1668 rfl rfl (Nat.le_of_ble_eq_true rfl) (Nat.le_of_ble_eq_true rfl) (Nat.le_of_ble_eq_true rfl) (Nat.le_of_ble_eq_true rfl) (Nat.le_of_ble_eq_true rfl) (fun _ _ _ h => nomatch h) (fun x21 cw20 nw20 w20 hw20 pw20 => ?_)
            obtain ⟨rfl, rfl, kw20⟩ := pw20
            refine z_iload_n hC (pc := 70) 2 dX0_ownPart_70 rfl rfl ?_
            refine z_icmp_ne hC (pc := 71) 109 dX0_ownPart_71 (by decide) (fun c22 => ?_) (fun c22 => ?_)
            · refine z_lvs [1, 2, 3, 4, 5] rfl ?_
              exact j109 w20 hw20 (tKeep.tr (tKeep.tr tKeep.rf kw17 rfl) kw20 rfl)
            · refine z_aload_n hC (pc := 74) 1 dX0_ownPart_74 rfl rfl ?_
              refine u_getK hC (pc := 75) zf0 1 (tKeep.F kw20 (tKeep.F kw17 (tKeep.F kw13 fa9 rfl) rfl) rfl) dX0_ownPart_75 zw449 (kk := ?_)
              refine u_getK hC (pc := 78) zf2 9 (tKeep.F kw20 (tKeep.F kw17 (tKeep.F kw13 fa12 rfl) rfl) rfl) dX0_ownPart_78 zw263 (kk := ?_)
              refine z_iload hC (pc := 81) 0 dX0_ownPart_81 rfl ?_
              refine z_iconst hC (pc := 83) (v := 4) dX0_ownPart_83 (by decide) ?_
              refine z_iadd hC (pc := 84) (v := ((x7 * 6) + 4)) dX0_ownPart_84 rfl ?_
              refine t_callSNi hC hw20 (pc := 85) (As := [.ref a12, .int ((x7 * 6) + 4)]) (kX12_get l G T κ hst hE ma12) trivial dmX12_get dX0_ownPart_85 zw1668 rfl rfl (Nat.le_of_ble_eq_true rfl) (Nat.le_of_ble_eq_true rfl) (Nat.le_of_ble_eq_true rfl) (Nat.le_of_ble_eq_true rfl) (Nat.le_of_ble_eq_true rfl) (fun _ _ _ h => nomatch h) (fun x24 cw23 nw23 w23 hw23 pw23 => ?_)
              obtain ⟨rfl, rfl, kw23⟩ := pw23
              refine z_if_ne hC (pc := 88) 109 dX0_ownPart_88 (by decide) (fun c25 => ?_) (fun c25 => ?_)
              · refine z_lvs [1, 2, 3, 4, 5] rfl ?_
                exact j109 w23 hw23 (tKeep.tr (tKeep.tr (tKeep.tr tKeep.rf kw17 rfl) kw20 rfl) kw23 rfl)
              · refine z_aload_n hC (pc := 91) 1 dX0_ownPart_91 rfl rfl ?_
                refine u_getK hC (pc := 92) zf0 1 (tKeep.F kw23 (tKeep.F kw20 (tKeep.F kw17 (tKeep.F kw13 fa9 rfl) rfl) rfl) rfl) dX0_ownPart_92 zw449 (kk := ?_)
                refine u_getK hC (pc := 95) zf2 9 (tKeep.F kw23 (tKeep.F kw20 (tKeep.F kw17 (tKeep.F kw13 fa12 rfl) rfl) rfl) rfl) dX0_ownPart_95 zw263 (kk := ?_)
                refine z_iload hC (pc := 98) 0 dX0_ownPart_98 rfl ?_
                refine z_iconst hC (pc := 100) (v := 3) dX0_ownPart_100 (by decide) ?_
                refine z_iadd hC (pc := 101) (v := ((x7 * 6) + 3)) dX0_ownPart_101 rfl ?_
                refine t_callSNi hC hw23 (pc := 102) (As := [.ref a12, .int ((x7 * 6) + 3)]) (kX12_get l G T κ hst hE ma12) trivial dmX12_get dX0_ownPart_102 zw1668 rfl rfl (Nat.le_of_ble_eq_true rfl) (Nat.le_of_ble_eq_true rfl) (Nat.le_of_ble_eq_true rfl) (Nat.le_of_ble_eq_true rfl) (Nat.le_of_ble_eq_true rfl) (fun _ _ _ h => nomatch h) (fun x27 cw26 nw26 w26 hw26 pw26 => ?_)
                obtain ⟨rfl, rfl, kw26⟩ := pw26
                refine z_bipush hC (pc := 105) (v := 6) dX0_ownPart_105 (by decide) ?_
                refine z_iadd hC (pc := 107) (v := (x27 + 6)) dX0_ownPart_107 rfl ?_
                exact hR _ _ _ _ _ _ dX0_ownPart_108 rfl (Nat.le_of_ble_eq_true rfl) (Nat.le_of_ble_eq_true rfl) ⟨hw26, rfl, rfl, (tKeep.tr (tKeep.tr (tKeep.tr (tKeep.tr (tKeep.tr (tKeep.tr tKeep.rf kw6 rfl) kw13 rfl) kw17 rfl) kw20 rfl) kw23 rfl) kw26 rfl)⟩
  refine z_lvs [1, 2, 3, 4, 0] rfl ?_
  exact j3 _ w0 hw0 tKeep.rf 0 (by decide) (Nat.le_refl _)
set_option maxRecDepth 20000 in
theorem kX0_checkDefs (l : Launch) (G : zG) (T : tT) (κ : Nat → List Nat) (hst : l.stackTraces = false) (hE : tE G T κ) {a0 : Nat} (h0 : a0 ∈ κ 0) : tMv l G T yX0_checkDefs cX0_checkDefs 5 [] 3 70 0 0 [.ref a0] uT (uPv 0x18) := by
  refine tMv.intro hst rfl (Nat.le_of_ble_eq_true rfl) ?_
  intro w0 hw0 _ X hC hR hO hX
  refine z_iconst hC (pc := 0) (v := 0) dX0_checkDefs_0 (by decide) ?_
  refine z_istore_n hC (pc := 1) (lv' := [(1, .int 0), (0, .ref a0)]) dX0_checkDefs_1 rfl (by decide) rfl ?_
  have j2 : ∀ (d2 : Nat), ∀ (w3 : va_W), tW T w3 → tKeep 0x18 w0 w3 → ∀ (x4 : Int32), ¬ x4 < 0 → (2 ^ 31 - (x4 : Int32).toInt).toNat ≤ d2 → zS X G 5 w3 [(0, .ref a0), (1, .int x4)] 0 0 2 [] := by
    intro d2
    induction d2 with
    | zero => intro w3 hw3 kw3 x4 v5 hd2; exact (t_zero hd2).elim
    | succ d2 ih2 =>
      intro w3 hw3 kw3 x4 v5 hd2
      refine z_iload_n hC (pc := 2) 1 dX0_checkDefs_2 rfl rfl ?_
      refine z_aload_n hC (pc := 3) 0 dX0_checkDefs_3 rfl rfl ?_
      refine u_get hC hw3 (pc := 4) zf0 1 (hE.o0 h0) rfl dX0_checkDefs_4 zw449 (kk := fun va6 ta6 fa6 => ?_)
      obtain ⟨a6, ma6, rfl⟩ := ta6
      refine u_get hC hw3 (pc := 7) zf2 8 (hE.o2 ma6) rfl dX0_checkDefs_7 zw261 (kk := fun vx7 tx7 fx7 => ?_)
      obtain ⟨x7, rfl⟩ := tx7
      refine z_icmp_ge hC (pc := 10) 206 dX0_checkDefs_10 (by decide) (fun c8 => ?_) (fun c8 => ?_)
      · exact hR _ _ _ _ _ dX0_checkDefs_206 (Nat.le_of_ble_eq_true rfl) (Nat.le_of_ble_eq_true rfl) ⟨hw3, rfl, rfl, (tKeep.tr tKeep.rf kw3 rfl)⟩
      · refine z_iload_n hC (pc := 13) 1 dX0_checkDefs_13 rfl rfl ?_
        refine z_bipush hC (pc := 14) (v := 7) dX0_checkDefs_14 (by decide) ?_
        refine z_imul hC (pc := 16) (v := (x4 * 7)) dX0_checkDefs_16 rfl ?_
        refine z_istore_n hC (pc := 17) (lv' := [(2, .int (x4 * 7)), (0, .ref a0), (1, .int x4)]) dX0_checkDefs_17 rfl (by decide) rfl ?_
        refine z_aload_n hC (pc := 18) 1 dX0_checkDefs_18 rfl rfl ?_
        refine u_getK hC (pc := 19) zf0 1 fa6 dX0_checkDefs_19 zw449 (kk := ?_)
        refine u_get hC hw3 (pc := 22) zf2 7 (hE.o2 ma6) rfl dX0_checkDefs_22 zw257 (kk := fun va9 ta9 fa9 => ?_)
        obtain ⟨a9, ma9, rfl⟩ := ta9
        refine z_iload_n hC (pc := 25) 0 dX0_checkDefs_25 rfl rfl ?_
        refine z_iconst hC (pc := 26) (v := 1) dX0_checkDefs_26 (by decide) ?_
        refine z_iadd hC (pc := 27) (v := ((x4 * 7) + 1)) dX0_checkDefs_27 rfl ?_
        refine t_callSNi hC hw3 (pc := 28) (As := [.ref a9, .int ((x4 * 7) + 1)]) (kX12_get l G T κ hst hE ma9) trivial dmX12_get dX0_checkDefs_28 zw1668 rfl rfl (Nat.le_of_ble_eq_true rfl) (Nat.le_of_ble_eq_true rfl) (Nat.le_of_ble_eq_true rfl) (Nat.le_of_ble_eq_true rfl) (Nat.le_of_ble_eq_true rfl) (fun _ _ _ h => nomatch h) (fun x11 cw10 nw10 w10 hw10 pw10 => ?_)
        obtain ⟨rfl, rfl, kw10⟩ := pw10
        refine z_aload_n hC (pc := 31) 1 dX0_checkDefs_31 rfl rfl ?_
        refine u_get hC hw10 (pc := 32) zf0 2 (hE.o0 h0) rfl dX0_checkDefs_32 zw450 (kk := fun vx12 tx12 fx12 => ?_)
        obtain ⟨x12, rfl⟩ := tx12
        have j200 : ∀ (w13 : va_W), tW T w13 → tKeep 0x18 w10 w13 → zS X G 5 w13 [(0, .ref a0), (1, .int x4)] 0 0 200 [] := by
          intro w13 hw13 kw13
          refine z_iinc hC (pc := 200) (v := (x4 + 1)) (lv' := [(1, .int (x4 + 1)), (0, .ref a0)]) 1 dX0_checkDefs_200 rfl (congrArg _ (by decide)) (by decide) rfl ?_
          refine z_goto hC (pc := 203) 2 dX0_checkDefs_203 (by decide) ?_
          refine z_lvs [1, 0] rfl ?_
          exact ih2 w13 hw13 (tKeep.tr (tKeep.tr (tKeep.tr tKeep.rf kw3 rfl) kw10 rfl) kw13 rfl) (x4 + 1) (t_nnI v5 (Int32.not_le.mp c8)) (t_up (Int32.not_le.mp c8) hd2)
        refine z_icmp_eq hC (pc := 35) 41 dX0_checkDefs_35 (by decide) (fun c14 => ?_) (fun c14 => ?_)
        · refine z_aload_n hC (pc := 41) 1 dX0_checkDefs_41 rfl rfl ?_
          refine u_getK hC (pc := 42) zf0 1 (tKeep.F kw10 fa6 rfl) dX0_checkDefs_42 zw449 (kk := ?_)
          refine u_getK hC (pc := 45) zf2 7 (tKeep.F kw10 fa9 rfl) dX0_checkDefs_45 zw257 (kk := ?_)
          refine z_iload_n hC (pc := 48) 0 dX0_checkDefs_48 rfl rfl ?_
          refine t_callSNi hC hw10 (pc := 49) (As := [.ref a9, .int (x4 * 7)]) (kX12_get l G T κ hst hE ma9) trivial dmX12_get dX0_checkDefs_49 zw1668 rfl rfl (Nat.le_of_ble_eq_true rfl) (Nat.le_of_ble_eq_true rfl) (Nat.le_of_ble_eq_true rfl) (Nat.le_of_ble_eq_true rfl) (Nat.le_of_ble_eq_true rfl) (fun _ _ _ h => nomatch h) (fun x16 cw15 nw15 w15 hw15 pw15 => ?_)
          obtain ⟨rfl, rfl, kw15⟩ := pw15
          refine z_iconst hC (pc := 52) (v := 1) dX0_checkDefs_52 (by decide) ?_
          refine z_icmp_ne hC (pc := 53) 64 dX0_checkDefs_53 (by decide) (fun c17 => ?_) (fun c17 => ?_)
          · refine z_aload_n hC (pc := 64) 1 dX0_checkDefs_64 rfl rfl ?_
            refine u_getK hC (pc := 65) zf0 1 (tKeep.F kw15 (tKeep.F kw10 fa6 rfl) rfl) dX0_checkDefs_65 zw449 (kk := ?_)
            refine u_getK hC (pc := 68) zf2 7 (tKeep.F kw15 (tKeep.F kw10 fa9 rfl) rfl) dX0_checkDefs_68 zw257 (kk := ?_)
            refine z_iload_n hC (pc := 71) 0 dX0_checkDefs_71 rfl rfl ?_
            refine t_callSNi hC hw15 (pc := 72) (As := [.ref a9, .int (x4 * 7)]) (kX12_get l G T κ hst hE ma9) trivial dmX12_get dX0_checkDefs_72 zw1668 rfl rfl (Nat.le_of_ble_eq_true rfl) (Nat.le_of_ble_eq_true rfl) (Nat.le_of_ble_eq_true rfl) (Nat.le_of_ble_eq_true rfl) (Nat.le_of_ble_eq_true rfl) (fun _ _ _ h => nomatch h) (fun x19 cw18 nw18 w18 hw18 pw18 => ?_)
            obtain ⟨rfl, rfl, kw18⟩ := pw18
            refine z_iconst hC (pc := 75) (v := 3) dX0_checkDefs_75 (by decide) ?_
            refine z_icmp_ne hC (pc := 76) 200 dX0_checkDefs_76 (by decide) (fun c20 => ?_) (fun c20 => ?_)
            · refine z_lvs [1, 2] rfl ?_
              exact j200 w18 hw18 (tKeep.tr (tKeep.tr tKeep.rf kw15 rfl) kw18 rfl)
            · refine z_aload_n hC (pc := 79) 1 dX0_checkDefs_79 rfl rfl ?_
              refine z_aload_n hC (pc := 80) 1 dX0_checkDefs_80 rfl rfl ?_
              refine u_getK hC (pc := 81) zf0 2 (tKeep.F kw18 (tKeep.F kw15 fx12 rfl) rfl) dX0_checkDefs_81 zw450 (kk := ?_)
              refine z_iconst hC (pc := 84) (v := 0) dX0_checkDefs_84 (by decide) ?_
              refine z_aload_n hC (pc := 85) 1 dX0_checkDefs_85 rfl rfl ?_
              refine u_getK hC (pc := 86) zf0 1 (tKeep.F kw18 (tKeep.F kw15 (tKeep.F kw10 fa6 rfl) rfl) rfl) dX0_checkDefs_86 zw449 (kk := ?_)
              refine u_getK hC (pc := 89) zf2 7 (tKeep.F kw18 (tKeep.F kw15 (tKeep.F kw10 fa9 rfl) rfl) rfl) dX0_checkDefs_89 zw257 (kk := ?_)
              refine z_iload_n hC (pc := 92) 0 dX0_checkDefs_92 rfl rfl ?_
              refine z_iconst hC (pc := 93) (v := 2) dX0_checkDefs_93 (by decide) ?_
              refine z_iadd hC (pc := 94) (v := ((x4 * 7) + 2)) dX0_checkDefs_94 rfl ?_
              refine t_callSNi hC hw18 (pc := 95) (As := [.ref a9, .int ((x4 * 7) + 2)]) (kX12_get l G T κ hst hE ma9) trivial dmX12_get dX0_checkDefs_95 zw1668 rfl rfl (Nat.le_of_ble_eq_true rfl) (Nat.le_of_ble_eq_true rfl) (Nat.le_of_ble_eq_true rfl) (Nat.le_of_ble_eq_true rfl) (Nat.le_of_ble_eq_true rfl) (fun _ _ _ h => nomatch h) (fun x22 cw21 nw21 w21 hw21 pw21 => ?_)
              obtain ⟨rfl, rfl, kw21⟩ := pw21
              obtain ⟨q23, hqq23⟩ := hE.o0 h0
              refine t_callVi hC hw21 (pc := 98) (As := [.int x12, .int 0, .int x22]) (kX0_templateFrom l G T κ hst hE h0) trivial dmX0_templateFrom zf0 hqq23 dX0_checkDefs_98 zw1693 rfl rfl (Nat.le_of_ble_eq_true rfl) (Nat.le_of_ble_eq_true rfl) (Nat.le_of_ble_eq_true rfl) (Nat.le_of_ble_eq_true rfl) (Nat.le_of_ble_eq_true rfl) (fun _ _ _ h => nomatch h) (fun x25 cw24 nw24 w24 hw24 pw24 => ?_)
              obtain ⟨rfl, rfl, kw24⟩ := pw24
              refine z_istore_n hC (pc := 101) (lv' := [(3, .int x25), (2, .int (x4 * 7)), (0, .ref a0), (1, .int x4)]) dX0_checkDefs_101 rfl (by decide) rfl ?_
              refine z_iload_n hC (pc := 102) 0 dX0_checkDefs_102 rfl rfl ?_
              refine z_iconst hC (pc := 103) (v := (-1)) dX0_checkDefs_103 (by decide) ?_
              have j173 : ∀ (w26 : va_W), tW T w26 → tKeep 0x0 w24 w26 → ∀ (x27 : Int32), tZ (.int x27) → zS X G 5 w26 [(0, .ref a0), (1, .int x4), (2, .int (x4 * 7))] 0 0 173 [.int x27] := by
                intro w26 hw26 kw26 x27 zx27
                refine z_istore hC (pc := 173) (lv' := [(4, .int x27), (0, .ref a0), (1, .int x4), (2, .int (x4 * 7))]) dX0_checkDefs_173 (by decide) rfl ?_
                refine z_iload hC (pc := 175) 0 dX0_checkDefs_175 rfl ?_
                refine z_if_ne hC (pc := 177) 200 dX0_checkDefs_177 (by decide) (fun c28 => ?_) (fun c28 => ?_)
                · refine z_lvs [1, 2] rfl ?_
                  exact j200 w26 hw26 (tKeep.tr (tKeep.tr (tKeep.tr (tKeep.tr (tKeep.tr tKeep.rf kw15 rfl) kw18 rfl) kw21 rfl) kw24 rfl) kw26 rfl)
                · refine z_aload_n hC (pc := 180) 1 dX0_checkDefs_180 rfl rfl ?_
                  refine z_bipush hC (pc := 181) (v := 9) dX0_checkDefs_181 (by decide) ?_
                  refine z_aload_n hC (pc := 183) 1 dX0_checkDefs_183 rfl rfl ?_
                  refine u_getK hC (pc := 184) zf0 1 (tKeep.F kw26 (tKeep.F kw24 (tKeep.F kw21 (tKeep.F kw18 (tKeep.F kw15 (tKeep.F kw10 fa6 rfl) rfl) rfl) rfl) rfl) rfl) dX0_checkDefs_184 zw449 (kk := ?_)
                  refine u_getK hC (pc := 187) zf2 7 (tKeep.F kw26 (tKeep.F kw24 (tKeep.F kw21 (tKeep.F kw18 (tKeep.F kw15 (tKeep.F kw10 fa9 rfl) rfl) rfl) rfl) rfl) rfl) dX0_checkDefs_187 zw257 (kk := ?_)
                  refine z_iload_n hC (pc := 190) 3 dX0_checkDefs_190 rfl rfl ?_
                  refine z_bipush hC (pc := 191) (v := 6) dX0_checkDefs_191 (by decide) ?_
                  refine z_iadd hC (pc := 193) (v := ((x4 * 7) + 6)) dX0_checkDefs_193 rfl ?_
                  refine t_callSNi hC hw26 (pc := 194) (As := [.ref a9, .int ((x4 * 7) + 6)]) (kX12_get l G T κ hst hE ma9) trivial dmX12_get dX0_checkDefs_194 zw1668 rfl rfl (Nat.le_of_ble_eq_true rfl) (Nat.le_of_ble_eq_true rfl) (Nat.le_of_ble_eq_true rfl) (Nat.le_of_ble_eq_true rfl) (Nat.le_of_ble_eq_true rfl) (fun _ _ _ h => nomatch h) (fun x30 cw29 nw29 w29 hw29 pw29 => ?_)
                  obtain ⟨rfl, rfl, kw29⟩ := pw29
                  refine t_callVv hC hw29 (pc := 197) (As := [.int 9, .int x30]) (kX0_mark l G T κ hst hE h0) trivial dmX0_mark zf0 hqq23 dX0_checkDefs_197 zw1689 rfl rfl (Nat.le_of_ble_eq_true rfl) (Nat.le_of_ble_eq_true rfl) (Nat.le_of_ble_eq_true rfl) (Nat.le_of_ble_eq_true rfl) (Nat.le_of_ble_eq_true rfl) (fun _ _ _ h => nomatch h) (fun cw31 nw31 w31 hw31 pw31 => ?_)
                  obtain ⟨rfl, rfl, kw31⟩ := pw31
                  refine z_lvs [1, 2] rfl ?_
                  exact j200 w31 hw31 (tKeep.tr (tKeep.tr (tKeep.tr (tKeep.tr (tKeep.tr (tKeep.tr (tKeep.tr tKeep.rf kw15 rfl) kw18 rfl) kw21 rfl) kw24 rfl) kw26 rfl) kw29 rfl) kw31 rfl)
              have j172 : ∀ (w33 : va_W), tW T w33 → tKeep 0x0 w24 w33 → zS X G 5 w33 [(0, .ref a0), (1, .int x4), (2, .int (x4 * 7))] 0 0 172 [] := by
                intro w33 hw33 kw33
                refine z_iconst hC (pc := 172) (v := 0) dX0_checkDefs_172 (by decide) ?_
                exact j173 w33 hw33 (tKeep.tr tKeep.rf kw33 rfl) 0 (Or.inl rfl)
              refine z_icmp_eq hC (pc := 104) 172 dX0_checkDefs_104 (by decide) (fun c34 => ?_) (fun c34 => ?_)
              · refine z_lvs [2, 3, 1] rfl ?_
                exact j172 w24 hw24 tKeep.rf
              · refine z_aload_n hC (pc := 107) 2 dX0_checkDefs_107 rfl rfl ?_
                refine u_getK hC (pc := 108) zf0 1 (tKeep.F kw24 (tKeep.F kw21 (tKeep.F kw18 (tKeep.F kw15 (tKeep.F kw10 fa6 rfl) rfl) rfl) rfl) rfl) dX0_checkDefs_108 zw449 (kk := ?_)
                refine u_getK hC (pc := 111) zf2 7 (tKeep.F kw24 (tKeep.F kw21 (tKeep.F kw18 (tKeep.F kw15 (tKeep.F kw10 fa9 rfl) rfl) rfl) rfl) rfl) dX0_checkDefs_111 zw257 (kk := ?_)
                refine z_iload_n hC (pc := 114) 0 dX0_checkDefs_114 rfl rfl ?_
                refine t_callSNi hC hw24 (pc := 115) (As := [.ref a9, .int x25]) (kX12_get l G T κ hst hE ma9) trivial dmX12_get dX0_checkDefs_115 zw1668 rfl rfl (Nat.le_of_ble_eq_true rfl) (Nat.le_of_ble_eq_true rfl) (Nat.le_of_ble_eq_true rfl) (Nat.le_of_ble_eq_true rfl) (Nat.le_of_ble_eq_true rfl) (fun _ _ _ h => nomatch h) (fun x36 cw35 nw35 w35 hw35 pw35 => ?_)
                obtain ⟨rfl, rfl, kw35⟩ := pw35
                refine z_if_ne hC (pc := 118) 172 dX0_checkDefs_118 (by decide) (fun c37 => ?_) (fun c37 => ?_)
                · refine z_lvs [2, 3, 1] rfl ?_
                  exact j172 w35 hw35 (tKeep.tr tKeep.rf kw35 rfl)
                · refine z_aload_n hC (pc := 121) 2 dX0_checkDefs_121 rfl rfl ?_
                  refine z_aload_n hC (pc := 122) 2 dX0_checkDefs_122 rfl rfl ?_
                  refine u_getK hC (pc := 123) zf0 1 (tKeep.F kw35 (tKeep.F kw24 (tKeep.F kw21 (tKeep.F kw18 (tKeep.F kw15 (tKeep.F kw10 fa6 rfl) rfl) rfl) rfl) rfl) rfl) dX0_checkDefs_123 zw449 (kk := ?_)
                  refine u_getK hC (pc := 126) zf2 7 (tKeep.F kw35 (tKeep.F kw24 (tKeep.F kw21 (tKeep.F kw18 (tKeep.F kw15 (tKeep.F kw10 fa9 rfl) rfl) rfl) rfl) rfl) rfl) dX0_checkDefs_126 zw257 (kk := ?_)
                  refine z_iload_n hC (pc := 129) 0 dX0_checkDefs_129 rfl rfl ?_
                  refine z_iconst hC (pc := 130) (v := 1) dX0_checkDefs_130 (by decide) ?_
                  refine z_iadd hC (pc := 131) (v := (x25 + 1)) dX0_checkDefs_131 rfl ?_
                  refine t_callSNi hC hw35 (pc := 132) (As := [.ref a9, .int (x25 + 1)]) (kX12_get l G T κ hst hE ma9) trivial dmX12_get dX0_checkDefs_132 zw1668 rfl rfl (Nat.le_of_ble_eq_true rfl) (Nat.le_of_ble_eq_true rfl) (Nat.le_of_ble_eq_true rfl) (Nat.le_of_ble_eq_true rfl) (Nat.le_of_ble_eq_true rfl) (fun _ _ _ h => nomatch h) (fun x39 cw38 nw38 w38 hw38 pw38 => ?_)
                  obtain ⟨rfl, rfl, kw38⟩ := pw38
                  refine z_aload_n hC (pc := 135) 2 dX0_checkDefs_135 rfl rfl ?_
                  refine u_getK hC (pc := 136) zf0 1 (tKeep.F kw38 (tKeep.F kw35 (tKeep.F kw24 (tKeep.F kw21 (tKeep.F kw18 (tKeep.F kw15 (tKeep.F kw10 fa6 rfl) rfl) rfl) rfl) rfl) rfl) rfl) dX0_checkDefs_136 zw449 (kk := ?_)
                  refine u_getK hC (pc := 139) zf2 7 (tKeep.F kw38 (tKeep.F kw35 (tKeep.F kw24 (tKeep.F kw21 (tKeep.F kw18 (tKeep.F kw15 (tKeep.F kw10 fa9 rfl) rfl) rfl) rfl) rfl) rfl) rfl) dX0_checkDefs_139 zw257 (kk := ?_)
                  refine z_iload_n hC (pc := 142) 1 dX0_checkDefs_142 rfl rfl ?_
                  refine z_iconst hC (pc := 143) (v := 2) dX0_checkDefs_143 (by decide) ?_
                  refine z_iadd hC (pc := 144) (v := ((x4 * 7) + 2)) dX0_checkDefs_144 rfl ?_
                  refine t_callSNi hC hw38 (pc := 145) (As := [.ref a9, .int ((x4 * 7) + 2)]) (kX12_get l G T κ hst hE ma9) trivial dmX12_get dX0_checkDefs_145 zw1668 rfl rfl (Nat.le_of_ble_eq_true rfl) (Nat.le_of_ble_eq_true rfl) (Nat.le_of_ble_eq_true rfl) (Nat.le_of_ble_eq_true rfl) (Nat.le_of_ble_eq_true rfl) (fun _ _ _ h => nomatch h) (fun x41 cw40 nw40 w40 hw40 pw40 => ?_)
                  obtain ⟨rfl, rfl, kw40⟩ := pw40
                  refine z_aload_n hC (pc := 148) 2 dX0_checkDefs_148 rfl rfl ?_
                  refine u_getK hC (pc := 149) zf0 1 (tKeep.F kw40 (tKeep.F kw38 (tKeep.F kw35 (tKeep.F kw24 (tKeep.F kw21 (tKeep.F kw18 (tKeep.F kw15 (tKeep.F kw10 fa6 rfl) rfl) rfl) rfl) rfl) rfl) rfl) rfl) dX0_checkDefs_149 zw449 (kk := ?_)
                  refine u_getK hC (pc := 152) zf2 7 (tKeep.F kw40 (tKeep.F kw38 (tKeep.F kw35 (tKeep.F kw24 (tKeep.F kw21 (tKeep.F kw18 (tKeep.F kw15 (tKeep.F kw10 fa9 rfl) rfl) rfl) rfl) rfl) rfl) rfl) rfl) dX0_checkDefs_152 zw257 (kk := ?_)
                  refine z_iload_n hC (pc := 155) 1 dX0_checkDefs_155 rfl rfl ?_
                  refine z_iconst hC (pc := 156) (v := 5) dX0_checkDefs_156 (by decide) ?_
                  refine z_iadd hC (pc := 157) (v := ((x4 * 7) + 5)) dX0_checkDefs_157 rfl ?_
                  refine t_callSNi hC hw40 (pc := 158) (As := [.ref a9, .int ((x4 * 7) + 5)]) (kX12_get l G T κ hst hE ma9) trivial dmX12_get dX0_checkDefs_158 zw1668 rfl rfl (Nat.le_of_ble_eq_true rfl) (Nat.le_of_ble_eq_true rfl) (Nat.le_of_ble_eq_true rfl) (Nat.le_of_ble_eq_true rfl) (Nat.le_of_ble_eq_true rfl) (fun _ _ _ h => nomatch h) (fun x43 cw42 nw42 w42 hw42 pw42 => ?_)
                  obtain ⟨rfl, rfl, kw42⟩ := pw42
                  refine t_callVi hC hw42 (pc := 161) (As := [.int x39, .int x41, .int x43]) (kX0_ownPart l G T κ hst hE h0) trivial dmX0_ownPart zf0 hqq23 dX0_checkDefs_161 zw1697 rfl rfl (Nat.le_of_ble_eq_true rfl) (Nat.le_of_ble_eq_true rfl) (Nat.le_of_ble_eq_true rfl) (Nat.le_of_ble_eq_true rfl) (Nat.le_of_ble_eq_true rfl) (fun _ _ _ h => nomatch h) (fun x45 cw44 nw44 w44 hw44 pw44 => ?_)
                  obtain ⟨rfl, rfl, kw44⟩ := pw44
                  refine z_iconst hC (pc := 164) (v := (-1)) dX0_checkDefs_164 (by decide) ?_
                  refine z_icmp_eq hC (pc := 165) 172 dX0_checkDefs_165 (by decide) (fun c46 => ?_) (fun c46 => ?_)
                  · refine z_lvs [2, 3, 1] rfl ?_
                    exact j172 w44 hw44 (tKeep.tr (tKeep.tr (tKeep.tr (tKeep.tr (tKeep.tr tKeep.rf kw35 rfl) kw38 rfl) kw40 rfl) kw42 rfl) kw44 rfl)
                  · refine z_iconst hC (pc := 168) (v := 1) dX0_checkDefs_168 (by decide) ?_
                    refine z_goto hC (pc := 169) 173 dX0_checkDefs_169 (by decide) ?_
                    refine z_lvs [2, 3, 1] rfl ?_
                    exact j173 w44 hw44 (tKeep.tr (tKeep.tr (tKeep.tr (tKeep.tr (tKeep.tr tKeep.rf kw35 rfl) kw38 rfl) kw40 rfl) kw42 rfl) kw44 rfl) 1 (Or.inr rfl)
          · refine z_aload_n hC (pc := 56) 1 dX0_checkDefs_56 rfl rfl ?_
            refine z_iload_n hC (pc := 57) 0 dX0_checkDefs_57 rfl rfl ?_
            obtain ⟨q47, hqq47⟩ := hE.o0 h0
            refine t_callVv hC hw15 (pc := 58) (As := [.int (x4 * 7)]) (kX0_checkAlias l G T κ hst hE h0) trivial dmX0_checkAlias zf0 hqq47 dX0_checkDefs_58 zw1685 rfl rfl (Nat.le_of_ble_eq_true rfl) (Nat.le_of_ble_eq_true rfl) (Nat.le_of_ble_eq_true rfl) (Nat.le_of_ble_eq_true rfl) (Nat.le_of_ble_eq_true rfl) (fun _ _ _ h => nomatch h) (fun cw48 nw48 w48 hw48 pw48 => ?_)
            obtain ⟨rfl, rfl, kw48⟩ := pw48
            refine z_goto hC (pc := 61) 200 dX0_checkDefs_61 (by decide) ?_
            refine z_lvs [1, 2] rfl ?_
            exact j200 w48 hw48 (tKeep.tr (tKeep.tr tKeep.rf kw15 rfl) kw48 rfl)
        · refine z_goto hC (pc := 38) 200 dX0_checkDefs_38 (by decide) ?_
          refine z_lvs [1, 2] rfl ?_
          exact j200 w10 hw10 tKeep.rf
  refine z_lvs [1, 0] rfl ?_
  exact j2 _ w0 hw0 tKeep.rf 0 (by decide) (Nat.le_refl _)
set_option maxRecDepth 20000 in
theorem kX2_textOf (l : Launch) (G : zG) (T : tT) (κ : Nat → List Nat) (hst : l.stackTraces = false) (hE : tE G T κ) {a0 : Nat} (h0 : a0 ∈ κ 2) {x1 : Int32} : tMi l G T yX2_textOf cX2_textOf 4 .int [] 1 21 0 0 [.ref a0, .int x1] uT (uPi 0x0) := by
  refine tMi.intro hst rfl (Nat.le_of_ble_eq_true rfl) ?_
  intro w0 hw0 _ X hC hR hO hX
  refine z_iload_n hC (pc := 0) 1 dX2_textOf_0 rfl rfl ?_
  refine z_istore_n hC (pc := 1) (lv' := [(2, .int x1), (0, .ref a0), (1, .int x1)]) dX2_textOf_1 rfl (by decide) rfl ?_
  refine z_iconst hC (pc := 2) (v := 0) dX2_textOf_2 (by decide) ?_
  refine z_istore_n hC (pc := 3) (lv' := [(3, .int 0), (2, .int x1), (0, .ref a0), (1, .int x1)]) dX2_textOf_3 rfl (by decide) rfl ?_
  have j4 : ∀ (d4 : Nat), ∀ (w4 : va_W), tW T w4 → tKeep 0x0 w0 w4 → ∀ (x5 : Int32), ∀ (x6 : Int32), ¬ x6 < 0 → (2 ^ 31 - (x6 : Int32).toInt).toNat ≤ d4 → zS X G 4 w4 [(0, .ref a0), (2, .int x5), (3, .int x6)] 0 0 4 [] := by
    intro d4
    induction d4 with
    | zero => intro w4 hw4 kw4 x5 x6 v7 hd4; exact (t_zero hd4).elim
    | succ d4 ih4 =>
      intro w4 hw4 kw4 x5 x6 v7 hd4
      refine z_iload_n hC (pc := 4) 2 dX2_textOf_4 rfl rfl ?_
      refine z_sipush hC (pc := 5) (v := 320) dX2_textOf_5 (by decide) ?_
      have j61 : zS X G 4 w4 [] 0 0 61 [] := by
        refine z_iconst hC (pc := 61) (v := (-1)) dX2_textOf_61 (by decide) ?_
        exact hR _ _ _ _ _ _ dX2_textOf_62 rfl (Nat.le_of_ble_eq_true rfl) (Nat.le_of_ble_eq_true rfl) ⟨hw4, rfl, rfl, (tKeep.tr tKeep.rf kw4 rfl)⟩
      refine z_icmp_gt hC (pc := 8) 61 dX2_textOf_8 (by decide) (fun c8 => ?_) (fun c8 => ?_)
      · refine z_lvs [] rfl ?_
        exact j61
      · refine z_iload_n hC (pc := 11) 1 dX2_textOf_11 rfl rfl ?_
        refine z_if_lt hC (pc := 12) 61 dX2_textOf_12 (by decide) (fun c9 => ?_) (fun c9 => ?_)
        · refine z_lvs [] rfl ?_
          exact j61
        · refine z_aload_n hC (pc := 15) 0 dX2_textOf_15 rfl rfl ?_
          refine u_get hC hw4 (pc := 16) zf2 7 (hE.o2 h0) rfl dX2_textOf_16 zw256 (kk := fun va10 ta10 fa10 => ?_)
          obtain ⟨a10, ma10, rfl⟩ := ta10
          refine z_iload_n hC (pc := 19) 1 dX2_textOf_19 rfl rfl ?_
          refine t_callSNi hC hw4 (pc := 20) (As := [.ref a10, .int x5]) (kX12_get l G T κ hst hE ma10) trivial dmX12_get dX2_textOf_20 zw1559 rfl rfl (Nat.le_of_ble_eq_true rfl) (Nat.le_of_ble_eq_true rfl) (Nat.le_of_ble_eq_true rfl) (Nat.le_of_ble_eq_true rfl) (Nat.le_of_ble_eq_true rfl) (fun _ _ _ h => nomatch h) (fun x12 cw11 nw11 w11 hw11 pw11 => ?_)
          obtain ⟨rfl, rfl, kw11⟩ := pw11
          refine z_if_ne hC (pc := 23) 37 dX2_textOf_23 (by decide) (fun c13 => ?_) (fun c13 => ?_)
          · refine z_aload_n hC (pc := 37) 0 dX2_textOf_37 rfl rfl ?_
            refine u_get hC hw11 (pc := 38) zf2 14 (hE.o2 h0) rfl dX2_textOf_38 zw274 (kk := fun va14 ta14 fa14 => ?_)
            obtain ⟨a14, ma14, rfl⟩ := ta14
            refine z_aload_n hC (pc := 41) 0 dX2_textOf_41 rfl rfl ?_
            refine u_getK hC (pc := 42) zf2 7 (tKeep.F kw11 fa10 rfl) dX2_textOf_42 zw256 (kk := ?_)
            refine z_iload_n hC (pc := 45) 1 dX2_textOf_45 rfl rfl ?_
            refine z_iconst hC (pc := 46) (v := 4) dX2_textOf_46 (by decide) ?_
            refine z_iadd hC (pc := 47) (v := (x5 + 4)) dX2_textOf_47 rfl ?_
            refine t_callSNi hC hw11 (pc := 48) (As := [.ref a10, .int (x5 + 4)]) (kX12_get l G T κ hst hE ma10) trivial dmX12_get dX2_textOf_48 zw1559 rfl rfl (Nat.le_of_ble_eq_true rfl) (Nat.le_of_ble_eq_true rfl) (Nat.le_of_ble_eq_true rfl) (Nat.le_of_ble_eq_true rfl) (Nat.le_of_ble_eq_true rfl) (fun _ _ _ h => nomatch h) (fun x16 cw15 nw15 w15 hw15 pw15 => ?_)
            obtain ⟨rfl, rfl, kw15⟩ := pw15
            refine t_callSNi hC hw15 (pc := 51) (As := [.ref a14, .int x16]) (kX12_get l G T κ hst hE ma14) trivial dmX12_get dX2_textOf_51 zw1559 rfl rfl (Nat.le_of_ble_eq_true rfl) (Nat.le_of_ble_eq_true rfl) (Nat.le_of_ble_eq_true rfl) (Nat.le_of_ble_eq_true rfl) (Nat.le_of_ble_eq_true rfl) (fun _ _ _ h => nomatch h) (fun x18 cw17 nw17 w17 hw17 pw17 => ?_)
            obtain ⟨rfl, rfl, kw17⟩ := pw17
            refine z_istore_n hC (pc := 54) (lv' := [(2, .int x18), (0, .ref a0), (3, .int x6)]) dX2_textOf_54 rfl (by decide) rfl ?_
            refine z_iinc hC (pc := 55) (v := (x6 + 1)) (lv' := [(3, .int (x6 + 1)), (2, .int x18), (0, .ref a0)]) 2 dX2_textOf_55 rfl (congrArg _ (by decide)) (by decide) rfl ?_
            refine z_goto hC (pc := 58) 4 dX2_textOf_58 (by decide) ?_
            refine z_lvs [2, 1, 0] rfl ?_
            exact ih4 w17 hw17 (tKeep.tr (tKeep.tr (tKeep.tr (tKeep.tr tKeep.rf kw4 rfl) kw11 rfl) kw15 rfl) kw17 rfl) x18 (x6 + 1) (t_nnI v7 (t_lec (Int32.not_lt.mp c8) (by decide))) (t_up (t_lec (Int32.not_lt.mp c8) (by decide)) hd4)
          · refine z_aload_n hC (pc := 26) 0 dX2_textOf_26 rfl rfl ?_
            refine u_getK hC (pc := 27) zf2 7 (tKeep.F kw11 fa10 rfl) dX2_textOf_27 zw256 (kk := ?_)
            refine z_iload_n hC (pc := 30) 1 dX2_textOf_30 rfl rfl ?_
            refine z_iconst hC (pc := 31) (v := 4) dX2_textOf_31 (by decide) ?_
            refine z_iadd hC (pc := 32) (v := (x5 + 4)) dX2_textOf_32 rfl ?_
            refine t_callSNi hC hw11 (pc := 33) (As := [.ref a10, .int (x5 + 4)]) (kX12_get l G T κ hst hE ma10) trivial dmX12_get dX2_textOf_33 zw1559 rfl rfl (Nat.le_of_ble_eq_true rfl) (Nat.le_of_ble_eq_true rfl) (Nat.le_of_ble_eq_true rfl) (Nat.le_of_ble_eq_true rfl) (Nat.le_of_ble_eq_true rfl) (fun _ _ _ h => nomatch h) (fun x20 cw19 nw19 w19 hw19 pw19 => ?_)
            obtain ⟨rfl, rfl, kw19⟩ := pw19
            exact hR _ _ _ _ _ _ dX2_textOf_36 rfl (Nat.le_of_ble_eq_true rfl) (Nat.le_of_ble_eq_true rfl) ⟨hw19, rfl, rfl, (tKeep.tr (tKeep.tr (tKeep.tr tKeep.rf kw4 rfl) kw11 rfl) kw19 rfl)⟩
  refine z_lvs [2, 1, 0] rfl ?_
  exact j4 _ w0 hw0 tKeep.rf x1 0 (by decide) (Nat.le_refl _)
set_option maxRecDepth 20000 in
theorem kX0_isNamed (l : Launch) (G : zG) (T : tT) (κ : Nat → List Nat) (hst : l.stackTraces = false) (hE : tE G T κ) {a0 : Nat} (h0 : a0 ∈ κ 0) {x1 : Int32} {x2 : Int32} : tMi l G T yX0_isNamed cX0_isNamed 5 .boolean [] 1 21 0 0 [.ref a0, .int x1, .int x2] uT (uPz 0x0) := by
  refine tMi.intro hst rfl (Nat.le_of_ble_eq_true rfl) ?_
  intro w0 hw0 _ X hC hR hO hX
  refine z_aload_n hC (pc := 0) 0 dX0_isNamed_0 rfl rfl ?_
  refine u_get hC hw0 (pc := 1) zf0 1 (hE.o0 h0) rfl dX0_isNamed_1 zw449 (kk := fun va5 ta5 fa5 => ?_)
  obtain ⟨a5, ma5, rfl⟩ := ta5
  refine u_get hC hw0 (pc := 4) zf2 2 (hE.o2 ma5) rfl dX0_isNamed_4 zw241 (kk := fun va6 ta6 fa6 => ?_)
  obtain ⟨a6, ma6, rfl⟩ := ta6
  refine z_iload_n hC (pc := 7) 1 dX0_isNamed_7 rfl rfl ?_
  refine z_bipush hC (pc := 8) (v := 6) dX0_isNamed_8 (by decide) ?_
  refine z_iadd hC (pc := 10) (v := (x1 + 6)) dX0_isNamed_10 rfl ?_
  refine t_callSNi hC hw0 (pc := 11) (As := [.ref a6, .int (x1 + 6)]) (kX12_get l G T κ hst hE ma6) trivial dmX12_get dX0_isNamed_11 zw1668 rfl rfl (Nat.le_of_ble_eq_true rfl) (Nat.le_of_ble_eq_true rfl) (Nat.le_of_ble_eq_true rfl) (Nat.le_of_ble_eq_true rfl) (Nat.le_of_ble_eq_true rfl) (fun _ _ _ h => nomatch h) (fun x8 cw7 nw7 w7 hw7 pw7 => ?_)
  obtain ⟨rfl, rfl, kw7⟩ := pw7
  refine z_istore_n hC (pc := 14) (lv' := [(3, .int x8), (0, .ref a0), (1, .int x1), (2, .int x2)]) dX0_isNamed_14 rfl (by decide) rfl ?_
  refine z_iconst hC (pc := 15) (v := 0) dX0_isNamed_15 (by decide) ?_
  refine z_istore hC (pc := 16) (lv' := [(4, .int 0), (3, .int x8), (0, .ref a0), (1, .int x1), (2, .int x2)]) dX0_isNamed_16 (by decide) rfl ?_
  have j18 : ∀ (d18 : Nat), ∀ (w9 : va_W), tW T w9 → tKeep 0x0 w7 w9 → ∀ (x10 : Int32), ∀ (x11 : Int32), ¬ x11 < 0 → (2 ^ 31 - (x11 : Int32).toInt).toNat ≤ d18 → zS X G 5 w9 [(0, .ref a0), (2, .int x2), (3, .int x10), (4, .int x11)] 0 0 18 [] := by
    intro d18
    induction d18 with
    | zero => intro w9 hw9 kw9 x10 x11 v12 hd18; exact (t_zero hd18).elim
    | succ d18 ih18 =>
      intro w9 hw9 kw9 x10 x11 v12 hd18
      refine z_iload hC (pc := 18) 3 dX0_isNamed_18 rfl ?_
      refine z_sipush hC (pc := 20) (v := 4000) dX0_isNamed_20 (by decide) ?_
      have j69 : zS X G 5 w9 [] 0 0 69 [] := by
        refine z_iconst hC (pc := 69) (v := 0) dX0_isNamed_69 (by decide) ?_
        exact hR _ _ _ _ _ _ dX0_isNamed_70 rfl (Nat.le_of_ble_eq_true rfl) (Nat.le_of_ble_eq_true rfl) ⟨hw9, rfl, rfl, (tKeep.tr (tKeep.tr tKeep.rf kw7 rfl) kw9 rfl), (Or.inl rfl)⟩
      refine z_icmp_ge hC (pc := 23) 69 dX0_isNamed_23 (by decide) (fun c13 => ?_) (fun c13 => ?_)
      · refine z_lvs [] rfl ?_
        exact j69
      · refine z_iload_n hC (pc := 26) 2 dX0_isNamed_26 rfl rfl ?_
        refine z_if_le hC (pc := 27) 69 dX0_isNamed_27 (by decide) (fun c14 => ?_) (fun c14 => ?_)
        · refine z_lvs [] rfl ?_
          exact j69
        · refine z_aload_n hC (pc := 30) 0 dX0_isNamed_30 rfl rfl ?_
          refine u_getK hC (pc := 31) zf0 1 (tKeep.F kw9 (tKeep.F kw7 fa5 rfl) rfl) dX0_isNamed_31 zw449 (kk := ?_)
          refine u_getK hC (pc := 34) zf2 2 (tKeep.F kw9 (tKeep.F kw7 fa6 rfl) rfl) dX0_isNamed_34 zw241 (kk := ?_)
          refine z_iload_n hC (pc := 37) 2 dX0_isNamed_37 rfl rfl ?_
          refine z_iconst hC (pc := 38) (v := 1) dX0_isNamed_38 (by decide) ?_
          refine z_iadd hC (pc := 39) (v := (x10 + 1)) dX0_isNamed_39 rfl ?_
          refine t_callSNi hC hw9 (pc := 40) (As := [.ref a6, .int (x10 + 1)]) (kX12_get l G T κ hst hE ma6) trivial dmX12_get dX0_isNamed_40 zw1668 rfl rfl (Nat.le_of_ble_eq_true rfl) (Nat.le_of_ble_eq_true rfl) (Nat.le_of_ble_eq_true rfl) (Nat.le_of_ble_eq_true rfl) (Nat.le_of_ble_eq_true rfl) (fun _ _ _ h => nomatch h) (fun x16 cw15 nw15 w15 hw15 pw15 => ?_)
          obtain ⟨rfl, rfl, kw15⟩ := pw15
          refine z_iload_n hC (pc := 43) 1 dX0_isNamed_43 rfl rfl ?_
          refine z_icmp_ne hC (pc := 44) 49 dX0_isNamed_44 (by decide) (fun c17 => ?_) (fun c17 => ?_)
          · refine z_aload_n hC (pc := 49) 0 dX0_isNamed_49 rfl rfl ?_
            refine u_getK hC (pc := 50) zf0 1 (tKeep.F kw15 (tKeep.F kw9 (tKeep.F kw7 fa5 rfl) rfl) rfl) dX0_isNamed_50 zw449 (kk := ?_)
            refine u_getK hC (pc := 53) zf2 2 (tKeep.F kw15 (tKeep.F kw9 (tKeep.F kw7 fa6 rfl) rfl) rfl) dX0_isNamed_53 zw241 (kk := ?_)
            refine z_iload_n hC (pc := 56) 2 dX0_isNamed_56 rfl rfl ?_
            refine z_iconst hC (pc := 57) (v := 3) dX0_isNamed_57 (by decide) ?_
            refine z_iadd hC (pc := 58) (v := (x10 + 3)) dX0_isNamed_58 rfl ?_
            refine t_callSNi hC hw15 (pc := 59) (As := [.ref a6, .int (x10 + 3)]) (kX12_get l G T κ hst hE ma6) trivial dmX12_get dX0_isNamed_59 zw1668 rfl rfl (Nat.le_of_ble_eq_true rfl) (Nat.le_of_ble_eq_true rfl) (Nat.le_of_ble_eq_true rfl) (Nat.le_of_ble_eq_true rfl) (Nat.le_of_ble_eq_true rfl) (fun _ _ _ h => nomatch h) (fun x19 cw18 nw18 w18 hw18 pw18 => ?_)
            obtain ⟨rfl, rfl, kw18⟩ := pw18
            refine z_istore_n hC (pc := 62) (lv' := [(3, .int x19), (0, .ref a0), (2, .int x2), (4, .int x11)]) dX0_isNamed_62 rfl (by decide) rfl ?_
            refine z_iinc hC (pc := 63) (v := (x11 + 1)) (lv' := [(4, .int (x11 + 1)), (3, .int x19), (0, .ref a0), (2, .int x2)]) 3 dX0_isNamed_63 rfl (congrArg _ (by decide)) (by decide) rfl ?_
            refine z_goto hC (pc := 66) 18 dX0_isNamed_66 (by decide) ?_
            refine z_lvs [2, 3, 1, 0] rfl ?_
            exact ih18 w18 hw18 (tKeep.tr (tKeep.tr (tKeep.tr tKeep.rf kw9 rfl) kw15 rfl) kw18 rfl) x19 (x11 + 1) (t_nnI v12 (Int32.not_le.mp c13)) (t_up (Int32.not_le.mp c13) hd18)
          · refine z_iconst hC (pc := 47) (v := 1) dX0_isNamed_47 (by decide) ?_
            exact hR _ _ _ _ _ _ dX0_isNamed_48 rfl (Nat.le_of_ble_eq_true rfl) (Nat.le_of_ble_eq_true rfl) ⟨hw15, rfl, rfl, (tKeep.tr (tKeep.tr (tKeep.tr tKeep.rf kw7 rfl) kw9 rfl) kw15 rfl), (Or.inr rfl)⟩
  refine z_lvs [2, 4, 1, 0] rfl ?_
  exact j18 _ w7 hw7 tKeep.rf x8 0 (by decide) (Nat.le_refl _)
set_option maxRecDepth 20000 in
theorem kX0_mayHaveArgs (l : Launch) (G : zG) (T : tT) (κ : Nat → List Nat) (hst : l.stackTraces = false) (hE : tE G T κ) {a0 : Nat} (h0 : a0 ∈ κ 0) {x1 : Int32} {x2 : Int32} : tMi l G T yX0_mayHaveArgs cX0_mayHaveArgs 9 .boolean [] 2 45 0 0 [.ref a0, .int x1, .int x2] uT (uPz 0x0) := by
  refine tMi.intro hst rfl (Nat.le_of_ble_eq_true rfl) ?_
  intro w0 hw0 _ X hC hR hO hX
  refine z_aload_n hC (pc := 0) 0 dX0_mayHaveArgs_0 rfl rfl ?_
  refine u_get hC hw0 (pc := 1) zf0 1 (hE.o0 h0) rfl dX0_mayHaveArgs_1 zw449 (kk := fun va5 ta5 fa5 => ?_)
  obtain ⟨a5, ma5, rfl⟩ := ta5
  refine u_get hC hw0 (pc := 4) zf2 2 (hE.o2 ma5) rfl dX0_mayHaveArgs_4 zw241 (kk := fun va6 ta6 fa6 => ?_)
  obtain ⟨a6, ma6, rfl⟩ := ta6
  refine z_iload_n hC (pc := 7) 2 dX0_mayHaveArgs_7 rfl rfl ?_
  refine z_iconst hC (pc := 8) (v := 2) dX0_mayHaveArgs_8 (by decide) ?_
  refine z_iadd hC (pc := 9) (v := (x2 + 2)) dX0_mayHaveArgs_9 rfl ?_
  refine t_callSNi hC hw0 (pc := 10) (As := [.ref a6, .int (x2 + 2)]) (kX12_get l G T κ hst hE ma6) trivial dmX12_get dX0_mayHaveArgs_10 zw1668 rfl rfl (Nat.le_of_ble_eq_true rfl) (Nat.le_of_ble_eq_true rfl) (Nat.le_of_ble_eq_true rfl) (Nat.le_of_ble_eq_true rfl) (Nat.le_of_ble_eq_true rfl) (fun _ _ _ h => nomatch h) (fun x8 cw7 nw7 w7 hw7 pw7 => ?_)
  obtain ⟨rfl, rfl, kw7⟩ := pw7
  refine z_istore_n hC (pc := 13) (lv' := [(3, .int x8), (0, .ref a0), (1, .int x1), (2, .int x2)]) dX0_mayHaveArgs_13 rfl (by decide) rfl ?_
  refine z_aload_n hC (pc := 14) 1 dX0_mayHaveArgs_14 rfl rfl ?_
  refine u_getK hC (pc := 15) zf0 1 (tKeep.F kw7 fa5 rfl) dX0_mayHaveArgs_15 zw449 (kk := ?_)
  refine u_getK hC (pc := 18) zf2 2 (tKeep.F kw7 fa6 rfl) dX0_mayHaveArgs_18 zw241 (kk := ?_)
  refine z_iload_n hC (pc := 21) 2 dX0_mayHaveArgs_21 rfl rfl ?_
  refine z_iconst hC (pc := 22) (v := 4) dX0_mayHaveArgs_22 (by decide) ?_
  refine z_iadd hC (pc := 23) (v := (x1 + 4)) dX0_mayHaveArgs_23 rfl ?_
  refine t_callSNi hC hw7 (pc := 24) (As := [.ref a6, .int (x1 + 4)]) (kX12_get l G T κ hst hE ma6) trivial dmX12_get dX0_mayHaveArgs_24 zw1668 rfl rfl (Nat.le_of_ble_eq_true rfl) (Nat.le_of_ble_eq_true rfl) (Nat.le_of_ble_eq_true rfl) (Nat.le_of_ble_eq_true rfl) (Nat.le_of_ble_eq_true rfl) (fun _ _ _ h => nomatch h) (fun x10 cw9 nw9 w9 hw9 pw9 => ?_)
  obtain ⟨rfl, rfl, kw9⟩ := pw9
  refine z_istore hC (pc := 27) (lv' := [(4, .int x10), (3, .int x8), (0, .ref a0), (1, .int x1), (2, .int x2)]) dX0_mayHaveArgs_27 (by decide) rfl ?_
  refine z_aload_n hC (pc := 29) 2 dX0_mayHaveArgs_29 rfl rfl ?_
  refine u_getK hC (pc := 30) zf0 1 (tKeep.F kw9 (tKeep.F kw7 fa5 rfl) rfl) dX0_mayHaveArgs_30 zw449 (kk := ?_)
  refine u_getK hC (pc := 33) zf2 2 (tKeep.F kw9 (tKeep.F kw7 fa6 rfl) rfl) dX0_mayHaveArgs_33 zw241 (kk := ?_)
  refine z_iload_n hC (pc := 36) 3 dX0_mayHaveArgs_36 rfl rfl ?_
  refine z_iconst hC (pc := 37) (v := 5) dX0_mayHaveArgs_37 (by decide) ?_
  refine z_iadd hC (pc := 38) (v := (x1 + 5)) dX0_mayHaveArgs_38 rfl ?_
  refine t_callSNi hC hw9 (pc := 39) (As := [.ref a6, .int (x1 + 5)]) (kX12_get l G T κ hst hE ma6) trivial dmX12_get dX0_mayHaveArgs_39 zw1668 rfl rfl (Nat.le_of_ble_eq_true rfl) (Nat.le_of_ble_eq_true rfl) (Nat.le_of_ble_eq_true rfl) (Nat.le_of_ble_eq_true rfl) (Nat.le_of_ble_eq_true rfl) (fun _ _ _ h => nomatch h) (fun x12 cw11 nw11 w11 hw11 pw11 => ?_)
  obtain ⟨rfl, rfl, kw11⟩ := pw11
  refine z_istore hC (pc := 42) (lv' := [(5, .int x12), (4, .int x10), (3, .int x8), (0, .ref a0), (1, .int x1), (2, .int x2)]) dX0_mayHaveArgs_42 (by decide) rfl ?_
  refine z_iload hC (pc := 44) 0 dX0_mayHaveArgs_44 rfl ?_
  refine z_bipush hC (pc := 46) (v := 8) dX0_mayHaveArgs_46 (by decide) ?_
  refine z_iand hC (pc := 48) (v := (x12 &&& 8)) dX0_mayHaveArgs_48 rfl ?_
  have j57 : ∀ (x13 : Int32), tZ (.int x13) → zS X G 9 w11 [(0, .ref a0), (1, .int x1), (2, .int x2), (3, .int x8), (4, .int x10), (5, .int x12)] 0 0 57 [.int x13] := by
    intro x13 zx13
    refine z_istore hC (pc := 57) (lv' := [(6, .int x13), (0, .ref a0), (1, .int x1), (2, .int x2), (3, .int x8), (4, .int x10), (5, .int x12)]) dX0_mayHaveArgs_57 (by decide) rfl ?_
    refine z_iload hC (pc := 59) 0 dX0_mayHaveArgs_59 rfl ?_
    refine z_iload_n hC (pc := 61) 4 dX0_mayHaveArgs_61 rfl rfl ?_
    refine z_icmp_le hC (pc := 62) 67 dX0_mayHaveArgs_62 (by decide) (fun c14 => ?_) (fun c14 => ?_)
    · refine z_iload hC (pc := 67) 6 dX0_mayHaveArgs_67 rfl ?_
      refine z_iconst hC (pc := 69) (v := 1) dX0_mayHaveArgs_69 (by decide) ?_
      refine z_iand hC (pc := 70) (v := (x12 &&& 1)) dX0_mayHaveArgs_70 rfl ?_
      have j89 : ∀ (x15 : Int32), zS X G 9 w11 [(0, .ref a0), (1, .int x1), (2, .int x2), (3, .int x8), (5, .int x12), (6, .int x15)] 0 0 89 [] := by
        intro x15
        refine z_iload hC (pc := 89) 5 dX0_mayHaveArgs_89 rfl ?_
        refine z_istore hC (pc := 91) (lv' := [(7, .int x15), (0, .ref a0), (1, .int x1), (2, .int x2), (3, .int x8), (5, .int x12), (6, .int x15)]) dX0_mayHaveArgs_91 (by decide) rfl ?_
        have j93 : ∀ (d93 : Nat), ∀ (w16 : va_W), tW T w16 → tKeep 0x0 w11 w16 → ∀ (x17 : Int32), (2 ^ 31 - (x17 : Int32).toInt).toNat ≤ d93 → zS X G 9 w16 [(0, .ref a0), (1, .int x1), (2, .int x2), (3, .int x8), (5, .int x12), (7, .int x17)] 0 0 93 [] := by
          intro d93
          induction d93 with
          | zero => intro w16 hw16 kw16 x17 hd93; exact (t_zero hd93).elim
          | succ d93 ih93 =>
            intro w16 hw16 kw16 x17 hd93
            refine z_iload hC (pc := 93) 5 dX0_mayHaveArgs_93 rfl ?_
            refine z_iload_n hC (pc := 95) 3 dX0_mayHaveArgs_95 rfl rfl ?_
            have j175 : zS X G 9 w16 [] 0 0 175 [] := by
              refine z_iconst hC (pc := 175) (v := 1) dX0_mayHaveArgs_175 (by decide) ?_
              exact hR _ _ _ _ _ _ dX0_mayHaveArgs_176 rfl (Nat.le_of_ble_eq_true rfl) (Nat.le_of_ble_eq_true rfl) ⟨hw16, rfl, rfl, (tKeep.tr (tKeep.tr (tKeep.tr (tKeep.tr tKeep.rf kw7 rfl) kw9 rfl) kw11 rfl) kw16 rfl), (Or.inr rfl)⟩
            refine z_icmp_ge hC (pc := 96) 175 dX0_mayHaveArgs_96 (by decide) (fun c18 => ?_) (fun c18 => ?_)
            · refine z_lvs [] rfl ?_
              exact j175
            · refine z_iload hC (pc := 99) 4 dX0_mayHaveArgs_99 rfl ?_
              refine z_iconst hC (pc := 101) (v := 2) dX0_mayHaveArgs_101 (by decide) ?_
              refine z_iand hC (pc := 102) (v := (x12 &&& 2)) dX0_mayHaveArgs_102 rfl ?_
              refine z_if_ne hC (pc := 103) 175 dX0_mayHaveArgs_103 (by decide) (fun c19 => ?_) (fun c19 => ?_)
              · refine z_lvs [] rfl ?_
                exact j175
              · refine z_aload_n hC (pc := 106) 0 dX0_mayHaveArgs_106 rfl rfl ?_
                refine u_getK hC (pc := 107) zf0 1 (tKeep.F kw16 (tKeep.F kw11 (tKeep.F kw9 (tKeep.F kw7 fa5 rfl) rfl) rfl) rfl) dX0_mayHaveArgs_107 zw449 (kk := ?_)
                refine u_getK hC (pc := 110) zf2 2 (tKeep.F kw16 (tKeep.F kw11 (tKeep.F kw9 (tKeep.F kw7 fa6 rfl) rfl) rfl) rfl) dX0_mayHaveArgs_110 zw241 (kk := ?_)
                refine z_iload_n hC (pc := 113) 2 dX0_mayHaveArgs_113 rfl rfl ?_
                refine z_iconst hC (pc := 114) (v := 4) dX0_mayHaveArgs_114 (by decide) ?_
                refine z_iadd hC (pc := 115) (v := (x2 + 4)) dX0_mayHaveArgs_115 rfl ?_
                refine z_iconst hC (pc := 116) (v := 2) dX0_mayHaveArgs_116 (by decide) ?_
                refine z_iload hC (pc := 117) 5 dX0_mayHaveArgs_117 rfl ?_
                refine z_imul hC (pc := 119) (v := ((2 : Int32) * x17)) dX0_mayHaveArgs_119 rfl ?_
                refine z_iadd hC (pc := 120) (v := ((x2 + 4) + ((2 : Int32) * x17))) dX0_mayHaveArgs_120 rfl ?_
                refine t_callSNi hC hw16 (pc := 121) (As := [.ref a6, .int ((x2 + 4) + ((2 : Int32) * x17))]) (kX12_get l G T κ hst hE ma6) trivial dmX12_get dX0_mayHaveArgs_121 zw1668 rfl rfl (Nat.le_of_ble_eq_true rfl) (Nat.le_of_ble_eq_true rfl) (Nat.le_of_ble_eq_true rfl) (Nat.le_of_ble_eq_true rfl) (Nat.le_of_ble_eq_true rfl) (fun _ _ _ h => nomatch h) (fun x21 cw20 nw20 w20 hw20 pw20 => ?_)
                obtain ⟨rfl, rfl, kw20⟩ := pw20
                refine z_ldc hC (pc := 124) (v := 1476395008) dX0_mayHaveArgs_124 zw1717 ?_
                have j134 : ∀ (x22 : Int32), tZ (.int x22) → zS X G 9 w20 [(0, .ref a0), (1, .int x1), (2, .int x2), (3, .int x8), (5, .int x12), (7, .int x17)] 0 0 134 [.int x22] := by
                  intro x22 zx22
                  refine z_istore hC (pc := 134) (lv' := [(8, .int x22), (0, .ref a0), (1, .int x1), (2, .int x2), (3, .int x8), (5, .int x12), (7, .int x17)]) dX0_mayHaveArgs_134 (by decide) rfl ?_
                  refine z_iload hC (pc := 136) 0 dX0_mayHaveArgs_136 rfl ?_
                  have j169 : ∀ (w23 : va_W), tW T w23 → tKeep 0x0 w20 w23 → zS X G 9 w23 [(0, .ref a0), (1, .int x1), (2, .int x2), (3, .int x8), (5, .int x12), (7, .int x17)] 0 0 169 [] := by
                    intro w23 hw23 kw23
                    refine z_iinc hC (pc := 169) (v := (x17 + 1)) (lv' := [(7, .int (x17 + 1)), (0, .ref a0), (1, .int x1), (2, .int x2), (3, .int x8), (5, .int x12)]) 5 dX0_mayHaveArgs_169 rfl (congrArg _ (by decide)) (by decide) rfl ?_
                    refine z_goto hC (pc := 172) 93 dX0_mayHaveArgs_172 (by decide) ?_
                    refine z_lvs [1, 2, 3, 4, 5, 0] rfl ?_
                    exact ih93 w23 hw23 (tKeep.tr (tKeep.tr (tKeep.tr tKeep.rf kw16 rfl) kw20 rfl) kw23 rfl) (x17 + 1) (t_up (Int32.not_le.mp c18) hd93)
                  refine z_if_eq hC (pc := 138) 169 dX0_mayHaveArgs_138 (by decide) (fun c24 => ?_) (fun c24 => ?_)
                  · refine z_lvs [1, 2, 3, 4, 5, 6] rfl ?_
                    exact j169 w20 hw20 tKeep.rf
                  · refine z_aload_n hC (pc := 141) 1 dX0_mayHaveArgs_141 rfl rfl ?_
                    refine z_iload_n hC (pc := 142) 2 dX0_mayHaveArgs_142 rfl rfl ?_
                    refine z_aload_n hC (pc := 143) 1 dX0_mayHaveArgs_143 rfl rfl ?_
                    refine u_getK hC (pc := 144) zf0 1 (tKeep.F kw20 (tKeep.F kw16 (tKeep.F kw11 (tKeep.F kw9 (tKeep.F kw7 fa5 rfl) rfl) rfl) rfl) rfl) dX0_mayHaveArgs_144 zw449 (kk := ?_)
                    refine u_getK hC (pc := 147) zf2 2 (tKeep.F kw20 (tKeep.F kw16 (tKeep.F kw11 (tKeep.F kw9 (tKeep.F kw7 fa6 rfl) rfl) rfl) rfl) rfl) dX0_mayHaveArgs_147 zw241 (kk := ?_)
                    refine z_iload_n hC (pc := 150) 3 dX0_mayHaveArgs_150 rfl rfl ?_
                    refine z_iconst hC (pc := 151) (v := 3) dX0_mayHaveArgs_151 (by decide) ?_
                    refine z_iadd hC (pc := 152) (v := (x2 + 3)) dX0_mayHaveArgs_152 rfl ?_
                    refine z_iconst hC (pc := 153) (v := 2) dX0_mayHaveArgs_153 (by decide) ?_
                    refine z_iload hC (pc := 154) 6 dX0_mayHaveArgs_154 rfl ?_
                    refine z_imul hC (pc := 156) (v := ((2 : Int32) * x17)) dX0_mayHaveArgs_156 rfl ?_
                    refine z_iadd hC (pc := 157) (v := ((x2 + 3) + ((2 : Int32) * x17))) dX0_mayHaveArgs_157 rfl ?_
                    refine t_callSNi hC hw20 (pc := 158) (As := [.ref a6, .int ((x2 + 3) + ((2 : Int32) * x17))]) (kX12_get l G T κ hst hE ma6) trivial dmX12_get dX0_mayHaveArgs_158 zw1668 rfl rfl (Nat.le_of_ble_eq_true rfl) (Nat.le_of_ble_eq_true rfl) (Nat.le_of_ble_eq_true rfl) (Nat.le_of_ble_eq_true rfl) (Nat.le_of_ble_eq_true rfl) (fun _ _ _ h => nomatch h) (fun x26 cw25 nw25 w25 hw25 pw25 => ?_)
                    obtain ⟨rfl, rfl, kw25⟩ := pw25
                    obtain ⟨q27, hqq27⟩ := hE.o0 h0
                    refine t_callVi hC hw25 (pc := 161) (As := [.int x1, .int x26]) (kX0_isNamed l G T κ hst hE h0) trivial dmX0_isNamed zf0 hqq27 dX0_mayHaveArgs_161 zw1718 rfl rfl (Nat.le_of_ble_eq_true rfl) (Nat.le_of_ble_eq_true rfl) (Nat.le_of_ble_eq_true rfl) (Nat.le_of_ble_eq_true rfl) (Nat.le_of_ble_eq_true rfl) (fun _ _ _ h => nomatch h) (fun x29 cw28 nw28 w28 hw28 pw28 => ?_)
                    obtain ⟨rfl, rfl, kw28, zx29⟩ := pw28
                    refine z_if_ne hC (pc := 164) 169 dX0_mayHaveArgs_164 (by decide) (fun c30 => ?_) (fun c30 => ?_)
                    · refine z_lvs [1, 2, 3, 4, 5, 6] rfl ?_
                      exact j169 w28 hw28 (tKeep.tr (tKeep.tr tKeep.rf kw25 rfl) kw28 rfl)
                    · refine z_iconst hC (pc := 167) (v := 0) dX0_mayHaveArgs_167 (by decide) ?_
                      exact hR _ _ _ _ _ _ dX0_mayHaveArgs_168 rfl (Nat.le_of_ble_eq_true rfl) (Nat.le_of_ble_eq_true rfl) ⟨hw28, rfl, rfl, (tKeep.tr (tKeep.tr (tKeep.tr (tKeep.tr (tKeep.tr (tKeep.tr (tKeep.tr tKeep.rf kw7 rfl) kw9 rfl) kw11 rfl) kw16 rfl) kw20 rfl) kw25 rfl) kw28 rfl), (Or.inl rfl)⟩
                refine z_icmp_ne hC (pc := 126) 133 dX0_mayHaveArgs_126 (by decide) (fun c31 => ?_) (fun c31 => ?_)
                · refine z_iconst hC (pc := 133) (v := 0) dX0_mayHaveArgs_133 (by decide) ?_
                  exact j134 0 (Or.inl rfl)
                · refine z_iconst hC (pc := 129) (v := 1) dX0_mayHaveArgs_129 (by decide) ?_
                  refine z_goto hC (pc := 130) 134 dX0_mayHaveArgs_130 (by decide) ?_
                  exact j134 1 (Or.inr rfl)
        refine z_lvs [1, 2, 3, 4, 5, 0] rfl ?_
        exact j93 _ w11 hw11 tKeep.rf x15 (Nat.le_refl _)
      refine z_if_ne hC (pc := 71) 89 dX0_mayHaveArgs_71 (by decide) (fun c32 => ?_) (fun c32 => ?_)
      · refine z_lvs [1, 2, 3, 4, 6, 0] rfl ?_
        exact j89 x13
      · refine z_iload hC (pc := 74) 0 dX0_mayHaveArgs_74 rfl ?_
        refine z_iload hC (pc := 76) 5 dX0_mayHaveArgs_76 rfl ?_
        refine z_iadd hC (pc := 78) (v := (x13 + x10)) dX0_mayHaveArgs_78 rfl ?_
        refine z_istore hC (pc := 79) (lv' := [(6, .int (x13 + x10)), (0, .ref a0), (1, .int x1), (2, .int x2), (3, .int x8), (4, .int x10), (5, .int x12)]) dX0_mayHaveArgs_79 (by decide) rfl ?_
        refine z_iload hC (pc := 81) 0 dX0_mayHaveArgs_81 rfl ?_
        refine z_iload_n hC (pc := 83) 4 dX0_mayHaveArgs_83 rfl rfl ?_
        refine z_icmp_le hC (pc := 84) 89 dX0_mayHaveArgs_84 (by decide) (fun c33 => ?_) (fun c33 => ?_)
        · refine z_lvs [1, 2, 3, 4, 6, 0] rfl ?_
          exact j89 (x13 + x10)
        · refine z_iconst hC (pc := 87) (v := 0) dX0_mayHaveArgs_87 (by decide) ?_
          exact hR _ _ _ _ _ _ dX0_mayHaveArgs_88 rfl (Nat.le_of_ble_eq_true rfl) (Nat.le_of_ble_eq_true rfl) ⟨hw11, rfl, rfl, (tKeep.tr (tKeep.tr (tKeep.tr tKeep.rf kw7 rfl) kw9 rfl) kw11 rfl), (Or.inl rfl)⟩
    · refine z_iconst hC (pc := 65) (v := 0) dX0_mayHaveArgs_65 (by decide) ?_
      exact hR _ _ _ _ _ _ dX0_mayHaveArgs_66 rfl (Nat.le_of_ble_eq_true rfl) (Nat.le_of_ble_eq_true rfl) ⟨hw11, rfl, rfl, (tKeep.tr (tKeep.tr (tKeep.tr tKeep.rf kw7 rfl) kw9 rfl) kw11 rfl), (Or.inl rfl)⟩
  refine z_if_eq hC (pc := 49) 56 dX0_mayHaveArgs_49 (by decide) (fun c34 => ?_) (fun c34 => ?_)
  · refine z_iconst hC (pc := 56) (v := 0) dX0_mayHaveArgs_56 (by decide) ?_
    refine z_lvs [3, 4, 5, 2, 1, 0] rfl ?_
    exact j57 0 (Or.inl rfl)
  · refine z_iconst hC (pc := 52) (v := 1) dX0_mayHaveArgs_52 (by decide) ?_
    refine z_goto hC (pc := 53) 57 dX0_mayHaveArgs_53 (by decide) ?_
    refine z_lvs [3, 4, 5, 2, 1, 0] rfl ?_
    exact j57 1 (Or.inr rfl)
