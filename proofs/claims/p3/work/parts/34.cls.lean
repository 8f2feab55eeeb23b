theorem zw1634 : Cond.constant "TemplateHouse$Gen" 93 (134217727 : Int32) ∈ zT := zsub7 194 (by decide +kernel) (by decide +kernel)
theorem zw1635 : Cond.methodLinkNest "TemplateHouse$Gen" 94 ⟨"TemplateHouse", "same", "([BI[BII)Z"⟩ "TemplateHouse" ∈ zNest := zsubN7 195 (by decide +kernel) (by decide +kernel)
theorem zw387 : Cond.fieldLink "TemplateHouse$FileReader" 57 "TemplateHouse$FileReader" "g" "LTemplateHouse$Gen;" ∈ zT := zsub2 147 (by decide +kernel) (by decide +kernel)
theorem zw1342 : Cond.methodLink "TemplateHouse$FileReader" 276 ⟨"TemplateHouse$Source", "string", "(LTemplateHouse$Gen;I)I"⟩ ∈ zT := zsub6 142 (by decide +kernel) (by decide +kernel)
theorem zw394 : Cond.fieldLink "TemplateHouse$FileReader" 28 "TemplateHouse$FileReader" "entries" "I" ∈ zT := zsub2 154 (by decide +kernel) (by decide +kernel)
theorem zw392 : Cond.fieldLink "TemplateHouse$FileReader" 22 "TemplateHouse$FileReader" "keys" "[I" ∈ zT := zsub2 152 (by decide +kernel) (by decide +kernel)
theorem zw1630 : Cond.methodLink "TemplateHouse$FileReader" 300 ⟨"TemplateHouse$Gen", "sameString", "(II)Z"⟩ ∈ zT := zsub7 190 (by decide +kernel) (by decide +kernel)
theorem zw1659 : Cond.methodLink "TemplateHouse$Imports" 45 ⟨"TemplateHouse$Imports", "extend", "([I[IIII)V"⟩ ∈ zT := zsub7 219 (by decide +kernel) (by decide +kernel)
theorem zw1633 : Cond.code ⟨"TemplateHouse$Gen", "sameString", "(II)Z"⟩ prog_4_method_10_code 4 (Option.some Jvm.ClassFile.FieldType.boolean) ∈ zT := zsub7 193 rfl rfl
theorem zw1631 : Cond.instanceMethod ⟨"TemplateHouse$Gen", "sameString", "(II)Z"⟩ ∈ zT := zsub7 191 (by decide +kernel) (by decide +kernel)
theorem zw1632 : Cond.selects "TemplateHouse$Gen" ⟨"TemplateHouse$Gen", "sameString", "(II)Z"⟩ ⟨"TemplateHouse$Gen", "sameString", "(II)Z"⟩ ∈ zT := zsub7 192 (by decide +kernel) (by decide +kernel)
theorem zw1629 : Cond.code ⟨"TemplateHouse$FileReader", "newKey", "()I"⟩ prog_3_method_18_code 4 (Option.some Jvm.ClassFile.FieldType.int) ∈ zT := zsub7 189 rfl rfl
theorem zw1628 : Cond.instanceMethod ⟨"TemplateHouse$FileReader", "newKey", "()I"⟩ ∈ zT := zsub7 188 (by decide +kernel) (by decide +kernel)
theorem zwp26 : Cond.selects "TemplateHouse$FileReader" ⟨"TemplateHouse$FileReader", "newKey", "()I"⟩ ⟨"TemplateHouse$FileReader", "newKey", "()I"⟩ ∈ zT := zin 26 (by decide +kernel) (by decide +kernel)
theorem zw1644 : Cond.code ⟨"TemplateHouse$TextReader", "startText", "()V"⟩ prog_12_method_5_code 1 (Option.none : Option Jvm.ClassFile.FieldType) ∈ zT := zsub7 204 rfl rfl
theorem zw1642 : Cond.instanceMethod ⟨"TemplateHouse$TextReader", "startText", "()V"⟩ ∈ zT := zsub7 202 (by decide +kernel) (by decide +kernel)
theorem zw1643 : Cond.selects "TemplateHouse$TextReader" ⟨"TemplateHouse$TextReader", "startText", "()V"⟩ ⟨"TemplateHouse$TextReader", "startText", "()V"⟩ ∈ zT := zsub7 203 (by decide +kernel) (by decide +kernel)
theorem zw1650 : Cond.code ⟨"TemplateHouse$Source", "closeBody", "()V"⟩ prog_9_method_4_code 1 (Option.none : Option Jvm.ClassFile.FieldType) ∈ zT := zsub7 210 rfl rfl
theorem zw1648 : Cond.instanceMethod ⟨"TemplateHouse$Source", "closeBody", "()V"⟩ ∈ zT := zsub7 208 (by decide +kernel) (by decide +kernel)
theorem zw1649 : Cond.selects "TemplateHouse$Source" ⟨"TemplateHouse$Source", "closeBody", "()V"⟩ ⟨"TemplateHouse$Source", "closeBody", "()V"⟩ ∈ zT := zsub7 209 (by decide +kernel) (by decide +kernel)
theorem zw1662 : Cond.code ⟨"TemplateHouse$Imports", "extend", "([I[IIII)V"⟩ prog_6_method_9_code 8 (Option.none : Option Jvm.ClassFile.FieldType) ∈ zT := zsub7 222 rfl rfl
theorem zw1661 : Cond.instanceMethod ⟨"TemplateHouse$Imports", "extend", "([I[IIII)V"⟩ ∈ zT := zsub7 221 (by decide +kernel) (by decide +kernel)
theorem zwp34 : Cond.selects "TemplateHouse$Imports" ⟨"TemplateHouse$Imports", "extend", "([I[IIII)V"⟩ ⟨"TemplateHouse$Imports", "extend", "([I[IIII)V"⟩ ∈ zT := zin 34 (by decide +kernel) (by decide +kernel)
abbrev cX2_sameString : ByteArray := prog_4_method_10_code
abbrev yX2_sameString : MethodName := ⟨"TemplateHouse$Gen", "sameString", "(II)Z"⟩
theorem dmX2_sameString : zDv yX2_sameString cX2_sameString 4 (some .boolean) 2 := ⟨⟨⟨by decide +kernel, by decide +kernel, by decide +kernel⟩, zw1633, zw4⟩, zw1631, zw1632⟩
abbrev cX1_newKey : ByteArray := prog_3_method_18_code
abbrev yX1_newKey : MethodName := ⟨"TemplateHouse$FileReader", "newKey", "()I"⟩
theorem dmX1_newKey : zDv yX1_newKey cX1_newKey 4 (some .int) 0 := ⟨⟨⟨by decide +kernel, by decide +kernel, by decide +kernel⟩, zw1629, zw7⟩, zw1628, zwp26⟩
abbrev cX10_startText : ByteArray := prog_12_method_5_code
abbrev yX10_startText : MethodName := ⟨"TemplateHouse$TextReader", "startText", "()V"⟩
theorem dmX10_startText : zDv yX10_startText cX10_startText 1 none 0 := ⟨⟨⟨by decide +kernel, by decide +kernel, by decide +kernel⟩, zw1644, zw8⟩, zw1642, zw1643⟩
abbrev cX7_closeBody : ByteArray := prog_9_method_4_code
abbrev yX7_closeBody : MethodName := ⟨"TemplateHouse$Source", "closeBody", "()V"⟩
theorem dmX7_closeBody : zDv yX7_closeBody cX7_closeBody 1 none 0 := ⟨⟨⟨by decide +kernel, by decide +kernel, by decide +kernel⟩, zw1650, zw3⟩, zw1648, zw1649⟩
abbrev cX4_extend : ByteArray := prog_6_method_9_code
abbrev yX4_extend : MethodName := ⟨"TemplateHouse$Imports", "extend", "([I[IIII)V"⟩
theorem dmX4_extend : zDv yX4_extend cX4_extend 8 none 5 := ⟨⟨⟨by decide +kernel, by decide +kernel, by decide +kernel⟩, zw1662, zw6⟩, zw1661, zwp34⟩
theorem dX2_sameString_0 : decode cX2_sameString 0 = .ok (.iload_n 1, 1) := by decide +kernel
theorem dX2_sameString_1 : decode cX2_sameString 1 = .ok (.sipush 4095, 3) := by decide +kernel
theorem dX2_sameString_4 : decode cX2_sameString 4 = .ok (.iand, 1) := by decide +kernel
theorem dX2_sameString_5 : decode cX2_sameString 5 = .ok (.istore_n 3, 1) := by decide +kernel
theorem dX2_sameString_6 : decode cX2_sameString 6 = .ok (.iload_n 3, 1) := by decide +kernel
theorem dX2_sameString_7 : decode cX2_sameString 7 = .ok (.iload_n 2, 1) := by decide +kernel
theorem dX2_sameString_8 : decode cX2_sameString 8 = .ok (.sipush 4095, 3) := by decide +kernel
theorem dX2_sameString_11 : decode cX2_sameString 11 = .ok (.iand, 1) := by decide +kernel
theorem dX2_sameString_12 : decode cX2_sameString 12 = .ok (.if_icmp .ne 36, 3) := by decide +kernel
theorem dX2_sameString_49 : decode cX2_sameString 49 = .ok (.ireturn, 1) := by decide +kernel
theorem dX2_sameString_48 : decode cX2_sameString 48 = .ok (.iconst 0, 1) := by decide +kernel
theorem dX2_sameString_15 : decode cX2_sameString 15 = .ok (.aload_n 0, 1) := by decide +kernel
theorem dX2_sameString_16 : decode cX2_sameString 16 = .ok (.getfield 34, 3) := by decide +kernel
theorem dX2_sameString_19 : decode cX2_sameString 19 = .ok (.iload_n 1, 1) := by decide +kernel
theorem dX2_sameString_20 : decode cX2_sameString 20 = .ok (.ldc 93, 2) := by decide +kernel
theorem dX2_sameString_22 : decode cX2_sameString 22 = .ok (.iand, 1) := by decide +kernel
theorem dX2_sameString_23 : decode cX2_sameString 23 = .ok (.bipush 12, 2) := by decide +kernel
theorem dX2_sameString_25 : decode cX2_sameString 25 = .ok (.iushr, 1) := by decide +kernel
theorem dX2_sameString_26 : decode cX2_sameString 26 = .ok (.aload_n 0, 1) := by decide +kernel
theorem dX2_sameString_27 : decode cX2_sameString 27 = .ok (.getfield 34, 3) := by decide +kernel
theorem dX2_sameString_30 : decode cX2_sameString 30 = .ok (.iload_n 2, 1) := by decide +kernel
theorem dX2_sameString_31 : decode cX2_sameString 31 = .ok (.ldc 93, 2) := by decide +kernel
theorem dX2_sameString_33 : decode cX2_sameString 33 = .ok (.iand, 1) := by decide +kernel
theorem dX2_sameString_34 : decode cX2_sameString 34 = .ok (.bipush 12, 2) := by decide +kernel
theorem dX2_sameString_36 : decode cX2_sameString 36 = .ok (.iushr, 1) := by decide +kernel
theorem dX2_sameString_37 : decode cX2_sameString 37 = .ok (.iload_n 3, 1) := by decide +kernel
theorem dX2_sameString_38 : decode cX2_sameString 38 = .ok (.invokestatic 94, 3) := by decide +kernel
theorem dX2_sameString_41 : decode cX2_sameString 41 = .ok (.ifCond .eq 7, 3) := by decide +kernel
theorem dX2_sameString_44 : decode cX2_sameString 44 = .ok (.iconst 1, 1) := by decide +kernel
theorem dX2_sameString_45 : decode cX2_sameString 45 = .ok (.goto 4, 3) := by decide +kernel
theorem dX1_newKey_0 : decode cX1_newKey 0 = .ok (.aload_n 0, 1) := by decide +kernel
theorem dX1_newKey_1 : decode cX1_newKey 1 = .ok (.getfield 68, 3) := by decide +kernel
theorem dX1_newKey_4 : decode cX1_newKey 4 = .ok (.getfield 95, 3) := by decide +kernel
theorem dX1_newKey_7 : decode cX1_newKey 7 = .ok (.istore_n 1, 1) := by decide +kernel
theorem dX1_newKey_8 : decode cX1_newKey 8 = .ok (.aload_n 0, 1) := by decide +kernel
theorem dX1_newKey_9 : decode cX1_newKey 9 = .ok (.getfield 68, 3) := by decide +kernel
theorem dX1_newKey_12 : decode cX1_newKey 12 = .ok (.aload_n 0, 1) := by decide +kernel
theorem dX1_newKey_13 : decode cX1_newKey 13 = .ok (.getfield 57, 3) := by decide +kernel
theorem dX1_newKey_16 : decode cX1_newKey 16 = .ok (.aload_n 0, 1) := by decide +kernel
theorem dX1_newKey_17 : decode cX1_newKey 17 = .ok (.getfield 68, 3) := by decide +kernel
theorem dX1_newKey_20 : decode cX1_newKey 20 = .ok (.invokevirtual 181, 3) := by decide +kernel
theorem dX1_newKey_23 : decode cX1_newKey 23 = .ok (.invokevirtual 276, 3) := by decide +kernel
theorem dX1_newKey_26 : decode cX1_newKey 26 = .ok (.istore_n 2, 1) := by decide +kernel
theorem dX1_newKey_27 : decode cX1_newKey 27 = .ok (.iconst 0, 1) := by decide +kernel
theorem dX1_newKey_28 : decode cX1_newKey 28 = .ok (.istore_n 3, 1) := by decide +kernel
theorem dX1_newKey_29 : decode cX1_newKey 29 = .ok (.iload_n 3, 1) := by decide +kernel
theorem dX1_newKey_30 : decode cX1_newKey 30 = .ok (.aload_n 0, 1) := by decide +kernel
theorem dX1_newKey_31 : decode cX1_newKey 31 = .ok (.getfield 28, 3) := by decide +kernel
theorem dX1_newKey_34 : decode cX1_newKey 34 = .ok (.if_icmp .ge 37, 3) := by decide +kernel
theorem dX1_newKey_71 : decode cX1_newKey 71 = .ok (.iload_n 2, 1) := by decide +kernel
theorem dX1_newKey_72 : decode cX1_newKey 72 = .ok (.ireturn, 1) := by decide +kernel
theorem dX1_newKey_37 : decode cX1_newKey 37 = .ok (.aload_n 0, 1) := by decide +kernel
theorem dX1_newKey_38 : decode cX1_newKey 38 = .ok (.getfield 57, 3) := by decide +kernel
theorem dX1_newKey_41 : decode cX1_newKey 41 = .ok (.aload_n 0, 1) := by decide +kernel
theorem dX1_newKey_42 : decode cX1_newKey 42 = .ok (.getfield 22, 3) := by decide +kernel
theorem dX1_newKey_45 : decode cX1_newKey 45 = .ok (.iload_n 3, 1) := by decide +kernel
theorem dX1_newKey_46 : decode cX1_newKey 46 = .ok (.invokestatic 101, 3) := by decide +kernel
theorem dX1_newKey_49 : decode cX1_newKey 49 = .ok (.iload_n 2, 1) := by decide +kernel
theorem dX1_newKey_50 : decode cX1_newKey 50 = .ok (.invokevirtual 300, 3) := by decide +kernel
theorem dX1_newKey_53 : decode cX1_newKey 53 = .ok (.ifCond .eq 12, 3) := by decide +kernel
theorem dX1_newKey_65 : decode cX1_newKey 65 = .ok (.iinc 3 1, 3) := by decide +kernel
theorem dX1_newKey_68 : decode cX1_newKey 68 = .ok (.goto (-39), 3) := by decide +kernel
theorem dX1_newKey_56 : decode cX1_newKey 56 = .ok (.aload_n 0, 1) := by decide +kernel
theorem dX1_newKey_57 : decode cX1_newKey 57 = .ok (.getfield 68, 3) := by decide +kernel
theorem dX1_newKey_60 : decode cX1_newKey 60 = .ok (.iconst 3, 1) := by decide +kernel
theorem dX1_newKey_61 : decode cX1_newKey 61 = .ok (.iload_n 1, 1) := by decide +kernel
theorem dX1_newKey_62 : decode cX1_newKey 62 = .ok (.invokevirtual 168, 3) := by decide +kernel
theorem dX10_startText_0 : decode cX10_startText 0 = .ok (.aload_n 0, 1) := by decide +kernel
theorem dX10_startText_1 : decode cX10_startText 1 = .ok (.iconst 0, 1) := by decide +kernel
theorem dX10_startText_2 : decode cX10_startText 2 = .ok (.putfield 30, 3) := by decide +kernel
theorem dX10_startText_5 : decode cX10_startText 5 = .ok (.aload_n 0, 1) := by decide +kernel
theorem dX10_startText_6 : decode cX10_startText 6 = .ok (.iconst 1, 1) := by decide +kernel
theorem dX10_startText_7 : decode cX10_startText 7 = .ok (.putfield 40, 3) := by decide +kernel
theorem dX10_startText_10 : decode cX10_startText 10 = .ok (.return_, 1) := by decide +kernel
theorem dX7_closeBody_0 : decode cX7_closeBody 0 = .ok (.aload_n 0, 1) := by decide +kernel
theorem dX7_closeBody_1 : decode cX7_closeBody 1 = .ok (.aload_n 0, 1) := by decide +kernel
theorem dX7_closeBody_2 : decode cX7_closeBody 2 = .ok (.getfield 42, 3) := by decide +kernel
theorem dX7_closeBody_5 : decode cX7_closeBody 5 = .ok (.putfield 9, 3) := by decide +kernel
theorem dX7_closeBody_8 : decode cX7_closeBody 8 = .ok (.aload_n 0, 1) := by decide +kernel
theorem dX7_closeBody_9 : decode cX7_closeBody 9 = .ok (.aload_n 0, 1) := by decide +kernel
theorem dX7_closeBody_10 : decode cX7_closeBody 10 = .ok (.getfield 45, 3) := by decide +kernel
theorem dX7_closeBody_13 : decode cX7_closeBody 13 = .ok (.putfield 26, 3) := by decide +kernel
theorem dX7_closeBody_16 : decode cX7_closeBody 16 = .ok (.aload_n 0, 1) := by decide +kernel
theorem dX7_closeBody_17 : decode cX7_closeBody 17 = .ok (.aload_n 0, 1) := by decide +kernel
theorem dX7_closeBody_18 : decode cX7_closeBody 18 = .ok (.getfield 48, 3) := by decide +kernel
theorem dX7_closeBody_21 : decode cX7_closeBody 21 = .ok (.putfield 30, 3) := by decide +kernel
theorem dX7_closeBody_24 : decode cX7_closeBody 24 = .ok (.aload_n 0, 1) := by decide +kernel
theorem dX7_closeBody_25 : decode cX7_closeBody 25 = .ok (.iconst 1, 1) := by decide +kernel
theorem dX7_closeBody_26 : decode cX7_closeBody 26 = .ok (.putfield 15, 3) := by decide +kernel
theorem dX7_closeBody_29 : decode cX7_closeBody 29 = .ok (.return_, 1) := by decide +kernel
theorem dX4_extend_0 : decode cX4_extend 0 = .ok (.aload_n 2, 1) := by decide +kernel
theorem dX4_extend_1 : decode cX4_extend 1 = .ok (.iload_n 3, 1) := by decide +kernel
theorem dX4_extend_2 : decode cX4_extend 2 = .ok (.invokestatic 35, 3) := by decide +kernel
theorem dX4_extend_5 : decode cX4_extend 5 = .ok (.istore 6, 2) := by decide +kernel
theorem dX4_extend_7 : decode cX4_extend 7 = .ok (.iconst 0, 1) := by decide +kernel
theorem dX4_extend_8 : decode cX4_extend 8 = .ok (.istore 7, 2) := by decide +kernel
theorem dX4_extend_10 : decode cX4_extend 10 = .ok (.iload 7, 2) := by decide +kernel
theorem dX4_extend_12 : decode cX4_extend 12 = .ok (.iload 6, 2) := by decide +kernel
theorem dX4_extend_14 : decode cX4_extend 14 = .ok (.if_icmp .ge 26, 3) := by decide +kernel
theorem dX4_extend_40 : decode cX4_extend 40 = .ok (.iload 5, 2) := by decide +kernel
theorem dX4_extend_42 : decode cX4_extend 42 = .ok (.bipush 8, 2) := by decide +kernel
theorem dX4_extend_44 : decode cX4_extend 44 = .ok (.if_icmp .gt 10, 3) := by decide +kernel
theorem dX4_extend_54 : decode cX4_extend 54 = .ok (.return_, 1) := by decide +kernel
theorem dX4_extend_47 : decode cX4_extend 47 = .ok (.iload 6, 2) := by decide +kernel
theorem dX4_extend_49 : decode cX4_extend 49 = .ok (.bipush 8, 2) := by decide +kernel
theorem dX4_extend_51 : decode cX4_extend 51 = .ok (.if_icmp .lt 4, 3) := by decide +kernel
theorem dX4_extend_55 : decode cX4_extend 55 = .ok (.aload_n 1, 1) := by decide +kernel
theorem dX4_extend_56 : decode cX4_extend 56 = .ok (.bipush 8, 2) := by decide +kernel
theorem dX4_extend_58 : decode cX4_extend 58 = .ok (.iload_n 3, 1) := by decide +kernel
theorem dX4_extend_59 : decode cX4_extend 59 = .ok (.imul, 1) := by decide +kernel
theorem dX4_extend_60 : decode cX4_extend 60 = .ok (.iload 6, 2) := by decide +kernel
theorem dX4_extend_62 : decode cX4_extend 62 = .ok (.iadd, 1) := by decide +kernel
theorem dX4_extend_63 : decode cX4_extend 63 = .ok (.iload 4, 2) := by decide +kernel
theorem dX4_extend_65 : decode cX4_extend 65 = .ok (.invokestatic 41, 3) := by decide +kernel
theorem dX4_extend_68 : decode cX4_extend 68 = .ok (.aload_n 2, 1) := by decide +kernel
theorem dX4_extend_69 : decode cX4_extend 69 = .ok (.iload_n 3, 1) := by decide +kernel
theorem dX4_extend_70 : decode cX4_extend 70 = .ok (.iload 6, 2) := by decide +kernel
theorem dX4_extend_72 : decode cX4_extend 72 = .ok (.iconst 1, 1) := by decide +kernel
theorem dX4_extend_73 : decode cX4_extend 73 = .ok (.iadd, 1) := by decide +kernel
theorem dX4_extend_74 : decode cX4_extend 74 = .ok (.invokestatic 41, 3) := by decide +kernel
theorem dX4_extend_77 : decode cX4_extend 77 = .ok (.iconst 0, 1) := by decide +kernel
theorem dX4_extend_78 : decode cX4_extend 78 = .ok (.istore 7, 2) := by decide +kernel
theorem dX4_extend_80 : decode cX4_extend 80 = .ok (.iload 7, 2) := by decide +kernel
theorem dX4_extend_82 : decode cX4_extend 82 = .ok (.aload_n 0, 1) := by decide +kernel
theorem dX4_extend_83 : decode cX4_extend 83 = .ok (.getfield 13, 3) := by decide +kernel
theorem dX4_extend_86 : decode cX4_extend 86 = .ok (.iload 4, 2) := by decide +kernel
theorem dX4_extend_88 : decode cX4_extend 88 = .ok (.invokestatic 35, 3) := by decide +kernel
theorem dX4_extend_91 : decode cX4_extend 91 = .ok (.if_icmp .ge 35, 3) := by decide +kernel
theorem dX4_extend_126 : decode cX4_extend 126 = .ok (.return_, 1) := by decide +kernel
theorem dX4_extend_94 : decode cX4_extend 94 = .ok (.aload_n 0, 1) := by decide +kernel
theorem dX4_extend_95 : decode cX4_extend 95 = .ok (.aload_n 1, 1) := by decide +kernel
theorem dX4_extend_96 : decode cX4_extend 96 = .ok (.aload_n 2, 1) := by decide +kernel
theorem dX4_extend_97 : decode cX4_extend 97 = .ok (.iload_n 3, 1) := by decide +kernel
theorem dX4_extend_98 : decode cX4_extend 98 = .ok (.aload_n 0, 1) := by decide +kernel
theorem dX4_extend_99 : decode cX4_extend 99 = .ok (.getfield 7, 3) := by decide +kernel
theorem dX4_extend_102 : decode cX4_extend 102 = .ok (.bipush 8, 2) := by decide +kernel
theorem dX4_extend_104 : decode cX4_extend 104 = .ok (.iload 4, 2) := by decide +kernel
theorem dX4_extend_106 : decode cX4_extend 106 = .ok (.imul, 1) := by decide +kernel
theorem dX4_extend_107 : decode cX4_extend 107 = .ok (.iload 7, 2) := by decide +kernel
theorem dX4_extend_109 : decode cX4_extend 109 = .ok (.iadd, 1) := by decide +kernel
theorem dX4_extend_110 : decode cX4_extend 110 = .ok (.invokestatic 35, 3) := by decide +kernel
theorem dX4_extend_113 : decode cX4_extend 113 = .ok (.iload 5, 2) := by decide +kernel
theorem dX4_extend_115 : decode cX4_extend 115 = .ok (.iconst 1, 1) := by decide +kernel
theorem dX4_extend_116 : decode cX4_extend 116 = .ok (.iadd, 1) := by decide +kernel
theorem dX4_extend_117 : decode cX4_extend 117 = .ok (.invokevirtual 45, 3) := by decide +kernel
theorem dX4_extend_120 : decode cX4_extend 120 = .ok (.iinc 7 1, 3) := by decide +kernel
theorem dX4_extend_123 : decode cX4_extend 123 = .ok (.goto (-43), 3) := by decide +kernel
theorem dX4_extend_17 : decode cX4_extend 17 = .ok (.aload_n 1, 1) := by decide +kernel
theorem dX4_extend_18 : decode cX4_extend 18 = .ok (.bipush 8, 2) := by decide +kernel
theorem dX4_extend_20 : decode cX4_extend 20 = .ok (.iload_n 3, 1) := by decide +kernel
theorem dX4_extend_21 : decode cX4_extend 21 = .ok (.imul, 1) := by decide +kernel
theorem dX4_extend_22 : decode cX4_extend 22 = .ok (.iload 7, 2) := by decide +kernel
theorem dX4_extend_24 : decode cX4_extend 24 = .ok (.iadd, 1) := by decide +kernel
theorem dX4_extend_25 : decode cX4_extend 25 = .ok (.invokestatic 35, 3) := by decide +kernel
theorem dX4_extend_28 : decode cX4_extend 28 = .ok (.iload 4, 2) := by decide +kernel
theorem dX4_extend_30 : decode cX4_extend 30 = .ok (.if_icmp .ne 4, 3) := by decide +kernel
theorem dX4_extend_34 : decode cX4_extend 34 = .ok (.iinc 7 1, 3) := by decide +kernel
theorem dX4_extend_37 : decode cX4_extend 37 = .ok (.goto (-27), 3) := by decide +kernel
theorem dX4_extend_33 : decode cX4_extend 33 = .ok (.return_, 1) := by decide +kernel
set_option maxRecDepth 20000 in
theorem kX2_sameString (l : Launch) (G : zG) (T : tT) (κ : Nat → List Nat) (hst : l.stackTraces = false) (hE : tE G T κ) {a0 : Nat} (h0 : a0 ∈ κ 2) {x1 : Int32} {x2 : Int32} : tMi l G T yX2_sameString cX2_sameString 4 .boolean [] 1 25 0 0 [.ref a0, .int x1, .int x2] uT (uPz 0x0) := by
  refine tMi.intro hst rfl (Nat.le_of_ble_eq_true rfl) ?_
  intro w0 hw0 _ X hC hR hO hX
  refine z_iload_n hC (pc := 0) 1 dX2_sameString_0 rfl rfl ?_
  refine z_sipush hC (pc := 1) (v := 4095) dX2_sameString_1 (by decide) ?_
  refine z_iand hC (pc := 4) (v := (x1 &&& 4095)) dX2_sameString_4 rfl ?_
  refine z_istore_n hC (pc := 5) (lv' := [(3, .int (x1 &&& 4095)), (0, .ref a0), (1, .int x1), (2, .int x2)]) dX2_sameString_5 rfl (by decide) rfl ?_
  refine z_iload_n hC (pc := 6) 0 dX2_sameString_6 rfl rfl ?_
  refine z_iload_n hC (pc := 7) 3 dX2_sameString_7 rfl rfl ?_
  refine z_sipush hC (pc := 8) (v := 4095) dX2_sameString_8 (by decide) ?_
  refine z_iand hC (pc := 11) (v := (x2 &&& 4095)) dX2_sameString_11 rfl ?_
  have j49 : ∀ (w5 : va_W), tW T w5 → tKeep 0x0 w0 w5 → ∀ (x6 : Int32), tZ (.int x6) → zS X G 4 w5 [] 0 0 49 [.int x6] := by
    intro w5 hw5 kw5 x6 zx6
    exact hR _ _ _ _ _ _ dX2_sameString_49 (t_nZ zx6) (Nat.le_of_ble_eq_true rfl) (Nat.le_of_ble_eq_true rfl) ⟨hw5, rfl, rfl, (tKeep.tr tKeep.rf kw5 rfl), zx6⟩
  have j48 : ∀ (w7 : va_W), tW T w7 → tKeep 0x0 w0 w7 → zS X G 4 w7 [] 0 0 48 [] := by
    intro w7 hw7 kw7
    refine z_iconst hC (pc := 48) (v := 0) dX2_sameString_48 (by decide) ?_
    exact j49 w7 hw7 (tKeep.tr tKeep.rf kw7 rfl) 0 (Or.inl rfl)
  refine z_icmp_ne hC (pc := 12) 48 dX2_sameString_12 (by decide) (fun c8 => ?_) (fun c8 => ?_)
  · refine z_lvs [] rfl ?_
    exact j48 w0 hw0 tKeep.rf
  · refine z_aload_n hC (pc := 15) 1 dX2_sameString_15 rfl rfl ?_
    refine u_get hC hw0 (pc := 16) zf2 4 (hE.o2 h0) rfl dX2_sameString_16 zw247 (kk := fun va9 ta9 fa9 => ?_)
    obtain ⟨a9, ma9, rfl⟩ := ta9
    refine z_iload_n hC (pc := 19) 2 dX2_sameString_19 rfl rfl ?_
    refine z_ldc hC (pc := 20) (v := 134217727) dX2_sameString_20 zw1634 ?_
    refine z_iand hC (pc := 22) (v := (x1 &&& 134217727)) dX2_sameString_22 rfl ?_
    refine z_bipush hC (pc := 23) (v := 12) dX2_sameString_23 (by decide) ?_
    refine z_iushr hC (pc := 25) (v := (((x1 &&& 134217727) : Int32).toUInt32 >>> ((12 : Int32).toUInt32 &&& Int32.toUInt32 31)).toInt32) dX2_sameString_25 rfl ?_
    refine z_aload_n hC (pc := 26) 1 dX2_sameString_26 rfl rfl ?_
    refine u_getK hC (pc := 27) zf2 4 fa9 dX2_sameString_27 zw247 (kk := ?_)
    refine z_iload_n hC (pc := 30) 3 dX2_sameString_30 rfl rfl ?_
    refine z_ldc hC (pc := 31) (v := 134217727) dX2_sameString_31 zw1634 ?_
    refine z_iand hC (pc := 33) (v := (x2 &&& 134217727)) dX2_sameString_33 rfl ?_
    refine z_bipush hC (pc := 34) (v := 12) dX2_sameString_34 (by decide) ?_
    refine z_iushr hC (pc := 36) (v := (((x2 &&& 134217727) : Int32).toUInt32 >>> ((12 : Int32).toUInt32 &&& Int32.toUInt32 31)).toInt32) dX2_sameString_36 rfl ?_
    refine z_iload_n hC (pc := 37) 0 dX2_sameString_37 rfl rfl ?_
    refine t_callSNi hC hw0 (pc := 38) (As := [.ref a9, .int ((((x1 &&& 134217727) : Int32).toUInt32 >>> ((12 : Int32).toUInt32 &&& Int32.toUInt32 31)).toInt32), .ref a9, .int ((((x2 &&& 134217727) : Int32).toUInt32 >>> ((12 : Int32).toUInt32 &&& Int32.toUInt32 31)).toInt32), .int (x1 &&& 4095)]) (kX12_same l G T κ hst hE (Or.inl ma9) (Or.inl ma9)) trivial dmX12_same dX2_sameString_38 zw1635 rfl rfl (Nat.le_of_ble_eq_true rfl) (Nat.le_of_ble_eq_true rfl) (Nat.le_of_ble_eq_true rfl) (Nat.le_of_ble_eq_true rfl) (Nat.le_of_ble_eq_true rfl) (fun _ _ _ h => nomatch h) (fun x11 cw10 nw10 w10 hw10 pw10 => ?_)
    obtain ⟨rfl, rfl, kw10, zx11⟩ := pw10
    refine z_if_eq hC (pc := 41) 48 dX2_sameString_41 (by decide) (fun c12 => ?_) (fun c12 => ?_)
    · refine z_lvs [] rfl ?_
      exact j48 w10 hw10 (tKeep.tr tKeep.rf kw10 rfl)
    · refine z_iconst hC (pc := 44) (v := 1) dX2_sameString_44 (by decide) ?_
      refine z_goto hC (pc := 45) 49 dX2_sameString_45 (by decide) ?_
      refine z_lvs [] rfl ?_
      exact j49 w10 hw10 (tKeep.tr tKeep.rf kw10 rfl) 1 (Or.inr rfl)
set_option maxRecDepth 20000 in
theorem kX1_newKey (l : Launch) (G : zG) (T : tT) (κ : Nat → List Nat) (hst : l.stackTraces = false) (hE : tE G T κ) {a0 : Nat} (h0 : a0 ∈ κ 1) : tMi l G T yX1_newKey cX1_newKey 4 .int ["java/lang/IllegalStateException"] 8 125 1 6 [.ref a0] uT (uPi 0x1a00000000000000000000000000000000000000000000000000000000000000000000000000000004000000000000000000000000000000000) := by
  refine tMi.intro hst rfl (Nat.le_of_ble_eq_true rfl) ?_
  intro w0 hw0 _ X hC hR hO hX
  refine z_aload_n hC (pc := 0) 0 dX1_newKey_0 rfl rfl ?_
  refine u_get hC hw0 (pc := 1) zf1 2 (hE.o1 h0) rfl dX1_newKey_1 zw386 (kk := fun va3 ta3 fa3 => ?_)
  obtain ⟨a3, ma3, rfl⟩ := ta3
  refine u_get hC hw0 (pc := 4) zf7 5 (hE.o7 ma3) rfl dX1_newKey_4 zw123 (kk := fun vx4 tx4 fx4 => ?_)
  obtain ⟨x4, rfl⟩ := tx4
  refine z_istore_n hC (pc := 7) (lv' := [(1, .int x4), (0, .ref a0)]) dX1_newKey_7 rfl (by decide) rfl ?_
  refine z_aload_n hC (pc := 8) 1 dX1_newKey_8 rfl rfl ?_
  refine u_getK hC (pc := 9) zf1 2 fa3 dX1_newKey_9 zw386 (kk := ?_)
  refine z_aload_n hC (pc := 12) 1 dX1_newKey_12 rfl rfl ?_
  refine u_get hC hw0 (pc := 13) zf1 3 (hE.o1 h0) rfl dX1_newKey_13 zw387 (kk := fun va5 ta5 fa5 => ?_)
  obtain ⟨a5, ma5, rfl⟩ := ta5
  refine z_aload_n hC (pc := 16) 1 dX1_newKey_16 rfl rfl ?_
  refine u_getK hC (pc := 17) zf1 2 fa3 dX1_newKey_17 zw386 (kk := ?_)
  obtain ⟨q6, hqq6⟩ := hE.o7 ma3
  refine t_callVi hC hw0 (pc := 20) (As := []) (kX7_stringEnd l G T κ hst hE ma3) trivial dmX7_stringEnd zf7 hqq6 dX1_newKey_20 zw1156 rfl rfl (Nat.le_of_ble_eq_true rfl) (Nat.le_of_ble_eq_true rfl) (Nat.le_of_ble_eq_true rfl) (Nat.le_of_ble_eq_true rfl) (Nat.le_of_ble_eq_true rfl) (fun E w q hE hw => hO E w _ _ _ _ _ q hE (Nat.le_of_ble_eq_true rfl) (Nat.le_of_ble_eq_true rfl) hw) (fun x8 cw7 nw7 w7 hw7 pw7 => ?_)
  obtain ⟨rfl, rfl, kw7⟩ := pw7
  refine t_callVi hC hw7 (pc := 23) (As := [.ref a5, .int x8]) (kX7_string l G T κ hst hE ma3 ma5) trivial dmX7_string zf7 hqq6 dX1_newKey_23 zw1342 rfl rfl (Nat.le_of_ble_eq_true rfl) (Nat.le_of_ble_eq_true rfl) (Nat.le_of_ble_eq_true rfl) (Nat.le_of_ble_eq_true rfl) (Nat.le_of_ble_eq_true rfl) (fun _ _ _ h => nomatch h) (fun x10 cw9 nw9 w9 hw9 pw9 => ?_)
  obtain ⟨rfl, rfl, kw9⟩ := pw9
  refine z_istore_n hC (pc := 26) (lv' := [(2, .int x10), (1, .int x4), (0, .ref a0)]) dX1_newKey_26 rfl (by decide) rfl ?_
  refine z_iconst hC (pc := 27) (v := 0) dX1_newKey_27 (by decide) ?_
  refine z_istore_n hC (pc := 28) (lv' := [(3, .int 0), (2, .int x10), (1, .int x4), (0, .ref a0)]) dX1_newKey_28 rfl (by decide) rfl ?_
  have j29 : ∀ (d29 : Nat), ∀ (w11 : va_W), tW T w11 → tKeep 0x1800000000000000000000000000000000000000000000000000000000000000000000000000000000000000000000000000000000000000000 w9 w11 → ∀ (x12 : Int32), ¬ x12 < 0 → (2 ^ 31 - (x12 : Int32).toInt).toNat ≤ d29 → zS X G 4 w11 [(0, .ref a0), (1, .int x4), (2, .int x10), (3, .int x12)] 0 0 29 [] := by
    intro d29
    induction d29 with
    | zero => intro w11 hw11 kw11 x12 v13 hd29; exact (t_zero hd29).elim
    | succ d29 ih29 =>
      intro w11 hw11 kw11 x12 v13 hd29
      refine z_iload_n hC (pc := 29) 3 dX1_newKey_29 rfl rfl ?_
      refine z_aload_n hC (pc := 30) 0 dX1_newKey_30 rfl rfl ?_
      refine u_get hC hw11 (pc := 31) zf1 10 (hE.o1 h0) rfl dX1_newKey_31 zw394 (kk := fun vx14 tx14 fx14 => ?_)
      obtain ⟨x14, rfl⟩ := tx14
      refine z_icmp_ge hC (pc := 34) 71 dX1_newKey_34 (by decide) (fun c15 => ?_) (fun c15 => ?_)
      · refine z_iload_n hC (pc := 71) 2 dX1_newKey_71 rfl rfl ?_
        exact hR _ _ _ _ _ _ dX1_newKey_72 rfl (Nat.le_of_ble_eq_true rfl) (Nat.le_of_ble_eq_true rfl) ⟨hw11, rfl, rfl, (tKeep.tr (tKeep.tr (tKeep.tr tKeep.rf kw7 rfl) kw9 rfl) kw11 rfl)⟩
      · refine z_aload_n hC (pc := 37) 0 dX1_newKey_37 rfl rfl ?_
        refine u_getK hC (pc := 38) zf1 3 (tKeep.F kw11 (tKeep.F kw9 (tKeep.F kw7 fa5 rfl) rfl) rfl) dX1_newKey_38 zw387 (kk := ?_)
        refine z_aload_n hC (pc := 41) 0 dX1_newKey_41 rfl rfl ?_
        refine u_get hC hw11 (pc := 42) zf1 8 (hE.o1 h0) rfl dX1_newKey_42 zw392 (kk := fun va16 ta16 fa16 => ?_)
        obtain ⟨a16, ma16, rfl⟩ := ta16
        refine z_iload_n hC (pc := 45) 3 dX1_newKey_45 rfl rfl ?_
        refine t_callSNi hC hw11 (pc := 46) (As := [.ref a16, .int x12]) (kX12_get l G T κ hst hE ma16) trivial dmX12_get dX1_newKey_46 zw999 rfl rfl (Nat.le_of_ble_eq_true rfl) (Nat.le_of_ble_eq_true rfl) (Nat.le_of_ble_eq_true rfl) (Nat.le_of_ble_eq_true rfl) (Nat.le_of_ble_eq_true rfl) (fun _ _ _ h => nomatch h) (fun x18 cw17 nw17 w17 hw17 pw17 => ?_)
        obtain ⟨rfl, rfl, kw17⟩ := pw17
        refine z_iload_n hC (pc := 49) 2 dX1_newKey_49 rfl rfl ?_
        obtain ⟨q19, hqq19⟩ := hE.o2 ma5
        refine t_callVi hC hw17 (pc := 50) (As := [.int x18, .int x10]) (kX2_sameString l G T κ hst hE ma5) trivial dmX2_sameString zf2 hqq19 dX1_newKey_50 zw1630 rfl rfl (Nat.le_of_ble_eq_true rfl) (Nat.le_of_ble_eq_true rfl) (Nat.le_of_ble_eq_true rfl) (Nat.le_of_ble_eq_true rfl) (Nat.le_of_ble_eq_true rfl) (fun _ _ _ h => nomatch h) (fun x21 cw20 nw20 w20 hw20 pw20 => ?_)
        obtain ⟨rfl, rfl, kw20, zx21⟩ := pw20
        have j65 : ∀ (w22 : va_W), tW T w22 → tKeep 0x1800000000000000000000000000000000000000000000000000000000000000000000000000000000000000000000000000000000000000000 w20 w22 → zS X G 4 w22 [(0, .ref a0), (1, .int x4), (2, .int x10), (3, .int x12)] 0 0 65 [] := by
          intro w22 hw22 kw22
          refine z_iinc hC (pc := 65) (v := (x12 + 1)) (lv' := [(3, .int (x12 + 1)), (0, .ref a0), (1, .int x4), (2, .int x10)]) 3 dX1_newKey_65 rfl (congrArg _ (by decide)) (by decide) rfl ?_
          refine z_goto hC (pc := 68) 29 dX1_newKey_68 (by decide) ?_
          refine z_lvs [1, 2, 3, 0] rfl ?_
          exact ih29 w22 hw22 (tKeep.tr (tKeep.tr (tKeep.tr (tKeep.tr tKeep.rf kw11 rfl) kw17 rfl) kw20 rfl) kw22 rfl) (x12 + 1) (t_nnI v13 (Int32.not_le.mp c15)) (t_up (Int32.not_le.mp c15) hd29)
        refine z_if_eq hC (pc := 53) 65 dX1_newKey_53 (by decide) (fun c23 => ?_) (fun c23 => ?_)
        · exact j65 w20 hw20 tKeep.rf
        · refine z_aload_n hC (pc := 56) 0 dX1_newKey_56 rfl rfl ?_
          refine u_getK hC (pc := 57) zf1 2 (tKeep.F kw20 (tKeep.F kw17 (tKeep.F kw11 (tKeep.F kw9 (tKeep.F kw7 fa3 rfl) rfl) rfl) rfl) rfl) dX1_newKey_57 zw386 (kk := ?_)
          refine z_iconst hC (pc := 60) (v := 3) dX1_newKey_60 (by decide) ?_
          refine z_iload_n hC (pc := 61) 1 dX1_newKey_61 rfl rfl ?_
          refine t_callVv hC hw20 (pc := 62) (As := [.int 3, .int x4]) (kX7_fail l G T κ hst hE ma3) trivial dmX7_fail zf7 hqq6 dX1_newKey_62 zw1155 rfl rfl (Nat.le_of_ble_eq_true rfl) (Nat.le_of_ble_eq_true rfl) (Nat.le_of_ble_eq_true rfl) (Nat.le_of_ble_eq_true rfl) (Nat.le_of_ble_eq_true rfl) (fun E w q hE hw => hO E w _ _ _ _ _ q hE (Nat.le_of_ble_eq_true rfl) (Nat.le_of_ble_eq_true rfl) hw) (fun cw24 nw24 w24 hw24 pw24 => ?_)
          obtain ⟨rfl, rfl, kw24⟩ := pw24
          exact j65 w24 hw24 (tKeep.tr tKeep.rf kw24 rfl)
  refine z_lvs [3, 2, 1, 0] rfl ?_
  exact j29 _ w9 hw9 tKeep.rf 0 (by decide) (Nat.le_refl _)
set_option maxRecDepth 20000 in
theorem kX10_startText (l : Launch) (G : zG) (T : tT) (κ : Nat → List Nat) (hst : l.stackTraces = false) (hE : tE G T κ) {a0 : Nat} (h0 : a0 ∈ κ 10) : tMv l G T yX10_startText cX10_startText 1 [] 0 0 0 0 [.ref a0] uT (uPv 0x9000000000000000000000000000000000000000000000000000000000000000000000000000000000000000000000000000000000000000000000000000000000000000000000000000000000000000000) := by
  refine tMv.intro hst rfl (Nat.le_of_ble_eq_true rfl) ?_
  intro w0 hw0 _ X hC hR hO hX
  refine z_aload_n hC (pc := 0) 0 dX10_startText_0 rfl rfl ?_
  refine z_iconst hC (pc := 1) (v := 0) dX10_startText_1 (by decide) ?_
  refine u_put hC hw0 (pc := 2) zf10 8 (hE.o10 h0) rfl (Or.inl rfl) dX10_startText_2 zw340 rfl rfl rfl (kk := fun w3 hw3 fw3 kw3 => ?_)
  refine z_aload_n hC (pc := 5) 0 dX10_startText_5 rfl rfl ?_
  refine z_iconst hC (pc := 6) (v := 1) dX10_startText_6 (by decide) ?_
  refine u_put hC hw3 (pc := 7) zf10 11 (hE.o10 h0) rfl (Or.inr rfl) dX10_startText_7 zw343 rfl rfl rfl (kk := fun w4 hw4 fw4 kw4 => ?_)
  exact hR _ _ _ _ _ dX10_startText_10 (Nat.le_of_ble_eq_true rfl) (Nat.le_of_ble_eq_true rfl) ⟨hw4, rfl, rfl, (tKeep.tr (tKeep.tr tKeep.rf kw3 rfl) kw4 rfl)⟩
set_option maxRecDepth 20000 in
theorem kX7_closeBody (l : Launch) (G : zG) (T : tT) (κ : Nat → List Nat) (hst : l.stackTraces = false) (hE : tE G T κ) {a0 : Nat} (h0 : a0 ∈ κ 7) : tMv l G T yX7_closeBody cX7_closeBody 1 [] 0 0 0 0 [.ref a0] uT (uPv 0x330000000000000000000000000000000000000000000000000000000000000000000000000000000000000000000000000000000000000000) := by
  refine tMv.intro hst rfl (Nat.le_of_ble_eq_true rfl) ?_
  intro w0 hw0 _ X hC hR hO hX
  refine z_aload_n hC (pc := 0) 0 dX7_closeBody_0 rfl rfl ?_
  refine z_aload_n hC (pc := 1) 0 dX7_closeBody_1 rfl rfl ?_
  refine u_get hC hw0 (pc := 2) zf7 9 (hE.o7 h0) rfl dX7_closeBody_2 zw134 (kk := fun va3 ta3 fa3 => ?_)
  obtain ⟨a3, ma3, rfl⟩ := ta3
  refine u_put hC hw0 (pc := 5) zf7 0 (hE.o7 h0) rfl ⟨_, ma3, rfl⟩ dX7_closeBody_5 zw115 rfl rfl rfl (kk := fun w4 hw4 fw4 kw4 => ?_)
  refine z_aload_n hC (pc := 8) 0 dX7_closeBody_8 rfl rfl ?_
  refine z_aload_n hC (pc := 9) 0 dX7_closeBody_9 rfl rfl ?_
  refine u_get hC hw4 (pc := 10) zf7 10 (hE.o7 h0) rfl dX7_closeBody_10 zw135 (kk := fun vx5 tx5 fx5 => ?_)
  obtain ⟨x5, rfl⟩ := tx5
  refine u_put hC hw4 (pc := 13) zf7 4 (hE.o7 h0) rfl ⟨_, rfl⟩ dX7_closeBody_13 zw119 rfl rfl rfl (kk := fun w6 hw6 fw6 kw6 => ?_)
  refine z_aload_n hC (pc := 16) 0 dX7_closeBody_16 rfl rfl ?_
  refine z_aload_n hC (pc := 17) 0 dX7_closeBody_17 rfl rfl ?_
  refine u_get hC hw6 (pc := 18) zf7 11 (hE.o7 h0) rfl dX7_closeBody_18 zw136 (kk := fun vx7 tx7 fx7 => ?_)
  obtain ⟨x7, rfl⟩ := tx7
  refine u_put hC hw6 (pc := 21) zf7 5 (hE.o7 h0) rfl ⟨_, rfl⟩ dX7_closeBody_21 zw122 rfl rfl rfl (kk := fun w8 hw8 fw8 kw8 => ?_)
  refine z_aload_n hC (pc := 24) 0 dX7_closeBody_24 rfl rfl ?_
  refine z_iconst hC (pc := 25) (v := 1) dX7_closeBody_25 (by decide) ?_
  refine u_put hC hw8 (pc := 26) zf7 1 (hE.o7 h0) rfl (Or.inr rfl) dX7_closeBody_26 zw116 rfl rfl rfl (kk := fun w9 hw9 fw9 kw9 => ?_)
  exact hR _ _ _ _ _ dX7_closeBody_29 (Nat.le_of_ble_eq_true rfl) (Nat.le_of_ble_eq_true rfl) ⟨hw9, rfl, rfl, (tKeep.tr (tKeep.tr (tKeep.tr (tKeep.tr tKeep.rf kw4 rfl) kw6 rfl) kw8 rfl) kw9 rfl)⟩
