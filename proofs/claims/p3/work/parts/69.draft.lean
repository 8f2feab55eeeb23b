theorem zw3083 : Cond.methodLink "TemplateHouseModel" 539 ⟨"TemplateHouseModel", "packed", "(II)V"⟩ ∈ zT := zsub13 203 (by decide +kernel) (by decide +kernel)
theorem zw3091 : Cond.methodLink "TemplateHouseModel" 542 ⟨"TemplateHouseModel", "wholeText", "()I"⟩ ∈ zT := zsub13 211 (by decide +kernel) (by decide +kernel)
theorem zw3034 : Cond.methodLink "TemplateHouseModel" 405 ⟨"TemplateHouseModel", "sign", "(Ljava/lang/String;)V"⟩ ∈ zT := zsub13 154 (by decide +kernel) (by decide +kernel)
theorem zw3332 : Cond.methodLink "TemplateHouseModel" 520 ⟨"TemplateHouseModel", "readFileSub", "()I"⟩ ∈ zT := zsub14 212 (by decide +kernel) (by decide +kernel)
theorem zw3094 : Cond.code ⟨"TemplateHouseModel", "wholeText", "()I"⟩ prog_15_method_34_code 1 (Option.some Jvm.ClassFile.FieldType.int) ∈ zT := zsub13 214 rfl rfl
theorem zw3093 : Cond.instanceMethod ⟨"TemplateHouseModel", "wholeText", "()I"⟩ ∈ zT := zsub13 213 (by decide +kernel) (by decide +kernel)
theorem zwp289 : Cond.selects "TemplateHouseModel" ⟨"TemplateHouseModel", "wholeText", "()I"⟩ ⟨"TemplateHouseModel", "wholeText", "()I"⟩ ∈ zT := zin 289 (by decide +kernel) (by decide +kernel)
theorem zw3335 : Cond.code ⟨"TemplateHouseModel", "readFileSub", "()I"⟩ prog_15_method_35_code 4 (Option.some Jvm.ClassFile.FieldType.int) ∈ zT := zsub14 215 rfl rfl
theorem zw3334 : Cond.instanceMethod ⟨"TemplateHouseModel", "readFileSub", "()I"⟩ ∈ zT := zsub14 214 (by decide +kernel) (by decide +kernel)
theorem zwp260 : Cond.selects "TemplateHouseModel" ⟨"TemplateHouseModel", "readFileSub", "()I"⟩ ⟨"TemplateHouseModel", "readFileSub", "()I"⟩ ∈ zT := zin 260 (by decide +kernel) (by decide +kernel)
theorem zw3082 : Cond.code ⟨"TemplateHouseModel", "readBody", "()I"⟩ prog_15_method_31_code 5 (Option.some Jvm.ClassFile.FieldType.int) ∈ zT := zsub13 202 rfl rfl
theorem zw3081 : Cond.instanceMethod ⟨"TemplateHouseModel", "readBody", "()I"⟩ ∈ zT := zsub13 201 (by decide +kernel) (by decide +kernel)
theorem zwp251 : Cond.selects "TemplateHouseModel" ⟨"TemplateHouseModel", "readBody", "()I"⟩ ⟨"TemplateHouseModel", "readBody", "()I"⟩ ∈ zT := zin 251 (by decide +kernel) (by decide +kernel)
theorem zw3331 : Cond.code ⟨"TemplateHouseModel", "readValue", "(Z)I"⟩ prog_15_method_28_code 4 (Option.some Jvm.ClassFile.FieldType.int) ∈ zT := zsub14 211 rfl rfl
theorem zw3330 : Cond.instanceMethod ⟨"TemplateHouseModel", "readValue", "(Z)I"⟩ ∈ zT := zsub14 210 (by decide +kernel) (by decide +kernel)
theorem zwp275 : Cond.selects "TemplateHouseModel" ⟨"TemplateHouseModel", "readValue", "(Z)I"⟩ ⟨"TemplateHouseModel", "readValue", "(Z)I"⟩ ∈ zT := zin 275 (by decide +kernel) (by decide +kernel)
abbrev cX14_wholeText : ByteArray := prog_15_method_34_code
abbrev yX14_wholeText : MethodName := ⟨"TemplateHouseModel", "wholeText", "()I"⟩
theorem dmX14_wholeText : zDv yX14_wholeText cX14_wholeText 1 (some .int) 0 := ⟨⟨⟨by decide +kernel, by decide +kernel, by decide +kernel⟩, zw3094, zw14⟩, zw3093, zwp289⟩
abbrev cX14_readFileSub : ByteArray := prog_15_method_35_code
abbrev yX14_readFileSub : MethodName := ⟨"TemplateHouseModel", "readFileSub", "()I"⟩
theorem dmX14_readFileSub : zDv yX14_readFileSub cX14_readFileSub 4 (some .int) 0 := ⟨⟨⟨by decide +kernel, by decide +kernel, by decide +kernel⟩, zw3335, zw14⟩, zw3334, zwp260⟩
abbrev cX14_readBody : ByteArray := prog_15_method_31_code
abbrev yX14_readBody : MethodName := ⟨"TemplateHouseModel", "readBody", "()I"⟩
theorem dmX14_readBody : zDv yX14_readBody cX14_readBody 5 (some .int) 0 := ⟨⟨⟨by decide +kernel, by decide +kernel, by decide +kernel⟩, zw3082, zw14⟩, zw3081, zwp251⟩
abbrev cX14_readValue : ByteArray := prog_15_method_28_code
abbrev yX14_readValue : MethodName := ⟨"TemplateHouseModel", "readValue", "(Z)I"⟩
theorem dmX14_readValue : zDv yX14_readValue cX14_readValue 4 (some .int) 1 := ⟨⟨⟨by decide +kernel, by decide +kernel, by decide +kernel⟩, zw3331, zw14⟩, zw3330, zwp275⟩
theorem dX14_wholeText_0 : decode cX14_wholeText 0 = .ok (.aload_n 0, 1) := by decide +kernel
theorem dX14_wholeText_1 : decode cX14_wholeText 1 = .ok (.iconst 0, 1) := by decide +kernel
theorem dX14_wholeText_2 : decode cX14_wholeText 2 = .ok (.putfield 548, 3) := by decide +kernel
theorem dX14_wholeText_5 : decode cX14_wholeText 5 = .ok (.aload_n 0, 1) := by decide +kernel
theorem dX14_wholeText_6 : decode cX14_wholeText 6 = .ok (.iconst 0, 1) := by decide +kernel
theorem dX14_wholeText_7 : decode cX14_wholeText 7 = .ok (.putfield 551, 3) := by decide +kernel
theorem dX14_wholeText_10 : decode cX14_wholeText 10 = .ok (.aload_n 0, 1) := by decide +kernel
theorem dX14_wholeText_11 : decode cX14_wholeText 11 = .ok (.iconst 0, 1) := by decide +kernel
theorem dX14_wholeText_12 : decode cX14_wholeText 12 = .ok (.putfield 554, 3) := by decide +kernel
theorem dX14_wholeText_15 : decode cX14_wholeText 15 = .ok (.aload_n 0, 1) := by decide +kernel
theorem dX14_wholeText_16 : decode cX14_wholeText 16 = .ok (.iconst 0, 1) := by decide +kernel
theorem dX14_wholeText_17 : decode cX14_wholeText 17 = .ok (.putfield 557, 3) := by decide +kernel
theorem dX14_wholeText_20 : decode cX14_wholeText 20 = .ok (.aload_n 0, 1) := by decide +kernel
theorem dX14_wholeText_21 : decode cX14_wholeText 21 = .ok (.iconst 0, 1) := by decide +kernel
theorem dX14_wholeText_22 : decode cX14_wholeText 22 = .ok (.invokevirtual 560, 3) := by decide +kernel
theorem dX14_wholeText_25 : decode cX14_wholeText 25 = .ok (.ireturn, 1) := by decide +kernel
theorem dX14_readFileSub_0 : decode cX14_readFileSub 0 = .ok (.aload_n 0, 1) := by decide +kernel
theorem dX14_readFileSub_1 : decode cX14_readFileSub 1 = .ok (.getfield 42, 3) := by decide +kernel
theorem dX14_readFileSub_4 : decode cX14_readFileSub 4 = .ok (.istore_n 1, 1) := by decide +kernel
theorem dX14_readFileSub_5 : decode cX14_readFileSub 5 = .ok (.aload_n 0, 1) := by decide +kernel
theorem dX14_readFileSub_6 : decode cX14_readFileSub 6 = .ok (.getfield 46, 3) := by decide +kernel
theorem dX14_readFileSub_9 : decode cX14_readFileSub 9 = .ok (.istore_n 2, 1) := by decide +kernel
theorem dX14_readFileSub_10 : decode cX14_readFileSub 10 = .ok (.aload_n 0, 1) := by decide +kernel
theorem dX14_readFileSub_11 : decode cX14_readFileSub 11 = .ok (.iconst (-1), 1) := by decide +kernel
theorem dX14_readFileSub_12 : decode cX14_readFileSub 12 = .ok (.putfield 42, 3) := by decide +kernel
theorem dX14_readFileSub_15 : decode cX14_readFileSub 15 = .ok (.aload_n 0, 1) := by decide +kernel
theorem dX14_readFileSub_16 : decode cX14_readFileSub 16 = .ok (.iconst (-1), 1) := by decide +kernel
theorem dX14_readFileSub_17 : decode cX14_readFileSub 17 = .ok (.putfield 46, 3) := by decide +kernel
theorem dX14_readFileSub_20 : decode cX14_readFileSub 20 = .ok (.aload_n 0, 1) := by decide +kernel
theorem dX14_readFileSub_21 : decode cX14_readFileSub 21 = .ok (.iconst 0, 1) := by decide +kernel
theorem dX14_readFileSub_22 : decode cX14_readFileSub 22 = .ok (.putfield 533, 3) := by decide +kernel
theorem dX14_readFileSub_25 : decode cX14_readFileSub 25 = .ok (.aload_n 0, 1) := by decide +kernel
theorem dX14_readFileSub_26 : decode cX14_readFileSub 26 = .ok (.getfield 274, 3) := by decide +kernel
theorem dX14_readFileSub_29 : decode cX14_readFileSub 29 = .ok (.istore_n 3, 1) := by decide +kernel
theorem dX14_readFileSub_30 : decode cX14_readFileSub 30 = .ok (.iload_n 3, 1) := by decide +kernel
theorem dX14_readFileSub_31 : decode cX14_readFileSub 31 = .ok (.aload_n 0, 1) := by decide +kernel
theorem dX14_readFileSub_32 : decode cX14_readFileSub 32 = .ok (.getfield 260, 3) := by decide +kernel
theorem dX14_readFileSub_35 : decode cX14_readFileSub 35 = .ok (.if_icmp .ge 20, 3) := by decide +kernel
theorem dX14_readFileSub_55 : decode cX14_readFileSub 55 = .ok (.aload_n 0, 1) := by decide +kernel
theorem dX14_readFileSub_56 : decode cX14_readFileSub 56 = .ok (.aload_n 0, 1) := by decide +kernel
theorem dX14_readFileSub_57 : decode cX14_readFileSub 57 = .ok (.getfield 260, 3) := by decide +kernel
theorem dX14_readFileSub_60 : decode cX14_readFileSub 60 = .ok (.putfield 536, 3) := by decide +kernel
theorem dX14_readFileSub_63 : decode cX14_readFileSub 63 = .ok (.aload_n 0, 1) := by decide +kernel
theorem dX14_readFileSub_64 : decode cX14_readFileSub 64 = .ok (.iconst 0, 1) := by decide +kernel
theorem dX14_readFileSub_65 : decode cX14_readFileSub 65 = .ok (.putfield 548, 3) := by decide +kernel
theorem dX14_readFileSub_68 : decode cX14_readFileSub 68 = .ok (.aload_n 0, 1) := by decide +kernel
theorem dX14_readFileSub_69 : decode cX14_readFileSub 69 = .ok (.iconst 0, 1) := by decide +kernel
theorem dX14_readFileSub_70 : decode cX14_readFileSub 70 = .ok (.putfield 551, 3) := by decide +kernel
theorem dX14_readFileSub_73 : decode cX14_readFileSub 73 = .ok (.aload_n 0, 1) := by decide +kernel
theorem dX14_readFileSub_74 : decode cX14_readFileSub 74 = .ok (.iconst 0, 1) := by decide +kernel
theorem dX14_readFileSub_75 : decode cX14_readFileSub 75 = .ok (.putfield 554, 3) := by decide +kernel
theorem dX14_readFileSub_78 : decode cX14_readFileSub 78 = .ok (.aload_n 0, 1) := by decide +kernel
theorem dX14_readFileSub_79 : decode cX14_readFileSub 79 = .ok (.iconst 0, 1) := by decide +kernel
theorem dX14_readFileSub_80 : decode cX14_readFileSub 80 = .ok (.putfield 557, 3) := by decide +kernel
theorem dX14_readFileSub_83 : decode cX14_readFileSub 83 = .ok (.aload_n 0, 1) := by decide +kernel
theorem dX14_readFileSub_84 : decode cX14_readFileSub 84 = .ok (.invokevirtual 563, 3) := by decide +kernel
theorem dX14_readFileSub_87 : decode cX14_readFileSub 87 = .ok (.istore_n 3, 1) := by decide +kernel
theorem dX14_readFileSub_88 : decode cX14_readFileSub 88 = .ok (.aload_n 0, 1) := by decide +kernel
theorem dX14_readFileSub_89 : decode cX14_readFileSub 89 = .ok (.getfield 248, 3) := by decide +kernel
theorem dX14_readFileSub_92 : decode cX14_readFileSub 92 = .ok (.ifCond .ne 16, 3) := by decide +kernel
theorem dX14_readFileSub_108 : decode cX14_readFileSub 108 = .ok (.aload_n 0, 1) := by decide +kernel
theorem dX14_readFileSub_109 : decode cX14_readFileSub 109 = .ok (.iload_n 1, 1) := by decide +kernel
theorem dX14_readFileSub_110 : decode cX14_readFileSub 110 = .ok (.putfield 42, 3) := by decide +kernel
theorem dX14_readFileSub_113 : decode cX14_readFileSub 113 = .ok (.aload_n 0, 1) := by decide +kernel
theorem dX14_readFileSub_114 : decode cX14_readFileSub 114 = .ok (.iload_n 2, 1) := by decide +kernel
theorem dX14_readFileSub_115 : decode cX14_readFileSub 115 = .ok (.putfield 46, 3) := by decide +kernel
theorem dX14_readFileSub_118 : decode cX14_readFileSub 118 = .ok (.iload_n 3, 1) := by decide +kernel
theorem dX14_readFileSub_119 : decode cX14_readFileSub 119 = .ok (.ireturn, 1) := by decide +kernel
theorem dX14_readFileSub_95 : decode cX14_readFileSub 95 = .ok (.aload_n 0, 1) := by decide +kernel
theorem dX14_readFileSub_96 : decode cX14_readFileSub 96 = .ok (.dup, 1) := by decide +kernel
theorem dX14_readFileSub_97 : decode cX14_readFileSub 97 = .ok (.getfield 274, 3) := by decide +kernel
theorem dX14_readFileSub_100 : decode cX14_readFileSub 100 = .ok (.aload_n 0, 1) := by decide +kernel
theorem dX14_readFileSub_101 : decode cX14_readFileSub 101 = .ok (.getfield 548, 3) := by decide +kernel
theorem dX14_readFileSub_104 : decode cX14_readFileSub 104 = .ok (.iadd, 1) := by decide +kernel
theorem dX14_readFileSub_105 : decode cX14_readFileSub 105 = .ok (.putfield 274, 3) := by decide +kernel
theorem dX14_readFileSub_38 : decode cX14_readFileSub 38 = .ok (.aload_n 0, 1) := by decide +kernel
theorem dX14_readFileSub_39 : decode cX14_readFileSub 39 = .ok (.aload_n 0, 1) := by decide +kernel
theorem dX14_readFileSub_40 : decode cX14_readFileSub 40 = .ok (.getfield 263, 3) := by decide +kernel
theorem dX14_readFileSub_43 : decode cX14_readFileSub 43 = .ok (.iload_n 3, 1) := by decide +kernel
theorem dX14_readFileSub_44 : decode cX14_readFileSub 44 = .ok (.baload, 1) := by decide +kernel
theorem dX14_readFileSub_45 : decode cX14_readFileSub 45 = .ok (.iload_n 3, 1) := by decide +kernel
theorem dX14_readFileSub_46 : decode cX14_readFileSub 46 = .ok (.invokevirtual 545, 3) := by decide +kernel
theorem dX14_readFileSub_49 : decode cX14_readFileSub 49 = .ok (.iinc 3 1, 3) := by decide +kernel
theorem dX14_readFileSub_52 : decode cX14_readFileSub 52 = .ok (.goto (-22), 3) := by decide +kernel
theorem dX14_readBody_0 : decode cX14_readBody 0 = .ok (.aload_n 0, 1) := by decide +kernel
theorem dX14_readBody_1 : decode cX14_readBody 1 = .ok (.invokevirtual 308, 3) := by decide +kernel
theorem dX14_readBody_4 : decode cX14_readBody 4 = .ok (.aload_n 0, 1) := by decide +kernel
theorem dX14_readBody_5 : decode cX14_readBody 5 = .ok (.getfield 248, 3) := by decide +kernel
theorem dX14_readBody_8 : decode cX14_readBody 8 = .ok (.ifCond .eq 5, 3) := by decide +kernel
theorem dX14_readBody_13 : decode cX14_readBody 13 = .ok (.aload_n 0, 1) := by decide +kernel
theorem dX14_readBody_14 : decode cX14_readBody 14 = .ok (.getfield 274, 3) := by decide +kernel
theorem dX14_readBody_17 : decode cX14_readBody 17 = .ok (.istore_n 1, 1) := by decide +kernel
theorem dX14_readBody_18 : decode cX14_readBody 18 = .ok (.aload_n 0, 1) := by decide +kernel
theorem dX14_readBody_19 : decode cX14_readBody 19 = .ok (.iconst 0, 1) := by decide +kernel
theorem dX14_readBody_20 : decode cX14_readBody 20 = .ok (.putfield 533, 3) := by decide +kernel
theorem dX14_readBody_23 : decode cX14_readBody 23 = .ok (.aload_n 0, 1) := by decide +kernel
theorem dX14_readBody_24 : decode cX14_readBody 24 = .ok (.aload_n 0, 1) := by decide +kernel
theorem dX14_readBody_25 : decode cX14_readBody 25 = .ok (.getfield 274, 3) := by decide +kernel
theorem dX14_readBody_28 : decode cX14_readBody 28 = .ok (.invokevirtual 266, 3) := by decide +kernel
theorem dX14_readBody_31 : decode cX14_readBody 31 = .ok (.bipush 34, 2) := by decide +kernel
theorem dX14_readBody_33 : decode cX14_readBody 33 = .ok (.if_icmp .ne 37, 3) := by decide +kernel
theorem dX14_readBody_70 : decode cX14_readBody 70 = .ok (.aload_n 0, 1) := by decide +kernel
theorem dX14_readBody_71 : decode cX14_readBody 71 = .ok (.aload_n 0, 1) := by decide +kernel
theorem dX14_readBody_72 : decode cX14_readBody 72 = .ok (.getfield 274, 3) := by decide +kernel
theorem dX14_readBody_75 : decode cX14_readBody 75 = .ok (.invokevirtual 266, 3) := by decide +kernel
theorem dX14_readBody_78 : decode cX14_readBody 78 = .ok (.bipush 60, 2) := by decide +kernel
theorem dX14_readBody_80 : decode cX14_readBody 80 = .ok (.if_icmp .ne 205, 3) := by decide +kernel
theorem dX14_readBody_285 : decode cX14_readBody 285 = .ok (.aload_n 0, 1) := by decide +kernel
theorem dX14_readBody_286 : decode cX14_readBody 286 = .ok (.iconst 1, 1) := by decide +kernel
theorem dX14_readBody_287 : decode cX14_readBody 287 = .ok (.aload_n 0, 1) := by decide +kernel
theorem dX14_readBody_288 : decode cX14_readBody 288 = .ok (.getfield 274, 3) := by decide +kernel
theorem dX14_readBody_291 : decode cX14_readBody 291 = .ok (.invokevirtual 280, 3) := by decide +kernel
theorem dX14_readBody_294 : decode cX14_readBody 294 = .ok (.iconst 0, 1) := by decide +kernel
theorem dX14_readBody_295 : decode cX14_readBody 295 = .ok (.ireturn, 1) := by decide +kernel
theorem dX14_readBody_83 : decode cX14_readBody 83 = .ok (.aload_n 0, 1) := by decide +kernel
theorem dX14_readBody_84 : decode cX14_readBody 84 = .ok (.aload_n 0, 1) := by decide +kernel
theorem dX14_readBody_85 : decode cX14_readBody 85 = .ok (.getfield 274, 3) := by decide +kernel
theorem dX14_readBody_88 : decode cX14_readBody 88 = .ok (.iconst 1, 1) := by decide +kernel
theorem dX14_readBody_89 : decode cX14_readBody 89 = .ok (.iadd, 1) := by decide +kernel
theorem dX14_readBody_90 : decode cX14_readBody 90 = .ok (.invokevirtual 266, 3) := by decide +kernel
theorem dX14_readBody_93 : decode cX14_readBody 93 = .ok (.bipush 60, 2) := by decide +kernel
theorem dX14_readBody_95 : decode cX14_readBody 95 = .ok (.if_icmp .eq 18, 3) := by decide +kernel
theorem dX14_readBody_113 : decode cX14_readBody 113 = .ok (.aload_n 0, 1) := by decide +kernel
theorem dX14_readBody_114 : decode cX14_readBody 114 = .ok (.aload_n 0, 1) := by decide +kernel
theorem dX14_readBody_115 : decode cX14_readBody 115 = .ok (.getfield 274, 3) := by decide +kernel
theorem dX14_readBody_118 : decode cX14_readBody 118 = .ok (.iconst 1, 1) := by decide +kernel
theorem dX14_readBody_119 : decode cX14_readBody 119 = .ok (.iadd, 1) := by decide +kernel
theorem dX14_readBody_120 : decode cX14_readBody 120 = .ok (.invokevirtual 266, 3) := by decide +kernel
theorem dX14_readBody_123 : decode cX14_readBody 123 = .ok (.bipush 60, 2) := by decide +kernel
theorem dX14_readBody_125 : decode cX14_readBody 125 = .ok (.if_icmp .ne 7, 3) := by decide +kernel
theorem dX14_readBody_132 : decode cX14_readBody 132 = .ok (.iconst 0, 1) := by decide +kernel
theorem dX14_readBody_133 : decode cX14_readBody 133 = .ok (.istore_n 3, 1) := by decide +kernel
theorem dX14_readBody_134 : decode cX14_readBody 134 = .ok (.aload_n 0, 1) := by decide +kernel
theorem dX14_readBody_135 : decode cX14_readBody 135 = .ok (.getfield 274, 3) := by decide +kernel
theorem dX14_readBody_138 : decode cX14_readBody 138 = .ok (.iconst 2, 1) := by decide +kernel
theorem dX14_readBody_139 : decode cX14_readBody 139 = .ok (.iadd, 1) := by decide +kernel
theorem dX14_readBody_140 : decode cX14_readBody 140 = .ok (.istore_n 1, 1) := by decide +kernel
theorem dX14_readBody_141 : decode cX14_readBody 141 = .ok (.iload_n 1, 1) := by decide +kernel
theorem dX14_readBody_142 : decode cX14_readBody 142 = .ok (.istore_n 2, 1) := by decide +kernel
theorem dX14_readBody_143 : decode cX14_readBody 143 = .ok (.iload_n 2, 1) := by decide +kernel
theorem dX14_readBody_144 : decode cX14_readBody 144 = .ok (.aload_n 0, 1) := by decide +kernel
theorem dX14_readBody_145 : decode cX14_readBody 145 = .ok (.getfield 260, 3) := by decide +kernel
theorem dX14_readBody_148 : decode cX14_readBody 148 = .ok (.if_icmp .ge 40, 3) := by decide +kernel
theorem dX14_readBody_188 : decode cX14_readBody 188 = .ok (.iload_n 2, 1) := by decide +kernel
theorem dX14_readBody_189 : decode cX14_readBody 189 = .ok (.aload_n 0, 1) := by decide +kernel
theorem dX14_readBody_190 : decode cX14_readBody 190 = .ok (.getfield 260, 3) := by decide +kernel
theorem dX14_readBody_193 : decode cX14_readBody 193 = .ok (.if_icmp .lt 14, 3) := by decide +kernel
theorem dX14_readBody_207 : decode cX14_readBody 207 = .ok (.aload_n 0, 1) := by decide +kernel
theorem dX14_readBody_208 : decode cX14_readBody 208 = .ok (.iload_n 2, 1) := by decide +kernel
theorem dX14_readBody_209 : decode cX14_readBody 209 = .ok (.iconst 2, 1) := by decide +kernel
theorem dX14_readBody_210 : decode cX14_readBody 210 = .ok (.iadd, 1) := by decide +kernel
theorem dX14_readBody_211 : decode cX14_readBody 211 = .ok (.putfield 274, 3) := by decide +kernel
theorem dX14_readBody_214 : decode cX14_readBody 214 = .ok (.aload_n 0, 1) := by decide +kernel
theorem dX14_readBody_215 : decode cX14_readBody 215 = .ok (.iload_n 2, 1) := by decide +kernel
theorem dX14_readBody_216 : decode cX14_readBody 216 = .ok (.putfield 536, 3) := by decide +kernel
theorem dX14_readBody_219 : decode cX14_readBody 219 = .ok (.iload_n 3, 1) := by decide +kernel
theorem dX14_readBody_220 : decode cX14_readBody 220 = .ok (.ifCond .eq 51, 3) := by decide +kernel
theorem dX14_readBody_271 : decode cX14_readBody 271 = .ok (.aload_n 0, 1) := by decide +kernel
theorem dX14_readBody_272 : decode cX14_readBody 272 = .ok (.iload_n 1, 1) := by decide +kernel
theorem dX14_readBody_273 : decode cX14_readBody 273 = .ok (.iload_n 2, 1) := by decide +kernel
theorem dX14_readBody_274 : decode cX14_readBody 274 = .ok (.invokevirtual 539, 3) := by decide +kernel
theorem dX14_readBody_277 : decode cX14_readBody 277 = .ok (.aload_n 0, 1) := by decide +kernel
theorem dX14_readBody_278 : decode cX14_readBody 278 = .ok (.invokevirtual 542, 3) := by decide +kernel
theorem dX14_readBody_281 : decode cX14_readBody 281 = .ok (.ireturn, 1) := by decide +kernel
theorem dX14_readBody_223 : decode cX14_readBody 223 = .ok (.iload_n 2, 1) := by decide +kernel
theorem dX14_readBody_224 : decode cX14_readBody 224 = .ok (.iload_n 1, 1) := by decide +kernel
theorem dX14_readBody_225 : decode cX14_readBody 225 = .ok (.isub, 1) := by decide +kernel
theorem dX14_readBody_226 : decode cX14_readBody 226 = .ok (.istore 4, 2) := by decide +kernel
theorem dX14_readBody_228 : decode cX14_readBody 228 = .ok (.iload 4, 2) := by decide +kernel
theorem dX14_readBody_230 : decode cX14_readBody 230 = .ok (.ifCond .le 17, 3) := by decide +kernel
theorem dX14_readBody_247 : decode cX14_readBody 247 = .ok (.iload_n 2, 1) := by decide +kernel
theorem dX14_readBody_248 : decode cX14_readBody 248 = .ok (.iload_n 1, 1) := by decide +kernel
theorem dX14_readBody_249 : decode cX14_readBody 249 = .ok (.if_icmp .le 19, 3) := by decide +kernel
theorem dX14_readBody_268 : decode cX14_readBody 268 = .ok (.goto 14, 3) := by decide +kernel
theorem dX14_readBody_282 : decode cX14_readBody 282 = .ok (.goto 14, 3) := by decide +kernel
theorem dX14_readBody_296 : decode cX14_readBody 296 = .ok (.iload_n 1, 1) := by decide +kernel
theorem dX14_readBody_297 : decode cX14_readBody 297 = .ok (.istore_n 3, 1) := by decide +kernel
theorem dX14_readBody_298 : decode cX14_readBody 298 = .ok (.iload_n 3, 1) := by decide +kernel
theorem dX14_readBody_299 : decode cX14_readBody 299 = .ok (.iload_n 2, 1) := by decide +kernel
theorem dX14_readBody_300 : decode cX14_readBody 300 = .ok (.if_icmp .ge 20, 3) := by decide +kernel
theorem dX14_readBody_320 : decode cX14_readBody 320 = .ok (.aload_n 0, 1) := by decide +kernel
theorem dX14_readBody_321 : decode cX14_readBody 321 = .ok (.invokevirtual 542, 3) := by decide +kernel
theorem dX14_readBody_324 : decode cX14_readBody 324 = .ok (.ireturn, 1) := by decide +kernel
theorem dX14_readBody_303 : decode cX14_readBody 303 = .ok (.aload_n 0, 1) := by decide +kernel
theorem dX14_readBody_304 : decode cX14_readBody 304 = .ok (.aload_n 0, 1) := by decide +kernel
theorem dX14_readBody_305 : decode cX14_readBody 305 = .ok (.getfield 263, 3) := by decide +kernel
theorem dX14_readBody_308 : decode cX14_readBody 308 = .ok (.iload_n 3, 1) := by decide +kernel
theorem dX14_readBody_309 : decode cX14_readBody 309 = .ok (.baload, 1) := by decide +kernel
theorem dX14_readBody_310 : decode cX14_readBody 310 = .ok (.iload_n 3, 1) := by decide +kernel
theorem dX14_readBody_311 : decode cX14_readBody 311 = .ok (.invokevirtual 545, 3) := by decide +kernel
theorem dX14_readBody_314 : decode cX14_readBody 314 = .ok (.iinc 3 1, 3) := by decide +kernel
theorem dX14_readBody_317 : decode cX14_readBody 317 = .ok (.goto (-19), 3) := by decide +kernel
theorem dX14_readBody_252 : decode cX14_readBody 252 = .ok (.aload_n 0, 1) := by decide +kernel
theorem dX14_readBody_253 : decode cX14_readBody 253 = .ok (.getfield 263, 3) := by decide +kernel
theorem dX14_readBody_256 : decode cX14_readBody 256 = .ok (.iload_n 2, 1) := by decide +kernel
theorem dX14_readBody_257 : decode cX14_readBody 257 = .ok (.iconst 1, 1) := by decide +kernel
theorem dX14_readBody_258 : decode cX14_readBody 258 = .ok (.isub, 1) := by decide +kernel
theorem dX14_readBody_259 : decode cX14_readBody 259 = .ok (.baload, 1) := by decide +kernel
theorem dX14_readBody_260 : decode cX14_readBody 260 = .ok (.bipush 10, 2) := by decide +kernel
theorem dX14_readBody_262 : decode cX14_readBody 262 = .ok (.if_icmp .ne 6, 3) := by decide +kernel
theorem dX14_readBody_265 : decode cX14_readBody 265 = .ok (.iinc 2 (-1), 3) := by decide +kernel
theorem dX14_readBody_233 : decode cX14_readBody 233 = .ok (.aload_n 0, 1) := by decide +kernel
theorem dX14_readBody_234 : decode cX14_readBody 234 = .ok (.getfield 263, 3) := by decide +kernel
theorem dX14_readBody_237 : decode cX14_readBody 237 = .ok (.iload_n 1, 1) := by decide +kernel
theorem dX14_readBody_238 : decode cX14_readBody 238 = .ok (.baload, 1) := by decide +kernel
theorem dX14_readBody_239 : decode cX14_readBody 239 = .ok (.bipush 10, 2) := by decide +kernel
theorem dX14_readBody_241 : decode cX14_readBody 241 = .ok (.if_icmp .ne 6, 3) := by decide +kernel
theorem dX14_readBody_244 : decode cX14_readBody 244 = .ok (.iinc 1 1, 3) := by decide +kernel
theorem dX14_readBody_196 : decode cX14_readBody 196 = .ok (.aload_n 0, 1) := by decide +kernel
theorem dX14_readBody_197 : decode cX14_readBody 197 = .ok (.iconst 1, 1) := by decide +kernel
theorem dX14_readBody_198 : decode cX14_readBody 198 = .ok (.aload_n 0, 1) := by decide +kernel
theorem dX14_readBody_199 : decode cX14_readBody 199 = .ok (.getfield 260, 3) := by decide +kernel
theorem dX14_readBody_202 : decode cX14_readBody 202 = .ok (.invokevirtual 280, 3) := by decide +kernel
theorem dX14_readBody_205 : decode cX14_readBody 205 = .ok (.iconst 0, 1) := by decide +kernel
theorem dX14_readBody_206 : decode cX14_readBody 206 = .ok (.ireturn, 1) := by decide +kernel
theorem dX14_readBody_151 : decode cX14_readBody 151 = .ok (.aload_n 0, 1) := by decide +kernel
theorem dX14_readBody_152 : decode cX14_readBody 152 = .ok (.iload_n 2, 1) := by decide +kernel
theorem dX14_readBody_153 : decode cX14_readBody 153 = .ok (.invokevirtual 266, 3) := by decide +kernel
theorem dX14_readBody_156 : decode cX14_readBody 156 = .ok (.iload_n 3, 1) := by decide +kernel
theorem dX14_readBody_157 : decode cX14_readBody 157 = .ok (.ifCond .eq 8, 3) := by decide +kernel
theorem dX14_readBody_165 : decode cX14_readBody 165 = .ok (.bipush 37, 2) := by decide +kernel
theorem dX14_readBody_167 : decode cX14_readBody 167 = .ok (.if_icmp .ne 15, 3) := by decide +kernel
theorem dX14_readBody_182 : decode cX14_readBody 182 = .ok (.iinc 2 1, 3) := by decide +kernel
theorem dX14_readBody_185 : decode cX14_readBody 185 = .ok (.goto (-42), 3) := by decide +kernel
theorem dX14_readBody_170 : decode cX14_readBody 170 = .ok (.aload_n 0, 1) := by decide +kernel
theorem dX14_readBody_171 : decode cX14_readBody 171 = .ok (.iload_n 2, 1) := by decide +kernel
theorem dX14_readBody_172 : decode cX14_readBody 172 = .ok (.iconst 1, 1) := by decide +kernel
theorem dX14_readBody_173 : decode cX14_readBody 173 = .ok (.iadd, 1) := by decide +kernel
theorem dX14_readBody_174 : decode cX14_readBody 174 = .ok (.invokevirtual 266, 3) := by decide +kernel
theorem dX14_readBody_177 : decode cX14_readBody 177 = .ok (.bipush 62, 2) := by decide +kernel
theorem dX14_readBody_179 : decode cX14_readBody 179 = .ok (.if_icmp .eq 9, 3) := by decide +kernel
theorem dX14_readBody_160 : decode cX14_readBody 160 = .ok (.bipush 62, 2) := by decide +kernel
theorem dX14_readBody_162 : decode cX14_readBody 162 = .ok (.goto 5, 3) := by decide +kernel
theorem dX14_readBody_128 : decode cX14_readBody 128 = .ok (.iconst 1, 1) := by decide +kernel
theorem dX14_readBody_129 : decode cX14_readBody 129 = .ok (.goto 4, 3) := by decide +kernel
theorem dX14_readBody_98 : decode cX14_readBody 98 = .ok (.aload_n 0, 1) := by decide +kernel
theorem dX14_readBody_99 : decode cX14_readBody 99 = .ok (.aload_n 0, 1) := by decide +kernel
theorem dX14_readBody_100 : decode cX14_readBody 100 = .ok (.getfield 274, 3) := by decide +kernel
theorem dX14_readBody_103 : decode cX14_readBody 103 = .ok (.iconst 1, 1) := by decide +kernel
theorem dX14_readBody_104 : decode cX14_readBody 104 = .ok (.iadd, 1) := by decide +kernel
theorem dX14_readBody_105 : decode cX14_readBody 105 = .ok (.invokevirtual 266, 3) := by decide +kernel
theorem dX14_readBody_108 : decode cX14_readBody 108 = .ok (.bipush 37, 2) := by decide +kernel
theorem dX14_readBody_110 : decode cX14_readBody 110 = .ok (.if_icmp .ne 175, 3) := by decide +kernel
theorem dX14_readBody_36 : decode cX14_readBody 36 = .ok (.aload_n 0, 1) := by decide +kernel
theorem dX14_readBody_37 : decode cX14_readBody 37 = .ok (.invokevirtual 425, 3) := by decide +kernel
theorem dX14_readBody_40 : decode cX14_readBody 40 = .ok (.aload_n 0, 1) := by decide +kernel
theorem dX14_readBody_41 : decode cX14_readBody 41 = .ok (.getfield 248, 3) := by decide +kernel
theorem dX14_readBody_44 : decode cX14_readBody 44 = .ok (.ifCond .eq 5, 3) := by decide +kernel
theorem dX14_readBody_49 : decode cX14_readBody 49 = .ok (.aload_n 0, 1) := by decide +kernel
theorem dX14_readBody_50 : decode cX14_readBody 50 = .ok (.getfield 341, 3) := by decide +kernel
theorem dX14_readBody_53 : decode cX14_readBody 53 = .ok (.istore_n 1, 1) := by decide +kernel
theorem dX14_readBody_54 : decode cX14_readBody 54 = .ok (.aload_n 0, 1) := by decide +kernel
theorem dX14_readBody_55 : decode cX14_readBody 55 = .ok (.getfield 344, 3) := by decide +kernel
theorem dX14_readBody_58 : decode cX14_readBody 58 = .ok (.istore_n 2, 1) := by decide +kernel
theorem dX14_readBody_59 : decode cX14_readBody 59 = .ok (.aload_n 0, 1) := by decide +kernel
theorem dX14_readBody_60 : decode cX14_readBody 60 = .ok (.aload_n 0, 1) := by decide +kernel
theorem dX14_readBody_61 : decode cX14_readBody 61 = .ok (.getfield 344, 3) := by decide +kernel
theorem dX14_readBody_64 : decode cX14_readBody 64 = .ok (.putfield 536, 3) := by decide +kernel
theorem dX14_readBody_67 : decode cX14_readBody 67 = .ok (.goto 229, 3) := by decide +kernel
theorem dX14_readBody_47 : decode cX14_readBody 47 = .ok (.iconst 0, 1) := by decide +kernel
theorem dX14_readBody_48 : decode cX14_readBody 48 = .ok (.ireturn, 1) := by decide +kernel
theorem dX14_readBody_11 : decode cX14_readBody 11 = .ok (.iconst 0, 1) := by decide +kernel
theorem dX14_readBody_12 : decode cX14_readBody 12 = .ok (.ireturn, 1) := by decide +kernel
theorem dX14_readValue_0 : decode cX14_readValue 0 = .ok (.aload_n 0, 1) := by decide +kernel
theorem dX14_readValue_1 : decode cX14_readValue 1 = .ok (.invokevirtual 308, 3) := by decide +kernel
theorem dX14_readValue_4 : decode cX14_readValue 4 = .ok (.aload_n 0, 1) := by decide +kernel
theorem dX14_readValue_5 : decode cX14_readValue 5 = .ok (.getfield 248, 3) := by decide +kernel
theorem dX14_readValue_8 : decode cX14_readValue 8 = .ok (.ifCond .eq 5, 3) := by decide +kernel
theorem dX14_readValue_13 : decode cX14_readValue 13 = .ok (.aload_n 0, 1) := by decide +kernel
theorem dX14_readValue_14 : decode cX14_readValue 14 = .ok (.getfield 274, 3) := by decide +kernel
theorem dX14_readValue_17 : decode cX14_readValue 17 = .ok (.istore_n 2, 1) := by decide +kernel
theorem dX14_readValue_18 : decode cX14_readValue 18 = .ok (.aload_n 0, 1) := by decide +kernel
theorem dX14_readValue_19 : decode cX14_readValue 19 = .ok (.aload_n 0, 1) := by decide +kernel
theorem dX14_readValue_20 : decode cX14_readValue 20 = .ok (.getfield 274, 3) := by decide +kernel
theorem dX14_readValue_23 : decode cX14_readValue 23 = .ok (.invokevirtual 266, 3) := by decide +kernel
theorem dX14_readValue_26 : decode cX14_readValue 26 = .ok (.bipush 34, 2) := by decide +kernel
theorem dX14_readValue_28 : decode cX14_readValue 28 = .ok (.if_icmp .ne 36, 3) := by decide +kernel
theorem dX14_readValue_64 : decode cX14_readValue 64 = .ok (.aload_n 0, 1) := by decide +kernel
theorem dX14_readValue_65 : decode cX14_readValue 65 = .ok (.aload_n 0, 1) := by decide +kernel
theorem dX14_readValue_66 : decode cX14_readValue 66 = .ok (.getfield 274, 3) := by decide +kernel
theorem dX14_readValue_69 : decode cX14_readValue 69 = .ok (.invokevirtual 266, 3) := by decide +kernel
theorem dX14_readValue_72 : decode cX14_readValue 72 = .ok (.bipush 123, 2) := by decide +kernel
theorem dX14_readValue_74 : decode cX14_readValue 74 = .ok (.if_icmp .ne 8, 3) := by decide +kernel
theorem dX14_readValue_82 : decode cX14_readValue 82 = .ok (.aload_n 0, 1) := by decide +kernel
theorem dX14_readValue_83 : decode cX14_readValue 83 = .ok (.ldc_w 323, 3) := by decide +kernel
theorem dX14_readValue_86 : decode cX14_readValue 86 = .ok (.invokevirtual 313, 3) := by decide +kernel
theorem dX14_readValue_89 : decode cX14_readValue 89 = .ok (.ifCond .ne 13, 3) := by decide +kernel
theorem dX14_readValue_102 : decode cX14_readValue 102 = .ok (.aload_n 0, 1) := by decide +kernel
theorem dX14_readValue_103 : decode cX14_readValue 103 = .ok (.aload_n 0, 1) := by decide +kernel
theorem dX14_readValue_104 : decode cX14_readValue 104 = .ok (.ldc_w 323, 3) := by decide +kernel
theorem dX14_readValue_107 : decode cX14_readValue 107 = .ok (.invokevirtual 313, 3) := by decide +kernel
theorem dX14_readValue_110 : decode cX14_readValue 110 = .ok (.ifCond .eq 8, 3) := by decide +kernel
theorem dX14_readValue_118 : decode cX14_readValue 118 = .ok (.bipush 32, 2) := by decide +kernel
theorem dX14_readValue_120 : decode cX14_readValue 120 = .ok (.iconst 0, 1) := by decide +kernel
theorem dX14_readValue_121 : decode cX14_readValue 121 = .ok (.iconst 0, 1) := by decide +kernel
theorem dX14_readValue_122 : decode cX14_readValue 122 = .ok (.iload_n 2, 1) := by decide +kernel
theorem dX14_readValue_123 : decode cX14_readValue 123 = .ok (.invokevirtual 387, 3) := by decide +kernel
theorem dX14_readValue_126 : decode cX14_readValue 126 = .ok (.istore_n 3, 1) := by decide +kernel
theorem dX14_readValue_127 : decode cX14_readValue 127 = .ok (.aload_n 0, 1) := by decide +kernel
theorem dX14_readValue_128 : decode cX14_readValue 128 = .ok (.aload_n 0, 1) := by decide +kernel
theorem dX14_readValue_129 : decode cX14_readValue 129 = .ok (.getfield 263, 3) := by decide +kernel
theorem dX14_readValue_132 : decode cX14_readValue 132 = .ok (.aload_n 0, 1) := by decide +kernel
theorem dX14_readValue_133 : decode cX14_readValue 133 = .ok (.getfield 260, 3) := by decide +kernel
theorem dX14_readValue_136 : decode cX14_readValue 136 = .ok (.aload_n 0, 1) := by decide +kernel
theorem dX14_readValue_137 : decode cX14_readValue 137 = .ok (.getfield 274, 3) := by decide +kernel
theorem dX14_readValue_140 : decode cX14_readValue 140 = .ok (.invokestatic 300, 3) := by decide +kernel
theorem dX14_readValue_143 : decode cX14_readValue 143 = .ok (.putfield 274, 3) := by decide +kernel
theorem dX14_readValue_146 : decode cX14_readValue 146 = .ok (.iload_n 3, 1) := by decide +kernel
theorem dX14_readValue_147 : decode cX14_readValue 147 = .ok (.ireturn, 1) := by decide +kernel
theorem dX14_readValue_113 : decode cX14_readValue 113 = .ok (.bipush 31, 2) := by decide +kernel
theorem dX14_readValue_115 : decode cX14_readValue 115 = .ok (.goto 5, 3) := by decide +kernel
theorem dX14_readValue_92 : decode cX14_readValue 92 = .ok (.aload_n 0, 1) := by decide +kernel
theorem dX14_readValue_93 : decode cX14_readValue 93 = .ok (.ldc_w 325, 3) := by decide +kernel
theorem dX14_readValue_96 : decode cX14_readValue 96 = .ok (.invokevirtual 313, 3) := by decide +kernel
theorem dX14_readValue_99 : decode cX14_readValue 99 = .ok (.ifCond .eq 49, 3) := by decide +kernel
theorem dX14_readValue_148 : decode cX14_readValue 148 = .ok (.iload_n 1, 1) := by decide +kernel
theorem dX14_readValue_149 : decode cX14_readValue 149 = .ok (.ifCond .eq 33, 3) := by decide +kernel
theorem dX14_readValue_182 : decode cX14_readValue 182 = .ok (.iload_n 1, 1) := by decide +kernel
theorem dX14_readValue_183 : decode cX14_readValue 183 = .ok (.ifCond .ne 43, 3) := by decide +kernel
theorem dX14_readValue_226 : decode cX14_readValue 226 = .ok (.aload_n 0, 1) := by decide +kernel
theorem dX14_readValue_227 : decode cX14_readValue 227 = .ok (.iconst 1, 1) := by decide +kernel
theorem dX14_readValue_228 : decode cX14_readValue 228 = .ok (.aload_n 0, 1) := by decide +kernel
theorem dX14_readValue_229 : decode cX14_readValue 229 = .ok (.getfield 274, 3) := by decide +kernel
theorem dX14_readValue_232 : decode cX14_readValue 232 = .ok (.invokevirtual 280, 3) := by decide +kernel
theorem dX14_readValue_235 : decode cX14_readValue 235 = .ok (.iconst 0, 1) := by decide +kernel
theorem dX14_readValue_236 : decode cX14_readValue 236 = .ok (.ireturn, 1) := by decide +kernel
theorem dX14_readValue_186 : decode cX14_readValue 186 = .ok (.aload_n 0, 1) := by decide +kernel
theorem dX14_readValue_187 : decode cX14_readValue 187 = .ok (.aload_n 0, 1) := by decide +kernel
theorem dX14_readValue_188 : decode cX14_readValue 188 = .ok (.getfield 274, 3) := by decide +kernel
theorem dX14_readValue_191 : decode cX14_readValue 191 = .ok (.invokevirtual 266, 3) := by decide +kernel
theorem dX14_readValue_194 : decode cX14_readValue 194 = .ok (.bipush 91, 2) := by decide +kernel
theorem dX14_readValue_196 : decode cX14_readValue 196 = .ok (.if_icmp .ne 30, 3) := by decide +kernel
theorem dX14_readValue_199 : decode cX14_readValue 199 = .ok (.aload_n 0, 1) := by decide +kernel
theorem dX14_readValue_200 : decode cX14_readValue 200 = .ok (.dup, 1) := by decide +kernel
theorem dX14_readValue_201 : decode cX14_readValue 201 = .ok (.getfield 274, 3) := by decide +kernel
theorem dX14_readValue_204 : decode cX14_readValue 204 = .ok (.iconst 1, 1) := by decide +kernel
theorem dX14_readValue_205 : decode cX14_readValue 205 = .ok (.iadd, 1) := by decide +kernel
theorem dX14_readValue_206 : decode cX14_readValue 206 = .ok (.putfield 274, 3) := by decide +kernel
theorem dX14_readValue_209 : decode cX14_readValue 209 = .ok (.aload_n 0, 1) := by decide +kernel
theorem dX14_readValue_210 : decode cX14_readValue 210 = .ok (.ldc_w 523, 3) := by decide +kernel
theorem dX14_readValue_213 : decode cX14_readValue 213 = .ok (.invokevirtual 405, 3) := by decide +kernel
theorem dX14_readValue_216 : decode cX14_readValue 216 = .ok (.aload_n 0, 1) := by decide +kernel
theorem dX14_readValue_217 : decode cX14_readValue 217 = .ok (.bipush 34, 2) := by decide +kernel
theorem dX14_readValue_219 : decode cX14_readValue 219 = .ok (.iconst 0, 1) := by decide +kernel
theorem dX14_readValue_220 : decode cX14_readValue 220 = .ok (.iconst 0, 1) := by decide +kernel
theorem dX14_readValue_221 : decode cX14_readValue 221 = .ok (.iload_n 2, 1) := by decide +kernel
theorem dX14_readValue_222 : decode cX14_readValue 222 = .ok (.invokevirtual 387, 3) := by decide +kernel
theorem dX14_readValue_225 : decode cX14_readValue 225 = .ok (.ireturn, 1) := by decide +kernel
theorem dX14_readValue_152 : decode cX14_readValue 152 = .ok (.aload_n 0, 1) := by decide +kernel
theorem dX14_readValue_153 : decode cX14_readValue 153 = .ok (.ldc_w 321, 3) := by decide +kernel
theorem dX14_readValue_156 : decode cX14_readValue 156 = .ok (.invokevirtual 313, 3) := by decide +kernel
theorem dX14_readValue_159 : decode cX14_readValue 159 = .ok (.ifCond .eq 23, 3) := by decide +kernel
theorem dX14_readValue_162 : decode cX14_readValue 162 = .ok (.aload_n 0, 1) := by decide +kernel
theorem dX14_readValue_163 : decode cX14_readValue 163 = .ok (.dup, 1) := by decide +kernel
theorem dX14_readValue_164 : decode cX14_readValue 164 = .ok (.getfield 274, 3) := by decide +kernel
theorem dX14_readValue_167 : decode cX14_readValue 167 = .ok (.iconst 3, 1) := by decide +kernel
theorem dX14_readValue_168 : decode cX14_readValue 168 = .ok (.iadd, 1) := by decide +kernel
theorem dX14_readValue_169 : decode cX14_readValue 169 = .ok (.putfield 274, 3) := by decide +kernel
theorem dX14_readValue_172 : decode cX14_readValue 172 = .ok (.aload_n 0, 1) := by decide +kernel
theorem dX14_readValue_173 : decode cX14_readValue 173 = .ok (.bipush 56, 2) := by decide +kernel
theorem dX14_readValue_175 : decode cX14_readValue 175 = .ok (.iconst 0, 1) := by decide +kernel
theorem dX14_readValue_176 : decode cX14_readValue 176 = .ok (.iconst 0, 1) := by decide +kernel
theorem dX14_readValue_177 : decode cX14_readValue 177 = .ok (.iload_n 2, 1) := by decide +kernel
theorem dX14_readValue_178 : decode cX14_readValue 178 = .ok (.invokevirtual 387, 3) := by decide +kernel
theorem dX14_readValue_181 : decode cX14_readValue 181 = .ok (.ireturn, 1) := by decide +kernel
theorem dX14_readValue_77 : decode cX14_readValue 77 = .ok (.aload_n 0, 1) := by decide +kernel
theorem dX14_readValue_78 : decode cX14_readValue 78 = .ok (.invokevirtual 520, 3) := by decide +kernel
theorem dX14_readValue_81 : decode cX14_readValue 81 = .ok (.ireturn, 1) := by decide +kernel
theorem dX14_readValue_31 : decode cX14_readValue 31 = .ok (.aload_n 0, 1) := by decide +kernel
theorem dX14_readValue_32 : decode cX14_readValue 32 = .ok (.invokevirtual 425, 3) := by decide +kernel
theorem dX14_readValue_35 : decode cX14_readValue 35 = .ok (.aload_n 0, 1) := by decide +kernel
theorem dX14_readValue_36 : decode cX14_readValue 36 = .ok (.getfield 248, 3) := by decide +kernel
theorem dX14_readValue_39 : decode cX14_readValue 39 = .ok (.ifCond .ne 23, 3) := by decide +kernel
theorem dX14_readValue_62 : decode cX14_readValue 62 = .ok (.iconst 0, 1) := by decide +kernel
theorem dX14_readValue_63 : decode cX14_readValue 63 = .ok (.ireturn, 1) := by decide +kernel
theorem dX14_readValue_42 : decode cX14_readValue 42 = .ok (.aload_n 0, 1) := by decide +kernel
theorem dX14_readValue_43 : decode cX14_readValue 43 = .ok (.aload_n 0, 1) := by decide +kernel
theorem dX14_readValue_44 : decode cX14_readValue 44 = .ok (.getfield 263, 3) := by decide +kernel
theorem dX14_readValue_47 : decode cX14_readValue 47 = .ok (.aload_n 0, 1) := by decide +kernel
theorem dX14_readValue_48 : decode cX14_readValue 48 = .ok (.getfield 341, 3) := by decide +kernel
theorem dX14_readValue_51 : decode cX14_readValue 51 = .ok (.aload_n 0, 1) := by decide +kernel
theorem dX14_readValue_52 : decode cX14_readValue 52 = .ok (.getfield 344, 3) := by decide +kernel
theorem dX14_readValue_55 : decode cX14_readValue 55 = .ok (.iload_n 2, 1) := by decide +kernel
theorem dX14_readValue_56 : decode cX14_readValue 56 = .ok (.invokevirtual 516, 3) := by decide +kernel
theorem dX14_readValue_59 : decode cX14_readValue 59 = .ok (.goto 4, 3) := by decide +kernel
theorem dX14_readValue_11 : decode cX14_readValue 11 = .ok (.iconst 0, 1) := by decide +kernel
theorem dX14_readValue_12 : decode cX14_readValue 12 = .ok (.ireturn, 1) := by decide +kernel
def pre_X14_wholeText (σ : rS) (gg : Nat) (g : Nat → Int → Int) : Prop := rR σ 7 = gg ∧ rgk gg ∧ CCp σ ∧ 1 ≤ (rF σ gg 7) ∧ 0 ≤ (rF σ gg 38) ∧ 0 ≤ (rF σ gg 32) ∧ 0 ≤ (rF σ gg 9) ∧ 0 ≤ (rF σ gg 12) ∧ 0 ≤ (rF σ 0 28) ∧ (rF σ 0 28) ≤ 4001 ∧ (rF σ gg 7) + 4 * (rF σ 0 28) ≤ 49800 ∧ (rF σ gg 9) + (rF σ 0 28) ≤ 59800 ∧ (rF σ gg 12) + (rF σ 0 28) ≤ 16800 ∧ (rF σ gg 38) + (rF σ 0 28) ≤ 12800 ∧ 2 * (rF σ gg 32) + (rF σ 0 28) ≤ 10770 ∧ rNMp σ ∧ PNp σ ∧ fz σ = 0 ∧ Im (fz σ = 0) (GS σ gg g)
def post_X14_wholeText (σ : rS) (gg : Nat) (g : Nat → Int → Int) (r : Int) (σ' : rS) : Prop := fz σ ≤ fz σ' ∧ (rF σ gg 7) ≤ (rF σ' gg 7) ∧ (rF σ' gg 7) ≤ (rF σ gg 7) + 4 * (rF σ 0 28) + 1 + 40 * fz σ' ∧ (rF σ gg 9) ≤ (rF σ' gg 9) ∧ (rF σ' gg 9) ≤ (rF σ gg 9) + (rF σ 0 28) + 3 * fz σ' ∧ (rF σ gg 12) ≤ (rF σ' gg 12) ∧ (rF σ' gg 12) ≤ (rF σ gg 12) + (rF σ 0 28) + 3 * fz σ' ∧ (rF σ gg 38) ≤ (rF σ' gg 38) ∧ (rF σ' gg 38) ≤ (rF σ gg 38) + (rF σ 0 28) + 5 * fz σ' ∧ (rF σ gg 32) ≤ (rF σ' gg 32) ∧ 2 * (rF σ' gg 32) ≤ 2 * (rF σ gg 32) + (rF σ 0 28) + 3 * fz σ' ∧ 0 ≤ (rF σ' 0 38) ∧ 0 ≤ (rF σ' 0 39) ∧ rNMp σ' ∧ PNp σ' ∧ 0 ≤ r ∧ r < (rF σ' gg 7) ∧ Im (fz σ' = 0) (RG (RT σ) σ' gg 0) ∧ ∃ h, Im (fz σ' = 0) (GS σ' gg h ∧ GK g h (rF σ gg 7) (rF σ' gg 7) 0 ∧ NR σ' gg h 11 r ((rF σ gg 7)) 0 9000 0 ∧ ok1)
def VC_X14_wholeText (σ : rS) (gg : Nat) (g : Nat → Int → Int) (Q : Int → rS → Prop) : Prop := rgk (rR σ 7) ∧ ∃ (g14 : Nat → Int → Int), pre_X14_readText (sF (sF (sF (sF σ 0 29 0) 0 31 0) 0 38 0) 0 39 0) 0 gg g14 ∧ rk_X14_readText (sF (sF (sF (sF σ 0 29 0) 0 31 0) 0 38 0) 0 39 0) 0 gg g14 ≤ 360 ∧ (∀ (v22 : Int) (s22 : rS), rng v22 → rWF s22 → (CCp (sF (sF (sF (sF σ 0 29 0) 0 31 0) 0 38 0) 0 39 0) → CCp s22) → rR s22 7 = rR (sF (sF (sF (sF σ 0 29 0) 0 31 0) 0 38 0) 0 39 0) 7 → rF s22 0 14 = rF (sF (sF (sF (sF σ 0 29 0) 0 31 0) 0 38 0) 0 39 0) 0 14 → rF s22 0 16 = rF (sF (sF (sF (sF σ 0 29 0) 0 31 0) 0 38 0) 0 39 0) 0 16 → rF s22 0 17 = rF (sF (sF (sF (sF σ 0 29 0) 0 31 0) 0 38 0) 0 39 0) 0 17 → rF s22 0 19 = rF (sF (sF (sF (sF σ 0 29 0) 0 31 0) 0 38 0) 0 39 0) 0 19 → rF s22 0 28 = rF (sF (sF (sF (sF σ 0 29 0) 0 31 0) 0 38 0) 0 39 0) 0 28 → rF s22 0 30 = rF (sF (sF (sF (sF σ 0 29 0) 0 31 0) 0 38 0) 0 39 0) 0 30 → rF s22 0 32 = rF (sF (sF (sF (sF σ 0 29 0) 0 31 0) 0 38 0) 0 39 0) 0 32 → rF s22 0 33 = rF (sF (sF (sF (sF σ 0 29 0) 0 31 0) 0 38 0) 0 39 0) 0 33 → (∀ i, rA s22 1027 i = rA (sF (sF (sF (sF σ 0 29 0) 0 31 0) 0 38 0) 0 39 0) 1027 i) → post_X14_readText (sF (sF (sF (sF σ 0 29 0) 0 31 0) 0 38 0) 0 39 0) 0 gg g14 v22 s22 → Q v22 s22)
set_option maxHeartbeats 20000000 in
theorem vX14_wholeText (σ : rS) (gg : Nat) (g : Nat → Int → Int) (hwf : rWF σ) (hp : pre_X14_wholeText σ gg g) : VC_X14_wholeText σ gg g (post_X14_wholeText σ gg g) := by
  unfold pre_X14_wholeText at hp
  obtain ⟨hp_1, hp_2, hp_3, hp_4, hp_5, hp_6, hp_7, hp_8, hp_9, hp_10, hp_11, hp_12, hp_13, hp_14, hp_15, hp_16, hp_17, hp_18, hp_19⟩ := hp
  subst hp_1
  have zr0 := fz_rng σ
  unfold VC_X14_wholeText
  refine ⟨(by (all_goals (repeat' (first | with_reducible intro _ | with_reducible apply And.intro))); all_goals (first | assumption | trivial | (unfold NBP; omega) | (unfold NBQ; omega) | omega | (have zz_ := fz_z (by assumption); omega) | (split <;> omega) | (exact WNp.z38) | (exact fun hf_ => RG.rt4 (q22_8 hf_)) | (exact ⟨g22, fun hf_ => ⟨(X22 hf_).1, (X22 hf_).2.1, (X22 hf_).2.2.1.cst, ok1.i⟩⟩) | done)), ?_⟩
  refine ⟨g, ?_⟩
  refine ⟨(by (try simp only [pre_X14_readText, reduceIte, and_true, true_and, and_false, false_and, and_self, Nat.reduceEqDiff, fz_sF29, rF_sF, rA_sF, rR_sF, tr_sF, rNMp_sF, PNp_sF, GS_F29, OP_F29, NR_F29, LI_F29, RG_l29, RG_r29, TPRp_sF29, WNp_sF29, VMp_sF29, KYp_sF29, PPp_sF29, WFp_sF29, CCp_sF29, fz_sF31, GS_F31, OP_F31, NR_F31, LI_F31, RG_l31, RG_r31, TPRp_sF31, WNp_sF31, VMp_sF31, KYp_sF31, PPp_sF31, WFp_sF31, CCp_sF31, fz_sF38, GS_F38, OP_F38, NR_F38, LI_F38, TPRp_sF38, VMp_sF38, KYp_sF38, PPp_sF38, WFp_sF38, CCp_sF38, fz_sF39, GS_F39, OP_F39, NR_F39, LI_F39, TPRp_sF39, WNp_sF39, VMp_sF39, KYp_sF39, PPp_sF39, WFp_sF39, CCp_sF39, rk_n0 hp_2]); (all_goals (repeat' (first | with_reducible intro _ | with_reducible apply And.intro))); all_goals (first | assumption | trivial | (unfold NBP; (try simp only [reduceIte, and_true, true_and, and_false, false_and, and_self, Nat.reduceEqDiff, fz_sF29, rF_sF, rA_sF, rR_sF, tr_sF, rNMp_sF, PNp_sF, GS_F29, OP_F29, NR_F29, LI_F29, RG_l29, RG_r29, TPRp_sF29, WNp_sF29, VMp_sF29, KYp_sF29, PPp_sF29, WFp_sF29, CCp_sF29, fz_sF31, GS_F31, OP_F31, NR_F31, LI_F31, RG_l31, RG_r31, TPRp_sF31, WNp_sF31, VMp_sF31, KYp_sF31, PPp_sF31, WFp_sF31, CCp_sF31, fz_sF38, GS_F38, OP_F38, NR_F38, LI_F38, TPRp_sF38, VMp_sF38, KYp_sF38, PPp_sF38, WFp_sF38, CCp_sF38, fz_sF39, GS_F39, OP_F39, NR_F39, LI_F39, TPRp_sF39, WNp_sF39, VMp_sF39, KYp_sF39, PPp_sF39, WFp_sF39, CCp_sF39, rk_n0 hp_2]); omega) | (unfold NBQ; (try simp only [reduceIte, and_true, true_and, and_false, false_and, and_self, Nat.reduceEqDiff, fz_sF29, rF_sF, rA_sF, rR_sF, tr_sF, rNMp_sF, PNp_sF, GS_F29, OP_F29, NR_F29, LI_F29, RG_l29, RG_r29, TPRp_sF29, WNp_sF29, VMp_sF29, KYp_sF29, PPp_sF29, WFp_sF29, CCp_sF29, fz_sF31, GS_F31, OP_F31, NR_F31, LI_F31, RG_l31, RG_r31, TPRp_sF31, WNp_sF31, VMp_sF31, KYp_sF31, PPp_sF31, WFp_sF31, CCp_sF31, fz_sF38, GS_F38, OP_F38, NR_F38, LI_F38, TPRp_sF38, VMp_sF38, KYp_sF38, PPp_sF38, WFp_sF38, CCp_sF38, fz_sF39, GS_F39, OP_F39, NR_F39, LI_F39, TPRp_sF39, WNp_sF39, VMp_sF39, KYp_sF39, PPp_sF39, WFp_sF39, CCp_sF39, rk_n0 hp_2]); omega) | omega | (have zz_ := fz_z (by assumption); omega) | (split <;> omega) | (exact WNp.z38) | (exact fun hf_ => RG.rt4 (q22_8 hf_)) | (exact ⟨g22, fun hf_ => ⟨(X22 hf_).1, (X22 hf_).2.1, (X22 hf_).2.2.1.cst, ok1.i⟩⟩) | done)), ?_⟩
  refine ⟨(by (try simp only [rk_X14_readText, reduceIte, and_true, true_and, and_false, false_and, and_self, Nat.reduceEqDiff, fz_sF29, rF_sF, rA_sF, rR_sF, tr_sF, rNMp_sF, PNp_sF, GS_F29, OP_F29, NR_F29, LI_F29, RG_l29, RG_r29, TPRp_sF29, WNp_sF29, VMp_sF29, KYp_sF29, PPp_sF29, WFp_sF29, CCp_sF29, fz_sF31, GS_F31, OP_F31, NR_F31, LI_F31, RG_l31, RG_r31, TPRp_sF31, WNp_sF31, VMp_sF31, KYp_sF31, PPp_sF31, WFp_sF31, CCp_sF31, fz_sF38, GS_F38, OP_F38, NR_F38, LI_F38, TPRp_sF38, VMp_sF38, KYp_sF38, PPp_sF38, WFp_sF38, CCp_sF38, fz_sF39, GS_F39, OP_F39, NR_F39, LI_F39, TPRp_sF39, WNp_sF39, VMp_sF39, KYp_sF39, PPp_sF39, WFp_sF39, CCp_sF39, rk_n0 hp_2]); (all_goals (repeat' (first | with_reducible intro _ | with_reducible apply And.intro))); all_goals (first | assumption | trivial | (unfold NBP; (try simp only [reduceIte, and_true, true_and, and_false, false_and, and_self, Nat.reduceEqDiff, fz_sF29, rF_sF, rA_sF, rR_sF, tr_sF, rNMp_sF, PNp_sF, GS_F29, OP_F29, NR_F29, LI_F29, RG_l29, RG_r29, TPRp_sF29, WNp_sF29, VMp_sF29, KYp_sF29, PPp_sF29, WFp_sF29, CCp_sF29, fz_sF31, GS_F31, OP_F31, NR_F31, LI_F31, RG_l31, RG_r31, TPRp_sF31, WNp_sF31, VMp_sF31, KYp_sF31, PPp_sF31, WFp_sF31, CCp_sF31, fz_sF38, GS_F38, OP_F38, NR_F38, LI_F38, TPRp_sF38, VMp_sF38, KYp_sF38, PPp_sF38, WFp_sF38, CCp_sF38, fz_sF39, GS_F39, OP_F39, NR_F39, LI_F39, TPRp_sF39, WNp_sF39, VMp_sF39, KYp_sF39, PPp_sF39, WFp_sF39, CCp_sF39, rk_n0 hp_2]); omega) | (unfold NBQ; (try simp only [reduceIte, and_true, true_and, and_false, false_and, and_self, Nat.reduceEqDiff, fz_sF29, rF_sF, rA_sF, rR_sF, tr_sF, rNMp_sF, PNp_sF, GS_F29, OP_F29, NR_F29, LI_F29, RG_l29, RG_r29, TPRp_sF29, WNp_sF29, VMp_sF29, KYp_sF29, PPp_sF29, WFp_sF29, CCp_sF29, fz_sF31, GS_F31, OP_F31, NR_F31, LI_F31, RG_l31, RG_r31, TPRp_sF31, WNp_sF31, VMp_sF31, KYp_sF31, PPp_sF31, WFp_sF31, CCp_sF31, fz_sF38, GS_F38, OP_F38, NR_F38, LI_F38, TPRp_sF38, VMp_sF38, KYp_sF38, PPp_sF38, WFp_sF38, CCp_sF38, fz_sF39, GS_F39, OP_F39, NR_F39, LI_F39, TPRp_sF39, WNp_sF39, VMp_sF39, KYp_sF39, PPp_sF39, WFp_sF39, CCp_sF39, rk_n0 hp_2]); omega) | omega | (have zz_ := fz_z (by assumption); omega) | (split <;> omega) | (exact WNp.z38) | (exact fun hf_ => RG.rt4 (q22_8 hf_)) | (exact ⟨g22, fun hf_ => ⟨(X22 hf_).1, (X22 hf_).2.1, (X22 hf_).2.2.1.cst, ok1.i⟩⟩) | done)), ?_⟩
  intro v22 s22 hv22 Ws22 e22_0 e22_1 e22_2 e22_3 e22_4 e22_5 e22_6 e22_7 e22_8 e22_9 e22_10 q22
  unfold rng at hv22
  unfold post_X14_readText at q22
  obtain ⟨q22_1, q22_2, q22_3, q22_4, q22_5, q22_6, q22_7, q22_8, q22_9⟩ := q22
  (try simp only [reduceIte, and_true, true_and, and_false, false_and, and_self, Nat.reduceEqDiff, fz_sF29, rF_sF, rA_sF, rR_sF, tr_sF, rNMp_sF, PNp_sF, GS_F29, OP_F29, NR_F29, LI_F29, RG_l29, RG_r29, TPRp_sF29, WNp_sF29, VMp_sF29, KYp_sF29, PPp_sF29, WFp_sF29, CCp_sF29, fz_sF31, GS_F31, OP_F31, NR_F31, LI_F31, RG_l31, RG_r31, TPRp_sF31, WNp_sF31, VMp_sF31, KYp_sF31, PPp_sF31, WFp_sF31, CCp_sF31, fz_sF38, GS_F38, OP_F38, NR_F38, LI_F38, TPRp_sF38, VMp_sF38, KYp_sF38, PPp_sF38, WFp_sF38, CCp_sF38, fz_sF39, GS_F39, OP_F39, NR_F39, LI_F39, TPRp_sF39, WNp_sF39, VMp_sF39, KYp_sF39, PPp_sF39, WFp_sF39, CCp_sF39, rk_n0 hp_2, NBP, NBQ] at q22_1 q22_2 q22_3 q22_4 q22_5 q22_6 q22_7 q22_8 q22_9 e22_0 e22_1 e22_2 e22_3 e22_4 e22_5 e22_6 e22_7 e22_8 e22_9 e22_10)
  have Ks22 : rR s22 7 = rR σ 7 := by first | assumption | ((try simp only [rR_sF, rR_sA, rR_sT, rR_sL] at e22_0 e22_1 e22_2 e22_3 e22_4 e22_5 e22_6 e22_7 e22_8 e22_9 e22_10); omega)
  have zq_ := fz_rng s22
  obtain ⟨g22, X22⟩ := q22_9
  exact (by (try simp only [post_X14_wholeText, Ks22]); (all_goals (repeat' (first | with_reducible intro _ | with_reducible apply And.intro))); all_goals (first | assumption | trivial | (unfold NBP; (try simp only [Ks22]); omega) | (unfold NBQ; (try simp only [Ks22]); omega) | omega | (have zz_ := fz_z (by assumption); omega) | (split <;> omega) | (exact WNp.z38) | (exact fun hf_ => RG.rt4 (q22_8 hf_)) | (exact ⟨g22, fun hf_ => ⟨(X22 hf_).1, (X22 hf_).2.1, (X22 hf_).2.2.1.cst, ok1.i⟩⟩) | done))
theorem wX14_wholeText (l : Launch) (G : zG) (κ : Nat → Nat) (σ : rS) (gg : Nat) (g : Nat → Int → Int) (hwf : rWF σ) (Q : Int → rS → Prop) (h : VC_X14_wholeText σ gg g Q) : rMi l G κ yX14_wholeText cX14_wholeText 1 .int 461 18025 [.ref (κ 0)] σ (fun x s => rKeep 0x6c0a3001c00 0x4100001280 0x13c00000000 0x3ee0000d7f 0 σ s ∧ Q x s) := by
  refine zMi.intro (by decide +kernel) (Nat.le_of_ble_eq_true rfl) (fun X hC hR => ?_)
  obtain ⟨g0, h⟩ := h
  refine z_aload_n hC (pc := 0) 0 dX14_wholeText_0 rfl rfl ?_
  refine z_iconst hC (pc := 1) (v := Int32.ofInt 0) dX14_wholeText_1 (by decide) ?_
  refine y_putI hC (pc := 2) zf14 rOb_0 29 (x := 0) dX14_wholeText_2 zw2496 (Or.inl rfl) rfl rfl (kk := ?_)
  have W10 := hwf.sF (q := 0) (f := 29) (x := 0) (r_lit rfl)
  refine z_aload_n hC (pc := 5) 0 dX14_wholeText_5 rfl rfl ?_
  refine z_iconst hC (pc := 6) (v := Int32.ofInt 0) dX14_wholeText_6 (by decide) ?_
  refine y_putI hC (pc := 7) zf14 rOb_0 31 (x := 0) dX14_wholeText_7 zw2498 (Or.inl rfl) rfl rfl (kk := ?_)
  have W11 := W10.sF (q := 0) (f := 31) (x := 0) (r_lit rfl)
  refine z_aload_n hC (pc := 10) 0 dX14_wholeText_10 rfl rfl ?_
  refine z_iconst hC (pc := 11) (v := Int32.ofInt 0) dX14_wholeText_11 (by decide) ?_
  refine y_putI hC (pc := 12) zf14 rOb_0 38 (x := 0) dX14_wholeText_12 zw2505 (Or.inl rfl) rfl rfl (kk := ?_)
  have W12 := W11.sF (q := 0) (f := 38) (x := 0) (r_lit rfl)
  refine z_aload_n hC (pc := 15) 0 dX14_wholeText_15 rfl rfl ?_
  refine z_iconst hC (pc := 16) (v := Int32.ofInt 0) dX14_wholeText_16 (by decide) ?_
  refine y_putI hC (pc := 17) zf14 rOb_0 39 (x := 0) dX14_wholeText_17 zw2506 (Or.inl rfl) rfl rfl (kk := ?_)
  have W13 := W12.sF (q := 0) (f := 39) (x := 0) (r_lit rfl)
  refine z_aload_n hC (pc := 20) 0 dX14_wholeText_20 rfl rfl ?_
  refine z_iconst hC (pc := 21) (v := Int32.ofInt 0) dX14_wholeText_21 (by decide) ?_
  obtain ⟨g14, h⟩ := h
  obtain ⟨p15, h⟩ := h
  obtain ⟨p16, h⟩ := h
  refine y_callVi hC (pc := 22) (As := [iv 0]) (kkX14_readText l G κ (sF (sF (sF (sF σ 0 29 0) 0 31 0) 0 38 0) 0 39 0) 0 gg g14 W13 (r_lit rfl) p15 p16) dmX14_readText zf14 rOb_0 dX14_wholeText_22 zw3095 rfl rfl (Nat.le_of_ble_eq_true rfl) (Nat.le_of_ble_eq_true rfl) (Nat.le_of_ble_eq_true rfl) (Nat.le_of_ble_eq_true rfl) (Nat.le_of_ble_eq_true rfl) (kk := fun v22 s22 hv22 Ws22 qs22 => ?_)
  have h := h v22 s22 hv22 Ws22 (CCp.keep qs22.1 rfl rfl rfl rfl rfl rfl rfl) (qs22.1.R rfl) (qs22.1.F rfl) (qs22.1.F rfl) (qs22.1.F rfl) (qs22.1.F rfl) (qs22.1.F rfl) (qs22.1.F rfl) (qs22.1.F rfl) (qs22.1.F rfl) (fun i => qs22.1.A (f := 27) (by decide) rfl) qs22.2
  exact y_reti hR dX14_wholeText_25 rfl hv22 Ws22 (Nat.le_of_ble_eq_true rfl) (Nat.le_of_ble_eq_true rfl) ⟨(rKeep.tr (rKeep.tr (rKeep.tr (rKeep.tr (rKeep.tr rKeep.rf (rKeep.sF0 (f := 29)) rfl rfl rfl rfl rfl) (rKeep.sF0 (f := 31)) rfl rfl rfl rfl rfl) (rKeep.sF0 (f := 38)) rfl rfl rfl rfl rfl) (rKeep.sF0 (f := 39)) rfl rfl rfl rfl rfl) qs22.1 rfl rfl rfl rfl rfl), h⟩
theorem kX14_wholeText (l : Launch) (G : zG) (κ : Nat → Nat) (σ : rS) (gg : Nat) (g : Nat → Int → Int) (hwf : rWF σ) (hp : pre_X14_wholeText σ gg g) : rMi l G κ yX14_wholeText cX14_wholeText 1 .int 461 18025 [.ref (κ 0)] σ (fun x s => rKeep 0x6c0a3001c00 0x4100001280 0x13c00000000 0x3ee0000d7f 0 σ s ∧ post_X14_wholeText σ gg g x s) := wX14_wholeText l G κ σ gg g hwf (post_X14_wholeText σ gg g) (vX14_wholeText σ gg g hwf hp) 
def pre_X14_readFileSub (σ : rS) (gg : Nat) (U : Int) (g : Nat → Int → Int) : Prop := rR σ 7 = gg ∧ rgk gg ∧ FPZ σ gg U ∧ rNMp σ ∧ PNp σ ∧ rfk (rR σ 15) ∧ Im (fz σ = 0) (GS σ gg g) ∧ fz σ = 0 ∧ (rF σ 0 17) < (rF σ 0 16)
def post_X14_readFileSub (σ : rS) (gg : Nat) (U : Int) (g : Nat → Int → Int) (r : Int) (σ' : rS) : Prop := FQZ σ σ' gg ∧ rNMp σ' ∧ PNp σ' ∧ 0 ≤ r ∧ r < (rF σ' gg 7) ∧ Im (fz σ' = 0) (RG (RT σ) σ' gg 0) ∧ ∃ h, Im (fz σ' = 0) (GS σ' gg h ∧ GK g h (rF σ gg 7) (rF σ' gg 7) 0 ∧ NR σ' gg h 19 r ((rF σ gg 7)) 0 9000 0 ∧ ok1)
def inv_X14_readFileSub_30 (σ : rS) (gg : Nat) (U : Int) (g : Nat → Int → Int)  (s : rS) (te : Int) (re : Int) (k : Int) : Prop := (rF s gg 7) = (rF σ gg 7) ∧ (rF s gg 9) = (rF σ gg 9) ∧ (rF s gg 12) = (rF σ gg 12) ∧ (rF s gg 38) = (rF σ gg 38) ∧ (rF s gg 32) = (rF σ gg 32) ∧ (rF s 0 28) = k - (rF σ 0 17) ∧ (rF σ 0 17) ≤ k ∧ k ≤ (rF σ 0 16) ∧ (rF s 0 17) = (rF σ 0 17) ∧ (rF s 0 32) = -1 ∧ (rF s 0 33) = -1 ∧ fz s = 0 ∧ TPqp s ∧ rNMp s ∧ PNp s ∧ GS s gg g ∧ te = (rF σ 0 32) ∧ re = (rF σ 0 33) ∧ RG σ s gg 0
def mu_X14_readFileSub_30 (σ : rS) (gg : Nat) (U : Int) (g : Nat → Int → Int) (s : rS) (te : Int) (re : Int) (k : Int) : Nat := (1 + ((rF σ 0 16) - k).toNat)
def VC_X14_readFileSub (σ : rS) (gg : Nat) (U : Int) (g : Nat → Int → Int) (Q : Int → rS → Prop) : Prop := rgk (rR σ 7) ∧ (rng (rF σ 0 32) → (rng (rF σ 0 33) → (rng (rF σ 0 17) → (inv_X14_readFileSub_30 σ gg U g (sF (sF (sF σ 0 32 (-1)) 0 33 (-1)) 0 28 0) (rF σ 0 32) (rF σ 0 33) (rF σ 0 17)))))
def VC_X14_readFileSub_30 (σ : rS) (gg : Nat) (U : Int) (g : Nat → Int → Int) (Q : Int → rS → Prop) : Prop := ∀ (s30 : rS) (y30_1 : Int) (y30_2 : Int) (y30_3 : Int), rWF s30 → rng y30_1 → rng y30_2 → rng y30_3 → rR s30 7 = rR σ 7 → rR s30 15 = rR σ 15 → rF s30 0 14 = rF σ 0 14 → rF s30 0 16 = rF σ 0 16 → rF s30 0 19 = rF σ 0 19 → inv_X14_readFileSub_30 σ gg U g s30 y30_1 y30_2 y30_3 → ((rng (rF s30 0 16) → (((rF s30 0 16) ≤ y30_3 → ∃ (g18 : Nat → Int → Int), pre_X14_readSub (sF (sF (sF (sF (sF s30 0 30 (rF s30 0 16)) 0 29 0) 0 31 0) 0 38 0) 0 39 0) gg g18 ∧ rk_X14_readSub (sF (sF (sF (sF (sF s30 0 30 (rF s30 0 16)) 0 29 0) 0 31 0) 0 38 0) 0 39 0) gg g18 ≤ 360 ∧ (∀ (v84 : Int) (s84 : rS), rng v84 → rWF s84 → (CCp (sF (sF (sF (sF (sF s30 0 30 (rF s30 0 16)) 0 29 0) 0 31 0) 0 38 0) 0 39 0) → CCp s84) → rR s84 7 = rR (sF (sF (sF (sF (sF s30 0 30 (rF s30 0 16)) 0 29 0) 0 31 0) 0 38 0) 0 39 0) 7 → rR s84 15 = rR (sF (sF (sF (sF (sF s30 0 30 (rF s30 0 16)) 0 29 0) 0 31 0) 0 38 0) 0 39 0) 15 → rF s84 0 14 = rF (sF (sF (sF (sF (sF s30 0 30 (rF s30 0 16)) 0 29 0) 0 31 0) 0 38 0) 0 39 0) 0 14 → rF s84 0 16 = rF (sF (sF (sF (sF (sF s30 0 30 (rF s30 0 16)) 0 29 0) 0 31 0) 0 38 0) 0 39 0) 0 16 → rF s84 0 17 = rF (sF (sF (sF (sF (sF s30 0 30 (rF s30 0 16)) 0 29 0) 0 31 0) 0 38 0) 0 39 0) 0 17 → rF s84 0 19 = rF (sF (sF (sF (sF (sF s30 0 30 (rF s30 0 16)) 0 29 0) 0 31 0) 0 38 0) 0 39 0) 0 19 → rF s84 0 28 = rF (sF (sF (sF (sF (sF s30 0 30 (rF s30 0 16)) 0 29 0) 0 31 0) 0 38 0) 0 39 0) 0 28 → rF s84 0 30 = rF (sF (sF (sF (sF (sF s30 0 30 (rF s30 0 16)) 0 29 0) 0 31 0) 0 38 0) 0 39 0) 0 30 → rF s84 0 32 = rF (sF (sF (sF (sF (sF s30 0 30 (rF s30 0 16)) 0 29 0) 0 31 0) 0 38 0) 0 39 0) 0 32 → rF s84 0 33 = rF (sF (sF (sF (sF (sF s30 0 30 (rF s30 0 16)) 0 29 0) 0 31 0) 0 38 0) 0 39 0) 0 33 → (∀ i, rA s84 1026 i = rA (sF (sF (sF (sF (sF s30 0 30 (rF s30 0 16)) 0 29 0) 0 31 0) 0 38 0) 0 39 0) 1026 i) → (∀ i, rA s84 1027 i = rA (sF (sF (sF (sF (sF s30 0 30 (rF s30 0 16)) 0 29 0) 0 31 0) 0 38 0) 0 39 0) 1027 i) → post_X14_readSub (sF (sF (sF (sF (sF s30 0 30 (rF s30 0 16)) 0 29 0) 0 31 0) 0 38 0) 0 39 0) gg g18 v84 s84 → (rng (rF s84 0 10) → ((¬ (rF s84 0 10) = 0 → Q v84 (sF (sF s84 0 32 y30_1) 0 33 y30_2)) ∧ ((rF s84 0 10) = 0 → (rng (rF s84 0 17) → (rng (rF s84 0 29) → rng ((rF s84 0 17) + (rF s84 0 29)) ∧ Q v84 (sF (sF (sF s84 0 17 ((rF s84 0 17) + (rF s84 0 29))) 0 32 y30_1) 0 33 y30_2)))))))) ∧ (¬ (rF s30 0 16) ≤ y30_3 → rfk (rR s30 15) ∧ (0 ≤ y30_3 ∧ y30_3 < 4000) ∧ (rng (rA s30 (rR s30 15) y30_3) → pre_X14_addByte_f s30 (rA s30 (rR s30 15) y30_3) y30_3 ∧ (∀ (s46 : rS), rWF s46 → (rNMp s30 → rNMp s46) → (WNp s30 → WNp s46) → (PNp s30 → PNp s46) → rR s46 7 = rR s30 7 → rR s46 15 = rR s30 15 → rF s46 0 14 = rF s30 0 14 → rF s46 0 16 = rF s30 0 16 → rF s46 0 17 = rF s30 0 17 → rF s46 0 19 = rF s30 0 19 → rF s46 0 29 = rF s30 0 29 → rF s46 0 30 = rF s30 0 30 → rF s46 0 31 = rF s30 0 31 → rF s46 0 32 = rF s30 0 32 → rF s46 0 33 = rF s30 0 33 → rF s46 0 38 = rF s30 0 38 → rF s46 0 39 = rF s30 0 39 → (∀ i, rA s46 1034 i = rA s30 1034 i) → (∀ i, rA s46 1035 i = rA s30 1035 i) → (∀ i, rA s46 1040 i = rA s30 1040 i) → rF s46 (rR σ 7) 7 = rF s30 (rR σ 7) 7 → rF s46 (rR σ 7) 9 = rF s30 (rR σ 7) 9 → rF s46 (rR σ 7) 12 = rF s30 (rR σ 7) 12 → rF s46 (rR σ 7) 32 = rF s30 (rR σ 7) 32 → rF s46 (rR σ 7) 38 = rF s30 (rR σ 7) 38 → (∀ i, rA s46 (1000 * ((rR σ 7) + 1) + 10) i = rA s30 (1000 * ((rR σ 7) + 1) + 10) i) → (∀ i, rA s46 (1000 * ((rR σ 7) + 1) + 11) i = rA s30 (1000 * ((rR σ 7) + 1) + 11) i) → fz s46 = fz s30 → RG s30 s46 (rR σ 7) 0 → post_X14_addByte_f s30 (rA s30 (rR s30 15) y30_3) y30_3 s46 → rng (y30_3 + 1) ∧ (inv_X14_readFileSub_30 σ gg U g s46 y30_1 y30_2 (y30_3 + 1) ∧ (mu_X14_readFileSub_30 σ gg U g s46 y30_1 y30_2 (y30_3 + 1)) < (mu_X14_readFileSub_30 σ gg U g s30 y30_1 y30_2 y30_3))))))))
def VC_X14_readFileSub_30m (σ : rS) (gg : Nat) (U : Int) (g : Nat → Int → Int) : Prop := ∀ (s30 : rS) (y30_1 : Int) (y30_2 : Int) (y30_3 : Int), rWF s30 → rng y30_1 → rng y30_2 → rng y30_3 → rR s30 7 = rR σ 7 → rR s30 15 = rR σ 15 → rF s30 0 14 = rF σ 0 14 → rF s30 0 16 = rF σ 0 16 → rF s30 0 19 = rF σ 0 19 → inv_X14_readFileSub_30 σ gg U g s30 y30_1 y30_2 y30_3 → 0 < (mu_X14_readFileSub_30 σ gg U g s30 y30_1 y30_2 y30_3)
set_option maxHeartbeats 20000000 in
theorem vX14_readFileSub (σ : rS) (gg : Nat) (U : Int) (g : Nat → Int → Int) (hwf : rWF σ) (hp : pre_X14_readFileSub σ gg U g) : VC_X14_readFileSub σ gg U g (post_X14_readFileSub σ gg U g) := by
  unfold pre_X14_readFileSub at hp
  obtain ⟨hp_1, hp_2, hp_3, hp_4, hp_5, hp_6, hp_7, hp_8, hp_9⟩ := hp
  subst hp_1
  have hF := hp_3
  unfold FPZ at hF
  have zr0 := fz_rng σ
  unfold VC_X14_readFileSub
  refine ⟨(by (all_goals (repeat' (first | with_reducible intro _ | with_reducible apply And.intro))); all_goals (first | assumption | trivial | (unfold NBP; omega) | (unfold NBQ; omega) | (unfold FPZ; omega) | (unfold FQZ; omega) | omega | (have zz_ := fz_z (by assumption); omega) | (split <;> omega) | (exact TPqp.z (by simp only [rF_sF, Nat.reduceEqDiff, and_false, and_true, reduceIte])) | (exact WNp.z38) | (exact CCp.mk5 (by assumption) (by omega)) | (exact RG.rf) | (exact RG.tr0 RI_ R46) | (exact G46) | (exact hp_7 hp_8) | (exact fun _ => by assumption) | done)), ?_⟩
  intro hr_; unfold rng at hr_
  intro hr_; unfold rng at hr_
  intro hr_; unfold rng at hr_
  exact (by (try simp only [inv_X14_readFileSub_30, reduceIte, and_true, true_and, and_false, false_and, and_self, Nat.reduceEqDiff, fz_sF32, rF_sF, rA_sF, rR_sF, tr_sF, rNMp_sF, PNp_sF, GS_F32, OP_F32, NR_F32, LI_F32, RG_l32, RG_r32, TPRp_sF32, WNp_sF32, VMp_sF32, KYp_sF32, PPp_sF32, WFp_sF32, fz_sF33, GS_F33, OP_F33, NR_F33, LI_F33, RG_l33, RG_r33, TPRp_sF33, WNp_sF33, VMp_sF33, KYp_sF33, PPp_sF33, WFp_sF33, fz_sF28, GS_F28, OP_F28, NR_F28, LI_F28, RG_l28, RG_r28, WNp_sF28, VMp_sF28, KYp_sF28, PPp_sF28, WFp_sF28, rk_n0 hp_2]); (all_goals (repeat' (first | with_reducible intro _ | with_reducible apply And.intro))); all_goals (first | assumption | trivial | (unfold NBP; (try simp only [reduceIte, and_true, true_and, and_false, false_and, and_self, Nat.reduceEqDiff, fz_sF32, rF_sF, rA_sF, rR_sF, tr_sF, rNMp_sF, PNp_sF, GS_F32, OP_F32, NR_F32, LI_F32, RG_l32, RG_r32, TPRp_sF32, WNp_sF32, VMp_sF32, KYp_sF32, PPp_sF32, WFp_sF32, fz_sF33, GS_F33, OP_F33, NR_F33, LI_F33, RG_l33, RG_r33, TPRp_sF33, WNp_sF33, VMp_sF33, KYp_sF33, PPp_sF33, WFp_sF33, fz_sF28, GS_F28, OP_F28, NR_F28, LI_F28, RG_l28, RG_r28, WNp_sF28, VMp_sF28, KYp_sF28, PPp_sF28, WFp_sF28, rk_n0 hp_2]); omega) | (unfold NBQ; (try simp only [reduceIte, and_true, true_and, and_false, false_and, and_self, Nat.reduceEqDiff, fz_sF32, rF_sF, rA_sF, rR_sF, tr_sF, rNMp_sF, PNp_sF, GS_F32, OP_F32, NR_F32, LI_F32, RG_l32, RG_r32, TPRp_sF32, WNp_sF32, VMp_sF32, KYp_sF32, PPp_sF32, WFp_sF32, fz_sF33, GS_F33, OP_F33, NR_F33, LI_F33, RG_l33, RG_r33, TPRp_sF33, WNp_sF33, VMp_sF33, KYp_sF33, PPp_sF33, WFp_sF33, fz_sF28, GS_F28, OP_F28, NR_F28, LI_F28, RG_l28, RG_r28, WNp_sF28, VMp_sF28, KYp_sF28, PPp_sF28, WFp_sF28, rk_n0 hp_2]); omega) | (unfold FPZ; (try simp only [reduceIte, and_true, true_and, and_false, false_and, and_self, Nat.reduceEqDiff, fz_sF32, rF_sF, rA_sF, rR_sF, tr_sF, rNMp_sF, PNp_sF, GS_F32, OP_F32, NR_F32, LI_F32, RG_l32, RG_r32, TPRp_sF32, WNp_sF32, VMp_sF32, KYp_sF32, PPp_sF32, WFp_sF32, fz_sF33, GS_F33, OP_F33, NR_F33, LI_F33, RG_l33, RG_r33, TPRp_sF33, WNp_sF33, VMp_sF33, KYp_sF33, PPp_sF33, WFp_sF33, fz_sF28, GS_F28, OP_F28, NR_F28, LI_F28, RG_l28, RG_r28, WNp_sF28, VMp_sF28, KYp_sF28, PPp_sF28, WFp_sF28, rk_n0 hp_2]); omega) | (unfold FQZ; (try simp only [reduceIte, and_true, true_and, and_false, false_and, and_self, Nat.reduceEqDiff, fz_sF32, rF_sF, rA_sF, rR_sF, tr_sF, rNMp_sF, PNp_sF, GS_F32, OP_F32, NR_F32, LI_F32, RG_l32, RG_r32, TPRp_sF32, WNp_sF32, VMp_sF32, KYp_sF32, PPp_sF32, WFp_sF32, fz_sF33, GS_F33, OP_F33, NR_F33, LI_F33, RG_l33, RG_r33, TPRp_sF33, WNp_sF33, VMp_sF33, KYp_sF33, PPp_sF33, WFp_sF33, fz_sF28, GS_F28, OP_F28, NR_F28, LI_F28, RG_l28, RG_r28, WNp_sF28, VMp_sF28, KYp_sF28, PPp_sF28, WFp_sF28, rk_n0 hp_2]); omega) | omega | (have zz_ := fz_z (by assumption); omega) | (split <;> omega) | (exact TPqp.z (by simp only [rF_sF, Nat.reduceEqDiff, and_false, and_true, reduceIte])) | (exact WNp.z38) | (exact CCp.mk5 (by assumption) (by omega)) | (exact RG.rf) | (exact RG.tr0 RI_ R46) | (exact G46) | (exact hp_7 hp_8) | (exact fun _ => by assumption) | done))
set_option maxHeartbeats 20000000 in
theorem vX14_readFileSub_30 (σ : rS) (gg : Nat) (U : Int) (g : Nat → Int → Int) (hwf : rWF σ) (hp : pre_X14_readFileSub σ gg U g) : VC_X14_readFileSub_30 σ gg U g (post_X14_readFileSub σ gg U g) := by
  unfold pre_X14_readFileSub at hp
  obtain ⟨hp_1, hp_2, hp_3, hp_4, hp_5, hp_6, hp_7, hp_8, hp_9⟩ := hp
  subst hp_1
  have hF := hp_3
  unfold FPZ at hF
  have zr0 := fz_rng σ
  unfold VC_X14_readFileSub_30
  intro s30 y30_1 y30_2 y30_3 Ws30 hy30_1 hy30_2 hy30_3 e30_0 e30_1 e30_2 e30_3 e30_4 I30
  have Ks30 : rR s30 7 = rR σ 7 := by omega
  have Fs30 : rR s30 15 = rR σ 15 := by omega
  unfold inv_X14_readFileSub_30 at I30
  obtain ⟨I30_1, I30_2, I30_3, I30_4, I30_5, I30_6, I30_7, I30_8, I30_9, I30_10, I30_11, I30_12, I30_13, I30_14, I30_15, I30_16, I30_17, I30_18, I30_19⟩ := I30
  (try simp only [Ks30, Fs30, NBP, NBQ, FPZ, FQZ] at I30_1 I30_2 I30_3 I30_4 I30_5 I30_6 I30_7 I30_8 I30_9 I30_10 I30_11 I30_12 I30_13 I30_14 I30_15 I30_16 I30_17 I30_18 I30_19)
  have RI_ := I30_19
  intro hr_; unfold rng at hr_
  refine ⟨fun c35 => ?_, fun c35 => ?_⟩
  · refine ⟨g, ?_⟩
    refine ⟨(by (try simp only [pre_X14_readSub, reduceIte, and_true, true_and, and_false, false_and, and_self, Nat.reduceEqDiff, fz_sF30, rF_sF, rA_sF, rR_sF, tr_sF, rNMp_sF, PNp_sF, GS_F30, OP_F30, NR_F30, LI_F30, RG_l30, RG_r30, WNp_sF30, VMp_sF30, KYp_sF30, PPp_sF30, WFp_sF30, fz_sF29, GS_F29, OP_F29, NR_F29, LI_F29, RG_l29, RG_r29, TPRp_sF29, WNp_sF29, VMp_sF29, KYp_sF29, PPp_sF29, WFp_sF29, CCp_sF29, fz_sF31, GS_F31, OP_F31, NR_F31, LI_F31, RG_l31, RG_r31, TPRp_sF31, WNp_sF31, VMp_sF31, KYp_sF31, PPp_sF31, WFp_sF31, CCp_sF31, fz_sF38, GS_F38, OP_F38, NR_F38, LI_F38, TPRp_sF38, VMp_sF38, KYp_sF38, PPp_sF38, WFp_sF38, CCp_sF38, fz_sF39, GS_F39, OP_F39, NR_F39, LI_F39, TPRp_sF39, WNp_sF39, VMp_sF39, KYp_sF39, PPp_sF39, WFp_sF39, CCp_sF39, rk_n0 hp_2, Ks30, Fs30]); (all_goals (repeat' (first | with_reducible intro _ | with_reducible apply And.intro))); all_goals (first | assumption | trivial | (unfold NBP; (try simp only [reduceIte, and_true, true_and, and_false, false_and, and_self, Nat.reduceEqDiff, fz_sF30, rF_sF, rA_sF, rR_sF, tr_sF, rNMp_sF, PNp_sF, GS_F30, OP_F30, NR_F30, LI_F30, RG_l30, RG_r30, WNp_sF30, VMp_sF30, KYp_sF30, PPp_sF30, WFp_sF30, fz_sF29, GS_F29, OP_F29, NR_F29, LI_F29, RG_l29, RG_r29, TPRp_sF29, WNp_sF29, VMp_sF29, KYp_sF29, PPp_sF29, WFp_sF29, CCp_sF29, fz_sF31, GS_F31, OP_F31, NR_F31, LI_F31, RG_l31, RG_r31, TPRp_sF31, WNp_sF31, VMp_sF31, KYp_sF31, PPp_sF31, WFp_sF31, CCp_sF31, fz_sF38, GS_F38, OP_F38, NR_F38, LI_F38, TPRp_sF38, VMp_sF38, KYp_sF38, PPp_sF38, WFp_sF38, CCp_sF38, fz_sF39, GS_F39, OP_F39, NR_F39, LI_F39, TPRp_sF39, WNp_sF39, VMp_sF39, KYp_sF39, PPp_sF39, WFp_sF39, CCp_sF39, rk_n0 hp_2, Ks30, Fs30]); omega) | (unfold NBQ; (try simp only [reduceIte, and_true, true_and, and_false, false_and, and_self, Nat.reduceEqDiff, fz_sF30, rF_sF, rA_sF, rR_sF, tr_sF, rNMp_sF, PNp_sF, GS_F30, OP_F30, NR_F30, LI_F30, RG_l30, RG_r30, WNp_sF30, VMp_sF30, KYp_sF30, PPp_sF30, WFp_sF30, fz_sF29, GS_F29, OP_F29, NR_F29, LI_F29, RG_l29, RG_r29, TPRp_sF29, WNp_sF29, VMp_sF29, KYp_sF29, PPp_sF29, WFp_sF29, CCp_sF29, fz_sF31, GS_F31, OP_F31, NR_F31, LI_F31, RG_l31, RG_r31, TPRp_sF31, WNp_sF31, VMp_sF31, KYp_sF31, PPp_sF31, WFp_sF31, CCp_sF31, fz_sF38, GS_F38, OP_F38, NR_F38, LI_F38, TPRp_sF38, VMp_sF38, KYp_sF38, PPp_sF38, WFp_sF38, CCp_sF38, fz_sF39, GS_F39, OP_F39, NR_F39, LI_F39, TPRp_sF39, WNp_sF39, VMp_sF39, KYp_sF39, PPp_sF39, WFp_sF39, CCp_sF39, rk_n0 hp_2, Ks30, Fs30]); omega) | (unfold FPZ; (try simp only [reduceIte, and_true, true_and, and_false, false_and, and_self, Nat.reduceEqDiff, fz_sF30, rF_sF, rA_sF, rR_sF, tr_sF, rNMp_sF, PNp_sF, GS_F30, OP_F30, NR_F30, LI_F30, RG_l30, RG_r30, WNp_sF30, VMp_sF30, KYp_sF30, PPp_sF30, WFp_sF30, fz_sF29, GS_F29, OP_F29, NR_F29, LI_F29, RG_l29, RG_r29, TPRp_sF29, WNp_sF29, VMp_sF29, KYp_sF29, PPp_sF29, WFp_sF29, CCp_sF29, fz_sF31, GS_F31, OP_F31, NR_F31, LI_F31, RG_l31, RG_r31, TPRp_sF31, WNp_sF31, VMp_sF31, KYp_sF31, PPp_sF31, WFp_sF31, CCp_sF31, fz_sF38, GS_F38, OP_F38, NR_F38, LI_F38, TPRp_sF38, VMp_sF38, KYp_sF38, PPp_sF38, WFp_sF38, CCp_sF38, fz_sF39, GS_F39, OP_F39, NR_F39, LI_F39, TPRp_sF39, WNp_sF39, VMp_sF39, KYp_sF39, PPp_sF39, WFp_sF39, CCp_sF39, rk_n0 hp_2, Ks30, Fs30]); omega) | (unfold FQZ; (try simp only [reduceIte, and_true, true_and, and_false, false_and, and_self, Nat.reduceEqDiff, fz_sF30, rF_sF, rA_sF, rR_sF, tr_sF, rNMp_sF, PNp_sF, GS_F30, OP_F30, NR_F30, LI_F30, RG_l30, RG_r30, WNp_sF30, VMp_sF30, KYp_sF30, PPp_sF30, WFp_sF30, fz_sF29, GS_F29, OP_F29, NR_F29, LI_F29, RG_l29, RG_r29, TPRp_sF29, WNp_sF29, VMp_sF29, KYp_sF29, PPp_sF29, WFp_sF29, CCp_sF29, fz_sF31, GS_F31, OP_F31, NR_F31, LI_F31, RG_l31, RG_r31, TPRp_sF31, WNp_sF31, VMp_sF31, KYp_sF31, PPp_sF31, WFp_sF31, CCp_sF31, fz_sF38, GS_F38, OP_F38, NR_F38, LI_F38, TPRp_sF38, VMp_sF38, KYp_sF38, PPp_sF38, WFp_sF38, CCp_sF38, fz_sF39, GS_F39, OP_F39, NR_F39, LI_F39, TPRp_sF39, WNp_sF39, VMp_sF39, KYp_sF39, PPp_sF39, WFp_sF39, CCp_sF39, rk_n0 hp_2, Ks30, Fs30]); omega) | omega | (have zz_ := fz_z (by assumption); omega) | (split <;> omega) | (exact TPqp.z (by simp only [rF_sF, Nat.reduceEqDiff, and_false, and_true, reduceIte])) | (exact WNp.z38) | (exact CCp.mk5 (by assumption) (by omega)) | (exact RG.rf) | (exact RG.tr0 RI_ R46) | (exact G46) | (exact hp_7 hp_8) | (exact fun _ => by assumption) | done)), ?_⟩
    refine ⟨(by (try simp only [rk_X14_readSub, reduceIte, and_true, true_and, and_false, false_and, and_self, Nat.reduceEqDiff, fz_sF30, rF_sF, rA_sF, rR_sF, tr_sF, rNMp_sF, PNp_sF, GS_F30, OP_F30, NR_F30, LI_F30, RG_l30, RG_r30, WNp_sF30, VMp_sF30, KYp_sF30, PPp_sF30, WFp_sF30, fz_sF29, GS_F29, OP_F29, NR_F29, LI_F29, RG_l29, RG_r29, TPRp_sF29, WNp_sF29, VMp_sF29, KYp_sF29, PPp_sF29, WFp_sF29, CCp_sF29, fz_sF31, GS_F31, OP_F31, NR_F31, LI_F31, RG_l31, RG_r31, TPRp_sF31, WNp_sF31, VMp_sF31, KYp_sF31, PPp_sF31, WFp_sF31, CCp_sF31, fz_sF38, GS_F38, OP_F38, NR_F38, LI_F38, TPRp_sF38, VMp_sF38, KYp_sF38, PPp_sF38, WFp_sF38, CCp_sF38, fz_sF39, GS_F39, OP_F39, NR_F39, LI_F39, TPRp_sF39, WNp_sF39, VMp_sF39, KYp_sF39, PPp_sF39, WFp_sF39, CCp_sF39, rk_n0 hp_2, Ks30, Fs30]); (all_goals (repeat' (first | with_reducible intro _ | with_reducible apply And.intro))); all_goals (first | assumption | trivial | (unfold NBP; (try simp only [reduceIte, and_true, true_and, and_false, false_and, and_self, Nat.reduceEqDiff, fz_sF30, rF_sF, rA_sF, rR_sF, tr_sF, rNMp_sF, PNp_sF, GS_F30, OP_F30, NR_F30, LI_F30, RG_l30, RG_r30, WNp_sF30, VMp_sF30, KYp_sF30, PPp_sF30, WFp_sF30, fz_sF29, GS_F29, OP_F29, NR_F29, LI_F29, RG_l29, RG_r29, TPRp_sF29, WNp_sF29, VMp_sF29, KYp_sF29, PPp_sF29, WFp_sF29, CCp_sF29, fz_sF31, GS_F31, OP_F31, NR_F31, LI_F31, RG_l31, RG_r31, TPRp_sF31, WNp_sF31, VMp_sF31, KYp_sF31, PPp_sF31, WFp_sF31, CCp_sF31, fz_sF38, GS_F38, OP_F38, NR_F38, LI_F38, TPRp_sF38, VMp_sF38, KYp_sF38, PPp_sF38, WFp_sF38, CCp_sF38, fz_sF39, GS_F39, OP_F39, NR_F39, LI_F39, TPRp_sF39, WNp_sF39, VMp_sF39, KYp_sF39, PPp_sF39, WFp_sF39, CCp_sF39, rk_n0 hp_2, Ks30, Fs30]); omega) | (unfold NBQ; (try simp only [reduceIte, and_true, true_and, and_false, false_and, and_self, Nat.reduceEqDiff, fz_sF30, rF_sF, rA_sF, rR_sF, tr_sF, rNMp_sF, PNp_sF, GS_F30, OP_F30, NR_F30, LI_F30, RG_l30, RG_r30, WNp_sF30, VMp_sF30, KYp_sF30, PPp_sF30, WFp_sF30, fz_sF29, GS_F29, OP_F29, NR_F29, LI_F29, RG_l29, RG_r29, TPRp_sF29, WNp_sF29, VMp_sF29, KYp_sF29, PPp_sF29, WFp_sF29, CCp_sF29, fz_sF31, GS_F31, OP_F31, NR_F31, LI_F31, RG_l31, RG_r31, TPRp_sF31, WNp_sF31, VMp_sF31, KYp_sF31, PPp_sF31, WFp_sF31, CCp_sF31, fz_sF38, GS_F38, OP_F38, NR_F38, LI_F38, TPRp_sF38, VMp_sF38, KYp_sF38, PPp_sF38, WFp_sF38, CCp_sF38, fz_sF39, GS_F39, OP_F39, NR_F39, LI_F39, TPRp_sF39, WNp_sF39, VMp_sF39, KYp_sF39, PPp_sF39, WFp_sF39, CCp_sF39, rk_n0 hp_2, Ks30, Fs30]); omega) | (unfold FPZ; (try simp only [reduceIte, and_true, true_and, and_false, false_and, and_self, Nat.reduceEqDiff, fz_sF30, rF_sF, rA_sF, rR_sF, tr_sF, rNMp_sF, PNp_sF, GS_F30, OP_F30, NR_F30, LI_F30, RG_l30, RG_r30, WNp_sF30, VMp_sF30, KYp_sF30, PPp_sF30, WFp_sF30, fz_sF29, GS_F29, OP_F29, NR_F29, LI_F29, RG_l29, RG_r29, TPRp_sF29, WNp_sF29, VMp_sF29, KYp_sF29, PPp_sF29, WFp_sF29, CCp_sF29, fz_sF31, GS_F31, OP_F31, NR_F31, LI_F31, RG_l31, RG_r31, TPRp_sF31, WNp_sF31, VMp_sF31, KYp_sF31, PPp_sF31, WFp_sF31, CCp_sF31, fz_sF38, GS_F38, OP_F38, NR_F38, LI_F38, TPRp_sF38, VMp_sF38, KYp_sF38, PPp_sF38, WFp_sF38, CCp_sF38, fz_sF39, GS_F39, OP_F39, NR_F39, LI_F39, TPRp_sF39, WNp_sF39, VMp_sF39, KYp_sF39, PPp_sF39, WFp_sF39, CCp_sF39, rk_n0 hp_2, Ks30, Fs30]); omega) | (unfold FQZ; (try simp only [reduceIte, and_true, true_and, and_false, false_and, and_self, Nat.reduceEqDiff, fz_sF30, rF_sF, rA_sF, rR_sF, tr_sF, rNMp_sF, PNp_sF, GS_F30, OP_F30, NR_F30, LI_F30, RG_l30, RG_r30, WNp_sF30, VMp_sF30, KYp_sF30, PPp_sF30, WFp_sF30, fz_sF29, GS_F29, OP_F29, NR_F29, LI_F29, RG_l29, RG_r29, TPRp_sF29, WNp_sF29, VMp_sF29, KYp_sF29, PPp_sF29, WFp_sF29, CCp_sF29, fz_sF31, GS_F31, OP_F31, NR_F31, LI_F31, RG_l31, RG_r31, TPRp_sF31, WNp_sF31, VMp_sF31, KYp_sF31, PPp_sF31, WFp_sF31, CCp_sF31, fz_sF38, GS_F38, OP_F38, NR_F38, LI_F38, TPRp_sF38, VMp_sF38, KYp_sF38, PPp_sF38, WFp_sF38, CCp_sF38, fz_sF39, GS_F39, OP_F39, NR_F39, LI_F39, TPRp_sF39, WNp_sF39, VMp_sF39, KYp_sF39, PPp_sF39, WFp_sF39, CCp_sF39, rk_n0 hp_2, Ks30, Fs30]); omega) | omega | (have zz_ := fz_z (by assumption); omega) | (split <;> omega) | (exact TPqp.z (by simp only [rF_sF, Nat.reduceEqDiff, and_false, and_true, reduceIte])) | (exact WNp.z38) | (exact CCp.mk5 (by assumption) (by omega)) | (exact RG.rf) | (exact RG.tr0 RI_ R46) | (exact G46) | (exact hp_7 hp_8) | (exact fun _ => by assumption) | done)), ?_⟩
    intro v84 s84 hv84 Ws84 e84_0 e84_1 e84_2 e84_3 e84_4 e84_5 e84_6 e84_7 e84_8 e84_9 e84_10 e84_11 e84_12 q84
    unfold rng at hv84
    unfold post_X14_readSub at q84
    obtain ⟨q84_1, q84_2, q84_3, q84_4, q84_5, q84_6, q84_7, q84_8, q84_9, q84_10⟩ := q84
    (try simp only [reduceIte, and_true, true_and, and_false, false_and, and_self, Nat.reduceEqDiff, fz_sF30, rF_sF, rA_sF, rR_sF, tr_sF, rNMp_sF, PNp_sF, GS_F30, OP_F30, NR_F30, LI_F30, RG_l30, RG_r30, WNp_sF30, VMp_sF30, KYp_sF30, PPp_sF30, WFp_sF30, fz_sF29, GS_F29, OP_F29, NR_F29, LI_F29, RG_l29, RG_r29, TPRp_sF29, WNp_sF29, VMp_sF29, KYp_sF29, PPp_sF29, WFp_sF29, CCp_sF29, fz_sF31, GS_F31, OP_F31, NR_F31, LI_F31, RG_l31, RG_r31, TPRp_sF31, WNp_sF31, VMp_sF31, KYp_sF31, PPp_sF31, WFp_sF31, CCp_sF31, fz_sF38, GS_F38, OP_F38, NR_F38, LI_F38, TPRp_sF38, VMp_sF38, KYp_sF38, PPp_sF38, WFp_sF38, CCp_sF38, fz_sF39, GS_F39, OP_F39, NR_F39, LI_F39, TPRp_sF39, WNp_sF39, VMp_sF39, KYp_sF39, PPp_sF39, WFp_sF39, CCp_sF39, rk_n0 hp_2, Ks30, Fs30, NBP, NBQ, FPZ, FQZ] at q84_1 q84_2 q84_3 q84_4 q84_5 q84_6 q84_7 q84_8 q84_9 q84_10 e84_0 e84_1 e84_2 e84_3 e84_4 e84_5 e84_6 e84_7 e84_8 e84_9 e84_10 e84_11 e84_12)
    have Ks84 : rR s84 7 = rR σ 7 := by first | assumption | ((try simp only [rR_sF, rR_sA, rR_sT, rR_sL] at e84_0 e84_1 e84_2 e84_3 e84_4 e84_5 e84_6 e84_7 e84_8 e84_9 e84_10 e84_11 e84_12); omega)
    have Fs84 : rR s84 15 = rR σ 15 := by first | assumption | ((try simp only [rR_sF, rR_sA, rR_sT, rR_sL] at e84_0 e84_1 e84_2 e84_3 e84_4 e84_5 e84_6 e84_7 e84_8 e84_9 e84_10 e84_11 e84_12); omega)
    clear e84_0
    have zq_ := fz_rng s84
    obtain ⟨g84, X84⟩ := q84_10
    have E84 : ∃ h, Im (fz s84 = 0) (GS s84 (rR σ 7) h ∧ GK g h (rF σ (rR σ 7) 7) (rF s84 (rR σ 7) 7) 0 ∧ NR s84 (rR σ 7) h 19 v84 (rF σ (rR σ 7) 7) 0 9000 0 ∧ ok1) := ⟨g84, fun hf_ => ⟨(X84 hf_).1, by have k_ := (X84 hf_).2.1; rw [show rF s30 (rR σ 7) 7 = rF σ (rR σ 7) 7 by omega] at k_; exact k_, ((X84 hf_).2.2.1.so so_10_19).cst, ok1.i⟩⟩
    have A84 : Im (fz s84 = 0) (RG (RT σ) s84 (rR σ 7) 0) := fun hf_ => RG.tt (RG.rt5 (q84_9 hf_)) (RG.tr0 (RG.t0f (by omega) (by omega)) I30_19)
    intro hr_; unfold rng at hr_
    refine ⟨fun c92 => ?_, fun c92 => ?_⟩
    · have z92 := fz_n c92
      exact (by (try simp only [post_X14_readFileSub, reduceIte, and_true, true_and, and_false, false_and, and_self, Nat.reduceEqDiff, fz_sF32, rF_sF, rA_sF, rR_sF, tr_sF, rNMp_sF, PNp_sF, GS_F32, OP_F32, NR_F32, LI_F32, RG_l32, RG_r32, TPRp_sF32, WNp_sF32, VMp_sF32, KYp_sF32, PPp_sF32, WFp_sF32, fz_sF33, GS_F33, OP_F33, NR_F33, LI_F33, RG_l33, RG_r33, TPRp_sF33, WNp_sF33, VMp_sF33, KYp_sF33, PPp_sF33, WFp_sF33, rk_n0 hp_2, Ks84, Fs84]); (all_goals (repeat' (first | with_reducible intro _ | with_reducible apply And.intro))); all_goals (first | assumption | trivial | (unfold NBP; (try simp only [reduceIte, and_true, true_and, and_false, false_and, and_self, Nat.reduceEqDiff, fz_sF32, rF_sF, rA_sF, rR_sF, tr_sF, rNMp_sF, PNp_sF, GS_F32, OP_F32, NR_F32, LI_F32, RG_l32, RG_r32, TPRp_sF32, WNp_sF32, VMp_sF32, KYp_sF32, PPp_sF32, WFp_sF32, fz_sF33, GS_F33, OP_F33, NR_F33, LI_F33, RG_l33, RG_r33, TPRp_sF33, WNp_sF33, VMp_sF33, KYp_sF33, PPp_sF33, WFp_sF33, rk_n0 hp_2, Ks84, Fs84]); omega) | (unfold NBQ; (try simp only [reduceIte, and_true, true_and, and_false, false_and, and_self, Nat.reduceEqDiff, fz_sF32, rF_sF, rA_sF, rR_sF, tr_sF, rNMp_sF, PNp_sF, GS_F32, OP_F32, NR_F32, LI_F32, RG_l32, RG_r32, TPRp_sF32, WNp_sF32, VMp_sF32, KYp_sF32, PPp_sF32, WFp_sF32, fz_sF33, GS_F33, OP_F33, NR_F33, LI_F33, RG_l33, RG_r33, TPRp_sF33, WNp_sF33, VMp_sF33, KYp_sF33, PPp_sF33, WFp_sF33, rk_n0 hp_2, Ks84, Fs84]); omega) | (unfold FPZ; (try simp only [reduceIte, and_true, true_and, and_false, false_and, and_self, Nat.reduceEqDiff, fz_sF32, rF_sF, rA_sF, rR_sF, tr_sF, rNMp_sF, PNp_sF, GS_F32, OP_F32, NR_F32, LI_F32, RG_l32, RG_r32, TPRp_sF32, WNp_sF32, VMp_sF32, KYp_sF32, PPp_sF32, WFp_sF32, fz_sF33, GS_F33, OP_F33, NR_F33, LI_F33, RG_l33, RG_r33, TPRp_sF33, WNp_sF33, VMp_sF33, KYp_sF33, PPp_sF33, WFp_sF33, rk_n0 hp_2, Ks84, Fs84]); omega) | (unfold FQZ; (try simp only [reduceIte, and_true, true_and, and_false, false_and, and_self, Nat.reduceEqDiff, fz_sF32, rF_sF, rA_sF, rR_sF, tr_sF, rNMp_sF, PNp_sF, GS_F32, OP_F32, NR_F32, LI_F32, RG_l32, RG_r32, TPRp_sF32, WNp_sF32, VMp_sF32, KYp_sF32, PPp_sF32, WFp_sF32, fz_sF33, GS_F33, OP_F33, NR_F33, LI_F33, RG_l33, RG_r33, TPRp_sF33, WNp_sF33, VMp_sF33, KYp_sF33, PPp_sF33, WFp_sF33, rk_n0 hp_2, Ks84, Fs84]); omega) | omega | (have zz_ := fz_z (by assumption); omega) | (split <;> omega) | (exact TPqp.z (by simp only [rF_sF, Nat.reduceEqDiff, and_false, and_true, reduceIte])) | (exact WNp.z38) | (exact CCp.mk5 (by assumption) (by omega)) | (exact RG.rf) | (exact RG.tr0 RI_ R46) | (exact G46) | (exact hp_7 hp_8) | (exact fun _ => by assumption) | done))
    · have z92 := fz_z c92
      intro hr_; unfold rng at hr_
      intro hr_; unfold rng at hr_
      refine ⟨(by (try simp only [rng, Ks84, Fs84]); (all_goals (repeat' (first | with_reducible intro _ | with_reducible apply And.intro))); all_goals (first | assumption | trivial | (unfold NBP; (try simp only [Ks84, Fs84]); omega) | (unfold NBQ; (try simp only [Ks84, Fs84]); omega) | (unfold FPZ; (try simp only [Ks84, Fs84]); omega) | (unfold FQZ; (try simp only [Ks84, Fs84]); omega) | omega | (have zz_ := fz_z (by assumption); omega) | (split <;> omega) | (exact TPqp.z (by simp only [rF_sF, Nat.reduceEqDiff, and_false, and_true, reduceIte])) | (exact WNp.z38) | (exact CCp.mk5 (by assumption) (by omega)) | (exact RG.rf) | (exact RG.tr0 RI_ R46) | (exact G46) | (exact hp_7 hp_8) | (exact fun _ => by assumption) | done)), ?_⟩
      exact (by (try simp only [post_X14_readFileSub, reduceIte, and_true, true_and, and_false, false_and, and_self, Nat.reduceEqDiff, fz_sF17, rF_sF, rA_sF, rR_sF, tr_sF, rNMp_sF, PNp_sF, GS_F17, OP_F17, NR_F17, LI_F17, RG_l17, RG_r17, TPRp_sF17, WNp_sF17, VMp_sF17, KYp_sF17, PPp_sF17, WFp_sF17, CCp_sF17, fz_sF32, GS_F32, OP_F32, NR_F32, LI_F32, RG_l32, RG_r32, TPRp_sF32, WNp_sF32, VMp_sF32, KYp_sF32, PPp_sF32, WFp_sF32, fz_sF33, GS_F33, OP_F33, NR_F33, LI_F33, RG_l33, RG_r33, TPRp_sF33, WNp_sF33, VMp_sF33, KYp_sF33, PPp_sF33, WFp_sF33, rk_n0 hp_2, Ks84, Fs84]); (all_goals (repeat' (first | with_reducible intro _ | with_reducible apply And.intro))); all_goals (first | assumption | trivial | (unfold NBP; (try simp only [reduceIte, and_true, true_and, and_false, false_and, and_self, Nat.reduceEqDiff, fz_sF17, rF_sF, rA_sF, rR_sF, tr_sF, rNMp_sF, PNp_sF, GS_F17, OP_F17, NR_F17, LI_F17, RG_l17, RG_r17, TPRp_sF17, WNp_sF17, VMp_sF17, KYp_sF17, PPp_sF17, WFp_sF17, CCp_sF17, fz_sF32, GS_F32, OP_F32, NR_F32, LI_F32, RG_l32, RG_r32, TPRp_sF32, WNp_sF32, VMp_sF32, KYp_sF32, PPp_sF32, WFp_sF32, fz_sF33, GS_F33, OP_F33, NR_F33, LI_F33, RG_l33, RG_r33, TPRp_sF33, WNp_sF33, VMp_sF33, KYp_sF33, PPp_sF33, WFp_sF33, rk_n0 hp_2, Ks84, Fs84]); omega) | (unfold NBQ; (try simp only [reduceIte, and_true, true_and, and_false, false_and, and_self, Nat.reduceEqDiff, fz_sF17, rF_sF, rA_sF, rR_sF, tr_sF, rNMp_sF, PNp_sF, GS_F17, OP_F17, NR_F17, LI_F17, RG_l17, RG_r17, TPRp_sF17, WNp_sF17, VMp_sF17, KYp_sF17, PPp_sF17, WFp_sF17, CCp_sF17, fz_sF32, GS_F32, OP_F32, NR_F32, LI_F32, RG_l32, RG_r32, TPRp_sF32, WNp_sF32, VMp_sF32, KYp_sF32, PPp_sF32, WFp_sF32, fz_sF33, GS_F33, OP_F33, NR_F33, LI_F33, RG_l33, RG_r33, TPRp_sF33, WNp_sF33, VMp_sF33, KYp_sF33, PPp_sF33, WFp_sF33, rk_n0 hp_2, Ks84, Fs84]); omega) | (unfold FPZ; (try simp only [reduceIte, and_true, true_and, and_false, false_and, and_self, Nat.reduceEqDiff, fz_sF17, rF_sF, rA_sF, rR_sF, tr_sF, rNMp_sF, PNp_sF, GS_F17, OP_F17, NR_F17, LI_F17, RG_l17, RG_r17, TPRp_sF17, WNp_sF17, VMp_sF17, KYp_sF17, PPp_sF17, WFp_sF17, CCp_sF17, fz_sF32, GS_F32, OP_F32, NR_F32, LI_F32, RG_l32, RG_r32, TPRp_sF32, WNp_sF32, VMp_sF32, KYp_sF32, PPp_sF32, WFp_sF32, fz_sF33, GS_F33, OP_F33, NR_F33, LI_F33, RG_l33, RG_r33, TPRp_sF33, WNp_sF33, VMp_sF33, KYp_sF33, PPp_sF33, WFp_sF33, rk_n0 hp_2, Ks84, Fs84]); omega) | (unfold FQZ; (try simp only [reduceIte, and_true, true_and, and_false, false_and, and_self, Nat.reduceEqDiff, fz_sF17, rF_sF, rA_sF, rR_sF, tr_sF, rNMp_sF, PNp_sF, GS_F17, OP_F17, NR_F17, LI_F17, RG_l17, RG_r17, TPRp_sF17, WNp_sF17, VMp_sF17, KYp_sF17, PPp_sF17, WFp_sF17, CCp_sF17, fz_sF32, GS_F32, OP_F32, NR_F32, LI_F32, RG_l32, RG_r32, TPRp_sF32, WNp_sF32, VMp_sF32, KYp_sF32, PPp_sF32, WFp_sF32, fz_sF33, GS_F33, OP_F33, NR_F33, LI_F33, RG_l33, RG_r33, TPRp_sF33, WNp_sF33, VMp_sF33, KYp_sF33, PPp_sF33, WFp_sF33, rk_n0 hp_2, Ks84, Fs84]); omega) | omega | (have zz_ := fz_z (by assumption); omega) | (split <;> omega) | (exact TPqp.z (by simp only [rF_sF, Nat.reduceEqDiff, and_false, and_true, reduceIte])) | (exact WNp.z38) | (exact CCp.mk5 (by assumption) (by omega)) | (exact RG.rf) | (exact RG.tr0 RI_ R46) | (exact G46) | (exact hp_7 hp_8) | (exact fun _ => by assumption) | done))
  · refine ⟨(by (try simp only [Ks30, Fs30]); (all_goals (repeat' (first | with_reducible intro _ | with_reducible apply And.intro))); all_goals (first | assumption | trivial | (unfold NBP; (try simp only [Ks30, Fs30]); omega) | (unfold NBQ; (try simp only [Ks30, Fs30]); omega) | (unfold FPZ; (try simp only [Ks30, Fs30]); omega) | (unfold FQZ; (try simp only [Ks30, Fs30]); omega) | omega | (have zz_ := fz_z (by assumption); omega) | (split <;> omega) | (exact TPqp.z (by simp only [rF_sF, Nat.reduceEqDiff, and_false, and_true, reduceIte])) | (exact WNp.z38) | (exact CCp.mk5 (by assumption) (by omega)) | (exact RG.rf) | (exact RG.tr0 RI_ R46) | (exact G46) | (exact hp_7 hp_8) | (exact fun _ => by assumption) | done)), ?_⟩
    refine ⟨(by (try simp only [Ks30, Fs30]); (all_goals (repeat' (first | with_reducible intro _ | with_reducible apply And.intro))); all_goals (first | assumption | trivial | (unfold NBP; (try simp only [Ks30, Fs30]); omega) | (unfold NBQ; (try simp only [Ks30, Fs30]); omega) | (unfold FPZ; (try simp only [Ks30, Fs30]); omega) | (unfold FQZ; (try simp only [Ks30, Fs30]); omega) | omega | (have zz_ := fz_z (by assumption); omega) | (split <;> omega) | (exact TPqp.z (by simp only [rF_sF, Nat.reduceEqDiff, and_false, and_true, reduceIte])) | (exact WNp.z38) | (exact CCp.mk5 (by assumption) (by omega)) | (exact RG.rf) | (exact RG.tr0 RI_ R46) | (exact G46) | (exact hp_7 hp_8) | (exact fun _ => by assumption) | done)), ?_⟩
    intro hr_; unfold rng at hr_
    refine ⟨(by (try simp only [pre_X14_addByte_f, Ks30, Fs30]); (all_goals (repeat' (first | with_reducible intro _ | with_reducible apply And.intro))); all_goals (first | assumption | trivial | (unfold NBP; (try simp only [Ks30, Fs30]); omega) | (unfold NBQ; (try simp only [Ks30, Fs30]); omega) | (unfold FPZ; (try simp only [Ks30, Fs30]); omega) | (unfold FQZ; (try simp only [Ks30, Fs30]); omega) | omega | (have zz_ := fz_z (by assumption); omega) | (split <;> omega) | (exact TPqp.z (by simp only [rF_sF, Nat.reduceEqDiff, and_false, and_true, reduceIte])) | (exact WNp.z38) | (exact CCp.mk5 (by assumption) (by omega)) | (exact RG.rf) | (exact RG.tr0 RI_ R46) | (exact G46) | (exact hp_7 hp_8) | (exact fun _ => by assumption) | done)), ?_⟩
    intro s46 Ws46 e46_0 e46_1 e46_2 e46_3 e46_4 e46_5 e46_6 e46_7 e46_8 e46_9 e46_10 e46_11 e46_12 e46_13 e46_14 e46_15 e46_16 e46_17 e46_18 e46_19 e46_20 e46_21 e46_22 e46_23 e46_24 e46_25 e46_26 R46 q46
    unfold post_X14_addByte_f at q46
    obtain ⟨q46_1, q46_2⟩ := q46
    (try simp only [Ks30, Fs30, NBP, NBQ, FPZ, FQZ] at q46_1 q46_2 e46_0 e46_1 e46_2 e46_3 e46_4 e46_5 e46_6 e46_7 e46_8 e46_9 e46_10 e46_11 e46_12 e46_13 e46_14 e46_15 e46_16 e46_17 e46_18 e46_19 e46_20 e46_21 e46_22 e46_23 e46_24 e46_25 e46_26 R46)
    have Ks46 : rR s46 7 = rR σ 7 := by first | assumption | ((try simp only [rR_sF, rR_sA, rR_sT, rR_sL] at e46_0 e46_1 e46_2 e46_3 e46_4 e46_5 e46_6 e46_7 e46_8 e46_9 e46_10 e46_11 e46_12 e46_13 e46_14 e46_15 e46_16 e46_17 e46_18 e46_19 e46_20 e46_21 e46_22 e46_23 e46_24 e46_25 e46_26 R46); omega)
    have Fs46 : rR s46 15 = rR σ 15 := by first | assumption | ((try simp only [rR_sF, rR_sA, rR_sT, rR_sL] at e46_0 e46_1 e46_2 e46_3 e46_4 e46_5 e46_6 e46_7 e46_8 e46_9 e46_10 e46_11 e46_12 e46_13 e46_14 e46_15 e46_16 e46_17 e46_18 e46_19 e46_20 e46_21 e46_22 e46_23 e46_24 e46_25 e46_26 R46); omega)
    have rNMp_46 := e46_0 I30_14; clear e46_0
    clear e46_1
    have PNp_46 := e46_2 I30_15; clear e46_2
    have G46 : GS s46 (rR σ 7) g := GS.mv hp_2 I30_16 R46 (by omega) (by omega) (by omega)
    refine ⟨(by (try simp only [rng, Ks46, Fs46]); (all_goals (repeat' (first | with_reducible intro _ | with_reducible apply And.intro))); all_goals (first | assumption | trivial | (unfold NBP; (try simp only [Ks46, Fs46]); omega) | (unfold NBQ; (try simp only [Ks46, Fs46]); omega) | (unfold FPZ; (try simp only [Ks46, Fs46]); omega) | (unfold FQZ; (try simp only [Ks46, Fs46]); omega) | omega | (have zz_ := fz_z (by assumption); omega) | (split <;> omega) | (exact TPqp.z (by simp only [rF_sF, Nat.reduceEqDiff, and_false, and_true, reduceIte])) | (exact WNp.z38) | (exact CCp.mk5 (by assumption) (by omega)) | (exact RG.rf) | (exact RG.tr0 RI_ R46) | (exact G46) | (exact hp_7 hp_8) | (exact fun _ => by assumption) | done)), ?_⟩
    exact (by (try simp only [inv_X14_readFileSub_30, mu_X14_readFileSub_30, mu_X14_readFileSub_30, Ks46, Fs46]); (all_goals (repeat' (first | with_reducible intro _ | with_reducible apply And.intro))); all_goals (first | assumption | trivial | (unfold NBP; (try simp only [Ks46, Fs46]); omega) | (unfold NBQ; (try simp only [Ks46, Fs46]); omega) | (unfold FPZ; (try simp only [Ks46, Fs46]); omega) | (unfold FQZ; (try simp only [Ks46, Fs46]); omega) | omega | (have zz_ := fz_z (by assumption); omega) | (split <;> omega) | (exact TPqp.z (by simp only [rF_sF, Nat.reduceEqDiff, and_false, and_true, reduceIte])) | (exact WNp.z38) | (exact CCp.mk5 (by assumption) (by omega)) | (exact RG.rf) | (exact RG.tr0 RI_ R46) | (exact G46) | (exact hp_7 hp_8) | (exact fun _ => by assumption) | done))
set_option maxHeartbeats 20000000 in
theorem vX14_readFileSub_30m (σ : rS) (gg : Nat) (U : Int) (g : Nat → Int → Int) (hwf : rWF σ) (hp : pre_X14_readFileSub σ gg U g) : VC_X14_readFileSub_30m σ gg U g := by
  unfold pre_X14_readFileSub at hp
  obtain ⟨hp_1, hp_2, hp_3, hp_4, hp_5, hp_6, hp_7, hp_8, hp_9⟩ := hp
  subst hp_1
  have hF := hp_3
  unfold FPZ at hF
  have zr0 := fz_rng σ
  unfold VC_X14_readFileSub_30m
  (try simp only [inv_X14_readFileSub_30, mu_X14_readFileSub_30]); (all_goals (repeat' (first | with_reducible intro _ | with_reducible apply And.intro))); all_goals (first | assumption | omega | grind (splits := 20))
theorem wX14_readFileSub (l : Launch) (G : zG) (κ : Nat → Nat) (σ : rS) (gg : Nat) (U : Int) (g : Nat → Int → Int) (hwf : rWF σ) (Q : Int → rS → Prop) (h : VC_X14_readFileSub σ gg U g Q) (h_30 : VC_X14_readFileSub_30 σ gg U g Q) (h_30m : VC_X14_readFileSub_30m σ gg U g) : rMi l G κ yX14_readFileSub cX14_readFileSub 4 .int 461 18027 [.ref (κ 0)] σ (fun x s => rKeep 0x6c3f3021c00 0x4100001280 0x13c0c000000 0x3ee0000d7f 0 σ s ∧ Q x s) := by
  refine zMi.intro (by decide +kernel) (Nat.le_of_ble_eq_true rfl) (fun X hC hR => ?_)
  obtain ⟨g0, h⟩ := h
  refine z_aload_n hC (pc := 0) 0 dX14_readFileSub_0 rfl rfl ?_
  refine y_get hC (pc := 1) zf14 rOb_0 32 (v := iv (rF σ 0 32)) dX14_readFileSub_1 zw2499 (rv_i (Or.inl rfl) rfl) (kk := ?_)
  have h := h (hwf.f _ _)
  refine z_istore_n hC (pc := 4) (lv' := [(1, iv (rF σ 0 32)), (0, .ref (κ 0))]) dX14_readFileSub_4 rfl (by decide) rfl ?_
  refine z_aload_n hC (pc := 5) 1 dX14_readFileSub_5 rfl rfl ?_
  refine y_get hC (pc := 6) zf14 rOb_0 33 (v := iv (rF σ 0 33)) dX14_readFileSub_6 zw2500 (rv_i (Or.inl rfl) rfl) (kk := ?_)
  have h := h (hwf.f _ _)
  refine z_istore_n hC (pc := 9) (lv' := [(2, iv (rF σ 0 33)), (1, iv (rF σ 0 32)), (0, .ref (κ 0))]) dX14_readFileSub_9 rfl (by decide) rfl ?_
  refine z_aload_n hC (pc := 10) 2 dX14_readFileSub_10 rfl rfl ?_
  refine z_iconst hC (pc := 11) (v := Int32.ofInt (-1)) dX14_readFileSub_11 (by decide) ?_
  refine y_putI hC (pc := 12) zf14 rOb_0 32 (x := (-1)) dX14_readFileSub_12 zw2499 (Or.inl rfl) rfl rfl (kk := ?_)
  have W10 := hwf.sF (q := 0) (f := 32) (x := (-1)) (r_lit rfl)
  refine z_aload_n hC (pc := 15) 2 dX14_readFileSub_15 rfl rfl ?_
  refine z_iconst hC (pc := 16) (v := Int32.ofInt (-1)) dX14_readFileSub_16 (by decide) ?_
  refine y_putI hC (pc := 17) zf14 rOb_0 33 (x := (-1)) dX14_readFileSub_17 zw2500 (Or.inl rfl) rfl rfl (kk := ?_)
  have W11 := W10.sF (q := 0) (f := 33) (x := (-1)) (r_lit rfl)
  refine z_aload_n hC (pc := 20) 2 dX14_readFileSub_20 rfl rfl ?_
  refine z_iconst hC (pc := 21) (v := Int32.ofInt 0) dX14_readFileSub_21 (by decide) ?_
  refine y_putI hC (pc := 22) zf14 rOb_0 28 (x := 0) dX14_readFileSub_22 zw2495 (Or.inl rfl) rfl rfl (kk := ?_)
  have W12 := W11.sF (q := 0) (f := 28) (x := 0) (r_lit rfl)
  refine z_aload_n hC (pc := 25) 2 dX14_readFileSub_25 rfl rfl ?_
  refine y_get hC (pc := 26) zf14 rOb_0 17 (v := iv (rF σ 0 17)) dX14_readFileSub_26 zw2484 (rv_i (Or.inl rfl) ((F_sF_ne (by decide)).trans ((F_sF_ne (by decide)).trans ((F_sF_ne (by decide)).trans rfl)))) (kk := ?_)
  have h := h (hwf.f _ _)
  refine z_istore_n hC (pc := 29) (lv' := [(3, iv (rF σ 0 17)), (2, iv (rF σ 0 33)), (1, iv (rF σ 0 32)), (0, .ref (κ 0))]) dX14_readFileSub_29 rfl (by decide) rfl ?_
  have j30 : ∀ (d30 : Nat), ∀ (s30 : rS) (y30_1 : Int) (y30_2 : Int) (y30_3 : Int), rWF s30 → rng y30_1 → rng y30_2 → rng y30_3 → rKeep 0x6c3f3021c00 0x4100001280 0x13c0c000000 0x3ee0000d7f 0 σ s30 → inv_X14_readFileSub_30 σ gg U g s30 y30_1 y30_2 y30_3 → (mu_X14_readFileSub_30 σ gg U g s30 y30_1 y30_2 y30_3) ≤ d30 → zS X G 4 (rW G κ s30) [(0, .ref (κ 0)), (1, iv y30_1), (2, iv y30_2), (3, iv y30_3)] 0 0 30 [] := by
    intro d30
    induction d30 with
    | zero =>
      intro s30 y30_1 y30_2 y30_3 Ws30 hy30_1 hy30_2 hy30_3 kJ hI hmu
      exact absurd hmu (by have := h_30m  s30 y30_1 y30_2 y30_3 Ws30 hy30_1 hy30_2 hy30_3 (kJ.R rfl) (kJ.R rfl) (kJ.F rfl) (kJ.F rfl) (kJ.F rfl) hI; omega)
    | succ d30 ih30 =>
      intro s30 y30_1 y30_2 y30_3 Ws30 hy30_1 hy30_2 hy30_3 kJ hI hmu30
      have h := h_30  s30 y30_1 y30_2 y30_3 Ws30 hy30_1 hy30_2 hy30_3 (kJ.R rfl) (kJ.R rfl) (kJ.F rfl) (kJ.F rfl) (kJ.F rfl) hI
      refine z_iload_n hC (pc := 30) 3 dX14_readFileSub_30 rfl rfl ?_
      refine z_aload_n hC (pc := 31) 0 dX14_readFileSub_31 rfl rfl ?_
      refine y_get hC (pc := 32) zf14 rOb_0 16 (v := iv (rF s30 0 16)) dX14_readFileSub_32 zw2483 (rv_i (Or.inl rfl) rfl) (kk := ?_)
      have h := h (Ws30.f _ _)
      obtain ⟨hT, hF⟩ := h
      refine y_icmp_ge hC (pc := 35) 55 hy30_3 (Ws30.f _ _) dX14_readFileSub_35 (by decide) (fun c => ?_) (fun c => ?_)
      · have h := hT c
        refine z_aload_n hC (pc := 55) 0 dX14_readFileSub_55 rfl rfl ?_
        refine z_aload_n hC (pc := 56) 0 dX14_readFileSub_56 rfl rfl ?_
        refine y_get hC (pc := 57) zf14 rOb_0 16 (v := iv (rF s30 0 16)) dX14_readFileSub_57 zw2483 (rv_i (Or.inl rfl) rfl) (kk := ?_)
        refine y_putI hC (pc := 60) zf14 rOb_0 30 (x := (rF s30 0 16)) dX14_readFileSub_60 zw2497 (Or.inl rfl) rfl rfl (kk := ?_)
        have W13 := Ws30.sF (q := 0) (f := 30) (x := (rF s30 0 16)) (Ws30.f _ _)
        refine z_aload_n hC (pc := 63) 0 dX14_readFileSub_63 rfl rfl ?_
        refine z_iconst hC (pc := 64) (v := Int32.ofInt 0) dX14_readFileSub_64 (by decide) ?_
        refine y_putI hC (pc := 65) zf14 rOb_0 29 (x := 0) dX14_readFileSub_65 zw2496 (Or.inl rfl) rfl rfl (kk := ?_)
        have W14 := W13.sF (q := 0) (f := 29) (x := 0) (r_lit rfl)
        refine z_aload_n hC (pc := 68) 0 dX14_readFileSub_68 rfl rfl ?_
        refine z_iconst hC (pc := 69) (v := Int32.ofInt 0) dX14_readFileSub_69 (by decide) ?_
        refine y_putI hC (pc := 70) zf14 rOb_0 31 (x := 0) dX14_readFileSub_70 zw2498 (Or.inl rfl) rfl rfl (kk := ?_)
        have W15 := W14.sF (q := 0) (f := 31) (x := 0) (r_lit rfl)
        refine z_aload_n hC (pc := 73) 0 dX14_readFileSub_73 rfl rfl ?_
        refine z_iconst hC (pc := 74) (v := Int32.ofInt 0) dX14_readFileSub_74 (by decide) ?_
        refine y_putI hC (pc := 75) zf14 rOb_0 38 (x := 0) dX14_readFileSub_75 zw2505 (Or.inl rfl) rfl rfl (kk := ?_)
        have W16 := W15.sF (q := 0) (f := 38) (x := 0) (r_lit rfl)
        refine z_aload_n hC (pc := 78) 0 dX14_readFileSub_78 rfl rfl ?_
        refine z_iconst hC (pc := 79) (v := Int32.ofInt 0) dX14_readFileSub_79 (by decide) ?_
        refine y_putI hC (pc := 80) zf14 rOb_0 39 (x := 0) dX14_readFileSub_80 zw2506 (Or.inl rfl) rfl rfl (kk := ?_)
        have W17 := W16.sF (q := 0) (f := 39) (x := 0) (r_lit rfl)
        refine z_aload_n hC (pc := 83) 0 dX14_readFileSub_83 rfl rfl ?_
        obtain ⟨g18, h⟩ := h
        obtain ⟨p19, h⟩ := h
        obtain ⟨p20, h⟩ := h
        refine y_callVi hC (pc := 84) (As := []) (kkX14_readSub l G κ (sF (sF (sF (sF (sF s30 0 30 (rF s30 0 16)) 0 29 0) 0 31 0) 0 38 0) 0 39 0) gg g18 W17  p19 p20) dmX14_readSub zf14 rOb_0 dX14_readFileSub_84 zw3222 rfl rfl (Nat.le_of_ble_eq_true rfl) (Nat.le_of_ble_eq_true rfl) (Nat.le_of_ble_eq_true rfl) (Nat.le_of_ble_eq_true rfl) (Nat.le_of_ble_eq_true rfl) (kk := fun v84 s84 hv84 Ws84 qs84 => ?_)
        have h := h v84 s84 hv84 Ws84 (CCp.keep qs84.1 rfl rfl rfl rfl rfl rfl rfl) (qs84.1.R rfl) (qs84.1.R rfl) (qs84.1.F rfl) (qs84.1.F rfl) (qs84.1.F rfl) (qs84.1.F rfl) (qs84.1.F rfl) (qs84.1.F rfl) (qs84.1.F rfl) (qs84.1.F rfl) (fun i => qs84.1.A (f := 26) (by decide) rfl) (fun i => qs84.1.A (f := 27) (by decide) rfl) qs84.2
        refine z_istore_n hC (pc := 87) (lv' := [(3, iv v84), (0, .ref (κ 0)), (1, iv y30_1), (2, iv y30_2)]) dX14_readFileSub_87 rfl (by decide) rfl ?_
        refine z_aload_n hC (pc := 88) 1 dX14_readFileSub_88 rfl rfl ?_
        refine y_get hC (pc := 89) zf14 rOb_0 10 (v := iv (rF s84 0 10)) dX14_readFileSub_89 zw2478 (rv_i (Or.inl rfl) rfl) (kk := ?_)
        have h := h (Ws84.f _ _)
        obtain ⟨hT, hF⟩ := h
        refine y_if_ne hC (pc := 92) 108 (Ws84.f _ _) dX14_readFileSub_92 (by decide) (fun c => ?_) (fun c => ?_)
        · have h := hT c
          refine z_aload_n hC (pc := 108) 1 dX14_readFileSub_108 rfl rfl ?_
          refine z_iload_n hC (pc := 109) 2 dX14_readFileSub_109 rfl rfl ?_
          refine y_putI hC (pc := 110) zf14 rOb_0 32 (x := y30_1) dX14_readFileSub_110 zw2499 (Or.inl rfl) rfl rfl (kk := ?_)
          have W21 := Ws84.sF (q := 0) (f := 32) (x := y30_1) hy30_1
          refine z_aload_n hC (pc := 113) 1 dX14_readFileSub_113 rfl rfl ?_
          refine z_iload_n hC (pc := 114) 3 dX14_readFileSub_114 rfl rfl ?_
          refine y_putI hC (pc := 115) zf14 rOb_0 33 (x := y30_2) dX14_readFileSub_115 zw2500 (Or.inl rfl) rfl rfl (kk := ?_)
          have W22 := W21.sF (q := 0) (f := 33) (x := y30_2) hy30_2
          refine z_iload_n hC (pc := 118) 0 dX14_readFileSub_118 rfl rfl ?_
          exact y_reti hR dX14_readFileSub_119 rfl hv84 W22 (Nat.le_of_ble_eq_true rfl) (Nat.le_of_ble_eq_true rfl) ⟨(rKeep.tr (rKeep.tr (rKeep.tr (rKeep.tr (rKeep.tr (rKeep.tr (rKeep.tr (rKeep.tr (rKeep.tr rKeep.rf kJ rfl rfl rfl rfl rfl) (rKeep.sF0 (f := 30)) rfl rfl rfl rfl rfl) (rKeep.sF0 (f := 29)) rfl rfl rfl rfl rfl) (rKeep.sF0 (f := 31)) rfl rfl rfl rfl rfl) (rKeep.sF0 (f := 38)) rfl rfl rfl rfl rfl) (rKeep.sF0 (f := 39)) rfl rfl rfl rfl rfl) qs84.1 rfl rfl rfl rfl rfl) (rKeep.sF0 (f := 32)) rfl rfl rfl rfl rfl) (rKeep.sF0 (f := 33)) rfl rfl rfl rfl rfl), h⟩
        · have h := hF c
          refine z_aload_n hC (pc := 95) 1 dX14_readFileSub_95 rfl rfl ?_
          refine z_dup hC (pc := 96) dX14_readFileSub_96 rfl ?_
          refine y_get hC (pc := 97) zf14 rOb_0 17 (v := iv (rF s84 0 17)) dX14_readFileSub_97 zw2484 (rv_i (Or.inl rfl) rfl) (kk := ?_)
          have h := h (Ws84.f _ _)
          refine z_aload_n hC (pc := 100) 1 dX14_readFileSub_100 rfl rfl ?_
          refine y_get hC (pc := 101) zf14 rOb_0 29 (v := iv (rF s84 0 29)) dX14_readFileSub_101 zw2496 (rv_i (Or.inl rfl) rfl) (kk := ?_)
          have h := h (Ws84.f _ _)
          refine y_iadd hC (pc := 104) (v := ((rF s84 0 17) + (rF s84 0 29))) dX14_readFileSub_104 rfl ?_
          obtain ⟨r23, h⟩ := h
          refine y_putI hC (pc := 105) zf14 rOb_0 17 (x := ((rF s84 0 17) + (rF s84 0 29))) dX14_readFileSub_105 zw2484 (Or.inl rfl) rfl rfl (kk := ?_)
          have W24 := Ws84.sF (q := 0) (f := 17) (x := ((rF s84 0 17) + (rF s84 0 29))) r23
          refine z_aload_n hC (pc := 108) 1 dX14_readFileSub_108 rfl rfl ?_
          refine z_iload_n hC (pc := 109) 2 dX14_readFileSub_109 rfl rfl ?_
          refine y_putI hC (pc := 110) zf14 rOb_0 32 (x := y30_1) dX14_readFileSub_110 zw2499 (Or.inl rfl) rfl rfl (kk := ?_)
          have W25 := W24.sF (q := 0) (f := 32) (x := y30_1) hy30_1
          refine z_aload_n hC (pc := 113) 1 dX14_readFileSub_113 rfl rfl ?_
          refine z_iload_n hC (pc := 114) 3 dX14_readFileSub_114 rfl rfl ?_
          refine y_putI hC (pc := 115) zf14 rOb_0 33 (x := y30_2) dX14_readFileSub_115 zw2500 (Or.inl rfl) rfl rfl (kk := ?_)
          have W26 := W25.sF (q := 0) (f := 33) (x := y30_2) hy30_2
          refine z_iload_n hC (pc := 118) 0 dX14_readFileSub_118 rfl rfl ?_
          exact y_reti hR dX14_readFileSub_119 rfl hv84 W26 (Nat.le_of_ble_eq_true rfl) (Nat.le_of_ble_eq_true rfl) ⟨(rKeep.tr (rKeep.tr (rKeep.tr (rKeep.tr (rKeep.tr (rKeep.tr (rKeep.tr (rKeep.tr (rKeep.tr (rKeep.tr rKeep.rf kJ rfl rfl rfl rfl rfl) (rKeep.sF0 (f := 30)) rfl rfl rfl rfl rfl) (rKeep.sF0 (f := 29)) rfl rfl rfl rfl rfl) (rKeep.sF0 (f := 31)) rfl rfl rfl rfl rfl) (rKeep.sF0 (f := 38)) rfl rfl rfl rfl rfl) (rKeep.sF0 (f := 39)) rfl rfl rfl rfl rfl) qs84.1 rfl rfl rfl rfl rfl) (rKeep.sF0 (f := 17)) rfl rfl rfl rfl rfl) (rKeep.sF0 (f := 32)) rfl rfl rfl rfl rfl) (rKeep.sF0 (f := 33)) rfl rfl rfl rfl rfl), h⟩
      · have h := hF c
        refine z_aload_n hC (pc := 38) 0 dX14_readFileSub_38 rfl rfl ?_
        refine z_aload_n hC (pc := 39) 0 dX14_readFileSub_39 rfl rfl ?_
        obtain ⟨g27, h⟩ := h
        refine y_get hC (pc := 40) zf14 rOb_0 15 (v := .ref (κ (rR s30 15))) dX14_readFileSub_40 zw2482 (rv_b rfl rfl g27) (kk := ?_)
        refine z_iload_n hC (pc := 43) 3 dX14_readFileSub_43 rfl rfl ?_
        obtain ⟨b28, h⟩ := h
        refine y_bald hC (pc := 44) (rAr_f g27) dX14_readFileSub_44 b28 (v := (rA s30 (rR s30 15) y30_3)) rfl (kk := ?_)
        have h := h (Ws30.a _ _)
        refine z_iload_n hC (pc := 45) 3 dX14_readFileSub_45 rfl rfl ?_
        obtain ⟨p29, h⟩ := h
        refine y_callVv hC (pc := 46) (As := [iv (rA s30 (rR s30 15) y30_3), iv y30_3]) (kX14_addByte_f l G κ s30 (rA s30 (rR s30 15) y30_3) y30_3 Ws30 (Ws30.a _ _) hy30_3 p29) dmX14_addByte zf14 rOb_0 dX14_readFileSub_46 zw3087 rfl rfl (Nat.le_of_ble_eq_true rfl) (Nat.le_of_ble_eq_true rfl) (Nat.le_of_ble_eq_true rfl) (Nat.le_of_ble_eq_true rfl) (Nat.le_of_ble_eq_true rfl) (kk := fun s46 Ws46 qs46 => ?_)
        have h := h s46 Ws46 (rNMp.keep qs46.1 rfl rfl rfl rfl rfl) (WNp.keep qs46.1 rfl rfl rfl rfl rfl) (PNp.keep qs46.1 rfl rfl rfl rfl rfl) (qs46.1.R rfl) (qs46.1.R rfl) (qs46.1.F rfl) (qs46.1.F rfl) (qs46.1.F rfl) (qs46.1.F rfl) (qs46.1.F rfl) (qs46.1.F rfl) (qs46.1.F rfl) (qs46.1.F rfl) (qs46.1.F rfl) (qs46.1.F rfl) (qs46.1.F rfl) (fun i => qs46.1.A (f := 34) (by decide) rfl) (fun i => qs46.1.A (f := 35) (by decide) rfl) (fun i => qs46.1.A (f := 40) (by decide) rfl) (qs46.1.FG g0 rfl) (qs46.1.FG g0 rfl) (qs46.1.FG g0 rfl) (qs46.1.FG g0 rfl) (qs46.1.FG g0 rfl) (fun i => qs46.1.AG (f := 10) g0 (by decide) rfl) (fun i => qs46.1.AG (f := 11) g0 (by decide) rfl) (fz_keep qs46.1 rfl) (RG.keep (c0 := 0) qs46.1 rfl rfl rfl rfl rfl rfl rfl rfl rfl rfl rfl rfl rfl rfl rfl rfl rfl rfl) qs46.2
        refine y_iinc hC (pc := 49) (v := (y30_3 + 1)) (lv' := [(3, iv (y30_3 + 1)), (0, .ref (κ 0)), (1, iv y30_1), (2, iv y30_2)]) 3 dX14_readFileSub_49 rfl rfl (by decide) rfl ?_
        refine z_goto hC (pc := 52) 30 dX14_readFileSub_52 (by decide) ?_
        refine z_lvs [1, 2, 3, 0] rfl ?_
        obtain ⟨r30, h⟩ := h
        obtain ⟨hI, hm⟩ := h
        exact ih30 s46 y30_1 y30_2 (y30_3 + 1) Ws46 hy30_1 hy30_2 r30 (rKeep.tr (rKeep.tr rKeep.rf kJ rfl rfl rfl rfl rfl) qs46.1 rfl rfl rfl rfl rfl) hI (by omega)
  refine z_lvs [3, 2, 1, 0] rfl ?_
  exact j30 _ (sF (sF (sF σ 0 32 (-1)) 0 33 (-1)) 0 28 0) (rF σ 0 32) (rF σ 0 33) (rF σ 0 17) W12 (hwf.f _ _) (hwf.f _ _) (hwf.f _ _) (rKeep.tr (rKeep.tr (rKeep.tr rKeep.rf (rKeep.sF0 (f := 32)) rfl rfl rfl rfl rfl) (rKeep.sF0 (f := 33)) rfl rfl rfl rfl rfl) (rKeep.sF0 (f := 28)) rfl rfl rfl rfl rfl) h (Nat.le_refl _)
theorem kX14_readFileSub (l : Launch) (G : zG) (κ : Nat → Nat) (σ : rS) (gg : Nat) (U : Int) (g : Nat → Int → Int) (hwf : rWF σ) (hp : pre_X14_readFileSub σ gg U g) : rMi l G κ yX14_readFileSub cX14_readFileSub 4 .int 461 18027 [.ref (κ 0)] σ (fun x s => rKeep 0x6c3f3021c00 0x4100001280 0x13c0c000000 0x3ee0000d7f 0 σ s ∧ post_X14_readFileSub σ gg U g x s) := wX14_readFileSub l G κ σ gg U g hwf (post_X14_readFileSub σ gg U g) (vX14_readFileSub σ gg U g hwf hp) (vX14_readFileSub_30 σ gg U g hwf hp) (vX14_readFileSub_30m σ gg U g hwf hp)
def pre_X14_readBody (σ : rS) (gg : Nat) (U : Int) (g : Nat → Int → Int) : Prop := rR σ 7 = gg ∧ rgk gg ∧ FPZ σ gg U ∧ rNMp σ ∧ PNp σ ∧ rfk (rR σ 15) ∧ Im (fz σ = 0) (GS σ gg g) ∧ fz σ = 0
def post_X14_readBody (σ : rS) (gg : Nat) (U : Int) (g : Nat → Int → Int) (r : Int) (σ' : rS) : Prop := FQZ σ σ' gg ∧ rNMp σ' ∧ PNp σ' ∧ 0 ≤ r ∧ r < (rF σ' gg 7) ∧ Im (fz σ' = 0) (RG (RT σ) σ' gg 0) ∧ ∃ h, Im (fz σ' = 0) (GS σ' gg h ∧ GK g h (rF σ gg 7) (rF σ' gg 7) 0 ∧ NR σ' gg h 11 r ((rF σ gg 7)) 0 9000 0 ∧ ok1)
def inv_X14_readBody_113 (σ : rS) (gg : Nat) (U : Int) (g : Nat → Int → Int)  (s : rS)  : Prop := (rF s gg 7) = (rF σ gg 7) ∧ (rF s gg 9) = (rF σ gg 9) ∧ (rF s gg 12) = (rF σ gg 12) ∧ (rF s gg 38) = (rF σ gg 38) ∧ (rF s gg 32) = (rF σ gg 32) ∧ (rF s 0 32) = (rF σ 0 32) ∧ (rF s 0 33) = (rF σ 0 33) ∧ 0 ≤ (rF s 0 38) ∧ 0 ≤ (rF s 0 39) ∧ rNMp s ∧ PNp s ∧ fz s = 0 ∧ (rF σ 0 17) ≤ (rF s 0 17) ∧ (rF s 0 17) + 1 < (rF σ 0 16) ∧ (rF s 0 28) = 0 ∧ Im (fz s = 0) (RG (RT σ) s gg 0) ∧ ∃ h, Im (fz s = 0) (GS s gg h ∧ GK g h (rF σ gg 7) (rF s gg 7) 0 ∧ ok1)
def inv_X14_readBody_188 (σ : rS) (gg : Nat) (U : Int) (g : Nat → Int → Int)  (s : rS) (fr_ : Int) (en : Int) (big : Int) : Prop := (rF s gg 7) = (rF σ gg 7) ∧ (rF s gg 9) = (rF σ gg 9) ∧ (rF s gg 12) = (rF σ gg 12) ∧ (rF s gg 38) = (rF σ gg 38) ∧ (rF s gg 32) = (rF σ gg 32) ∧ (rF s 0 32) = (rF σ 0 32) ∧ (rF s 0 33) = (rF σ 0 33) ∧ 0 ≤ (rF s 0 38) ∧ 0 ≤ (rF s 0 39) ∧ rNMp s ∧ PNp s ∧ fz s = 0 ∧ (rF σ 0 17) ≤ (rF s 0 17) ∧ (rF s 0 17) + 1 < (rF σ 0 16) ∧ (rF s 0 28) = 0 ∧ fr_ = (rF s 0 17) + 2 ∧ fr_ ≤ en ∧ (en = (rF σ 0 16) ∨ en + 2 ≤ (rF σ 0 16)) ∧ (big = 0 ∨ big = 1) ∧ Im (fz s = 0) (RG (RT σ) s gg 0) ∧ ∃ h, Im (fz s = 0) (GS s gg h ∧ GK g h (rF σ gg 7) (rF s gg 7) 0 ∧ ok1)
def inv_X14_readBody_247 (σ : rS) (gg : Nat) (U : Int) (g : Nat → Int → Int)  (s : rS) (fr_ : Int) (en : Int) : Prop := (rF s gg 7) = (rF σ gg 7) ∧ (rF s gg 9) = (rF σ gg 9) ∧ (rF s gg 12) = (rF σ gg 12) ∧ (rF s gg 38) = (rF σ gg 38) ∧ (rF s gg 32) = (rF σ gg 32) ∧ (rF s 0 32) = (rF σ 0 32) ∧ (rF s 0 33) = (rF σ 0 33) ∧ 0 ≤ (rF s 0 38) ∧ 0 ≤ (rF s 0 39) ∧ rNMp s ∧ PNp s ∧ fz s = 0 ∧ (rF s 0 28) = 0 ∧ (rF σ 0 17) + 2 ≤ fr_ ∧ en + 2 ≤ (rF s 0 17) ∧ (rF s 0 17) ≤ (rF σ 0 16) ∧ 0 ≤ (rF s 0 30) ∧ (rF s 0 30) ≤ 4000 ∧ fr_ ≤ en ∧ Im (fz s = 0) (RG (RT σ) s gg 0) ∧ ∃ h, Im (fz s = 0) (GS s gg h ∧ GK g h (rF σ gg 7) (rF s gg 7) 0 ∧ ok1)
def inv_X14_readBody_268 (σ : rS) (gg : Nat) (U : Int) (g : Nat → Int → Int)  (s : rS) (fr_ : Int) (en : Int) : Prop := (rF s gg 7) = (rF σ gg 7) ∧ (rF s gg 9) = (rF σ gg 9) ∧ (rF s gg 12) = (rF σ gg 12) ∧ (rF s gg 38) = (rF σ gg 38) ∧ (rF s gg 32) = (rF σ gg 32) ∧ (rF s 0 32) = (rF σ 0 32) ∧ (rF s 0 33) = (rF σ 0 33) ∧ 0 ≤ (rF s 0 38) ∧ 0 ≤ (rF s 0 39) ∧ rNMp s ∧ PNp s ∧ fz s = 0 ∧ (rF s 0 28) = 0 ∧ (rF σ 0 17) + 2 ≤ fr_ ∧ en + 2 ≤ (rF s 0 17) ∧ (rF s 0 17) ≤ (rF σ 0 16) ∧ 0 ≤ (rF s 0 30) ∧ (rF s 0 30) ≤ 4000 ∧ fr_ ≤ en ∧ Im (fz s = 0) (RG (RT σ) s gg 0) ∧ ∃ h, Im (fz s = 0) (GS s gg h ∧ GK g h (rF σ gg 7) (rF s gg 7) 0 ∧ ok1)
def inv_X14_readBody_143 (σ : rS) (gg : Nat) (U : Int) (g : Nat → Int → Int)  (s : rS) (fr_ : Int) (en : Int) (big : Int) : Prop := (rF s gg 7) = (rF σ gg 7) ∧ (rF s gg 9) = (rF σ gg 9) ∧ (rF s gg 12) = (rF σ gg 12) ∧ (rF s gg 38) = (rF σ gg 38) ∧ (rF s gg 32) = (rF σ gg 32) ∧ (rF s 0 32) = (rF σ 0 32) ∧ (rF s 0 33) = (rF σ 0 33) ∧ 0 ≤ (rF s 0 38) ∧ 0 ≤ (rF s 0 39) ∧ rNMp s ∧ PNp s ∧ fz s = 0 ∧ (rF σ 0 17) ≤ (rF s 0 17) ∧ (rF s 0 17) + 1 < (rF σ 0 16) ∧ (rF s 0 28) = 0 ∧ fr_ = (rF s 0 17) + 2 ∧ fr_ ≤ en ∧ en ≤ (rF σ 0 16) ∧ (big = 0 ∨ big = 1) ∧ Im (fz s = 0) (RG (RT σ) s gg 0) ∧ ∃ h, Im (fz s = 0) (GS s gg h ∧ GK g h (rF σ gg 7) (rF s gg 7) 0 ∧ ok1)
def mu_X14_readBody_143 (σ : rS) (gg : Nat) (U : Int) (g : Nat → Int → Int) (s : rS) (fr_ : Int) (en : Int) (big : Int) : Nat := (1 + ((rF σ 0 16) - en).toNat)
def inv_X14_readBody_298 (σ : rS) (gg : Nat) (U : Int) (g : Nat → Int → Int)  (s : rS) (en : Int) (k : Int) : Prop := (rF s gg 7) = (rF σ gg 7) ∧ (rF s gg 9) = (rF σ gg 9) ∧ (rF s gg 12) = (rF σ gg 12) ∧ (rF s gg 38) = (rF σ gg 38) ∧ (rF s gg 32) = (rF σ gg 32) ∧ (rF s 0 32) = (rF σ 0 32) ∧ (rF s 0 33) = (rF σ 0 33) ∧ 0 ≤ (rF s 0 38) ∧ 0 ≤ (rF s 0 39) ∧ rNMp s ∧ PNp s ∧ fz s = 0 ∧ 0 ≤ (rF s 0 28) ∧ (rF s 0 28) + (rF σ 0 17) + 1 ≤ k ∧ (k ≤ en ∨ (rF s 0 28) = 0) ∧ (rF σ 0 17) + 1 ≤ k ∧ en + 1 ≤ (rF s 0 17) ∧ (rF s 0 17) ≤ (rF σ 0 16) ∧ (rF σ 0 17) ≤ (rF s 0 17) ∧ k ≤ (rF s 0 17) ∧ (rF s 0 28) + (rF σ 0 17) + 2 ≤ (rF s 0 17) ∧ 0 ≤ (rF s 0 30) ∧ (rF s 0 30) ≤ 4000 ∧ TPqp s ∧ Im (fz s = 0) (RG (RT σ) s gg 0) ∧ ∃ h, Im (fz s = 0) (GS s gg h ∧ GK g h (rF σ gg 7) (rF s gg 7) 0 ∧ ok1)
def mu_X14_readBody_298 (σ : rS) (gg : Nat) (U : Int) (g : Nat → Int → Int) (s : rS) (en : Int) (k : Int) : Nat := (1 + (4001 - k).toNat)
def VC_X14_readBody (σ : rS) (gg : Nat) (U : Int) (g : Nat → Int → Int) (Q : Int → rS → Prop) : Prop := rgk (rR σ 7) ∧ pre_X14_skip σ ∧ (∀ (s1 : rS), rWF s1 → (rNMp σ → rNMp s1) → (PNp σ → PNp s1) → (CCp σ → CCp s1) → rR s1 7 = rR σ 7 → rR s1 15 = rR σ 15 → rF s1 0 14 = rF σ 0 14 → rF s1 0 16 = rF σ 0 16 → rF s1 0 19 = rF σ 0 19 → rF s1 0 21 = rF σ 0 21 → rF s1 0 22 = rF σ 0 22 → rF s1 0 23 = rF σ 0 23 → rF s1 0 28 = rF σ 0 28 → rF s1 0 29 = rF σ 0 29 → rF s1 0 30 = rF σ 0 30 → rF s1 0 31 = rF σ 0 31 → rF s1 0 32 = rF σ 0 32 → rF s1 0 33 = rF σ 0 33 → rF s1 0 38 = rF σ 0 38 → rF s1 0 39 = rF σ 0 39 → (∀ i, rA s1 1027 i = rA σ 1027 i) → (∀ i, rA s1 1034 i = rA σ 1034 i) → (∀ i, rA s1 1035 i = rA σ 1035 i) → (∀ i, rA s1 1040 i = rA σ 1040 i) → rF s1 (rR σ 7) 7 = rF σ (rR σ 7) 7 → rF s1 (rR σ 7) 9 = rF σ (rR σ 7) 9 → rF s1 (rR σ 7) 12 = rF σ (rR σ 7) 12 → rF s1 (rR σ 7) 32 = rF σ (rR σ 7) 32 → rF s1 (rR σ 7) 38 = rF σ (rR σ 7) 38 → (∀ i, rA s1 (1000 * ((rR σ 7) + 1) + 10) i = rA σ (1000 * ((rR σ 7) + 1) + 10) i) → (∀ i, rA s1 (1000 * ((rR σ 7) + 1) + 11) i = rA σ (1000 * ((rR σ 7) + 1) + 11) i) → RG σ s1 (rR σ 7) 0 → post_X14_skip σ s1 → (rng (rF s1 0 10) → (((rF s1 0 10) = 0 → (rng (rF s1 0 17) → pre_X14_fc (sF s1 0 28 0) (rF s1 0 17) ∧ (∀ (v28 : Int), rng v28 → post_X14_fc (sF s1 0 28 0) (rF s1 0 17) v28 → ((¬ v28 = 34 → pre_X14_fc (sF s1 0 28 0) (rF s1 0 17) ∧ (∀ (v75 : Int), rng v75 → post_X14_fc (sF s1 0 28 0) (rF s1 0 17) v75 → ((¬ v75 = 60 → pre_X14_bad (sF s1 0 28 0) 1 (rF s1 0 17) ∧ (∀ (s291 : rS), rWF s291 → (rNMp (sF s1 0 28 0) → rNMp s291) → (PNp (sF s1 0 28 0) → PNp s291) → (CCp (sF s1 0 28 0) → CCp s291) → rR s291 7 = rR (sF s1 0 28 0) 7 → rR s291 15 = rR (sF s1 0 28 0) 15 → rF s291 0 14 = rF (sF s1 0 28 0) 0 14 → rF s291 0 16 = rF (sF s1 0 28 0) 0 16 → rF s291 0 17 = rF (sF s1 0 28 0) 0 17 → rF s291 0 19 = rF (sF s1 0 28 0) 0 19 → rF s291 0 21 = rF (sF s1 0 28 0) 0 21 → rF s291 0 22 = rF (sF s1 0 28 0) 0 22 → rF s291 0 23 = rF (sF s1 0 28 0) 0 23 → rF s291 0 28 = rF (sF s1 0 28 0) 0 28 → rF s291 0 29 = rF (sF s1 0 28 0) 0 29 → rF s291 0 30 = rF (sF s1 0 28 0) 0 30 → rF s291 0 31 = rF (sF s1 0 28 0) 0 31 → rF s291 0 32 = rF (sF s1 0 28 0) 0 32 → rF s291 0 33 = rF (sF s1 0 28 0) 0 33 → rF s291 0 38 = rF (sF s1 0 28 0) 0 38 → rF s291 0 39 = rF (sF s1 0 28 0) 0 39 → (∀ i, rA s291 1027 i = rA (sF s1 0 28 0) 1027 i) → (∀ i, rA s291 1034 i = rA (sF s1 0 28 0) 1034 i) → (∀ i, rA s291 1035 i = rA (sF s1 0 28 0) 1035 i) → (∀ i, rA s291 1040 i = rA (sF s1 0 28 0) 1040 i) → rF s291 (rR σ 7) 7 = rF (sF s1 0 28 0) (rR σ 7) 7 → rF s291 (rR σ 7) 9 = rF (sF s1 0 28 0) (rR σ 7) 9 → rF s291 (rR σ 7) 12 = rF (sF s1 0 28 0) (rR σ 7) 12 → rF s291 (rR σ 7) 32 = rF (sF s1 0 28 0) (rR σ 7) 32 → rF s291 (rR σ 7) 38 = rF (sF s1 0 28 0) (rR σ 7) 38 → (∀ i, rA s291 (1000 * ((rR σ 7) + 1) + 10) i = rA (sF s1 0 28 0) (1000 * ((rR σ 7) + 1) + 10) i) → (∀ i, rA s291 (1000 * ((rR σ 7) + 1) + 11) i = rA (sF s1 0 28 0) (1000 * ((rR σ 7) + 1) + 11) i) → RG (sF s1 0 28 0) s291 (rR σ 7) 0 → post_X14_bad (sF s1 0 28 0) 1 (rF s1 0 17) s291 → Q 0 s291)) ∧ (v75 = 60 → rng ((rF s1 0 17) + 1) ∧ pre_X14_fc (sF s1 0 28 0) ((rF s1 0 17) + 1) ∧ (∀ (v90 : Int), rng v90 → post_X14_fc (sF s1 0 28 0) ((rF s1 0 17) + 1) v90 → ((v90 = 60 → (inv_X14_readBody_113 σ gg U g (sF s1 0 28 0))) ∧ (¬ v90 = 60 → pre_X14_fc (sF s1 0 28 0) ((rF s1 0 17) + 1) ∧ (∀ (v105 : Int), rng v105 → post_X14_fc (sF s1 0 28 0) ((rF s1 0 17) + 1) v105 → ((¬ v105 = 37 → pre_X14_bad (sF s1 0 28 0) 1 (rF s1 0 17) ∧ (∀ (s291 : rS), rWF s291 → (rNMp (sF s1 0 28 0) → rNMp s291) → (PNp (sF s1 0 28 0) → PNp s291) → (CCp (sF s1 0 28 0) → CCp s291) → rR s291 7 = rR (sF s1 0 28 0) 7 → rR s291 15 = rR (sF s1 0 28 0) 15 → rF s291 0 14 = rF (sF s1 0 28 0) 0 14 → rF s291 0 16 = rF (sF s1 0 28 0) 0 16 → rF s291 0 17 = rF (sF s1 0 28 0) 0 17 → rF s291 0 19 = rF (sF s1 0 28 0) 0 19 → rF s291 0 21 = rF (sF s1 0 28 0) 0 21 → rF s291 0 22 = rF (sF s1 0 28 0) 0 22 → rF s291 0 23 = rF (sF s1 0 28 0) 0 23 → rF s291 0 28 = rF (sF s1 0 28 0) 0 28 → rF s291 0 29 = rF (sF s1 0 28 0) 0 29 → rF s291 0 30 = rF (sF s1 0 28 0) 0 30 → rF s291 0 31 = rF (sF s1 0 28 0) 0 31 → rF s291 0 32 = rF (sF s1 0 28 0) 0 32 → rF s291 0 33 = rF (sF s1 0 28 0) 0 33 → rF s291 0 38 = rF (sF s1 0 28 0) 0 38 → rF s291 0 39 = rF (sF s1 0 28 0) 0 39 → (∀ i, rA s291 1027 i = rA (sF s1 0 28 0) 1027 i) → (∀ i, rA s291 1034 i = rA (sF s1 0 28 0) 1034 i) → (∀ i, rA s291 1035 i = rA (sF s1 0 28 0) 1035 i) → (∀ i, rA s291 1040 i = rA (sF s1 0 28 0) 1040 i) → rF s291 (rR σ 7) 7 = rF (sF s1 0 28 0) (rR σ 7) 7 → rF s291 (rR σ 7) 9 = rF (sF s1 0 28 0) (rR σ 7) 9 → rF s291 (rR σ 7) 12 = rF (sF s1 0 28 0) (rR σ 7) 12 → rF s291 (rR σ 7) 32 = rF (sF s1 0 28 0) (rR σ 7) 32 → rF s291 (rR σ 7) 38 = rF (sF s1 0 28 0) (rR σ 7) 38 → (∀ i, rA s291 (1000 * ((rR σ 7) + 1) + 10) i = rA (sF s1 0 28 0) (1000 * ((rR σ 7) + 1) + 10) i) → (∀ i, rA s291 (1000 * ((rR σ 7) + 1) + 11) i = rA (sF s1 0 28 0) (1000 * ((rR σ 7) + 1) + 11) i) → RG (sF s1 0 28 0) s291 (rR σ 7) 0 → post_X14_bad (sF s1 0 28 0) 1 (rF s1 0 17) s291 → Q 0 s291)) ∧ (v105 = 37 → (inv_X14_readBody_113 σ gg U g (sF s1 0 28 0)))))))))))) ∧ (v28 = 34 → pre_X14_fileString_f (sF s1 0 28 0) ∧ (∀ (s37 : rS), rWF s37 → (rNMp (sF s1 0 28 0) → rNMp s37) → (PNp (sF s1 0 28 0) → PNp s37) → (CCp (sF s1 0 28 0) → CCp s37) → rR s37 7 = rR (sF s1 0 28 0) 7 → rR s37 15 = rR (sF s1 0 28 0) 15 → rF s37 0 14 = rF (sF s1 0 28 0) 0 14 → rF s37 0 16 = rF (sF s1 0 28 0) 0 16 → rF s37 0 19 = rF (sF s1 0 28 0) 0 19 → rF s37 0 28 = rF (sF s1 0 28 0) 0 28 → rF s37 0 29 = rF (sF s1 0 28 0) 0 29 → rF s37 0 30 = rF (sF s1 0 28 0) 0 30 → rF s37 0 31 = rF (sF s1 0 28 0) 0 31 → rF s37 0 32 = rF (sF s1 0 28 0) 0 32 → rF s37 0 33 = rF (sF s1 0 28 0) 0 33 → rF s37 0 38 = rF (sF s1 0 28 0) 0 38 → rF s37 0 39 = rF (sF s1 0 28 0) 0 39 → (∀ i, rA s37 1027 i = rA (sF s1 0 28 0) 1027 i) → (∀ i, rA s37 1034 i = rA (sF s1 0 28 0) 1034 i) → (∀ i, rA s37 1035 i = rA (sF s1 0 28 0) 1035 i) → (∀ i, rA s37 1040 i = rA (sF s1 0 28 0) 1040 i) → rF s37 (rR σ 7) 7 = rF (sF s1 0 28 0) (rR σ 7) 7 → rF s37 (rR σ 7) 9 = rF (sF s1 0 28 0) (rR σ 7) 9 → rF s37 (rR σ 7) 12 = rF (sF s1 0 28 0) (rR σ 7) 12 → rF s37 (rR σ 7) 32 = rF (sF s1 0 28 0) (rR σ 7) 32 → rF s37 (rR σ 7) 38 = rF (sF s1 0 28 0) (rR σ 7) 38 → (∀ i, rA s37 (1000 * ((rR σ 7) + 1) + 10) i = rA (sF s1 0 28 0) (1000 * ((rR σ 7) + 1) + 10) i) → (∀ i, rA s37 (1000 * ((rR σ 7) + 1) + 11) i = rA (sF s1 0 28 0) (1000 * ((rR σ 7) + 1) + 11) i) → RG (sF s1 0 28 0) s37 (rR σ 7) 0 → post_X14_fileString_f (sF s1 0 28 0) s37 → (rng (rF s37 0 10) → (((rF s37 0 10) = 0 → (rng (rF s37 0 22) → (rng (rF s37 0 23) → (inv_X14_readBody_298 σ gg U g (sF s37 0 30 (rF s37 0 23)) (rF s37 0 23) (rF s37 0 22))))) ∧ (¬ (rF s37 0 10) = 0 → Q 0 s37))))))))) ∧ (¬ (rF s1 0 10) = 0 → Q 0 s1))))
def VC_X14_readBody_298 (σ : rS) (gg : Nat) (U : Int) (g : Nat → Int → Int) (Q : Int → rS → Prop) : Prop := ∀ (s298 : rS) (y298_2 : Int) (y298_3 : Int), rWF s298 → rng y298_2 → rng y298_3 → rR s298 7 = rR σ 7 → rR s298 15 = rR σ 15 → rF s298 0 14 = rF σ 0 14 → rF s298 0 16 = rF σ 0 16 → rF s298 0 19 = rF σ 0 19 → rF s298 0 32 = rF σ 0 32 → rF s298 0 33 = rF σ 0 33 → inv_X14_readBody_298 σ gg U g s298 y298_2 y298_3 → (((y298_2 ≤ y298_3 → ∃ (g25 : Nat → Int → Int), pre_X14_wholeText s298 gg g25 ∧ (∀ (v321 : Int) (s321 : rS), rng v321 → rWF s321 → (CCp s298 → CCp s321) → rR s321 7 = rR s298 7 → rR s321 15 = rR s298 15 → rF s321 0 14 = rF s298 0 14 → rF s321 0 16 = rF s298 0 16 → rF s321 0 17 = rF s298 0 17 → rF s321 0 19 = rF s298 0 19 → rF s321 0 21 = rF s298 0 21 → rF s321 0 22 = rF s298 0 22 → rF s321 0 23 = rF s298 0 23 → rF s321 0 28 = rF s298 0 28 → rF s321 0 30 = rF s298 0 30 → rF s321 0 32 = rF s298 0 32 → rF s321 0 33 = rF s298 0 33 → (∀ i, rA s321 1027 i = rA s298 1027 i) → post_X14_wholeText s298 gg g25 v321 s321 → Q v321 s321)) ∧ (¬ y298_2 ≤ y298_3 → rfk (rR s298 15) ∧ (0 ≤ y298_3 ∧ y298_3 < 4000) ∧ (rng (rA s298 (rR s298 15) y298_3) → pre_X14_addByte_f s298 (rA s298 (rR s298 15) y298_3) y298_3 ∧ (∀ (s311 : rS), rWF s311 → (rNMp s298 → rNMp s311) → (PNp s298 → PNp s311) → rR s311 7 = rR s298 7 → rR s311 15 = rR s298 15 → rF s311 0 10 = rF s298 0 10 → rF s311 0 14 = rF s298 0 14 → rF s311 0 16 = rF s298 0 16 → rF s311 0 17 = rF s298 0 17 → rF s311 0 19 = rF s298 0 19 → rF s311 0 21 = rF s298 0 21 → rF s311 0 22 = rF s298 0 22 → rF s311 0 23 = rF s298 0 23 → rF s311 0 29 = rF s298 0 29 → rF s311 0 30 = rF s298 0 30 → rF s311 0 31 = rF s298 0 31 → rF s311 0 32 = rF s298 0 32 → rF s311 0 33 = rF s298 0 33 → rF s311 0 38 = rF s298 0 38 → rF s311 0 39 = rF s298 0 39 → (∀ i, rA s311 1034 i = rA s298 1034 i) → (∀ i, rA s311 1035 i = rA s298 1035 i) → (∀ i, rA s311 1040 i = rA s298 1040 i) → rF s311 (rR σ 7) 7 = rF s298 (rR σ 7) 7 → rF s311 (rR σ 7) 9 = rF s298 (rR σ 7) 9 → rF s311 (rR σ 7) 12 = rF s298 (rR σ 7) 12 → rF s311 (rR σ 7) 32 = rF s298 (rR σ 7) 32 → rF s311 (rR σ 7) 38 = rF s298 (rR σ 7) 38 → (∀ i, rA s311 (1000 * ((rR σ 7) + 1) + 10) i = rA s298 (1000 * ((rR σ 7) + 1) + 10) i) → (∀ i, rA s311 (1000 * ((rR σ 7) + 1) + 11) i = rA s298 (1000 * ((rR σ 7) + 1) + 11) i) → fz s311 = fz s298 → RG s298 s311 (rR σ 7) 0 → post_X14_addByte_f s298 (rA s298 (rR s298 15) y298_3) y298_3 s311 → rng (y298_3 + 1) ∧ (inv_X14_readBody_298 σ gg U g s311 y298_2 (y298_3 + 1) ∧ (mu_X14_readBody_298 σ gg U g s311 y298_2 (y298_3 + 1)) < (mu_X14_readBody_298 σ gg U g s298 y298_2 y298_3)))))))
def VC_X14_readBody_298m (σ : rS) (gg : Nat) (U : Int) (g : Nat → Int → Int) : Prop := ∀ (s298 : rS) (y298_2 : Int) (y298_3 : Int), rWF s298 → rng y298_2 → rng y298_3 → rR s298 7 = rR σ 7 → rR s298 15 = rR σ 15 → rF s298 0 14 = rF σ 0 14 → rF s298 0 16 = rF σ 0 16 → rF s298 0 19 = rF σ 0 19 → rF s298 0 32 = rF σ 0 32 → rF s298 0 33 = rF σ 0 33 → inv_X14_readBody_298 σ gg U g s298 y298_2 y298_3 → 0 < (mu_X14_readBody_298 σ gg U g s298 y298_2 y298_3)
def VC_X14_readBody_268 (σ : rS) (gg : Nat) (U : Int) (g : Nat → Int → Int) (Q : Int → rS → Prop) : Prop := ∀ (s268 : rS) (y268_1 : Int) (y268_2 : Int), rWF s268 → rng y268_1 → rng y268_2 → rR s268 7 = rR σ 7 → rR s268 15 = rR σ 15 → rF s268 0 14 = rF σ 0 14 → rF s268 0 16 = rF σ 0 16 → rF s268 0 19 = rF σ 0 19 → rF s268 0 32 = rF σ 0 32 → rF s268 0 33 = rF σ 0 33 → inv_X14_readBody_268 σ gg U g s268 y268_1 y268_2 → ((inv_X14_readBody_298 σ gg U g s268 y268_2 y268_1))
def VC_X14_readBody_247 (σ : rS) (gg : Nat) (U : Int) (g : Nat → Int → Int) (Q : Int → rS → Prop) : Prop := ∀ (s247 : rS) (y247_1 : Int) (y247_2 : Int), rWF s247 → rng y247_1 → rng y247_2 → rR s247 7 = rR σ 7 → rR s247 15 = rR σ 15 → rF s247 0 14 = rF σ 0 14 → rF s247 0 16 = rF σ 0 16 → rF s247 0 19 = rF σ 0 19 → rF s247 0 32 = rF σ 0 32 → rF s247 0 33 = rF σ 0 33 → inv_X14_readBody_247 σ gg U g s247 y247_1 y247_2 → (((y247_2 ≤ y247_1 → (inv_X14_readBody_268 σ gg U g s247 y247_1 y247_2)) ∧ (¬ y247_2 ≤ y247_1 → rfk (rR s247 15) ∧ (0 ≤ (y247_2 - 1) ∧ (y247_2 - 1) < 4000) ∧ (rng (rA s247 (rR s247 15) (y247_2 - 1)) → ((¬ (rA s247 (rR s247 15) (y247_2 - 1)) = 10 → (inv_X14_readBody_268 σ gg U g s247 y247_1 y247_2)) ∧ ((rA s247 (rR s247 15) (y247_2 - 1)) = 10 → rng (y247_2 + (-1)) ∧ (inv_X14_readBody_268 σ gg U g s247 y247_1 (y247_2 + (-1)))))))))
def VC_X14_readBody_188 (σ : rS) (gg : Nat) (U : Int) (g : Nat → Int → Int) (Q : Int → rS → Prop) : Prop := ∀ (s188 : rS) (y188_1 : Int) (y188_2 : Int) (y188_3 : Int), rWF s188 → rng y188_1 → rng y188_2 → rng y188_3 → rR s188 7 = rR σ 7 → rR s188 15 = rR σ 15 → rF s188 0 14 = rF σ 0 14 → rF s188 0 16 = rF σ 0 16 → rF s188 0 19 = rF σ 0 19 → rF s188 0 32 = rF σ 0 32 → rF s188 0 33 = rF σ 0 33 → inv_X14_readBody_188 σ gg U g s188 y188_1 y188_2 y188_3 → ((rng (rF s188 0 16) → ((y188_2 < (rF s188 0 16) → rng (y188_2 + 2) ∧ ((y188_3 = 0 → pre_X14_packed_f (sF (sF s188 0 17 (y188_2 + 2)) 0 30 y188_2) y188_1 y188_2 ∧ (∀ (s274 : rS), rWF s274 → (rNMp (sF (sF s188 0 17 (y188_2 + 2)) 0 30 y188_2) → rNMp s274) → (PNp (sF (sF s188 0 17 (y188_2 + 2)) 0 30 y188_2) → PNp s274) → rR s274 7 = rR (sF (sF s188 0 17 (y188_2 + 2)) 0 30 y188_2) 7 → rR s274 15 = rR (sF (sF s188 0 17 (y188_2 + 2)) 0 30 y188_2) 15 → rF s274 0 10 = rF (sF (sF s188 0 17 (y188_2 + 2)) 0 30 y188_2) 0 10 → rF s274 0 14 = rF (sF (sF s188 0 17 (y188_2 + 2)) 0 30 y188_2) 0 14 → rF s274 0 16 = rF (sF (sF s188 0 17 (y188_2 + 2)) 0 30 y188_2) 0 16 → rF s274 0 17 = rF (sF (sF s188 0 17 (y188_2 + 2)) 0 30 y188_2) 0 17 → rF s274 0 19 = rF (sF (sF s188 0 17 (y188_2 + 2)) 0 30 y188_2) 0 19 → rF s274 0 21 = rF (sF (sF s188 0 17 (y188_2 + 2)) 0 30 y188_2) 0 21 → rF s274 0 22 = rF (sF (sF s188 0 17 (y188_2 + 2)) 0 30 y188_2) 0 22 → rF s274 0 23 = rF (sF (sF s188 0 17 (y188_2 + 2)) 0 30 y188_2) 0 23 → rF s274 0 29 = rF (sF (sF s188 0 17 (y188_2 + 2)) 0 30 y188_2) 0 29 → rF s274 0 30 = rF (sF (sF s188 0 17 (y188_2 + 2)) 0 30 y188_2) 0 30 → rF s274 0 31 = rF (sF (sF s188 0 17 (y188_2 + 2)) 0 30 y188_2) 0 31 → rF s274 0 32 = rF (sF (sF s188 0 17 (y188_2 + 2)) 0 30 y188_2) 0 32 → rF s274 0 33 = rF (sF (sF s188 0 17 (y188_2 + 2)) 0 30 y188_2) 0 33 → rF s274 0 38 = rF (sF (sF s188 0 17 (y188_2 + 2)) 0 30 y188_2) 0 38 → rF s274 0 39 = rF (sF (sF s188 0 17 (y188_2 + 2)) 0 30 y188_2) 0 39 → (∀ i, rA s274 1034 i = rA (sF (sF s188 0 17 (y188_2 + 2)) 0 30 y188_2) 1034 i) → (∀ i, rA s274 1035 i = rA (sF (sF s188 0 17 (y188_2 + 2)) 0 30 y188_2) 1035 i) → (∀ i, rA s274 1040 i = rA (sF (sF s188 0 17 (y188_2 + 2)) 0 30 y188_2) 1040 i) → rF s274 (rR σ 7) 7 = rF (sF (sF s188 0 17 (y188_2 + 2)) 0 30 y188_2) (rR σ 7) 7 → rF s274 (rR σ 7) 9 = rF (sF (sF s188 0 17 (y188_2 + 2)) 0 30 y188_2) (rR σ 7) 9 → rF s274 (rR σ 7) 12 = rF (sF (sF s188 0 17 (y188_2 + 2)) 0 30 y188_2) (rR σ 7) 12 → rF s274 (rR σ 7) 32 = rF (sF (sF s188 0 17 (y188_2 + 2)) 0 30 y188_2) (rR σ 7) 32 → rF s274 (rR σ 7) 38 = rF (sF (sF s188 0 17 (y188_2 + 2)) 0 30 y188_2) (rR σ 7) 38 → (∀ i, rA s274 (1000 * ((rR σ 7) + 1) + 10) i = rA (sF (sF s188 0 17 (y188_2 + 2)) 0 30 y188_2) (1000 * ((rR σ 7) + 1) + 10) i) → (∀ i, rA s274 (1000 * ((rR σ 7) + 1) + 11) i = rA (sF (sF s188 0 17 (y188_2 + 2)) 0 30 y188_2) (1000 * ((rR σ 7) + 1) + 11) i) → fz s274 = fz (sF (sF s188 0 17 (y188_2 + 2)) 0 30 y188_2) → RG (sF (sF s188 0 17 (y188_2 + 2)) 0 30 y188_2) s274 (rR σ 7) 0 → post_X14_packed_f (sF (sF s188 0 17 (y188_2 + 2)) 0 30 y188_2) y188_1 y188_2 s274 → ∃ (g23 : Nat → Int → Int), pre_X14_wholeText s274 gg g23 ∧ (∀ (v278 : Int) (s278 : rS), rng v278 → rWF s278 → (CCp s274 → CCp s278) → rR s278 7 = rR s274 7 → rR s278 15 = rR s274 15 → rF s278 0 14 = rF s274 0 14 → rF s278 0 16 = rF s274 0 16 → rF s278 0 17 = rF s274 0 17 → rF s278 0 19 = rF s274 0 19 → rF s278 0 21 = rF s274 0 21 → rF s278 0 22 = rF s274 0 22 → rF s278 0 23 = rF s274 0 23 → rF s278 0 28 = rF s274 0 28 → rF s278 0 30 = rF s274 0 30 → rF s278 0 32 = rF s274 0 32 → rF s278 0 33 = rF s274 0 33 → (∀ i, rA s278 1027 i = rA s274 1027 i) → post_X14_wholeText s274 gg g23 v278 s278 → Q v278 s278))) ∧ (¬ y188_3 = 0 → rng (y188_2 - y188_1) ∧ (((y188_2 - y188_1) ≤ 0 → (inv_X14_readBody_247 σ gg U g (sF (sF s188 0 17 (y188_2 + 2)) 0 30 y188_2) y188_1 y188_2)) ∧ (¬ (y188_2 - y188_1) ≤ 0 → rfk (rR s188 15) ∧ (0 ≤ y188_1 ∧ y188_1 < 4000) ∧ (rng (rA s188 (rR s188 15) y188_1) → ((¬ (rA s188 (rR s188 15) y188_1) = 10 → (inv_X14_readBody_247 σ gg U g (sF (sF s188 0 17 (y188_2 + 2)) 0 30 y188_2) y188_1 y188_2)) ∧ ((rA s188 (rR s188 15) y188_1) = 10 → rng (y188_1 + 1) ∧ (inv_X14_readBody_247 σ gg U g (sF (sF s188 0 17 (y188_2 + 2)) 0 30 y188_2) (y188_1 + 1) y188_2))))))))) ∧ (¬ y188_2 < (rF s188 0 16) → pre_X14_bad s188 1 (rF s188 0 16) ∧ (∀ (s202 : rS), rWF s202 → (rNMp s188 → rNMp s202) → (PNp s188 → PNp s202) → (CCp s188 → CCp s202) → rR s202 7 = rR s188 7 → rR s202 15 = rR s188 15 → rF s202 0 14 = rF s188 0 14 → rF s202 0 16 = rF s188 0 16 → rF s202 0 17 = rF s188 0 17 → rF s202 0 19 = rF s188 0 19 → rF s202 0 21 = rF s188 0 21 → rF s202 0 22 = rF s188 0 22 → rF s202 0 23 = rF s188 0 23 → rF s202 0 28 = rF s188 0 28 → rF s202 0 29 = rF s188 0 29 → rF s202 0 30 = rF s188 0 30 → rF s202 0 31 = rF s188 0 31 → rF s202 0 32 = rF s188 0 32 → rF s202 0 33 = rF s188 0 33 → rF s202 0 38 = rF s188 0 38 → rF s202 0 39 = rF s188 0 39 → (∀ i, rA s202 1027 i = rA s188 1027 i) → (∀ i, rA s202 1034 i = rA s188 1034 i) → (∀ i, rA s202 1035 i = rA s188 1035 i) → (∀ i, rA s202 1040 i = rA s188 1040 i) → rF s202 (rR σ 7) 7 = rF s188 (rR σ 7) 7 → rF s202 (rR σ 7) 9 = rF s188 (rR σ 7) 9 → rF s202 (rR σ 7) 12 = rF s188 (rR σ 7) 12 → rF s202 (rR σ 7) 32 = rF s188 (rR σ 7) 32 → rF s202 (rR σ 7) 38 = rF s188 (rR σ 7) 38 → (∀ i, rA s202 (1000 * ((rR σ 7) + 1) + 10) i = rA s188 (1000 * ((rR σ 7) + 1) + 10) i) → (∀ i, rA s202 (1000 * ((rR σ 7) + 1) + 11) i = rA s188 (1000 * ((rR σ 7) + 1) + 11) i) → RG s188 s202 (rR σ 7) 0 → post_X14_bad s188 1 (rF s188 0 16) s202 → Q 0 s202)))))
def VC_X14_readBody_143 (σ : rS) (gg : Nat) (U : Int) (g : Nat → Int → Int) (Q : Int → rS → Prop) : Prop := ∀ (s143 : rS) (y143_1 : Int) (y143_2 : Int) (y143_3 : Int), rWF s143 → rng y143_1 → rng y143_2 → rng y143_3 → rR s143 7 = rR σ 7 → rR s143 15 = rR σ 15 → rF s143 0 14 = rF σ 0 14 → rF s143 0 16 = rF σ 0 16 → rF s143 0 19 = rF σ 0 19 → rF s143 0 32 = rF σ 0 32 → rF s143 0 33 = rF σ 0 33 → inv_X14_readBody_143 σ gg U g s143 y143_1 y143_2 y143_3 → ((rng (rF s143 0 16) → (((rF s143 0 16) ≤ y143_2 → (inv_X14_readBody_188 σ gg U g s143 y143_1 y143_2 y143_3)) ∧ (¬ (rF s143 0 16) ≤ y143_2 → pre_X14_fc s143 y143_2 ∧ (∀ (v153 : Int), rng v153 → post_X14_fc s143 y143_2 v153 → ((y143_3 = 0 → ((¬ v153 = 37 → rng (y143_2 + 1) ∧ (inv_X14_readBody_143 σ gg U g s143 y143_1 (y143_2 + 1) y143_3 ∧ (mu_X14_readBody_143 σ gg U g s143 y143_1 (y143_2 + 1) y143_3) < (mu_X14_readBody_143 σ gg U g s143 y143_1 y143_2 y143_3))) ∧ (v153 = 37 → rng (y143_2 + 1) ∧ pre_X14_fc s143 (y143_2 + 1) ∧ (∀ (v174 : Int), rng v174 → post_X14_fc s143 (y143_2 + 1) v174 → ((v174 = 62 → (inv_X14_readBody_188 σ gg U g s143 y143_1 y143_2 y143_3)) ∧ (¬ v174 = 62 → (inv_X14_readBody_143 σ gg U g s143 y143_1 (y143_2 + 1) y143_3 ∧ (mu_X14_readBody_143 σ gg U g s143 y143_1 (y143_2 + 1) y143_3) < (mu_X14_readBody_143 σ gg U g s143 y143_1 y143_2 y143_3)))))))) ∧ (¬ y143_3 = 0 → ((¬ v153 = 62 → rng (y143_2 + 1) ∧ (inv_X14_readBody_143 σ gg U g s143 y143_1 (y143_2 + 1) y143_3 ∧ (mu_X14_readBody_143 σ gg U g s143 y143_1 (y143_2 + 1) y143_3) < (mu_X14_readBody_143 σ gg U g s143 y143_1 y143_2 y143_3))) ∧ (v153 = 62 → rng (y143_2 + 1) ∧ pre_X14_fc s143 (y143_2 + 1) ∧ (∀ (v174 : Int), rng v174 → post_X14_fc s143 (y143_2 + 1) v174 → ((v174 = 62 → (inv_X14_readBody_188 σ gg U g s143 y143_1 y143_2 y143_3)) ∧ (¬ v174 = 62 → (inv_X14_readBody_143 σ gg U g s143 y143_1 (y143_2 + 1) y143_3 ∧ (mu_X14_readBody_143 σ gg U g s143 y143_1 (y143_2 + 1) y143_3) < (mu_X14_readBody_143 σ gg U g s143 y143_1 y143_2 y143_3))))))))))))))
def VC_X14_readBody_143m (σ : rS) (gg : Nat) (U : Int) (g : Nat → Int → Int) : Prop := ∀ (s143 : rS) (y143_1 : Int) (y143_2 : Int) (y143_3 : Int), rWF s143 → rng y143_1 → rng y143_2 → rng y143_3 → rR s143 7 = rR σ 7 → rR s143 15 = rR σ 15 → rF s143 0 14 = rF σ 0 14 → rF s143 0 16 = rF σ 0 16 → rF s143 0 19 = rF σ 0 19 → rF s143 0 32 = rF σ 0 32 → rF s143 0 33 = rF σ 0 33 → inv_X14_readBody_143 σ gg U g s143 y143_1 y143_2 y143_3 → 0 < (mu_X14_readBody_143 σ gg U g s143 y143_1 y143_2 y143_3)
def VC_X14_readBody_113 (σ : rS) (gg : Nat) (U : Int) (g : Nat → Int → Int) (Q : Int → rS → Prop) : Prop := ∀ (s113 : rS), rWF s113 → rR s113 7 = rR σ 7 → rR s113 15 = rR σ 15 → rF s113 0 14 = rF σ 0 14 → rF s113 0 16 = rF σ 0 16 → rF s113 0 19 = rF σ 0 19 → rF s113 0 32 = rF σ 0 32 → rF s113 0 33 = rF σ 0 33 → inv_X14_readBody_113 σ gg U g s113 → ((rng (rF s113 0 17) → rng ((rF s113 0 17) + 1) ∧ pre_X14_fc s113 ((rF s113 0 17) + 1) ∧ (∀ (v120 : Int), rng v120 → post_X14_fc s113 ((rF s113 0 17) + 1) v120 → ((¬ v120 = 60 → rng ((rF s113 0 17) + 2) ∧ (inv_X14_readBody_143 σ gg U g s113 ((rF s113 0 17) + 2) ((rF s113 0 17) + 2) 0)) ∧ (v120 = 60 → rng ((rF s113 0 17) + 2) ∧ (inv_X14_readBody_143 σ gg U g s113 ((rF s113 0 17) + 2) ((rF s113 0 17) + 2) 1))))))
set_option maxHeartbeats 20000000 in
theorem vX14_readBody (σ : rS) (gg : Nat) (U : Int) (g : Nat → Int → Int) (hwf : rWF σ) (hp : pre_X14_readBody σ gg U g) : VC_X14_readBody σ gg U g (post_X14_readBody σ gg U g) := by
  unfold pre_X14_readBody at hp
  obtain ⟨hp_1, hp_2, hp_3, hp_4, hp_5, hp_6, hp_7, hp_8⟩ := hp
  subst hp_1
  have hF := hp_3
  unfold FPZ at hF
  have zr0 := fz_rng σ
  unfold VC_X14_readBody
  refine ⟨(by (all_goals (repeat' (first | with_reducible intro _ | with_reducible apply And.intro))); all_goals (first | assumption | trivial | (unfold FPZ; omega) | (unfold FQZ; omega) | omega | (have zz_ := fz_z (by assumption); omega) | (split <;> omega) | (exact TPqp.z (by first | omega | (simp only [rF_sF, Nat.reduceEqDiff, and_false, and_true, and_self, reduceIte]; omega) | simp only [rF_sF, Nat.reduceEqDiff, and_false, and_true, and_self, reduceIte])) | (exact CCp.mk (by assumption) (by first | omega | (simp only [rF_sF, Nat.reduceEqDiff, and_false, and_true, and_self, reduceIte]; omega))) | done)), ?_⟩
  refine ⟨(by (try simp only [pre_X14_skip]); (all_goals (repeat' (first | with_reducible intro _ | with_reducible apply And.intro | with_reducible refine Exists.intro g ?_ | with_reducible refine Im.and ?_ ?_))); all_goals (first | assumption | trivial | ((with_reducible refine Im.i fun hf_ => ?_); first | exact ((fun _ => RG.t0f (by omega) (by omega)) hf_) | exact (hp_7 hf_) | exact ((fun _ => GK.rf) hf_) | exact ok1.i | (exact LI.z (fun h => absurd h (by decide))) | (exact absurd hf_ (by omega)) | omega) | (unfold FPZ; omega) | (unfold FQZ; omega) | omega | (have zz_ := fz_z (by assumption); omega) | (split <;> omega) | (exact TPqp.z (by first | omega | (simp only [rF_sF, Nat.reduceEqDiff, and_false, and_true, and_self, reduceIte]; omega) | simp only [rF_sF, Nat.reduceEqDiff, and_false, and_true, and_self, reduceIte])) | (exact CCp.mk (by assumption) (by first | omega | (simp only [rF_sF, Nat.reduceEqDiff, and_false, and_true, and_self, reduceIte]; omega))) | done)), ?_⟩
  intro s1 Ws1 e1_0 e1_1 e1_2 e1_3 e1_4 e1_5 e1_6 e1_7 e1_8 e1_9 e1_10 e1_11 e1_12 e1_13 e1_14 e1_15 e1_16 e1_17 e1_18 e1_19 e1_20 e1_21 e1_22 e1_23 e1_24 e1_25 e1_26 e1_27 e1_28 e1_29 R1 q1
  have q1 := dig_X14_skip q1
  obtain ⟨q1_1, q1_2, q1_3⟩ := q1
  (try simp only [FPZ, FQZ] at q1_1 q1_2 q1_3 e1_0 e1_1 e1_2 e1_3 e1_4 e1_5 e1_6 e1_7 e1_8 e1_9 e1_10 e1_11 e1_12 e1_13 e1_14 e1_15 e1_16 e1_17 e1_18 e1_19 e1_20 e1_21 e1_22 e1_23 e1_24 e1_25 e1_26 e1_27 e1_28 e1_29 R1)
  have Ks1 : rR s1 7 = rR σ 7 := by first | assumption | ((try simp only [rR_sF, rR_sA, rR_sT, rR_sL] at e1_0 e1_1 e1_2 e1_3 e1_4 e1_5 e1_6 e1_7 e1_8 e1_9 e1_10 e1_11 e1_12 e1_13 e1_14 e1_15 e1_16 e1_17 e1_18 e1_19 e1_20 e1_21 e1_22 e1_23 e1_24 e1_25 e1_26 e1_27 e1_28 e1_29 R1); omega)
  have Fs1 : rR s1 15 = rR σ 15 := by first | assumption | ((try simp only [rR_sF, rR_sA, rR_sT, rR_sL] at e1_0 e1_1 e1_2 e1_3 e1_4 e1_5 e1_6 e1_7 e1_8 e1_9 e1_10 e1_11 e1_12 e1_13 e1_14 e1_15 e1_16 e1_17 e1_18 e1_19 e1_20 e1_21 e1_22 e1_23 e1_24 e1_25 e1_26 e1_27 e1_28 e1_29 R1); omega)
  have zr1 := fz_rng s1
  have zc1 : fz s1 = 0 → fz σ = 0 := fun hf => by omega
  have A1 : Im (fz s1 = 0) (RG (RT σ) s1 (rR σ 7) 0) := fun hf => RG.trk hp_2 ((fun _ => RG.t0f (by omega) (by omega)) (zc1 hf)) R1 (Or.inr (Or.inl rfl))
  have Ku1 : Im (fz s1 = 0) (GK g g (rF σ (rR σ 7) 7) (rF s1 (rR σ 7) 7) 0) := fun hf => GK.trans ((fun _ => GK.rf) (zc1 hf)) (GK.up (N := rF σ (rR σ 7) 7) (N' := rF s1 (rR σ 7) 7) (c := 0) (by first | assumption | omega | (simp only [rF_sT, rF_sA]; omega))) (Or.inr (Or.inl rfl))
  have Gu2 : Im (fz s1 = 0) (GS s1 (rR σ 7) g) := fun hf => GS.mv hp_2 (hp_7 (zc1 hf)) R1 (by first | assumption | omega | (simp only [rF_sT, rF_sA]; omega)) (by first | (exact Int.le_of_eq (Eq.symm (by assumption))) | omega | (simp only [rF_sT, rF_sA]; omega))
  have rNMp_1 := e1_0 hp_4; clear e1_0
  have PNp_1 := e1_1 hp_5; clear e1_1
  clear e1_2
  intro hr_; unfold rng at hr_
  refine ⟨fun c8 => ?_, fun c8 => ?_⟩
  · have z8 := fz_z c8
    intro hr_; unfold rng at hr_
    refine ⟨(by (try simp only [pre_X14_fc, reduceIte, and_true, true_and, and_false, false_and, and_self, Nat.reduceEqDiff, fz_sF28, rF_sF, rA_sF, rR_sF, tr_sF, rNMp_sF, PNp_sF, GS_F28, OP_F28, NR_F28, LI_F28, RG_l28, RG_r28, WNp_sF28, VMp_sF28, KYp_sF28, PPp_sF28, WFp_sF28, rk_n0 hp_2, Ks1, Fs1]); (all_goals (repeat' (first | with_reducible intro _ | with_reducible apply And.intro | with_reducible refine Exists.intro g ?_ | with_reducible refine Im.and ?_ ?_))); all_goals (first | assumption | trivial | ((with_reducible refine Im.i fun hf_ => ?_); first | exact (A1 hf_) | exact (Gu2 hf_) | exact (Ku1 hf_) | exact ok1.i | (exact LI.z (fun h => absurd h (by decide))) | (exact absurd hf_ (by omega)) | omega) | (unfold FPZ; (try simp only [reduceIte, and_true, true_and, and_false, false_and, and_self, Nat.reduceEqDiff, fz_sF28, rF_sF, rA_sF, rR_sF, tr_sF, rNMp_sF, PNp_sF, GS_F28, OP_F28, NR_F28, LI_F28, RG_l28, RG_r28, WNp_sF28, VMp_sF28, KYp_sF28, PPp_sF28, WFp_sF28, rk_n0 hp_2, Ks1, Fs1]); omega) | (unfold FQZ; (try simp only [reduceIte, and_true, true_and, and_false, false_and, and_self, Nat.reduceEqDiff, fz_sF28, rF_sF, rA_sF, rR_sF, tr_sF, rNMp_sF, PNp_sF, GS_F28, OP_F28, NR_F28, LI_F28, RG_l28, RG_r28, WNp_sF28, VMp_sF28, KYp_sF28, PPp_sF28, WFp_sF28, rk_n0 hp_2, Ks1, Fs1]); omega) | omega | (have zz_ := fz_z (by assumption); omega) | (split <;> omega) | (exact TPqp.z (by first | omega | (simp only [rF_sF, Nat.reduceEqDiff, and_false, and_true, and_self, reduceIte]; omega) | simp only [rF_sF, Nat.reduceEqDiff, and_false, and_true, and_self, reduceIte])) | (exact CCp.mk (by assumption) (by first | omega | (simp only [rF_sF, Nat.reduceEqDiff, and_false, and_true, and_self, reduceIte]; omega))) | done)), ?_⟩
    intro v28 hv28 q28
    unfold rng at hv28
    unfold post_X14_fc at q28
    obtain ⟨q28_1, q28_2⟩ := q28
    (try simp only [reduceIte, and_true, true_and, and_false, false_and, and_self, Nat.reduceEqDiff, fz_sF28, rF_sF, rA_sF, rR_sF, tr_sF, rNMp_sF, PNp_sF, GS_F28, OP_F28, NR_F28, LI_F28, RG_l28, RG_r28, WNp_sF28, VMp_sF28, KYp_sF28, PPp_sF28, WFp_sF28, rk_n0 hp_2, Ks1, Fs1, FPZ, FQZ] at q28_1 q28_2)
    refine ⟨fun c33 => ?_, fun c33 => ?_⟩
    · refine ⟨(by (try simp only [pre_X14_fc, reduceIte, and_true, true_and, and_false, false_and, and_self, Nat.reduceEqDiff, fz_sF28, rF_sF, rA_sF, rR_sF, tr_sF, rNMp_sF, PNp_sF, GS_F28, OP_F28, NR_F28, LI_F28, RG_l28, RG_r28, WNp_sF28, VMp_sF28, KYp_sF28, PPp_sF28, WFp_sF28, rk_n0 hp_2, Ks1, Fs1]); (all_goals (repeat' (first | with_reducible intro _ | with_reducible apply And.intro | with_reducible refine Exists.intro g ?_ | with_reducible refine Im.and ?_ ?_))); all_goals (first | assumption | trivial | ((with_reducible refine Im.i fun hf_ => ?_); first | exact (A1 hf_) | exact (Gu2 hf_) | exact (Ku1 hf_) | exact ok1.i | (exact LI.z (fun h => absurd h (by decide))) | (exact absurd hf_ (by omega)) | omega) | (unfold FPZ; (try simp only [reduceIte, and_true, true_and, and_false, false_and, and_self, Nat.reduceEqDiff, fz_sF28, rF_sF, rA_sF, rR_sF, tr_sF, rNMp_sF, PNp_sF, GS_F28, OP_F28, NR_F28, LI_F28, RG_l28, RG_r28, WNp_sF28, VMp_sF28, KYp_sF28, PPp_sF28, WFp_sF28, rk_n0 hp_2, Ks1, Fs1]); omega) | (unfold FQZ; (try simp only [reduceIte, and_true, true_and, and_false, false_and, and_self, Nat.reduceEqDiff, fz_sF28, rF_sF, rA_sF, rR_sF, tr_sF, rNMp_sF, PNp_sF, GS_F28, OP_F28, NR_F28, LI_F28, RG_l28, RG_r28, WNp_sF28, VMp_sF28, KYp_sF28, PPp_sF28, WFp_sF28, rk_n0 hp_2, Ks1, Fs1]); omega) | omega | (have zz_ := fz_z (by assumption); omega) | (split <;> omega) | (exact TPqp.z (by first | omega | (simp only [rF_sF, Nat.reduceEqDiff, and_false, and_true, and_self, reduceIte]; omega) | simp only [rF_sF, Nat.reduceEqDiff, and_false, and_true, and_self, reduceIte])) | (exact CCp.mk (by assumption) (by first | omega | (simp only [rF_sF, Nat.reduceEqDiff, and_false, and_true, and_self, reduceIte]; omega))) | done)), ?_⟩
      intro v75 hv75 q75
      unfold rng at hv75
      unfold post_X14_fc at q75
      obtain ⟨q75_1, q75_2⟩ := q75
      (try simp only [reduceIte, and_true, true_and, and_false, false_and, and_self, Nat.reduceEqDiff, fz_sF28, rF_sF, rA_sF, rR_sF, tr_sF, rNMp_sF, PNp_sF, GS_F28, OP_F28, NR_F28, LI_F28, RG_l28, RG_r28, WNp_sF28, VMp_sF28, KYp_sF28, PPp_sF28, WFp_sF28, rk_n0 hp_2, Ks1, Fs1, FPZ, FQZ] at q75_1 q75_2)
      refine ⟨fun c80 => ?_, fun c80 => ?_⟩
      · refine ⟨(by (try simp only [pre_X14_bad, reduceIte, and_true, true_and, and_false, false_and, and_self, Nat.reduceEqDiff, fz_sF28, rF_sF, rA_sF, rR_sF, tr_sF, rNMp_sF, PNp_sF, GS_F28, OP_F28, NR_F28, LI_F28, RG_l28, RG_r28, WNp_sF28, VMp_sF28, KYp_sF28, PPp_sF28, WFp_sF28, rk_n0 hp_2, Ks1, Fs1]); (all_goals (repeat' (first | with_reducible intro _ | with_reducible apply And.intro | with_reducible refine Exists.intro g ?_ | with_reducible refine Im.and ?_ ?_))); all_goals (first | assumption | trivial | ((with_reducible refine Im.i fun hf_ => ?_); first | exact (A1 hf_) | exact (Gu2 hf_) | exact (Ku1 hf_) | exact ok1.i | (exact LI.z (fun h => absurd h (by decide))) | (exact absurd hf_ (by omega)) | omega) | (unfold FPZ; (try simp only [reduceIte, and_true, true_and, and_false, false_and, and_self, Nat.reduceEqDiff, fz_sF28, rF_sF, rA_sF, rR_sF, tr_sF, rNMp_sF, PNp_sF, GS_F28, OP_F28, NR_F28, LI_F28, RG_l28, RG_r28, WNp_sF28, VMp_sF28, KYp_sF28, PPp_sF28, WFp_sF28, rk_n0 hp_2, Ks1, Fs1]); omega) | (unfold FQZ; (try simp only [reduceIte, and_true, true_and, and_false, false_and, and_self, Nat.reduceEqDiff, fz_sF28, rF_sF, rA_sF, rR_sF, tr_sF, rNMp_sF, PNp_sF, GS_F28, OP_F28, NR_F28, LI_F28, RG_l28, RG_r28, WNp_sF28, VMp_sF28, KYp_sF28, PPp_sF28, WFp_sF28, rk_n0 hp_2, Ks1, Fs1]); omega) | omega | (have zz_ := fz_z (by assumption); omega) | (split <;> omega) | (exact TPqp.z (by first | omega | (simp only [rF_sF, Nat.reduceEqDiff, and_false, and_true, and_self, reduceIte]; omega) | simp only [rF_sF, Nat.reduceEqDiff, and_false, and_true, and_self, reduceIte])) | (exact CCp.mk (by assumption) (by first | omega | (simp only [rF_sF, Nat.reduceEqDiff, and_false, and_true, and_self, reduceIte]; omega))) | done)), ?_⟩
        intro s291 Ws291 e291_0 e291_1 e291_2 e291_3 e291_4 e291_5 e291_6 e291_7 e291_8 e291_9 e291_10 e291_11 e291_12 e291_13 e291_14 e291_15 e291_16 e291_17 e291_18 e291_19 e291_20 e291_21 e291_22 e291_23 e291_24 e291_25 e291_26 e291_27 e291_28 e291_29 e291_30 R291 q291
        have q291 := dig_bad q291 (by (try simp only [reduceIte, and_true, true_and, and_false, false_and, and_self, Nat.reduceEqDiff, fz_sF28, rF_sF, rA_sF, rR_sF, tr_sF, rNMp_sF, PNp_sF, GS_F28, OP_F28, NR_F28, LI_F28, RG_l28, RG_r28, WNp_sF28, VMp_sF28, KYp_sF28, PPp_sF28, WFp_sF28, rk_n0 hp_2, Ks1, Fs1]); omega)
        obtain ⟨q291_1, q291_2⟩ := q291
        (try simp only [reduceIte, and_true, true_and, and_false, false_and, and_self, Nat.reduceEqDiff, fz_sF28, rF_sF, rA_sF, rR_sF, tr_sF, rNMp_sF, PNp_sF, GS_F28, OP_F28, NR_F28, LI_F28, RG_l28, RG_r28, WNp_sF28, VMp_sF28, KYp_sF28, PPp_sF28, WFp_sF28, rk_n0 hp_2, Ks1, Fs1, FPZ, FQZ] at q291_1 q291_2 e291_0 e291_1 e291_2 e291_3 e291_4 e291_5 e291_6 e291_7 e291_8 e291_9 e291_10 e291_11 e291_12 e291_13 e291_14 e291_15 e291_16 e291_17 e291_18 e291_19 e291_20 e291_21 e291_22 e291_23 e291_24 e291_25 e291_26 e291_27 e291_28 e291_29 e291_30 R291)
        have Ks291 : rR s291 7 = rR σ 7 := by first | assumption | ((try simp only [rR_sF, rR_sA, rR_sT, rR_sL] at e291_0 e291_1 e291_2 e291_3 e291_4 e291_5 e291_6 e291_7 e291_8 e291_9 e291_10 e291_11 e291_12 e291_13 e291_14 e291_15 e291_16 e291_17 e291_18 e291_19 e291_20 e291_21 e291_22 e291_23 e291_24 e291_25 e291_26 e291_27 e291_28 e291_29 e291_30 R291); omega)
        have Fs291 : rR s291 15 = rR σ 15 := by first | assumption | ((try simp only [rR_sF, rR_sA, rR_sT, rR_sL] at e291_0 e291_1 e291_2 e291_3 e291_4 e291_5 e291_6 e291_7 e291_8 e291_9 e291_10 e291_11 e291_12 e291_13 e291_14 e291_15 e291_16 e291_17 e291_18 e291_19 e291_20 e291_21 e291_22 e291_23 e291_24 e291_25 e291_26 e291_27 e291_28 e291_29 e291_30 R291); omega)
        have zr291 := fz_rng s291
        have zc291 : fz s291 = 0 → fz s1 = 0 := fun hf => by omega
        have A291 : Im (fz s291 = 0) (RG (RT σ) s291 (rR σ 7) 0) := fun hf => RG.trk hp_2 (A1 (zc291 hf)) R291 (Or.inr (Or.inl rfl))
        have Ku3 : Im (fz s291 = 0) (GK g g (rF σ (rR σ 7) 7) (rF s291 (rR σ 7) 7) 0) := fun hf => GK.trans (Ku1 (zc291 hf)) (GK.up (N := rF s1 (rR σ 7) 7) (N' := rF s291 (rR σ 7) 7) (c := 0) (by first | assumption | omega | (simp only [rF_sT, rF_sA]; omega))) (Or.inr (Or.inl rfl))
        have Gu4 : Im (fz s291 = 0) (GS s291 (rR σ 7) g) := fun hf => GS.mv hp_2 (Gu2 (zc291 hf)) R291 (by first | assumption | omega | (simp only [rF_sT, rF_sA]; omega)) (by first | (exact Int.le_of_eq (Eq.symm (by assumption))) | omega | (simp only [rF_sT, rF_sA]; omega))
        have rNMp_291 := e291_0 rNMp_1; clear e291_0
        have PNp_291 := e291_1 PNp_1; clear e291_1
        clear e291_2
        exact (by (try simp only [post_X14_readBody, Ks291, Fs291]); (all_goals (repeat' (first | with_reducible intro _ | with_reducible apply And.intro | with_reducible refine Exists.intro g ?_ | with_reducible refine Im.and ?_ ?_))); all_goals (first | assumption | trivial | ((with_reducible refine Im.i fun hf_ => ?_); first | exact (A291 hf_) | exact (Gu4 hf_) | exact (Ku3 hf_) | exact ok1.i | (exact LI.z (fun h => absurd h (by decide))) | (exact absurd hf_ (by omega)) | omega) | (unfold FPZ; (try simp only [Ks291, Fs291]); omega) | (unfold FQZ; (try simp only [Ks291, Fs291]); omega) | omega | (have zz_ := fz_z (by assumption); omega) | (split <;> omega) | (exact TPqp.z (by first | omega | (simp only [rF_sF, Nat.reduceEqDiff, and_false, and_true, and_self, reduceIte]; omega) | simp only [rF_sF, Nat.reduceEqDiff, and_false, and_true, and_self, reduceIte])) | (exact CCp.mk (by assumption) (by first | omega | (simp only [rF_sF, Nat.reduceEqDiff, and_false, and_true, and_self, reduceIte]; omega))) | done))
      · refine ⟨(by (try simp only [rng, reduceIte, and_true, true_and, and_false, false_and, and_self, Nat.reduceEqDiff, fz_sF28, rF_sF, rA_sF, rR_sF, tr_sF, rNMp_sF, PNp_sF, GS_F28, OP_F28, NR_F28, LI_F28, RG_l28, RG_r28, WNp_sF28, VMp_sF28, KYp_sF28, PPp_sF28, WFp_sF28, rk_n0 hp_2, Ks1, Fs1]); (all_goals (repeat' (first | with_reducible intro _ | with_reducible apply And.intro | with_reducible refine Exists.intro g ?_ | with_reducible refine Im.and ?_ ?_))); all_goals (first | assumption | trivial | ((with_reducible refine Im.i fun hf_ => ?_); first | exact (A1 hf_) | exact (Gu2 hf_) | exact (Ku1 hf_) | exact ok1.i | (exact LI.z (fun h => absurd h (by decide))) | (exact absurd hf_ (by omega)) | omega) | (unfold FPZ; (try simp only [reduceIte, and_true, true_and, and_false, false_and, and_self, Nat.reduceEqDiff, fz_sF28, rF_sF, rA_sF, rR_sF, tr_sF, rNMp_sF, PNp_sF, GS_F28, OP_F28, NR_F28, LI_F28, RG_l28, RG_r28, WNp_sF28, VMp_sF28, KYp_sF28, PPp_sF28, WFp_sF28, rk_n0 hp_2, Ks1, Fs1]); omega) | (unfold FQZ; (try simp only [reduceIte, and_true, true_and, and_false, false_and, and_self, Nat.reduceEqDiff, fz_sF28, rF_sF, rA_sF, rR_sF, tr_sF, rNMp_sF, PNp_sF, GS_F28, OP_F28, NR_F28, LI_F28, RG_l28, RG_r28, WNp_sF28, VMp_sF28, KYp_sF28, PPp_sF28, WFp_sF28, rk_n0 hp_2, Ks1, Fs1]); omega) | omega | (have zz_ := fz_z (by assumption); omega) | (split <;> omega) | (exact TPqp.z (by first | omega | (simp only [rF_sF, Nat.reduceEqDiff, and_false, and_true, and_self, reduceIte]; omega) | simp only [rF_sF, Nat.reduceEqDiff, and_false, and_true, and_self, reduceIte])) | (exact CCp.mk (by assumption) (by first | omega | (simp only [rF_sF, Nat.reduceEqDiff, and_false, and_true, and_self, reduceIte]; omega))) | done)), ?_⟩
        refine ⟨(by (try simp only [pre_X14_fc, reduceIte, and_true, true_and, and_false, false_and, and_self, Nat.reduceEqDiff, fz_sF28, rF_sF, rA_sF, rR_sF, tr_sF, rNMp_sF, PNp_sF, GS_F28, OP_F28, NR_F28, LI_F28, RG_l28, RG_r28, WNp_sF28, VMp_sF28, KYp_sF28, PPp_sF28, WFp_sF28, rk_n0 hp_2, Ks1, Fs1]); (all_goals (repeat' (first | with_reducible intro _ | with_reducible apply And.intro | with_reducible refine Exists.intro g ?_ | with_reducible refine Im.and ?_ ?_))); all_goals (first | assumption | trivial | ((with_reducible refine Im.i fun hf_ => ?_); first | exact (A1 hf_) | exact (Gu2 hf_) | exact (Ku1 hf_) | exact ok1.i | (exact LI.z (fun h => absurd h (by decide))) | (exact absurd hf_ (by omega)) | omega) | (unfold FPZ; (try simp only [reduceIte, and_true, true_and, and_false, false_and, and_self, Nat.reduceEqDiff, fz_sF28, rF_sF, rA_sF, rR_sF, tr_sF, rNMp_sF, PNp_sF, GS_F28, OP_F28, NR_F28, LI_F28, RG_l28, RG_r28, WNp_sF28, VMp_sF28, KYp_sF28, PPp_sF28, WFp_sF28, rk_n0 hp_2, Ks1, Fs1]); omega) | (unfold FQZ; (try simp only [reduceIte, and_true, true_and, and_false, false_and, and_self, Nat.reduceEqDiff, fz_sF28, rF_sF, rA_sF, rR_sF, tr_sF, rNMp_sF, PNp_sF, GS_F28, OP_F28, NR_F28, LI_F28, RG_l28, RG_r28, WNp_sF28, VMp_sF28, KYp_sF28, PPp_sF28, WFp_sF28, rk_n0 hp_2, Ks1, Fs1]); omega) | omega | (have zz_ := fz_z (by assumption); omega) | (split <;> omega) | (exact TPqp.z (by first | omega | (simp only [rF_sF, Nat.reduceEqDiff, and_false, and_true, and_self, reduceIte]; omega) | simp only [rF_sF, Nat.reduceEqDiff, and_false, and_true, and_self, reduceIte])) | (exact CCp.mk (by assumption) (by first | omega | (simp only [rF_sF, Nat.reduceEqDiff, and_false, and_true, and_self, reduceIte]; omega))) | done)), ?_⟩
        intro v90 hv90 q90
        unfold rng at hv90
        unfold post_X14_fc at q90
        obtain ⟨q90_1, q90_2⟩ := q90
        (try simp only [reduceIte, and_true, true_and, and_false, false_and, and_self, Nat.reduceEqDiff, fz_sF28, rF_sF, rA_sF, rR_sF, tr_sF, rNMp_sF, PNp_sF, GS_F28, OP_F28, NR_F28, LI_F28, RG_l28, RG_r28, WNp_sF28, VMp_sF28, KYp_sF28, PPp_sF28, WFp_sF28, rk_n0 hp_2, Ks1, Fs1, FPZ, FQZ] at q90_1 q90_2)
        refine ⟨fun c95 => ?_, fun c95 => ?_⟩
        · exact (by (try simp only [inv_X14_readBody_113, reduceIte, and_true, true_and, and_false, false_and, and_self, Nat.reduceEqDiff, fz_sF28, rF_sF, rA_sF, rR_sF, tr_sF, rNMp_sF, PNp_sF, GS_F28, OP_F28, NR_F28, LI_F28, RG_l28, RG_r28, WNp_sF28, VMp_sF28, KYp_sF28, PPp_sF28, WFp_sF28, rk_n0 hp_2, Ks1, Fs1]); (all_goals (repeat' (first | with_reducible intro _ | with_reducible apply And.intro | with_reducible refine Exists.intro g ?_ | with_reducible refine Im.and ?_ ?_))); all_goals (first | assumption | trivial | ((with_reducible refine Im.i fun hf_ => ?_); first | exact (A1 hf_) | exact (Gu2 hf_) | exact (Ku1 hf_) | exact ok1.i | (exact LI.z (fun h => absurd h (by decide))) | (exact absurd hf_ (by omega)) | omega) | (unfold FPZ; (try simp only [reduceIte, and_true, true_and, and_false, false_and, and_self, Nat.reduceEqDiff, fz_sF28, rF_sF, rA_sF, rR_sF, tr_sF, rNMp_sF, PNp_sF, GS_F28, OP_F28, NR_F28, LI_F28, RG_l28, RG_r28, WNp_sF28, VMp_sF28, KYp_sF28, PPp_sF28, WFp_sF28, rk_n0 hp_2, Ks1, Fs1]); omega) | (unfold FQZ; (try simp only [reduceIte, and_true, true_and, and_false, false_and, and_self, Nat.reduceEqDiff, fz_sF28, rF_sF, rA_sF, rR_sF, tr_sF, rNMp_sF, PNp_sF, GS_F28, OP_F28, NR_F28, LI_F28, RG_l28, RG_r28, WNp_sF28, VMp_sF28, KYp_sF28, PPp_sF28, WFp_sF28, rk_n0 hp_2, Ks1, Fs1]); omega) | omega | (have zz_ := fz_z (by assumption); omega) | (split <;> omega) | (exact TPqp.z (by first | omega | (simp only [rF_sF, Nat.reduceEqDiff, and_false, and_true, and_self, reduceIte]; omega) | simp only [rF_sF, Nat.reduceEqDiff, and_false, and_true, and_self, reduceIte])) | (exact CCp.mk (by assumption) (by first | omega | (simp only [rF_sF, Nat.reduceEqDiff, and_false, and_true, and_self, reduceIte]; omega))) | done))
        · refine ⟨(by (try simp only [pre_X14_fc, reduceIte, and_true, true_and, and_false, false_and, and_self, Nat.reduceEqDiff, fz_sF28, rF_sF, rA_sF, rR_sF, tr_sF, rNMp_sF, PNp_sF, GS_F28, OP_F28, NR_F28, LI_F28, RG_l28, RG_r28, WNp_sF28, VMp_sF28, KYp_sF28, PPp_sF28, WFp_sF28, rk_n0 hp_2, Ks1, Fs1]); (all_goals (repeat' (first | with_reducible intro _ | with_reducible apply And.intro | with_reducible refine Exists.intro g ?_ | with_reducible refine Im.and ?_ ?_))); all_goals (first | assumption | trivial | ((with_reducible refine Im.i fun hf_ => ?_); first | exact (A1 hf_) | exact (Gu2 hf_) | exact (Ku1 hf_) | exact ok1.i | (exact LI.z (fun h => absurd h (by decide))) | (exact absurd hf_ (by omega)) | omega) | (unfold FPZ; (try simp only [reduceIte, and_true, true_and, and_false, false_and, and_self, Nat.reduceEqDiff, fz_sF28, rF_sF, rA_sF, rR_sF, tr_sF, rNMp_sF, PNp_sF, GS_F28, OP_F28, NR_F28, LI_F28, RG_l28, RG_r28, WNp_sF28, VMp_sF28, KYp_sF28, PPp_sF28, WFp_sF28, rk_n0 hp_2, Ks1, Fs1]); omega) | (unfold FQZ; (try simp only [reduceIte, and_true, true_and, and_false, false_and, and_self, Nat.reduceEqDiff, fz_sF28, rF_sF, rA_sF, rR_sF, tr_sF, rNMp_sF, PNp_sF, GS_F28, OP_F28, NR_F28, LI_F28, RG_l28, RG_r28, WNp_sF28, VMp_sF28, KYp_sF28, PPp_sF28, WFp_sF28, rk_n0 hp_2, Ks1, Fs1]); omega) | omega | (have zz_ := fz_z (by assumption); omega) | (split <;> omega) | (exact TPqp.z (by first | omega | (simp only [rF_sF, Nat.reduceEqDiff, and_false, and_true, and_self, reduceIte]; omega) | simp only [rF_sF, Nat.reduceEqDiff, and_false, and_true, and_self, reduceIte])) | (exact CCp.mk (by assumption) (by first | omega | (simp only [rF_sF, Nat.reduceEqDiff, and_false, and_true, and_self, reduceIte]; omega))) | done)), ?_⟩
          intro v105 hv105 q105
          unfold rng at hv105
          unfold post_X14_fc at q105
          obtain ⟨q105_1, q105_2⟩ := q105
          (try simp only [reduceIte, and_true, true_and, and_false, false_and, and_self, Nat.reduceEqDiff, fz_sF28, rF_sF, rA_sF, rR_sF, tr_sF, rNMp_sF, PNp_sF, GS_F28, OP_F28, NR_F28, LI_F28, RG_l28, RG_r28, WNp_sF28, VMp_sF28, KYp_sF28, PPp_sF28, WFp_sF28, rk_n0 hp_2, Ks1, Fs1, FPZ, FQZ] at q105_1 q105_2)
          refine ⟨fun c110 => ?_, fun c110 => ?_⟩
          · refine ⟨(by (try simp only [pre_X14_bad, reduceIte, and_true, true_and, and_false, false_and, and_self, Nat.reduceEqDiff, fz_sF28, rF_sF, rA_sF, rR_sF, tr_sF, rNMp_sF, PNp_sF, GS_F28, OP_F28, NR_F28, LI_F28, RG_l28, RG_r28, WNp_sF28, VMp_sF28, KYp_sF28, PPp_sF28, WFp_sF28, rk_n0 hp_2, Ks1, Fs1]); (all_goals (repeat' (first | with_reducible intro _ | with_reducible apply And.intro | with_reducible refine Exists.intro g ?_ | with_reducible refine Im.and ?_ ?_))); all_goals (first | assumption | trivial | ((with_reducible refine Im.i fun hf_ => ?_); first | exact (A1 hf_) | exact (Gu2 hf_) | exact (Ku1 hf_) | exact ok1.i | (exact LI.z (fun h => absurd h (by decide))) | (exact absurd hf_ (by omega)) | omega) | (unfold FPZ; (try simp only [reduceIte, and_true, true_and, and_false, false_and, and_self, Nat.reduceEqDiff, fz_sF28, rF_sF, rA_sF, rR_sF, tr_sF, rNMp_sF, PNp_sF, GS_F28, OP_F28, NR_F28, LI_F28, RG_l28, RG_r28, WNp_sF28, VMp_sF28, KYp_sF28, PPp_sF28, WFp_sF28, rk_n0 hp_2, Ks1, Fs1]); omega) | (unfold FQZ; (try simp only [reduceIte, and_true, true_and, and_false, false_and, and_self, Nat.reduceEqDiff, fz_sF28, rF_sF, rA_sF, rR_sF, tr_sF, rNMp_sF, PNp_sF, GS_F28, OP_F28, NR_F28, LI_F28, RG_l28, RG_r28, WNp_sF28, VMp_sF28, KYp_sF28, PPp_sF28, WFp_sF28, rk_n0 hp_2, Ks1, Fs1]); omega) | omega | (have zz_ := fz_z (by assumption); omega) | (split <;> omega) | (exact TPqp.z (by first | omega | (simp only [rF_sF, Nat.reduceEqDiff, and_false, and_true, and_self, reduceIte]; omega) | simp only [rF_sF, Nat.reduceEqDiff, and_false, and_true, and_self, reduceIte])) | (exact CCp.mk (by assumption) (by first | omega | (simp only [rF_sF, Nat.reduceEqDiff, and_false, and_true, and_self, reduceIte]; omega))) | done)), ?_⟩
            intro s291 Ws291 e291_0 e291_1 e291_2 e291_3 e291_4 e291_5 e291_6 e291_7 e291_8 e291_9 e291_10 e291_11 e291_12 e291_13 e291_14 e291_15 e291_16 e291_17 e291_18 e291_19 e291_20 e291_21 e291_22 e291_23 e291_24 e291_25 e291_26 e291_27 e291_28 e291_29 e291_30 R291 q291
            have q291 := dig_bad q291 (by (try simp only [reduceIte, and_true, true_and, and_false, false_and, and_self, Nat.reduceEqDiff, fz_sF28, rF_sF, rA_sF, rR_sF, tr_sF, rNMp_sF, PNp_sF, GS_F28, OP_F28, NR_F28, LI_F28, RG_l28, RG_r28, WNp_sF28, VMp_sF28, KYp_sF28, PPp_sF28, WFp_sF28, rk_n0 hp_2, Ks1, Fs1]); omega)
            obtain ⟨q291_1, q291_2⟩ := q291
            (try simp only [reduceIte, and_true, true_and, and_false, false_and, and_self, Nat.reduceEqDiff, fz_sF28, rF_sF, rA_sF, rR_sF, tr_sF, rNMp_sF, PNp_sF, GS_F28, OP_F28, NR_F28, LI_F28, RG_l28, RG_r28, WNp_sF28, VMp_sF28, KYp_sF28, PPp_sF28, WFp_sF28, rk_n0 hp_2, Ks1, Fs1, FPZ, FQZ] at q291_1 q291_2 e291_0 e291_1 e291_2 e291_3 e291_4 e291_5 e291_6 e291_7 e291_8 e291_9 e291_10 e291_11 e291_12 e291_13 e291_14 e291_15 e291_16 e291_17 e291_18 e291_19 e291_20 e291_21 e291_22 e291_23 e291_24 e291_25 e291_26 e291_27 e291_28 e291_29 e291_30 R291)
            have Ks291 : rR s291 7 = rR σ 7 := by first | assumption | ((try simp only [rR_sF, rR_sA, rR_sT, rR_sL] at e291_0 e291_1 e291_2 e291_3 e291_4 e291_5 e291_6 e291_7 e291_8 e291_9 e291_10 e291_11 e291_12 e291_13 e291_14 e291_15 e291_16 e291_17 e291_18 e291_19 e291_20 e291_21 e291_22 e291_23 e291_24 e291_25 e291_26 e291_27 e291_28 e291_29 e291_30 R291); omega)
            have Fs291 : rR s291 15 = rR σ 15 := by first | assumption | ((try simp only [rR_sF, rR_sA, rR_sT, rR_sL] at e291_0 e291_1 e291_2 e291_3 e291_4 e291_5 e291_6 e291_7 e291_8 e291_9 e291_10 e291_11 e291_12 e291_13 e291_14 e291_15 e291_16 e291_17 e291_18 e291_19 e291_20 e291_21 e291_22 e291_23 e291_24 e291_25 e291_26 e291_27 e291_28 e291_29 e291_30 R291); omega)
            have zr291 := fz_rng s291
            have zc291 : fz s291 = 0 → fz s1 = 0 := fun hf => by omega
            have A291 : Im (fz s291 = 0) (RG (RT σ) s291 (rR σ 7) 0) := fun hf => RG.trk hp_2 (A1 (zc291 hf)) R291 (Or.inr (Or.inl rfl))
            have Ku25 : Im (fz s291 = 0) (GK g g (rF σ (rR σ 7) 7) (rF s291 (rR σ 7) 7) 0) := fun hf => GK.trans (Ku1 (zc291 hf)) (GK.up (N := rF s1 (rR σ 7) 7) (N' := rF s291 (rR σ 7) 7) (c := 0) (by first | assumption | omega | (simp only [rF_sT, rF_sA]; omega))) (Or.inr (Or.inl rfl))
            have Gu26 : Im (fz s291 = 0) (GS s291 (rR σ 7) g) := fun hf => GS.mv hp_2 (Gu2 (zc291 hf)) R291 (by first | assumption | omega | (simp only [rF_sT, rF_sA]; omega)) (by first | (exact Int.le_of_eq (Eq.symm (by assumption))) | omega | (simp only [rF_sT, rF_sA]; omega))
            have rNMp_291 := e291_0 rNMp_1; clear e291_0
            have PNp_291 := e291_1 PNp_1; clear e291_1
            clear e291_2
            exact (by (try simp only [post_X14_readBody, Ks291, Fs291]); (all_goals (repeat' (first | with_reducible intro _ | with_reducible apply And.intro | with_reducible refine Exists.intro g ?_ | with_reducible refine Im.and ?_ ?_))); all_goals (first | assumption | trivial | ((with_reducible refine Im.i fun hf_ => ?_); first | exact (A291 hf_) | exact (Gu26 hf_) | exact (Ku25 hf_) | exact ok1.i | (exact LI.z (fun h => absurd h (by decide))) | (exact absurd hf_ (by omega)) | omega) | (unfold FPZ; (try simp only [Ks291, Fs291]); omega) | (unfold FQZ; (try simp only [Ks291, Fs291]); omega) | omega | (have zz_ := fz_z (by assumption); omega) | (split <;> omega) | (exact TPqp.z (by first | omega | (simp only [rF_sF, Nat.reduceEqDiff, and_false, and_true, and_self, reduceIte]; omega) | simp only [rF_sF, Nat.reduceEqDiff, and_false, and_true, and_self, reduceIte])) | (exact CCp.mk (by assumption) (by first | omega | (simp only [rF_sF, Nat.reduceEqDiff, and_false, and_true, and_self, reduceIte]; omega))) | done))
          · exact (by (try simp only [inv_X14_readBody_113, reduceIte, and_true, true_and, and_false, false_and, and_self, Nat.reduceEqDiff, fz_sF28, rF_sF, rA_sF, rR_sF, tr_sF, rNMp_sF, PNp_sF, GS_F28, OP_F28, NR_F28, LI_F28, RG_l28, RG_r28, WNp_sF28, VMp_sF28, KYp_sF28, PPp_sF28, WFp_sF28, rk_n0 hp_2, Ks1, Fs1]); (all_goals (repeat' (first | with_reducible intro _ | with_reducible apply And.intro | with_reducible refine Exists.intro g ?_ | with_reducible refine Im.and ?_ ?_))); all_goals (first | assumption | trivial | ((with_reducible refine Im.i fun hf_ => ?_); first | exact (A1 hf_) | exact (Gu2 hf_) | exact (Ku1 hf_) | exact ok1.i | (exact LI.z (fun h => absurd h (by decide))) | (exact absurd hf_ (by omega)) | omega) | (unfold FPZ; (try simp only [reduceIte, and_true, true_and, and_false, false_and, and_self, Nat.reduceEqDiff, fz_sF28, rF_sF, rA_sF, rR_sF, tr_sF, rNMp_sF, PNp_sF, GS_F28, OP_F28, NR_F28, LI_F28, RG_l28, RG_r28, WNp_sF28, VMp_sF28, KYp_sF28, PPp_sF28, WFp_sF28, rk_n0 hp_2, Ks1, Fs1]); omega) | (unfold FQZ; (try simp only [reduceIte, and_true, true_and, and_false, false_and, and_self, Nat.reduceEqDiff, fz_sF28, rF_sF, rA_sF, rR_sF, tr_sF, rNMp_sF, PNp_sF, GS_F28, OP_F28, NR_F28, LI_F28, RG_l28, RG_r28, WNp_sF28, VMp_sF28, KYp_sF28, PPp_sF28, WFp_sF28, rk_n0 hp_2, Ks1, Fs1]); omega) | omega | (have zz_ := fz_z (by assumption); omega) | (split <;> omega) | (exact TPqp.z (by first | omega | (simp only [rF_sF, Nat.reduceEqDiff, and_false, and_true, and_self, reduceIte]; omega) | simp only [rF_sF, Nat.reduceEqDiff, and_false, and_true, and_self, reduceIte])) | (exact CCp.mk (by assumption) (by first | omega | (simp only [rF_sF, Nat.reduceEqDiff, and_false, and_true, and_self, reduceIte]; omega))) | done))
    · refine ⟨(by (try simp only [pre_X14_fileString_f, reduceIte, and_true, true_and, and_false, false_and, and_self, Nat.reduceEqDiff, fz_sF28, rF_sF, rA_sF, rR_sF, tr_sF, rNMp_sF, PNp_sF, GS_F28, OP_F28, NR_F28, LI_F28, RG_l28, RG_r28, WNp_sF28, VMp_sF28, KYp_sF28, PPp_sF28, WFp_sF28, rk_n0 hp_2, Ks1, Fs1]); (all_goals (repeat' (first | with_reducible intro _ | with_reducible apply And.intro | with_reducible refine Exists.intro g ?_ | with_reducible refine Im.and ?_ ?_))); all_goals (first | assumption | trivial | ((with_reducible refine Im.i fun hf_ => ?_); first | exact (A1 hf_) | exact (Gu2 hf_) | exact (Ku1 hf_) | exact ok1.i | (exact LI.z (fun h => absurd h (by decide))) | (exact absurd hf_ (by omega)) | omega) | (unfold FPZ; (try simp only [reduceIte, and_true, true_and, and_false, false_and, and_self, Nat.reduceEqDiff, fz_sF28, rF_sF, rA_sF, rR_sF, tr_sF, rNMp_sF, PNp_sF, GS_F28, OP_F28, NR_F28, LI_F28, RG_l28, RG_r28, WNp_sF28, VMp_sF28, KYp_sF28, PPp_sF28, WFp_sF28, rk_n0 hp_2, Ks1, Fs1]); omega) | (unfold FQZ; (try simp only [reduceIte, and_true, true_and, and_false, false_and, and_self, Nat.reduceEqDiff, fz_sF28, rF_sF, rA_sF, rR_sF, tr_sF, rNMp_sF, PNp_sF, GS_F28, OP_F28, NR_F28, LI_F28, RG_l28, RG_r28, WNp_sF28, VMp_sF28, KYp_sF28, PPp_sF28, WFp_sF28, rk_n0 hp_2, Ks1, Fs1]); omega) | omega | (have zz_ := fz_z (by assumption); omega) | (split <;> omega) | (exact TPqp.z (by first | omega | (simp only [rF_sF, Nat.reduceEqDiff, and_false, and_true, and_self, reduceIte]; omega) | simp only [rF_sF, Nat.reduceEqDiff, and_false, and_true, and_self, reduceIte])) | (exact CCp.mk (by assumption) (by first | omega | (simp only [rF_sF, Nat.reduceEqDiff, and_false, and_true, and_self, reduceIte]; omega))) | done)), ?_⟩
      intro s37 Ws37 e37_0 e37_1 e37_2 e37_3 e37_4 e37_5 e37_6 e37_7 e37_8 e37_9 e37_10 e37_11 e37_12 e37_13 e37_14 e37_15 e37_16 e37_17 e37_18 e37_19 e37_20 e37_21 e37_22 e37_23 e37_24 e37_25 e37_26 R37 q37
      unfold post_X14_fileString_f at q37
      obtain ⟨q37_1, q37_2, q37_3, q37_4⟩ := q37
      (try simp only [reduceIte, and_true, true_and, and_false, false_and, and_self, Nat.reduceEqDiff, fz_sF28, rF_sF, rA_sF, rR_sF, tr_sF, rNMp_sF, PNp_sF, GS_F28, OP_F28, NR_F28, LI_F28, RG_l28, RG_r28, WNp_sF28, VMp_sF28, KYp_sF28, PPp_sF28, WFp_sF28, rk_n0 hp_2, Ks1, Fs1, FPZ, FQZ] at q37_1 q37_2 q37_3 q37_4 e37_0 e37_1 e37_2 e37_3 e37_4 e37_5 e37_6 e37_7 e37_8 e37_9 e37_10 e37_11 e37_12 e37_13 e37_14 e37_15 e37_16 e37_17 e37_18 e37_19 e37_20 e37_21 e37_22 e37_23 e37_24 e37_25 e37_26 R37)
      have Ks37 : rR s37 7 = rR σ 7 := by first | assumption | ((try simp only [rR_sF, rR_sA, rR_sT, rR_sL] at e37_0 e37_1 e37_2 e37_3 e37_4 e37_5 e37_6 e37_7 e37_8 e37_9 e37_10 e37_11 e37_12 e37_13 e37_14 e37_15 e37_16 e37_17 e37_18 e37_19 e37_20 e37_21 e37_22 e37_23 e37_24 e37_25 e37_26 R37); omega)
      have Fs37 : rR s37 15 = rR σ 15 := by first | assumption | ((try simp only [rR_sF, rR_sA, rR_sT, rR_sL] at e37_0 e37_1 e37_2 e37_3 e37_4 e37_5 e37_6 e37_7 e37_8 e37_9 e37_10 e37_11 e37_12 e37_13 e37_14 e37_15 e37_16 e37_17 e37_18 e37_19 e37_20 e37_21 e37_22 e37_23 e37_24 e37_25 e37_26 R37); omega)
      have zr37 := fz_rng s37
      have zc37 : fz s37 = 0 → fz s1 = 0 := fun hf => by omega
      have A37 : Im (fz s37 = 0) (RG (RT σ) s37 (rR σ 7) 0) := fun hf => RG.trk hp_2 (A1 (zc37 hf)) R37 (Or.inr (Or.inl rfl))
      have Ku27 : Im (fz s37 = 0) (GK g g (rF σ (rR σ 7) 7) (rF s37 (rR σ 7) 7) 0) := fun hf => GK.trans (Ku1 (zc37 hf)) (GK.up (N := rF s1 (rR σ 7) 7) (N' := rF s37 (rR σ 7) 7) (c := 0) (by first | assumption | omega | (simp only [rF_sT, rF_sA]; omega))) (Or.inr (Or.inl rfl))
      have Gu28 : Im (fz s37 = 0) (GS s37 (rR σ 7) g) := fun hf => GS.mv hp_2 (Gu2 (zc37 hf)) R37 (by first | assumption | omega | (simp only [rF_sT, rF_sA]; omega)) (by first | (exact Int.le_of_eq (Eq.symm (by assumption))) | omega | (simp only [rF_sT, rF_sA]; omega))
      have rNMp_37 := e37_0 rNMp_1; clear e37_0
      have PNp_37 := e37_1 PNp_1; clear e37_1
      clear e37_2
      intro hr_; unfold rng at hr_
      refine ⟨fun c44 => ?_, fun c44 => ?_⟩
      · have z44 := fz_z c44
        intro hr_; unfold rng at hr_
        intro hr_; unfold rng at hr_
        exact (by (try simp only [inv_X14_readBody_298, reduceIte, and_true, true_and, and_false, false_and, and_self, Nat.reduceEqDiff, fz_sF30, rF_sF, rA_sF, rR_sF, tr_sF, rNMp_sF, PNp_sF, GS_F30, OP_F30, NR_F30, LI_F30, RG_l30, RG_r30, WNp_sF30, VMp_sF30, KYp_sF30, PPp_sF30, WFp_sF30, rk_n0 hp_2, Ks37, Fs37]); (all_goals (repeat' (first | with_reducible intro _ | with_reducible apply And.intro | with_reducible refine Exists.intro g ?_ | with_reducible refine Im.and ?_ ?_))); all_goals (first | assumption | trivial | ((with_reducible refine Im.i fun hf_ => ?_); first | exact (A37 hf_) | exact (Gu28 hf_) | exact (Ku27 hf_) | exact ok1.i | (exact LI.z (fun h => absurd h (by decide))) | (exact absurd hf_ (by omega)) | omega) | (unfold FPZ; (try simp only [reduceIte, and_true, true_and, and_false, false_and, and_self, Nat.reduceEqDiff, fz_sF30, rF_sF, rA_sF, rR_sF, tr_sF, rNMp_sF, PNp_sF, GS_F30, OP_F30, NR_F30, LI_F30, RG_l30, RG_r30, WNp_sF30, VMp_sF30, KYp_sF30, PPp_sF30, WFp_sF30, rk_n0 hp_2, Ks37, Fs37]); omega) | (unfold FQZ; (try simp only [reduceIte, and_true, true_and, and_false, false_and, and_self, Nat.reduceEqDiff, fz_sF30, rF_sF, rA_sF, rR_sF, tr_sF, rNMp_sF, PNp_sF, GS_F30, OP_F30, NR_F30, LI_F30, RG_l30, RG_r30, WNp_sF30, VMp_sF30, KYp_sF30, PPp_sF30, WFp_sF30, rk_n0 hp_2, Ks37, Fs37]); omega) | omega | (have zz_ := fz_z (by assumption); omega) | (split <;> omega) | (exact TPqp.z (by first | omega | (simp only [rF_sF, Nat.reduceEqDiff, and_false, and_true, and_self, reduceIte]; omega) | simp only [rF_sF, Nat.reduceEqDiff, and_false, and_true, and_self, reduceIte])) | (exact CCp.mk (by assumption) (by first | omega | (simp only [rF_sF, Nat.reduceEqDiff, and_false, and_true, and_self, reduceIte]; omega))) | done))
      · have z44 := fz_n c44
        exact (by (try simp only [post_X14_readBody, Ks37, Fs37]); (all_goals (repeat' (first | with_reducible intro _ | with_reducible apply And.intro | with_reducible refine Exists.intro g ?_ | with_reducible refine Im.and ?_ ?_))); all_goals (first | assumption | trivial | ((with_reducible refine Im.i fun hf_ => ?_); first | exact (A37 hf_) | exact (Gu28 hf_) | exact (Ku27 hf_) | exact ok1.i | (exact LI.z (fun h => absurd h (by decide))) | (exact absurd hf_ (by omega)) | omega) | (unfold FPZ; (try simp only [Ks37, Fs37]); omega) | (unfold FQZ; (try simp only [Ks37, Fs37]); omega) | omega | (have zz_ := fz_z (by assumption); omega) | (split <;> omega) | (exact TPqp.z (by first | omega | (simp only [rF_sF, Nat.reduceEqDiff, and_false, and_true, and_self, reduceIte]; omega) | simp only [rF_sF, Nat.reduceEqDiff, and_false, and_true, and_self, reduceIte])) | (exact CCp.mk (by assumption) (by first | omega | (simp only [rF_sF, Nat.reduceEqDiff, and_false, and_true, and_self, reduceIte]; omega))) | done))
  · have z8 := fz_n c8
    exact (by (try simp only [post_X14_readBody, Ks1, Fs1]); (all_goals (repeat' (first | with_reducible intro _ | with_reducible apply And.intro | with_reducible refine Exists.intro g ?_ | with_reducible refine Im.and ?_ ?_))); all_goals (first | assumption | trivial | ((with_reducible refine Im.i fun hf_ => ?_); first | exact (A1 hf_) | exact (Gu2 hf_) | exact (Ku1 hf_) | exact ok1.i | (exact LI.z (fun h => absurd h (by decide))) | (exact absurd hf_ (by omega)) | omega) | (unfold FPZ; (try simp only [Ks1, Fs1]); omega) | (unfold FQZ; (try simp only [Ks1, Fs1]); omega) | omega | (have zz_ := fz_z (by assumption); omega) | (split <;> omega) | (exact TPqp.z (by first | omega | (simp only [rF_sF, Nat.reduceEqDiff, and_false, and_true, and_self, reduceIte]; omega) | simp only [rF_sF, Nat.reduceEqDiff, and_false, and_true, and_self, reduceIte])) | (exact CCp.mk (by assumption) (by first | omega | (simp only [rF_sF, Nat.reduceEqDiff, and_false, and_true, and_self, reduceIte]; omega))) | done))
set_option maxHeartbeats 20000000 in
theorem vX14_readBody_298 (σ : rS) (gg : Nat) (U : Int) (g : Nat → Int → Int) (hwf : rWF σ) (hp : pre_X14_readBody σ gg U g) : VC_X14_readBody_298 σ gg U g (post_X14_readBody σ gg U g) := by
  unfold pre_X14_readBody at hp
  obtain ⟨hp_1, hp_2, hp_3, hp_4, hp_5, hp_6, hp_7, hp_8⟩ := hp
  subst hp_1
  have hF := hp_3
  unfold FPZ at hF
  have zr0 := fz_rng σ
  unfold VC_X14_readBody_298
  intro s298 y298_2 y298_3 Ws298 hy298_2 hy298_3 e298_0 e298_1 e298_2 e298_3 e298_4 e298_5 e298_6 I298
  have Ks298 : rR s298 7 = rR σ 7 := by omega
  have Fs298 : rR s298 15 = rR σ 15 := by omega
  unfold inv_X14_readBody_298 at I298
  obtain ⟨I298_1, I298_2, I298_3, I298_4, I298_5, I298_6, I298_7, I298_8, I298_9, I298_10, I298_11, I298_12, I298_13, I298_14, I298_15, I298_16, I298_17, I298_18, I298_19, I298_20, I298_21, I298_22, I298_23, I298_24, I298_25, I298_26⟩ := I298
  (try simp only [Ks298, Fs298, FPZ, FQZ] at I298_1 I298_2 I298_3 I298_4 I298_5 I298_6 I298_7 I298_8 I298_9 I298_10 I298_11 I298_12 I298_13 I298_14 I298_15 I298_16 I298_17 I298_18 I298_19 I298_20 I298_21 I298_22 I298_23 I298_24 I298_25 I298_26)
  have zr298 := fz_rng s298
  obtain ⟨g298, X298⟩ := I298_26
  have G298 : Im (fz s298 = 0) _ := fun hf => (X298 hf).1
  have KA298 : Im (fz s298 = 0) _ := fun hf => (X298 hf).2.1
  refine ⟨fun c300 => ?_, fun c300 => ?_⟩
  · refine ⟨g298, ?_⟩
    refine ⟨(by (try simp only [pre_X14_wholeText, Ks298, Fs298]); (all_goals (repeat' (first | with_reducible intro _ | with_reducible apply And.intro | with_reducible refine Exists.intro g298 ?_ | with_reducible refine Im.and ?_ ?_))); all_goals (first | assumption | trivial | ((with_reducible refine Im.i fun hf_ => ?_); first | exact (I298_25 hf_) | exact (G298 hf_) | exact (KA298 hf_) | exact ok1.i | (exact LI.z (fun h => absurd h (by decide))) | (exact absurd hf_ (by omega)) | omega) | (unfold FPZ; (try simp only [Ks298, Fs298]); omega) | (unfold FQZ; (try simp only [Ks298, Fs298]); omega) | omega | (have zz_ := fz_z (by assumption); omega) | (split <;> omega) | (exact TPqp.z (by first | omega | (simp only [rF_sF, Nat.reduceEqDiff, and_false, and_true, and_self, reduceIte]; omega) | simp only [rF_sF, Nat.reduceEqDiff, and_false, and_true, and_self, reduceIte])) | (exact CCp.mk (by assumption) (by first | omega | (simp only [rF_sF, Nat.reduceEqDiff, and_false, and_true, and_self, reduceIte]; omega))) | done)), ?_⟩
    intro v321 s321 hv321 Ws321 e321_0 e321_1 e321_2 e321_3 e321_4 e321_5 e321_6 e321_7 e321_8 e321_9 e321_10 e321_11 e321_12 e321_13 e321_14 q321
    unfold rng at hv321
    unfold post_X14_wholeText at q321
    obtain ⟨q321_1, q321_2, q321_3, q321_4, q321_5, q321_6, q321_7, q321_8, q321_9, q321_10, q321_11, q321_12, q321_13, q321_14, q321_15, q321_16, q321_17, q321_18, q321_19⟩ := q321
    (try simp only [Ks298, Fs298, FPZ, FQZ] at q321_1 q321_2 q321_3 q321_4 q321_5 q321_6 q321_7 q321_8 q321_9 q321_10 q321_11 q321_12 q321_13 q321_14 q321_15 q321_16 q321_17 q321_18 q321_19 e321_0 e321_1 e321_2 e321_3 e321_4 e321_5 e321_6 e321_7 e321_8 e321_9 e321_10 e321_11 e321_12 e321_13 e321_14)
    have Ks321 : rR s321 7 = rR σ 7 := by first | assumption | ((try simp only [rR_sF, rR_sA, rR_sT, rR_sL] at e321_0 e321_1 e321_2 e321_3 e321_4 e321_5 e321_6 e321_7 e321_8 e321_9 e321_10 e321_11 e321_12 e321_13 e321_14); omega)
    have Fs321 : rR s321 15 = rR σ 15 := by first | assumption | ((try simp only [rR_sF, rR_sA, rR_sT, rR_sL] at e321_0 e321_1 e321_2 e321_3 e321_4 e321_5 e321_6 e321_7 e321_8 e321_9 e321_10 e321_11 e321_12 e321_13 e321_14); omega)
    have zr321 := fz_rng s321
    have zc321 : fz s321 = 0 → fz s298 = 0 := fun hf => by omega
    have A321 : Im (fz s321 = 0) (RG (RT σ) s321 (rR σ 7) 0) := fun hf => RG.tt (q321_18 (by omega)) (I298_25 (zc321 hf))
    obtain ⟨g321, X321⟩ := q321_19
    have Ku29 : Im (fz s321 = 0) (GK g g321 (rF σ (rR σ 7) 7) (rF s321 (rR σ 7) 7) 0) := fun hf => GK.trans (KA298 (zc321 hf)) ((X321 hf).2.1) (Or.inr (Or.inl rfl))
    have Gu30 : Im (fz s321 = 0) (GS s321 (rR σ 7) g321) := fun hf => (X321 hf).1
    have r321 : Im (fz s321 = 0) _ := fun hf => (X321 hf).2.2.1
    clear e321_0
    exact (by (try simp only [post_X14_readBody, Ks321, Fs321]); (all_goals (repeat' (first | with_reducible intro _ | with_reducible apply And.intro | with_reducible refine Exists.intro g321 ?_ | with_reducible refine Im.and ?_ ?_))); all_goals (first | assumption | trivial | ((with_reducible refine Im.i fun hf_ => ?_); first | exact (A321 hf_) | exact (Gu30 hf_) | exact (Ku29 hf_) | exact (r321 hf_).cst | exact ok1.i | (exact LI.z (fun h => absurd h (by decide))) | (exact absurd hf_ (by omega)) | omega) | (unfold FPZ; (try simp only [Ks321, Fs321]); omega) | (unfold FQZ; (try simp only [Ks321, Fs321]); omega) | omega | (have zz_ := fz_z (by assumption); omega) | (split <;> omega) | (exact TPqp.z (by first | omega | (simp only [rF_sF, Nat.reduceEqDiff, and_false, and_true, and_self, reduceIte]; omega) | simp only [rF_sF, Nat.reduceEqDiff, and_false, and_true, and_self, reduceIte])) | (exact CCp.mk (by assumption) (by first | omega | (simp only [rF_sF, Nat.reduceEqDiff, and_false, and_true, and_self, reduceIte]; omega))) | done))
  · refine ⟨(by (try simp only [Ks298, Fs298]); (all_goals (repeat' (first | with_reducible intro _ | with_reducible apply And.intro | with_reducible refine Exists.intro g298 ?_ | with_reducible refine Im.and ?_ ?_))); all_goals (first | assumption | trivial | ((with_reducible refine Im.i fun hf_ => ?_); first | exact (I298_25 hf_) | exact (G298 hf_) | exact (KA298 hf_) | exact ok1.i | (exact LI.z (fun h => absurd h (by decide))) | (exact absurd hf_ (by omega)) | omega) | (unfold FPZ; (try simp only [Ks298, Fs298]); omega) | (unfold FQZ; (try simp only [Ks298, Fs298]); omega) | omega | (have zz_ := fz_z (by assumption); omega) | (split <;> omega) | (exact TPqp.z (by first | omega | (simp only [rF_sF, Nat.reduceEqDiff, and_false, and_true, and_self, reduceIte]; omega) | simp only [rF_sF, Nat.reduceEqDiff, and_false, and_true, and_self, reduceIte])) | (exact CCp.mk (by assumption) (by first | omega | (simp only [rF_sF, Nat.reduceEqDiff, and_false, and_true, and_self, reduceIte]; omega))) | done)), ?_⟩
    refine ⟨(by (try simp only [Ks298, Fs298]); (all_goals (repeat' (first | with_reducible intro _ | with_reducible apply And.intro | with_reducible refine Exists.intro g298 ?_ | with_reducible refine Im.and ?_ ?_))); all_goals (first | assumption | trivial | ((with_reducible refine Im.i fun hf_ => ?_); first | exact (I298_25 hf_) | exact (G298 hf_) | exact (KA298 hf_) | exact ok1.i | (exact LI.z (fun h => absurd h (by decide))) | (exact absurd hf_ (by omega)) | omega) | (unfold FPZ; (try simp only [Ks298, Fs298]); omega) | (unfold FQZ; (try simp only [Ks298, Fs298]); omega) | omega | (have zz_ := fz_z (by assumption); omega) | (split <;> omega) | (exact TPqp.z (by first | omega | (simp only [rF_sF, Nat.reduceEqDiff, and_false, and_true, and_self, reduceIte]; omega) | simp only [rF_sF, Nat.reduceEqDiff, and_false, and_true, and_self, reduceIte])) | (exact CCp.mk (by assumption) (by first | omega | (simp only [rF_sF, Nat.reduceEqDiff, and_false, and_true, and_self, reduceIte]; omega))) | done)), ?_⟩
    intro hr_; unfold rng at hr_
    refine ⟨(by (try simp only [pre_X14_addByte_f, Ks298, Fs298]); (all_goals (repeat' (first | with_reducible intro _ | with_reducible apply And.intro | with_reducible refine Exists.intro g298 ?_ | with_reducible refine Im.and ?_ ?_))); all_goals (first | assumption | trivial | ((with_reducible refine Im.i fun hf_ => ?_); first | exact (I298_25 hf_) | exact (G298 hf_) | exact (KA298 hf_) | exact ok1.i | (exact LI.z (fun h => absurd h (by decide))) | (exact absurd hf_ (by omega)) | omega) | (unfold FPZ; (try simp only [Ks298, Fs298]); omega) | (unfold FQZ; (try simp only [Ks298, Fs298]); omega) | omega | (have zz_ := fz_z (by assumption); omega) | (split <;> omega) | (exact TPqp.z (by first | omega | (simp only [rF_sF, Nat.reduceEqDiff, and_false, and_true, and_self, reduceIte]; omega) | simp only [rF_sF, Nat.reduceEqDiff, and_false, and_true, and_self, reduceIte])) | (exact CCp.mk (by assumption) (by first | omega | (simp only [rF_sF, Nat.reduceEqDiff, and_false, and_true, and_self, reduceIte]; omega))) | done)), ?_⟩
    intro s311 Ws311 e311_0 e311_1 e311_2 e311_3 e311_4 e311_5 e311_6 e311_7 e311_8 e311_9 e311_10 e311_11 e311_12 e311_13 e311_14 e311_15 e311_16 e311_17 e311_18 e311_19 e311_20 e311_21 e311_22 e311_23 e311_24 e311_25 e311_26 e311_27 e311_28 e311_29 R311 q311
    unfold post_X14_addByte_f at q311
    obtain ⟨q311_1, q311_2⟩ := q311
    (try simp only [Ks298, Fs298, FPZ, FQZ] at q311_1 q311_2 e311_0 e311_1 e311_2 e311_3 e311_4 e311_5 e311_6 e311_7 e311_8 e311_9 e311_10 e311_11 e311_12 e311_13 e311_14 e311_15 e311_16 e311_17 e311_18 e311_19 e311_20 e311_21 e311_22 e311_23 e311_24 e311_25 e311_26 e311_27 e311_28 e311_29 R311)
    have Ks311 : rR s311 7 = rR σ 7 := by first | assumption | ((try simp only [rR_sF, rR_sA, rR_sT, rR_sL] at e311_0 e311_1 e311_2 e311_3 e311_4 e311_5 e311_6 e311_7 e311_8 e311_9 e311_10 e311_11 e311_12 e311_13 e311_14 e311_15 e311_16 e311_17 e311_18 e311_19 e311_20 e311_21 e311_22 e311_23 e311_24 e311_25 e311_26 e311_27 e311_28 e311_29 R311); omega)
    have Fs311 : rR s311 15 = rR σ 15 := by first | assumption | ((try simp only [rR_sF, rR_sA, rR_sT, rR_sL] at e311_0 e311_1 e311_2 e311_3 e311_4 e311_5 e311_6 e311_7 e311_8 e311_9 e311_10 e311_11 e311_12 e311_13 e311_14 e311_15 e311_16 e311_17 e311_18 e311_19 e311_20 e311_21 e311_22 e311_23 e311_24 e311_25 e311_26 e311_27 e311_28 e311_29 R311); omega)
    have zr311 := fz_rng s311
    have zc311 : fz s311 = 0 → fz s298 = 0 := fun hf => by omega
    have A311 : Im (fz s311 = 0) (RG (RT σ) s311 (rR σ 7) 0) := fun hf => RG.trk hp_2 (I298_25 (zc311 hf)) R311 (Or.inr (Or.inl rfl))
    have Ku31 : Im (fz s311 = 0) (GK g g298 (rF σ (rR σ 7) 7) (rF s311 (rR σ 7) 7) 0) := fun hf => GK.trans (KA298 (zc311 hf)) (GK.up (N := rF s298 (rR σ 7) 7) (N' := rF s311 (rR σ 7) 7) (c := 0) (by first | assumption | omega | (simp only [rF_sT, rF_sA]; omega))) (Or.inr (Or.inl rfl))
    have Gu32 : Im (fz s311 = 0) (GS s311 (rR σ 7) g298) := fun hf => GS.mv hp_2 (G298 (zc311 hf)) R311 (by first | assumption | omega | (simp only [rF_sT, rF_sA]; omega)) (by first | (exact Int.le_of_eq (Eq.symm (by assumption))) | omega | (simp only [rF_sT, rF_sA]; omega))
    have rNMp_311 := e311_0 I298_10; clear e311_0
    have PNp_311 := e311_1 I298_11; clear e311_1
    refine ⟨(by (try simp only [rng, Ks311, Fs311]); (all_goals (repeat' (first | with_reducible intro _ | with_reducible apply And.intro | with_reducible refine Exists.intro g298 ?_ | with_reducible refine Im.and ?_ ?_))); all_goals (first | assumption | trivial | ((with_reducible refine Im.i fun hf_ => ?_); first | exact (A311 hf_) | exact (Gu32 hf_) | exact (Ku31 hf_) | exact ok1.i | (exact LI.z (fun h => absurd h (by decide))) | (exact absurd hf_ (by omega)) | omega) | (unfold FPZ; (try simp only [Ks311, Fs311]); omega) | (unfold FQZ; (try simp only [Ks311, Fs311]); omega) | omega | (have zz_ := fz_z (by assumption); omega) | (split <;> omega) | (exact TPqp.z (by first | omega | (simp only [rF_sF, Nat.reduceEqDiff, and_false, and_true, and_self, reduceIte]; omega) | simp only [rF_sF, Nat.reduceEqDiff, and_false, and_true, and_self, reduceIte])) | (exact CCp.mk (by assumption) (by first | omega | (simp only [rF_sF, Nat.reduceEqDiff, and_false, and_true, and_self, reduceIte]; omega))) | done)), ?_⟩
    exact (by (try simp only [inv_X14_readBody_298, mu_X14_readBody_298, mu_X14_readBody_298, Ks311, Fs311]); (all_goals (repeat' (first | with_reducible intro _ | with_reducible apply And.intro | with_reducible refine Exists.intro g298 ?_ | with_reducible refine Im.and ?_ ?_))); all_goals (first | assumption | trivial | ((with_reducible refine Im.i fun hf_ => ?_); first | exact (A311 hf_) | exact (Gu32 hf_) | exact (Ku31 hf_) | exact ok1.i | (exact LI.z (fun h => absurd h (by decide))) | (exact absurd hf_ (by omega)) | omega) | (unfold FPZ; (try simp only [Ks311, Fs311]); omega) | (unfold FQZ; (try simp only [Ks311, Fs311]); omega) | omega | (have zz_ := fz_z (by assumption); omega) | (split <;> omega) | (exact TPqp.z (by first | omega | (simp only [rF_sF, Nat.reduceEqDiff, and_false, and_true, and_self, reduceIte]; omega) | simp only [rF_sF, Nat.reduceEqDiff, and_false, and_true, and_self, reduceIte])) | (exact CCp.mk (by assumption) (by first | omega | (simp only [rF_sF, Nat.reduceEqDiff, and_false, and_true, and_self, reduceIte]; omega))) | done))
set_option maxHeartbeats 20000000 in
theorem vX14_readBody_298m (σ : rS) (gg : Nat) (U : Int) (g : Nat → Int → Int) (hwf : rWF σ) (hp : pre_X14_readBody σ gg U g) : VC_X14_readBody_298m σ gg U g := by
  unfold pre_X14_readBody at hp
  obtain ⟨hp_1, hp_2, hp_3, hp_4, hp_5, hp_6, hp_7, hp_8⟩ := hp
  subst hp_1
  have hF := hp_3
  unfold FPZ at hF
  have zr0 := fz_rng σ
  unfold VC_X14_readBody_298m
  (try simp only [inv_X14_readBody_298, mu_X14_readBody_298]); (all_goals (repeat' (first | with_reducible intro _ | with_reducible apply And.intro))); all_goals (first | assumption | omega | grind (splits := 20))
set_option maxHeartbeats 20000000 in
theorem vX14_readBody_268 (σ : rS) (gg : Nat) (U : Int) (g : Nat → Int → Int) (hwf : rWF σ) (hp : pre_X14_readBody σ gg U g) : VC_X14_readBody_268 σ gg U g (post_X14_readBody σ gg U g) := by
  unfold pre_X14_readBody at hp
  obtain ⟨hp_1, hp_2, hp_3, hp_4, hp_5, hp_6, hp_7, hp_8⟩ := hp
  subst hp_1
  have hF := hp_3
  unfold FPZ at hF
  have zr0 := fz_rng σ
  unfold VC_X14_readBody_268
  intro s268 y268_1 y268_2 Ws268 hy268_1 hy268_2 e268_0 e268_1 e268_2 e268_3 e268_4 e268_5 e268_6 I268
  have Ks268 : rR s268 7 = rR σ 7 := by omega
  have Fs268 : rR s268 15 = rR σ 15 := by omega
  unfold inv_X14_readBody_268 at I268
  obtain ⟨I268_1, I268_2, I268_3, I268_4, I268_5, I268_6, I268_7, I268_8, I268_9, I268_10, I268_11, I268_12, I268_13, I268_14, I268_15, I268_16, I268_17, I268_18, I268_19, I268_20, I268_21⟩ := I268
  (try simp only [Ks268, Fs268, FPZ, FQZ] at I268_1 I268_2 I268_3 I268_4 I268_5 I268_6 I268_7 I268_8 I268_9 I268_10 I268_11 I268_12 I268_13 I268_14 I268_15 I268_16 I268_17 I268_18 I268_19 I268_20 I268_21)
  have zr268 := fz_rng s268
  obtain ⟨g268, X268⟩ := I268_21
  have G268 : Im (fz s268 = 0) _ := fun hf => (X268 hf).1
  have KA268 : Im (fz s268 = 0) _ := fun hf => (X268 hf).2.1
  exact (by (try simp only [inv_X14_readBody_298, Ks268, Fs268]); (all_goals (repeat' (first | with_reducible intro _ | with_reducible apply And.intro | with_reducible refine Exists.intro g268 ?_ | with_reducible refine Im.and ?_ ?_))); all_goals (first | assumption | trivial | ((with_reducible refine Im.i fun hf_ => ?_); first | exact (I268_20 hf_) | exact (G268 hf_) | exact (KA268 hf_) | exact ok1.i | (exact LI.z (fun h => absurd h (by decide))) | (exact absurd hf_ (by omega)) | omega) | (unfold FPZ; (try simp only [Ks268, Fs268]); omega) | (unfold FQZ; (try simp only [Ks268, Fs268]); omega) | omega | (have zz_ := fz_z (by assumption); omega) | (split <;> omega) | (exact TPqp.z (by first | omega | (simp only [rF_sF, Nat.reduceEqDiff, and_false, and_true, and_self, reduceIte]; omega) | simp only [rF_sF, Nat.reduceEqDiff, and_false, and_true, and_self, reduceIte])) | (exact CCp.mk (by assumption) (by first | omega | (simp only [rF_sF, Nat.reduceEqDiff, and_false, and_true, and_self, reduceIte]; omega))) | done))
set_option maxHeartbeats 20000000 in
theorem vX14_readBody_247 (σ : rS) (gg : Nat) (U : Int) (g : Nat → Int → Int) (hwf : rWF σ) (hp : pre_X14_readBody σ gg U g) : VC_X14_readBody_247 σ gg U g (post_X14_readBody σ gg U g) := by
  unfold pre_X14_readBody at hp
  obtain ⟨hp_1, hp_2, hp_3, hp_4, hp_5, hp_6, hp_7, hp_8⟩ := hp
  subst hp_1
  have hF := hp_3
  unfold FPZ at hF
  have zr0 := fz_rng σ
  unfold VC_X14_readBody_247
  intro s247 y247_1 y247_2 Ws247 hy247_1 hy247_2 e247_0 e247_1 e247_2 e247_3 e247_4 e247_5 e247_6 I247
  have Ks247 : rR s247 7 = rR σ 7 := by omega
  have Fs247 : rR s247 15 = rR σ 15 := by omega
  unfold inv_X14_readBody_247 at I247
  obtain ⟨I247_1, I247_2, I247_3, I247_4, I247_5, I247_6, I247_7, I247_8, I247_9, I247_10, I247_11, I247_12, I247_13, I247_14, I247_15, I247_16, I247_17, I247_18, I247_19, I247_20, I247_21⟩ := I247
  (try simp only [Ks247, Fs247, FPZ, FQZ] at I247_1 I247_2 I247_3 I247_4 I247_5 I247_6 I247_7 I247_8 I247_9 I247_10 I247_11 I247_12 I247_13 I247_14 I247_15 I247_16 I247_17 I247_18 I247_19 I247_20 I247_21)
  have zr247 := fz_rng s247
  obtain ⟨g247, X247⟩ := I247_21
  have G247 : Im (fz s247 = 0) _ := fun hf => (X247 hf).1
  have KA247 : Im (fz s247 = 0) _ := fun hf => (X247 hf).2.1
  refine ⟨fun c249 => ?_, fun c249 => ?_⟩
  · exact (by (try simp only [inv_X14_readBody_268, Ks247, Fs247]); (all_goals (repeat' (first | with_reducible intro _ | with_reducible apply And.intro | with_reducible refine Exists.intro g247 ?_ | with_reducible refine Im.and ?_ ?_))); all_goals (first | assumption | trivial | ((with_reducible refine Im.i fun hf_ => ?_); first | exact (I247_20 hf_) | exact (G247 hf_) | exact (KA247 hf_) | exact ok1.i | (exact LI.z (fun h => absurd h (by decide))) | (exact absurd hf_ (by omega)) | omega) | (unfold FPZ; (try simp only [Ks247, Fs247]); omega) | (unfold FQZ; (try simp only [Ks247, Fs247]); omega) | omega | (have zz_ := fz_z (by assumption); omega) | (split <;> omega) | (exact TPqp.z (by first | omega | (simp only [rF_sF, Nat.reduceEqDiff, and_false, and_true, and_self, reduceIte]; omega) | simp only [rF_sF, Nat.reduceEqDiff, and_false, and_true, and_self, reduceIte])) | (exact CCp.mk (by assumption) (by first | omega | (simp only [rF_sF, Nat.reduceEqDiff, and_false, and_true, and_self, reduceIte]; omega))) | done))
  · refine ⟨(by (try simp only [Ks247, Fs247]); (all_goals (repeat' (first | with_reducible intro _ | with_reducible apply And.intro | with_reducible refine Exists.intro g247 ?_ | with_reducible refine Im.and ?_ ?_))); all_goals (first | assumption | trivial | ((with_reducible refine Im.i fun hf_ => ?_); first | exact (I247_20 hf_) | exact (G247 hf_) | exact (KA247 hf_) | exact ok1.i | (exact LI.z (fun h => absurd h (by decide))) | (exact absurd hf_ (by omega)) | omega) | (unfold FPZ; (try simp only [Ks247, Fs247]); omega) | (unfold FQZ; (try simp only [Ks247, Fs247]); omega) | omega | (have zz_ := fz_z (by assumption); omega) | (split <;> omega) | (exact TPqp.z (by first | omega | (simp only [rF_sF, Nat.reduceEqDiff, and_false, and_true, and_self, reduceIte]; omega) | simp only [rF_sF, Nat.reduceEqDiff, and_false, and_true, and_self, reduceIte])) | (exact CCp.mk (by assumption) (by first | omega | (simp only [rF_sF, Nat.reduceEqDiff, and_false, and_true, and_self, reduceIte]; omega))) | done)), ?_⟩
    refine ⟨(by (try simp only [Ks247, Fs247]); (all_goals (repeat' (first | with_reducible intro _ | with_reducible apply And.intro | with_reducible refine Exists.intro g247 ?_ | with_reducible refine Im.and ?_ ?_))); all_goals (first | assumption | trivial | ((with_reducible refine Im.i fun hf_ => ?_); first | exact (I247_20 hf_) | exact (G247 hf_) | exact (KA247 hf_) | exact ok1.i | (exact LI.z (fun h => absurd h (by decide))) | (exact absurd hf_ (by omega)) | omega) | (unfold FPZ; (try simp only [Ks247, Fs247]); omega) | (unfold FQZ; (try simp only [Ks247, Fs247]); omega) | omega | (have zz_ := fz_z (by assumption); omega) | (split <;> omega) | (exact TPqp.z (by first | omega | (simp only [rF_sF, Nat.reduceEqDiff, and_false, and_true, and_self, reduceIte]; omega) | simp only [rF_sF, Nat.reduceEqDiff, and_false, and_true, and_self, reduceIte])) | (exact CCp.mk (by assumption) (by first | omega | (simp only [rF_sF, Nat.reduceEqDiff, and_false, and_true, and_self, reduceIte]; omega))) | done)), ?_⟩
    intro hr_; unfold rng at hr_
    refine ⟨fun c262 => ?_, fun c262 => ?_⟩
    · exact (by (try simp only [inv_X14_readBody_268, Ks247, Fs247]); (all_goals (repeat' (first | with_reducible intro _ | with_reducible apply And.intro | with_reducible refine Exists.intro g247 ?_ | with_reducible refine Im.and ?_ ?_))); all_goals (first | assumption | trivial | ((with_reducible refine Im.i fun hf_ => ?_); first | exact (I247_20 hf_) | exact (G247 hf_) | exact (KA247 hf_) | exact ok1.i | (exact LI.z (fun h => absurd h (by decide))) | (exact absurd hf_ (by omega)) | omega) | (unfold FPZ; (try simp only [Ks247, Fs247]); omega) | (unfold FQZ; (try simp only [Ks247, Fs247]); omega) | omega | (have zz_ := fz_z (by assumption); omega) | (split <;> omega) | (exact TPqp.z (by first | omega | (simp only [rF_sF, Nat.reduceEqDiff, and_false, and_true, and_self, reduceIte]; omega) | simp only [rF_sF, Nat.reduceEqDiff, and_false, and_true, and_self, reduceIte])) | (exact CCp.mk (by assumption) (by first | omega | (simp only [rF_sF, Nat.reduceEqDiff, and_false, and_true, and_self, reduceIte]; omega))) | done))
    · refine ⟨(by (try simp only [rng, Ks247, Fs247]); (all_goals (repeat' (first | with_reducible intro _ | with_reducible apply And.intro | with_reducible refine Exists.intro g247 ?_ | with_reducible refine Im.and ?_ ?_))); all_goals (first | assumption | trivial | ((with_reducible refine Im.i fun hf_ => ?_); first | exact (I247_20 hf_) | exact (G247 hf_) | exact (KA247 hf_) | exact ok1.i | (exact LI.z (fun h => absurd h (by decide))) | (exact absurd hf_ (by omega)) | omega) | (unfold FPZ; (try simp only [Ks247, Fs247]); omega) | (unfold FQZ; (try simp only [Ks247, Fs247]); omega) | omega | (have zz_ := fz_z (by assumption); omega) | (split <;> omega) | (exact TPqp.z (by first | omega | (simp only [rF_sF, Nat.reduceEqDiff, and_false, and_true, and_self, reduceIte]; omega) | simp only [rF_sF, Nat.reduceEqDiff, and_false, and_true, and_self, reduceIte])) | (exact CCp.mk (by assumption) (by first | omega | (simp only [rF_sF, Nat.reduceEqDiff, and_false, and_true, and_self, reduceIte]; omega))) | done)), ?_⟩
      exact (by (try simp only [inv_X14_readBody_268, Ks247, Fs247]); (all_goals (repeat' (first | with_reducible intro _ | with_reducible apply And.intro | with_reducible refine Exists.intro g247 ?_ | with_reducible refine Im.and ?_ ?_))); all_goals (first | assumption | trivial | ((with_reducible refine Im.i fun hf_ => ?_); first | exact (I247_20 hf_) | exact (G247 hf_) | exact (KA247 hf_) | exact ok1.i | (exact LI.z (fun h => absurd h (by decide))) | (exact absurd hf_ (by omega)) | omega) | (unfold FPZ; (try simp only [Ks247, Fs247]); omega) | (unfold FQZ; (try simp only [Ks247, Fs247]); omega) | omega | (have zz_ := fz_z (by assumption); omega) | (split <;> omega) | (exact TPqp.z (by first | omega | (simp only [rF_sF, Nat.reduceEqDiff, and_false, and_true, and_self, reduceIte]; omega) | simp only [rF_sF, Nat.reduceEqDiff, and_false, and_true, and_self, reduceIte])) | (exact CCp.mk (by assumption) (by first | omega | (simp only [rF_sF, Nat.reduceEqDiff, and_false, and_true, and_self, reduceIte]; omega))) | done))
set_option maxHeartbeats 20000000 in
theorem vX14_readBody_188 (σ : rS) (gg : Nat) (U : Int) (g : Nat → Int → Int) (hwf : rWF σ) (hp : pre_X14_readBody σ gg U g) : VC_X14_readBody_188 σ gg U g (post_X14_readBody σ gg U g) := by
  unfold pre_X14_readBody at hp
  obtain ⟨hp_1, hp_2, hp_3, hp_4, hp_5, hp_6, hp_7, hp_8⟩ := hp
  subst hp_1
  have hF := hp_3
  unfold FPZ at hF
  have zr0 := fz_rng σ
  unfold VC_X14_readBody_188
  intro s188 y188_1 y188_2 y188_3 Ws188 hy188_1 hy188_2 hy188_3 e188_0 e188_1 e188_2 e188_3 e188_4 e188_5 e188_6 I188
  have Ks188 : rR s188 7 = rR σ 7 := by omega
  have Fs188 : rR s188 15 = rR σ 15 := by omega
  unfold inv_X14_readBody_188 at I188
  obtain ⟨I188_1, I188_2, I188_3, I188_4, I188_5, I188_6, I188_7, I188_8, I188_9, I188_10, I188_11, I188_12, I188_13, I188_14, I188_15, I188_16, I188_17, I188_18, I188_19, I188_20, I188_21⟩ := I188
  (try simp only [Ks188, Fs188, FPZ, FQZ] at I188_1 I188_2 I188_3 I188_4 I188_5 I188_6 I188_7 I188_8 I188_9 I188_10 I188_11 I188_12 I188_13 I188_14 I188_15 I188_16 I188_17 I188_18 I188_19 I188_20 I188_21)
  have zr188 := fz_rng s188
  obtain ⟨g188, X188⟩ := I188_21
  have G188 : Im (fz s188 = 0) _ := fun hf => (X188 hf).1
  have KA188 : Im (fz s188 = 0) _ := fun hf => (X188 hf).2.1
  intro hr_; unfold rng at hr_
  refine ⟨fun c193 => ?_, fun c193 => ?_⟩
  · refine ⟨(by (try simp only [rng, Ks188, Fs188]); (all_goals (repeat' (first | with_reducible intro _ | with_reducible apply And.intro | with_reducible refine Exists.intro g188 ?_ | with_reducible refine Im.and ?_ ?_))); all_goals (first | assumption | trivial | ((with_reducible refine Im.i fun hf_ => ?_); first | exact (I188_20 hf_) | exact (G188 hf_) | exact (KA188 hf_) | exact ok1.i | (exact LI.z (fun h => absurd h (by decide))) | (exact absurd hf_ (by omega)) | omega) | (unfold FPZ; (try simp only [Ks188, Fs188]); omega) | (unfold FQZ; (try simp only [Ks188, Fs188]); omega) | omega | (have zz_ := fz_z (by assumption); omega) | (split <;> omega) | (exact TPqp.z (by first | omega | (simp only [rF_sF, Nat.reduceEqDiff, and_false, and_true, and_self, reduceIte]; omega) | simp only [rF_sF, Nat.reduceEqDiff, and_false, and_true, and_self, reduceIte])) | (exact CCp.mk (by assumption) (by first | omega | (simp only [rF_sF, Nat.reduceEqDiff, and_false, and_true, and_self, reduceIte]; omega))) | done)), ?_⟩
    refine ⟨fun c220 => ?_, fun c220 => ?_⟩
    · refine ⟨(by (try simp only [pre_X14_packed_f, reduceIte, and_true, true_and, and_false, false_and, and_self, Nat.reduceEqDiff, fz_sF17, rF_sF, rA_sF, rR_sF, tr_sF, rNMp_sF, PNp_sF, GS_F17, OP_F17, NR_F17, LI_F17, RG_l17, RG_r17, TPRp_sF17, WNp_sF17, VMp_sF17, KYp_sF17, PPp_sF17, WFp_sF17, CCp_sF17, fz_sF30, GS_F30, OP_F30, NR_F30, LI_F30, RG_l30, RG_r30, WNp_sF30, VMp_sF30, KYp_sF30, PPp_sF30, WFp_sF30, rk_n0 hp_2, Ks188, Fs188]); (all_goals (repeat' (first | with_reducible intro _ | with_reducible apply And.intro | with_reducible refine Exists.intro g188 ?_ | with_reducible refine Im.and ?_ ?_))); all_goals (first | assumption | trivial | ((with_reducible refine Im.i fun hf_ => ?_); first | exact (I188_20 hf_) | exact (G188 hf_) | exact (KA188 hf_) | exact ok1.i | (exact LI.z (fun h => absurd h (by decide))) | (exact absurd hf_ (by omega)) | omega) | (unfold FPZ; (try simp only [reduceIte, and_true, true_and, and_false, false_and, and_self, Nat.reduceEqDiff, fz_sF17, rF_sF, rA_sF, rR_sF, tr_sF, rNMp_sF, PNp_sF, GS_F17, OP_F17, NR_F17, LI_F17, RG_l17, RG_r17, TPRp_sF17, WNp_sF17, VMp_sF17, KYp_sF17, PPp_sF17, WFp_sF17, CCp_sF17, fz_sF30, GS_F30, OP_F30, NR_F30, LI_F30, RG_l30, RG_r30, WNp_sF30, VMp_sF30, KYp_sF30, PPp_sF30, WFp_sF30, rk_n0 hp_2, Ks188, Fs188]); omega) | (unfold FQZ; (try simp only [reduceIte, and_true, true_and, and_false, false_and, and_self, Nat.reduceEqDiff, fz_sF17, rF_sF, rA_sF, rR_sF, tr_sF, rNMp_sF, PNp_sF, GS_F17, OP_F17, NR_F17, LI_F17, RG_l17, RG_r17, TPRp_sF17, WNp_sF17, VMp_sF17, KYp_sF17, PPp_sF17, WFp_sF17, CCp_sF17, fz_sF30, GS_F30, OP_F30, NR_F30, LI_F30, RG_l30, RG_r30, WNp_sF30, VMp_sF30, KYp_sF30, PPp_sF30, WFp_sF30, rk_n0 hp_2, Ks188, Fs188]); omega) | omega | (have zz_ := fz_z (by assumption); omega) | (split <;> omega) | (exact TPqp.z (by first | omega | (simp only [rF_sF, Nat.reduceEqDiff, and_false, and_true, and_self, reduceIte]; omega) | simp only [rF_sF, Nat.reduceEqDiff, and_false, and_true, and_self, reduceIte])) | (exact CCp.mk (by assumption) (by first | omega | (simp only [rF_sF, Nat.reduceEqDiff, and_false, and_true, and_self, reduceIte]; omega))) | done)), ?_⟩
      intro s274 Ws274 e274_0 e274_1 e274_2 e274_3 e274_4 e274_5 e274_6 e274_7 e274_8 e274_9 e274_10 e274_11 e274_12 e274_13 e274_14 e274_15 e274_16 e274_17 e274_18 e274_19 e274_20 e274_21 e274_22 e274_23 e274_24 e274_25 e274_26 e274_27 e274_28 e274_29 R274 q274
      unfold post_X14_packed_f at q274
      obtain ⟨q274_1, q274_2, q274_3⟩ := q274
      (try simp only [reduceIte, and_true, true_and, and_false, false_and, and_self, Nat.reduceEqDiff, fz_sF17, rF_sF, rA_sF, rR_sF, tr_sF, rNMp_sF, PNp_sF, GS_F17, OP_F17, NR_F17, LI_F17, RG_l17, RG_r17, TPRp_sF17, WNp_sF17, VMp_sF17, KYp_sF17, PPp_sF17, WFp_sF17, CCp_sF17, fz_sF30, GS_F30, OP_F30, NR_F30, LI_F30, RG_l30, RG_r30, WNp_sF30, VMp_sF30, KYp_sF30, PPp_sF30, WFp_sF30, rk_n0 hp_2, Ks188, Fs188, FPZ, FQZ] at q274_1 q274_2 q274_3 e274_0 e274_1 e274_2 e274_3 e274_4 e274_5 e274_6 e274_7 e274_8 e274_9 e274_10 e274_11 e274_12 e274_13 e274_14 e274_15 e274_16 e274_17 e274_18 e274_19 e274_20 e274_21 e274_22 e274_23 e274_24 e274_25 e274_26 e274_27 e274_28 e274_29 R274)
      have Ks274 : rR s274 7 = rR σ 7 := by first | assumption | ((try simp only [rR_sF, rR_sA, rR_sT, rR_sL] at e274_0 e274_1 e274_2 e274_3 e274_4 e274_5 e274_6 e274_7 e274_8 e274_9 e274_10 e274_11 e274_12 e274_13 e274_14 e274_15 e274_16 e274_17 e274_18 e274_19 e274_20 e274_21 e274_22 e274_23 e274_24 e274_25 e274_26 e274_27 e274_28 e274_29 R274); omega)
      have Fs274 : rR s274 15 = rR σ 15 := by first | assumption | ((try simp only [rR_sF, rR_sA, rR_sT, rR_sL] at e274_0 e274_1 e274_2 e274_3 e274_4 e274_5 e274_6 e274_7 e274_8 e274_9 e274_10 e274_11 e274_12 e274_13 e274_14 e274_15 e274_16 e274_17 e274_18 e274_19 e274_20 e274_21 e274_22 e274_23 e274_24 e274_25 e274_26 e274_27 e274_28 e274_29 R274); omega)
      have zr274 := fz_rng s274
      have zc274 : fz s274 = 0 → fz s188 = 0 := fun hf => by omega
      have A274 : Im (fz s274 = 0) (RG (RT σ) s274 (rR σ 7) 0) := fun hf => RG.trk hp_2 (I188_20 (zc274 hf)) R274 (Or.inr (Or.inl rfl))
      have Ku15 : Im (fz s274 = 0) (GK g g188 (rF σ (rR σ 7) 7) (rF s274 (rR σ 7) 7) 0) := fun hf => GK.trans (KA188 (zc274 hf)) (GK.up (N := rF s188 (rR σ 7) 7) (N' := rF s274 (rR σ 7) 7) (c := 0) (by first | assumption | omega | (simp only [rF_sT, rF_sA]; omega))) (Or.inr (Or.inl rfl))
      have Gu16 : Im (fz s274 = 0) (GS s274 (rR σ 7) g188) := fun hf => GS.mv hp_2 (G188 (zc274 hf)) R274 (by first | assumption | omega | (simp only [rF_sT, rF_sA]; omega)) (by first | (exact Int.le_of_eq (Eq.symm (by assumption))) | omega | (simp only [rF_sT, rF_sA]; omega))
      have rNMp_274 := e274_0 I188_10; clear e274_0
      have PNp_274 := e274_1 I188_11; clear e274_1
      refine ⟨g188, ?_⟩
      refine ⟨(by (try simp only [pre_X14_wholeText, Ks274, Fs274]); (all_goals (repeat' (first | with_reducible intro _ | with_reducible apply And.intro | with_reducible refine Exists.intro g188 ?_ | with_reducible refine Im.and ?_ ?_))); all_goals (first | assumption | trivial | ((with_reducible refine Im.i fun hf_ => ?_); first | exact (A274 hf_) | exact (Gu16 hf_) | exact (Ku15 hf_) | exact ok1.i | (exact LI.z (fun h => absurd h (by decide))) | (exact absurd hf_ (by omega)) | omega) | (unfold FPZ; (try simp only [Ks274, Fs274]); omega) | (unfold FQZ; (try simp only [Ks274, Fs274]); omega) | omega | (have zz_ := fz_z (by assumption); omega) | (split <;> omega) | (exact TPqp.z (by first | omega | (simp only [rF_sF, Nat.reduceEqDiff, and_false, and_true, and_self, reduceIte]; omega) | simp only [rF_sF, Nat.reduceEqDiff, and_false, and_true, and_self, reduceIte])) | (exact CCp.mk (by assumption) (by first | omega | (simp only [rF_sF, Nat.reduceEqDiff, and_false, and_true, and_self, reduceIte]; omega))) | done)), ?_⟩
      intro v278 s278 hv278 Ws278 e278_0 e278_1 e278_2 e278_3 e278_4 e278_5 e278_6 e278_7 e278_8 e278_9 e278_10 e278_11 e278_12 e278_13 e278_14 q278
      unfold rng at hv278
      unfold post_X14_wholeText at q278
      obtain ⟨q278_1, q278_2, q278_3, q278_4, q278_5, q278_6, q278_7, q278_8, q278_9, q278_10, q278_11, q278_12, q278_13, q278_14, q278_15, q278_16, q278_17, q278_18, q278_19⟩ := q278
      (try simp only [Ks274, Fs274, FPZ, FQZ] at q278_1 q278_2 q278_3 q278_4 q278_5 q278_6 q278_7 q278_8 q278_9 q278_10 q278_11 q278_12 q278_13 q278_14 q278_15 q278_16 q278_17 q278_18 q278_19 e278_0 e278_1 e278_2 e278_3 e278_4 e278_5 e278_6 e278_7 e278_8 e278_9 e278_10 e278_11 e278_12 e278_13 e278_14)
      have Ks278 : rR s278 7 = rR σ 7 := by first | assumption | ((try simp only [rR_sF, rR_sA, rR_sT, rR_sL] at e278_0 e278_1 e278_2 e278_3 e278_4 e278_5 e278_6 e278_7 e278_8 e278_9 e278_10 e278_11 e278_12 e278_13 e278_14); omega)
      have Fs278 : rR s278 15 = rR σ 15 := by first | assumption | ((try simp only [rR_sF, rR_sA, rR_sT, rR_sL] at e278_0 e278_1 e278_2 e278_3 e278_4 e278_5 e278_6 e278_7 e278_8 e278_9 e278_10 e278_11 e278_12 e278_13 e278_14); omega)
      have zr278 := fz_rng s278
      have zc278 : fz s278 = 0 → fz s274 = 0 := fun hf => by omega
      have A278 : Im (fz s278 = 0) (RG (RT σ) s278 (rR σ 7) 0) := fun hf => RG.tt (q278_18 (by omega)) (A274 (zc278 hf))
      obtain ⟨g278, X278⟩ := q278_19
      have Ku17 : Im (fz s278 = 0) (GK g g278 (rF σ (rR σ 7) 7) (rF s278 (rR σ 7) 7) 0) := fun hf => GK.trans (Ku15 (zc278 hf)) ((X278 hf).2.1) (Or.inr (Or.inl rfl))
      have Gu18 : Im (fz s278 = 0) (GS s278 (rR σ 7) g278) := fun hf => (X278 hf).1
      have r278 : Im (fz s278 = 0) _ := fun hf => (X278 hf).2.2.1
      clear e278_0
      exact (by (try simp only [post_X14_readBody, Ks278, Fs278]); (all_goals (repeat' (first | with_reducible intro _ | with_reducible apply And.intro | with_reducible refine Exists.intro g278 ?_ | with_reducible refine Im.and ?_ ?_))); all_goals (first | assumption | trivial | ((with_reducible refine Im.i fun hf_ => ?_); first | exact (A278 hf_) | exact (Gu18 hf_) | exact (Ku17 hf_) | exact (r278 hf_).cst | exact ok1.i | (exact LI.z (fun h => absurd h (by decide))) | (exact absurd hf_ (by omega)) | omega) | (unfold FPZ; (try simp only [Ks278, Fs278]); omega) | (unfold FQZ; (try simp only [Ks278, Fs278]); omega) | omega | (have zz_ := fz_z (by assumption); omega) | (split <;> omega) | (exact TPqp.z (by first | omega | (simp only [rF_sF, Nat.reduceEqDiff, and_false, and_true, and_self, reduceIte]; omega) | simp only [rF_sF, Nat.reduceEqDiff, and_false, and_true, and_self, reduceIte])) | (exact CCp.mk (by assumption) (by first | omega | (simp only [rF_sF, Nat.reduceEqDiff, and_false, and_true, and_self, reduceIte]; omega))) | done))
    · refine ⟨(by (try simp only [rng, reduceIte, and_true, true_and, and_false, false_and, and_self, Nat.reduceEqDiff, fz_sF17, rF_sF, rA_sF, rR_sF, tr_sF, rNMp_sF, PNp_sF, GS_F17, OP_F17, NR_F17, LI_F17, RG_l17, RG_r17, TPRp_sF17, WNp_sF17, VMp_sF17, KYp_sF17, PPp_sF17, WFp_sF17, CCp_sF17, fz_sF30, GS_F30, OP_F30, NR_F30, LI_F30, RG_l30, RG_r30, WNp_sF30, VMp_sF30, KYp_sF30, PPp_sF30, WFp_sF30, rk_n0 hp_2, Ks188, Fs188]); (all_goals (repeat' (first | with_reducible intro _ | with_reducible apply And.intro | with_reducible refine Exists.intro g188 ?_ | with_reducible refine Im.and ?_ ?_))); all_goals (first | assumption | trivial | ((with_reducible refine Im.i fun hf_ => ?_); first | exact (I188_20 hf_) | exact (G188 hf_) | exact (KA188 hf_) | exact ok1.i | (exact LI.z (fun h => absurd h (by decide))) | (exact absurd hf_ (by omega)) | omega) | (unfold FPZ; (try simp only [reduceIte, and_true, true_and, and_false, false_and, and_self, Nat.reduceEqDiff, fz_sF17, rF_sF, rA_sF, rR_sF, tr_sF, rNMp_sF, PNp_sF, GS_F17, OP_F17, NR_F17, LI_F17, RG_l17, RG_r17, TPRp_sF17, WNp_sF17, VMp_sF17, KYp_sF17, PPp_sF17, WFp_sF17, CCp_sF17, fz_sF30, GS_F30, OP_F30, NR_F30, LI_F30, RG_l30, RG_r30, WNp_sF30, VMp_sF30, KYp_sF30, PPp_sF30, WFp_sF30, rk_n0 hp_2, Ks188, Fs188]); omega) | (unfold FQZ; (try simp only [reduceIte, and_true, true_and, and_false, false_and, and_self, Nat.reduceEqDiff, fz_sF17, rF_sF, rA_sF, rR_sF, tr_sF, rNMp_sF, PNp_sF, GS_F17, OP_F17, NR_F17, LI_F17, RG_l17, RG_r17, TPRp_sF17, WNp_sF17, VMp_sF17, KYp_sF17, PPp_sF17, WFp_sF17, CCp_sF17, fz_sF30, GS_F30, OP_F30, NR_F30, LI_F30, RG_l30, RG_r30, WNp_sF30, VMp_sF30, KYp_sF30, PPp_sF30, WFp_sF30, rk_n0 hp_2, Ks188, Fs188]); omega) | omega | (have zz_ := fz_z (by assumption); omega) | (split <;> omega) | (exact TPqp.z (by first | omega | (simp only [rF_sF, Nat.reduceEqDiff, and_false, and_true, and_self, reduceIte]; omega) | simp only [rF_sF, Nat.reduceEqDiff, and_false, and_true, and_self, reduceIte])) | (exact CCp.mk (by assumption) (by first | omega | (simp only [rF_sF, Nat.reduceEqDiff, and_false, and_true, and_self, reduceIte]; omega))) | done)), ?_⟩
      refine ⟨fun c230 => ?_, fun c230 => ?_⟩
      · exact (by (try simp only [inv_X14_readBody_247, reduceIte, and_true, true_and, and_false, false_and, and_self, Nat.reduceEqDiff, fz_sF17, rF_sF, rA_sF, rR_sF, tr_sF, rNMp_sF, PNp_sF, GS_F17, OP_F17, NR_F17, LI_F17, RG_l17, RG_r17, TPRp_sF17, WNp_sF17, VMp_sF17, KYp_sF17, PPp_sF17, WFp_sF17, CCp_sF17, fz_sF30, GS_F30, OP_F30, NR_F30, LI_F30, RG_l30, RG_r30, WNp_sF30, VMp_sF30, KYp_sF30, PPp_sF30, WFp_sF30, rk_n0 hp_2, Ks188, Fs188]); (all_goals (repeat' (first | with_reducible intro _ | with_reducible apply And.intro | with_reducible refine Exists.intro g188 ?_ | with_reducible refine Im.and ?_ ?_))); all_goals (first | assumption | trivial | ((with_reducible refine Im.i fun hf_ => ?_); first | exact (I188_20 hf_) | exact (G188 hf_) | exact (KA188 hf_) | exact ok1.i | (exact LI.z (fun h => absurd h (by decide))) | (exact absurd hf_ (by omega)) | omega) | (unfold FPZ; (try simp only [reduceIte, and_true, true_and, and_false, false_and, and_self, Nat.reduceEqDiff, fz_sF17, rF_sF, rA_sF, rR_sF, tr_sF, rNMp_sF, PNp_sF, GS_F17, OP_F17, NR_F17, LI_F17, RG_l17, RG_r17, TPRp_sF17, WNp_sF17, VMp_sF17, KYp_sF17, PPp_sF17, WFp_sF17, CCp_sF17, fz_sF30, GS_F30, OP_F30, NR_F30, LI_F30, RG_l30, RG_r30, WNp_sF30, VMp_sF30, KYp_sF30, PPp_sF30, WFp_sF30, rk_n0 hp_2, Ks188, Fs188]); omega) | (unfold FQZ; (try simp only [reduceIte, and_true, true_and, and_false, false_and, and_self, Nat.reduceEqDiff, fz_sF17, rF_sF, rA_sF, rR_sF, tr_sF, rNMp_sF, PNp_sF, GS_F17, OP_F17, NR_F17, LI_F17, RG_l17, RG_r17, TPRp_sF17, WNp_sF17, VMp_sF17, KYp_sF17, PPp_sF17, WFp_sF17, CCp_sF17, fz_sF30, GS_F30, OP_F30, NR_F30, LI_F30, RG_l30, RG_r30, WNp_sF30, VMp_sF30, KYp_sF30, PPp_sF30, WFp_sF30, rk_n0 hp_2, Ks188, Fs188]); omega) | omega | (have zz_ := fz_z (by assumption); omega) | (split <;> omega) | (exact TPqp.z (by first | omega | (simp only [rF_sF, Nat.reduceEqDiff, and_false, and_true, and_self, reduceIte]; omega) | simp only [rF_sF, Nat.reduceEqDiff, and_false, and_true, and_self, reduceIte])) | (exact CCp.mk (by assumption) (by first | omega | (simp only [rF_sF, Nat.reduceEqDiff, and_false, and_true, and_self, reduceIte]; omega))) | done))
      · refine ⟨(by (try simp only [reduceIte, and_true, true_and, and_false, false_and, and_self, Nat.reduceEqDiff, fz_sF17, rF_sF, rA_sF, rR_sF, tr_sF, rNMp_sF, PNp_sF, GS_F17, OP_F17, NR_F17, LI_F17, RG_l17, RG_r17, TPRp_sF17, WNp_sF17, VMp_sF17, KYp_sF17, PPp_sF17, WFp_sF17, CCp_sF17, fz_sF30, GS_F30, OP_F30, NR_F30, LI_F30, RG_l30, RG_r30, WNp_sF30, VMp_sF30, KYp_sF30, PPp_sF30, WFp_sF30, rk_n0 hp_2, Ks188, Fs188]); (all_goals (repeat' (first | with_reducible intro _ | with_reducible apply And.intro | with_reducible refine Exists.intro g188 ?_ | with_reducible refine Im.and ?_ ?_))); all_goals (first | assumption | trivial | ((with_reducible refine Im.i fun hf_ => ?_); first | exact (I188_20 hf_) | exact (G188 hf_) | exact (KA188 hf_) | exact ok1.i | (exact LI.z (fun h => absurd h (by decide))) | (exact absurd hf_ (by omega)) | omega) | (unfold FPZ; (try simp only [reduceIte, and_true, true_and, and_false, false_and, and_self, Nat.reduceEqDiff, fz_sF17, rF_sF, rA_sF, rR_sF, tr_sF, rNMp_sF, PNp_sF, GS_F17, OP_F17, NR_F17, LI_F17, RG_l17, RG_r17, TPRp_sF17, WNp_sF17, VMp_sF17, KYp_sF17, PPp_sF17, WFp_sF17, CCp_sF17, fz_sF30, GS_F30, OP_F30, NR_F30, LI_F30, RG_l30, RG_r30, WNp_sF30, VMp_sF30, KYp_sF30, PPp_sF30, WFp_sF30, rk_n0 hp_2, Ks188, Fs188]); omega) | (unfold FQZ; (try simp only [reduceIte, and_true, true_and, and_false, false_and, and_self, Nat.reduceEqDiff, fz_sF17, rF_sF, rA_sF, rR_sF, tr_sF, rNMp_sF, PNp_sF, GS_F17, OP_F17, NR_F17, LI_F17, RG_l17, RG_r17, TPRp_sF17, WNp_sF17, VMp_sF17, KYp_sF17, PPp_sF17, WFp_sF17, CCp_sF17, fz_sF30, GS_F30, OP_F30, NR_F30, LI_F30, RG_l30, RG_r30, WNp_sF30, VMp_sF30, KYp_sF30, PPp_sF30, WFp_sF30, rk_n0 hp_2, Ks188, Fs188]); omega) | omega | (have zz_ := fz_z (by assumption); omega) | (split <;> omega) | (exact TPqp.z (by first | omega | (simp only [rF_sF, Nat.reduceEqDiff, and_false, and_true, and_self, reduceIte]; omega) | simp only [rF_sF, Nat.reduceEqDiff, and_false, and_true, and_self, reduceIte])) | (exact CCp.mk (by assumption) (by first | omega | (simp only [rF_sF, Nat.reduceEqDiff, and_false, and_true, and_self, reduceIte]; omega))) | done)), ?_⟩
        refine ⟨(by (try simp only [reduceIte, and_true, true_and, and_false, false_and, and_self, Nat.reduceEqDiff, fz_sF17, rF_sF, rA_sF, rR_sF, tr_sF, rNMp_sF, PNp_sF, GS_F17, OP_F17, NR_F17, LI_F17, RG_l17, RG_r17, TPRp_sF17, WNp_sF17, VMp_sF17, KYp_sF17, PPp_sF17, WFp_sF17, CCp_sF17, fz_sF30, GS_F30, OP_F30, NR_F30, LI_F30, RG_l30, RG_r30, WNp_sF30, VMp_sF30, KYp_sF30, PPp_sF30, WFp_sF30, rk_n0 hp_2, Ks188, Fs188]); (all_goals (repeat' (first | with_reducible intro _ | with_reducible apply And.intro | with_reducible refine Exists.intro g188 ?_ | with_reducible refine Im.and ?_ ?_))); all_goals (first | assumption | trivial | ((with_reducible refine Im.i fun hf_ => ?_); first | exact (I188_20 hf_) | exact (G188 hf_) | exact (KA188 hf_) | exact ok1.i | (exact LI.z (fun h => absurd h (by decide))) | (exact absurd hf_ (by omega)) | omega) | (unfold FPZ; (try simp only [reduceIte, and_true, true_and, and_false, false_and, and_self, Nat.reduceEqDiff, fz_sF17, rF_sF, rA_sF, rR_sF, tr_sF, rNMp_sF, PNp_sF, GS_F17, OP_F17, NR_F17, LI_F17, RG_l17, RG_r17, TPRp_sF17, WNp_sF17, VMp_sF17, KYp_sF17, PPp_sF17, WFp_sF17, CCp_sF17, fz_sF30, GS_F30, OP_F30, NR_F30, LI_F30, RG_l30, RG_r30, WNp_sF30, VMp_sF30, KYp_sF30, PPp_sF30, WFp_sF30, rk_n0 hp_2, Ks188, Fs188]); omega) | (unfold FQZ; (try simp only [reduceIte, and_true, true_and, and_false, false_and, and_self, Nat.reduceEqDiff, fz_sF17, rF_sF, rA_sF, rR_sF, tr_sF, rNMp_sF, PNp_sF, GS_F17, OP_F17, NR_F17, LI_F17, RG_l17, RG_r17, TPRp_sF17, WNp_sF17, VMp_sF17, KYp_sF17, PPp_sF17, WFp_sF17, CCp_sF17, fz_sF30, GS_F30, OP_F30, NR_F30, LI_F30, RG_l30, RG_r30, WNp_sF30, VMp_sF30, KYp_sF30, PPp_sF30, WFp_sF30, rk_n0 hp_2, Ks188, Fs188]); omega) | omega | (have zz_ := fz_z (by assumption); omega) | (split <;> omega) | (exact TPqp.z (by first | omega | (simp only [rF_sF, Nat.reduceEqDiff, and_false, and_true, and_self, reduceIte]; omega) | simp only [rF_sF, Nat.reduceEqDiff, and_false, and_true, and_self, reduceIte])) | (exact CCp.mk (by assumption) (by first | omega | (simp only [rF_sF, Nat.reduceEqDiff, and_false, and_true, and_self, reduceIte]; omega))) | done)), ?_⟩
        intro hr_; unfold rng at hr_
        refine ⟨fun c241 => ?_, fun c241 => ?_⟩
        · exact (by (try simp only [inv_X14_readBody_247, reduceIte, and_true, true_and, and_false, false_and, and_self, Nat.reduceEqDiff, fz_sF17, rF_sF, rA_sF, rR_sF, tr_sF, rNMp_sF, PNp_sF, GS_F17, OP_F17, NR_F17, LI_F17, RG_l17, RG_r17, TPRp_sF17, WNp_sF17, VMp_sF17, KYp_sF17, PPp_sF17, WFp_sF17, CCp_sF17, fz_sF30, GS_F30, OP_F30, NR_F30, LI_F30, RG_l30, RG_r30, WNp_sF30, VMp_sF30, KYp_sF30, PPp_sF30, WFp_sF30, rk_n0 hp_2, Ks188, Fs188]); (all_goals (repeat' (first | with_reducible intro _ | with_reducible apply And.intro | with_reducible refine Exists.intro g188 ?_ | with_reducible refine Im.and ?_ ?_))); all_goals (first | assumption | trivial | ((with_reducible refine Im.i fun hf_ => ?_); first | exact (I188_20 hf_) | exact (G188 hf_) | exact (KA188 hf_) | exact ok1.i | (exact LI.z (fun h => absurd h (by decide))) | (exact absurd hf_ (by omega)) | omega) | (unfold FPZ; (try simp only [reduceIte, and_true, true_and, and_false, false_and, and_self, Nat.reduceEqDiff, fz_sF17, rF_sF, rA_sF, rR_sF, tr_sF, rNMp_sF, PNp_sF, GS_F17, OP_F17, NR_F17, LI_F17, RG_l17, RG_r17, TPRp_sF17, WNp_sF17, VMp_sF17, KYp_sF17, PPp_sF17, WFp_sF17, CCp_sF17, fz_sF30, GS_F30, OP_F30, NR_F30, LI_F30, RG_l30, RG_r30, WNp_sF30, VMp_sF30, KYp_sF30, PPp_sF30, WFp_sF30, rk_n0 hp_2, Ks188, Fs188]); omega) | (unfold FQZ; (try simp only [reduceIte, and_true, true_and, and_false, false_and, and_self, Nat.reduceEqDiff, fz_sF17, rF_sF, rA_sF, rR_sF, tr_sF, rNMp_sF, PNp_sF, GS_F17, OP_F17, NR_F17, LI_F17, RG_l17, RG_r17, TPRp_sF17, WNp_sF17, VMp_sF17, KYp_sF17, PPp_sF17, WFp_sF17, CCp_sF17, fz_sF30, GS_F30, OP_F30, NR_F30, LI_F30, RG_l30, RG_r30, WNp_sF30, VMp_sF30, KYp_sF30, PPp_sF30, WFp_sF30, rk_n0 hp_2, Ks188, Fs188]); omega) | omega | (have zz_ := fz_z (by assumption); omega) | (split <;> omega) | (exact TPqp.z (by first | omega | (simp only [rF_sF, Nat.reduceEqDiff, and_false, and_true, and_self, reduceIte]; omega) | simp only [rF_sF, Nat.reduceEqDiff, and_false, and_true, and_self, reduceIte])) | (exact CCp.mk (by assumption) (by first | omega | (simp only [rF_sF, Nat.reduceEqDiff, and_false, and_true, and_self, reduceIte]; omega))) | done))
        · refine ⟨(by (try simp only [rng, reduceIte, and_true, true_and, and_false, false_and, and_self, Nat.reduceEqDiff, fz_sF17, rF_sF, rA_sF, rR_sF, tr_sF, rNMp_sF, PNp_sF, GS_F17, OP_F17, NR_F17, LI_F17, RG_l17, RG_r17, TPRp_sF17, WNp_sF17, VMp_sF17, KYp_sF17, PPp_sF17, WFp_sF17, CCp_sF17, fz_sF30, GS_F30, OP_F30, NR_F30, LI_F30, RG_l30, RG_r30, WNp_sF30, VMp_sF30, KYp_sF30, PPp_sF30, WFp_sF30, rk_n0 hp_2, Ks188, Fs188]); (all_goals (repeat' (first | with_reducible intro _ | with_reducible apply And.intro | with_reducible refine Exists.intro g188 ?_ | with_reducible refine Im.and ?_ ?_))); all_goals (first | assumption | trivial | ((with_reducible refine Im.i fun hf_ => ?_); first | exact (I188_20 hf_) | exact (G188 hf_) | exact (KA188 hf_) | exact ok1.i | (exact LI.z (fun h => absurd h (by decide))) | (exact absurd hf_ (by omega)) | omega) | (unfold FPZ; (try simp only [reduceIte, and_true, true_and, and_false, false_and, and_self, Nat.reduceEqDiff, fz_sF17, rF_sF, rA_sF, rR_sF, tr_sF, rNMp_sF, PNp_sF, GS_F17, OP_F17, NR_F17, LI_F17, RG_l17, RG_r17, TPRp_sF17, WNp_sF17, VMp_sF17, KYp_sF17, PPp_sF17, WFp_sF17, CCp_sF17, fz_sF30, GS_F30, OP_F30, NR_F30, LI_F30, RG_l30, RG_r30, WNp_sF30, VMp_sF30, KYp_sF30, PPp_sF30, WFp_sF30, rk_n0 hp_2, Ks188, Fs188]); omega) | (unfold FQZ; (try simp only [reduceIte, and_true, true_and, and_false, false_and, and_self, Nat.reduceEqDiff, fz_sF17, rF_sF, rA_sF, rR_sF, tr_sF, rNMp_sF, PNp_sF, GS_F17, OP_F17, NR_F17, LI_F17, RG_l17, RG_r17, TPRp_sF17, WNp_sF17, VMp_sF17, KYp_sF17, PPp_sF17, WFp_sF17, CCp_sF17, fz_sF30, GS_F30, OP_F30, NR_F30, LI_F30, RG_l30, RG_r30, WNp_sF30, VMp_sF30, KYp_sF30, PPp_sF30, WFp_sF30, rk_n0 hp_2, Ks188, Fs188]); omega) | omega | (have zz_ := fz_z (by assumption); omega) | (split <;> omega) | (exact TPqp.z (by first | omega | (simp only [rF_sF, Nat.reduceEqDiff, and_false, and_true, and_self, reduceIte]; omega) | simp only [rF_sF, Nat.reduceEqDiff, and_false, and_true, and_self, reduceIte])) | (exact CCp.mk (by assumption) (by first | omega | (simp only [rF_sF, Nat.reduceEqDiff, and_false, and_true, and_self, reduceIte]; omega))) | done)), ?_⟩
          exact (by (try simp only [inv_X14_readBody_247, reduceIte, and_true, true_and, and_false, false_and, and_self, Nat.reduceEqDiff, fz_sF17, rF_sF, rA_sF, rR_sF, tr_sF, rNMp_sF, PNp_sF, GS_F17, OP_F17, NR_F17, LI_F17, RG_l17, RG_r17, TPRp_sF17, WNp_sF17, VMp_sF17, KYp_sF17, PPp_sF17, WFp_sF17, CCp_sF17, fz_sF30, GS_F30, OP_F30, NR_F30, LI_F30, RG_l30, RG_r30, WNp_sF30, VMp_sF30, KYp_sF30, PPp_sF30, WFp_sF30, rk_n0 hp_2, Ks188, Fs188]); (all_goals (repeat' (first | with_reducible intro _ | with_reducible apply And.intro | with_reducible refine Exists.intro g188 ?_ | with_reducible refine Im.and ?_ ?_))); all_goals (first | assumption | trivial | ((with_reducible refine Im.i fun hf_ => ?_); first | exact (I188_20 hf_) | exact (G188 hf_) | exact (KA188 hf_) | exact ok1.i | (exact LI.z (fun h => absurd h (by decide))) | (exact absurd hf_ (by omega)) | omega) | (unfold FPZ; (try simp only [reduceIte, and_true, true_and, and_false, false_and, and_self, Nat.reduceEqDiff, fz_sF17, rF_sF, rA_sF, rR_sF, tr_sF, rNMp_sF, PNp_sF, GS_F17, OP_F17, NR_F17, LI_F17, RG_l17, RG_r17, TPRp_sF17, WNp_sF17, VMp_sF17, KYp_sF17, PPp_sF17, WFp_sF17, CCp_sF17, fz_sF30, GS_F30, OP_F30, NR_F30, LI_F30, RG_l30, RG_r30, WNp_sF30, VMp_sF30, KYp_sF30, PPp_sF30, WFp_sF30, rk_n0 hp_2, Ks188, Fs188]); omega) | (unfold FQZ; (try simp only [reduceIte, and_true, true_and, and_false, false_and, and_self, Nat.reduceEqDiff, fz_sF17, rF_sF, rA_sF, rR_sF, tr_sF, rNMp_sF, PNp_sF, GS_F17, OP_F17, NR_F17, LI_F17, RG_l17, RG_r17, TPRp_sF17, WNp_sF17, VMp_sF17, KYp_sF17, PPp_sF17, WFp_sF17, CCp_sF17, fz_sF30, GS_F30, OP_F30, NR_F30, LI_F30, RG_l30, RG_r30, WNp_sF30, VMp_sF30, KYp_sF30, PPp_sF30, WFp_sF30, rk_n0 hp_2, Ks188, Fs188]); omega) | omega | (have zz_ := fz_z (by assumption); omega) | (split <;> omega) | (exact TPqp.z (by first | omega | (simp only [rF_sF, Nat.reduceEqDiff, and_false, and_true, and_self, reduceIte]; omega) | simp only [rF_sF, Nat.reduceEqDiff, and_false, and_true, and_self, reduceIte])) | (exact CCp.mk (by assumption) (by first | omega | (simp only [rF_sF, Nat.reduceEqDiff, and_false, and_true, and_self, reduceIte]; omega))) | done))
  · refine ⟨(by (try simp only [pre_X14_bad, Ks188, Fs188]); (all_goals (repeat' (first | with_reducible intro _ | with_reducible apply And.intro | with_reducible refine Exists.intro g188 ?_ | with_reducible refine Im.and ?_ ?_))); all_goals (first | assumption | trivial | ((with_reducible refine Im.i fun hf_ => ?_); first | exact (I188_20 hf_) | exact (G188 hf_) | exact (KA188 hf_) | exact ok1.i | (exact LI.z (fun h => absurd h (by decide))) | (exact absurd hf_ (by omega)) | omega) | (unfold FPZ; (try simp only [Ks188, Fs188]); omega) | (unfold FQZ; (try simp only [Ks188, Fs188]); omega) | omega | (have zz_ := fz_z (by assumption); omega) | (split <;> omega) | (exact TPqp.z (by first | omega | (simp only [rF_sF, Nat.reduceEqDiff, and_false, and_true, and_self, reduceIte]; omega) | simp only [rF_sF, Nat.reduceEqDiff, and_false, and_true, and_self, reduceIte])) | (exact CCp.mk (by assumption) (by first | omega | (simp only [rF_sF, Nat.reduceEqDiff, and_false, and_true, and_self, reduceIte]; omega))) | done)), ?_⟩
    intro s202 Ws202 e202_0 e202_1 e202_2 e202_3 e202_4 e202_5 e202_6 e202_7 e202_8 e202_9 e202_10 e202_11 e202_12 e202_13 e202_14 e202_15 e202_16 e202_17 e202_18 e202_19 e202_20 e202_21 e202_22 e202_23 e202_24 e202_25 e202_26 e202_27 e202_28 e202_29 e202_30 R202 q202
    have q202 := dig_bad q202 (by (try simp only [Ks188, Fs188]); omega)
    obtain ⟨q202_1, q202_2⟩ := q202
    (try simp only [Ks188, Fs188, FPZ, FQZ] at q202_1 q202_2 e202_0 e202_1 e202_2 e202_3 e202_4 e202_5 e202_6 e202_7 e202_8 e202_9 e202_10 e202_11 e202_12 e202_13 e202_14 e202_15 e202_16 e202_17 e202_18 e202_19 e202_20 e202_21 e202_22 e202_23 e202_24 e202_25 e202_26 e202_27 e202_28 e202_29 e202_30 R202)
    have Ks202 : rR s202 7 = rR σ 7 := by first | assumption | ((try simp only [rR_sF, rR_sA, rR_sT, rR_sL] at e202_0 e202_1 e202_2 e202_3 e202_4 e202_5 e202_6 e202_7 e202_8 e202_9 e202_10 e202_11 e202_12 e202_13 e202_14 e202_15 e202_16 e202_17 e202_18 e202_19 e202_20 e202_21 e202_22 e202_23 e202_24 e202_25 e202_26 e202_27 e202_28 e202_29 e202_30 R202); omega)
    have Fs202 : rR s202 15 = rR σ 15 := by first | assumption | ((try simp only [rR_sF, rR_sA, rR_sT, rR_sL] at e202_0 e202_1 e202_2 e202_3 e202_4 e202_5 e202_6 e202_7 e202_8 e202_9 e202_10 e202_11 e202_12 e202_13 e202_14 e202_15 e202_16 e202_17 e202_18 e202_19 e202_20 e202_21 e202_22 e202_23 e202_24 e202_25 e202_26 e202_27 e202_28 e202_29 e202_30 R202); omega)
    have zr202 := fz_rng s202
    have zc202 : fz s202 = 0 → fz s188 = 0 := fun hf => by omega
    have A202 : Im (fz s202 = 0) (RG (RT σ) s202 (rR σ 7) 0) := fun hf => RG.trk hp_2 (I188_20 (zc202 hf)) R202 (Or.inr (Or.inl rfl))
    have Ku23 : Im (fz s202 = 0) (GK g g188 (rF σ (rR σ 7) 7) (rF s202 (rR σ 7) 7) 0) := fun hf => GK.trans (KA188 (zc202 hf)) (GK.up (N := rF s188 (rR σ 7) 7) (N' := rF s202 (rR σ 7) 7) (c := 0) (by first | assumption | omega | (simp only [rF_sT, rF_sA]; omega))) (Or.inr (Or.inl rfl))
    have Gu24 : Im (fz s202 = 0) (GS s202 (rR σ 7) g188) := fun hf => GS.mv hp_2 (G188 (zc202 hf)) R202 (by first | assumption | omega | (simp only [rF_sT, rF_sA]; omega)) (by first | (exact Int.le_of_eq (Eq.symm (by assumption))) | omega | (simp only [rF_sT, rF_sA]; omega))
    have rNMp_202 := e202_0 I188_10; clear e202_0
    have PNp_202 := e202_1 I188_11; clear e202_1
    clear e202_2
    exact (by (try simp only [post_X14_readBody, Ks202, Fs202]); (all_goals (repeat' (first | with_reducible intro _ | with_reducible apply And.intro | with_reducible refine Exists.intro g188 ?_ | with_reducible refine Im.and ?_ ?_))); all_goals (first | assumption | trivial | ((with_reducible refine Im.i fun hf_ => ?_); first | exact (A202 hf_) | exact (Gu24 hf_) | exact (Ku23 hf_) | exact ok1.i | (exact LI.z (fun h => absurd h (by decide))) | (exact absurd hf_ (by omega)) | omega) | (unfold FPZ; (try simp only [Ks202, Fs202]); omega) | (unfold FQZ; (try simp only [Ks202, Fs202]); omega) | omega | (have zz_ := fz_z (by assumption); omega) | (split <;> omega) | (exact TPqp.z (by first | omega | (simp only [rF_sF, Nat.reduceEqDiff, and_false, and_true, and_self, reduceIte]; omega) | simp only [rF_sF, Nat.reduceEqDiff, and_false, and_true, and_self, reduceIte])) | (exact CCp.mk (by assumption) (by first | omega | (simp only [rF_sF, Nat.reduceEqDiff, and_false, and_true, and_self, reduceIte]; omega))) | done))
set_option maxHeartbeats 20000000 in
theorem vX14_readBody_143 (σ : rS) (gg : Nat) (U : Int) (g : Nat → Int → Int) (hwf : rWF σ) (hp : pre_X14_readBody σ gg U g) : VC_X14_readBody_143 σ gg U g (post_X14_readBody σ gg U g) := by
  unfold pre_X14_readBody at hp
  obtain ⟨hp_1, hp_2, hp_3, hp_4, hp_5, hp_6, hp_7, hp_8⟩ := hp
  subst hp_1
  have hF := hp_3
  unfold FPZ at hF
  have zr0 := fz_rng σ
  unfold VC_X14_readBody_143
  intro s143 y143_1 y143_2 y143_3 Ws143 hy143_1 hy143_2 hy143_3 e143_0 e143_1 e143_2 e143_3 e143_4 e143_5 e143_6 I143
  have Ks143 : rR s143 7 = rR σ 7 := by omega
  have Fs143 : rR s143 15 = rR σ 15 := by omega
  unfold inv_X14_readBody_143 at I143
  obtain ⟨I143_1, I143_2, I143_3, I143_4, I143_5, I143_6, I143_7, I143_8, I143_9, I143_10, I143_11, I143_12, I143_13, I143_14, I143_15, I143_16, I143_17, I143_18, I143_19, I143_20, I143_21⟩ := I143
  (try simp only [Ks143, Fs143, FPZ, FQZ] at I143_1 I143_2 I143_3 I143_4 I143_5 I143_6 I143_7 I143_8 I143_9 I143_10 I143_11 I143_12 I143_13 I143_14 I143_15 I143_16 I143_17 I143_18 I143_19 I143_20 I143_21)
  have zr143 := fz_rng s143
  obtain ⟨g143, X143⟩ := I143_21
  have G143 : Im (fz s143 = 0) _ := fun hf => (X143 hf).1
  have KA143 : Im (fz s143 = 0) _ := fun hf => (X143 hf).2.1
  intro hr_; unfold rng at hr_
  refine ⟨fun c148 => ?_, fun c148 => ?_⟩
  · exact (by (try simp only [inv_X14_readBody_188, Ks143, Fs143]); (all_goals (repeat' (first | with_reducible intro _ | with_reducible apply And.intro | with_reducible refine Exists.intro g143 ?_ | with_reducible refine Im.and ?_ ?_))); all_goals (first | assumption | trivial | ((with_reducible refine Im.i fun hf_ => ?_); first | exact (I143_20 hf_) | exact (G143 hf_) | exact (KA143 hf_) | exact ok1.i | (exact LI.z (fun h => absurd h (by decide))) | (exact absurd hf_ (by omega)) | omega) | (unfold FPZ; (try simp only [Ks143, Fs143]); omega) | (unfold FQZ; (try simp only [Ks143, Fs143]); omega) | omega | (have zz_ := fz_z (by assumption); omega) | (split <;> omega) | (exact TPqp.z (by first | omega | (simp only [rF_sF, Nat.reduceEqDiff, and_false, and_true, and_self, reduceIte]; omega) | simp only [rF_sF, Nat.reduceEqDiff, and_false, and_true, and_self, reduceIte])) | (exact CCp.mk (by assumption) (by first | omega | (simp only [rF_sF, Nat.reduceEqDiff, and_false, and_true, and_self, reduceIte]; omega))) | done))
  · refine ⟨(by (try simp only [pre_X14_fc, Ks143, Fs143]); (all_goals (repeat' (first | with_reducible intro _ | with_reducible apply And.intro | with_reducible refine Exists.intro g143 ?_ | with_reducible refine Im.and ?_ ?_))); all_goals (first | assumption | trivial | ((with_reducible refine Im.i fun hf_ => ?_); first | exact (I143_20 hf_) | exact (G143 hf_) | exact (KA143 hf_) | exact ok1.i | (exact LI.z (fun h => absurd h (by decide))) | (exact absurd hf_ (by omega)) | omega) | (unfold FPZ; (try simp only [Ks143, Fs143]); omega) | (unfold FQZ; (try simp only [Ks143, Fs143]); omega) | omega | (have zz_ := fz_z (by assumption); omega) | (split <;> omega) | (exact TPqp.z (by first | omega | (simp only [rF_sF, Nat.reduceEqDiff, and_false, and_true, and_self, reduceIte]; omega) | simp only [rF_sF, Nat.reduceEqDiff, and_false, and_true, and_self, reduceIte])) | (exact CCp.mk (by assumption) (by first | omega | (simp only [rF_sF, Nat.reduceEqDiff, and_false, and_true, and_self, reduceIte]; omega))) | done)), ?_⟩
    intro v153 hv153 q153
    unfold rng at hv153
    unfold post_X14_fc at q153
    obtain ⟨q153_1, q153_2⟩ := q153
    (try simp only [Ks143, Fs143, FPZ, FQZ] at q153_1 q153_2)
    refine ⟨fun c157 => ?_, fun c157 => ?_⟩
    · refine ⟨fun c167 => ?_, fun c167 => ?_⟩
      · refine ⟨(by (try simp only [rng, Ks143, Fs143]); (all_goals (repeat' (first | with_reducible intro _ | with_reducible apply And.intro | with_reducible refine Exists.intro g143 ?_ | with_reducible refine Im.and ?_ ?_))); all_goals (first | assumption | trivial | ((with_reducible refine Im.i fun hf_ => ?_); first | exact (I143_20 hf_) | exact (G143 hf_) | exact (KA143 hf_) | exact ok1.i | (exact LI.z (fun h => absurd h (by decide))) | (exact absurd hf_ (by omega)) | omega) | (unfold FPZ; (try simp only [Ks143, Fs143]); omega) | (unfold FQZ; (try simp only [Ks143, Fs143]); omega) | omega | (have zz_ := fz_z (by assumption); omega) | (split <;> omega) | (exact TPqp.z (by first | omega | (simp only [rF_sF, Nat.reduceEqDiff, and_false, and_true, and_self, reduceIte]; omega) | simp only [rF_sF, Nat.reduceEqDiff, and_false, and_true, and_self, reduceIte])) | (exact CCp.mk (by assumption) (by first | omega | (simp only [rF_sF, Nat.reduceEqDiff, and_false, and_true, and_self, reduceIte]; omega))) | done)), ?_⟩
        exact (by (try simp only [inv_X14_readBody_143, mu_X14_readBody_143, mu_X14_readBody_143, Ks143, Fs143]); (all_goals (repeat' (first | with_reducible intro _ | with_reducible apply And.intro | with_reducible refine Exists.intro g143 ?_ | with_reducible refine Im.and ?_ ?_))); all_goals (first | assumption | trivial | ((with_reducible refine Im.i fun hf_ => ?_); first | exact (I143_20 hf_) | exact (G143 hf_) | exact (KA143 hf_) | exact ok1.i | (exact LI.z (fun h => absurd h (by decide))) | (exact absurd hf_ (by omega)) | omega) | (unfold FPZ; (try simp only [Ks143, Fs143]); omega) | (unfold FQZ; (try simp only [Ks143, Fs143]); omega) | omega | (have zz_ := fz_z (by assumption); omega) | (split <;> omega) | (exact TPqp.z (by first | omega | (simp only [rF_sF, Nat.reduceEqDiff, and_false, and_true, and_self, reduceIte]; omega) | simp only [rF_sF, Nat.reduceEqDiff, and_false, and_true, and_self, reduceIte])) | (exact CCp.mk (by assumption) (by first | omega | (simp only [rF_sF, Nat.reduceEqDiff, and_false, and_true, and_self, reduceIte]; omega))) | done))
      · refine ⟨(by (try simp only [rng, Ks143, Fs143]); (all_goals (repeat' (first | with_reducible intro _ | with_reducible apply And.intro | with_reducible refine Exists.intro g143 ?_ | with_reducible refine Im.and ?_ ?_))); all_goals (first | assumption | trivial | ((with_reducible refine Im.i fun hf_ => ?_); first | exact (I143_20 hf_) | exact (G143 hf_) | exact (KA143 hf_) | exact ok1.i | (exact LI.z (fun h => absurd h (by decide))) | (exact absurd hf_ (by omega)) | omega) | (unfold FPZ; (try simp only [Ks143, Fs143]); omega) | (unfold FQZ; (try simp only [Ks143, Fs143]); omega) | omega | (have zz_ := fz_z (by assumption); omega) | (split <;> omega) | (exact TPqp.z (by first | omega | (simp only [rF_sF, Nat.reduceEqDiff, and_false, and_true, and_self, reduceIte]; omega) | simp only [rF_sF, Nat.reduceEqDiff, and_false, and_true, and_self, reduceIte])) | (exact CCp.mk (by assumption) (by first | omega | (simp only [rF_sF, Nat.reduceEqDiff, and_false, and_true, and_self, reduceIte]; omega))) | done)), ?_⟩
        refine ⟨(by (try simp only [pre_X14_fc, Ks143, Fs143]); (all_goals (repeat' (first | with_reducible intro _ | with_reducible apply And.intro | with_reducible refine Exists.intro g143 ?_ | with_reducible refine Im.and ?_ ?_))); all_goals (first | assumption | trivial | ((with_reducible refine Im.i fun hf_ => ?_); first | exact (I143_20 hf_) | exact (G143 hf_) | exact (KA143 hf_) | exact ok1.i | (exact LI.z (fun h => absurd h (by decide))) | (exact absurd hf_ (by omega)) | omega) | (unfold FPZ; (try simp only [Ks143, Fs143]); omega) | (unfold FQZ; (try simp only [Ks143, Fs143]); omega) | omega | (have zz_ := fz_z (by assumption); omega) | (split <;> omega) | (exact TPqp.z (by first | omega | (simp only [rF_sF, Nat.reduceEqDiff, and_false, and_true, and_self, reduceIte]; omega) | simp only [rF_sF, Nat.reduceEqDiff, and_false, and_true, and_self, reduceIte])) | (exact CCp.mk (by assumption) (by first | omega | (simp only [rF_sF, Nat.reduceEqDiff, and_false, and_true, and_self, reduceIte]; omega))) | done)), ?_⟩
        intro v174 hv174 q174
        unfold rng at hv174
        unfold post_X14_fc at q174
        obtain ⟨q174_1, q174_2⟩ := q174
        (try simp only [Ks143, Fs143, FPZ, FQZ] at q174_1 q174_2)
        refine ⟨fun c179 => ?_, fun c179 => ?_⟩
        · exact (by (try simp only [inv_X14_readBody_188, Ks143, Fs143]); (all_goals (repeat' (first | with_reducible intro _ | with_reducible apply And.intro | with_reducible refine Exists.intro g143 ?_ | with_reducible refine Im.and ?_ ?_))); all_goals (first | assumption | trivial | ((with_reducible refine Im.i fun hf_ => ?_); first | exact (I143_20 hf_) | exact (G143 hf_) | exact (KA143 hf_) | exact ok1.i | (exact LI.z (fun h => absurd h (by decide))) | (exact absurd hf_ (by omega)) | omega) | (unfold FPZ; (try simp only [Ks143, Fs143]); omega) | (unfold FQZ; (try simp only [Ks143, Fs143]); omega) | omega | (have zz_ := fz_z (by assumption); omega) | (split <;> omega) | (exact TPqp.z (by first | omega | (simp only [rF_sF, Nat.reduceEqDiff, and_false, and_true, and_self, reduceIte]; omega) | simp only [rF_sF, Nat.reduceEqDiff, and_false, and_true, and_self, reduceIte])) | (exact CCp.mk (by assumption) (by first | omega | (simp only [rF_sF, Nat.reduceEqDiff, and_false, and_true, and_self, reduceIte]; omega))) | done))
        · exact (by (try simp only [inv_X14_readBody_143, mu_X14_readBody_143, mu_X14_readBody_143, Ks143, Fs143]); (all_goals (repeat' (first | with_reducible intro _ | with_reducible apply And.intro | with_reducible refine Exists.intro g143 ?_ | with_reducible refine Im.and ?_ ?_))); all_goals (first | assumption | trivial | ((with_reducible refine Im.i fun hf_ => ?_); first | exact (I143_20 hf_) | exact (G143 hf_) | exact (KA143 hf_) | exact ok1.i | (exact LI.z (fun h => absurd h (by decide))) | (exact absurd hf_ (by omega)) | omega) | (unfold FPZ; (try simp only [Ks143, Fs143]); omega) | (unfold FQZ; (try simp only [Ks143, Fs143]); omega) | omega | (have zz_ := fz_z (by assumption); omega) | (split <;> omega) | (exact TPqp.z (by first | omega | (simp only [rF_sF, Nat.reduceEqDiff, and_false, and_true, and_self, reduceIte]; omega) | simp only [rF_sF, Nat.reduceEqDiff, and_false, and_true, and_self, reduceIte])) | (exact CCp.mk (by assumption) (by first | omega | (simp only [rF_sF, Nat.reduceEqDiff, and_false, and_true, and_self, reduceIte]; omega))) | done))
    · refine ⟨fun c167 => ?_, fun c167 => ?_⟩
      · refine ⟨(by (try simp only [rng, Ks143, Fs143]); (all_goals (repeat' (first | with_reducible intro _ | with_reducible apply And.intro | with_reducible refine Exists.intro g143 ?_ | with_reducible refine Im.and ?_ ?_))); all_goals (first | assumption | trivial | ((with_reducible refine Im.i fun hf_ => ?_); first | exact (I143_20 hf_) | exact (G143 hf_) | exact (KA143 hf_) | exact ok1.i | (exact LI.z (fun h => absurd h (by decide))) | (exact absurd hf_ (by omega)) | omega) | (unfold FPZ; (try simp only [Ks143, Fs143]); omega) | (unfold FQZ; (try simp only [Ks143, Fs143]); omega) | omega | (have zz_ := fz_z (by assumption); omega) | (split <;> omega) | (exact TPqp.z (by first | omega | (simp only [rF_sF, Nat.reduceEqDiff, and_false, and_true, and_self, reduceIte]; omega) | simp only [rF_sF, Nat.reduceEqDiff, and_false, and_true, and_self, reduceIte])) | (exact CCp.mk (by assumption) (by first | omega | (simp only [rF_sF, Nat.reduceEqDiff, and_false, and_true, and_self, reduceIte]; omega))) | done)), ?_⟩
        exact (by (try simp only [inv_X14_readBody_143, mu_X14_readBody_143, mu_X14_readBody_143, Ks143, Fs143]); (all_goals (repeat' (first | with_reducible intro _ | with_reducible apply And.intro | with_reducible refine Exists.intro g143 ?_ | with_reducible refine Im.and ?_ ?_))); all_goals (first | assumption | trivial | ((with_reducible refine Im.i fun hf_ => ?_); first | exact (I143_20 hf_) | exact (G143 hf_) | exact (KA143 hf_) | exact ok1.i | (exact LI.z (fun h => absurd h (by decide))) | (exact absurd hf_ (by omega)) | omega) | (unfold FPZ; (try simp only [Ks143, Fs143]); omega) | (unfold FQZ; (try simp only [Ks143, Fs143]); omega) | omega | (have zz_ := fz_z (by assumption); omega) | (split <;> omega) | (exact TPqp.z (by first | omega | (simp only [rF_sF, Nat.reduceEqDiff, and_false, and_true, and_self, reduceIte]; omega) | simp only [rF_sF, Nat.reduceEqDiff, and_false, and_true, and_self, reduceIte])) | (exact CCp.mk (by assumption) (by first | omega | (simp only [rF_sF, Nat.reduceEqDiff, and_false, and_true, and_self, reduceIte]; omega))) | done))
      · refine ⟨(by (try simp only [rng, Ks143, Fs143]); (all_goals (repeat' (first | with_reducible intro _ | with_reducible apply And.intro | with_reducible refine Exists.intro g143 ?_ | with_reducible refine Im.and ?_ ?_))); all_goals (first | assumption | trivial | ((with_reducible refine Im.i fun hf_ => ?_); first | exact (I143_20 hf_) | exact (G143 hf_) | exact (KA143 hf_) | exact ok1.i | (exact LI.z (fun h => absurd h (by decide))) | (exact absurd hf_ (by omega)) | omega) | (unfold FPZ; (try simp only [Ks143, Fs143]); omega) | (unfold FQZ; (try simp only [Ks143, Fs143]); omega) | omega | (have zz_ := fz_z (by assumption); omega) | (split <;> omega) | (exact TPqp.z (by first | omega | (simp only [rF_sF, Nat.reduceEqDiff, and_false, and_true, and_self, reduceIte]; omega) | simp only [rF_sF, Nat.reduceEqDiff, and_false, and_true, and_self, reduceIte])) | (exact CCp.mk (by assumption) (by first | omega | (simp only [rF_sF, Nat.reduceEqDiff, and_false, and_true, and_self, reduceIte]; omega))) | done)), ?_⟩
        refine ⟨(by (try simp only [pre_X14_fc, Ks143, Fs143]); (all_goals (repeat' (first | with_reducible intro _ | with_reducible apply And.intro | with_reducible refine Exists.intro g143 ?_ | with_reducible refine Im.and ?_ ?_))); all_goals (first | assumption | trivial | ((with_reducible refine Im.i fun hf_ => ?_); first | exact (I143_20 hf_) | exact (G143 hf_) | exact (KA143 hf_) | exact ok1.i | (exact LI.z (fun h => absurd h (by decide))) | (exact absurd hf_ (by omega)) | omega) | (unfold FPZ; (try simp only [Ks143, Fs143]); omega) | (unfold FQZ; (try simp only [Ks143, Fs143]); omega) | omega | (have zz_ := fz_z (by assumption); omega) | (split <;> omega) | (exact TPqp.z (by first | omega | (simp only [rF_sF, Nat.reduceEqDiff, and_false, and_true, and_self, reduceIte]; omega) | simp only [rF_sF, Nat.reduceEqDiff, and_false, and_true, and_self, reduceIte])) | (exact CCp.mk (by assumption) (by first | omega | (simp only [rF_sF, Nat.reduceEqDiff, and_false, and_true, and_self, reduceIte]; omega))) | done)), ?_⟩
        intro v174 hv174 q174
        unfold rng at hv174
        unfold post_X14_fc at q174
        obtain ⟨q174_1, q174_2⟩ := q174
        (try simp only [Ks143, Fs143, FPZ, FQZ] at q174_1 q174_2)
        refine ⟨fun c179 => ?_, fun c179 => ?_⟩
        · exact (by (try simp only [inv_X14_readBody_188, Ks143, Fs143]); (all_goals (repeat' (first | with_reducible intro _ | with_reducible apply And.intro | with_reducible refine Exists.intro g143 ?_ | with_reducible refine Im.and ?_ ?_))); all_goals (first | assumption | trivial | ((with_reducible refine Im.i fun hf_ => ?_); first | exact (I143_20 hf_) | exact (G143 hf_) | exact (KA143 hf_) | exact ok1.i | (exact LI.z (fun h => absurd h (by decide))) | (exact absurd hf_ (by omega)) | omega) | (unfold FPZ; (try simp only [Ks143, Fs143]); omega) | (unfold FQZ; (try simp only [Ks143, Fs143]); omega) | omega | (have zz_ := fz_z (by assumption); omega) | (split <;> omega) | (exact TPqp.z (by first | omega | (simp only [rF_sF, Nat.reduceEqDiff, and_false, and_true, and_self, reduceIte]; omega) | simp only [rF_sF, Nat.reduceEqDiff, and_false, and_true, and_self, reduceIte])) | (exact CCp.mk (by assumption) (by first | omega | (simp only [rF_sF, Nat.reduceEqDiff, and_false, and_true, and_self, reduceIte]; omega))) | done))
        · exact (by (try simp only [inv_X14_readBody_143, mu_X14_readBody_143, mu_X14_readBody_143, Ks143, Fs143]); (all_goals (repeat' (first | with_reducible intro _ | with_reducible apply And.intro | with_reducible refine Exists.intro g143 ?_ | with_reducible refine Im.and ?_ ?_))); all_goals (first | assumption | trivial | ((with_reducible refine Im.i fun hf_ => ?_); first | exact (I143_20 hf_) | exact (G143 hf_) | exact (KA143 hf_) | exact ok1.i | (exact LI.z (fun h => absurd h (by decide))) | (exact absurd hf_ (by omega)) | omega) | (unfold FPZ; (try simp only [Ks143, Fs143]); omega) | (unfold FQZ; (try simp only [Ks143, Fs143]); omega) | omega | (have zz_ := fz_z (by assumption); omega) | (split <;> omega) | (exact TPqp.z (by first | omega | (simp only [rF_sF, Nat.reduceEqDiff, and_false, and_true, and_self, reduceIte]; omega) | simp only [rF_sF, Nat.reduceEqDiff, and_false, and_true, and_self, reduceIte])) | (exact CCp.mk (by assumption) (by first | omega | (simp only [rF_sF, Nat.reduceEqDiff, and_false, and_true, and_self, reduceIte]; omega))) | done))
set_option maxHeartbeats 20000000 in
theorem vX14_readBody_143m (σ : rS) (gg : Nat) (U : Int) (g : Nat → Int → Int) (hwf : rWF σ) (hp : pre_X14_readBody σ gg U g) : VC_X14_readBody_143m σ gg U g := by
  unfold pre_X14_readBody at hp
  obtain ⟨hp_1, hp_2, hp_3, hp_4, hp_5, hp_6, hp_7, hp_8⟩ := hp
  subst hp_1
  have hF := hp_3
  unfold FPZ at hF
  have zr0 := fz_rng σ
  unfold VC_X14_readBody_143m
  (try simp only [inv_X14_readBody_143, mu_X14_readBody_143]); (all_goals (repeat' (first | with_reducible intro _ | with_reducible apply And.intro))); all_goals (first | assumption | omega | grind (splits := 20))
set_option maxHeartbeats 20000000 in
theorem vX14_readBody_113 (σ : rS) (gg : Nat) (U : Int) (g : Nat → Int → Int) (hwf : rWF σ) (hp : pre_X14_readBody σ gg U g) : VC_X14_readBody_113 σ gg U g (post_X14_readBody σ gg U g) := by
  unfold pre_X14_readBody at hp
  obtain ⟨hp_1, hp_2, hp_3, hp_4, hp_5, hp_6, hp_7, hp_8⟩ := hp
  subst hp_1
  have hF := hp_3
  unfold FPZ at hF
  have zr0 := fz_rng σ
  unfold VC_X14_readBody_113
  intro s113 Ws113 e113_0 e113_1 e113_2 e113_3 e113_4 e113_5 e113_6 I113
  have Ks113 : rR s113 7 = rR σ 7 := by omega
  have Fs113 : rR s113 15 = rR σ 15 := by omega
  unfold inv_X14_readBody_113 at I113
  obtain ⟨I113_1, I113_2, I113_3, I113_4, I113_5, I113_6, I113_7, I113_8, I113_9, I113_10, I113_11, I113_12, I113_13, I113_14, I113_15, I113_16, I113_17⟩ := I113
  (try simp only [Ks113, Fs113, FPZ, FQZ] at I113_1 I113_2 I113_3 I113_4 I113_5 I113_6 I113_7 I113_8 I113_9 I113_10 I113_11 I113_12 I113_13 I113_14 I113_15 I113_16 I113_17)
  have zr113 := fz_rng s113
  obtain ⟨g113, X113⟩ := I113_17
  have G113 : Im (fz s113 = 0) _ := fun hf => (X113 hf).1
  have KA113 : Im (fz s113 = 0) _ := fun hf => (X113 hf).2.1
  intro hr_; unfold rng at hr_
  refine ⟨(by (try simp only [rng, Ks113, Fs113]); (all_goals (repeat' (first | with_reducible intro _ | with_reducible apply And.intro | with_reducible refine Exists.intro g113 ?_ | with_reducible refine Im.and ?_ ?_))); all_goals (first | assumption | trivial | ((with_reducible refine Im.i fun hf_ => ?_); first | exact (I113_16 hf_) | exact (G113 hf_) | exact (KA113 hf_) | exact ok1.i | (exact LI.z (fun h => absurd h (by decide))) | (exact absurd hf_ (by omega)) | omega) | (unfold FPZ; (try simp only [Ks113, Fs113]); omega) | (unfold FQZ; (try simp only [Ks113, Fs113]); omega) | omega | (have zz_ := fz_z (by assumption); omega) | (split <;> omega) | (exact TPqp.z (by first | omega | (simp only [rF_sF, Nat.reduceEqDiff, and_false, and_true, and_self, reduceIte]; omega) | simp only [rF_sF, Nat.reduceEqDiff, and_false, and_true, and_self, reduceIte])) | (exact CCp.mk (by assumption) (by first | omega | (simp only [rF_sF, Nat.reduceEqDiff, and_false, and_true, and_self, reduceIte]; omega))) | done)), ?_⟩
  refine ⟨(by (try simp only [pre_X14_fc, Ks113, Fs113]); (all_goals (repeat' (first | with_reducible intro _ | with_reducible apply And.intro | with_reducible refine Exists.intro g113 ?_ | with_reducible refine Im.and ?_ ?_))); all_goals (first | assumption | trivial | ((with_reducible refine Im.i fun hf_ => ?_); first | exact (I113_16 hf_) | exact (G113 hf_) | exact (KA113 hf_) | exact ok1.i | (exact LI.z (fun h => absurd h (by decide))) | (exact absurd hf_ (by omega)) | omega) | (unfold FPZ; (try simp only [Ks113, Fs113]); omega) | (unfold FQZ; (try simp only [Ks113, Fs113]); omega) | omega | (have zz_ := fz_z (by assumption); omega) | (split <;> omega) | (exact TPqp.z (by first | omega | (simp only [rF_sF, Nat.reduceEqDiff, and_false, and_true, and_self, reduceIte]; omega) | simp only [rF_sF, Nat.reduceEqDiff, and_false, and_true, and_self, reduceIte])) | (exact CCp.mk (by assumption) (by first | omega | (simp only [rF_sF, Nat.reduceEqDiff, and_false, and_true, and_self, reduceIte]; omega))) | done)), ?_⟩
  intro v120 hv120 q120
  unfold rng at hv120
  unfold post_X14_fc at q120
  obtain ⟨q120_1, q120_2⟩ := q120
  (try simp only [Ks113, Fs113, FPZ, FQZ] at q120_1 q120_2)
  refine ⟨fun c125 => ?_, fun c125 => ?_⟩
  · refine ⟨(by (try simp only [rng, Ks113, Fs113]); (all_goals (repeat' (first | with_reducible intro _ | with_reducible apply And.intro | with_reducible refine Exists.intro g113 ?_ | with_reducible refine Im.and ?_ ?_))); all_goals (first | assumption | trivial | ((with_reducible refine Im.i fun hf_ => ?_); first | exact (I113_16 hf_) | exact (G113 hf_) | exact (KA113 hf_) | exact ok1.i | (exact LI.z (fun h => absurd h (by decide))) | (exact absurd hf_ (by omega)) | omega) | (unfold FPZ; (try simp only [Ks113, Fs113]); omega) | (unfold FQZ; (try simp only [Ks113, Fs113]); omega) | omega | (have zz_ := fz_z (by assumption); omega) | (split <;> omega) | (exact TPqp.z (by first | omega | (simp only [rF_sF, Nat.reduceEqDiff, and_false, and_true, and_self, reduceIte]; omega) | simp only [rF_sF, Nat.reduceEqDiff, and_false, and_true, and_self, reduceIte])) | (exact CCp.mk (by assumption) (by first | omega | (simp only [rF_sF, Nat.reduceEqDiff, and_false, and_true, and_self, reduceIte]; omega))) | done)), ?_⟩
    exact (by (try simp only [inv_X14_readBody_143, Ks113, Fs113]); (all_goals (repeat' (first | with_reducible intro _ | with_reducible apply And.intro | with_reducible refine Exists.intro g113 ?_ | with_reducible refine Im.and ?_ ?_))); all_goals (first | assumption | trivial | ((with_reducible refine Im.i fun hf_ => ?_); first | exact (I113_16 hf_) | exact (G113 hf_) | exact (KA113 hf_) | exact ok1.i | (exact LI.z (fun h => absurd h (by decide))) | (exact absurd hf_ (by omega)) | omega) | (unfold FPZ; (try simp only [Ks113, Fs113]); omega) | (unfold FQZ; (try simp only [Ks113, Fs113]); omega) | omega | (have zz_ := fz_z (by assumption); omega) | (split <;> omega) | (exact TPqp.z (by first | omega | (simp only [rF_sF, Nat.reduceEqDiff, and_false, and_true, and_self, reduceIte]; omega) | simp only [rF_sF, Nat.reduceEqDiff, and_false, and_true, and_self, reduceIte])) | (exact CCp.mk (by assumption) (by first | omega | (simp only [rF_sF, Nat.reduceEqDiff, and_false, and_true, and_self, reduceIte]; omega))) | done))
  · refine ⟨(by (try simp only [rng, Ks113, Fs113]); (all_goals (repeat' (first | with_reducible intro _ | with_reducible apply And.intro | with_reducible refine Exists.intro g113 ?_ | with_reducible refine Im.and ?_ ?_))); all_goals (first | assumption | trivial | ((with_reducible refine Im.i fun hf_ => ?_); first | exact (I113_16 hf_) | exact (G113 hf_) | exact (KA113 hf_) | exact ok1.i | (exact LI.z (fun h => absurd h (by decide))) | (exact absurd hf_ (by omega)) | omega) | (unfold FPZ; (try simp only [Ks113, Fs113]); omega) | (unfold FQZ; (try simp only [Ks113, Fs113]); omega) | omega | (have zz_ := fz_z (by assumption); omega) | (split <;> omega) | (exact TPqp.z (by first | omega | (simp only [rF_sF, Nat.reduceEqDiff, and_false, and_true, and_self, reduceIte]; omega) | simp only [rF_sF, Nat.reduceEqDiff, and_false, and_true, and_self, reduceIte])) | (exact CCp.mk (by assumption) (by first | omega | (simp only [rF_sF, Nat.reduceEqDiff, and_false, and_true, and_self, reduceIte]; omega))) | done)), ?_⟩
    exact (by (try simp only [inv_X14_readBody_143, Ks113, Fs113]); (all_goals (repeat' (first | with_reducible intro _ | with_reducible apply And.intro | with_reducible refine Exists.intro g113 ?_ | with_reducible refine Im.and ?_ ?_))); all_goals (first | assumption | trivial | ((with_reducible refine Im.i fun hf_ => ?_); first | exact (I113_16 hf_) | exact (G113 hf_) | exact (KA113 hf_) | exact ok1.i | (exact LI.z (fun h => absurd h (by decide))) | (exact absurd hf_ (by omega)) | omega) | (unfold FPZ; (try simp only [Ks113, Fs113]); omega) | (unfold FQZ; (try simp only [Ks113, Fs113]); omega) | omega | (have zz_ := fz_z (by assumption); omega) | (split <;> omega) | (exact TPqp.z (by first | omega | (simp only [rF_sF, Nat.reduceEqDiff, and_false, and_true, and_self, reduceIte]; omega) | simp only [rF_sF, Nat.reduceEqDiff, and_false, and_true, and_self, reduceIte])) | (exact CCp.mk (by assumption) (by first | omega | (simp only [rF_sF, Nat.reduceEqDiff, and_false, and_true, and_self, reduceIte]; omega))) | done))
theorem wX14_readBody (l : Launch) (G : zG) (κ : Nat → Nat) (σ : rS) (gg : Nat) (U : Int) (g : Nat → Int → Int) (hwf : rWF σ) (Q : Int → rS → Prop) (h : VC_X14_readBody σ gg U g Q) (h_298 : VC_X14_readBody_298 σ gg U g Q) (h_298m : VC_X14_readBody_298m σ gg U g) (h_268 : VC_X14_readBody_268 σ gg U g Q) (h_247 : VC_X14_readBody_247 σ gg U g Q) (h_188 : VC_X14_readBody_188 σ gg U g Q) (h_143 : VC_X14_readBody_143 σ gg U g Q) (h_143m : VC_X14_readBody_143m σ gg U g) (h_113 : VC_X14_readBody_113 σ gg U g Q) : rMi l G κ yX14_readBody cX14_readBody 5 .int 462 18045 [.ref (κ 0)] σ (fun x s => rKeep 0x6c0f3e21c00 0x4100001280 0x13c0c000000 0x3ee0000d7f 0 σ s ∧ Q x s) := by
  refine zMi.intro (by decide +kernel) (Nat.le_of_ble_eq_true rfl) (fun X hC hR => ?_)
  obtain ⟨g0, h⟩ := h
  refine z_aload_n hC (pc := 0) 0 dX14_readBody_0 rfl rfl ?_
  obtain ⟨p10, h⟩ := h
  refine y_callVv hC (pc := 1) (As := []) (kX14_skip l G κ σ  hwf  p10) dmX14_skip zf14 rOb_0 dX14_readBody_1 zw2985 rfl rfl (Nat.le_of_ble_eq_true rfl) (Nat.le_of_ble_eq_true rfl) (Nat.le_of_ble_eq_true rfl) (Nat.le_of_ble_eq_true rfl) (Nat.le_of_ble_eq_true rfl) (kk := fun s1 Ws1 qs1 => ?_)
  have h := h s1 Ws1 (rNMp.keep qs1.1 rfl rfl rfl rfl rfl) (PNp.keep qs1.1 rfl rfl rfl rfl rfl) (CCp.keep qs1.1 rfl rfl rfl rfl rfl rfl rfl) (qs1.1.R rfl) (qs1.1.R rfl) (qs1.1.F rfl) (qs1.1.F rfl) (qs1.1.F rfl) (qs1.1.F rfl) (qs1.1.F rfl) (qs1.1.F rfl) (qs1.1.F rfl) (qs1.1.F rfl) (qs1.1.F rfl) (qs1.1.F rfl) (qs1.1.F rfl) (qs1.1.F rfl) (qs1.1.F rfl) (qs1.1.F rfl) (fun i => qs1.1.A (f := 27) (by decide) rfl) (fun i => qs1.1.A (f := 34) (by decide) rfl) (fun i => qs1.1.A (f := 35) (by decide) rfl) (fun i => qs1.1.A (f := 40) (by decide) rfl) (qs1.1.FG g0 rfl) (qs1.1.FG g0 rfl) (qs1.1.FG g0 rfl) (qs1.1.FG g0 rfl) (qs1.1.FG g0 rfl) (fun i => qs1.1.AG (f := 10) g0 (by decide) rfl) (fun i => qs1.1.AG (f := 11) g0 (by decide) rfl) (RG.keep (c0 := 0) qs1.1 rfl rfl rfl rfl rfl rfl rfl rfl rfl rfl rfl rfl rfl rfl rfl rfl rfl rfl) qs1.2
  refine z_aload_n hC (pc := 4) 0 dX14_readBody_4 rfl rfl ?_
  refine y_get hC (pc := 5) zf14 rOb_0 10 (v := iv (rF s1 0 10)) dX14_readBody_5 zw2478 (rv_i (Or.inl rfl) rfl) (kk := ?_)
  have h := h (Ws1.f _ _)
  obtain ⟨hT, hF⟩ := h
  refine y_if_eq hC (pc := 8) 13 (Ws1.f _ _) dX14_readBody_8 (by decide) (fun c => ?_) (fun c => ?_)
  · have h := hT c
    refine z_aload_n hC (pc := 13) 0 dX14_readBody_13 rfl rfl ?_
    refine y_get hC (pc := 14) zf14 rOb_0 17 (v := iv (rF s1 0 17)) dX14_readBody_14 zw2484 (rv_i (Or.inl rfl) rfl) (kk := ?_)
    have h := h (Ws1.f _ _)
    refine z_istore_n hC (pc := 17) (lv' := [(1, iv (rF s1 0 17)), (0, .ref (κ 0))]) dX14_readBody_17 rfl (by decide) rfl ?_
    refine z_aload_n hC (pc := 18) 1 dX14_readBody_18 rfl rfl ?_
    refine z_iconst hC (pc := 19) (v := Int32.ofInt 0) dX14_readBody_19 (by decide) ?_
    refine y_putI hC (pc := 20) zf14 rOb_0 28 (x := 0) dX14_readBody_20 zw2495 (Or.inl rfl) rfl rfl (kk := ?_)
    have W11 := Ws1.sF (q := 0) (f := 28) (x := 0) (r_lit rfl)
    refine z_aload_n hC (pc := 23) 1 dX14_readBody_23 rfl rfl ?_
    refine z_aload_n hC (pc := 24) 1 dX14_readBody_24 rfl rfl ?_
    refine y_get hC (pc := 25) zf14 rOb_0 17 (v := iv (rF s1 0 17)) dX14_readBody_25 zw2484 (rv_i (Or.inl rfl) ((F_sF_ne (by decide)).trans rfl)) (kk := ?_)
    obtain ⟨p12, h⟩ := h
    refine y_callVi hC (pc := 28) (As := [iv (rF s1 0 17)]) (kX14_fc l G κ (sF s1 0 28 0) (rF s1 0 17) W11 (Ws1.f _ _) p12) dmX14_fc zf14 rOb_0 dX14_readBody_28 zw2993 rfl rfl (Nat.le_of_ble_eq_true rfl) (Nat.le_of_ble_eq_true rfl) (Nat.le_of_ble_eq_true rfl) (Nat.le_of_ble_eq_true rfl) (Nat.le_of_ble_eq_true rfl) (kk := fun v28 s28 hv28 Ws28 qs28 => ?_)
    obtain ⟨es28, qs28⟩ := qs28
    have es28 := es28.symm
    subst es28
    have h := h v28 hv28 qs28
    refine z_bipush hC (pc := 31) (v := Int32.ofInt 34) dX14_readBody_31 (by decide) ?_
    obtain ⟨hT, hF⟩ := h
    refine y_icmp_ne hC (pc := 33) 70 hv28 (r_lit rfl) dX14_readBody_33 (by decide) (fun c => ?_) (fun c => ?_)
    · have h := hT c
      refine z_aload_n hC (pc := 70) 1 dX14_readBody_70 rfl rfl ?_
      refine z_aload_n hC (pc := 71) 1 dX14_readBody_71 rfl rfl ?_
      refine y_get hC (pc := 72) zf14 rOb_0 17 (v := iv (rF s1 0 17)) dX14_readBody_72 zw2484 (rv_i (Or.inl rfl) ((F_sF_ne (by decide)).trans rfl)) (kk := ?_)
      obtain ⟨p13, h⟩ := h
      refine y_callVi hC (pc := 75) (As := [iv (rF s1 0 17)]) (kX14_fc l G κ (sF s1 0 28 0) (rF s1 0 17) W11 (Ws1.f _ _) p13) dmX14_fc zf14 rOb_0 dX14_readBody_75 zw2993 rfl rfl (Nat.le_of_ble_eq_true rfl) (Nat.le_of_ble_eq_true rfl) (Nat.le_of_ble_eq_true rfl) (Nat.le_of_ble_eq_true rfl) (Nat.le_of_ble_eq_true rfl) (kk := fun v75 s75 hv75 Ws75 qs75 => ?_)
      obtain ⟨es75, qs75⟩ := qs75
      have es75 := es75.symm
      subst es75
      have h := h v75 hv75 qs75
      refine z_bipush hC (pc := 78) (v := Int32.ofInt 60) dX14_readBody_78 (by decide) ?_
      obtain ⟨hT, hF⟩ := h
      refine y_icmp_ne hC (pc := 80) 285 hv75 (r_lit rfl) dX14_readBody_80 (by decide) (fun c => ?_) (fun c => ?_)
      · have h := hT c
        refine z_aload_n hC (pc := 285) 1 dX14_readBody_285 rfl rfl ?_
        refine z_iconst hC (pc := 286) (v := Int32.ofInt 1) dX14_readBody_286 (by decide) ?_
        refine z_aload_n hC (pc := 287) 1 dX14_readBody_287 rfl rfl ?_
        refine y_get hC (pc := 288) zf14 rOb_0 17 (v := iv (rF s1 0 17)) dX14_readBody_288 zw2484 (rv_i (Or.inl rfl) ((F_sF_ne (by decide)).trans rfl)) (kk := ?_)
        obtain ⟨p14, h⟩ := h
        refine y_callVv hC (pc := 291) (As := [iv 1, iv (rF s1 0 17)]) (kX14_bad l G κ (sF s1 0 28 0) 1 (rF s1 0 17) W11 (r_lit rfl) (Ws1.f _ _) p14) dmX14_bad zf14 rOb_0 dX14_readBody_291 zw3000 rfl rfl (Nat.le_of_ble_eq_true rfl) (Nat.le_of_ble_eq_true rfl) (Nat.le_of_ble_eq_true rfl) (Nat.le_of_ble_eq_true rfl) (Nat.le_of_ble_eq_true rfl) (kk := fun s291 Ws291 qs291 => ?_)
        have h := h s291 Ws291 (rNMp.keep qs291.1 rfl rfl rfl rfl rfl) (PNp.keep qs291.1 rfl rfl rfl rfl rfl) (CCp.keep qs291.1 rfl rfl rfl rfl rfl rfl rfl) (qs291.1.R rfl) (qs291.1.R rfl) (qs291.1.F rfl) (qs291.1.F rfl) (qs291.1.F rfl) (qs291.1.F rfl) (qs291.1.F rfl) (qs291.1.F rfl) (qs291.1.F rfl) (qs291.1.F rfl) (qs291.1.F rfl) (qs291.1.F rfl) (qs291.1.F rfl) (qs291.1.F rfl) (qs291.1.F rfl) (qs291.1.F rfl) (qs291.1.F rfl) (fun i => qs291.1.A (f := 27) (by decide) rfl) (fun i => qs291.1.A (f := 34) (by decide) rfl) (fun i => qs291.1.A (f := 35) (by decide) rfl) (fun i => qs291.1.A (f := 40) (by decide) rfl) (qs291.1.FG g0 rfl) (qs291.1.FG g0 rfl) (qs291.1.FG g0 rfl) (qs291.1.FG g0 rfl) (qs291.1.FG g0 rfl) (fun i => qs291.1.AG (f := 10) g0 (by decide) rfl) (fun i => qs291.1.AG (f := 11) g0 (by decide) rfl) (RG.keep (c0 := 0) qs291.1 rfl rfl rfl rfl rfl rfl rfl rfl rfl rfl rfl rfl rfl rfl rfl rfl rfl rfl) qs291.2
        refine z_iconst hC (pc := 294) (v := Int32.ofInt 0) dX14_readBody_294 (by decide) ?_
        exact y_reti hR dX14_readBody_295 rfl (r_lit rfl) Ws291 (Nat.le_of_ble_eq_true rfl) (Nat.le_of_ble_eq_true rfl) ⟨(rKeep.tr (rKeep.tr (rKeep.tr rKeep.rf qs1.1 rfl rfl rfl rfl rfl) (rKeep.sF0 (f := 28)) rfl rfl rfl rfl rfl) qs291.1 rfl rfl rfl rfl rfl), h⟩
      · have h := hF c
        refine z_aload_n hC (pc := 83) 1 dX14_readBody_83 rfl rfl ?_
        refine z_aload_n hC (pc := 84) 1 dX14_readBody_84 rfl rfl ?_
        refine y_get hC (pc := 85) zf14 rOb_0 17 (v := iv (rF s1 0 17)) dX14_readBody_85 zw2484 (rv_i (Or.inl rfl) ((F_sF_ne (by decide)).trans rfl)) (kk := ?_)
        refine z_iconst hC (pc := 88) (v := Int32.ofInt 1) dX14_readBody_88 (by decide) ?_
        refine y_iadd hC (pc := 89) (v := ((rF s1 0 17) + 1)) dX14_readBody_89 rfl ?_
        obtain ⟨r15, h⟩ := h
        obtain ⟨p16, h⟩ := h
        refine y_callVi hC (pc := 90) (As := [iv ((rF s1 0 17) + 1)]) (kX14_fc l G κ (sF s1 0 28 0) ((rF s1 0 17) + 1) W11 r15 p16) dmX14_fc zf14 rOb_0 dX14_readBody_90 zw2993 rfl rfl (Nat.le_of_ble_eq_true rfl) (Nat.le_of_ble_eq_true rfl) (Nat.le_of_ble_eq_true rfl) (Nat.le_of_ble_eq_true rfl) (Nat.le_of_ble_eq_true rfl) (kk := fun v90 s90 hv90 Ws90 qs90 => ?_)
        obtain ⟨es90, qs90⟩ := qs90
        have es90 := es90.symm
        subst es90
        have h := h v90 hv90 qs90
        refine z_bipush hC (pc := 93) (v := Int32.ofInt 60) dX14_readBody_93 (by decide) ?_
        have j113 : ∀ (s113 : rS) , rWF s113 → rKeep 0x6c0f3e21c00 0x4100001280 0x13c0c000000 0x3ee0000d7f 0 σ s113 → inv_X14_readBody_113 σ gg U g s113 → zS X G 5 (rW G κ s113) [(0, .ref (κ 0))] 0 0 113 [] := by
          intro s113 Ws113 kJ hI
          have h := h_113  s113  Ws113  (kJ.R rfl) (kJ.R rfl) (kJ.F rfl) (kJ.F rfl) (kJ.F rfl) (kJ.F rfl) (kJ.F rfl) hI
          refine z_aload_n hC (pc := 113) 0 dX14_readBody_113 rfl rfl ?_
          refine z_aload_n hC (pc := 114) 0 dX14_readBody_114 rfl rfl ?_
          refine y_get hC (pc := 115) zf14 rOb_0 17 (v := iv (rF s113 0 17)) dX14_readBody_115 zw2484 (rv_i (Or.inl rfl) rfl) (kk := ?_)
          have h := h (Ws113.f _ _)
          refine z_iconst hC (pc := 118) (v := Int32.ofInt 1) dX14_readBody_118 (by decide) ?_
          refine y_iadd hC (pc := 119) (v := ((rF s113 0 17) + 1)) dX14_readBody_119 rfl ?_
          obtain ⟨r17, h⟩ := h
          obtain ⟨p18, h⟩ := h
          refine y_callVi hC (pc := 120) (As := [iv ((rF s113 0 17) + 1)]) (kX14_fc l G κ s113 ((rF s113 0 17) + 1) Ws113 r17 p18) dmX14_fc zf14 rOb_0 dX14_readBody_120 zw2993 rfl rfl (Nat.le_of_ble_eq_true rfl) (Nat.le_of_ble_eq_true rfl) (Nat.le_of_ble_eq_true rfl) (Nat.le_of_ble_eq_true rfl) (Nat.le_of_ble_eq_true rfl) (kk := fun v120 s120 hv120 Ws120 qs120 => ?_)
          obtain ⟨es120, qs120⟩ := qs120
          have es120 := es120.symm
          subst es120
          have h := h v120 hv120 qs120
          refine z_bipush hC (pc := 123) (v := Int32.ofInt 60) dX14_readBody_123 (by decide) ?_
          obtain ⟨hT, hF⟩ := h
          refine y_icmp_ne hC (pc := 125) 132 hv120 (r_lit rfl) dX14_readBody_125 (by decide) (fun c => ?_) (fun c => ?_)
          · have h := hT c
            refine z_iconst hC (pc := 132) (v := Int32.ofInt 0) dX14_readBody_132 (by decide) ?_
            refine z_istore_n hC (pc := 133) (lv' := [(3, iv 0), (0, .ref (κ 0))]) dX14_readBody_133 rfl (by decide) rfl ?_
            refine z_aload_n hC (pc := 134) 1 dX14_readBody_134 rfl rfl ?_
            refine y_get hC (pc := 135) zf14 rOb_0 17 (v := iv (rF s113 0 17)) dX14_readBody_135 zw2484 (rv_i (Or.inl rfl) rfl) (kk := ?_)
            refine z_iconst hC (pc := 138) (v := Int32.ofInt 2) dX14_readBody_138 (by decide) ?_
            refine y_iadd hC (pc := 139) (v := ((rF s113 0 17) + 2)) dX14_readBody_139 rfl ?_
            refine z_istore_n hC (pc := 140) (lv' := [(1, iv ((rF s113 0 17) + 2)), (3, iv 0), (0, .ref (κ 0))]) dX14_readBody_140 rfl (by decide) rfl ?_
            refine z_iload_n hC (pc := 141) 0 dX14_readBody_141 rfl rfl ?_
            refine z_istore_n hC (pc := 142) (lv' := [(2, iv ((rF s113 0 17) + 2)), (1, iv ((rF s113 0 17) + 2)), (3, iv 0), (0, .ref (κ 0))]) dX14_readBody_142 rfl (by decide) rfl ?_
            have j143 : ∀ (d143 : Nat), ∀ (s143 : rS) (y143_1 : Int) (y143_2 : Int) (y143_3 : Int), rWF s143 → rng y143_1 → rng y143_2 → rng y143_3 → rKeep 0x6c0f3e21c00 0x4100001280 0x13c0c000000 0x3ee0000d7f 0 σ s143 → inv_X14_readBody_143 σ gg U g s143 y143_1 y143_2 y143_3 → (mu_X14_readBody_143 σ gg U g s143 y143_1 y143_2 y143_3) ≤ d143 → zS X G 5 (rW G κ s143) [(0, .ref (κ 0)), (1, iv y143_1), (2, iv y143_2), (3, iv y143_3)] 0 0 143 [] := by
              intro d143
              induction d143 with
              | zero =>
                intro s143 y143_1 y143_2 y143_3 Ws143 hy143_1 hy143_2 hy143_3 kJ hI hmu
                exact absurd hmu (by have := h_143m  s143 y143_1 y143_2 y143_3 Ws143 hy143_1 hy143_2 hy143_3 (kJ.R rfl) (kJ.R rfl) (kJ.F rfl) (kJ.F rfl) (kJ.F rfl) (kJ.F rfl) (kJ.F rfl) hI; omega)
              | succ d143 ih143 =>
                intro s143 y143_1 y143_2 y143_3 Ws143 hy143_1 hy143_2 hy143_3 kJ hI hmu143
                have h := h_143  s143 y143_1 y143_2 y143_3 Ws143 hy143_1 hy143_2 hy143_3 (kJ.R rfl) (kJ.R rfl) (kJ.F rfl) (kJ.F rfl) (kJ.F rfl) (kJ.F rfl) (kJ.F rfl) hI
                refine z_iload_n hC (pc := 143) 2 dX14_readBody_143 rfl rfl ?_
                refine z_aload_n hC (pc := 144) 0 dX14_readBody_144 rfl rfl ?_
                refine y_get hC (pc := 145) zf14 rOb_0 16 (v := iv (rF s143 0 16)) dX14_readBody_145 zw2483 (rv_i (Or.inl rfl) rfl) (kk := ?_)
                have h := h (Ws143.f _ _)
                have j188 : ∀ (s188 : rS) (y188_1 : Int) (y188_2 : Int) (y188_3 : Int), rWF s188 → rng y188_1 → rng y188_2 → rng y188_3 → rKeep 0x6c0f3e21c00 0x4100001280 0x13c0c000000 0x3ee0000d7f 0 σ s188 → inv_X14_readBody_188 σ gg U g s188 y188_1 y188_2 y188_3 → zS X G 5 (rW G κ s188) [(0, .ref (κ 0)), (1, iv y188_1), (2, iv y188_2), (3, iv y188_3)] 0 0 188 [] := by
                  intro s188 y188_1 y188_2 y188_3 Ws188 hy188_1 hy188_2 hy188_3 kJ hI
                  have h := h_188  s188 y188_1 y188_2 y188_3 Ws188 hy188_1 hy188_2 hy188_3 (kJ.R rfl) (kJ.R rfl) (kJ.F rfl) (kJ.F rfl) (kJ.F rfl) (kJ.F rfl) (kJ.F rfl) hI
                  refine z_iload_n hC (pc := 188) 2 dX14_readBody_188 rfl rfl ?_
                  refine z_aload_n hC (pc := 189) 0 dX14_readBody_189 rfl rfl ?_
                  refine y_get hC (pc := 190) zf14 rOb_0 16 (v := iv (rF s188 0 16)) dX14_readBody_190 zw2483 (rv_i (Or.inl rfl) rfl) (kk := ?_)
                  have h := h (Ws188.f _ _)
                  obtain ⟨hT, hF⟩ := h
                  refine y_icmp_lt hC (pc := 193) 207 hy188_2 (Ws188.f _ _) dX14_readBody_193 (by decide) (fun c => ?_) (fun c => ?_)
                  · have h := hT c
                    refine z_aload_n hC (pc := 207) 0 dX14_readBody_207 rfl rfl ?_
                    refine z_iload_n hC (pc := 208) 2 dX14_readBody_208 rfl rfl ?_
                    refine z_iconst hC (pc := 209) (v := Int32.ofInt 2) dX14_readBody_209 (by decide) ?_
                    refine y_iadd hC (pc := 210) (v := (y188_2 + 2)) dX14_readBody_210 rfl ?_
                    obtain ⟨r19, h⟩ := h
                    refine y_putI hC (pc := 211) zf14 rOb_0 17 (x := (y188_2 + 2)) dX14_readBody_211 zw2484 (Or.inl rfl) rfl rfl (kk := ?_)
                    have W20 := Ws188.sF (q := 0) (f := 17) (x := (y188_2 + 2)) r19
                    refine z_aload_n hC (pc := 214) 0 dX14_readBody_214 rfl rfl ?_
                    refine z_iload_n hC (pc := 215) 2 dX14_readBody_215 rfl rfl ?_
                    refine y_putI hC (pc := 216) zf14 rOb_0 30 (x := y188_2) dX14_readBody_216 zw2497 (Or.inl rfl) rfl rfl (kk := ?_)
                    have W21 := W20.sF (q := 0) (f := 30) (x := y188_2) hy188_2
                    refine z_iload_n hC (pc := 219) 3 dX14_readBody_219 rfl rfl ?_
                    obtain ⟨hT, hF⟩ := h
                    refine y_if_eq hC (pc := 220) 271 hy188_3 dX14_readBody_220 (by decide) (fun c => ?_) (fun c => ?_)
                    · have h := hT c
                      refine z_aload_n hC (pc := 271) 0 dX14_readBody_271 rfl rfl ?_
                      refine z_iload_n hC (pc := 272) 1 dX14_readBody_272 rfl rfl ?_
                      refine z_iload_n hC (pc := 273) 2 dX14_readBody_273 rfl rfl ?_
                      obtain ⟨p22, h⟩ := h
                      refine y_callVv hC (pc := 274) (As := [iv y188_1, iv y188_2]) (kX14_packed_f l G κ (sF (sF s188 0 17 (y188_2 + 2)) 0 30 y188_2) y188_1 y188_2 W21 hy188_1 hy188_2 p22) dmX14_packed zf14 rOb_0 dX14_readBody_274 zw3083 rfl rfl (Nat.le_of_ble_eq_true rfl) (Nat.le_of_ble_eq_true rfl) (Nat.le_of_ble_eq_true rfl) (Nat.le_of_ble_eq_true rfl) (Nat.le_of_ble_eq_true rfl) (kk := fun s274 Ws274 qs274 => ?_)
                      have h := h s274 Ws274 (rNMp.keep qs274.1 rfl rfl rfl rfl rfl) (PNp.keep qs274.1 rfl rfl rfl rfl rfl) (qs274.1.R rfl) (qs274.1.R rfl) (qs274.1.F rfl) (qs274.1.F rfl) (qs274.1.F rfl) (qs274.1.F rfl) (qs274.1.F rfl) (qs274.1.F rfl) (qs274.1.F rfl) (qs274.1.F rfl) (qs274.1.F rfl) (qs274.1.F rfl) (qs274.1.F rfl) (qs274.1.F rfl) (qs274.1.F rfl) (qs274.1.F rfl) (qs274.1.F rfl) (fun i => qs274.1.A (f := 34) (by decide) rfl) (fun i => qs274.1.A (f := 35) (by decide) rfl) (fun i => qs274.1.A (f := 40) (by decide) rfl) (qs274.1.FG g0 rfl) (qs274.1.FG g0 rfl) (qs274.1.FG g0 rfl) (qs274.1.FG g0 rfl) (qs274.1.FG g0 rfl) (fun i => qs274.1.AG (f := 10) g0 (by decide) rfl) (fun i => qs274.1.AG (f := 11) g0 (by decide) rfl) (fz_keep qs274.1 rfl) (RG.keep (c0 := 0) qs274.1 rfl rfl rfl rfl rfl rfl rfl rfl rfl rfl rfl rfl rfl rfl rfl rfl rfl rfl) qs274.2
                      refine z_aload_n hC (pc := 277) 0 dX14_readBody_277 rfl rfl ?_
                      obtain ⟨g23, h⟩ := h
                      obtain ⟨p24, h⟩ := h
                      refine y_callVi hC (pc := 278) (As := []) (kX14_wholeText l G κ s274 gg g23 Ws274  p24) dmX14_wholeText zf14 rOb_0 dX14_readBody_278 zw3091 rfl rfl (Nat.le_of_ble_eq_true rfl) (Nat.le_of_ble_eq_true rfl) (Nat.le_of_ble_eq_true rfl) (Nat.le_of_ble_eq_true rfl) (Nat.le_of_ble_eq_true rfl) (kk := fun v278 s278 hv278 Ws278 qs278 => ?_)
                      have h := h v278 s278 hv278 Ws278 (CCp.keep qs278.1 rfl rfl rfl rfl rfl rfl rfl) (qs278.1.R rfl) (qs278.1.R rfl) (qs278.1.F rfl) (qs278.1.F rfl) (qs278.1.F rfl) (qs278.1.F rfl) (qs278.1.F rfl) (qs278.1.F rfl) (qs278.1.F rfl) (qs278.1.F rfl) (qs278.1.F rfl) (qs278.1.F rfl) (qs278.1.F rfl) (fun i => qs278.1.A (f := 27) (by decide) rfl) qs278.2
                      exact y_reti hR dX14_readBody_281 rfl hv278 Ws278 (Nat.le_of_ble_eq_true rfl) (Nat.le_of_ble_eq_true rfl) ⟨(rKeep.tr (rKeep.tr (rKeep.tr (rKeep.tr (rKeep.tr rKeep.rf kJ rfl rfl rfl rfl rfl) (rKeep.sF0 (f := 17)) rfl rfl rfl rfl rfl) (rKeep.sF0 (f := 30)) rfl rfl rfl rfl rfl) qs274.1 rfl rfl rfl rfl rfl) qs278.1 rfl rfl rfl rfl rfl), h⟩
                    · have h := hF c
                      refine z_iload_n hC (pc := 223) 2 dX14_readBody_223 rfl rfl ?_
                      refine z_iload_n hC (pc := 224) 1 dX14_readBody_224 rfl rfl ?_
                      refine y_isub hC (pc := 225) (v := (y188_2 - y188_1)) dX14_readBody_225 rfl ?_
                      refine z_istore hC (pc := 226) (lv' := [(4, iv (y188_2 - y188_1)), (0, .ref (κ 0)), (1, iv y188_1), (2, iv y188_2), (3, iv y188_3)]) dX14_readBody_226 (by decide) rfl ?_
                      refine z_iload hC (pc := 228) 0 dX14_readBody_228 rfl ?_
                      have j247 : ∀ (s247 : rS) (y247_1 : Int) (y247_2 : Int), rWF s247 → rng y247_1 → rng y247_2 → rKeep 0x6c0f3e21c00 0x4100001280 0x13c0c000000 0x3ee0000d7f 0 σ s247 → inv_X14_readBody_247 σ gg U g s247 y247_1 y247_2 → zS X G 5 (rW G κ s247) [(0, .ref (κ 0)), (1, iv y247_1), (2, iv y247_2)] 0 0 247 [] := by
                        intro s247 y247_1 y247_2 Ws247 hy247_1 hy247_2 kJ hI
                        have h := h_247  s247 y247_1 y247_2 Ws247 hy247_1 hy247_2 (kJ.R rfl) (kJ.R rfl) (kJ.F rfl) (kJ.F rfl) (kJ.F rfl) (kJ.F rfl) (kJ.F rfl) hI
                        refine z_iload_n hC (pc := 247) 2 dX14_readBody_247 rfl rfl ?_
                        refine z_iload_n hC (pc := 248) 1 dX14_readBody_248 rfl rfl ?_
                        have j268 : ∀ (s268 : rS) (y268_1 : Int) (y268_2 : Int), rWF s268 → rng y268_1 → rng y268_2 → rKeep 0x6c0f3e21c00 0x4100001280 0x13c0c000000 0x3ee0000d7f 0 σ s268 → inv_X14_readBody_268 σ gg U g s268 y268_1 y268_2 → zS X G 5 (rW G κ s268) [(0, .ref (κ 0)), (1, iv y268_1), (2, iv y268_2)] 0 0 268 [] := by
                          intro s268 y268_1 y268_2 Ws268 hy268_1 hy268_2 kJ hI
                          have h := h_268  s268 y268_1 y268_2 Ws268 hy268_1 hy268_2 (kJ.R rfl) (kJ.R rfl) (kJ.F rfl) (kJ.F rfl) (kJ.F rfl) (kJ.F rfl) (kJ.F rfl) hI
                          refine z_goto hC (pc := 268) 282 dX14_readBody_268 (by decide) ?_
                          refine z_goto hC (pc := 282) 296 dX14_readBody_282 (by decide) ?_
                          refine z_iload_n hC (pc := 296) 1 dX14_readBody_296 rfl rfl ?_
                          refine z_istore_n hC (pc := 297) (lv' := [(3, iv y268_1), (0, .ref (κ 0)), (1, iv y268_1), (2, iv y268_2)]) dX14_readBody_297 rfl (by decide) rfl ?_
                          have j298 : ∀ (d298 : Nat), ∀ (s298 : rS) (y298_2 : Int) (y298_3 : Int), rWF s298 → rng y298_2 → rng y298_3 → rKeep 0x6c0f3e21c00 0x4100001280 0x13c0c000000 0x3ee0000d7f 0 σ s298 → inv_X14_readBody_298 σ gg U g s298 y298_2 y298_3 → (mu_X14_readBody_298 σ gg U g s298 y298_2 y298_3) ≤ d298 → zS X G 5 (rW G κ s298) [(0, .ref (κ 0)), (2, iv y298_2), (3, iv y298_3)] 0 0 298 [] := by
                            intro d298
                            induction d298 with
                            | zero =>
                              intro s298 y298_2 y298_3 Ws298 hy298_2 hy298_3 kJ hI hmu
                              exact absurd hmu (by have := h_298m  s298 y298_2 y298_3 Ws298 hy298_2 hy298_3 (kJ.R rfl) (kJ.R rfl) (kJ.F rfl) (kJ.F rfl) (kJ.F rfl) (kJ.F rfl) (kJ.F rfl) hI; omega)
                            | succ d298 ih298 =>
                              intro s298 y298_2 y298_3 Ws298 hy298_2 hy298_3 kJ hI hmu298
                              have h := h_298  s298 y298_2 y298_3 Ws298 hy298_2 hy298_3 (kJ.R rfl) (kJ.R rfl) (kJ.F rfl) (kJ.F rfl) (kJ.F rfl) (kJ.F rfl) (kJ.F rfl) hI
                              refine z_iload_n hC (pc := 298) 2 dX14_readBody_298 rfl rfl ?_
                              refine z_iload_n hC (pc := 299) 1 dX14_readBody_299 rfl rfl ?_
                              obtain ⟨hT, hF⟩ := h
                              refine y_icmp_ge hC (pc := 300) 320 hy298_3 hy298_2 dX14_readBody_300 (by decide) (fun c => ?_) (fun c => ?_)
                              · have h := hT c
                                refine z_aload_n hC (pc := 320) 0 dX14_readBody_320 rfl rfl ?_
                                obtain ⟨g25, h⟩ := h
                                obtain ⟨p26, h⟩ := h
                                refine y_callVi hC (pc := 321) (As := []) (kX14_wholeText l G κ s298 gg g25 Ws298  p26) dmX14_wholeText zf14 rOb_0 dX14_readBody_321 zw3091 rfl rfl (Nat.le_of_ble_eq_true rfl) (Nat.le_of_ble_eq_true rfl) (Nat.le_of_ble_eq_true rfl) (Nat.le_of_ble_eq_true rfl) (Nat.le_of_ble_eq_true rfl) (kk := fun v321 s321 hv321 Ws321 qs321 => ?_)
                                have h := h v321 s321 hv321 Ws321 (CCp.keep qs321.1 rfl rfl rfl rfl rfl rfl rfl) (qs321.1.R rfl) (qs321.1.R rfl) (qs321.1.F rfl) (qs321.1.F rfl) (qs321.1.F rfl) (qs321.1.F rfl) (qs321.1.F rfl) (qs321.1.F rfl) (qs321.1.F rfl) (qs321.1.F rfl) (qs321.1.F rfl) (qs321.1.F rfl) (qs321.1.F rfl) (fun i => qs321.1.A (f := 27) (by decide) rfl) qs321.2
                                exact y_reti hR dX14_readBody_324 rfl hv321 Ws321 (Nat.le_of_ble_eq_true rfl) (Nat.le_of_ble_eq_true rfl) ⟨(rKeep.tr (rKeep.tr rKeep.rf kJ rfl rfl rfl rfl rfl) qs321.1 rfl rfl rfl rfl rfl), h⟩
                              · have h := hF c
                                refine z_aload_n hC (pc := 303) 0 dX14_readBody_303 rfl rfl ?_
                                refine z_aload_n hC (pc := 304) 0 dX14_readBody_304 rfl rfl ?_
                                obtain ⟨g27, h⟩ := h
                                refine y_get hC (pc := 305) zf14 rOb_0 15 (v := .ref (κ (rR s298 15))) dX14_readBody_305 zw2482 (rv_b rfl rfl g27) (kk := ?_)
                                refine z_iload_n hC (pc := 308) 2 dX14_readBody_308 rfl rfl ?_
                                obtain ⟨b28, h⟩ := h
                                refine y_bald hC (pc := 309) (rAr_f g27) dX14_readBody_309 b28 (v := (rA s298 (rR s298 15) y298_3)) rfl (kk := ?_)
                                have h := h (Ws298.a _ _)
                                refine z_iload_n hC (pc := 310) 2 dX14_readBody_310 rfl rfl ?_
                                obtain ⟨p29, h⟩ := h
                                refine y_callVv hC (pc := 311) (As := [iv (rA s298 (rR s298 15) y298_3), iv y298_3]) (kX14_addByte_f l G κ s298 (rA s298 (rR s298 15) y298_3) y298_3 Ws298 (Ws298.a _ _) hy298_3 p29) dmX14_addByte zf14 rOb_0 dX14_readBody_311 zw3087 rfl rfl (Nat.le_of_ble_eq_true rfl) (Nat.le_of_ble_eq_true rfl) (Nat.le_of_ble_eq_true rfl) (Nat.le_of_ble_eq_true rfl) (Nat.le_of_ble_eq_true rfl) (kk := fun s311 Ws311 qs311 => ?_)
                                have h := h s311 Ws311 (rNMp.keep qs311.1 rfl rfl rfl rfl rfl) (PNp.keep qs311.1 rfl rfl rfl rfl rfl) (qs311.1.R rfl) (qs311.1.R rfl) (qs311.1.F rfl) (qs311.1.F rfl) (qs311.1.F rfl) (qs311.1.F rfl) (qs311.1.F rfl) (qs311.1.F rfl) (qs311.1.F rfl) (qs311.1.F rfl) (qs311.1.F rfl) (qs311.1.F rfl) (qs311.1.F rfl) (qs311.1.F rfl) (qs311.1.F rfl) (qs311.1.F rfl) (qs311.1.F rfl) (fun i => qs311.1.A (f := 34) (by decide) rfl) (fun i => qs311.1.A (f := 35) (by decide) rfl) (fun i => qs311.1.A (f := 40) (by decide) rfl) (qs311.1.FG g0 rfl) (qs311.1.FG g0 rfl) (qs311.1.FG g0 rfl) (qs311.1.FG g0 rfl) (qs311.1.FG g0 rfl) (fun i => qs311.1.AG (f := 10) g0 (by decide) rfl) (fun i => qs311.1.AG (f := 11) g0 (by decide) rfl) (fz_keep qs311.1 rfl) (RG.keep (c0 := 0) qs311.1 rfl rfl rfl rfl rfl rfl rfl rfl rfl rfl rfl rfl rfl rfl rfl rfl rfl rfl) qs311.2
                                refine y_iinc hC (pc := 314) (v := (y298_3 + 1)) (lv' := [(3, iv (y298_3 + 1)), (0, .ref (κ 0)), (2, iv y298_2)]) 2 dX14_readBody_314 rfl rfl (by decide) rfl ?_
                                refine z_goto hC (pc := 317) 298 dX14_readBody_317 (by decide) ?_
                                refine z_lvs [1, 2, 0] rfl ?_
                                obtain ⟨r30, h⟩ := h
                                obtain ⟨hI, hm⟩ := h
                                exact ih298 s311 y298_2 (y298_3 + 1) Ws311 hy298_2 r30 (rKeep.tr (rKeep.tr rKeep.rf kJ rfl rfl rfl rfl rfl) qs311.1 rfl rfl rfl rfl rfl) hI (by omega)
                          refine z_lvs [1, 3, 0] rfl ?_
                          exact j298 _ s268 y268_2 y268_1 Ws268 hy268_2 hy268_1 (rKeep.tr rKeep.rf kJ rfl rfl rfl rfl rfl) h (Nat.le_refl _)
                        obtain ⟨hT, hF⟩ := h
                        refine y_icmp_le hC (pc := 249) 268 hy247_2 hy247_1 dX14_readBody_249 (by decide) (fun c => ?_) (fun c => ?_)
                        · have h := hT c
                          exact j268 s247 y247_1 y247_2 Ws247 hy247_1 hy247_2 (rKeep.tr rKeep.rf kJ rfl rfl rfl rfl rfl) h
                        · have h := hF c
                          refine z_aload_n hC (pc := 252) 0 dX14_readBody_252 rfl rfl ?_
                          obtain ⟨g31, h⟩ := h
                          refine y_get hC (pc := 253) zf14 rOb_0 15 (v := .ref (κ (rR s247 15))) dX14_readBody_253 zw2482 (rv_b rfl rfl g31) (kk := ?_)
                          refine z_iload_n hC (pc := 256) 2 dX14_readBody_256 rfl rfl ?_
                          refine z_iconst hC (pc := 257) (v := Int32.ofInt 1) dX14_readBody_257 (by decide) ?_
                          refine y_isub hC (pc := 258) (v := (y247_2 - 1)) dX14_readBody_258 rfl ?_
                          obtain ⟨b32, h⟩ := h
                          refine y_bald hC (pc := 259) (rAr_f g31) dX14_readBody_259 b32 (v := (rA s247 (rR s247 15) (y247_2 - 1))) rfl (kk := ?_)
                          have h := h (Ws247.a _ _)
                          refine z_bipush hC (pc := 260) (v := Int32.ofInt 10) dX14_readBody_260 (by decide) ?_
                          obtain ⟨hT, hF⟩ := h
                          refine y_icmp_ne hC (pc := 262) 268 (Ws247.a _ _) (r_lit rfl) dX14_readBody_262 (by decide) (fun c => ?_) (fun c => ?_)
                          · have h := hT c
                            exact j268 s247 y247_1 y247_2 Ws247 hy247_1 hy247_2 (rKeep.tr rKeep.rf kJ rfl rfl rfl rfl rfl) h
                          · have h := hF c
                            refine y_iinc hC (pc := 265) (v := (y247_2 + (-1))) (lv' := [(2, iv (y247_2 + (-1))), (0, .ref (κ 0)), (1, iv y247_1)]) 2 dX14_readBody_265 rfl rfl (by decide) rfl ?_
                            refine z_lvs [1, 2, 0] rfl ?_
                            obtain ⟨r33, h⟩ := h
                            exact j268 s247 y247_1 (y247_2 + (-1)) Ws247 hy247_1 r33 (rKeep.tr rKeep.rf kJ rfl rfl rfl rfl rfl) h
                      obtain ⟨r34, h⟩ := h
                      obtain ⟨hT, hF⟩ := h
                      refine y_if_le hC (pc := 230) 247 r34 dX14_readBody_230 (by decide) (fun c => ?_) (fun c => ?_)
                      · have h := hT c
                        refine z_lvs [1, 2, 3] rfl ?_
                        exact j247 (sF (sF s188 0 17 (y188_2 + 2)) 0 30 y188_2) y188_1 y188_2 W21 hy188_1 hy188_2 (rKeep.tr (rKeep.tr (rKeep.tr rKeep.rf kJ rfl rfl rfl rfl rfl) (rKeep.sF0 (f := 17)) rfl rfl rfl rfl rfl) (rKeep.sF0 (f := 30)) rfl rfl rfl rfl rfl) h
                      · have h := hF c
                        refine z_aload_n hC (pc := 233) 1 dX14_readBody_233 rfl rfl ?_
                        obtain ⟨g35, h⟩ := h
                        refine y_get hC (pc := 234) zf14 rOb_0 15 (v := .ref (κ (rR s188 15))) dX14_readBody_234 zw2482 (rv_b rfl rfl g35) (kk := ?_)
                        refine z_iload_n hC (pc := 237) 2 dX14_readBody_237 rfl rfl ?_
                        obtain ⟨b36, h⟩ := h
                        refine y_bald hC (pc := 238) (rAr_f g35) dX14_readBody_238 b36 (v := (rA s188 (rR s188 15) y188_1)) rfl (kk := ?_)
                        have h := h (Ws188.a _ _)
                        refine z_bipush hC (pc := 239) (v := Int32.ofInt 10) dX14_readBody_239 (by decide) ?_
                        obtain ⟨hT, hF⟩ := h
                        refine y_icmp_ne hC (pc := 241) 247 (Ws188.a _ _) (r_lit rfl) dX14_readBody_241 (by decide) (fun c => ?_) (fun c => ?_)
                        · have h := hT c
                          refine z_lvs [1, 2, 3] rfl ?_
                          exact j247 (sF (sF s188 0 17 (y188_2 + 2)) 0 30 y188_2) y188_1 y188_2 W21 hy188_1 hy188_2 (rKeep.tr (rKeep.tr (rKeep.tr rKeep.rf kJ rfl rfl rfl rfl rfl) (rKeep.sF0 (f := 17)) rfl rfl rfl rfl rfl) (rKeep.sF0 (f := 30)) rfl rfl rfl rfl rfl) h
                        · have h := hF c
                          refine y_iinc hC (pc := 244) (v := (y188_1 + 1)) (lv' := [(1, iv (y188_1 + 1)), (4, iv (y188_2 - y188_1)), (0, .ref (κ 0)), (2, iv y188_2), (3, iv y188_3)]) 2 dX14_readBody_244 rfl rfl (by decide) rfl ?_
                          refine z_lvs [2, 0, 3] rfl ?_
                          obtain ⟨r37, h⟩ := h
                          exact j247 (sF (sF s188 0 17 (y188_2 + 2)) 0 30 y188_2) (y188_1 + 1) y188_2 W21 r37 hy188_2 (rKeep.tr (rKeep.tr (rKeep.tr rKeep.rf kJ rfl rfl rfl rfl rfl) (rKeep.sF0 (f := 17)) rfl rfl rfl rfl rfl) (rKeep.sF0 (f := 30)) rfl rfl rfl rfl rfl) h
                  · have h := hF c
                    refine z_aload_n hC (pc := 196) 0 dX14_readBody_196 rfl rfl ?_
                    refine z_iconst hC (pc := 197) (v := Int32.ofInt 1) dX14_readBody_197 (by decide) ?_
                    refine z_aload_n hC (pc := 198) 0 dX14_readBody_198 rfl rfl ?_
                    refine y_get hC (pc := 199) zf14 rOb_0 16 (v := iv (rF s188 0 16)) dX14_readBody_199 zw2483 (rv_i (Or.inl rfl) rfl) (kk := ?_)
                    obtain ⟨p38, h⟩ := h
                    refine y_callVv hC (pc := 202) (As := [iv 1, iv (rF s188 0 16)]) (kX14_bad l G κ s188 1 (rF s188 0 16) Ws188 (r_lit rfl) (Ws188.f _ _) p38) dmX14_bad zf14 rOb_0 dX14_readBody_202 zw3000 rfl rfl (Nat.le_of_ble_eq_true rfl) (Nat.le_of_ble_eq_true rfl) (Nat.le_of_ble_eq_true rfl) (Nat.le_of_ble_eq_true rfl) (Nat.le_of_ble_eq_true rfl) (kk := fun s202 Ws202 qs202 => ?_)
                    have h := h s202 Ws202 (rNMp.keep qs202.1 rfl rfl rfl rfl rfl) (PNp.keep qs202.1 rfl rfl rfl rfl rfl) (CCp.keep qs202.1 rfl rfl rfl rfl rfl rfl rfl) (qs202.1.R rfl) (qs202.1.R rfl) (qs202.1.F rfl) (qs202.1.F rfl) (qs202.1.F rfl) (qs202.1.F rfl) (qs202.1.F rfl) (qs202.1.F rfl) (qs202.1.F rfl) (qs202.1.F rfl) (qs202.1.F rfl) (qs202.1.F rfl) (qs202.1.F rfl) (qs202.1.F rfl) (qs202.1.F rfl) (qs202.1.F rfl) (qs202.1.F rfl) (fun i => qs202.1.A (f := 27) (by decide) rfl) (fun i => qs202.1.A (f := 34) (by decide) rfl) (fun i => qs202.1.A (f := 35) (by decide) rfl) (fun i => qs202.1.A (f := 40) (by decide) rfl) (qs202.1.FG g0 rfl) (qs202.1.FG g0 rfl) (qs202.1.FG g0 rfl) (qs202.1.FG g0 rfl) (qs202.1.FG g0 rfl) (fun i => qs202.1.AG (f := 10) g0 (by decide) rfl) (fun i => qs202.1.AG (f := 11) g0 (by decide) rfl) (RG.keep (c0 := 0) qs202.1 rfl rfl rfl rfl rfl rfl rfl rfl rfl rfl rfl rfl rfl rfl rfl rfl rfl rfl) qs202.2
                    refine z_iconst hC (pc := 205) (v := Int32.ofInt 0) dX14_readBody_205 (by decide) ?_
                    exact y_reti hR dX14_readBody_206 rfl (r_lit rfl) Ws202 (Nat.le_of_ble_eq_true rfl) (Nat.le_of_ble_eq_true rfl) ⟨(rKeep.tr (rKeep.tr rKeep.rf kJ rfl rfl rfl rfl rfl) qs202.1 rfl rfl rfl rfl rfl), h⟩
                obtain ⟨hT, hF⟩ := h
                refine y_icmp_ge hC (pc := 148) 188 hy143_2 (Ws143.f _ _) dX14_readBody_148 (by decide) (fun c => ?_) (fun c => ?_)
                · have h := hT c
                  exact j188 s143 y143_1 y143_2 y143_3 Ws143 hy143_1 hy143_2 hy143_3 (rKeep.tr rKeep.rf kJ rfl rfl rfl rfl rfl) h
                · have h := hF c
                  refine z_aload_n hC (pc := 151) 0 dX14_readBody_151 rfl rfl ?_
                  refine z_iload_n hC (pc := 152) 2 dX14_readBody_152 rfl rfl ?_
                  obtain ⟨p39, h⟩ := h
                  refine y_callVi hC (pc := 153) (As := [iv y143_2]) (kX14_fc l G κ s143 y143_2 Ws143 hy143_2 p39) dmX14_fc zf14 rOb_0 dX14_readBody_153 zw2993 rfl rfl (Nat.le_of_ble_eq_true rfl) (Nat.le_of_ble_eq_true rfl) (Nat.le_of_ble_eq_true rfl) (Nat.le_of_ble_eq_true rfl) (Nat.le_of_ble_eq_true rfl) (kk := fun v153 s153 hv153 Ws153 qs153 => ?_)
                  obtain ⟨es153, qs153⟩ := qs153
                  have es153 := es153.symm
                  subst es153
                  have h := h v153 hv153 qs153
                  refine z_iload_n hC (pc := 156) 3 dX14_readBody_156 rfl rfl ?_
                  obtain ⟨hT, hF⟩ := h
                  refine y_if_eq hC (pc := 157) 165 hy143_3 dX14_readBody_157 (by decide) (fun c => ?_) (fun c => ?_)
                  · have h := hT c
                    refine z_bipush hC (pc := 165) (v := Int32.ofInt 37) dX14_readBody_165 (by decide) ?_
                    obtain ⟨hT, hF⟩ := h
                    refine y_icmp_ne hC (pc := 167) 182 hv153 (r_lit rfl) dX14_readBody_167 (by decide) (fun c => ?_) (fun c => ?_)
                    · have h := hT c
                      refine y_iinc hC (pc := 182) (v := (y143_2 + 1)) (lv' := [(2, iv (y143_2 + 1)), (0, .ref (κ 0)), (1, iv y143_1), (3, iv y143_3)]) 2 dX14_readBody_182 rfl rfl (by decide) rfl ?_
                      refine z_goto hC (pc := 185) 143 dX14_readBody_185 (by decide) ?_
                      refine z_lvs [1, 2, 0, 3] rfl ?_
                      obtain ⟨r40, h⟩ := h
                      obtain ⟨hI, hm⟩ := h
                      exact ih143 s143 y143_1 (y143_2 + 1) y143_3 Ws143 hy143_1 r40 hy143_3 (rKeep.tr rKeep.rf kJ rfl rfl rfl rfl rfl) hI (by omega)
                    · have h := hF c
                      refine z_aload_n hC (pc := 170) 0 dX14_readBody_170 rfl rfl ?_
                      refine z_iload_n hC (pc := 171) 2 dX14_readBody_171 rfl rfl ?_
                      refine z_iconst hC (pc := 172) (v := Int32.ofInt 1) dX14_readBody_172 (by decide) ?_
                      refine y_iadd hC (pc := 173) (v := (y143_2 + 1)) dX14_readBody_173 rfl ?_
                      obtain ⟨r41, h⟩ := h
                      obtain ⟨p42, h⟩ := h
                      refine y_callVi hC (pc := 174) (As := [iv (y143_2 + 1)]) (kX14_fc l G κ s143 (y143_2 + 1) Ws143 r41 p42) dmX14_fc zf14 rOb_0 dX14_readBody_174 zw2993 rfl rfl (Nat.le_of_ble_eq_true rfl) (Nat.le_of_ble_eq_true rfl) (Nat.le_of_ble_eq_true rfl) (Nat.le_of_ble_eq_true rfl) (Nat.le_of_ble_eq_true rfl) (kk := fun v174 s174 hv174 Ws174 qs174 => ?_)
                      obtain ⟨es174, qs174⟩ := qs174
                      have es174 := es174.symm
                      subst es174
                      have h := h v174 hv174 qs174
                      refine z_bipush hC (pc := 177) (v := Int32.ofInt 62) dX14_readBody_177 (by decide) ?_
                      obtain ⟨hT, hF⟩ := h
                      refine y_icmp_eq hC (pc := 179) 188 hv174 (r_lit rfl) dX14_readBody_179 (by decide) (fun c => ?_) (fun c => ?_)
                      · have h := hT c
                        exact j188 s143 y143_1 y143_2 y143_3 Ws143 hy143_1 hy143_2 hy143_3 (rKeep.tr rKeep.rf kJ rfl rfl rfl rfl rfl) h
                      · have h := hF c
                        refine y_iinc hC (pc := 182) (v := (y143_2 + 1)) (lv' := [(2, iv (y143_2 + 1)), (0, .ref (κ 0)), (1, iv y143_1), (3, iv y143_3)]) 2 dX14_readBody_182 rfl rfl (by decide) rfl ?_
                        refine z_goto hC (pc := 185) 143 dX14_readBody_185 (by decide) ?_
                        refine z_lvs [1, 2, 0, 3] rfl ?_
                        obtain ⟨hI, hm⟩ := h
                        exact ih143 s143 y143_1 (y143_2 + 1) y143_3 Ws143 hy143_1 r41 hy143_3 (rKeep.tr rKeep.rf kJ rfl rfl rfl rfl rfl) hI (by omega)
                  · have h := hF c
                    refine z_bipush hC (pc := 160) (v := Int32.ofInt 62) dX14_readBody_160 (by decide) ?_
                    refine z_goto hC (pc := 162) 167 dX14_readBody_162 (by decide) ?_
                    obtain ⟨hT, hF⟩ := h
                    refine y_icmp_ne hC (pc := 167) 182 hv153 (r_lit rfl) dX14_readBody_167 (by decide) (fun c => ?_) (fun c => ?_)
                    · have h := hT c
                      refine y_iinc hC (pc := 182) (v := (y143_2 + 1)) (lv' := [(2, iv (y143_2 + 1)), (0, .ref (κ 0)), (1, iv y143_1), (3, iv y143_3)]) 2 dX14_readBody_182 rfl rfl (by decide) rfl ?_
                      refine z_goto hC (pc := 185) 143 dX14_readBody_185 (by decide) ?_
                      refine z_lvs [1, 2, 0, 3] rfl ?_
                      obtain ⟨r43, h⟩ := h
                      obtain ⟨hI, hm⟩ := h
                      exact ih143 s143 y143_1 (y143_2 + 1) y143_3 Ws143 hy143_1 r43 hy143_3 (rKeep.tr rKeep.rf kJ rfl rfl rfl rfl rfl) hI (by omega)
                    · have h := hF c
                      refine z_aload_n hC (pc := 170) 0 dX14_readBody_170 rfl rfl ?_
                      refine z_iload_n hC (pc := 171) 2 dX14_readBody_171 rfl rfl ?_
                      refine z_iconst hC (pc := 172) (v := Int32.ofInt 1) dX14_readBody_172 (by decide) ?_
                      refine y_iadd hC (pc := 173) (v := (y143_2 + 1)) dX14_readBody_173 rfl ?_
                      obtain ⟨r44, h⟩ := h
                      obtain ⟨p45, h⟩ := h
                      refine y_callVi hC (pc := 174) (As := [iv (y143_2 + 1)]) (kX14_fc l G κ s143 (y143_2 + 1) Ws143 r44 p45) dmX14_fc zf14 rOb_0 dX14_readBody_174 zw2993 rfl rfl (Nat.le_of_ble_eq_true rfl) (Nat.le_of_ble_eq_true rfl) (Nat.le_of_ble_eq_true rfl) (Nat.le_of_ble_eq_true rfl) (Nat.le_of_ble_eq_true rfl) (kk := fun v174 s174 hv174 Ws174 qs174 => ?_)
                      obtain ⟨es174, qs174⟩ := qs174
                      have es174 := es174.symm
                      subst es174
                      have h := h v174 hv174 qs174
                      refine z_bipush hC (pc := 177) (v := Int32.ofInt 62) dX14_readBody_177 (by decide) ?_
                      obtain ⟨hT, hF⟩ := h
                      refine y_icmp_eq hC (pc := 179) 188 hv174 (r_lit rfl) dX14_readBody_179 (by decide) (fun c => ?_) (fun c => ?_)
                      · have h := hT c
                        exact j188 s143 y143_1 y143_2 y143_3 Ws143 hy143_1 hy143_2 hy143_3 (rKeep.tr rKeep.rf kJ rfl rfl rfl rfl rfl) h
                      · have h := hF c
                        refine y_iinc hC (pc := 182) (v := (y143_2 + 1)) (lv' := [(2, iv (y143_2 + 1)), (0, .ref (κ 0)), (1, iv y143_1), (3, iv y143_3)]) 2 dX14_readBody_182 rfl rfl (by decide) rfl ?_
                        refine z_goto hC (pc := 185) 143 dX14_readBody_185 (by decide) ?_
                        refine z_lvs [1, 2, 0, 3] rfl ?_
                        obtain ⟨hI, hm⟩ := h
                        exact ih143 s143 y143_1 (y143_2 + 1) y143_3 Ws143 hy143_1 r44 hy143_3 (rKeep.tr rKeep.rf kJ rfl rfl rfl rfl rfl) hI (by omega)
            refine z_lvs [3, 1, 0, 2] rfl ?_
            obtain ⟨r46, h⟩ := h
            exact j143 _ s113 ((rF s113 0 17) + 2) ((rF s113 0 17) + 2) 0 Ws113 r46 r46 (r_lit rfl) (rKeep.tr rKeep.rf kJ rfl rfl rfl rfl rfl) h (Nat.le_refl _)
          · have h := hF c
            refine z_iconst hC (pc := 128) (v := Int32.ofInt 1) dX14_readBody_128 (by decide) ?_
            refine z_goto hC (pc := 129) 133 dX14_readBody_129 (by decide) ?_
            refine z_istore_n hC (pc := 133) (lv' := [(3, iv 1), (0, .ref (κ 0))]) dX14_readBody_133 rfl (by decide) rfl ?_
            refine z_aload_n hC (pc := 134) 1 dX14_readBody_134 rfl rfl ?_
            refine y_get hC (pc := 135) zf14 rOb_0 17 (v := iv (rF s113 0 17)) dX14_readBody_135 zw2484 (rv_i (Or.inl rfl) rfl) (kk := ?_)
            refine z_iconst hC (pc := 138) (v := Int32.ofInt 2) dX14_readBody_138 (by decide) ?_
            refine y_iadd hC (pc := 139) (v := ((rF s113 0 17) + 2)) dX14_readBody_139 rfl ?_
            refine z_istore_n hC (pc := 140) (lv' := [(1, iv ((rF s113 0 17) + 2)), (3, iv 1), (0, .ref (κ 0))]) dX14_readBody_140 rfl (by decide) rfl ?_
            refine z_iload_n hC (pc := 141) 0 dX14_readBody_141 rfl rfl ?_
            refine z_istore_n hC (pc := 142) (lv' := [(2, iv ((rF s113 0 17) + 2)), (1, iv ((rF s113 0 17) + 2)), (3, iv 1), (0, .ref (κ 0))]) dX14_readBody_142 rfl (by decide) rfl ?_
            have j143 : ∀ (d143 : Nat), ∀ (s143 : rS) (y143_1 : Int) (y143_2 : Int) (y143_3 : Int), rWF s143 → rng y143_1 → rng y143_2 → rng y143_3 → rKeep 0x6c0f3e21c00 0x4100001280 0x13c0c000000 0x3ee0000d7f 0 σ s143 → inv_X14_readBody_143 σ gg U g s143 y143_1 y143_2 y143_3 → (mu_X14_readBody_143 σ gg U g s143 y143_1 y143_2 y143_3) ≤ d143 → zS X G 5 (rW G κ s143) [(0, .ref (κ 0)), (1, iv y143_1), (2, iv y143_2), (3, iv y143_3)] 0 0 143 [] := by
              intro d143
              induction d143 with
              | zero =>
                intro s143 y143_1 y143_2 y143_3 Ws143 hy143_1 hy143_2 hy143_3 kJ hI hmu
                exact absurd hmu (by have := h_143m  s143 y143_1 y143_2 y143_3 Ws143 hy143_1 hy143_2 hy143_3 (kJ.R rfl) (kJ.R rfl) (kJ.F rfl) (kJ.F rfl) (kJ.F rfl) (kJ.F rfl) (kJ.F rfl) hI; omega)
              | succ d143 ih143 =>
                intro s143 y143_1 y143_2 y143_3 Ws143 hy143_1 hy143_2 hy143_3 kJ hI hmu143
                have h := h_143  s143 y143_1 y143_2 y143_3 Ws143 hy143_1 hy143_2 hy143_3 (kJ.R rfl) (kJ.R rfl) (kJ.F rfl) (kJ.F rfl) (kJ.F rfl) (kJ.F rfl) (kJ.F rfl) hI
                refine z_iload_n hC (pc := 143) 2 dX14_readBody_143 rfl rfl ?_
                refine z_aload_n hC (pc := 144) 0 dX14_readBody_144 rfl rfl ?_
                refine y_get hC (pc := 145) zf14 rOb_0 16 (v := iv (rF s143 0 16)) dX14_readBody_145 zw2483 (rv_i (Or.inl rfl) rfl) (kk := ?_)
                have h := h (Ws143.f _ _)
                have j188 : ∀ (s188 : rS) (y188_1 : Int) (y188_2 : Int) (y188_3 : Int), rWF s188 → rng y188_1 → rng y188_2 → rng y188_3 → rKeep 0x6c0f3e21c00 0x4100001280 0x13c0c000000 0x3ee0000d7f 0 σ s188 → inv_X14_readBody_188 σ gg U g s188 y188_1 y188_2 y188_3 → zS X G 5 (rW G κ s188) [(0, .ref (κ 0)), (1, iv y188_1), (2, iv y188_2), (3, iv y188_3)] 0 0 188 [] := by
                  intro s188 y188_1 y188_2 y188_3 Ws188 hy188_1 hy188_2 hy188_3 kJ hI
                  have h := h_188  s188 y188_1 y188_2 y188_3 Ws188 hy188_1 hy188_2 hy188_3 (kJ.R rfl) (kJ.R rfl) (kJ.F rfl) (kJ.F rfl) (kJ.F rfl) (kJ.F rfl) (kJ.F rfl) hI
                  refine z_iload_n hC (pc := 188) 2 dX14_readBody_188 rfl rfl ?_
                  refine z_aload_n hC (pc := 189) 0 dX14_readBody_189 rfl rfl ?_
                  refine y_get hC (pc := 190) zf14 rOb_0 16 (v := iv (rF s188 0 16)) dX14_readBody_190 zw2483 (rv_i (Or.inl rfl) rfl) (kk := ?_)
                  have h := h (Ws188.f _ _)
                  obtain ⟨hT, hF⟩ := h
                  refine y_icmp_lt hC (pc := 193) 207 hy188_2 (Ws188.f _ _) dX14_readBody_193 (by decide) (fun c => ?_) (fun c => ?_)
                  · have h := hT c
                    refine z_aload_n hC (pc := 207) 0 dX14_readBody_207 rfl rfl ?_
                    refine z_iload_n hC (pc := 208) 2 dX14_readBody_208 rfl rfl ?_
                    refine z_iconst hC (pc := 209) (v := Int32.ofInt 2) dX14_readBody_209 (by decide) ?_
                    refine y_iadd hC (pc := 210) (v := (y188_2 + 2)) dX14_readBody_210 rfl ?_
                    obtain ⟨r47, h⟩ := h
                    refine y_putI hC (pc := 211) zf14 rOb_0 17 (x := (y188_2 + 2)) dX14_readBody_211 zw2484 (Or.inl rfl) rfl rfl (kk := ?_)
                    have W48 := Ws188.sF (q := 0) (f := 17) (x := (y188_2 + 2)) r47
                    refine z_aload_n hC (pc := 214) 0 dX14_readBody_214 rfl rfl ?_
                    refine z_iload_n hC (pc := 215) 2 dX14_readBody_215 rfl rfl ?_
                    refine y_putI hC (pc := 216) zf14 rOb_0 30 (x := y188_2) dX14_readBody_216 zw2497 (Or.inl rfl) rfl rfl (kk := ?_)
                    have W49 := W48.sF (q := 0) (f := 30) (x := y188_2) hy188_2
                    refine z_iload_n hC (pc := 219) 3 dX14_readBody_219 rfl rfl ?_
                    obtain ⟨hT, hF⟩ := h
                    refine y_if_eq hC (pc := 220) 271 hy188_3 dX14_readBody_220 (by decide) (fun c => ?_) (fun c => ?_)
                    · have h := hT c
                      refine z_aload_n hC (pc := 271) 0 dX14_readBody_271 rfl rfl ?_
                      refine z_iload_n hC (pc := 272) 1 dX14_readBody_272 rfl rfl ?_
                      refine z_iload_n hC (pc := 273) 2 dX14_readBody_273 rfl rfl ?_
                      obtain ⟨p50, h⟩ := h
                      refine y_callVv hC (pc := 274) (As := [iv y188_1, iv y188_2]) (kX14_packed_f l G κ (sF (sF s188 0 17 (y188_2 + 2)) 0 30 y188_2) y188_1 y188_2 W49 hy188_1 hy188_2 p50) dmX14_packed zf14 rOb_0 dX14_readBody_274 zw3083 rfl rfl (Nat.le_of_ble_eq_true rfl) (Nat.le_of_ble_eq_true rfl) (Nat.le_of_ble_eq_true rfl) (Nat.le_of_ble_eq_true rfl) (Nat.le_of_ble_eq_true rfl) (kk := fun s274 Ws274 qs274 => ?_)
                      have h := h s274 Ws274 (rNMp.keep qs274.1 rfl rfl rfl rfl rfl) (PNp.keep qs274.1 rfl rfl rfl rfl rfl) (qs274.1.R rfl) (qs274.1.R rfl) (qs274.1.F rfl) (qs274.1.F rfl) (qs274.1.F rfl) (qs274.1.F rfl) (qs274.1.F rfl) (qs274.1.F rfl) (qs274.1.F rfl) (qs274.1.F rfl) (qs274.1.F rfl) (qs274.1.F rfl) (qs274.1.F rfl) (qs274.1.F rfl) (qs274.1.F rfl) (qs274.1.F rfl) (qs274.1.F rfl) (fun i => qs274.1.A (f := 34) (by decide) rfl) (fun i => qs274.1.A (f := 35) (by decide) rfl) (fun i => qs274.1.A (f := 40) (by decide) rfl) (qs274.1.FG g0 rfl) (qs274.1.FG g0 rfl) (qs274.1.FG g0 rfl) (qs274.1.FG g0 rfl) (qs274.1.FG g0 rfl) (fun i => qs274.1.AG (f := 10) g0 (by decide) rfl) (fun i => qs274.1.AG (f := 11) g0 (by decide) rfl) (fz_keep qs274.1 rfl) (RG.keep (c0 := 0) qs274.1 rfl rfl rfl rfl rfl rfl rfl rfl rfl rfl rfl rfl rfl rfl rfl rfl rfl rfl) qs274.2
                      refine z_aload_n hC (pc := 277) 0 dX14_readBody_277 rfl rfl ?_
                      obtain ⟨g51, h⟩ := h
                      obtain ⟨p52, h⟩ := h
                      refine y_callVi hC (pc := 278) (As := []) (kX14_wholeText l G κ s274 gg g51 Ws274  p52) dmX14_wholeText zf14 rOb_0 dX14_readBody_278 zw3091 rfl rfl (Nat.le_of_ble_eq_true rfl) (Nat.le_of_ble_eq_true rfl) (Nat.le_of_ble_eq_true rfl) (Nat.le_of_ble_eq_true rfl) (Nat.le_of_ble_eq_true rfl) (kk := fun v278 s278 hv278 Ws278 qs278 => ?_)
                      have h := h v278 s278 hv278 Ws278 (CCp.keep qs278.1 rfl rfl rfl rfl rfl rfl rfl) (qs278.1.R rfl) (qs278.1.R rfl) (qs278.1.F rfl) (qs278.1.F rfl) (qs278.1.F rfl) (qs278.1.F rfl) (qs278.1.F rfl) (qs278.1.F rfl) (qs278.1.F rfl) (qs278.1.F rfl) (qs278.1.F rfl) (qs278.1.F rfl) (qs278.1.F rfl) (fun i => qs278.1.A (f := 27) (by decide) rfl) qs278.2
                      exact y_reti hR dX14_readBody_281 rfl hv278 Ws278 (Nat.le_of_ble_eq_true rfl) (Nat.le_of_ble_eq_true rfl) ⟨(rKeep.tr (rKeep.tr (rKeep.tr (rKeep.tr (rKeep.tr rKeep.rf kJ rfl rfl rfl rfl rfl) (rKeep.sF0 (f := 17)) rfl rfl rfl rfl rfl) (rKeep.sF0 (f := 30)) rfl rfl rfl rfl rfl) qs274.1 rfl rfl rfl rfl rfl) qs278.1 rfl rfl rfl rfl rfl), h⟩
                    · have h := hF c
                      refine z_iload_n hC (pc := 223) 2 dX14_readBody_223 rfl rfl ?_
                      refine z_iload_n hC (pc := 224) 1 dX14_readBody_224 rfl rfl ?_
                      refine y_isub hC (pc := 225) (v := (y188_2 - y188_1)) dX14_readBody_225 rfl ?_
                      refine z_istore hC (pc := 226) (lv' := [(4, iv (y188_2 - y188_1)), (0, .ref (κ 0)), (1, iv y188_1), (2, iv y188_2), (3, iv y188_3)]) dX14_readBody_226 (by decide) rfl ?_
                      refine z_iload hC (pc := 228) 0 dX14_readBody_228 rfl ?_
                      have j247 : ∀ (s247 : rS) (y247_1 : Int) (y247_2 : Int), rWF s247 → rng y247_1 → rng y247_2 → rKeep 0x6c0f3e21c00 0x4100001280 0x13c0c000000 0x3ee0000d7f 0 σ s247 → inv_X14_readBody_247 σ gg U g s247 y247_1 y247_2 → zS X G 5 (rW G κ s247) [(0, .ref (κ 0)), (1, iv y247_1), (2, iv y247_2)] 0 0 247 [] := by
                        intro s247 y247_1 y247_2 Ws247 hy247_1 hy247_2 kJ hI
                        have h := h_247  s247 y247_1 y247_2 Ws247 hy247_1 hy247_2 (kJ.R rfl) (kJ.R rfl) (kJ.F rfl) (kJ.F rfl) (kJ.F rfl) (kJ.F rfl) (kJ.F rfl) hI
                        refine z_iload_n hC (pc := 247) 2 dX14_readBody_247 rfl rfl ?_
                        refine z_iload_n hC (pc := 248) 1 dX14_readBody_248 rfl rfl ?_
                        have j268 : ∀ (s268 : rS) (y268_1 : Int) (y268_2 : Int), rWF s268 → rng y268_1 → rng y268_2 → rKeep 0x6c0f3e21c00 0x4100001280 0x13c0c000000 0x3ee0000d7f 0 σ s268 → inv_X14_readBody_268 σ gg U g s268 y268_1 y268_2 → zS X G 5 (rW G κ s268) [(0, .ref (κ 0)), (1, iv y268_1), (2, iv y268_2)] 0 0 268 [] := by
                          intro s268 y268_1 y268_2 Ws268 hy268_1 hy268_2 kJ hI
                          have h := h_268  s268 y268_1 y268_2 Ws268 hy268_1 hy268_2 (kJ.R rfl) (kJ.R rfl) (kJ.F rfl) (kJ.F rfl) (kJ.F rfl) (kJ.F rfl) (kJ.F rfl) hI
                          refine z_goto hC (pc := 268) 282 dX14_readBody_268 (by decide) ?_
                          refine z_goto hC (pc := 282) 296 dX14_readBody_282 (by decide) ?_
                          refine z_iload_n hC (pc := 296) 1 dX14_readBody_296 rfl rfl ?_
                          refine z_istore_n hC (pc := 297) (lv' := [(3, iv y268_1), (0, .ref (κ 0)), (1, iv y268_1), (2, iv y268_2)]) dX14_readBody_297 rfl (by decide) rfl ?_
                          have j298 : ∀ (d298 : Nat), ∀ (s298 : rS) (y298_2 : Int) (y298_3 : Int), rWF s298 → rng y298_2 → rng y298_3 → rKeep 0x6c0f3e21c00 0x4100001280 0x13c0c000000 0x3ee0000d7f 0 σ s298 → inv_X14_readBody_298 σ gg U g s298 y298_2 y298_3 → (mu_X14_readBody_298 σ gg U g s298 y298_2 y298_3) ≤ d298 → zS X G 5 (rW G κ s298) [(0, .ref (κ 0)), (2, iv y298_2), (3, iv y298_3)] 0 0 298 [] := by
                            intro d298
                            induction d298 with
                            | zero =>
                              intro s298 y298_2 y298_3 Ws298 hy298_2 hy298_3 kJ hI hmu
                              exact absurd hmu (by have := h_298m  s298 y298_2 y298_3 Ws298 hy298_2 hy298_3 (kJ.R rfl) (kJ.R rfl) (kJ.F rfl) (kJ.F rfl) (kJ.F rfl) (kJ.F rfl) (kJ.F rfl) hI; omega)
                            | succ d298 ih298 =>
                              intro s298 y298_2 y298_3 Ws298 hy298_2 hy298_3 kJ hI hmu298
                              have h := h_298  s298 y298_2 y298_3 Ws298 hy298_2 hy298_3 (kJ.R rfl) (kJ.R rfl) (kJ.F rfl) (kJ.F rfl) (kJ.F rfl) (kJ.F rfl) (kJ.F rfl) hI
                              refine z_iload_n hC (pc := 298) 2 dX14_readBody_298 rfl rfl ?_
                              refine z_iload_n hC (pc := 299) 1 dX14_readBody_299 rfl rfl ?_
                              obtain ⟨hT, hF⟩ := h
                              refine y_icmp_ge hC (pc := 300) 320 hy298_3 hy298_2 dX14_readBody_300 (by decide) (fun c => ?_) (fun c => ?_)
                              · have h := hT c
                                refine z_aload_n hC (pc := 320) 0 dX14_readBody_320 rfl rfl ?_
                                obtain ⟨g53, h⟩ := h
                                obtain ⟨p54, h⟩ := h
                                refine y_callVi hC (pc := 321) (As := []) (kX14_wholeText l G κ s298 gg g53 Ws298  p54) dmX14_wholeText zf14 rOb_0 dX14_readBody_321 zw3091 rfl rfl (Nat.le_of_ble_eq_true rfl) (Nat.le_of_ble_eq_true rfl) (Nat.le_of_ble_eq_true rfl) (Nat.le_of_ble_eq_true rfl) (Nat.le_of_ble_eq_true rfl) (kk := fun v321 s321 hv321 Ws321 qs321 => ?_)
                                have h := h v321 s321 hv321 Ws321 (CCp.keep qs321.1 rfl rfl rfl rfl rfl rfl rfl) (qs321.1.R rfl) (qs321.1.R rfl) (qs321.1.F rfl) (qs321.1.F rfl) (qs321.1.F rfl) (qs321.1.F rfl) (qs321.1.F rfl) (qs321.1.F rfl) (qs321.1.F rfl) (qs321.1.F rfl) (qs321.1.F rfl) (qs321.1.F rfl) (qs321.1.F rfl) (fun i => qs321.1.A (f := 27) (by decide) rfl) qs321.2
                                exact y_reti hR dX14_readBody_324 rfl hv321 Ws321 (Nat.le_of_ble_eq_true rfl) (Nat.le_of_ble_eq_true rfl) ⟨(rKeep.tr (rKeep.tr rKeep.rf kJ rfl rfl rfl rfl rfl) qs321.1 rfl rfl rfl rfl rfl), h⟩
                              · have h := hF c
                                refine z_aload_n hC (pc := 303) 0 dX14_readBody_303 rfl rfl ?_
                                refine z_aload_n hC (pc := 304) 0 dX14_readBody_304 rfl rfl ?_
                                obtain ⟨g55, h⟩ := h
                                refine y_get hC (pc := 305) zf14 rOb_0 15 (v := .ref (κ (rR s298 15))) dX14_readBody_305 zw2482 (rv_b rfl rfl g55) (kk := ?_)
                                refine z_iload_n hC (pc := 308) 2 dX14_readBody_308 rfl rfl ?_
                                obtain ⟨b56, h⟩ := h
                                refine y_bald hC (pc := 309) (rAr_f g55) dX14_readBody_309 b56 (v := (rA s298 (rR s298 15) y298_3)) rfl (kk := ?_)
                                have h := h (Ws298.a _ _)
                                refine z_iload_n hC (pc := 310) 2 dX14_readBody_310 rfl rfl ?_
                                obtain ⟨p57, h⟩ := h
                                refine y_callVv hC (pc := 311) (As := [iv (rA s298 (rR s298 15) y298_3), iv y298_3]) (kX14_addByte_f l G κ s298 (rA s298 (rR s298 15) y298_3) y298_3 Ws298 (Ws298.a _ _) hy298_3 p57) dmX14_addByte zf14 rOb_0 dX14_readBody_311 zw3087 rfl rfl (Nat.le_of_ble_eq_true rfl) (Nat.le_of_ble_eq_true rfl) (Nat.le_of_ble_eq_true rfl) (Nat.le_of_ble_eq_true rfl) (Nat.le_of_ble_eq_true rfl) (kk := fun s311 Ws311 qs311 => ?_)
                                have h := h s311 Ws311 (rNMp.keep qs311.1 rfl rfl rfl rfl rfl) (PNp.keep qs311.1 rfl rfl rfl rfl rfl) (qs311.1.R rfl) (qs311.1.R rfl) (qs311.1.F rfl) (qs311.1.F rfl) (qs311.1.F rfl) (qs311.1.F rfl) (qs311.1.F rfl) (qs311.1.F rfl) (qs311.1.F rfl) (qs311.1.F rfl) (qs311.1.F rfl) (qs311.1.F rfl) (qs311.1.F rfl) (qs311.1.F rfl) (qs311.1.F rfl) (qs311.1.F rfl) (qs311.1.F rfl) (fun i => qs311.1.A (f := 34) (by decide) rfl) (fun i => qs311.1.A (f := 35) (by decide) rfl) (fun i => qs311.1.A (f := 40) (by decide) rfl) (qs311.1.FG g0 rfl) (qs311.1.FG g0 rfl) (qs311.1.FG g0 rfl) (qs311.1.FG g0 rfl) (qs311.1.FG g0 rfl) (fun i => qs311.1.AG (f := 10) g0 (by decide) rfl) (fun i => qs311.1.AG (f := 11) g0 (by decide) rfl) (fz_keep qs311.1 rfl) (RG.keep (c0 := 0) qs311.1 rfl rfl rfl rfl rfl rfl rfl rfl rfl rfl rfl rfl rfl rfl rfl rfl rfl rfl) qs311.2
                                refine y_iinc hC (pc := 314) (v := (y298_3 + 1)) (lv' := [(3, iv (y298_3 + 1)), (0, .ref (κ 0)), (2, iv y298_2)]) 2 dX14_readBody_314 rfl rfl (by decide) rfl ?_
                                refine z_goto hC (pc := 317) 298 dX14_readBody_317 (by decide) ?_
                                refine z_lvs [1, 2, 0] rfl ?_
                                obtain ⟨r58, h⟩ := h
                                obtain ⟨hI, hm⟩ := h
                                exact ih298 s311 y298_2 (y298_3 + 1) Ws311 hy298_2 r58 (rKeep.tr (rKeep.tr rKeep.rf kJ rfl rfl rfl rfl rfl) qs311.1 rfl rfl rfl rfl rfl) hI (by omega)
                          refine z_lvs [1, 3, 0] rfl ?_
                          exact j298 _ s268 y268_2 y268_1 Ws268 hy268_2 hy268_1 (rKeep.tr rKeep.rf kJ rfl rfl rfl rfl rfl) h (Nat.le_refl _)
                        obtain ⟨hT, hF⟩ := h
                        refine y_icmp_le hC (pc := 249) 268 hy247_2 hy247_1 dX14_readBody_249 (by decide) (fun c => ?_) (fun c => ?_)
                        · have h := hT c
                          exact j268 s247 y247_1 y247_2 Ws247 hy247_1 hy247_2 (rKeep.tr rKeep.rf kJ rfl rfl rfl rfl rfl) h
                        · have h := hF c
                          refine z_aload_n hC (pc := 252) 0 dX14_readBody_252 rfl rfl ?_
                          obtain ⟨g59, h⟩ := h
                          refine y_get hC (pc := 253) zf14 rOb_0 15 (v := .ref (κ (rR s247 15))) dX14_readBody_253 zw2482 (rv_b rfl rfl g59) (kk := ?_)
                          refine z_iload_n hC (pc := 256) 2 dX14_readBody_256 rfl rfl ?_
                          refine z_iconst hC (pc := 257) (v := Int32.ofInt 1) dX14_readBody_257 (by decide) ?_
                          refine y_isub hC (pc := 258) (v := (y247_2 - 1)) dX14_readBody_258 rfl ?_
                          obtain ⟨b60, h⟩ := h
                          refine y_bald hC (pc := 259) (rAr_f g59) dX14_readBody_259 b60 (v := (rA s247 (rR s247 15) (y247_2 - 1))) rfl (kk := ?_)
                          have h := h (Ws247.a _ _)
                          refine z_bipush hC (pc := 260) (v := Int32.ofInt 10) dX14_readBody_260 (by decide) ?_
                          obtain ⟨hT, hF⟩ := h
                          refine y_icmp_ne hC (pc := 262) 268 (Ws247.a _ _) (r_lit rfl) dX14_readBody_262 (by decide) (fun c => ?_) (fun c => ?_)
                          · have h := hT c
                            exact j268 s247 y247_1 y247_2 Ws247 hy247_1 hy247_2 (rKeep.tr rKeep.rf kJ rfl rfl rfl rfl rfl) h
                          · have h := hF c
                            refine y_iinc hC (pc := 265) (v := (y247_2 + (-1))) (lv' := [(2, iv (y247_2 + (-1))), (0, .ref (κ 0)), (1, iv y247_1)]) 2 dX14_readBody_265 rfl rfl (by decide) rfl ?_
                            refine z_lvs [1, 2, 0] rfl ?_
                            obtain ⟨r61, h⟩ := h
                            exact j268 s247 y247_1 (y247_2 + (-1)) Ws247 hy247_1 r61 (rKeep.tr rKeep.rf kJ rfl rfl rfl rfl rfl) h
                      obtain ⟨r62, h⟩ := h
                      obtain ⟨hT, hF⟩ := h
                      refine y_if_le hC (pc := 230) 247 r62 dX14_readBody_230 (by decide) (fun c => ?_) (fun c => ?_)
                      · have h := hT c
                        refine z_lvs [1, 2, 3] rfl ?_
                        exact j247 (sF (sF s188 0 17 (y188_2 + 2)) 0 30 y188_2) y188_1 y188_2 W49 hy188_1 hy188_2 (rKeep.tr (rKeep.tr (rKeep.tr rKeep.rf kJ rfl rfl rfl rfl rfl) (rKeep.sF0 (f := 17)) rfl rfl rfl rfl rfl) (rKeep.sF0 (f := 30)) rfl rfl rfl rfl rfl) h
                      · have h := hF c
                        refine z_aload_n hC (pc := 233) 1 dX14_readBody_233 rfl rfl ?_
                        obtain ⟨g63, h⟩ := h
                        refine y_get hC (pc := 234) zf14 rOb_0 15 (v := .ref (κ (rR s188 15))) dX14_readBody_234 zw2482 (rv_b rfl rfl g63) (kk := ?_)
                        refine z_iload_n hC (pc := 237) 2 dX14_readBody_237 rfl rfl ?_
                        obtain ⟨b64, h⟩ := h
                        refine y_bald hC (pc := 238) (rAr_f g63) dX14_readBody_238 b64 (v := (rA s188 (rR s188 15) y188_1)) rfl (kk := ?_)
                        have h := h (Ws188.a _ _)
                        refine z_bipush hC (pc := 239) (v := Int32.ofInt 10) dX14_readBody_239 (by decide) ?_
                        obtain ⟨hT, hF⟩ := h
                        refine y_icmp_ne hC (pc := 241) 247 (Ws188.a _ _) (r_lit rfl) dX14_readBody_241 (by decide) (fun c => ?_) (fun c => ?_)
                        · have h := hT c
                          refine z_lvs [1, 2, 3] rfl ?_
                          exact j247 (sF (sF s188 0 17 (y188_2 + 2)) 0 30 y188_2) y188_1 y188_2 W49 hy188_1 hy188_2 (rKeep.tr (rKeep.tr (rKeep.tr rKeep.rf kJ rfl rfl rfl rfl rfl) (rKeep.sF0 (f := 17)) rfl rfl rfl rfl rfl) (rKeep.sF0 (f := 30)) rfl rfl rfl rfl rfl) h
                        · have h := hF c
                          refine y_iinc hC (pc := 244) (v := (y188_1 + 1)) (lv' := [(1, iv (y188_1 + 1)), (4, iv (y188_2 - y188_1)), (0, .ref (κ 0)), (2, iv y188_2), (3, iv y188_3)]) 2 dX14_readBody_244 rfl rfl (by decide) rfl ?_
                          refine z_lvs [2, 0, 3] rfl ?_
                          obtain ⟨r65, h⟩ := h
                          exact j247 (sF (sF s188 0 17 (y188_2 + 2)) 0 30 y188_2) (y188_1 + 1) y188_2 W49 r65 hy188_2 (rKeep.tr (rKeep.tr (rKeep.tr rKeep.rf kJ rfl rfl rfl rfl rfl) (rKeep.sF0 (f := 17)) rfl rfl rfl rfl rfl) (rKeep.sF0 (f := 30)) rfl rfl rfl rfl rfl) h
                  · have h := hF c
                    refine z_aload_n hC (pc := 196) 0 dX14_readBody_196 rfl rfl ?_
                    refine z_iconst hC (pc := 197) (v := Int32.ofInt 1) dX14_readBody_197 (by decide) ?_
                    refine z_aload_n hC (pc := 198) 0 dX14_readBody_198 rfl rfl ?_
                    refine y_get hC (pc := 199) zf14 rOb_0 16 (v := iv (rF s188 0 16)) dX14_readBody_199 zw2483 (rv_i (Or.inl rfl) rfl) (kk := ?_)
                    obtain ⟨p66, h⟩ := h
                    refine y_callVv hC (pc := 202) (As := [iv 1, iv (rF s188 0 16)]) (kX14_bad l G κ s188 1 (rF s188 0 16) Ws188 (r_lit rfl) (Ws188.f _ _) p66) dmX14_bad zf14 rOb_0 dX14_readBody_202 zw3000 rfl rfl (Nat.le_of_ble_eq_true rfl) (Nat.le_of_ble_eq_true rfl) (Nat.le_of_ble_eq_true rfl) (Nat.le_of_ble_eq_true rfl) (Nat.le_of_ble_eq_true rfl) (kk := fun s202 Ws202 qs202 => ?_)
                    have h := h s202 Ws202 (rNMp.keep qs202.1 rfl rfl rfl rfl rfl) (PNp.keep qs202.1 rfl rfl rfl rfl rfl) (CCp.keep qs202.1 rfl rfl rfl rfl rfl rfl rfl) (qs202.1.R rfl) (qs202.1.R rfl) (qs202.1.F rfl) (qs202.1.F rfl) (qs202.1.F rfl) (qs202.1.F rfl) (qs202.1.F rfl) (qs202.1.F rfl) (qs202.1.F rfl) (qs202.1.F rfl) (qs202.1.F rfl) (qs202.1.F rfl) (qs202.1.F rfl) (qs202.1.F rfl) (qs202.1.F rfl) (qs202.1.F rfl) (qs202.1.F rfl) (fun i => qs202.1.A (f := 27) (by decide) rfl) (fun i => qs202.1.A (f := 34) (by decide) rfl) (fun i => qs202.1.A (f := 35) (by decide) rfl) (fun i => qs202.1.A (f := 40) (by decide) rfl) (qs202.1.FG g0 rfl) (qs202.1.FG g0 rfl) (qs202.1.FG g0 rfl) (qs202.1.FG g0 rfl) (qs202.1.FG g0 rfl) (fun i => qs202.1.AG (f := 10) g0 (by decide) rfl) (fun i => qs202.1.AG (f := 11) g0 (by decide) rfl) (RG.keep (c0 := 0) qs202.1 rfl rfl rfl rfl rfl rfl rfl rfl rfl rfl rfl rfl rfl rfl rfl rfl rfl rfl) qs202.2
                    refine z_iconst hC (pc := 205) (v := Int32.ofInt 0) dX14_readBody_205 (by decide) ?_
                    exact y_reti hR dX14_readBody_206 rfl (r_lit rfl) Ws202 (Nat.le_of_ble_eq_true rfl) (Nat.le_of_ble_eq_true rfl) ⟨(rKeep.tr (rKeep.tr rKeep.rf kJ rfl rfl rfl rfl rfl) qs202.1 rfl rfl rfl rfl rfl), h⟩
                obtain ⟨hT, hF⟩ := h
                refine y_icmp_ge hC (pc := 148) 188 hy143_2 (Ws143.f _ _) dX14_readBody_148 (by decide) (fun c => ?_) (fun c => ?_)
                · have h := hT c
                  exact j188 s143 y143_1 y143_2 y143_3 Ws143 hy143_1 hy143_2 hy143_3 (rKeep.tr rKeep.rf kJ rfl rfl rfl rfl rfl) h
                · have h := hF c
                  refine z_aload_n hC (pc := 151) 0 dX14_readBody_151 rfl rfl ?_
                  refine z_iload_n hC (pc := 152) 2 dX14_readBody_152 rfl rfl ?_
                  obtain ⟨p67, h⟩ := h
                  refine y_callVi hC (pc := 153) (As := [iv y143_2]) (kX14_fc l G κ s143 y143_2 Ws143 hy143_2 p67) dmX14_fc zf14 rOb_0 dX14_readBody_153 zw2993 rfl rfl (Nat.le_of_ble_eq_true rfl) (Nat.le_of_ble_eq_true rfl) (Nat.le_of_ble_eq_true rfl) (Nat.le_of_ble_eq_true rfl) (Nat.le_of_ble_eq_true rfl) (kk := fun v153 s153 hv153 Ws153 qs153 => ?_)
                  obtain ⟨es153, qs153⟩ := qs153
                  have es153 := es153.symm
                  subst es153
                  have h := h v153 hv153 qs153
                  refine z_iload_n hC (pc := 156) 3 dX14_readBody_156 rfl rfl ?_
                  obtain ⟨hT, hF⟩ := h
                  refine y_if_eq hC (pc := 157) 165 hy143_3 dX14_readBody_157 (by decide) (fun c => ?_) (fun c => ?_)
                  · have h := hT c
                    refine z_bipush hC (pc := 165) (v := Int32.ofInt 37) dX14_readBody_165 (by decide) ?_
                    obtain ⟨hT, hF⟩ := h
                    refine y_icmp_ne hC (pc := 167) 182 hv153 (r_lit rfl) dX14_readBody_167 (by decide) (fun c => ?_) (fun c => ?_)
                    · have h := hT c
                      refine y_iinc hC (pc := 182) (v := (y143_2 + 1)) (lv' := [(2, iv (y143_2 + 1)), (0, .ref (κ 0)), (1, iv y143_1), (3, iv y143_3)]) 2 dX14_readBody_182 rfl rfl (by decide) rfl ?_
                      refine z_goto hC (pc := 185) 143 dX14_readBody_185 (by decide) ?_
                      refine z_lvs [1, 2, 0, 3] rfl ?_
                      obtain ⟨r68, h⟩ := h
                      obtain ⟨hI, hm⟩ := h
                      exact ih143 s143 y143_1 (y143_2 + 1) y143_3 Ws143 hy143_1 r68 hy143_3 (rKeep.tr rKeep.rf kJ rfl rfl rfl rfl rfl) hI (by omega)
                    · have h := hF c
                      refine z_aload_n hC (pc := 170) 0 dX14_readBody_170 rfl rfl ?_
                      refine z_iload_n hC (pc := 171) 2 dX14_readBody_171 rfl rfl ?_
                      refine z_iconst hC (pc := 172) (v := Int32.ofInt 1) dX14_readBody_172 (by decide) ?_
                      refine y_iadd hC (pc := 173) (v := (y143_2 + 1)) dX14_readBody_173 rfl ?_
                      obtain ⟨r69, h⟩ := h
                      obtain ⟨p70, h⟩ := h
                      refine y_callVi hC (pc := 174) (As := [iv (y143_2 + 1)]) (kX14_fc l G κ s143 (y143_2 + 1) Ws143 r69 p70) dmX14_fc zf14 rOb_0 dX14_readBody_174 zw2993 rfl rfl (Nat.le_of_ble_eq_true rfl) (Nat.le_of_ble_eq_true rfl) (Nat.le_of_ble_eq_true rfl) (Nat.le_of_ble_eq_true rfl) (Nat.le_of_ble_eq_true rfl) (kk := fun v174 s174 hv174 Ws174 qs174 => ?_)
                      obtain ⟨es174, qs174⟩ := qs174
                      have es174 := es174.symm
                      subst es174
                      have h := h v174 hv174 qs174
                      refine z_bipush hC (pc := 177) (v := Int32.ofInt 62) dX14_readBody_177 (by decide) ?_
                      obtain ⟨hT, hF⟩ := h
                      refine y_icmp_eq hC (pc := 179) 188 hv174 (r_lit rfl) dX14_readBody_179 (by decide) (fun c => ?_) (fun c => ?_)
                      · have h := hT c
                        exact j188 s143 y143_1 y143_2 y143_3 Ws143 hy143_1 hy143_2 hy143_3 (rKeep.tr rKeep.rf kJ rfl rfl rfl rfl rfl) h
                      · have h := hF c
                        refine y_iinc hC (pc := 182) (v := (y143_2 + 1)) (lv' := [(2, iv (y143_2 + 1)), (0, .ref (κ 0)), (1, iv y143_1), (3, iv y143_3)]) 2 dX14_readBody_182 rfl rfl (by decide) rfl ?_
                        refine z_goto hC (pc := 185) 143 dX14_readBody_185 (by decide) ?_
                        refine z_lvs [1, 2, 0, 3] rfl ?_
                        obtain ⟨hI, hm⟩ := h
                        exact ih143 s143 y143_1 (y143_2 + 1) y143_3 Ws143 hy143_1 r69 hy143_3 (rKeep.tr rKeep.rf kJ rfl rfl rfl rfl rfl) hI (by omega)
                  · have h := hF c
                    refine z_bipush hC (pc := 160) (v := Int32.ofInt 62) dX14_readBody_160 (by decide) ?_
                    refine z_goto hC (pc := 162) 167 dX14_readBody_162 (by decide) ?_
                    obtain ⟨hT, hF⟩ := h
                    refine y_icmp_ne hC (pc := 167) 182 hv153 (r_lit rfl) dX14_readBody_167 (by decide) (fun c => ?_) (fun c => ?_)
                    · have h := hT c
                      refine y_iinc hC (pc := 182) (v := (y143_2 + 1)) (lv' := [(2, iv (y143_2 + 1)), (0, .ref (κ 0)), (1, iv y143_1), (3, iv y143_3)]) 2 dX14_readBody_182 rfl rfl (by decide) rfl ?_
                      refine z_goto hC (pc := 185) 143 dX14_readBody_185 (by decide) ?_
                      refine z_lvs [1, 2, 0, 3] rfl ?_
                      obtain ⟨r71, h⟩ := h
                      obtain ⟨hI, hm⟩ := h
                      exact ih143 s143 y143_1 (y143_2 + 1) y143_3 Ws143 hy143_1 r71 hy143_3 (rKeep.tr rKeep.rf kJ rfl rfl rfl rfl rfl) hI (by omega)
                    · have h := hF c
                      refine z_aload_n hC (pc := 170) 0 dX14_readBody_170 rfl rfl ?_
                      refine z_iload_n hC (pc := 171) 2 dX14_readBody_171 rfl rfl ?_
                      refine z_iconst hC (pc := 172) (v := Int32.ofInt 1) dX14_readBody_172 (by decide) ?_
                      refine y_iadd hC (pc := 173) (v := (y143_2 + 1)) dX14_readBody_173 rfl ?_
                      obtain ⟨r72, h⟩ := h
                      obtain ⟨p73, h⟩ := h
                      refine y_callVi hC (pc := 174) (As := [iv (y143_2 + 1)]) (kX14_fc l G κ s143 (y143_2 + 1) Ws143 r72 p73) dmX14_fc zf14 rOb_0 dX14_readBody_174 zw2993 rfl rfl (Nat.le_of_ble_eq_true rfl) (Nat.le_of_ble_eq_true rfl) (Nat.le_of_ble_eq_true rfl) (Nat.le_of_ble_eq_true rfl) (Nat.le_of_ble_eq_true rfl) (kk := fun v174 s174 hv174 Ws174 qs174 => ?_)
                      obtain ⟨es174, qs174⟩ := qs174
                      have es174 := es174.symm
                      subst es174
                      have h := h v174 hv174 qs174
                      refine z_bipush hC (pc := 177) (v := Int32.ofInt 62) dX14_readBody_177 (by decide) ?_
                      obtain ⟨hT, hF⟩ := h
                      refine y_icmp_eq hC (pc := 179) 188 hv174 (r_lit rfl) dX14_readBody_179 (by decide) (fun c => ?_) (fun c => ?_)
                      · have h := hT c
                        exact j188 s143 y143_1 y143_2 y143_3 Ws143 hy143_1 hy143_2 hy143_3 (rKeep.tr rKeep.rf kJ rfl rfl rfl rfl rfl) h
                      · have h := hF c
                        refine y_iinc hC (pc := 182) (v := (y143_2 + 1)) (lv' := [(2, iv (y143_2 + 1)), (0, .ref (κ 0)), (1, iv y143_1), (3, iv y143_3)]) 2 dX14_readBody_182 rfl rfl (by decide) rfl ?_
                        refine z_goto hC (pc := 185) 143 dX14_readBody_185 (by decide) ?_
                        refine z_lvs [1, 2, 0, 3] rfl ?_
                        obtain ⟨hI, hm⟩ := h
                        exact ih143 s143 y143_1 (y143_2 + 1) y143_3 Ws143 hy143_1 r72 hy143_3 (rKeep.tr rKeep.rf kJ rfl rfl rfl rfl rfl) hI (by omega)
            refine z_lvs [3, 1, 0, 2] rfl ?_
            obtain ⟨r74, h⟩ := h
            exact j143 _ s113 ((rF s113 0 17) + 2) ((rF s113 0 17) + 2) 1 Ws113 r74 r74 (r_lit rfl) (rKeep.tr rKeep.rf kJ rfl rfl rfl rfl rfl) h (Nat.le_refl _)
        obtain ⟨hT, hF⟩ := h
        refine y_icmp_eq hC (pc := 95) 113 hv90 (r_lit rfl) dX14_readBody_95 (by decide) (fun c => ?_) (fun c => ?_)
        · have h := hT c
          refine z_lvs [1] rfl ?_
          exact j113 (sF s1 0 28 0)  W11  (rKeep.tr (rKeep.tr rKeep.rf qs1.1 rfl rfl rfl rfl rfl) (rKeep.sF0 (f := 28)) rfl rfl rfl rfl rfl) h
        · have h := hF c
          refine z_aload_n hC (pc := 98) 1 dX14_readBody_98 rfl rfl ?_
          refine z_aload_n hC (pc := 99) 1 dX14_readBody_99 rfl rfl ?_
          refine y_get hC (pc := 100) zf14 rOb_0 17 (v := iv (rF s1 0 17)) dX14_readBody_100 zw2484 (rv_i (Or.inl rfl) ((F_sF_ne (by decide)).trans rfl)) (kk := ?_)
          refine z_iconst hC (pc := 103) (v := Int32.ofInt 1) dX14_readBody_103 (by decide) ?_
          refine y_iadd hC (pc := 104) (v := ((rF s1 0 17) + 1)) dX14_readBody_104 rfl ?_
          obtain ⟨p75, h⟩ := h
          refine y_callVi hC (pc := 105) (As := [iv ((rF s1 0 17) + 1)]) (kX14_fc l G κ (sF s1 0 28 0) ((rF s1 0 17) + 1) W11 r15 p75) dmX14_fc zf14 rOb_0 dX14_readBody_105 zw2993 rfl rfl (Nat.le_of_ble_eq_true rfl) (Nat.le_of_ble_eq_true rfl) (Nat.le_of_ble_eq_true rfl) (Nat.le_of_ble_eq_true rfl) (Nat.le_of_ble_eq_true rfl) (kk := fun v105 s105 hv105 Ws105 qs105 => ?_)
          obtain ⟨es105, qs105⟩ := qs105
          have es105 := es105.symm
          subst es105
          have h := h v105 hv105 qs105
          refine z_bipush hC (pc := 108) (v := Int32.ofInt 37) dX14_readBody_108 (by decide) ?_
          obtain ⟨hT, hF⟩ := h
          refine y_icmp_ne hC (pc := 110) 285 hv105 (r_lit rfl) dX14_readBody_110 (by decide) (fun c => ?_) (fun c => ?_)
          · have h := hT c
            refine z_aload_n hC (pc := 285) 1 dX14_readBody_285 rfl rfl ?_
            refine z_iconst hC (pc := 286) (v := Int32.ofInt 1) dX14_readBody_286 (by decide) ?_
            refine z_aload_n hC (pc := 287) 1 dX14_readBody_287 rfl rfl ?_
            refine y_get hC (pc := 288) zf14 rOb_0 17 (v := iv (rF s1 0 17)) dX14_readBody_288 zw2484 (rv_i (Or.inl rfl) ((F_sF_ne (by decide)).trans rfl)) (kk := ?_)
            obtain ⟨p76, h⟩ := h
            refine y_callVv hC (pc := 291) (As := [iv 1, iv (rF s1 0 17)]) (kX14_bad l G κ (sF s1 0 28 0) 1 (rF s1 0 17) W11 (r_lit rfl) (Ws1.f _ _) p76) dmX14_bad zf14 rOb_0 dX14_readBody_291 zw3000 rfl rfl (Nat.le_of_ble_eq_true rfl) (Nat.le_of_ble_eq_true rfl) (Nat.le_of_ble_eq_true rfl) (Nat.le_of_ble_eq_true rfl) (Nat.le_of_ble_eq_true rfl) (kk := fun s291 Ws291 qs291 => ?_)
            have h := h s291 Ws291 (rNMp.keep qs291.1 rfl rfl rfl rfl rfl) (PNp.keep qs291.1 rfl rfl rfl rfl rfl) (CCp.keep qs291.1 rfl rfl rfl rfl rfl rfl rfl) (qs291.1.R rfl) (qs291.1.R rfl) (qs291.1.F rfl) (qs291.1.F rfl) (qs291.1.F rfl) (qs291.1.F rfl) (qs291.1.F rfl) (qs291.1.F rfl) (qs291.1.F rfl) (qs291.1.F rfl) (qs291.1.F rfl) (qs291.1.F rfl) (qs291.1.F rfl) (qs291.1.F rfl) (qs291.1.F rfl) (qs291.1.F rfl) (qs291.1.F rfl) (fun i => qs291.1.A (f := 27) (by decide) rfl) (fun i => qs291.1.A (f := 34) (by decide) rfl) (fun i => qs291.1.A (f := 35) (by decide) rfl) (fun i => qs291.1.A (f := 40) (by decide) rfl) (qs291.1.FG g0 rfl) (qs291.1.FG g0 rfl) (qs291.1.FG g0 rfl) (qs291.1.FG g0 rfl) (qs291.1.FG g0 rfl) (fun i => qs291.1.AG (f := 10) g0 (by decide) rfl) (fun i => qs291.1.AG (f := 11) g0 (by decide) rfl) (RG.keep (c0 := 0) qs291.1 rfl rfl rfl rfl rfl rfl rfl rfl rfl rfl rfl rfl rfl rfl rfl rfl rfl rfl) qs291.2
            refine z_iconst hC (pc := 294) (v := Int32.ofInt 0) dX14_readBody_294 (by decide) ?_
            exact y_reti hR dX14_readBody_295 rfl (r_lit rfl) Ws291 (Nat.le_of_ble_eq_true rfl) (Nat.le_of_ble_eq_true rfl) ⟨(rKeep.tr (rKeep.tr (rKeep.tr rKeep.rf qs1.1 rfl rfl rfl rfl rfl) (rKeep.sF0 (f := 28)) rfl rfl rfl rfl rfl) qs291.1 rfl rfl rfl rfl rfl), h⟩
          · have h := hF c
            refine z_lvs [1] rfl ?_
            exact j113 (sF s1 0 28 0)  W11  (rKeep.tr (rKeep.tr rKeep.rf qs1.1 rfl rfl rfl rfl rfl) (rKeep.sF0 (f := 28)) rfl rfl rfl rfl rfl) h
    · have h := hF c
      refine z_aload_n hC (pc := 36) 1 dX14_readBody_36 rfl rfl ?_
      obtain ⟨p77, h⟩ := h
      refine y_callVv hC (pc := 37) (As := []) (kX14_fileString_f l G κ (sF s1 0 28 0)  W11  p77) dmX14_fileString zf14 rOb_0 dX14_readBody_37 zw3027 rfl rfl (Nat.le_of_ble_eq_true rfl) (Nat.le_of_ble_eq_true rfl) (Nat.le_of_ble_eq_true rfl) (Nat.le_of_ble_eq_true rfl) (Nat.le_of_ble_eq_true rfl) (kk := fun s37 Ws37 qs37 => ?_)
      have h := h s37 Ws37 (rNMp.keep qs37.1 rfl rfl rfl rfl rfl) (PNp.keep qs37.1 rfl rfl rfl rfl rfl) (CCp.keep qs37.1 rfl rfl rfl rfl rfl rfl rfl) (qs37.1.R rfl) (qs37.1.R rfl) (qs37.1.F rfl) (qs37.1.F rfl) (qs37.1.F rfl) (qs37.1.F rfl) (qs37.1.F rfl) (qs37.1.F rfl) (qs37.1.F rfl) (qs37.1.F rfl) (qs37.1.F rfl) (qs37.1.F rfl) (qs37.1.F rfl) (fun i => qs37.1.A (f := 27) (by decide) rfl) (fun i => qs37.1.A (f := 34) (by decide) rfl) (fun i => qs37.1.A (f := 35) (by decide) rfl) (fun i => qs37.1.A (f := 40) (by decide) rfl) (qs37.1.FG g0 rfl) (qs37.1.FG g0 rfl) (qs37.1.FG g0 rfl) (qs37.1.FG g0 rfl) (qs37.1.FG g0 rfl) (fun i => qs37.1.AG (f := 10) g0 (by decide) rfl) (fun i => qs37.1.AG (f := 11) g0 (by decide) rfl) (RG.keep (c0 := 0) qs37.1 rfl rfl rfl rfl rfl rfl rfl rfl rfl rfl rfl rfl rfl rfl rfl rfl rfl rfl) qs37.2
      refine z_aload_n hC (pc := 40) 1 dX14_readBody_40 rfl rfl ?_
      refine y_get hC (pc := 41) zf14 rOb_0 10 (v := iv (rF s37 0 10)) dX14_readBody_41 zw2478 (rv_i (Or.inl rfl) rfl) (kk := ?_)
      have h := h (Ws37.f _ _)
      obtain ⟨hT, hF⟩ := h
      refine y_if_eq hC (pc := 44) 49 (Ws37.f _ _) dX14_readBody_44 (by decide) (fun c => ?_) (fun c => ?_)
      · have h := hT c
        refine z_aload_n hC (pc := 49) 1 dX14_readBody_49 rfl rfl ?_
        refine y_get hC (pc := 50) zf14 rOb_0 22 (v := iv (rF s37 0 22)) dX14_readBody_50 zw2489 (rv_i (Or.inl rfl) rfl) (kk := ?_)
        have h := h (Ws37.f _ _)
        refine z_istore_n hC (pc := 53) (lv' := [(1, iv (rF s37 0 22)), (0, .ref (κ 0))]) dX14_readBody_53 rfl (by decide) rfl ?_
        refine z_aload_n hC (pc := 54) 1 dX14_readBody_54 rfl rfl ?_
        refine y_get hC (pc := 55) zf14 rOb_0 23 (v := iv (rF s37 0 23)) dX14_readBody_55 zw2490 (rv_i (Or.inl rfl) rfl) (kk := ?_)
        have h := h (Ws37.f _ _)
        refine z_istore_n hC (pc := 58) (lv' := [(2, iv (rF s37 0 23)), (1, iv (rF s37 0 22)), (0, .ref (κ 0))]) dX14_readBody_58 rfl (by decide) rfl ?_
        refine z_aload_n hC (pc := 59) 2 dX14_readBody_59 rfl rfl ?_
        refine z_aload_n hC (pc := 60) 2 dX14_readBody_60 rfl rfl ?_
        refine y_get hC (pc := 61) zf14 rOb_0 23 (v := iv (rF s37 0 23)) dX14_readBody_61 zw2490 (rv_i (Or.inl rfl) rfl) (kk := ?_)
        refine y_putI hC (pc := 64) zf14 rOb_0 30 (x := (rF s37 0 23)) dX14_readBody_64 zw2497 (Or.inl rfl) rfl rfl (kk := ?_)
        have W78 := Ws37.sF (q := 0) (f := 30) (x := (rF s37 0 23)) (Ws37.f _ _)
        refine z_goto hC (pc := 67) 296 dX14_readBody_67 (by decide) ?_
        refine z_iload_n hC (pc := 296) 1 dX14_readBody_296 rfl rfl ?_
        refine z_istore_n hC (pc := 297) (lv' := [(3, iv (rF s37 0 22)), (2, iv (rF s37 0 23)), (1, iv (rF s37 0 22)), (0, .ref (κ 0))]) dX14_readBody_297 rfl (by decide) rfl ?_
        have j298 : ∀ (d298 : Nat), ∀ (s298 : rS) (y298_2 : Int) (y298_3 : Int), rWF s298 → rng y298_2 → rng y298_3 → rKeep 0x6c0f3e21c00 0x4100001280 0x13c0c000000 0x3ee0000d7f 0 σ s298 → inv_X14_readBody_298 σ gg U g s298 y298_2 y298_3 → (mu_X14_readBody_298 σ gg U g s298 y298_2 y298_3) ≤ d298 → zS X G 5 (rW G κ s298) [(0, .ref (κ 0)), (2, iv y298_2), (3, iv y298_3)] 0 0 298 [] := by
          intro d298
          induction d298 with
          | zero =>
            intro s298 y298_2 y298_3 Ws298 hy298_2 hy298_3 kJ hI hmu
            exact absurd hmu (by have := h_298m  s298 y298_2 y298_3 Ws298 hy298_2 hy298_3 (kJ.R rfl) (kJ.R rfl) (kJ.F rfl) (kJ.F rfl) (kJ.F rfl) (kJ.F rfl) (kJ.F rfl) hI; omega)
          | succ d298 ih298 =>
            intro s298 y298_2 y298_3 Ws298 hy298_2 hy298_3 kJ hI hmu298
            have h := h_298  s298 y298_2 y298_3 Ws298 hy298_2 hy298_3 (kJ.R rfl) (kJ.R rfl) (kJ.F rfl) (kJ.F rfl) (kJ.F rfl) (kJ.F rfl) (kJ.F rfl) hI
            refine z_iload_n hC (pc := 298) 2 dX14_readBody_298 rfl rfl ?_
            refine z_iload_n hC (pc := 299) 1 dX14_readBody_299 rfl rfl ?_
            obtain ⟨hT, hF⟩ := h
            refine y_icmp_ge hC (pc := 300) 320 hy298_3 hy298_2 dX14_readBody_300 (by decide) (fun c => ?_) (fun c => ?_)
            · have h := hT c
              refine z_aload_n hC (pc := 320) 0 dX14_readBody_320 rfl rfl ?_
              obtain ⟨g79, h⟩ := h
              obtain ⟨p80, h⟩ := h
              refine y_callVi hC (pc := 321) (As := []) (kX14_wholeText l G κ s298 gg g79 Ws298  p80) dmX14_wholeText zf14 rOb_0 dX14_readBody_321 zw3091 rfl rfl (Nat.le_of_ble_eq_true rfl) (Nat.le_of_ble_eq_true rfl) (Nat.le_of_ble_eq_true rfl) (Nat.le_of_ble_eq_true rfl) (Nat.le_of_ble_eq_true rfl) (kk := fun v321 s321 hv321 Ws321 qs321 => ?_)
              have h := h v321 s321 hv321 Ws321 (CCp.keep qs321.1 rfl rfl rfl rfl rfl rfl rfl) (qs321.1.R rfl) (qs321.1.R rfl) (qs321.1.F rfl) (qs321.1.F rfl) (qs321.1.F rfl) (qs321.1.F rfl) (qs321.1.F rfl) (qs321.1.F rfl) (qs321.1.F rfl) (qs321.1.F rfl) (qs321.1.F rfl) (qs321.1.F rfl) (qs321.1.F rfl) (fun i => qs321.1.A (f := 27) (by decide) rfl) qs321.2
              exact y_reti hR dX14_readBody_324 rfl hv321 Ws321 (Nat.le_of_ble_eq_true rfl) (Nat.le_of_ble_eq_true rfl) ⟨(rKeep.tr (rKeep.tr rKeep.rf kJ rfl rfl rfl rfl rfl) qs321.1 rfl rfl rfl rfl rfl), h⟩
            · have h := hF c
              refine z_aload_n hC (pc := 303) 0 dX14_readBody_303 rfl rfl ?_
              refine z_aload_n hC (pc := 304) 0 dX14_readBody_304 rfl rfl ?_
              obtain ⟨g81, h⟩ := h
              refine y_get hC (pc := 305) zf14 rOb_0 15 (v := .ref (κ (rR s298 15))) dX14_readBody_305 zw2482 (rv_b rfl rfl g81) (kk := ?_)
              refine z_iload_n hC (pc := 308) 2 dX14_readBody_308 rfl rfl ?_
              obtain ⟨b82, h⟩ := h
              refine y_bald hC (pc := 309) (rAr_f g81) dX14_readBody_309 b82 (v := (rA s298 (rR s298 15) y298_3)) rfl (kk := ?_)
              have h := h (Ws298.a _ _)
              refine z_iload_n hC (pc := 310) 2 dX14_readBody_310 rfl rfl ?_
              obtain ⟨p83, h⟩ := h
              refine y_callVv hC (pc := 311) (As := [iv (rA s298 (rR s298 15) y298_3), iv y298_3]) (kX14_addByte_f l G κ s298 (rA s298 (rR s298 15) y298_3) y298_3 Ws298 (Ws298.a _ _) hy298_3 p83) dmX14_addByte zf14 rOb_0 dX14_readBody_311 zw3087 rfl rfl (Nat.le_of_ble_eq_true rfl) (Nat.le_of_ble_eq_true rfl) (Nat.le_of_ble_eq_true rfl) (Nat.le_of_ble_eq_true rfl) (Nat.le_of_ble_eq_true rfl) (kk := fun s311 Ws311 qs311 => ?_)
              have h := h s311 Ws311 (rNMp.keep qs311.1 rfl rfl rfl rfl rfl) (PNp.keep qs311.1 rfl rfl rfl rfl rfl) (qs311.1.R rfl) (qs311.1.R rfl) (qs311.1.F rfl) (qs311.1.F rfl) (qs311.1.F rfl) (qs311.1.F rfl) (qs311.1.F rfl) (qs311.1.F rfl) (qs311.1.F rfl) (qs311.1.F rfl) (qs311.1.F rfl) (qs311.1.F rfl) (qs311.1.F rfl) (qs311.1.F rfl) (qs311.1.F rfl) (qs311.1.F rfl) (qs311.1.F rfl) (fun i => qs311.1.A (f := 34) (by decide) rfl) (fun i => qs311.1.A (f := 35) (by decide) rfl) (fun i => qs311.1.A (f := 40) (by decide) rfl) (qs311.1.FG g0 rfl) (qs311.1.FG g0 rfl) (qs311.1.FG g0 rfl) (qs311.1.FG g0 rfl) (qs311.1.FG g0 rfl) (fun i => qs311.1.AG (f := 10) g0 (by decide) rfl) (fun i => qs311.1.AG (f := 11) g0 (by decide) rfl) (fz_keep qs311.1 rfl) (RG.keep (c0 := 0) qs311.1 rfl rfl rfl rfl rfl rfl rfl rfl rfl rfl rfl rfl rfl rfl rfl rfl rfl rfl) qs311.2
              refine y_iinc hC (pc := 314) (v := (y298_3 + 1)) (lv' := [(3, iv (y298_3 + 1)), (0, .ref (κ 0)), (2, iv y298_2)]) 2 dX14_readBody_314 rfl rfl (by decide) rfl ?_
              refine z_goto hC (pc := 317) 298 dX14_readBody_317 (by decide) ?_
              refine z_lvs [1, 2, 0] rfl ?_
              obtain ⟨r84, h⟩ := h
              obtain ⟨hI, hm⟩ := h
              exact ih298 s311 y298_2 (y298_3 + 1) Ws311 hy298_2 r84 (rKeep.tr (rKeep.tr rKeep.rf kJ rfl rfl rfl rfl rfl) qs311.1 rfl rfl rfl rfl rfl) hI (by omega)
        refine z_lvs [3, 1, 0] rfl ?_
        exact j298 _ (sF s37 0 30 (rF s37 0 23)) (rF s37 0 23) (rF s37 0 22) W78 (Ws37.f _ _) (Ws37.f _ _) (rKeep.tr (rKeep.tr (rKeep.tr (rKeep.tr rKeep.rf qs1.1 rfl rfl rfl rfl rfl) (rKeep.sF0 (f := 28)) rfl rfl rfl rfl rfl) qs37.1 rfl rfl rfl rfl rfl) (rKeep.sF0 (f := 30)) rfl rfl rfl rfl rfl) h (Nat.le_refl _)
      · have h := hF c
        refine z_iconst hC (pc := 47) (v := Int32.ofInt 0) dX14_readBody_47 (by decide) ?_
        exact y_reti hR dX14_readBody_48 rfl (r_lit rfl) Ws37 (Nat.le_of_ble_eq_true rfl) (Nat.le_of_ble_eq_true rfl) ⟨(rKeep.tr (rKeep.tr (rKeep.tr rKeep.rf qs1.1 rfl rfl rfl rfl rfl) (rKeep.sF0 (f := 28)) rfl rfl rfl rfl rfl) qs37.1 rfl rfl rfl rfl rfl), h⟩
  · have h := hF c
    refine z_iconst hC (pc := 11) (v := Int32.ofInt 0) dX14_readBody_11 (by decide) ?_
    exact y_reti hR dX14_readBody_12 rfl (r_lit rfl) Ws1 (Nat.le_of_ble_eq_true rfl) (Nat.le_of_ble_eq_true rfl) ⟨(rKeep.tr rKeep.rf qs1.1 rfl rfl rfl rfl rfl), h⟩
theorem kX14_readBody (l : Launch) (G : zG) (κ : Nat → Nat) (σ : rS) (gg : Nat) (U : Int) (g : Nat → Int → Int) (hwf : rWF σ) (hp : pre_X14_readBody σ gg U g) : rMi l G κ yX14_readBody cX14_readBody 5 .int 462 18045 [.ref (κ 0)] σ (fun x s => rKeep 0x6c0f3e21c00 0x4100001280 0x13c0c000000 0x3ee0000d7f 0 σ s ∧ post_X14_readBody σ gg U g x s) := wX14_readBody l G κ σ gg U g hwf (post_X14_readBody σ gg U g) (vX14_readBody σ gg U g hwf hp) (vX14_readBody_298 σ gg U g hwf hp) (vX14_readBody_298m σ gg U g hwf hp) (vX14_readBody_268 σ gg U g hwf hp) (vX14_readBody_247 σ gg U g hwf hp) (vX14_readBody_188 σ gg U g hwf hp) (vX14_readBody_143 σ gg U g hwf hp) (vX14_readBody_143m σ gg U g hwf hp) (vX14_readBody_113 σ gg U g hwf hp)
def pre_X14_readValue (σ : rS) (x1 : Int) (gg : Nat) (U : Int) (g : Nat → Int → Int) : Prop := rR σ 7 = gg ∧ rgk gg ∧ FPZ σ gg U ∧ rNMp σ ∧ PNp σ ∧ rfk (rR σ 15) ∧ Im (fz σ = 0) (GS σ gg g) ∧ (x1 = 0 ∨ x1 = 1)
def post_X14_readValue (σ : rS) (x1 : Int) (gg : Nat) (U : Int) (g : Nat → Int → Int) (r : Int) (σ' : rS) : Prop := FQZ σ σ' gg ∧ rNMp σ' ∧ PNp σ' ∧ 0 ≤ r ∧ r < (rF σ' gg 7) ∧ Im (fz σ' = 0) (RG (RT σ) σ' gg 0) ∧ ∃ h, Im (fz σ' = 0) (GS σ' gg h ∧ GK g h (rF σ gg 7) (rF σ' gg 7) 0 ∧ NR σ' gg h 19 r ((rF σ gg 7)) 0 9000 0 ∧ ok1)
def VC_X14_readValue (σ : rS) (x1 : Int) (gg : Nat) (U : Int) (g : Nat → Int → Int) (Q : Int → rS → Prop) : Prop := rgk (rR σ 7) ∧ pre_X14_skip σ ∧ (∀ (s1 : rS), rWF s1 → (rNMp σ → rNMp s1) → (PNp σ → PNp s1) → rR s1 7 = rR σ 7 → rR s1 15 = rR σ 15 → rF s1 0 14 = rF σ 0 14 → rF s1 0 16 = rF σ 0 16 → rF s1 0 19 = rF σ 0 19 → rF s1 0 21 = rF σ 0 21 → rF s1 0 22 = rF σ 0 22 → rF s1 0 23 = rF σ 0 23 → rF s1 0 28 = rF σ 0 28 → rF s1 0 29 = rF σ 0 29 → rF s1 0 30 = rF σ 0 30 → rF s1 0 31 = rF σ 0 31 → rF s1 0 32 = rF σ 0 32 → rF s1 0 33 = rF σ 0 33 → rF s1 0 38 = rF σ 0 38 → rF s1 0 39 = rF σ 0 39 → (∀ i, rA s1 1027 i = rA σ 1027 i) → (∀ i, rA s1 1034 i = rA σ 1034 i) → (∀ i, rA s1 1035 i = rA σ 1035 i) → (∀ i, rA s1 1040 i = rA σ 1040 i) → rF s1 (rR σ 7) 7 = rF σ (rR σ 7) 7 → rF s1 (rR σ 7) 9 = rF σ (rR σ 7) 9 → rF s1 (rR σ 7) 12 = rF σ (rR σ 7) 12 → rF s1 (rR σ 7) 32 = rF σ (rR σ 7) 32 → rF s1 (rR σ 7) 38 = rF σ (rR σ 7) 38 → (∀ i, rA s1 (1000 * ((rR σ 7) + 1) + 10) i = rA σ (1000 * ((rR σ 7) + 1) + 10) i) → (∀ i, rA s1 (1000 * ((rR σ 7) + 1) + 11) i = rA σ (1000 * ((rR σ 7) + 1) + 11) i) → FLk σ s1 → RG σ s1 (rR σ 7) 0 → post_X14_skip σ s1 → (rng (rF s1 0 10) → (((rF s1 0 10) = 0 → (rng (rF s1 0 17) → pre_X14_fc s1 (rF s1 0 17) ∧ (∀ (v23 : Int), rng v23 → post_X14_fc s1 (rF s1 0 17) v23 → ((¬ v23 = 34 → pre_X14_fc s1 (rF s1 0 17) ∧ (∀ (v69 : Int), rng v69 → post_X14_fc s1 (rF s1 0 17) v69 → ((¬ v69 = 123 → pre_X14_isFileWord_f s1 4 ∧ (∀ (v86 : Int), rng v86 → post_X14_isFileWord_f s1 4 v86 → ((¬ v86 = 0 → pre_X14_isFileWord_f s1 4 ∧ (∀ (v107 : Int), rng v107 → post_X14_isFileWord_f s1 4 v107 → ((v107 = 0 → pre_X14_node_t s1 32 0 0 (rF s1 0 17) gg ∧ (∀ (v123 : Int) (s123 : rS), rng v123 → rWF s123 → (rNMp s1 → rNMp s123) → rR s123 7 = rR s1 7 → rR s123 15 = rR s1 15 → rF s123 0 10 = rF s1 0 10 → rF s123 0 14 = rF s1 0 14 → rF s123 0 16 = rF s1 0 16 → rF s123 0 17 = rF s1 0 17 → rF s123 0 19 = rF s1 0 19 → rF s123 0 21 = rF s1 0 21 → rF s123 0 22 = rF s1 0 22 → rF s123 0 23 = rF s1 0 23 → rF s123 0 28 = rF s1 0 28 → rF s123 0 29 = rF s1 0 29 → rF s123 0 30 = rF s1 0 30 → rF s123 0 31 = rF s1 0 31 → rF s123 0 32 = rF s1 0 32 → rF s123 0 33 = rF s1 0 33 → rF s123 0 38 = rF s1 0 38 → rF s123 0 39 = rF s1 0 39 → (∀ i, rA s123 1027 i = rA s1 1027 i) → (∀ i, rA s123 1034 i = rA s1 1034 i) → (∀ i, rA s123 1035 i = rA s1 1035 i) → (∀ i, rA s123 1040 i = rA s1 1040 i) → rF s123 (rR σ 7) 9 = rF s1 (rR σ 7) 9 → rF s123 (rR σ 7) 12 = rF s1 (rR σ 7) 12 → rF s123 (rR σ 7) 32 = rF s1 (rR σ 7) 32 → rF s123 (rR σ 7) 38 = rF s1 (rR σ 7) 38 → (∀ i, rA s123 (1000 * ((rR σ 7) + 1) + 10) i = rA s1 (1000 * ((rR σ 7) + 1) + 10) i) → (∀ i, rA s123 (1000 * ((rR σ 7) + 1) + 11) i = rA s1 (1000 * ((rR σ 7) + 1) + 11) i) → FLk s1 s123 → fz s123 = fz s1 → post_X14_node_t s1 32 0 0 (rF s1 0 17) gg v123 s123 → rfk (rR σ 15) ∧ (rng (rF s123 0 16) → pre_X14_wordEnd_t s123 (rR σ 15) 4000 (rF s123 0 16) (rF s1 0 17) ∧ (∀ (v140 : Int), rng v140 → post_X14_wordEnd_t s123 (rR σ 15) 4000 (rF s123 0 16) (rF s1 0 17) v140 → Q v123 (sF s123 0 17 v140))))) ∧ (¬ v107 = 0 → pre_X14_node_t s1 31 0 0 (rF s1 0 17) gg ∧ (∀ (v123 : Int) (s123 : rS), rng v123 → rWF s123 → (rNMp s1 → rNMp s123) → rR s123 7 = rR s1 7 → rR s123 15 = rR s1 15 → rF s123 0 10 = rF s1 0 10 → rF s123 0 14 = rF s1 0 14 → rF s123 0 16 = rF s1 0 16 → rF s123 0 17 = rF s1 0 17 → rF s123 0 19 = rF s1 0 19 → rF s123 0 21 = rF s1 0 21 → rF s123 0 22 = rF s1 0 22 → rF s123 0 23 = rF s1 0 23 → rF s123 0 28 = rF s1 0 28 → rF s123 0 29 = rF s1 0 29 → rF s123 0 30 = rF s1 0 30 → rF s123 0 31 = rF s1 0 31 → rF s123 0 32 = rF s1 0 32 → rF s123 0 33 = rF s1 0 33 → rF s123 0 38 = rF s1 0 38 → rF s123 0 39 = rF s1 0 39 → (∀ i, rA s123 1027 i = rA s1 1027 i) → (∀ i, rA s123 1034 i = rA s1 1034 i) → (∀ i, rA s123 1035 i = rA s1 1035 i) → (∀ i, rA s123 1040 i = rA s1 1040 i) → rF s123 (rR σ 7) 9 = rF s1 (rR σ 7) 9 → rF s123 (rR σ 7) 12 = rF s1 (rR σ 7) 12 → rF s123 (rR σ 7) 32 = rF s1 (rR σ 7) 32 → rF s123 (rR σ 7) 38 = rF s1 (rR σ 7) 38 → (∀ i, rA s123 (1000 * ((rR σ 7) + 1) + 10) i = rA s1 (1000 * ((rR σ 7) + 1) + 10) i) → (∀ i, rA s123 (1000 * ((rR σ 7) + 1) + 11) i = rA s1 (1000 * ((rR σ 7) + 1) + 11) i) → FLk s1 s123 → fz s123 = fz s1 → post_X14_node_t s1 31 0 0 (rF s1 0 17) gg v123 s123 → rfk (rR σ 15) ∧ (rng (rF s123 0 16) → pre_X14_wordEnd_t s123 (rR σ 15) 4000 (rF s123 0 16) (rF s1 0 17) ∧ (∀ (v140 : Int), rng v140 → post_X14_wordEnd_t s123 (rR σ 15) 4000 (rF s123 0 16) (rF s1 0 17) v140 → Q v123 (sF s123 0 17 v140)))))))) ∧ (v86 = 0 → pre_X14_isFileWord_f s1 5 ∧ (∀ (v96 : Int), rng v96 → post_X14_isFileWord_f s1 5 v96 → ((v96 = 0 → ((x1 = 0 → ((¬ x1 = 0 → pre_X14_bad s1 1 (rF s1 0 17) ∧ (∀ (s232 : rS), rWF s232 → (rNMp s1 → rNMp s232) → (PNp s1 → PNp s232) → rR s232 7 = rR s1 7 → rR s232 15 = rR s1 15 → rF s232 0 14 = rF s1 0 14 → rF s232 0 16 = rF s1 0 16 → rF s232 0 17 = rF s1 0 17 → rF s232 0 19 = rF s1 0 19 → rF s232 0 21 = rF s1 0 21 → rF s232 0 22 = rF s1 0 22 → rF s232 0 23 = rF s1 0 23 → rF s232 0 28 = rF s1 0 28 → rF s232 0 29 = rF s1 0 29 → rF s232 0 30 = rF s1 0 30 → rF s232 0 31 = rF s1 0 31 → rF s232 0 32 = rF s1 0 32 → rF s232 0 33 = rF s1 0 33 → rF s232 0 38 = rF s1 0 38 → rF s232 0 39 = rF s1 0 39 → (∀ i, rA s232 1027 i = rA s1 1027 i) → (∀ i, rA s232 1034 i = rA s1 1034 i) → (∀ i, rA s232 1035 i = rA s1 1035 i) → (∀ i, rA s232 1040 i = rA s1 1040 i) → rF s232 (rR σ 7) 7 = rF s1 (rR σ 7) 7 → rF s232 (rR σ 7) 9 = rF s1 (rR σ 7) 9 → rF s232 (rR σ 7) 12 = rF s1 (rR σ 7) 12 → rF s232 (rR σ 7) 32 = rF s1 (rR σ 7) 32 → rF s232 (rR σ 7) 38 = rF s1 (rR σ 7) 38 → (∀ i, rA s232 (1000 * ((rR σ 7) + 1) + 10) i = rA s1 (1000 * ((rR σ 7) + 1) + 10) i) → (∀ i, rA s232 (1000 * ((rR σ 7) + 1) + 11) i = rA s1 (1000 * ((rR σ 7) + 1) + 11) i) → FLk s1 s232 → RG s1 s232 (rR σ 7) 0 → post_X14_bad s1 1 (rF s1 0 17) s232 → Q 0 s232)) ∧ (x1 = 0 → pre_X14_fc s1 (rF s1 0 17) ∧ (∀ (v191 : Int), rng v191 → post_X14_fc s1 (rF s1 0 17) v191 → ((¬ v191 = 91 → pre_X14_bad s1 1 (rF s1 0 17) ∧ (∀ (s232 : rS), rWF s232 → (rNMp s1 → rNMp s232) → (PNp s1 → PNp s232) → rR s232 7 = rR s1 7 → rR s232 15 = rR s1 15 → rF s232 0 14 = rF s1 0 14 → rF s232 0 16 = rF s1 0 16 → rF s232 0 17 = rF s1 0 17 → rF s232 0 19 = rF s1 0 19 → rF s232 0 21 = rF s1 0 21 → rF s232 0 22 = rF s1 0 22 → rF s232 0 23 = rF s1 0 23 → rF s232 0 28 = rF s1 0 28 → rF s232 0 29 = rF s1 0 29 → rF s232 0 30 = rF s1 0 30 → rF s232 0 31 = rF s1 0 31 → rF s232 0 32 = rF s1 0 32 → rF s232 0 33 = rF s1 0 33 → rF s232 0 38 = rF s1 0 38 → rF s232 0 39 = rF s1 0 39 → (∀ i, rA s232 1027 i = rA s1 1027 i) → (∀ i, rA s232 1034 i = rA s1 1034 i) → (∀ i, rA s232 1035 i = rA s1 1035 i) → (∀ i, rA s232 1040 i = rA s1 1040 i) → rF s232 (rR σ 7) 7 = rF s1 (rR σ 7) 7 → rF s232 (rR σ 7) 9 = rF s1 (rR σ 7) 9 → rF s232 (rR σ 7) 12 = rF s1 (rR σ 7) 12 → rF s232 (rR σ 7) 32 = rF s1 (rR σ 7) 32 → rF s232 (rR σ 7) 38 = rF s1 (rR σ 7) 38 → (∀ i, rA s232 (1000 * ((rR σ 7) + 1) + 10) i = rA s1 (1000 * ((rR σ 7) + 1) + 10) i) → (∀ i, rA s232 (1000 * ((rR σ 7) + 1) + 11) i = rA s1 (1000 * ((rR σ 7) + 1) + 11) i) → FLk s1 s232 → RG s1 s232 (rR σ 7) 0 → post_X14_bad s1 1 (rF s1 0 17) s232 → Q 0 s232)) ∧ (v191 = 91 → rng ((rF s1 0 17) + 1) ∧ pre_X14_sign (sF s1 0 17 ((rF s1 0 17) + 1)) 1 ∧ (∀ (s213 : rS), rWF s213 → (rNMp (sF s1 0 17 ((rF s1 0 17) + 1)) → rNMp s213) → (PNp (sF s1 0 17 ((rF s1 0 17) + 1)) → PNp s213) → rR s213 7 = rR (sF s1 0 17 ((rF s1 0 17) + 1)) 7 → rR s213 15 = rR (sF s1 0 17 ((rF s1 0 17) + 1)) 15 → rF s213 0 14 = rF (sF s1 0 17 ((rF s1 0 17) + 1)) 0 14 → rF s213 0 16 = rF (sF s1 0 17 ((rF s1 0 17) + 1)) 0 16 → rF s213 0 19 = rF (sF s1 0 17 ((rF s1 0 17) + 1)) 0 19 → rF s213 0 21 = rF (sF s1 0 17 ((rF s1 0 17) + 1)) 0 21 → rF s213 0 22 = rF (sF s1 0 17 ((rF s1 0 17) + 1)) 0 22 → rF s213 0 23 = rF (sF s1 0 17 ((rF s1 0 17) + 1)) 0 23 → rF s213 0 28 = rF (sF s1 0 17 ((rF s1 0 17) + 1)) 0 28 → rF s213 0 29 = rF (sF s1 0 17 ((rF s1 0 17) + 1)) 0 29 → rF s213 0 30 = rF (sF s1 0 17 ((rF s1 0 17) + 1)) 0 30 → rF s213 0 31 = rF (sF s1 0 17 ((rF s1 0 17) + 1)) 0 31 → rF s213 0 32 = rF (sF s1 0 17 ((rF s1 0 17) + 1)) 0 32 → rF s213 0 33 = rF (sF s1 0 17 ((rF s1 0 17) + 1)) 0 33 → rF s213 0 38 = rF (sF s1 0 17 ((rF s1 0 17) + 1)) 0 38 → rF s213 0 39 = rF (sF s1 0 17 ((rF s1 0 17) + 1)) 0 39 → (∀ i, rA s213 1027 i = rA (sF s1 0 17 ((rF s1 0 17) + 1)) 1027 i) → (∀ i, rA s213 1034 i = rA (sF s1 0 17 ((rF s1 0 17) + 1)) 1034 i) → (∀ i, rA s213 1035 i = rA (sF s1 0 17 ((rF s1 0 17) + 1)) 1035 i) → (∀ i, rA s213 1040 i = rA (sF s1 0 17 ((rF s1 0 17) + 1)) 1040 i) → rF s213 (rR σ 7) 7 = rF (sF s1 0 17 ((rF s1 0 17) + 1)) (rR σ 7) 7 → rF s213 (rR σ 7) 9 = rF (sF s1 0 17 ((rF s1 0 17) + 1)) (rR σ 7) 9 → rF s213 (rR σ 7) 12 = rF (sF s1 0 17 ((rF s1 0 17) + 1)) (rR σ 7) 12 → rF s213 (rR σ 7) 32 = rF (sF s1 0 17 ((rF s1 0 17) + 1)) (rR σ 7) 32 → rF s213 (rR σ 7) 38 = rF (sF s1 0 17 ((rF s1 0 17) + 1)) (rR σ 7) 38 → (∀ i, rA s213 (1000 * ((rR σ 7) + 1) + 10) i = rA (sF s1 0 17 ((rF s1 0 17) + 1)) (1000 * ((rR σ 7) + 1) + 10) i) → (∀ i, rA s213 (1000 * ((rR σ 7) + 1) + 11) i = rA (sF s1 0 17 ((rF s1 0 17) + 1)) (1000 * ((rR σ 7) + 1) + 11) i) → FLk (sF s1 0 17 ((rF s1 0 17) + 1)) s213 → RG (sF s1 0 17 ((rF s1 0 17) + 1)) s213 (rR σ 7) 0 → post_X14_sign (sF s1 0 17 ((rF s1 0 17) + 1)) 1 s213 → pre_X14_node_t s213 34 0 0 (rF s1 0 17) gg ∧ (∀ (v222 : Int) (s222 : rS), rng v222 → rWF s222 → (rNMp s213 → rNMp s222) → rR s222 7 = rR s213 7 → rR s222 15 = rR s213 15 → rF s222 0 10 = rF s213 0 10 → rF s222 0 14 = rF s213 0 14 → rF s222 0 16 = rF s213 0 16 → rF s222 0 17 = rF s213 0 17 → rF s222 0 19 = rF s213 0 19 → rF s222 0 21 = rF s213 0 21 → rF s222 0 22 = rF s213 0 22 → rF s222 0 23 = rF s213 0 23 → rF s222 0 28 = rF s213 0 28 → rF s222 0 29 = rF s213 0 29 → rF s222 0 30 = rF s213 0 30 → rF s222 0 31 = rF s213 0 31 → rF s222 0 32 = rF s213 0 32 → rF s222 0 33 = rF s213 0 33 → rF s222 0 38 = rF s213 0 38 → rF s222 0 39 = rF s213 0 39 → (∀ i, rA s222 1027 i = rA s213 1027 i) → (∀ i, rA s222 1034 i = rA s213 1034 i) → (∀ i, rA s222 1035 i = rA s213 1035 i) → (∀ i, rA s222 1040 i = rA s213 1040 i) → rF s222 (rR σ 7) 9 = rF s213 (rR σ 7) 9 → rF s222 (rR σ 7) 12 = rF s213 (rR σ 7) 12 → rF s222 (rR σ 7) 32 = rF s213 (rR σ 7) 32 → rF s222 (rR σ 7) 38 = rF s213 (rR σ 7) 38 → (∀ i, rA s222 (1000 * ((rR σ 7) + 1) + 10) i = rA s213 (1000 * ((rR σ 7) + 1) + 10) i) → (∀ i, rA s222 (1000 * ((rR σ 7) + 1) + 11) i = rA s213 (1000 * ((rR σ 7) + 1) + 11) i) → FLk s213 s222 → fz s222 = fz s213 → post_X14_node_t s213 34 0 0 (rF s1 0 17) gg v222 s222 → Q v222 s222)))))))) ∧ (¬ x1 = 0 → pre_X14_isFileWord_f s1 3 ∧ (∀ (v156 : Int), rng v156 → post_X14_isFileWord_f s1 3 v156 → ((v156 = 0 → ((¬ x1 = 0 → pre_X14_bad s1 1 (rF s1 0 17) ∧ (∀ (s232 : rS), rWF s232 → (rNMp s1 → rNMp s232) → (PNp s1 → PNp s232) → rR s232 7 = rR s1 7 → rR s232 15 = rR s1 15 → rF s232 0 14 = rF s1 0 14 → rF s232 0 16 = rF s1 0 16 → rF s232 0 17 = rF s1 0 17 → rF s232 0 19 = rF s1 0 19 → rF s232 0 21 = rF s1 0 21 → rF s232 0 22 = rF s1 0 22 → rF s232 0 23 = rF s1 0 23 → rF s232 0 28 = rF s1 0 28 → rF s232 0 29 = rF s1 0 29 → rF s232 0 30 = rF s1 0 30 → rF s232 0 31 = rF s1 0 31 → rF s232 0 32 = rF s1 0 32 → rF s232 0 33 = rF s1 0 33 → rF s232 0 38 = rF s1 0 38 → rF s232 0 39 = rF s1 0 39 → (∀ i, rA s232 1027 i = rA s1 1027 i) → (∀ i, rA s232 1034 i = rA s1 1034 i) → (∀ i, rA s232 1035 i = rA s1 1035 i) → (∀ i, rA s232 1040 i = rA s1 1040 i) → rF s232 (rR σ 7) 7 = rF s1 (rR σ 7) 7 → rF s232 (rR σ 7) 9 = rF s1 (rR σ 7) 9 → rF s232 (rR σ 7) 12 = rF s1 (rR σ 7) 12 → rF s232 (rR σ 7) 32 = rF s1 (rR σ 7) 32 → rF s232 (rR σ 7) 38 = rF s1 (rR σ 7) 38 → (∀ i, rA s232 (1000 * ((rR σ 7) + 1) + 10) i = rA s1 (1000 * ((rR σ 7) + 1) + 10) i) → (∀ i, rA s232 (1000 * ((rR σ 7) + 1) + 11) i = rA s1 (1000 * ((rR σ 7) + 1) + 11) i) → FLk s1 s232 → RG s1 s232 (rR σ 7) 0 → post_X14_bad s1 1 (rF s1 0 17) s232 → Q 0 s232)) ∧ (x1 = 0 → pre_X14_fc s1 (rF s1 0 17) ∧ (∀ (v191 : Int), rng v191 → post_X14_fc s1 (rF s1 0 17) v191 → ((¬ v191 = 91 → pre_X14_bad s1 1 (rF s1 0 17) ∧ (∀ (s232 : rS), rWF s232 → (rNMp s1 → rNMp s232) → (PNp s1 → PNp s232) → rR s232 7 = rR s1 7 → rR s232 15 = rR s1 15 → rF s232 0 14 = rF s1 0 14 → rF s232 0 16 = rF s1 0 16 → rF s232 0 17 = rF s1 0 17 → rF s232 0 19 = rF s1 0 19 → rF s232 0 21 = rF s1 0 21 → rF s232 0 22 = rF s1 0 22 → rF s232 0 23 = rF s1 0 23 → rF s232 0 28 = rF s1 0 28 → rF s232 0 29 = rF s1 0 29 → rF s232 0 30 = rF s1 0 30 → rF s232 0 31 = rF s1 0 31 → rF s232 0 32 = rF s1 0 32 → rF s232 0 33 = rF s1 0 33 → rF s232 0 38 = rF s1 0 38 → rF s232 0 39 = rF s1 0 39 → (∀ i, rA s232 1027 i = rA s1 1027 i) → (∀ i, rA s232 1034 i = rA s1 1034 i) → (∀ i, rA s232 1035 i = rA s1 1035 i) → (∀ i, rA s232 1040 i = rA s1 1040 i) → rF s232 (rR σ 7) 7 = rF s1 (rR σ 7) 7 → rF s232 (rR σ 7) 9 = rF s1 (rR σ 7) 9 → rF s232 (rR σ 7) 12 = rF s1 (rR σ 7) 12 → rF s232 (rR σ 7) 32 = rF s1 (rR σ 7) 32 → rF s232 (rR σ 7) 38 = rF s1 (rR σ 7) 38 → (∀ i, rA s232 (1000 * ((rR σ 7) + 1) + 10) i = rA s1 (1000 * ((rR σ 7) + 1) + 10) i) → (∀ i, rA s232 (1000 * ((rR σ 7) + 1) + 11) i = rA s1 (1000 * ((rR σ 7) + 1) + 11) i) → FLk s1 s232 → RG s1 s232 (rR σ 7) 0 → post_X14_bad s1 1 (rF s1 0 17) s232 → Q 0 s232)) ∧ (v191 = 91 → rng ((rF s1 0 17) + 1) ∧ pre_X14_sign (sF s1 0 17 ((rF s1 0 17) + 1)) 1 ∧ (∀ (s213 : rS), rWF s213 → (rNMp (sF s1 0 17 ((rF s1 0 17) + 1)) → rNMp s213) → (PNp (sF s1 0 17 ((rF s1 0 17) + 1)) → PNp s213) → rR s213 7 = rR (sF s1 0 17 ((rF s1 0 17) + 1)) 7 → rR s213 15 = rR (sF s1 0 17 ((rF s1 0 17) + 1)) 15 → rF s213 0 14 = rF (sF s1 0 17 ((rF s1 0 17) + 1)) 0 14 → rF s213 0 16 = rF (sF s1 0 17 ((rF s1 0 17) + 1)) 0 16 → rF s213 0 19 = rF (sF s1 0 17 ((rF s1 0 17) + 1)) 0 19 → rF s213 0 21 = rF (sF s1 0 17 ((rF s1 0 17) + 1)) 0 21 → rF s213 0 22 = rF (sF s1 0 17 ((rF s1 0 17) + 1)) 0 22 → rF s213 0 23 = rF (sF s1 0 17 ((rF s1 0 17) + 1)) 0 23 → rF s213 0 28 = rF (sF s1 0 17 ((rF s1 0 17) + 1)) 0 28 → rF s213 0 29 = rF (sF s1 0 17 ((rF s1 0 17) + 1)) 0 29 → rF s213 0 30 = rF (sF s1 0 17 ((rF s1 0 17) + 1)) 0 30 → rF s213 0 31 = rF (sF s1 0 17 ((rF s1 0 17) + 1)) 0 31 → rF s213 0 32 = rF (sF s1 0 17 ((rF s1 0 17) + 1)) 0 32 → rF s213 0 33 = rF (sF s1 0 17 ((rF s1 0 17) + 1)) 0 33 → rF s213 0 38 = rF (sF s1 0 17 ((rF s1 0 17) + 1)) 0 38 → rF s213 0 39 = rF (sF s1 0 17 ((rF s1 0 17) + 1)) 0 39 → (∀ i, rA s213 1027 i = rA (sF s1 0 17 ((rF s1 0 17) + 1)) 1027 i) → (∀ i, rA s213 1034 i = rA (sF s1 0 17 ((rF s1 0 17) + 1)) 1034 i) → (∀ i, rA s213 1035 i = rA (sF s1 0 17 ((rF s1 0 17) + 1)) 1035 i) → (∀ i, rA s213 1040 i = rA (sF s1 0 17 ((rF s1 0 17) + 1)) 1040 i) → rF s213 (rR σ 7) 7 = rF (sF s1 0 17 ((rF s1 0 17) + 1)) (rR σ 7) 7 → rF s213 (rR σ 7) 9 = rF (sF s1 0 17 ((rF s1 0 17) + 1)) (rR σ 7) 9 → rF s213 (rR σ 7) 12 = rF (sF s1 0 17 ((rF s1 0 17) + 1)) (rR σ 7) 12 → rF s213 (rR σ 7) 32 = rF (sF s1 0 17 ((rF s1 0 17) + 1)) (rR σ 7) 32 → rF s213 (rR σ 7) 38 = rF (sF s1 0 17 ((rF s1 0 17) + 1)) (rR σ 7) 38 → (∀ i, rA s213 (1000 * ((rR σ 7) + 1) + 10) i = rA (sF s1 0 17 ((rF s1 0 17) + 1)) (1000 * ((rR σ 7) + 1) + 10) i) → (∀ i, rA s213 (1000 * ((rR σ 7) + 1) + 11) i = rA (sF s1 0 17 ((rF s1 0 17) + 1)) (1000 * ((rR σ 7) + 1) + 11) i) → FLk (sF s1 0 17 ((rF s1 0 17) + 1)) s213 → RG (sF s1 0 17 ((rF s1 0 17) + 1)) s213 (rR σ 7) 0 → post_X14_sign (sF s1 0 17 ((rF s1 0 17) + 1)) 1 s213 → pre_X14_node_t s213 34 0 0 (rF s1 0 17) gg ∧ (∀ (v222 : Int) (s222 : rS), rng v222 → rWF s222 → (rNMp s213 → rNMp s222) → rR s222 7 = rR s213 7 → rR s222 15 = rR s213 15 → rF s222 0 10 = rF s213 0 10 → rF s222 0 14 = rF s213 0 14 → rF s222 0 16 = rF s213 0 16 → rF s222 0 17 = rF s213 0 17 → rF s222 0 19 = rF s213 0 19 → rF s222 0 21 = rF s213 0 21 → rF s222 0 22 = rF s213 0 22 → rF s222 0 23 = rF s213 0 23 → rF s222 0 28 = rF s213 0 28 → rF s222 0 29 = rF s213 0 29 → rF s222 0 30 = rF s213 0 30 → rF s222 0 31 = rF s213 0 31 → rF s222 0 32 = rF s213 0 32 → rF s222 0 33 = rF s213 0 33 → rF s222 0 38 = rF s213 0 38 → rF s222 0 39 = rF s213 0 39 → (∀ i, rA s222 1027 i = rA s213 1027 i) → (∀ i, rA s222 1034 i = rA s213 1034 i) → (∀ i, rA s222 1035 i = rA s213 1035 i) → (∀ i, rA s222 1040 i = rA s213 1040 i) → rF s222 (rR σ 7) 9 = rF s213 (rR σ 7) 9 → rF s222 (rR σ 7) 12 = rF s213 (rR σ 7) 12 → rF s222 (rR σ 7) 32 = rF s213 (rR σ 7) 32 → rF s222 (rR σ 7) 38 = rF s213 (rR σ 7) 38 → (∀ i, rA s222 (1000 * ((rR σ 7) + 1) + 10) i = rA s213 (1000 * ((rR σ 7) + 1) + 10) i) → (∀ i, rA s222 (1000 * ((rR σ 7) + 1) + 11) i = rA s213 (1000 * ((rR σ 7) + 1) + 11) i) → FLk s213 s222 → fz s222 = fz s213 → post_X14_node_t s213 34 0 0 (rF s1 0 17) gg v222 s222 → Q v222 s222)))))))) ∧ (¬ v156 = 0 → rng ((rF s1 0 17) + 3) ∧ pre_X14_node_t (sF s1 0 17 ((rF s1 0 17) + 3)) 56 0 0 (rF s1 0 17) gg ∧ (∀ (v178 : Int) (s178 : rS), rng v178 → rWF s178 → (rNMp (sF s1 0 17 ((rF s1 0 17) + 3)) → rNMp s178) → rR s178 7 = rR (sF s1 0 17 ((rF s1 0 17) + 3)) 7 → rR s178 15 = rR (sF s1 0 17 ((rF s1 0 17) + 3)) 15 → rF s178 0 10 = rF (sF s1 0 17 ((rF s1 0 17) + 3)) 0 10 → rF s178 0 14 = rF (sF s1 0 17 ((rF s1 0 17) + 3)) 0 14 → rF s178 0 16 = rF (sF s1 0 17 ((rF s1 0 17) + 3)) 0 16 → rF s178 0 17 = rF (sF s1 0 17 ((rF s1 0 17) + 3)) 0 17 → rF s178 0 19 = rF (sF s1 0 17 ((rF s1 0 17) + 3)) 0 19 → rF s178 0 21 = rF (sF s1 0 17 ((rF s1 0 17) + 3)) 0 21 → rF s178 0 22 = rF (sF s1 0 17 ((rF s1 0 17) + 3)) 0 22 → rF s178 0 23 = rF (sF s1 0 17 ((rF s1 0 17) + 3)) 0 23 → rF s178 0 28 = rF (sF s1 0 17 ((rF s1 0 17) + 3)) 0 28 → rF s178 0 29 = rF (sF s1 0 17 ((rF s1 0 17) + 3)) 0 29 → rF s178 0 30 = rF (sF s1 0 17 ((rF s1 0 17) + 3)) 0 30 → rF s178 0 31 = rF (sF s1 0 17 ((rF s1 0 17) + 3)) 0 31 → rF s178 0 32 = rF (sF s1 0 17 ((rF s1 0 17) + 3)) 0 32 → rF s178 0 33 = rF (sF s1 0 17 ((rF s1 0 17) + 3)) 0 33 → rF s178 0 38 = rF (sF s1 0 17 ((rF s1 0 17) + 3)) 0 38 → rF s178 0 39 = rF (sF s1 0 17 ((rF s1 0 17) + 3)) 0 39 → (∀ i, rA s178 1027 i = rA (sF s1 0 17 ((rF s1 0 17) + 3)) 1027 i) → (∀ i, rA s178 1034 i = rA (sF s1 0 17 ((rF s1 0 17) + 3)) 1034 i) → (∀ i, rA s178 1035 i = rA (sF s1 0 17 ((rF s1 0 17) + 3)) 1035 i) → (∀ i, rA s178 1040 i = rA (sF s1 0 17 ((rF s1 0 17) + 3)) 1040 i) → rF s178 (rR σ 7) 9 = rF (sF s1 0 17 ((rF s1 0 17) + 3)) (rR σ 7) 9 → rF s178 (rR σ 7) 12 = rF (sF s1 0 17 ((rF s1 0 17) + 3)) (rR σ 7) 12 → rF s178 (rR σ 7) 32 = rF (sF s1 0 17 ((rF s1 0 17) + 3)) (rR σ 7) 32 → rF s178 (rR σ 7) 38 = rF (sF s1 0 17 ((rF s1 0 17) + 3)) (rR σ 7) 38 → (∀ i, rA s178 (1000 * ((rR σ 7) + 1) + 10) i = rA (sF s1 0 17 ((rF s1 0 17) + 3)) (1000 * ((rR σ 7) + 1) + 10) i) → (∀ i, rA s178 (1000 * ((rR σ 7) + 1) + 11) i = rA (sF s1 0 17 ((rF s1 0 17) + 3)) (1000 * ((rR σ 7) + 1) + 11) i) → FLk (sF s1 0 17 ((rF s1 0 17) + 3)) s178 → fz s178 = fz (sF s1 0 17 ((rF s1 0 17) + 3)) → post_X14_node_t (sF s1 0 17 ((rF s1 0 17) + 3)) 56 0 0 (rF s1 0 17) gg v178 s178 → Q v178 s178))))))) ∧ (¬ v96 = 0 → pre_X14_isFileWord_f s1 4 ∧ (∀ (v107 : Int), rng v107 → post_X14_isFileWord_f s1 4 v107 → ((v107 = 0 → pre_X14_node_t s1 32 0 0 (rF s1 0 17) gg ∧ (∀ (v123 : Int) (s123 : rS), rng v123 → rWF s123 → (rNMp s1 → rNMp s123) → rR s123 7 = rR s1 7 → rR s123 15 = rR s1 15 → rF s123 0 10 = rF s1 0 10 → rF s123 0 14 = rF s1 0 14 → rF s123 0 16 = rF s1 0 16 → rF s123 0 17 = rF s1 0 17 → rF s123 0 19 = rF s1 0 19 → rF s123 0 21 = rF s1 0 21 → rF s123 0 22 = rF s1 0 22 → rF s123 0 23 = rF s1 0 23 → rF s123 0 28 = rF s1 0 28 → rF s123 0 29 = rF s1 0 29 → rF s123 0 30 = rF s1 0 30 → rF s123 0 31 = rF s1 0 31 → rF s123 0 32 = rF s1 0 32 → rF s123 0 33 = rF s1 0 33 → rF s123 0 38 = rF s1 0 38 → rF s123 0 39 = rF s1 0 39 → (∀ i, rA s123 1027 i = rA s1 1027 i) → (∀ i, rA s123 1034 i = rA s1 1034 i) → (∀ i, rA s123 1035 i = rA s1 1035 i) → (∀ i, rA s123 1040 i = rA s1 1040 i) → rF s123 (rR σ 7) 9 = rF s1 (rR σ 7) 9 → rF s123 (rR σ 7) 12 = rF s1 (rR σ 7) 12 → rF s123 (rR σ 7) 32 = rF s1 (rR σ 7) 32 → rF s123 (rR σ 7) 38 = rF s1 (rR σ 7) 38 → (∀ i, rA s123 (1000 * ((rR σ 7) + 1) + 10) i = rA s1 (1000 * ((rR σ 7) + 1) + 10) i) → (∀ i, rA s123 (1000 * ((rR σ 7) + 1) + 11) i = rA s1 (1000 * ((rR σ 7) + 1) + 11) i) → FLk s1 s123 → fz s123 = fz s1 → post_X14_node_t s1 32 0 0 (rF s1 0 17) gg v123 s123 → rfk (rR σ 15) ∧ (rng (rF s123 0 16) → pre_X14_wordEnd_t s123 (rR σ 15) 4000 (rF s123 0 16) (rF s1 0 17) ∧ (∀ (v140 : Int), rng v140 → post_X14_wordEnd_t s123 (rR σ 15) 4000 (rF s123 0 16) (rF s1 0 17) v140 → Q v123 (sF s123 0 17 v140))))) ∧ (¬ v107 = 0 → pre_X14_node_t s1 31 0 0 (rF s1 0 17) gg ∧ (∀ (v123 : Int) (s123 : rS), rng v123 → rWF s123 → (rNMp s1 → rNMp s123) → rR s123 7 = rR s1 7 → rR s123 15 = rR s1 15 → rF s123 0 10 = rF s1 0 10 → rF s123 0 14 = rF s1 0 14 → rF s123 0 16 = rF s1 0 16 → rF s123 0 17 = rF s1 0 17 → rF s123 0 19 = rF s1 0 19 → rF s123 0 21 = rF s1 0 21 → rF s123 0 22 = rF s1 0 22 → rF s123 0 23 = rF s1 0 23 → rF s123 0 28 = rF s1 0 28 → rF s123 0 29 = rF s1 0 29 → rF s123 0 30 = rF s1 0 30 → rF s123 0 31 = rF s1 0 31 → rF s123 0 32 = rF s1 0 32 → rF s123 0 33 = rF s1 0 33 → rF s123 0 38 = rF s1 0 38 → rF s123 0 39 = rF s1 0 39 → (∀ i, rA s123 1027 i = rA s1 1027 i) → (∀ i, rA s123 1034 i = rA s1 1034 i) → (∀ i, rA s123 1035 i = rA s1 1035 i) → (∀ i, rA s123 1040 i = rA s1 1040 i) → rF s123 (rR σ 7) 9 = rF s1 (rR σ 7) 9 → rF s123 (rR σ 7) 12 = rF s1 (rR σ 7) 12 → rF s123 (rR σ 7) 32 = rF s1 (rR σ 7) 32 → rF s123 (rR σ 7) 38 = rF s1 (rR σ 7) 38 → (∀ i, rA s123 (1000 * ((rR σ 7) + 1) + 10) i = rA s1 (1000 * ((rR σ 7) + 1) + 10) i) → (∀ i, rA s123 (1000 * ((rR σ 7) + 1) + 11) i = rA s1 (1000 * ((rR σ 7) + 1) + 11) i) → FLk s1 s123 → fz s123 = fz s1 → post_X14_node_t s1 31 0 0 (rF s1 0 17) gg v123 s123 → rfk (rR σ 15) ∧ (rng (rF s123 0 16) → pre_X14_wordEnd_t s123 (rR σ 15) 4000 (rF s123 0 16) (rF s1 0 17) ∧ (∀ (v140 : Int), rng v140 → post_X14_wordEnd_t s123 (rR σ 15) 4000 (rF s123 0 16) (rF s1 0 17) v140 → Q v123 (sF s123 0 17 v140)))))))))))))) ∧ (v69 = 123 → ∃ (g51 : Nat → Int → Int), pre_X14_readFileSub s1 gg U g51 ∧ (∀ (v78 : Int) (s78 : rS), rng v78 → rWF s78 → rR s78 7 = rR s1 7 → rR s78 15 = rR s1 15 → rF s78 0 14 = rF s1 0 14 → rF s78 0 16 = rF s1 0 16 → rF s78 0 19 = rF s1 0 19 → rF s78 0 21 = rF s1 0 21 → rF s78 0 22 = rF s1 0 22 → rF s78 0 23 = rF s1 0 23 → FLk s1 s78 → post_X14_readFileSub s1 gg U g51 v78 s78 → Q v78 s78))))) ∧ (v23 = 34 → pre_X14_fileString_f s1 ∧ (∀ (s32 : rS), rWF s32 → (rNMp s1 → rNMp s32) → (PNp s1 → PNp s32) → rR s32 7 = rR s1 7 → rR s32 15 = rR s1 15 → rF s32 0 14 = rF s1 0 14 → rF s32 0 16 = rF s1 0 16 → rF s32 0 19 = rF s1 0 19 → rF s32 0 28 = rF s1 0 28 → rF s32 0 29 = rF s1 0 29 → rF s32 0 30 = rF s1 0 30 → rF s32 0 31 = rF s1 0 31 → rF s32 0 32 = rF s1 0 32 → rF s32 0 33 = rF s1 0 33 → rF s32 0 38 = rF s1 0 38 → rF s32 0 39 = rF s1 0 39 → (∀ i, rA s32 1027 i = rA s1 1027 i) → (∀ i, rA s32 1034 i = rA s1 1034 i) → (∀ i, rA s32 1035 i = rA s1 1035 i) → (∀ i, rA s32 1040 i = rA s1 1040 i) → rF s32 (rR σ 7) 7 = rF s1 (rR σ 7) 7 → rF s32 (rR σ 7) 9 = rF s1 (rR σ 7) 9 → rF s32 (rR σ 7) 12 = rF s1 (rR σ 7) 12 → rF s32 (rR σ 7) 32 = rF s1 (rR σ 7) 32 → rF s32 (rR σ 7) 38 = rF s1 (rR σ 7) 38 → (∀ i, rA s32 (1000 * ((rR σ 7) + 1) + 10) i = rA s1 (1000 * ((rR σ 7) + 1) + 10) i) → (∀ i, rA s32 (1000 * ((rR σ 7) + 1) + 11) i = rA s1 (1000 * ((rR σ 7) + 1) + 11) i) → FLk s1 s32 → RG s1 s32 (rR σ 7) 0 → post_X14_fileString_f s1 s32 → (rng (rF s32 0 10) → ((¬ (rF s32 0 10) = 0 → Q 0 s32) ∧ ((rF s32 0 10) = 0 → rfk (rR σ 15) ∧ (rng (rF s32 0 22) → (rng (rF s32 0 23) → pre_X14_keepString_t s32 (rR σ 15) 4000 (rF s32 0 22) (rF s32 0 23) (rF s1 0 17) gg ∧ (∀ (v56 : Int) (s56 : rS), rng v56 → rWF s56 → rR s56 7 = rR s32 7 → rR s56 15 = rR s32 15 → rF s56 0 10 = rF s32 0 10 → rF s56 0 14 = rF s32 0 14 → rF s56 0 16 = rF s32 0 16 → rF s56 0 17 = rF s32 0 17 → rF s56 0 19 = rF s32 0 19 → rF s56 0 21 = rF s32 0 21 → rF s56 0 22 = rF s32 0 22 → rF s56 0 23 = rF s32 0 23 → rF s56 0 28 = rF s32 0 28 → rF s56 0 29 = rF s32 0 29 → rF s56 0 30 = rF s32 0 30 → rF s56 0 31 = rF s32 0 31 → rF s56 0 32 = rF s32 0 32 → rF s56 0 33 = rF s32 0 33 → rF s56 0 38 = rF s32 0 38 → rF s56 0 39 = rF s32 0 39 → (∀ i, rA s56 1027 i = rA s32 1027 i) → (∀ i, rA s56 1034 i = rA s32 1034 i) → (∀ i, rA s56 1035 i = rA s32 1035 i) → (∀ i, rA s56 1040 i = rA s32 1040 i) → rF s56 (rR σ 7) 12 = rF s32 (rR σ 7) 12 → rF s56 (rR σ 7) 32 = rF s32 (rR σ 7) 32 → rF s56 (rR σ 7) 38 = rF s32 (rR σ 7) 38 → (∀ i, rA s56 (1000 * ((rR σ 7) + 1) + 10) i = rA s32 (1000 * ((rR σ 7) + 1) + 10) i) → (∀ i, rA s56 (1000 * ((rR σ 7) + 1) + 11) i = rA s32 (1000 * ((rR σ 7) + 1) + 11) i) → FLk s32 s56 → fz s56 = fz s32 → post_X14_keepString_t s32 (rR σ 15) 4000 (rF s32 0 22) (rF s32 0 23) (rF s1 0 17) gg v56 s56 → Q v56 s56)))))))))))) ∧ (¬ (rF s1 0 10) = 0 → Q 0 s1))))
set_option maxHeartbeats 20000000 in
theorem vX14_readValue (σ : rS) (x1 : Int) (gg : Nat) (U : Int) (g : Nat → Int → Int) (hwf : rWF σ) (hx1 : rng x1) (hp : pre_X14_readValue σ x1 gg U g) : VC_X14_readValue σ x1 gg U g (post_X14_readValue σ x1 gg U g) := by
  unfold pre_X14_readValue at hp
  obtain ⟨hp_1, hp_2, hp_3, hp_4, hp_5, hp_6, hp_7, hp_8⟩ := hp
  unfold rng at hx1
  subst hp_1
  have hF := hp_3
  unfold FPZ at hF
  have zr0 := fz_rng σ
  unfold VC_X14_readValue
  refine ⟨(by (all_goals (repeat' (first | with_reducible intro _ | with_reducible apply And.intro))); all_goals (first | assumption | trivial | (unfold FPZ; omega) | (unfold FQZ; omega) | omega | (have zz_ := fz_z (by assumption); omega) | (split <;> omega) | done)), ?_⟩
  refine ⟨(by (try simp only [pre_X14_skip]); (all_goals (repeat' (first | with_reducible intro _ | with_reducible apply And.intro | with_reducible refine Exists.intro g ?_ | with_reducible refine Im.and ?_ ?_))); all_goals (first | assumption | trivial | ((with_reducible refine Im.i fun hf_ => ?_); first | exact ((fun _ => RG.t0f (by omega) (by omega)) hf_) | exact (hp_7 hf_) | exact ((fun _ => GK.rf) hf_) | exact ok1.i | (exact LI.z (fun h => absurd h (by decide))) | (exact absurd hf_ (by omega)) | omega) | (unfold FPZ; omega) | (unfold FQZ; omega) | omega | (have zz_ := fz_z (by assumption); omega) | (split <;> omega) | done)), ?_⟩
  intro s1 Ws1 e1_0 e1_1 e1_2 e1_3 e1_4 e1_5 e1_6 e1_7 e1_8 e1_9 e1_10 e1_11 e1_12 e1_13 e1_14 e1_15 e1_16 e1_17 e1_18 e1_19 e1_20 e1_21 e1_22 e1_23 e1_24 e1_25 e1_26 e1_27 e1_28 e1_29 R1 q1
  have q1 := dig_X14_skip q1
  obtain ⟨q1_1, q1_2, q1_3⟩ := q1
  (try simp only [FPZ, FQZ] at q1_1 q1_2 q1_3 e1_0 e1_1 e1_2 e1_3 e1_4 e1_5 e1_6 e1_7 e1_8 e1_9 e1_10 e1_11 e1_12 e1_13 e1_14 e1_15 e1_16 e1_17 e1_18 e1_19 e1_20 e1_21 e1_22 e1_23 e1_24 e1_25 e1_26 e1_27 e1_28 e1_29 R1)
  have Ks1 : rR s1 7 = rR σ 7 := by first | assumption | ((try simp only [rR_sF, rR_sA, rR_sT, rR_sL] at e1_0 e1_1 e1_2 e1_3 e1_4 e1_5 e1_6 e1_7 e1_8 e1_9 e1_10 e1_11 e1_12 e1_13 e1_14 e1_15 e1_16 e1_17 e1_18 e1_19 e1_20 e1_21 e1_22 e1_23 e1_24 e1_25 e1_26 e1_27 e1_28 e1_29 R1); omega)
  have Fs1 : rR s1 15 = rR σ 15 := by first | assumption | ((try simp only [rR_sF, rR_sA, rR_sT, rR_sL] at e1_0 e1_1 e1_2 e1_3 e1_4 e1_5 e1_6 e1_7 e1_8 e1_9 e1_10 e1_11 e1_12 e1_13 e1_14 e1_15 e1_16 e1_17 e1_18 e1_19 e1_20 e1_21 e1_22 e1_23 e1_24 e1_25 e1_26 e1_27 e1_28 e1_29 R1); omega)
  have zr1 := fz_rng s1
  have zc1 : fz s1 = 0 → fz σ = 0 := fun hf => by omega
  have A1 : Im (fz s1 = 0) (RG (RT σ) s1 (rR σ 7) 0) := fun hf => RG.trk hp_2 ((fun _ => RG.t0f (by omega) (by omega)) (zc1 hf)) R1 (Or.inr (Or.inl rfl))
  have Ku1 : Im (fz s1 = 0) (GK g g (rF σ (rR σ 7) 7) (rF s1 (rR σ 7) 7) 0) := fun hf => GK.trans ((fun _ => GK.rf) (zc1 hf)) (GK.up (N := rF σ (rR σ 7) 7) (N' := rF s1 (rR σ 7) 7) (c := 0) (by first | assumption | omega | (simp only [rF_sT, rF_sA]; omega))) (Or.inr (Or.inl rfl))
  have Gu2 : Im (fz s1 = 0) (GS s1 (rR σ 7) g) := fun hf => GS.mv hp_2 (hp_7 (zc1 hf)) R1 (by first | assumption | omega | (simp only [rF_sT, rF_sA]; omega)) (by first | (exact Int.le_of_eq (Eq.symm (by assumption))) | omega | (simp only [rF_sT, rF_sA]; omega))
  have rNMp_1 := e1_0 hp_4; clear e1_0
  have PNp_1 := e1_1 hp_5; clear e1_1
  intro hr_; unfold rng at hr_
  refine ⟨fun c8 => ?_, fun c8 => ?_⟩
  · have z8 := fz_z c8
    intro hr_; unfold rng at hr_
    refine ⟨(by (try simp only [pre_X14_fc, Ks1, Fs1]); (all_goals (repeat' (first | with_reducible intro _ | with_reducible apply And.intro | with_reducible refine Exists.intro g ?_ | with_reducible refine Im.and ?_ ?_))); all_goals (first | assumption | trivial | ((with_reducible refine Im.i fun hf_ => ?_); first | exact (A1 hf_) | exact (Gu2 hf_) | exact (Ku1 hf_) | exact ok1.i | (exact LI.z (fun h => absurd h (by decide))) | (exact absurd hf_ (by omega)) | omega) | (unfold FPZ; (try simp only [Ks1, Fs1]); omega) | (unfold FQZ; (try simp only [Ks1, Fs1]); omega) | omega | (have zz_ := fz_z (by assumption); omega) | (split <;> omega) | done)), ?_⟩
    intro v23 hv23 q23
    unfold rng at hv23
    unfold post_X14_fc at q23
    obtain ⟨q23_1, q23_2⟩ := q23
    (try simp only [Ks1, Fs1, FPZ, FQZ] at q23_1 q23_2)
    refine ⟨fun c28 => ?_, fun c28 => ?_⟩
    · refine ⟨(by (try simp only [pre_X14_fc, Ks1, Fs1]); (all_goals (repeat' (first | with_reducible intro _ | with_reducible apply And.intro | with_reducible refine Exists.intro g ?_ | with_reducible refine Im.and ?_ ?_))); all_goals (first | assumption | trivial | ((with_reducible refine Im.i fun hf_ => ?_); first | exact (A1 hf_) | exact (Gu2 hf_) | exact (Ku1 hf_) | exact ok1.i | (exact LI.z (fun h => absurd h (by decide))) | (exact absurd hf_ (by omega)) | omega) | (unfold FPZ; (try simp only [Ks1, Fs1]); omega) | (unfold FQZ; (try simp only [Ks1, Fs1]); omega) | omega | (have zz_ := fz_z (by assumption); omega) | (split <;> omega) | done)), ?_⟩
      intro v69 hv69 q69
      unfold rng at hv69
      unfold post_X14_fc at q69
      obtain ⟨q69_1, q69_2⟩ := q69
      (try simp only [Ks1, Fs1, FPZ, FQZ] at q69_1 q69_2)
      refine ⟨fun c74 => ?_, fun c74 => ?_⟩
      · refine ⟨(by (try simp only [pre_X14_isFileWord_f, Ks1, Fs1]); (all_goals (repeat' (first | with_reducible intro _ | with_reducible apply And.intro | with_reducible refine Exists.intro g ?_ | with_reducible refine Im.and ?_ ?_))); all_goals (first | assumption | trivial | ((with_reducible refine Im.i fun hf_ => ?_); first | exact (A1 hf_) | exact (Gu2 hf_) | exact (Ku1 hf_) | exact ok1.i | (exact LI.z (fun h => absurd h (by decide))) | (exact absurd hf_ (by omega)) | omega) | (unfold FPZ; (try simp only [Ks1, Fs1]); omega) | (unfold FQZ; (try simp only [Ks1, Fs1]); omega) | omega | (have zz_ := fz_z (by assumption); omega) | (split <;> omega) | done)), ?_⟩
        intro v86 hv86 q86
        unfold rng at hv86
        unfold post_X14_isFileWord_f at q86
        obtain ⟨q86_1, q86_2, q86_3⟩ := q86
        (try simp only [Ks1, Fs1, FPZ, FQZ] at q86_1 q86_2 q86_3)
        refine ⟨fun c89 => ?_, fun c89 => ?_⟩
        · refine ⟨(by (try simp only [pre_X14_isFileWord_f, Ks1, Fs1]); (all_goals (repeat' (first | with_reducible intro _ | with_reducible apply And.intro | with_reducible refine Exists.intro g ?_ | with_reducible refine Im.and ?_ ?_))); all_goals (first | assumption | trivial | ((with_reducible refine Im.i fun hf_ => ?_); first | exact (A1 hf_) | exact (Gu2 hf_) | exact (Ku1 hf_) | exact ok1.i | (exact LI.z (fun h => absurd h (by decide))) | (exact absurd hf_ (by omega)) | omega) | (unfold FPZ; (try simp only [Ks1, Fs1]); omega) | (unfold FQZ; (try simp only [Ks1, Fs1]); omega) | omega | (have zz_ := fz_z (by assumption); omega) | (split <;> omega) | done)), ?_⟩
          intro v107 hv107 q107
          unfold rng at hv107
          unfold post_X14_isFileWord_f at q107
          obtain ⟨q107_1, q107_2, q107_3⟩ := q107
          (try simp only [Ks1, Fs1, FPZ, FQZ] at q107_1 q107_2 q107_3)
          refine ⟨fun c110 => ?_, fun c110 => ?_⟩
          · refine ⟨(by (try simp only [pre_X14_node_t, Ks1, Fs1]); (all_goals (repeat' (first | with_reducible intro _ | with_reducible apply And.intro | with_reducible refine Exists.intro g ?_ | with_reducible refine Im.and ?_ ?_))); all_goals (first | assumption | trivial | ((with_reducible refine Im.i fun hf_ => ?_); first | exact (A1 hf_) | exact (Gu2 hf_) | exact (Ku1 hf_) | exact ok1.i | (exact LI.z (fun h => absurd h (by decide))) | (exact absurd hf_ (by omega)) | omega) | (unfold FPZ; (try simp only [Ks1, Fs1]); omega) | (unfold FQZ; (try simp only [Ks1, Fs1]); omega) | omega | (have zz_ := fz_z (by assumption); omega) | (split <;> omega) | done)), ?_⟩
            intro v123 s123 hv123 Ws123 e123_0 e123_1 e123_2 e123_3 e123_4 e123_5 e123_6 e123_7 e123_8 e123_9 e123_10 e123_11 e123_12 e123_13 e123_14 e123_15 e123_16 e123_17 e123_18 e123_19 e123_20 e123_21 e123_22 e123_23 e123_24 e123_25 e123_26 e123_27 e123_28 e123_29 e123_30 q123
            unfold rng at hv123
            unfold post_X14_node_t at q123
            obtain ⟨q123_1, q123_2, q123_3, q123_4, q123_5, q123_6, q123_7, q123_8, q123_9, q123_10⟩ := q123
            (try simp only [Ks1, Fs1, FPZ, FQZ] at q123_1 q123_2 q123_3 q123_4 q123_5 q123_6 q123_7 q123_8 q123_9 q123_10 e123_0 e123_1 e123_2 e123_3 e123_4 e123_5 e123_6 e123_7 e123_8 e123_9 e123_10 e123_11 e123_12 e123_13 e123_14 e123_15 e123_16 e123_17 e123_18 e123_19 e123_20 e123_21 e123_22 e123_23 e123_24 e123_25 e123_26 e123_27 e123_28 e123_29 e123_30)
            have Ks123 : rR s123 7 = rR σ 7 := by first | assumption | ((try simp only [rR_sF, rR_sA, rR_sT, rR_sL] at e123_0 e123_1 e123_2 e123_3 e123_4 e123_5 e123_6 e123_7 e123_8 e123_9 e123_10 e123_11 e123_12 e123_13 e123_14 e123_15 e123_16 e123_17 e123_18 e123_19 e123_20 e123_21 e123_22 e123_23 e123_24 e123_25 e123_26 e123_27 e123_28 e123_29 e123_30); omega)
            have Fs123 : rR s123 15 = rR σ 15 := by first | assumption | ((try simp only [rR_sF, rR_sA, rR_sT, rR_sL] at e123_0 e123_1 e123_2 e123_3 e123_4 e123_5 e123_6 e123_7 e123_8 e123_9 e123_10 e123_11 e123_12 e123_13 e123_14 e123_15 e123_16 e123_17 e123_18 e123_19 e123_20 e123_21 e123_22 e123_23 e123_24 e123_25 e123_26 e123_27 e123_28 e123_29 e123_30); omega)
            have zr123 := fz_rng s123
            have zc123 : fz s123 = 0 → fz s1 = 0 := fun hf => by omega
            have A123 : Im (fz s123 = 0) (RG (RT σ) s123 (rR σ 7) 0) := fun hf => RG.trk hp_2 (A1 (zc123 hf)) q123_3 (Or.inr (Or.inl rfl))
            obtain ⟨g123, X123⟩ := EN_32 (P := fz s123 = 0) 0 0 hp_2 (fun hf => Gu2 (zc123 hf)) (fun hf => q123_3) q123_1 q123_2 q123_4 q123_5 q123_6 q123_9 (fun hf => by (try simp only [rF_sT, rF_sA]); (repeat' (with_reducible apply And.intro)) <;> first | trivial | omega)
            have Ku3 : Im (fz s123 = 0) (GK g g123 (rF σ (rR σ 7) 7) (rF s123 (rR σ 7) 7) 0) := fun hf => GK.gs (Ku1 (zc123 hf)) (X123 hf).2.1
            have Gu4 : Im (fz s123 = 0) _ := fun hf => (X123 hf).1
            have O123 : Im (fz s123 = 0) _ := fun hf => (X123 hf).2.2.1
            have rNMp_123 := e123_0 rNMp_1; clear e123_0
            obtain ⟨gu5, Xu6⟩ := EC_32 (P := fz s123 = 0) 0 Gu4 O123 (fun hf => by omega)
            have O123u7 : Im (fz s123 = 0) _ := fun hf => (Xu6 hf).2.1
            have Ku8 : Im (fz s123 = 0) (GK g gu5 (rF σ (rR σ 7) 7) (rF s123 (rR σ 7) 7) 0) := fun hf => GK.kc (Ku3 hf) (Xu6 hf).2.2 (by omega)
            have Gu9 : Im (fz s123 = 0) _ := fun hf => (Xu6 hf).1
            have Vu10 : Im (fz s123 = 0) _ := fun hf => NR_re19 (O123u7 hf) (Xu6 hf).2.2 (O123 hf) (by rw [so_19]; omega)
            refine ⟨(by (try simp only [Ks123, Fs123]); (all_goals (repeat' (first | with_reducible intro _ | with_reducible apply And.intro | with_reducible refine Exists.intro gu5 ?_ | with_reducible refine Im.and ?_ ?_))); all_goals (first | assumption | trivial | ((with_reducible refine Im.i fun hf_ => ?_); first | exact (A123 hf_) | exact (Gu9 hf_) | exact (Ku8 hf_) | exact (Vu10 hf_).cst | exact ok1.i | (exact LI.z (fun h => absurd h (by decide))) | (exact absurd hf_ (by omega)) | omega) | (unfold FPZ; (try simp only [Ks123, Fs123]); omega) | (unfold FQZ; (try simp only [Ks123, Fs123]); omega) | omega | (have zz_ := fz_z (by assumption); omega) | (split <;> omega) | done)), ?_⟩
            intro hr_; unfold rng at hr_
            refine ⟨(by (try simp only [pre_X14_wordEnd_t, Ks123, Fs123]); (all_goals (repeat' (first | with_reducible intro _ | with_reducible apply And.intro | with_reducible refine Exists.intro gu5 ?_ | with_reducible refine Im.and ?_ ?_))); all_goals (first | assumption | trivial | ((with_reducible refine Im.i fun hf_ => ?_); first | exact (A123 hf_) | exact (Gu9 hf_) | exact (Ku8 hf_) | exact (Vu10 hf_).cst | exact ok1.i | (exact LI.z (fun h => absurd h (by decide))) | (exact absurd hf_ (by omega)) | omega) | (unfold FPZ; (try simp only [Ks123, Fs123]); omega) | (unfold FQZ; (try simp only [Ks123, Fs123]); omega) | omega | (have zz_ := fz_z (by assumption); omega) | (split <;> omega) | done)), ?_⟩
            intro v140 hv140 q140
            unfold rng at hv140
            unfold post_X14_wordEnd_t at q140
            obtain ⟨q140_1, q140_2, q140_3, q140_4⟩ := q140
            (try simp only [Ks123, Fs123, FPZ, FQZ] at q140_1 q140_2 q140_3 q140_4)
            have w140 : rF s1 0 17 < v140 := by first | (have a_ := q86_3 ⟨by omega, by decide⟩; (try simp only [Fs1] at a_); exact q140_4 ⟨by omega, by rw [(by assumption : FLk s1 s123) _ _ hp_6.1]; exact a_.2⟩) | (have a_ := q96_3 ⟨by omega, by decide⟩; (try simp only [Fs1] at a_); exact q140_4 ⟨by omega, by rw [(by assumption : FLk s1 s123) _ _ hp_6.1]; exact a_.2⟩) | (have a_ := q107_3 ⟨by omega, by decide⟩; (try simp only [Fs1] at a_); exact q140_4 ⟨by omega, by rw [(by assumption : FLk s1 s123) _ _ hp_6.1]; exact a_.2⟩)
            exact (by (try simp only [post_X14_readValue, reduceIte, and_true, true_and, and_false, false_and, and_self, Nat.reduceEqDiff, fz_sF17, rF_sF, rA_sF, rR_sF, tr_sF, rNMp_sF, PNp_sF, GS_F17, OP_F17, NR_F17, LI_F17, RG_l17, RG_r17, TPRp_sF17, WNp_sF17, VMp_sF17, KYp_sF17, PPp_sF17, WFp_sF17, CCp_sF17, rk_n0 hp_2, Ks123, Fs123]); (all_goals (repeat' (first | with_reducible intro _ | with_reducible apply And.intro | with_reducible refine Exists.intro gu5 ?_ | with_reducible refine Im.and ?_ ?_))); all_goals (first | assumption | trivial | ((with_reducible refine Im.i fun hf_ => ?_); first | exact (A123 hf_) | exact (Gu9 hf_) | exact (Ku8 hf_) | exact (Vu10 hf_).cst | exact ok1.i | (exact LI.z (fun h => absurd h (by decide))) | (exact absurd hf_ (by omega)) | omega) | (unfold FPZ; (try simp only [reduceIte, and_true, true_and, and_false, false_and, and_self, Nat.reduceEqDiff, fz_sF17, rF_sF, rA_sF, rR_sF, tr_sF, rNMp_sF, PNp_sF, GS_F17, OP_F17, NR_F17, LI_F17, RG_l17, RG_r17, TPRp_sF17, WNp_sF17, VMp_sF17, KYp_sF17, PPp_sF17, WFp_sF17, CCp_sF17, rk_n0 hp_2, Ks123, Fs123]); omega) | (unfold FQZ; (try simp only [reduceIte, and_true, true_and, and_false, false_and, and_self, Nat.reduceEqDiff, fz_sF17, rF_sF, rA_sF, rR_sF, tr_sF, rNMp_sF, PNp_sF, GS_F17, OP_F17, NR_F17, LI_F17, RG_l17, RG_r17, TPRp_sF17, WNp_sF17, VMp_sF17, KYp_sF17, PPp_sF17, WFp_sF17, CCp_sF17, rk_n0 hp_2, Ks123, Fs123]); omega) | omega | (have zz_ := fz_z (by assumption); omega) | (split <;> omega) | done))
          · refine ⟨(by (try simp only [pre_X14_node_t, Ks1, Fs1]); (all_goals (repeat' (first | with_reducible intro _ | with_reducible apply And.intro | with_reducible refine Exists.intro g ?_ | with_reducible refine Im.and ?_ ?_))); all_goals (first | assumption | trivial | ((with_reducible refine Im.i fun hf_ => ?_); first | exact (A1 hf_) | exact (Gu2 hf_) | exact (Ku1 hf_) | exact ok1.i | (exact LI.z (fun h => absurd h (by decide))) | (exact absurd hf_ (by omega)) | omega) | (unfold FPZ; (try simp only [Ks1, Fs1]); omega) | (unfold FQZ; (try simp only [Ks1, Fs1]); omega) | omega | (have zz_ := fz_z (by assumption); omega) | (split <;> omega) | done)), ?_⟩
            intro v123 s123 hv123 Ws123 e123_0 e123_1 e123_2 e123_3 e123_4 e123_5 e123_6 e123_7 e123_8 e123_9 e123_10 e123_11 e123_12 e123_13 e123_14 e123_15 e123_16 e123_17 e123_18 e123_19 e123_20 e123_21 e123_22 e123_23 e123_24 e123_25 e123_26 e123_27 e123_28 e123_29 e123_30 q123
            unfold rng at hv123
            unfold post_X14_node_t at q123
            obtain ⟨q123_1, q123_2, q123_3, q123_4, q123_5, q123_6, q123_7, q123_8, q123_9, q123_10⟩ := q123
            (try simp only [Ks1, Fs1, FPZ, FQZ] at q123_1 q123_2 q123_3 q123_4 q123_5 q123_6 q123_7 q123_8 q123_9 q123_10 e123_0 e123_1 e123_2 e123_3 e123_4 e123_5 e123_6 e123_7 e123_8 e123_9 e123_10 e123_11 e123_12 e123_13 e123_14 e123_15 e123_16 e123_17 e123_18 e123_19 e123_20 e123_21 e123_22 e123_23 e123_24 e123_25 e123_26 e123_27 e123_28 e123_29 e123_30)
            have Ks123 : rR s123 7 = rR σ 7 := by first | assumption | ((try simp only [rR_sF, rR_sA, rR_sT, rR_sL] at e123_0 e123_1 e123_2 e123_3 e123_4 e123_5 e123_6 e123_7 e123_8 e123_9 e123_10 e123_11 e123_12 e123_13 e123_14 e123_15 e123_16 e123_17 e123_18 e123_19 e123_20 e123_21 e123_22 e123_23 e123_24 e123_25 e123_26 e123_27 e123_28 e123_29 e123_30); omega)
            have Fs123 : rR s123 15 = rR σ 15 := by first | assumption | ((try simp only [rR_sF, rR_sA, rR_sT, rR_sL] at e123_0 e123_1 e123_2 e123_3 e123_4 e123_5 e123_6 e123_7 e123_8 e123_9 e123_10 e123_11 e123_12 e123_13 e123_14 e123_15 e123_16 e123_17 e123_18 e123_19 e123_20 e123_21 e123_22 e123_23 e123_24 e123_25 e123_26 e123_27 e123_28 e123_29 e123_30); omega)
            have zr123 := fz_rng s123
            have zc123 : fz s123 = 0 → fz s1 = 0 := fun hf => by omega
            have A123 : Im (fz s123 = 0) (RG (RT σ) s123 (rR σ 7) 0) := fun hf => RG.trk hp_2 (A1 (zc123 hf)) q123_3 (Or.inr (Or.inl rfl))
            obtain ⟨g123, X123⟩ := EN_31 (P := fz s123 = 0) 0 0 hp_2 (fun hf => Gu2 (zc123 hf)) (fun hf => q123_3) q123_1 q123_2 q123_4 q123_5 q123_6 q123_9 (fun hf => by (try simp only [rF_sT, rF_sA]); (repeat' (with_reducible apply And.intro)) <;> first | trivial | omega)
            have Ku11 : Im (fz s123 = 0) (GK g g123 (rF σ (rR σ 7) 7) (rF s123 (rR σ 7) 7) 0) := fun hf => GK.gs (Ku1 (zc123 hf)) (X123 hf).2.1
            have Gu12 : Im (fz s123 = 0) _ := fun hf => (X123 hf).1
            have O123 : Im (fz s123 = 0) _ := fun hf => (X123 hf).2.2.1
            have rNMp_123 := e123_0 rNMp_1; clear e123_0
            obtain ⟨gu13, Xu14⟩ := EC_31 (P := fz s123 = 0) 0 Gu12 O123 (fun hf => by omega)
            have O123u15 : Im (fz s123 = 0) _ := fun hf => (Xu14 hf).2.1
            have Ku16 : Im (fz s123 = 0) (GK g gu13 (rF σ (rR σ 7) 7) (rF s123 (rR σ 7) 7) 0) := fun hf => GK.kc (Ku11 hf) (Xu14 hf).2.2 (by omega)
            have Gu17 : Im (fz s123 = 0) _ := fun hf => (Xu14 hf).1
            have Vu18 : Im (fz s123 = 0) _ := fun hf => NR_re19 (O123u15 hf) (Xu14 hf).2.2 (O123 hf) (by rw [so_19]; omega)
            refine ⟨(by (try simp only [Ks123, Fs123]); (all_goals (repeat' (first | with_reducible intro _ | with_reducible apply And.intro | with_reducible refine Exists.intro gu13 ?_ | with_reducible refine Im.and ?_ ?_))); all_goals (first | assumption | trivial | ((with_reducible refine Im.i fun hf_ => ?_); first | exact (A123 hf_) | exact (Gu17 hf_) | exact (Ku16 hf_) | exact (Vu18 hf_).cst | exact ok1.i | (exact LI.z (fun h => absurd h (by decide))) | (exact absurd hf_ (by omega)) | omega) | (unfold FPZ; (try simp only [Ks123, Fs123]); omega) | (unfold FQZ; (try simp only [Ks123, Fs123]); omega) | omega | (have zz_ := fz_z (by assumption); omega) | (split <;> omega) | done)), ?_⟩
            intro hr_; unfold rng at hr_
            refine ⟨(by (try simp only [pre_X14_wordEnd_t, Ks123, Fs123]); (all_goals (repeat' (first | with_reducible intro _ | with_reducible apply And.intro | with_reducible refine Exists.intro gu13 ?_ | with_reducible refine Im.and ?_ ?_))); all_goals (first | assumption | trivial | ((with_reducible refine Im.i fun hf_ => ?_); first | exact (A123 hf_) | exact (Gu17 hf_) | exact (Ku16 hf_) | exact (Vu18 hf_).cst | exact ok1.i | (exact LI.z (fun h => absurd h (by decide))) | (exact absurd hf_ (by omega)) | omega) | (unfold FPZ; (try simp only [Ks123, Fs123]); omega) | (unfold FQZ; (try simp only [Ks123, Fs123]); omega) | omega | (have zz_ := fz_z (by assumption); omega) | (split <;> omega) | done)), ?_⟩
            intro v140 hv140 q140
            unfold rng at hv140
            unfold post_X14_wordEnd_t at q140
            obtain ⟨q140_1, q140_2, q140_3, q140_4⟩ := q140
            (try simp only [Ks123, Fs123, FPZ, FQZ] at q140_1 q140_2 q140_3 q140_4)
            have w140 : rF s1 0 17 < v140 := by first | (have a_ := q86_3 ⟨by omega, by decide⟩; (try simp only [Fs1] at a_); exact q140_4 ⟨by omega, by rw [(by assumption : FLk s1 s123) _ _ hp_6.1]; exact a_.2⟩) | (have a_ := q96_3 ⟨by omega, by decide⟩; (try simp only [Fs1] at a_); exact q140_4 ⟨by omega, by rw [(by assumption : FLk s1 s123) _ _ hp_6.1]; exact a_.2⟩) | (have a_ := q107_3 ⟨by omega, by decide⟩; (try simp only [Fs1] at a_); exact q140_4 ⟨by omega, by rw [(by assumption : FLk s1 s123) _ _ hp_6.1]; exact a_.2⟩)
            exact (by (try simp only [post_X14_readValue, reduceIte, and_true, true_and, and_false, false_and, and_self, Nat.reduceEqDiff, fz_sF17, rF_sF, rA_sF, rR_sF, tr_sF, rNMp_sF, PNp_sF, GS_F17, OP_F17, NR_F17, LI_F17, RG_l17, RG_r17, TPRp_sF17, WNp_sF17, VMp_sF17, KYp_sF17, PPp_sF17, WFp_sF17, CCp_sF17, rk_n0 hp_2, Ks123, Fs123]); (all_goals (repeat' (first | with_reducible intro _ | with_reducible apply And.intro | with_reducible refine Exists.intro gu13 ?_ | with_reducible refine Im.and ?_ ?_))); all_goals (first | assumption | trivial | ((with_reducible refine Im.i fun hf_ => ?_); first | exact (A123 hf_) | exact (Gu17 hf_) | exact (Ku16 hf_) | exact (Vu18 hf_).cst | exact ok1.i | (exact LI.z (fun h => absurd h (by decide))) | (exact absurd hf_ (by omega)) | omega) | (unfold FPZ; (try simp only [reduceIte, and_true, true_and, and_false, false_and, and_self, Nat.reduceEqDiff, fz_sF17, rF_sF, rA_sF, rR_sF, tr_sF, rNMp_sF, PNp_sF, GS_F17, OP_F17, NR_F17, LI_F17, RG_l17, RG_r17, TPRp_sF17, WNp_sF17, VMp_sF17, KYp_sF17, PPp_sF17, WFp_sF17, CCp_sF17, rk_n0 hp_2, Ks123, Fs123]); omega) | (unfold FQZ; (try simp only [reduceIte, and_true, true_and, and_false, false_and, and_self, Nat.reduceEqDiff, fz_sF17, rF_sF, rA_sF, rR_sF, tr_sF, rNMp_sF, PNp_sF, GS_F17, OP_F17, NR_F17, LI_F17, RG_l17, RG_r17, TPRp_sF17, WNp_sF17, VMp_sF17, KYp_sF17, PPp_sF17, WFp_sF17, CCp_sF17, rk_n0 hp_2, Ks123, Fs123]); omega) | omega | (have zz_ := fz_z (by assumption); omega) | (split <;> omega) | done))
        · refine ⟨(by (try simp only [pre_X14_isFileWord_f, Ks1, Fs1]); (all_goals (repeat' (first | with_reducible intro _ | with_reducible apply And.intro | with_reducible refine Exists.intro g ?_ | with_reducible refine Im.and ?_ ?_))); all_goals (first | assumption | trivial | ((with_reducible refine Im.i fun hf_ => ?_); first | exact (A1 hf_) | exact (Gu2 hf_) | exact (Ku1 hf_) | exact ok1.i | (exact LI.z (fun h => absurd h (by decide))) | (exact absurd hf_ (by omega)) | omega) | (unfold FPZ; (try simp only [Ks1, Fs1]); omega) | (unfold FQZ; (try simp only [Ks1, Fs1]); omega) | omega | (have zz_ := fz_z (by assumption); omega) | (split <;> omega) | done)), ?_⟩
          intro v96 hv96 q96
          unfold rng at hv96
          unfold post_X14_isFileWord_f at q96
          obtain ⟨q96_1, q96_2, q96_3⟩ := q96
          (try simp only [Ks1, Fs1, FPZ, FQZ] at q96_1 q96_2 q96_3)
          refine ⟨fun c99 => ?_, fun c99 => ?_⟩
          · refine ⟨fun c149 => ?_, fun c149 => ?_⟩
            · refine ⟨fun c183 => ?_, fun c183 => ?_⟩
              · refine ⟨(by (try simp only [pre_X14_bad, Ks1, Fs1]); (all_goals (repeat' (first | with_reducible intro _ | with_reducible apply And.intro | with_reducible refine Exists.intro g ?_ | with_reducible refine Im.and ?_ ?_))); all_goals (first | assumption | trivial | ((with_reducible refine Im.i fun hf_ => ?_); first | exact (A1 hf_) | exact (Gu2 hf_) | exact (Ku1 hf_) | exact ok1.i | (exact LI.z (fun h => absurd h (by decide))) | (exact absurd hf_ (by omega)) | omega) | (unfold FPZ; (try simp only [Ks1, Fs1]); omega) | (unfold FQZ; (try simp only [Ks1, Fs1]); omega) | omega | (have zz_ := fz_z (by assumption); omega) | (split <;> omega) | done)), ?_⟩
                intro s232 Ws232 e232_0 e232_1 e232_2 e232_3 e232_4 e232_5 e232_6 e232_7 e232_8 e232_9 e232_10 e232_11 e232_12 e232_13 e232_14 e232_15 e232_16 e232_17 e232_18 e232_19 e232_20 e232_21 e232_22 e232_23 e232_24 e232_25 e232_26 e232_27 e232_28 e232_29 e232_30 R232 q232
                have q232 := dig_bad q232 (by (try simp only [Ks1, Fs1]); omega)
                obtain ⟨q232_1, q232_2⟩ := q232
                (try simp only [Ks1, Fs1, FPZ, FQZ] at q232_1 q232_2 e232_0 e232_1 e232_2 e232_3 e232_4 e232_5 e232_6 e232_7 e232_8 e232_9 e232_10 e232_11 e232_12 e232_13 e232_14 e232_15 e232_16 e232_17 e232_18 e232_19 e232_20 e232_21 e232_22 e232_23 e232_24 e232_25 e232_26 e232_27 e232_28 e232_29 e232_30 R232)
                have Ks232 : rR s232 7 = rR σ 7 := by first | assumption | ((try simp only [rR_sF, rR_sA, rR_sT, rR_sL] at e232_0 e232_1 e232_2 e232_3 e232_4 e232_5 e232_6 e232_7 e232_8 e232_9 e232_10 e232_11 e232_12 e232_13 e232_14 e232_15 e232_16 e232_17 e232_18 e232_19 e232_20 e232_21 e232_22 e232_23 e232_24 e232_25 e232_26 e232_27 e232_28 e232_29 e232_30 R232); omega)
                have Fs232 : rR s232 15 = rR σ 15 := by first | assumption | ((try simp only [rR_sF, rR_sA, rR_sT, rR_sL] at e232_0 e232_1 e232_2 e232_3 e232_4 e232_5 e232_6 e232_7 e232_8 e232_9 e232_10 e232_11 e232_12 e232_13 e232_14 e232_15 e232_16 e232_17 e232_18 e232_19 e232_20 e232_21 e232_22 e232_23 e232_24 e232_25 e232_26 e232_27 e232_28 e232_29 e232_30 R232); omega)
                have zr232 := fz_rng s232
                have zc232 : fz s232 = 0 → fz s1 = 0 := fun hf => by omega
                have A232 : Im (fz s232 = 0) (RG (RT σ) s232 (rR σ 7) 0) := fun hf => RG.trk hp_2 (A1 (zc232 hf)) R232 (Or.inr (Or.inl rfl))
                have Ku19 : Im (fz s232 = 0) (GK g g (rF σ (rR σ 7) 7) (rF s232 (rR σ 7) 7) 0) := fun hf => GK.trans (Ku1 (zc232 hf)) (GK.up (N := rF s1 (rR σ 7) 7) (N' := rF s232 (rR σ 7) 7) (c := 0) (by first | assumption | omega | (simp only [rF_sT, rF_sA]; omega))) (Or.inr (Or.inl rfl))
                have Gu20 : Im (fz s232 = 0) (GS s232 (rR σ 7) g) := fun hf => GS.mv hp_2 (Gu2 (zc232 hf)) R232 (by first | assumption | omega | (simp only [rF_sT, rF_sA]; omega)) (by first | (exact Int.le_of_eq (Eq.symm (by assumption))) | omega | (simp only [rF_sT, rF_sA]; omega))
                have rNMp_232 := e232_0 rNMp_1; clear e232_0
                have PNp_232 := e232_1 PNp_1; clear e232_1
                exact (by (try simp only [post_X14_readValue, Ks232, Fs232]); (all_goals (repeat' (first | with_reducible intro _ | with_reducible apply And.intro | with_reducible refine Exists.intro g ?_ | with_reducible refine Im.and ?_ ?_))); all_goals (first | assumption | trivial | ((with_reducible refine Im.i fun hf_ => ?_); first | exact (A232 hf_) | exact (Gu20 hf_) | exact (Ku19 hf_) | exact ok1.i | (exact LI.z (fun h => absurd h (by decide))) | (exact absurd hf_ (by omega)) | omega) | (unfold FPZ; (try simp only [Ks232, Fs232]); omega) | (unfold FQZ; (try simp only [Ks232, Fs232]); omega) | omega | (have zz_ := fz_z (by assumption); omega) | (split <;> omega) | done))
              · refine ⟨(by (try simp only [pre_X14_fc, Ks1, Fs1]); (all_goals (repeat' (first | with_reducible intro _ | with_reducible apply And.intro | with_reducible refine Exists.intro g ?_ | with_reducible refine Im.and ?_ ?_))); all_goals (first | assumption | trivial | ((with_reducible refine Im.i fun hf_ => ?_); first | exact (A1 hf_) | exact (Gu2 hf_) | exact (Ku1 hf_) | exact ok1.i | (exact LI.z (fun h => absurd h (by decide))) | (exact absurd hf_ (by omega)) | omega) | (unfold FPZ; (try simp only [Ks1, Fs1]); omega) | (unfold FQZ; (try simp only [Ks1, Fs1]); omega) | omega | (have zz_ := fz_z (by assumption); omega) | (split <;> omega) | done)), ?_⟩
                intro v191 hv191 q191
                unfold rng at hv191
                unfold post_X14_fc at q191
                obtain ⟨q191_1, q191_2⟩ := q191
                (try simp only [Ks1, Fs1, FPZ, FQZ] at q191_1 q191_2)
                refine ⟨fun c196 => ?_, fun c196 => ?_⟩
                · refine ⟨(by (try simp only [pre_X14_bad, Ks1, Fs1]); (all_goals (repeat' (first | with_reducible intro _ | with_reducible apply And.intro | with_reducible refine Exists.intro g ?_ | with_reducible refine Im.and ?_ ?_))); all_goals (first | assumption | trivial | ((with_reducible refine Im.i fun hf_ => ?_); first | exact (A1 hf_) | exact (Gu2 hf_) | exact (Ku1 hf_) | exact ok1.i | (exact LI.z (fun h => absurd h (by decide))) | (exact absurd hf_ (by omega)) | omega) | (unfold FPZ; (try simp only [Ks1, Fs1]); omega) | (unfold FQZ; (try simp only [Ks1, Fs1]); omega) | omega | (have zz_ := fz_z (by assumption); omega) | (split <;> omega) | done)), ?_⟩
                  intro s232 Ws232 e232_0 e232_1 e232_2 e232_3 e232_4 e232_5 e232_6 e232_7 e232_8 e232_9 e232_10 e232_11 e232_12 e232_13 e232_14 e232_15 e232_16 e232_17 e232_18 e232_19 e232_20 e232_21 e232_22 e232_23 e232_24 e232_25 e232_26 e232_27 e232_28 e232_29 e232_30 R232 q232
                  have q232 := dig_bad q232 (by (try simp only [Ks1, Fs1]); omega)
                  obtain ⟨q232_1, q232_2⟩ := q232
                  (try simp only [Ks1, Fs1, FPZ, FQZ] at q232_1 q232_2 e232_0 e232_1 e232_2 e232_3 e232_4 e232_5 e232_6 e232_7 e232_8 e232_9 e232_10 e232_11 e232_12 e232_13 e232_14 e232_15 e232_16 e232_17 e232_18 e232_19 e232_20 e232_21 e232_22 e232_23 e232_24 e232_25 e232_26 e232_27 e232_28 e232_29 e232_30 R232)
                  have Ks232 : rR s232 7 = rR σ 7 := by first | assumption | ((try simp only [rR_sF, rR_sA, rR_sT, rR_sL] at e232_0 e232_1 e232_2 e232_3 e232_4 e232_5 e232_6 e232_7 e232_8 e232_9 e232_10 e232_11 e232_12 e232_13 e232_14 e232_15 e232_16 e232_17 e232_18 e232_19 e232_20 e232_21 e232_22 e232_23 e232_24 e232_25 e232_26 e232_27 e232_28 e232_29 e232_30 R232); omega)
                  have Fs232 : rR s232 15 = rR σ 15 := by first | assumption | ((try simp only [rR_sF, rR_sA, rR_sT, rR_sL] at e232_0 e232_1 e232_2 e232_3 e232_4 e232_5 e232_6 e232_7 e232_8 e232_9 e232_10 e232_11 e232_12 e232_13 e232_14 e232_15 e232_16 e232_17 e232_18 e232_19 e232_20 e232_21 e232_22 e232_23 e232_24 e232_25 e232_26 e232_27 e232_28 e232_29 e232_30 R232); omega)
                  have zr232 := fz_rng s232
                  have zc232 : fz s232 = 0 → fz s1 = 0 := fun hf => by omega
                  have A232 : Im (fz s232 = 0) (RG (RT σ) s232 (rR σ 7) 0) := fun hf => RG.trk hp_2 (A1 (zc232 hf)) R232 (Or.inr (Or.inl rfl))
                  have Ku21 : Im (fz s232 = 0) (GK g g (rF σ (rR σ 7) 7) (rF s232 (rR σ 7) 7) 0) := fun hf => GK.trans (Ku1 (zc232 hf)) (GK.up (N := rF s1 (rR σ 7) 7) (N' := rF s232 (rR σ 7) 7) (c := 0) (by first | assumption | omega | (simp only [rF_sT, rF_sA]; omega))) (Or.inr (Or.inl rfl))
                  have Gu22 : Im (fz s232 = 0) (GS s232 (rR σ 7) g) := fun hf => GS.mv hp_2 (Gu2 (zc232 hf)) R232 (by first | assumption | omega | (simp only [rF_sT, rF_sA]; omega)) (by first | (exact Int.le_of_eq (Eq.symm (by assumption))) | omega | (simp only [rF_sT, rF_sA]; omega))
                  have rNMp_232 := e232_0 rNMp_1; clear e232_0
                  have PNp_232 := e232_1 PNp_1; clear e232_1
                  exact (by (try simp only [post_X14_readValue, Ks232, Fs232]); (all_goals (repeat' (first | with_reducible intro _ | with_reducible apply And.intro | with_reducible refine Exists.intro g ?_ | with_reducible refine Im.and ?_ ?_))); all_goals (first | assumption | trivial | ((with_reducible refine Im.i fun hf_ => ?_); first | exact (A232 hf_) | exact (Gu22 hf_) | exact (Ku21 hf_) | exact ok1.i | (exact LI.z (fun h => absurd h (by decide))) | (exact absurd hf_ (by omega)) | omega) | (unfold FPZ; (try simp only [Ks232, Fs232]); omega) | (unfold FQZ; (try simp only [Ks232, Fs232]); omega) | omega | (have zz_ := fz_z (by assumption); omega) | (split <;> omega) | done))
                · refine ⟨(by (try simp only [rng, Ks1, Fs1]); (all_goals (repeat' (first | with_reducible intro _ | with_reducible apply And.intro | with_reducible refine Exists.intro g ?_ | with_reducible refine Im.and ?_ ?_))); all_goals (first | assumption | trivial | ((with_reducible refine Im.i fun hf_ => ?_); first | exact (A1 hf_) | exact (Gu2 hf_) | exact (Ku1 hf_) | exact ok1.i | (exact LI.z (fun h => absurd h (by decide))) | (exact absurd hf_ (by omega)) | omega) | (unfold FPZ; (try simp only [Ks1, Fs1]); omega) | (unfold FQZ; (try simp only [Ks1, Fs1]); omega) | omega | (have zz_ := fz_z (by assumption); omega) | (split <;> omega) | done)), ?_⟩
                  refine ⟨(by (try simp only [pre_X14_sign, reduceIte, and_true, true_and, and_false, false_and, and_self, Nat.reduceEqDiff, fz_sF17, rF_sF, rA_sF, rR_sF, tr_sF, rNMp_sF, PNp_sF, GS_F17, OP_F17, NR_F17, LI_F17, RG_l17, RG_r17, TPRp_sF17, WNp_sF17, VMp_sF17, KYp_sF17, PPp_sF17, WFp_sF17, CCp_sF17, rk_n0 hp_2, Ks1, Fs1]); (all_goals (repeat' (first | with_reducible intro _ | with_reducible apply And.intro | with_reducible refine Exists.intro g ?_ | with_reducible refine Im.and ?_ ?_))); all_goals (first | assumption | trivial | ((with_reducible refine Im.i fun hf_ => ?_); first | exact (A1 hf_) | exact (Gu2 hf_) | exact (Ku1 hf_) | exact ok1.i | (exact LI.z (fun h => absurd h (by decide))) | (exact absurd hf_ (by omega)) | omega) | (unfold FPZ; (try simp only [reduceIte, and_true, true_and, and_false, false_and, and_self, Nat.reduceEqDiff, fz_sF17, rF_sF, rA_sF, rR_sF, tr_sF, rNMp_sF, PNp_sF, GS_F17, OP_F17, NR_F17, LI_F17, RG_l17, RG_r17, TPRp_sF17, WNp_sF17, VMp_sF17, KYp_sF17, PPp_sF17, WFp_sF17, CCp_sF17, rk_n0 hp_2, Ks1, Fs1]); omega) | (unfold FQZ; (try simp only [reduceIte, and_true, true_and, and_false, false_and, and_self, Nat.reduceEqDiff, fz_sF17, rF_sF, rA_sF, rR_sF, tr_sF, rNMp_sF, PNp_sF, GS_F17, OP_F17, NR_F17, LI_F17, RG_l17, RG_r17, TPRp_sF17, WNp_sF17, VMp_sF17, KYp_sF17, PPp_sF17, WFp_sF17, CCp_sF17, rk_n0 hp_2, Ks1, Fs1]); omega) | omega | (have zz_ := fz_z (by assumption); omega) | (split <;> omega) | done)), ?_⟩
                  intro s213 Ws213 e213_0 e213_1 e213_2 e213_3 e213_4 e213_5 e213_6 e213_7 e213_8 e213_9 e213_10 e213_11 e213_12 e213_13 e213_14 e213_15 e213_16 e213_17 e213_18 e213_19 e213_20 e213_21 e213_22 e213_23 e213_24 e213_25 e213_26 e213_27 e213_28 e213_29 R213 q213
                  have q213 := dig_X14_sign q213
                  obtain ⟨q213_1, q213_2, q213_3, q213_4⟩ := q213
                  (try simp only [reduceIte, and_true, true_and, and_false, false_and, and_self, Nat.reduceEqDiff, fz_sF17, rF_sF, rA_sF, rR_sF, tr_sF, rNMp_sF, PNp_sF, GS_F17, OP_F17, NR_F17, LI_F17, RG_l17, RG_r17, TPRp_sF17, WNp_sF17, VMp_sF17, KYp_sF17, PPp_sF17, WFp_sF17, CCp_sF17, rk_n0 hp_2, Ks1, Fs1, FPZ, FQZ] at q213_1 q213_2 q213_3 q213_4 e213_0 e213_1 e213_2 e213_3 e213_4 e213_5 e213_6 e213_7 e213_8 e213_9 e213_10 e213_11 e213_12 e213_13 e213_14 e213_15 e213_16 e213_17 e213_18 e213_19 e213_20 e213_21 e213_22 e213_23 e213_24 e213_25 e213_26 e213_27 e213_28 e213_29 R213)
                  have Ks213 : rR s213 7 = rR σ 7 := by first | assumption | ((try simp only [rR_sF, rR_sA, rR_sT, rR_sL] at e213_0 e213_1 e213_2 e213_3 e213_4 e213_5 e213_6 e213_7 e213_8 e213_9 e213_10 e213_11 e213_12 e213_13 e213_14 e213_15 e213_16 e213_17 e213_18 e213_19 e213_20 e213_21 e213_22 e213_23 e213_24 e213_25 e213_26 e213_27 e213_28 e213_29 R213); omega)
                  have Fs213 : rR s213 15 = rR σ 15 := by first | assumption | ((try simp only [rR_sF, rR_sA, rR_sT, rR_sL] at e213_0 e213_1 e213_2 e213_3 e213_4 e213_5 e213_6 e213_7 e213_8 e213_9 e213_10 e213_11 e213_12 e213_13 e213_14 e213_15 e213_16 e213_17 e213_18 e213_19 e213_20 e213_21 e213_22 e213_23 e213_24 e213_25 e213_26 e213_27 e213_28 e213_29 R213); omega)
                  have zr213 := fz_rng s213
                  have zc213 : fz s213 = 0 → fz s1 = 0 := fun hf => by omega
                  have A213 : Im (fz s213 = 0) (RG (RT σ) s213 (rR σ 7) 0) := fun hf => RG.trk hp_2 (A1 (zc213 hf)) R213 (Or.inr (Or.inl rfl))
                  have Ku23 : Im (fz s213 = 0) (GK g g (rF σ (rR σ 7) 7) (rF s213 (rR σ 7) 7) 0) := fun hf => GK.trans (Ku1 (zc213 hf)) (GK.up (N := rF s1 (rR σ 7) 7) (N' := rF s213 (rR σ 7) 7) (c := 0) (by first | assumption | omega | (simp only [rF_sT, rF_sA]; omega))) (Or.inr (Or.inl rfl))
                  have Gu24 : Im (fz s213 = 0) (GS s213 (rR σ 7) g) := fun hf => GS.mv hp_2 (Gu2 (zc213 hf)) R213 (by first | assumption | omega | (simp only [rF_sT, rF_sA]; omega)) (by first | (exact Int.le_of_eq (Eq.symm (by assumption))) | omega | (simp only [rF_sT, rF_sA]; omega))
                  have rNMp_213 := e213_0 rNMp_1; clear e213_0
                  have PNp_213 := e213_1 PNp_1; clear e213_1
                  refine ⟨(by (try simp only [pre_X14_node_t, Ks213, Fs213]); (all_goals (repeat' (first | with_reducible intro _ | with_reducible apply And.intro | with_reducible refine Exists.intro g ?_ | with_reducible refine Im.and ?_ ?_))); all_goals (first | assumption | trivial | ((with_reducible refine Im.i fun hf_ => ?_); first | exact (A213 hf_) | exact (Gu24 hf_) | exact (Ku23 hf_) | exact ok1.i | (exact LI.z (fun h => absurd h (by decide))) | (exact absurd hf_ (by omega)) | omega) | (unfold FPZ; (try simp only [Ks213, Fs213]); omega) | (unfold FQZ; (try simp only [Ks213, Fs213]); omega) | omega | (have zz_ := fz_z (by assumption); omega) | (split <;> omega) | done)), ?_⟩
                  intro v222 s222 hv222 Ws222 e222_0 e222_1 e222_2 e222_3 e222_4 e222_5 e222_6 e222_7 e222_8 e222_9 e222_10 e222_11 e222_12 e222_13 e222_14 e222_15 e222_16 e222_17 e222_18 e222_19 e222_20 e222_21 e222_22 e222_23 e222_24 e222_25 e222_26 e222_27 e222_28 e222_29 e222_30 q222
                  unfold rng at hv222
                  unfold post_X14_node_t at q222
                  obtain ⟨q222_1, q222_2, q222_3, q222_4, q222_5, q222_6, q222_7, q222_8, q222_9, q222_10⟩ := q222
                  (try simp only [Ks213, Fs213, FPZ, FQZ] at q222_1 q222_2 q222_3 q222_4 q222_5 q222_6 q222_7 q222_8 q222_9 q222_10 e222_0 e222_1 e222_2 e222_3 e222_4 e222_5 e222_6 e222_7 e222_8 e222_9 e222_10 e222_11 e222_12 e222_13 e222_14 e222_15 e222_16 e222_17 e222_18 e222_19 e222_20 e222_21 e222_22 e222_23 e222_24 e222_25 e222_26 e222_27 e222_28 e222_29 e222_30)
                  have Ks222 : rR s222 7 = rR σ 7 := by first | assumption | ((try simp only [rR_sF, rR_sA, rR_sT, rR_sL] at e222_0 e222_1 e222_2 e222_3 e222_4 e222_5 e222_6 e222_7 e222_8 e222_9 e222_10 e222_11 e222_12 e222_13 e222_14 e222_15 e222_16 e222_17 e222_18 e222_19 e222_20 e222_21 e222_22 e222_23 e222_24 e222_25 e222_26 e222_27 e222_28 e222_29 e222_30); omega)
                  have Fs222 : rR s222 15 = rR σ 15 := by first | assumption | ((try simp only [rR_sF, rR_sA, rR_sT, rR_sL] at e222_0 e222_1 e222_2 e222_3 e222_4 e222_5 e222_6 e222_7 e222_8 e222_9 e222_10 e222_11 e222_12 e222_13 e222_14 e222_15 e222_16 e222_17 e222_18 e222_19 e222_20 e222_21 e222_22 e222_23 e222_24 e222_25 e222_26 e222_27 e222_28 e222_29 e222_30); omega)
                  have zr222 := fz_rng s222
                  have zc222 : fz s222 = 0 → fz s213 = 0 := fun hf => by omega
                  have A222 : Im (fz s222 = 0) (RG (RT σ) s222 (rR σ 7) 0) := fun hf => RG.trk hp_2 (A213 (zc222 hf)) q222_3 (Or.inr (Or.inl rfl))
                  obtain ⟨g222, X222⟩ := EN_34 (P := fz s222 = 0) 0 0 hp_2 (fun hf => Gu24 (zc222 hf)) (fun hf => q222_3) q222_1 q222_2 q222_4 q222_5 q222_6 q222_9 (fun hf => by (try simp only [rF_sT, rF_sA]); (repeat' (with_reducible apply And.intro)) <;> first | trivial | omega)
                  have Ku25 : Im (fz s222 = 0) (GK g g222 (rF σ (rR σ 7) 7) (rF s222 (rR σ 7) 7) 0) := fun hf => GK.gs (Ku23 (zc222 hf)) (X222 hf).2.1
                  have Gu26 : Im (fz s222 = 0) _ := fun hf => (X222 hf).1
                  have O222 : Im (fz s222 = 0) _ := fun hf => (X222 hf).2.2.1
                  have L222_1 : Im (fz s222 = 0) (LI s222 (rR σ 7) g222 v222 1 34 0) := fun hf => LI.z (fun h => (X222 hf).2.2.2)
                  have rNMp_222 := e222_0 rNMp_213; clear e222_0
                  obtain ⟨gu27, Xu28⟩ := EC_34 (P := fz s222 = 0) 0 Gu26 O222 (fun hf => by omega)
                  have O222u29 : Im (fz s222 = 0) _ := fun hf => (Xu28 hf).2.1
                  have Ku30 : Im (fz s222 = 0) (GK g gu27 (rF σ (rR σ 7) 7) (rF s222 (rR σ 7) 7) 0) := fun hf => GK.kc (Ku25 hf) (Xu28 hf).2.2 (by omega)
                  have Gu31 : Im (fz s222 = 0) _ := fun hf => (Xu28 hf).1
                  have Vu32 : Im (fz s222 = 0) _ := fun hf => NR_re19 (O222u29 hf) (Xu28 hf).2.2 (O222 hf) (by rw [so_19]; omega)
                  exact (by (try simp only [post_X14_readValue, Ks222, Fs222]); (all_goals (repeat' (first | with_reducible intro _ | with_reducible apply And.intro | with_reducible refine Exists.intro gu27 ?_ | with_reducible refine Im.and ?_ ?_))); all_goals (first | assumption | trivial | ((with_reducible refine Im.i fun hf_ => ?_); first | exact (A222 hf_) | exact (Gu31 hf_) | exact (Ku30 hf_) | exact (Vu32 hf_).cst | exact ok1.i | (exact LI.z (fun h => absurd h (by decide))) | (exact absurd hf_ (by omega)) | omega) | (unfold FPZ; (try simp only [Ks222, Fs222]); omega) | (unfold FQZ; (try simp only [Ks222, Fs222]); omega) | omega | (have zz_ := fz_z (by assumption); omega) | (split <;> omega) | done))
            · refine ⟨(by (try simp only [pre_X14_isFileWord_f, Ks1, Fs1]); (all_goals (repeat' (first | with_reducible intro _ | with_reducible apply And.intro | with_reducible refine Exists.intro g ?_ | with_reducible refine Im.and ?_ ?_))); all_goals (first | assumption | trivial | ((with_reducible refine Im.i fun hf_ => ?_); first | exact (A1 hf_) | exact (Gu2 hf_) | exact (Ku1 hf_) | exact ok1.i | (exact LI.z (fun h => absurd h (by decide))) | (exact absurd hf_ (by omega)) | omega) | (unfold FPZ; (try simp only [Ks1, Fs1]); omega) | (unfold FQZ; (try simp only [Ks1, Fs1]); omega) | omega | (have zz_ := fz_z (by assumption); omega) | (split <;> omega) | done)), ?_⟩
              intro v156 hv156 q156
              unfold rng at hv156
              unfold post_X14_isFileWord_f at q156
              obtain ⟨q156_1, q156_2, q156_3⟩ := q156
              (try simp only [Ks1, Fs1, FPZ, FQZ] at q156_1 q156_2 q156_3)
              refine ⟨fun c159 => ?_, fun c159 => ?_⟩
              · refine ⟨fun c183 => ?_, fun c183 => ?_⟩
                · refine ⟨(by (try simp only [pre_X14_bad, Ks1, Fs1]); (all_goals (repeat' (first | with_reducible intro _ | with_reducible apply And.intro | with_reducible refine Exists.intro g ?_ | with_reducible refine Im.and ?_ ?_))); all_goals (first | assumption | trivial | ((with_reducible refine Im.i fun hf_ => ?_); first | exact (A1 hf_) | exact (Gu2 hf_) | exact (Ku1 hf_) | exact ok1.i | (exact LI.z (fun h => absurd h (by decide))) | (exact absurd hf_ (by omega)) | omega) | (unfold FPZ; (try simp only [Ks1, Fs1]); omega) | (unfold FQZ; (try simp only [Ks1, Fs1]); omega) | omega | (have zz_ := fz_z (by assumption); omega) | (split <;> omega) | done)), ?_⟩
                  intro s232 Ws232 e232_0 e232_1 e232_2 e232_3 e232_4 e232_5 e232_6 e232_7 e232_8 e232_9 e232_10 e232_11 e232_12 e232_13 e232_14 e232_15 e232_16 e232_17 e232_18 e232_19 e232_20 e232_21 e232_22 e232_23 e232_24 e232_25 e232_26 e232_27 e232_28 e232_29 e232_30 R232 q232
                  have q232 := dig_bad q232 (by (try simp only [Ks1, Fs1]); omega)
                  obtain ⟨q232_1, q232_2⟩ := q232
                  (try simp only [Ks1, Fs1, FPZ, FQZ] at q232_1 q232_2 e232_0 e232_1 e232_2 e232_3 e232_4 e232_5 e232_6 e232_7 e232_8 e232_9 e232_10 e232_11 e232_12 e232_13 e232_14 e232_15 e232_16 e232_17 e232_18 e232_19 e232_20 e232_21 e232_22 e232_23 e232_24 e232_25 e232_26 e232_27 e232_28 e232_29 e232_30 R232)
                  have Ks232 : rR s232 7 = rR σ 7 := by first | assumption | ((try simp only [rR_sF, rR_sA, rR_sT, rR_sL] at e232_0 e232_1 e232_2 e232_3 e232_4 e232_5 e232_6 e232_7 e232_8 e232_9 e232_10 e232_11 e232_12 e232_13 e232_14 e232_15 e232_16 e232_17 e232_18 e232_19 e232_20 e232_21 e232_22 e232_23 e232_24 e232_25 e232_26 e232_27 e232_28 e232_29 e232_30 R232); omega)
                  have Fs232 : rR s232 15 = rR σ 15 := by first | assumption | ((try simp only [rR_sF, rR_sA, rR_sT, rR_sL] at e232_0 e232_1 e232_2 e232_3 e232_4 e232_5 e232_6 e232_7 e232_8 e232_9 e232_10 e232_11 e232_12 e232_13 e232_14 e232_15 e232_16 e232_17 e232_18 e232_19 e232_20 e232_21 e232_22 e232_23 e232_24 e232_25 e232_26 e232_27 e232_28 e232_29 e232_30 R232); omega)
                  have zr232 := fz_rng s232
                  have zc232 : fz s232 = 0 → fz s1 = 0 := fun hf => by omega
                  have A232 : Im (fz s232 = 0) (RG (RT σ) s232 (rR σ 7) 0) := fun hf => RG.trk hp_2 (A1 (zc232 hf)) R232 (Or.inr (Or.inl rfl))
                  have Ku33 : Im (fz s232 = 0) (GK g g (rF σ (rR σ 7) 7) (rF s232 (rR σ 7) 7) 0) := fun hf => GK.trans (Ku1 (zc232 hf)) (GK.up (N := rF s1 (rR σ 7) 7) (N' := rF s232 (rR σ 7) 7) (c := 0) (by first | assumption | omega | (simp only [rF_sT, rF_sA]; omega))) (Or.inr (Or.inl rfl))
                  have Gu34 : Im (fz s232 = 0) (GS s232 (rR σ 7) g) := fun hf => GS.mv hp_2 (Gu2 (zc232 hf)) R232 (by first | assumption | omega | (simp only [rF_sT, rF_sA]; omega)) (by first | (exact Int.le_of_eq (Eq.symm (by assumption))) | omega | (simp only [rF_sT, rF_sA]; omega))
                  have rNMp_232 := e232_0 rNMp_1; clear e232_0
                  have PNp_232 := e232_1 PNp_1; clear e232_1
                  exact (by (try simp only [post_X14_readValue, Ks232, Fs232]); (all_goals (repeat' (first | with_reducible intro _ | with_reducible apply And.intro | with_reducible refine Exists.intro g ?_ | with_reducible refine Im.and ?_ ?_))); all_goals (first | assumption | trivial | ((with_reducible refine Im.i fun hf_ => ?_); first | exact (A232 hf_) | exact (Gu34 hf_) | exact (Ku33 hf_) | exact ok1.i | (exact LI.z (fun h => absurd h (by decide))) | (exact absurd hf_ (by omega)) | omega) | (unfold FPZ; (try simp only [Ks232, Fs232]); omega) | (unfold FQZ; (try simp only [Ks232, Fs232]); omega) | omega | (have zz_ := fz_z (by assumption); omega) | (split <;> omega) | done))
                · refine ⟨(by (try simp only [pre_X14_fc, Ks1, Fs1]); (all_goals (repeat' (first | with_reducible intro _ | with_reducible apply And.intro | with_reducible refine Exists.intro g ?_ | with_reducible refine Im.and ?_ ?_))); all_goals (first | assumption | trivial | ((with_reducible refine Im.i fun hf_ => ?_); first | exact (A1 hf_) | exact (Gu2 hf_) | exact (Ku1 hf_) | exact ok1.i | (exact LI.z (fun h => absurd h (by decide))) | (exact absurd hf_ (by omega)) | omega) | (unfold FPZ; (try simp only [Ks1, Fs1]); omega) | (unfold FQZ; (try simp only [Ks1, Fs1]); omega) | omega | (have zz_ := fz_z (by assumption); omega) | (split <;> omega) | done)), ?_⟩
                  intro v191 hv191 q191
                  unfold rng at hv191
                  unfold post_X14_fc at q191
                  obtain ⟨q191_1, q191_2⟩ := q191
                  (try simp only [Ks1, Fs1, FPZ, FQZ] at q191_1 q191_2)
                  refine ⟨fun c196 => ?_, fun c196 => ?_⟩
                  · refine ⟨(by (try simp only [pre_X14_bad, Ks1, Fs1]); (all_goals (repeat' (first | with_reducible intro _ | with_reducible apply And.intro | with_reducible refine Exists.intro g ?_ | with_reducible refine Im.and ?_ ?_))); all_goals (first | assumption | trivial | ((with_reducible refine Im.i fun hf_ => ?_); first | exact (A1 hf_) | exact (Gu2 hf_) | exact (Ku1 hf_) | exact ok1.i | (exact LI.z (fun h => absurd h (by decide))) | (exact absurd hf_ (by omega)) | omega) | (unfold FPZ; (try simp only [Ks1, Fs1]); omega) | (unfold FQZ; (try simp only [Ks1, Fs1]); omega) | omega | (have zz_ := fz_z (by assumption); omega) | (split <;> omega) | done)), ?_⟩
                    intro s232 Ws232 e232_0 e232_1 e232_2 e232_3 e232_4 e232_5 e232_6 e232_7 e232_8 e232_9 e232_10 e232_11 e232_12 e232_13 e232_14 e232_15 e232_16 e232_17 e232_18 e232_19 e232_20 e232_21 e232_22 e232_23 e232_24 e232_25 e232_26 e232_27 e232_28 e232_29 e232_30 R232 q232
                    have q232 := dig_bad q232 (by (try simp only [Ks1, Fs1]); omega)
                    obtain ⟨q232_1, q232_2⟩ := q232
                    (try simp only [Ks1, Fs1, FPZ, FQZ] at q232_1 q232_2 e232_0 e232_1 e232_2 e232_3 e232_4 e232_5 e232_6 e232_7 e232_8 e232_9 e232_10 e232_11 e232_12 e232_13 e232_14 e232_15 e232_16 e232_17 e232_18 e232_19 e232_20 e232_21 e232_22 e232_23 e232_24 e232_25 e232_26 e232_27 e232_28 e232_29 e232_30 R232)
                    have Ks232 : rR s232 7 = rR σ 7 := by first | assumption | ((try simp only [rR_sF, rR_sA, rR_sT, rR_sL] at e232_0 e232_1 e232_2 e232_3 e232_4 e232_5 e232_6 e232_7 e232_8 e232_9 e232_10 e232_11 e232_12 e232_13 e232_14 e232_15 e232_16 e232_17 e232_18 e232_19 e232_20 e232_21 e232_22 e232_23 e232_24 e232_25 e232_26 e232_27 e232_28 e232_29 e232_30 R232); omega)
                    have Fs232 : rR s232 15 = rR σ 15 := by first | assumption | ((try simp only [rR_sF, rR_sA, rR_sT, rR_sL] at e232_0 e232_1 e232_2 e232_3 e232_4 e232_5 e232_6 e232_7 e232_8 e232_9 e232_10 e232_11 e232_12 e232_13 e232_14 e232_15 e232_16 e232_17 e232_18 e232_19 e232_20 e232_21 e232_22 e232_23 e232_24 e232_25 e232_26 e232_27 e232_28 e232_29 e232_30 R232); omega)
                    have zr232 := fz_rng s232
                    have zc232 : fz s232 = 0 → fz s1 = 0 := fun hf => by omega
                    have A232 : Im (fz s232 = 0) (RG (RT σ) s232 (rR σ 7) 0) := fun hf => RG.trk hp_2 (A1 (zc232 hf)) R232 (Or.inr (Or.inl rfl))
                    have Ku35 : Im (fz s232 = 0) (GK g g (rF σ (rR σ 7) 7) (rF s232 (rR σ 7) 7) 0) := fun hf => GK.trans (Ku1 (zc232 hf)) (GK.up (N := rF s1 (rR σ 7) 7) (N' := rF s232 (rR σ 7) 7) (c := 0) (by first | assumption | omega | (simp only [rF_sT, rF_sA]; omega))) (Or.inr (Or.inl rfl))
                    have Gu36 : Im (fz s232 = 0) (GS s232 (rR σ 7) g) := fun hf => GS.mv hp_2 (Gu2 (zc232 hf)) R232 (by first | assumption | omega | (simp only [rF_sT, rF_sA]; omega)) (by first | (exact Int.le_of_eq (Eq.symm (by assumption))) | omega | (simp only [rF_sT, rF_sA]; omega))
                    have rNMp_232 := e232_0 rNMp_1; clear e232_0
                    have PNp_232 := e232_1 PNp_1; clear e232_1
                    exact (by (try simp only [post_X14_readValue, Ks232, Fs232]); (all_goals (repeat' (first | with_reducible intro _ | with_reducible apply And.intro | with_reducible refine Exists.intro g ?_ | with_reducible refine Im.and ?_ ?_))); all_goals (first | assumption | trivial | ((with_reducible refine Im.i fun hf_ => ?_); first | exact (A232 hf_) | exact (Gu36 hf_) | exact (Ku35 hf_) | exact ok1.i | (exact LI.z (fun h => absurd h (by decide))) | (exact absurd hf_ (by omega)) | omega) | (unfold FPZ; (try simp only [Ks232, Fs232]); omega) | (unfold FQZ; (try simp only [Ks232, Fs232]); omega) | omega | (have zz_ := fz_z (by assumption); omega) | (split <;> omega) | done))
                  · refine ⟨(by (try simp only [rng, Ks1, Fs1]); (all_goals (repeat' (first | with_reducible intro _ | with_reducible apply And.intro | with_reducible refine Exists.intro g ?_ | with_reducible refine Im.and ?_ ?_))); all_goals (first | assumption | trivial | ((with_reducible refine Im.i fun hf_ => ?_); first | exact (A1 hf_) | exact (Gu2 hf_) | exact (Ku1 hf_) | exact ok1.i | (exact LI.z (fun h => absurd h (by decide))) | (exact absurd hf_ (by omega)) | omega) | (unfold FPZ; (try simp only [Ks1, Fs1]); omega) | (unfold FQZ; (try simp only [Ks1, Fs1]); omega) | omega | (have zz_ := fz_z (by assumption); omega) | (split <;> omega) | done)), ?_⟩
                    refine ⟨(by (try simp only [pre_X14_sign, reduceIte, and_true, true_and, and_false, false_and, and_self, Nat.reduceEqDiff, fz_sF17, rF_sF, rA_sF, rR_sF, tr_sF, rNMp_sF, PNp_sF, GS_F17, OP_F17, NR_F17, LI_F17, RG_l17, RG_r17, TPRp_sF17, WNp_sF17, VMp_sF17, KYp_sF17, PPp_sF17, WFp_sF17, CCp_sF17, rk_n0 hp_2, Ks1, Fs1]); (all_goals (repeat' (first | with_reducible intro _ | with_reducible apply And.intro | with_reducible refine Exists.intro g ?_ | with_reducible refine Im.and ?_ ?_))); all_goals (first | assumption | trivial | ((with_reducible refine Im.i fun hf_ => ?_); first | exact (A1 hf_) | exact (Gu2 hf_) | exact (Ku1 hf_) | exact ok1.i | (exact LI.z (fun h => absurd h (by decide))) | (exact absurd hf_ (by omega)) | omega) | (unfold FPZ; (try simp only [reduceIte, and_true, true_and, and_false, false_and, and_self, Nat.reduceEqDiff, fz_sF17, rF_sF, rA_sF, rR_sF, tr_sF, rNMp_sF, PNp_sF, GS_F17, OP_F17, NR_F17, LI_F17, RG_l17, RG_r17, TPRp_sF17, WNp_sF17, VMp_sF17, KYp_sF17, PPp_sF17, WFp_sF17, CCp_sF17, rk_n0 hp_2, Ks1, Fs1]); omega) | (unfold FQZ; (try simp only [reduceIte, and_true, true_and, and_false, false_and, and_self, Nat.reduceEqDiff, fz_sF17, rF_sF, rA_sF, rR_sF, tr_sF, rNMp_sF, PNp_sF, GS_F17, OP_F17, NR_F17, LI_F17, RG_l17, RG_r17, TPRp_sF17, WNp_sF17, VMp_sF17, KYp_sF17, PPp_sF17, WFp_sF17, CCp_sF17, rk_n0 hp_2, Ks1, Fs1]); omega) | omega | (have zz_ := fz_z (by assumption); omega) | (split <;> omega) | done)), ?_⟩
                    intro s213 Ws213 e213_0 e213_1 e213_2 e213_3 e213_4 e213_5 e213_6 e213_7 e213_8 e213_9 e213_10 e213_11 e213_12 e213_13 e213_14 e213_15 e213_16 e213_17 e213_18 e213_19 e213_20 e213_21 e213_22 e213_23 e213_24 e213_25 e213_26 e213_27 e213_28 e213_29 R213 q213
                    have q213 := dig_X14_sign q213
                    obtain ⟨q213_1, q213_2, q213_3, q213_4⟩ := q213
                    (try simp only [reduceIte, and_true, true_and, and_false, false_and, and_self, Nat.reduceEqDiff, fz_sF17, rF_sF, rA_sF, rR_sF, tr_sF, rNMp_sF, PNp_sF, GS_F17, OP_F17, NR_F17, LI_F17, RG_l17, RG_r17, TPRp_sF17, WNp_sF17, VMp_sF17, KYp_sF17, PPp_sF17, WFp_sF17, CCp_sF17, rk_n0 hp_2, Ks1, Fs1, FPZ, FQZ] at q213_1 q213_2 q213_3 q213_4 e213_0 e213_1 e213_2 e213_3 e213_4 e213_5 e213_6 e213_7 e213_8 e213_9 e213_10 e213_11 e213_12 e213_13 e213_14 e213_15 e213_16 e213_17 e213_18 e213_19 e213_20 e213_21 e213_22 e213_23 e213_24 e213_25 e213_26 e213_27 e213_28 e213_29 R213)
                    have Ks213 : rR s213 7 = rR σ 7 := by first | assumption | ((try simp only [rR_sF, rR_sA, rR_sT, rR_sL] at e213_0 e213_1 e213_2 e213_3 e213_4 e213_5 e213_6 e213_7 e213_8 e213_9 e213_10 e213_11 e213_12 e213_13 e213_14 e213_15 e213_16 e213_17 e213_18 e213_19 e213_20 e213_21 e213_22 e213_23 e213_24 e213_25 e213_26 e213_27 e213_28 e213_29 R213); omega)
                    have Fs213 : rR s213 15 = rR σ 15 := by first | assumption | ((try simp only [rR_sF, rR_sA, rR_sT, rR_sL] at e213_0 e213_1 e213_2 e213_3 e213_4 e213_5 e213_6 e213_7 e213_8 e213_9 e213_10 e213_11 e213_12 e213_13 e213_14 e213_15 e213_16 e213_17 e213_18 e213_19 e213_20 e213_21 e213_22 e213_23 e213_24 e213_25 e213_26 e213_27 e213_28 e213_29 R213); omega)
                    have zr213 := fz_rng s213
                    have zc213 : fz s213 = 0 → fz s1 = 0 := fun hf => by omega
                    have A213 : Im (fz s213 = 0) (RG (RT σ) s213 (rR σ 7) 0) := fun hf => RG.trk hp_2 (A1 (zc213 hf)) R213 (Or.inr (Or.inl rfl))
                    have Ku37 : Im (fz s213 = 0) (GK g g (rF σ (rR σ 7) 7) (rF s213 (rR σ 7) 7) 0) := fun hf => GK.trans (Ku1 (zc213 hf)) (GK.up (N := rF s1 (rR σ 7) 7) (N' := rF s213 (rR σ 7) 7) (c := 0) (by first | assumption | omega | (simp only [rF_sT, rF_sA]; omega))) (Or.inr (Or.inl rfl))
                    have Gu38 : Im (fz s213 = 0) (GS s213 (rR σ 7) g) := fun hf => GS.mv hp_2 (Gu2 (zc213 hf)) R213 (by first | assumption | omega | (simp only [rF_sT, rF_sA]; omega)) (by first | (exact Int.le_of_eq (Eq.symm (by assumption))) | omega | (simp only [rF_sT, rF_sA]; omega))
                    have rNMp_213 := e213_0 rNMp_1; clear e213_0
                    have PNp_213 := e213_1 PNp_1; clear e213_1
                    refine ⟨(by (try simp only [pre_X14_node_t, Ks213, Fs213]); (all_goals (repeat' (first | with_reducible intro _ | with_reducible apply And.intro | with_reducible refine Exists.intro g ?_ | with_reducible refine Im.and ?_ ?_))); all_goals (first | assumption | trivial | ((with_reducible refine Im.i fun hf_ => ?_); first | exact (A213 hf_) | exact (Gu38 hf_) | exact (Ku37 hf_) | exact ok1.i | (exact LI.z (fun h => absurd h (by decide))) | (exact absurd hf_ (by omega)) | omega) | (unfold FPZ; (try simp only [Ks213, Fs213]); omega) | (unfold FQZ; (try simp only [Ks213, Fs213]); omega) | omega | (have zz_ := fz_z (by assumption); omega) | (split <;> omega) | done)), ?_⟩
                    intro v222 s222 hv222 Ws222 e222_0 e222_1 e222_2 e222_3 e222_4 e222_5 e222_6 e222_7 e222_8 e222_9 e222_10 e222_11 e222_12 e222_13 e222_14 e222_15 e222_16 e222_17 e222_18 e222_19 e222_20 e222_21 e222_22 e222_23 e222_24 e222_25 e222_26 e222_27 e222_28 e222_29 e222_30 q222
                    unfold rng at hv222
                    unfold post_X14_node_t at q222
                    obtain ⟨q222_1, q222_2, q222_3, q222_4, q222_5, q222_6, q222_7, q222_8, q222_9, q222_10⟩ := q222
                    (try simp only [Ks213, Fs213, FPZ, FQZ] at q222_1 q222_2 q222_3 q222_4 q222_5 q222_6 q222_7 q222_8 q222_9 q222_10 e222_0 e222_1 e222_2 e222_3 e222_4 e222_5 e222_6 e222_7 e222_8 e222_9 e222_10 e222_11 e222_12 e222_13 e222_14 e222_15 e222_16 e222_17 e222_18 e222_19 e222_20 e222_21 e222_22 e222_23 e222_24 e222_25 e222_26 e222_27 e222_28 e222_29 e222_30)
                    have Ks222 : rR s222 7 = rR σ 7 := by first | assumption | ((try simp only [rR_sF, rR_sA, rR_sT, rR_sL] at e222_0 e222_1 e222_2 e222_3 e222_4 e222_5 e222_6 e222_7 e222_8 e222_9 e222_10 e222_11 e222_12 e222_13 e222_14 e222_15 e222_16 e222_17 e222_18 e222_19 e222_20 e222_21 e222_22 e222_23 e222_24 e222_25 e222_26 e222_27 e222_28 e222_29 e222_30); omega)
                    have Fs222 : rR s222 15 = rR σ 15 := by first | assumption | ((try simp only [rR_sF, rR_sA, rR_sT, rR_sL] at e222_0 e222_1 e222_2 e222_3 e222_4 e222_5 e222_6 e222_7 e222_8 e222_9 e222_10 e222_11 e222_12 e222_13 e222_14 e222_15 e222_16 e222_17 e222_18 e222_19 e222_20 e222_21 e222_22 e222_23 e222_24 e222_25 e222_26 e222_27 e222_28 e222_29 e222_30); omega)
                    have zr222 := fz_rng s222
                    have zc222 : fz s222 = 0 → fz s213 = 0 := fun hf => by omega
                    have A222 : Im (fz s222 = 0) (RG (RT σ) s222 (rR σ 7) 0) := fun hf => RG.trk hp_2 (A213 (zc222 hf)) q222_3 (Or.inr (Or.inl rfl))
                    obtain ⟨g222, X222⟩ := EN_34 (P := fz s222 = 0) 0 0 hp_2 (fun hf => Gu38 (zc222 hf)) (fun hf => q222_3) q222_1 q222_2 q222_4 q222_5 q222_6 q222_9 (fun hf => by (try simp only [rF_sT, rF_sA]); (repeat' (with_reducible apply And.intro)) <;> first | trivial | omega)
                    have Ku39 : Im (fz s222 = 0) (GK g g222 (rF σ (rR σ 7) 7) (rF s222 (rR σ 7) 7) 0) := fun hf => GK.gs (Ku37 (zc222 hf)) (X222 hf).2.1
                    have Gu40 : Im (fz s222 = 0) _ := fun hf => (X222 hf).1
                    have O222 : Im (fz s222 = 0) _ := fun hf => (X222 hf).2.2.1
                    have L222_1 : Im (fz s222 = 0) (LI s222 (rR σ 7) g222 v222 1 34 0) := fun hf => LI.z (fun h => (X222 hf).2.2.2)
                    have rNMp_222 := e222_0 rNMp_213; clear e222_0
                    obtain ⟨gu41, Xu42⟩ := EC_34 (P := fz s222 = 0) 0 Gu40 O222 (fun hf => by omega)
                    have O222u43 : Im (fz s222 = 0) _ := fun hf => (Xu42 hf).2.1
                    have Ku44 : Im (fz s222 = 0) (GK g gu41 (rF σ (rR σ 7) 7) (rF s222 (rR σ 7) 7) 0) := fun hf => GK.kc (Ku39 hf) (Xu42 hf).2.2 (by omega)
                    have Gu45 : Im (fz s222 = 0) _ := fun hf => (Xu42 hf).1
                    have Vu46 : Im (fz s222 = 0) _ := fun hf => NR_re19 (O222u43 hf) (Xu42 hf).2.2 (O222 hf) (by rw [so_19]; omega)
                    exact (by (try simp only [post_X14_readValue, Ks222, Fs222]); (all_goals (repeat' (first | with_reducible intro _ | with_reducible apply And.intro | with_reducible refine Exists.intro gu41 ?_ | with_reducible refine Im.and ?_ ?_))); all_goals (first | assumption | trivial | ((with_reducible refine Im.i fun hf_ => ?_); first | exact (A222 hf_) | exact (Gu45 hf_) | exact (Ku44 hf_) | exact (Vu46 hf_).cst | exact ok1.i | (exact LI.z (fun h => absurd h (by decide))) | (exact absurd hf_ (by omega)) | omega) | (unfold FPZ; (try simp only [Ks222, Fs222]); omega) | (unfold FQZ; (try simp only [Ks222, Fs222]); omega) | omega | (have zz_ := fz_z (by assumption); omega) | (split <;> omega) | done))
              · refine ⟨(by (try simp only [rng, Ks1, Fs1]); (all_goals (repeat' (first | with_reducible intro _ | with_reducible apply And.intro | with_reducible refine Exists.intro g ?_ | with_reducible refine Im.and ?_ ?_))); all_goals (first | assumption | trivial | ((with_reducible refine Im.i fun hf_ => ?_); first | exact (A1 hf_) | exact (Gu2 hf_) | exact (Ku1 hf_) | exact ok1.i | (exact LI.z (fun h => absurd h (by decide))) | (exact absurd hf_ (by omega)) | omega) | (unfold FPZ; (try simp only [Ks1, Fs1]); omega) | (unfold FQZ; (try simp only [Ks1, Fs1]); omega) | omega | (have zz_ := fz_z (by assumption); omega) | (split <;> omega) | done)), ?_⟩
                refine ⟨(by (try simp only [pre_X14_node_t, reduceIte, and_true, true_and, and_false, false_and, and_self, Nat.reduceEqDiff, fz_sF17, rF_sF, rA_sF, rR_sF, tr_sF, rNMp_sF, PNp_sF, GS_F17, OP_F17, NR_F17, LI_F17, RG_l17, RG_r17, TPRp_sF17, WNp_sF17, VMp_sF17, KYp_sF17, PPp_sF17, WFp_sF17, CCp_sF17, rk_n0 hp_2, Ks1, Fs1]); (all_goals (repeat' (first | with_reducible intro _ | with_reducible apply And.intro | with_reducible refine Exists.intro g ?_ | with_reducible refine Im.and ?_ ?_))); all_goals (first | assumption | trivial | ((with_reducible refine Im.i fun hf_ => ?_); first | exact (A1 hf_) | exact (Gu2 hf_) | exact (Ku1 hf_) | exact ok1.i | (exact LI.z (fun h => absurd h (by decide))) | (exact absurd hf_ (by omega)) | omega) | (unfold FPZ; (try simp only [reduceIte, and_true, true_and, and_false, false_and, and_self, Nat.reduceEqDiff, fz_sF17, rF_sF, rA_sF, rR_sF, tr_sF, rNMp_sF, PNp_sF, GS_F17, OP_F17, NR_F17, LI_F17, RG_l17, RG_r17, TPRp_sF17, WNp_sF17, VMp_sF17, KYp_sF17, PPp_sF17, WFp_sF17, CCp_sF17, rk_n0 hp_2, Ks1, Fs1]); omega) | (unfold FQZ; (try simp only [reduceIte, and_true, true_and, and_false, false_and, and_self, Nat.reduceEqDiff, fz_sF17, rF_sF, rA_sF, rR_sF, tr_sF, rNMp_sF, PNp_sF, GS_F17, OP_F17, NR_F17, LI_F17, RG_l17, RG_r17, TPRp_sF17, WNp_sF17, VMp_sF17, KYp_sF17, PPp_sF17, WFp_sF17, CCp_sF17, rk_n0 hp_2, Ks1, Fs1]); omega) | omega | (have zz_ := fz_z (by assumption); omega) | (split <;> omega) | done)), ?_⟩
                intro v178 s178 hv178 Ws178 e178_0 e178_1 e178_2 e178_3 e178_4 e178_5 e178_6 e178_7 e178_8 e178_9 e178_10 e178_11 e178_12 e178_13 e178_14 e178_15 e178_16 e178_17 e178_18 e178_19 e178_20 e178_21 e178_22 e178_23 e178_24 e178_25 e178_26 e178_27 e178_28 e178_29 e178_30 q178
                unfold rng at hv178
                unfold post_X14_node_t at q178
                obtain ⟨q178_1, q178_2, q178_3, q178_4, q178_5, q178_6, q178_7, q178_8, q178_9, q178_10⟩ := q178
                (try simp only [reduceIte, and_true, true_and, and_false, false_and, and_self, Nat.reduceEqDiff, fz_sF17, rF_sF, rA_sF, rR_sF, tr_sF, rNMp_sF, PNp_sF, GS_F17, OP_F17, NR_F17, LI_F17, RG_l17, RG_r17, TPRp_sF17, WNp_sF17, VMp_sF17, KYp_sF17, PPp_sF17, WFp_sF17, CCp_sF17, rk_n0 hp_2, Ks1, Fs1, FPZ, FQZ] at q178_1 q178_2 q178_3 q178_4 q178_5 q178_6 q178_7 q178_8 q178_9 q178_10 e178_0 e178_1 e178_2 e178_3 e178_4 e178_5 e178_6 e178_7 e178_8 e178_9 e178_10 e178_11 e178_12 e178_13 e178_14 e178_15 e178_16 e178_17 e178_18 e178_19 e178_20 e178_21 e178_22 e178_23 e178_24 e178_25 e178_26 e178_27 e178_28 e178_29 e178_30)
                have Ks178 : rR s178 7 = rR σ 7 := by first | assumption | ((try simp only [rR_sF, rR_sA, rR_sT, rR_sL] at e178_0 e178_1 e178_2 e178_3 e178_4 e178_5 e178_6 e178_7 e178_8 e178_9 e178_10 e178_11 e178_12 e178_13 e178_14 e178_15 e178_16 e178_17 e178_18 e178_19 e178_20 e178_21 e178_22 e178_23 e178_24 e178_25 e178_26 e178_27 e178_28 e178_29 e178_30); omega)
                have Fs178 : rR s178 15 = rR σ 15 := by first | assumption | ((try simp only [rR_sF, rR_sA, rR_sT, rR_sL] at e178_0 e178_1 e178_2 e178_3 e178_4 e178_5 e178_6 e178_7 e178_8 e178_9 e178_10 e178_11 e178_12 e178_13 e178_14 e178_15 e178_16 e178_17 e178_18 e178_19 e178_20 e178_21 e178_22 e178_23 e178_24 e178_25 e178_26 e178_27 e178_28 e178_29 e178_30); omega)
                have zr178 := fz_rng s178
                have zc178 : fz s178 = 0 → fz s1 = 0 := fun hf => by omega
                have A178 : Im (fz s178 = 0) (RG (RT σ) s178 (rR σ 7) 0) := fun hf => RG.trk hp_2 (A1 (zc178 hf)) q178_3 (Or.inr (Or.inl rfl))
                obtain ⟨g178, X178⟩ := EN_56 (P := fz s178 = 0) 0 0 hp_2 (fun hf => Gu2 (zc178 hf)) (fun hf => q178_3) q178_1 q178_2 q178_4 q178_5 q178_6 q178_9 (fun hf => by (try simp only [rF_sT, rF_sA]); (repeat' (with_reducible apply And.intro)) <;> first | trivial | omega)
                have Ku47 : Im (fz s178 = 0) (GK g g178 (rF σ (rR σ 7) 7) (rF s178 (rR σ 7) 7) 0) := fun hf => GK.gs (Ku1 (zc178 hf)) (X178 hf).2.1
                have Gu48 : Im (fz s178 = 0) _ := fun hf => (X178 hf).1
                have O178 : Im (fz s178 = 0) _ := fun hf => (X178 hf).2.2.1
                have L178_1 : Im (fz s178 = 0) (LI s178 (rR σ 7) g178 v178 1 56 0) := fun hf => LI.z (fun h => absurd h (by decide))
                have rNMp_178 := e178_0 rNMp_1; clear e178_0
                obtain ⟨gu49, Xu50⟩ := EC_56 (P := fz s178 = 0) 0 Gu48 O178 (fun hf => by omega)
                have O178u51 : Im (fz s178 = 0) _ := fun hf => (Xu50 hf).2.1
                have Ku52 : Im (fz s178 = 0) (GK g gu49 (rF σ (rR σ 7) 7) (rF s178 (rR σ 7) 7) 0) := fun hf => GK.kc (Ku47 hf) (Xu50 hf).2.2 (by omega)
                have Gu53 : Im (fz s178 = 0) _ := fun hf => (Xu50 hf).1
                have Vu54 : Im (fz s178 = 0) _ := fun hf => NR_re19 (O178u51 hf) (Xu50 hf).2.2 (O178 hf) (by rw [so_19]; omega)
                exact (by (try simp only [post_X14_readValue, Ks178, Fs178]); (all_goals (repeat' (first | with_reducible intro _ | with_reducible apply And.intro | with_reducible refine Exists.intro gu49 ?_ | with_reducible refine Im.and ?_ ?_))); all_goals (first | assumption | trivial | ((with_reducible refine Im.i fun hf_ => ?_); first | exact (A178 hf_) | exact (Gu53 hf_) | exact (Ku52 hf_) | exact (Vu54 hf_).cst | exact ok1.i | (exact LI.z (fun h => absurd h (by decide))) | (exact absurd hf_ (by omega)) | omega) | (unfold FPZ; (try simp only [Ks178, Fs178]); omega) | (unfold FQZ; (try simp only [Ks178, Fs178]); omega) | omega | (have zz_ := fz_z (by assumption); omega) | (split <;> omega) | done))
          · refine ⟨(by (try simp only [pre_X14_isFileWord_f, Ks1, Fs1]); (all_goals (repeat' (first | with_reducible intro _ | with_reducible apply And.intro | with_reducible refine Exists.intro g ?_ | with_reducible refine Im.and ?_ ?_))); all_goals (first | assumption | trivial | ((with_reducible refine Im.i fun hf_ => ?_); first | exact (A1 hf_) | exact (Gu2 hf_) | exact (Ku1 hf_) | exact ok1.i | (exact LI.z (fun h => absurd h (by decide))) | (exact absurd hf_ (by omega)) | omega) | (unfold FPZ; (try simp only [Ks1, Fs1]); omega) | (unfold FQZ; (try simp only [Ks1, Fs1]); omega) | omega | (have zz_ := fz_z (by assumption); omega) | (split <;> omega) | done)), ?_⟩
            intro v107 hv107 q107
            unfold rng at hv107
            unfold post_X14_isFileWord_f at q107
            obtain ⟨q107_1, q107_2, q107_3⟩ := q107
            (try simp only [Ks1, Fs1, FPZ, FQZ] at q107_1 q107_2 q107_3)
            refine ⟨fun c110 => ?_, fun c110 => ?_⟩
            · refine ⟨(by (try simp only [pre_X14_node_t, Ks1, Fs1]); (all_goals (repeat' (first | with_reducible intro _ | with_reducible apply And.intro | with_reducible refine Exists.intro g ?_ | with_reducible refine Im.and ?_ ?_))); all_goals (first | assumption | trivial | ((with_reducible refine Im.i fun hf_ => ?_); first | exact (A1 hf_) | exact (Gu2 hf_) | exact (Ku1 hf_) | exact ok1.i | (exact LI.z (fun h => absurd h (by decide))) | (exact absurd hf_ (by omega)) | omega) | (unfold FPZ; (try simp only [Ks1, Fs1]); omega) | (unfold FQZ; (try simp only [Ks1, Fs1]); omega) | omega | (have zz_ := fz_z (by assumption); omega) | (split <;> omega) | done)), ?_⟩
              intro v123 s123 hv123 Ws123 e123_0 e123_1 e123_2 e123_3 e123_4 e123_5 e123_6 e123_7 e123_8 e123_9 e123_10 e123_11 e123_12 e123_13 e123_14 e123_15 e123_16 e123_17 e123_18 e123_19 e123_20 e123_21 e123_22 e123_23 e123_24 e123_25 e123_26 e123_27 e123_28 e123_29 e123_30 q123
              unfold rng at hv123
              unfold post_X14_node_t at q123
              obtain ⟨q123_1, q123_2, q123_3, q123_4, q123_5, q123_6, q123_7, q123_8, q123_9, q123_10⟩ := q123
              (try simp only [Ks1, Fs1, FPZ, FQZ] at q123_1 q123_2 q123_3 q123_4 q123_5 q123_6 q123_7 q123_8 q123_9 q123_10 e123_0 e123_1 e123_2 e123_3 e123_4 e123_5 e123_6 e123_7 e123_8 e123_9 e123_10 e123_11 e123_12 e123_13 e123_14 e123_15 e123_16 e123_17 e123_18 e123_19 e123_20 e123_21 e123_22 e123_23 e123_24 e123_25 e123_26 e123_27 e123_28 e123_29 e123_30)
              have Ks123 : rR s123 7 = rR σ 7 := by first | assumption | ((try simp only [rR_sF, rR_sA, rR_sT, rR_sL] at e123_0 e123_1 e123_2 e123_3 e123_4 e123_5 e123_6 e123_7 e123_8 e123_9 e123_10 e123_11 e123_12 e123_13 e123_14 e123_15 e123_16 e123_17 e123_18 e123_19 e123_20 e123_21 e123_22 e123_23 e123_24 e123_25 e123_26 e123_27 e123_28 e123_29 e123_30); omega)
              have Fs123 : rR s123 15 = rR σ 15 := by first | assumption | ((try simp only [rR_sF, rR_sA, rR_sT, rR_sL] at e123_0 e123_1 e123_2 e123_3 e123_4 e123_5 e123_6 e123_7 e123_8 e123_9 e123_10 e123_11 e123_12 e123_13 e123_14 e123_15 e123_16 e123_17 e123_18 e123_19 e123_20 e123_21 e123_22 e123_23 e123_24 e123_25 e123_26 e123_27 e123_28 e123_29 e123_30); omega)
              have zr123 := fz_rng s123
              have zc123 : fz s123 = 0 → fz s1 = 0 := fun hf => by omega
              have A123 : Im (fz s123 = 0) (RG (RT σ) s123 (rR σ 7) 0) := fun hf => RG.trk hp_2 (A1 (zc123 hf)) q123_3 (Or.inr (Or.inl rfl))
              obtain ⟨g123, X123⟩ := EN_32 (P := fz s123 = 0) 0 0 hp_2 (fun hf => Gu2 (zc123 hf)) (fun hf => q123_3) q123_1 q123_2 q123_4 q123_5 q123_6 q123_9 (fun hf => by (try simp only [rF_sT, rF_sA]); (repeat' (with_reducible apply And.intro)) <;> first | trivial | omega)
              have Ku55 : Im (fz s123 = 0) (GK g g123 (rF σ (rR σ 7) 7) (rF s123 (rR σ 7) 7) 0) := fun hf => GK.gs (Ku1 (zc123 hf)) (X123 hf).2.1
              have Gu56 : Im (fz s123 = 0) _ := fun hf => (X123 hf).1
              have O123 : Im (fz s123 = 0) _ := fun hf => (X123 hf).2.2.1
              have rNMp_123 := e123_0 rNMp_1; clear e123_0
              obtain ⟨gu57, Xu58⟩ := EC_32 (P := fz s123 = 0) 0 Gu56 O123 (fun hf => by omega)
              have O123u59 : Im (fz s123 = 0) _ := fun hf => (Xu58 hf).2.1
              have Ku60 : Im (fz s123 = 0) (GK g gu57 (rF σ (rR σ 7) 7) (rF s123 (rR σ 7) 7) 0) := fun hf => GK.kc (Ku55 hf) (Xu58 hf).2.2 (by omega)
              have Gu61 : Im (fz s123 = 0) _ := fun hf => (Xu58 hf).1
              have Vu62 : Im (fz s123 = 0) _ := fun hf => NR_re19 (O123u59 hf) (Xu58 hf).2.2 (O123 hf) (by rw [so_19]; omega)
              refine ⟨(by (try simp only [Ks123, Fs123]); (all_goals (repeat' (first | with_reducible intro _ | with_reducible apply And.intro | with_reducible refine Exists.intro gu57 ?_ | with_reducible refine Im.and ?_ ?_))); all_goals (first | assumption | trivial | ((with_reducible refine Im.i fun hf_ => ?_); first | exact (A123 hf_) | exact (Gu61 hf_) | exact (Ku60 hf_) | exact (Vu62 hf_).cst | exact ok1.i | (exact LI.z (fun h => absurd h (by decide))) | (exact absurd hf_ (by omega)) | omega) | (unfold FPZ; (try simp only [Ks123, Fs123]); omega) | (unfold FQZ; (try simp only [Ks123, Fs123]); omega) | omega | (have zz_ := fz_z (by assumption); omega) | (split <;> omega) | done)), ?_⟩
              intro hr_; unfold rng at hr_
              refine ⟨(by (try simp only [pre_X14_wordEnd_t, Ks123, Fs123]); (all_goals (repeat' (first | with_reducible intro _ | with_reducible apply And.intro | with_reducible refine Exists.intro gu57 ?_ | with_reducible refine Im.and ?_ ?_))); all_goals (first | assumption | trivial | ((with_reducible refine Im.i fun hf_ => ?_); first | exact (A123 hf_) | exact (Gu61 hf_) | exact (Ku60 hf_) | exact (Vu62 hf_).cst | exact ok1.i | (exact LI.z (fun h => absurd h (by decide))) | (exact absurd hf_ (by omega)) | omega) | (unfold FPZ; (try simp only [Ks123, Fs123]); omega) | (unfold FQZ; (try simp only [Ks123, Fs123]); omega) | omega | (have zz_ := fz_z (by assumption); omega) | (split <;> omega) | done)), ?_⟩
              intro v140 hv140 q140
              unfold rng at hv140
              unfold post_X14_wordEnd_t at q140
              obtain ⟨q140_1, q140_2, q140_3, q140_4⟩ := q140
              (try simp only [Ks123, Fs123, FPZ, FQZ] at q140_1 q140_2 q140_3 q140_4)
              have w140 : rF s1 0 17 < v140 := by first | (have a_ := q86_3 ⟨by omega, by decide⟩; (try simp only [Fs1] at a_); exact q140_4 ⟨by omega, by rw [(by assumption : FLk s1 s123) _ _ hp_6.1]; exact a_.2⟩) | (have a_ := q96_3 ⟨by omega, by decide⟩; (try simp only [Fs1] at a_); exact q140_4 ⟨by omega, by rw [(by assumption : FLk s1 s123) _ _ hp_6.1]; exact a_.2⟩) | (have a_ := q107_3 ⟨by omega, by decide⟩; (try simp only [Fs1] at a_); exact q140_4 ⟨by omega, by rw [(by assumption : FLk s1 s123) _ _ hp_6.1]; exact a_.2⟩)
              exact (by (try simp only [post_X14_readValue, reduceIte, and_true, true_and, and_false, false_and, and_self, Nat.reduceEqDiff, fz_sF17, rF_sF, rA_sF, rR_sF, tr_sF, rNMp_sF, PNp_sF, GS_F17, OP_F17, NR_F17, LI_F17, RG_l17, RG_r17, TPRp_sF17, WNp_sF17, VMp_sF17, KYp_sF17, PPp_sF17, WFp_sF17, CCp_sF17, rk_n0 hp_2, Ks123, Fs123]); (all_goals (repeat' (first | with_reducible intro _ | with_reducible apply And.intro | with_reducible refine Exists.intro gu57 ?_ | with_reducible refine Im.and ?_ ?_))); all_goals (first | assumption | trivial | ((with_reducible refine Im.i fun hf_ => ?_); first | exact (A123 hf_) | exact (Gu61 hf_) | exact (Ku60 hf_) | exact (Vu62 hf_).cst | exact ok1.i | (exact LI.z (fun h => absurd h (by decide))) | (exact absurd hf_ (by omega)) | omega) | (unfold FPZ; (try simp only [reduceIte, and_true, true_and, and_false, false_and, and_self, Nat.reduceEqDiff, fz_sF17, rF_sF, rA_sF, rR_sF, tr_sF, rNMp_sF, PNp_sF, GS_F17, OP_F17, NR_F17, LI_F17, RG_l17, RG_r17, TPRp_sF17, WNp_sF17, VMp_sF17, KYp_sF17, PPp_sF17, WFp_sF17, CCp_sF17, rk_n0 hp_2, Ks123, Fs123]); omega) | (unfold FQZ; (try simp only [reduceIte, and_true, true_and, and_false, false_and, and_self, Nat.reduceEqDiff, fz_sF17, rF_sF, rA_sF, rR_sF, tr_sF, rNMp_sF, PNp_sF, GS_F17, OP_F17, NR_F17, LI_F17, RG_l17, RG_r17, TPRp_sF17, WNp_sF17, VMp_sF17, KYp_sF17, PPp_sF17, WFp_sF17, CCp_sF17, rk_n0 hp_2, Ks123, Fs123]); omega) | omega | (have zz_ := fz_z (by assumption); omega) | (split <;> omega) | done))
            · refine ⟨(by (try simp only [pre_X14_node_t, Ks1, Fs1]); (all_goals (repeat' (first | with_reducible intro _ | with_reducible apply And.intro | with_reducible refine Exists.intro g ?_ | with_reducible refine Im.and ?_ ?_))); all_goals (first | assumption | trivial | ((with_reducible refine Im.i fun hf_ => ?_); first | exact (A1 hf_) | exact (Gu2 hf_) | exact (Ku1 hf_) | exact ok1.i | (exact LI.z (fun h => absurd h (by decide))) | (exact absurd hf_ (by omega)) | omega) | (unfold FPZ; (try simp only [Ks1, Fs1]); omega) | (unfold FQZ; (try simp only [Ks1, Fs1]); omega) | omega | (have zz_ := fz_z (by assumption); omega) | (split <;> omega) | done)), ?_⟩
              intro v123 s123 hv123 Ws123 e123_0 e123_1 e123_2 e123_3 e123_4 e123_5 e123_6 e123_7 e123_8 e123_9 e123_10 e123_11 e123_12 e123_13 e123_14 e123_15 e123_16 e123_17 e123_18 e123_19 e123_20 e123_21 e123_22 e123_23 e123_24 e123_25 e123_26 e123_27 e123_28 e123_29 e123_30 q123
              unfold rng at hv123
              unfold post_X14_node_t at q123
              obtain ⟨q123_1, q123_2, q123_3, q123_4, q123_5, q123_6, q123_7, q123_8, q123_9, q123_10⟩ := q123
              (try simp only [Ks1, Fs1, FPZ, FQZ] at q123_1 q123_2 q123_3 q123_4 q123_5 q123_6 q123_7 q123_8 q123_9 q123_10 e123_0 e123_1 e123_2 e123_3 e123_4 e123_5 e123_6 e123_7 e123_8 e123_9 e123_10 e123_11 e123_12 e123_13 e123_14 e123_15 e123_16 e123_17 e123_18 e123_19 e123_20 e123_21 e123_22 e123_23 e123_24 e123_25 e123_26 e123_27 e123_28 e123_29 e123_30)
              have Ks123 : rR s123 7 = rR σ 7 := by first | assumption | ((try simp only [rR_sF, rR_sA, rR_sT, rR_sL] at e123_0 e123_1 e123_2 e123_3 e123_4 e123_5 e123_6 e123_7 e123_8 e123_9 e123_10 e123_11 e123_12 e123_13 e123_14 e123_15 e123_16 e123_17 e123_18 e123_19 e123_20 e123_21 e123_22 e123_23 e123_24 e123_25 e123_26 e123_27 e123_28 e123_29 e123_30); omega)
              have Fs123 : rR s123 15 = rR σ 15 := by first | assumption | ((try simp only [rR_sF, rR_sA, rR_sT, rR_sL] at e123_0 e123_1 e123_2 e123_3 e123_4 e123_5 e123_6 e123_7 e123_8 e123_9 e123_10 e123_11 e123_12 e123_13 e123_14 e123_15 e123_16 e123_17 e123_18 e123_19 e123_20 e123_21 e123_22 e123_23 e123_24 e123_25 e123_26 e123_27 e123_28 e123_29 e123_30); omega)
              have zr123 := fz_rng s123
              have zc123 : fz s123 = 0 → fz s1 = 0 := fun hf => by omega
              have A123 : Im (fz s123 = 0) (RG (RT σ) s123 (rR σ 7) 0) := fun hf => RG.trk hp_2 (A1 (zc123 hf)) q123_3 (Or.inr (Or.inl rfl))
              obtain ⟨g123, X123⟩ := EN_31 (P := fz s123 = 0) 0 0 hp_2 (fun hf => Gu2 (zc123 hf)) (fun hf => q123_3) q123_1 q123_2 q123_4 q123_5 q123_6 q123_9 (fun hf => by (try simp only [rF_sT, rF_sA]); (repeat' (with_reducible apply And.intro)) <;> first | trivial | omega)
              have Ku63 : Im (fz s123 = 0) (GK g g123 (rF σ (rR σ 7) 7) (rF s123 (rR σ 7) 7) 0) := fun hf => GK.gs (Ku1 (zc123 hf)) (X123 hf).2.1
              have Gu64 : Im (fz s123 = 0) _ := fun hf => (X123 hf).1
              have O123 : Im (fz s123 = 0) _ := fun hf => (X123 hf).2.2.1
              have rNMp_123 := e123_0 rNMp_1; clear e123_0
              obtain ⟨gu65, Xu66⟩ := EC_31 (P := fz s123 = 0) 0 Gu64 O123 (fun hf => by omega)
              have O123u67 : Im (fz s123 = 0) _ := fun hf => (Xu66 hf).2.1
              have Ku68 : Im (fz s123 = 0) (GK g gu65 (rF σ (rR σ 7) 7) (rF s123 (rR σ 7) 7) 0) := fun hf => GK.kc (Ku63 hf) (Xu66 hf).2.2 (by omega)
              have Gu69 : Im (fz s123 = 0) _ := fun hf => (Xu66 hf).1
              have Vu70 : Im (fz s123 = 0) _ := fun hf => NR_re19 (O123u67 hf) (Xu66 hf).2.2 (O123 hf) (by rw [so_19]; omega)
              refine ⟨(by (try simp only [Ks123, Fs123]); (all_goals (repeat' (first | with_reducible intro _ | with_reducible apply And.intro | with_reducible refine Exists.intro gu65 ?_ | with_reducible refine Im.and ?_ ?_))); all_goals (first | assumption | trivial | ((with_reducible refine Im.i fun hf_ => ?_); first | exact (A123 hf_) | exact (Gu69 hf_) | exact (Ku68 hf_) | exact (Vu70 hf_).cst | exact ok1.i | (exact LI.z (fun h => absurd h (by decide))) | (exact absurd hf_ (by omega)) | omega) | (unfold FPZ; (try simp only [Ks123, Fs123]); omega) | (unfold FQZ; (try simp only [Ks123, Fs123]); omega) | omega | (have zz_ := fz_z (by assumption); omega) | (split <;> omega) | done)), ?_⟩
              intro hr_; unfold rng at hr_
              refine ⟨(by (try simp only [pre_X14_wordEnd_t, Ks123, Fs123]); (all_goals (repeat' (first | with_reducible intro _ | with_reducible apply And.intro | with_reducible refine Exists.intro gu65 ?_ | with_reducible refine Im.and ?_ ?_))); all_goals (first | assumption | trivial | ((with_reducible refine Im.i fun hf_ => ?_); first | exact (A123 hf_) | exact (Gu69 hf_) | exact (Ku68 hf_) | exact (Vu70 hf_).cst | exact ok1.i | (exact LI.z (fun h => absurd h (by decide))) | (exact absurd hf_ (by omega)) | omega) | (unfold FPZ; (try simp only [Ks123, Fs123]); omega) | (unfold FQZ; (try simp only [Ks123, Fs123]); omega) | omega | (have zz_ := fz_z (by assumption); omega) | (split <;> omega) | done)), ?_⟩
              intro v140 hv140 q140
              unfold rng at hv140
              unfold post_X14_wordEnd_t at q140
              obtain ⟨q140_1, q140_2, q140_3, q140_4⟩ := q140
              (try simp only [Ks123, Fs123, FPZ, FQZ] at q140_1 q140_2 q140_3 q140_4)
              have w140 : rF s1 0 17 < v140 := by first | (have a_ := q86_3 ⟨by omega, by decide⟩; (try simp only [Fs1] at a_); exact q140_4 ⟨by omega, by rw [(by assumption : FLk s1 s123) _ _ hp_6.1]; exact a_.2⟩) | (have a_ := q96_3 ⟨by omega, by decide⟩; (try simp only [Fs1] at a_); exact q140_4 ⟨by omega, by rw [(by assumption : FLk s1 s123) _ _ hp_6.1]; exact a_.2⟩) | (have a_ := q107_3 ⟨by omega, by decide⟩; (try simp only [Fs1] at a_); exact q140_4 ⟨by omega, by rw [(by assumption : FLk s1 s123) _ _ hp_6.1]; exact a_.2⟩)
              exact (by (try simp only [post_X14_readValue, reduceIte, and_true, true_and, and_false, false_and, and_self, Nat.reduceEqDiff, fz_sF17, rF_sF, rA_sF, rR_sF, tr_sF, rNMp_sF, PNp_sF, GS_F17, OP_F17, NR_F17, LI_F17, RG_l17, RG_r17, TPRp_sF17, WNp_sF17, VMp_sF17, KYp_sF17, PPp_sF17, WFp_sF17, CCp_sF17, rk_n0 hp_2, Ks123, Fs123]); (all_goals (repeat' (first | with_reducible intro _ | with_reducible apply And.intro | with_reducible refine Exists.intro gu65 ?_ | with_reducible refine Im.and ?_ ?_))); all_goals (first | assumption | trivial | ((with_reducible refine Im.i fun hf_ => ?_); first | exact (A123 hf_) | exact (Gu69 hf_) | exact (Ku68 hf_) | exact (Vu70 hf_).cst | exact ok1.i | (exact LI.z (fun h => absurd h (by decide))) | (exact absurd hf_ (by omega)) | omega) | (unfold FPZ; (try simp only [reduceIte, and_true, true_and, and_false, false_and, and_self, Nat.reduceEqDiff, fz_sF17, rF_sF, rA_sF, rR_sF, tr_sF, rNMp_sF, PNp_sF, GS_F17, OP_F17, NR_F17, LI_F17, RG_l17, RG_r17, TPRp_sF17, WNp_sF17, VMp_sF17, KYp_sF17, PPp_sF17, WFp_sF17, CCp_sF17, rk_n0 hp_2, Ks123, Fs123]); omega) | (unfold FQZ; (try simp only [reduceIte, and_true, true_and, and_false, false_and, and_self, Nat.reduceEqDiff, fz_sF17, rF_sF, rA_sF, rR_sF, tr_sF, rNMp_sF, PNp_sF, GS_F17, OP_F17, NR_F17, LI_F17, RG_l17, RG_r17, TPRp_sF17, WNp_sF17, VMp_sF17, KYp_sF17, PPp_sF17, WFp_sF17, CCp_sF17, rk_n0 hp_2, Ks123, Fs123]); omega) | omega | (have zz_ := fz_z (by assumption); omega) | (split <;> omega) | done))
      · refine ⟨g, ?_⟩
        refine ⟨(by (try simp only [pre_X14_readFileSub, Ks1, Fs1]); (all_goals (repeat' (first | with_reducible intro _ | with_reducible apply And.intro | with_reducible refine Exists.intro g ?_ | with_reducible refine Im.and ?_ ?_))); all_goals (first | assumption | trivial | ((with_reducible refine Im.i fun hf_ => ?_); first | exact (A1 hf_) | exact (Gu2 hf_) | exact (Ku1 hf_) | exact ok1.i | (exact LI.z (fun h => absurd h (by decide))) | (exact absurd hf_ (by omega)) | omega) | (unfold FPZ; (try simp only [Ks1, Fs1]); omega) | (unfold FQZ; (try simp only [Ks1, Fs1]); omega) | omega | (have zz_ := fz_z (by assumption); omega) | (split <;> omega) | done)), ?_⟩
        intro v78 s78 hv78 Ws78 e78_0 e78_1 e78_2 e78_3 e78_4 e78_5 e78_6 e78_7 e78_8 q78
        unfold rng at hv78
        unfold post_X14_readFileSub at q78
        obtain ⟨q78_1, q78_2, q78_3, q78_4, q78_5, q78_6, q78_7⟩ := q78
        (try simp only [Ks1, Fs1, FPZ, FQZ] at q78_1 q78_2 q78_3 q78_4 q78_5 q78_6 q78_7 e78_0 e78_1 e78_2 e78_3 e78_4 e78_5 e78_6 e78_7 e78_8)
        have Ks78 : rR s78 7 = rR σ 7 := by first | assumption | ((try simp only [rR_sF, rR_sA, rR_sT, rR_sL] at e78_0 e78_1 e78_2 e78_3 e78_4 e78_5 e78_6 e78_7 e78_8); omega)
        have Fs78 : rR s78 15 = rR σ 15 := by first | assumption | ((try simp only [rR_sF, rR_sA, rR_sT, rR_sL] at e78_0 e78_1 e78_2 e78_3 e78_4 e78_5 e78_6 e78_7 e78_8); omega)
        have zr78 := fz_rng s78
        have zc78 : fz s78 = 0 → fz s1 = 0 := fun hf => by omega
        have A78 : Im (fz s78 = 0) (RG (RT σ) s78 (rR σ 7) 0) := fun hf => RG.tt (q78_6 (by omega)) (A1 (zc78 hf))
        obtain ⟨g78, X78⟩ := q78_7
        have Ku71 : Im (fz s78 = 0) (GK g g78 (rF σ (rR σ 7) 7) (rF s78 (rR σ 7) 7) 0) := fun hf => GK.trans (Ku1 (zc78 hf)) ((X78 hf).2.1) (Or.inr (Or.inl rfl))
        have Gu72 : Im (fz s78 = 0) (GS s78 (rR σ 7) g78) := fun hf => (X78 hf).1
        have r78 : Im (fz s78 = 0) _ := fun hf => (X78 hf).2.2.1
        exact (by (try simp only [post_X14_readValue, Ks78, Fs78]); (all_goals (repeat' (first | with_reducible intro _ | with_reducible apply And.intro | with_reducible refine Exists.intro g78 ?_ | with_reducible refine Im.and ?_ ?_))); all_goals (first | assumption | trivial | ((with_reducible refine Im.i fun hf_ => ?_); first | exact (A78 hf_) | exact (Gu72 hf_) | exact (Ku71 hf_) | exact (r78 hf_).cst | exact ok1.i | (exact LI.z (fun h => absurd h (by decide))) | (exact absurd hf_ (by omega)) | omega) | (unfold FPZ; (try simp only [Ks78, Fs78]); omega) | (unfold FQZ; (try simp only [Ks78, Fs78]); omega) | omega | (have zz_ := fz_z (by assumption); omega) | (split <;> omega) | done))
    · refine ⟨(by (try simp only [pre_X14_fileString_f, Ks1, Fs1]); (all_goals (repeat' (first | with_reducible intro _ | with_reducible apply And.intro | with_reducible refine Exists.intro g ?_ | with_reducible refine Im.and ?_ ?_))); all_goals (first | assumption | trivial | ((with_reducible refine Im.i fun hf_ => ?_); first | exact (A1 hf_) | exact (Gu2 hf_) | exact (Ku1 hf_) | exact ok1.i | (exact LI.z (fun h => absurd h (by decide))) | (exact absurd hf_ (by omega)) | omega) | (unfold FPZ; (try simp only [Ks1, Fs1]); omega) | (unfold FQZ; (try simp only [Ks1, Fs1]); omega) | omega | (have zz_ := fz_z (by assumption); omega) | (split <;> omega) | done)), ?_⟩
      intro s32 Ws32 e32_0 e32_1 e32_2 e32_3 e32_4 e32_5 e32_6 e32_7 e32_8 e32_9 e32_10 e32_11 e32_12 e32_13 e32_14 e32_15 e32_16 e32_17 e32_18 e32_19 e32_20 e32_21 e32_22 e32_23 e32_24 e32_25 e32_26 R32 q32
      unfold post_X14_fileString_f at q32
      obtain ⟨q32_1, q32_2, q32_3, q32_4⟩ := q32
      (try simp only [Ks1, Fs1, FPZ, FQZ] at q32_1 q32_2 q32_3 q32_4 e32_0 e32_1 e32_2 e32_3 e32_4 e32_5 e32_6 e32_7 e32_8 e32_9 e32_10 e32_11 e32_12 e32_13 e32_14 e32_15 e32_16 e32_17 e32_18 e32_19 e32_20 e32_21 e32_22 e32_23 e32_24 e32_25 e32_26 R32)
      have Ks32 : rR s32 7 = rR σ 7 := by first | assumption | ((try simp only [rR_sF, rR_sA, rR_sT, rR_sL] at e32_0 e32_1 e32_2 e32_3 e32_4 e32_5 e32_6 e32_7 e32_8 e32_9 e32_10 e32_11 e32_12 e32_13 e32_14 e32_15 e32_16 e32_17 e32_18 e32_19 e32_20 e32_21 e32_22 e32_23 e32_24 e32_25 e32_26 R32); omega)
      have Fs32 : rR s32 15 = rR σ 15 := by first | assumption | ((try simp only [rR_sF, rR_sA, rR_sT, rR_sL] at e32_0 e32_1 e32_2 e32_3 e32_4 e32_5 e32_6 e32_7 e32_8 e32_9 e32_10 e32_11 e32_12 e32_13 e32_14 e32_15 e32_16 e32_17 e32_18 e32_19 e32_20 e32_21 e32_22 e32_23 e32_24 e32_25 e32_26 R32); omega)
      have zr32 := fz_rng s32
      have zc32 : fz s32 = 0 → fz s1 = 0 := fun hf => by omega
      have A32 : Im (fz s32 = 0) (RG (RT σ) s32 (rR σ 7) 0) := fun hf => RG.trk hp_2 (A1 (zc32 hf)) R32 (Or.inr (Or.inl rfl))
      have Ku73 : Im (fz s32 = 0) (GK g g (rF σ (rR σ 7) 7) (rF s32 (rR σ 7) 7) 0) := fun hf => GK.trans (Ku1 (zc32 hf)) (GK.up (N := rF s1 (rR σ 7) 7) (N' := rF s32 (rR σ 7) 7) (c := 0) (by first | assumption | omega | (simp only [rF_sT, rF_sA]; omega))) (Or.inr (Or.inl rfl))
      have Gu74 : Im (fz s32 = 0) (GS s32 (rR σ 7) g) := fun hf => GS.mv hp_2 (Gu2 (zc32 hf)) R32 (by first | assumption | omega | (simp only [rF_sT, rF_sA]; omega)) (by first | (exact Int.le_of_eq (Eq.symm (by assumption))) | omega | (simp only [rF_sT, rF_sA]; omega))
      have rNMp_32 := e32_0 rNMp_1; clear e32_0
      have PNp_32 := e32_1 PNp_1; clear e32_1
      intro hr_; unfold rng at hr_
      refine ⟨fun c39 => ?_, fun c39 => ?_⟩
      · have z39 := fz_n c39
        exact (by (try simp only [post_X14_readValue, Ks32, Fs32]); (all_goals (repeat' (first | with_reducible intro _ | with_reducible apply And.intro | with_reducible refine Exists.intro g ?_ | with_reducible refine Im.and ?_ ?_))); all_goals (first | assumption | trivial | ((with_reducible refine Im.i fun hf_ => ?_); first | exact (A32 hf_) | exact (Gu74 hf_) | exact (Ku73 hf_) | exact ok1.i | (exact LI.z (fun h => absurd h (by decide))) | (exact absurd hf_ (by omega)) | omega) | (unfold FPZ; (try simp only [Ks32, Fs32]); omega) | (unfold FQZ; (try simp only [Ks32, Fs32]); omega) | omega | (have zz_ := fz_z (by assumption); omega) | (split <;> omega) | done))
      · have z39 := fz_z c39
        refine ⟨(by (try simp only [Ks32, Fs32]); (all_goals (repeat' (first | with_reducible intro _ | with_reducible apply And.intro | with_reducible refine Exists.intro g ?_ | with_reducible refine Im.and ?_ ?_))); all_goals (first | assumption | trivial | ((with_reducible refine Im.i fun hf_ => ?_); first | exact (A32 hf_) | exact (Gu74 hf_) | exact (Ku73 hf_) | exact ok1.i | (exact LI.z (fun h => absurd h (by decide))) | (exact absurd hf_ (by omega)) | omega) | (unfold FPZ; (try simp only [Ks32, Fs32]); omega) | (unfold FQZ; (try simp only [Ks32, Fs32]); omega) | omega | (have zz_ := fz_z (by assumption); omega) | (split <;> omega) | done)), ?_⟩
        intro hr_; unfold rng at hr_
        intro hr_; unfold rng at hr_
        refine ⟨(by (try simp only [pre_X14_keepString_t, Ks32, Fs32]); (all_goals (repeat' (first | with_reducible intro _ | with_reducible apply And.intro | with_reducible refine Exists.intro g ?_ | with_reducible refine Im.and ?_ ?_))); all_goals (first | assumption | trivial | ((with_reducible refine Im.i fun hf_ => ?_); first | exact (A32 hf_) | exact (Gu74 hf_) | exact (Ku73 hf_) | exact ok1.i | (exact LI.z (fun h => absurd h (by decide))) | (exact absurd hf_ (by omega)) | omega) | (unfold FPZ; (try simp only [Ks32, Fs32]); omega) | (unfold FQZ; (try simp only [Ks32, Fs32]); omega) | omega | (have zz_ := fz_z (by assumption); omega) | (split <;> omega) | done)), ?_⟩
        intro v56 s56 hv56 Ws56 e56_0 e56_1 e56_2 e56_3 e56_4 e56_5 e56_6 e56_7 e56_8 e56_9 e56_10 e56_11 e56_12 e56_13 e56_14 e56_15 e56_16 e56_17 e56_18 e56_19 e56_20 e56_21 e56_22 e56_23 e56_24 e56_25 e56_26 e56_27 e56_28 q56
        unfold rng at hv56
        unfold post_X14_keepString_t at q56
        obtain ⟨q56_1, q56_2, q56_3, q56_4, q56_5, q56_6, q56_7, q56_8, q56_9, q56_10, q56_11, q56_12⟩ := q56
        (try simp only [Ks32, Fs32, FPZ, FQZ] at q56_1 q56_2 q56_3 q56_4 q56_5 q56_6 q56_7 q56_8 q56_9 q56_10 q56_11 q56_12 e56_0 e56_1 e56_2 e56_3 e56_4 e56_5 e56_6 e56_7 e56_8 e56_9 e56_10 e56_11 e56_12 e56_13 e56_14 e56_15 e56_16 e56_17 e56_18 e56_19 e56_20 e56_21 e56_22 e56_23 e56_24 e56_25 e56_26 e56_27 e56_28)
        have Ks56 : rR s56 7 = rR σ 7 := by first | assumption | ((try simp only [rR_sF, rR_sA, rR_sT, rR_sL] at e56_0 e56_1 e56_2 e56_3 e56_4 e56_5 e56_6 e56_7 e56_8 e56_9 e56_10 e56_11 e56_12 e56_13 e56_14 e56_15 e56_16 e56_17 e56_18 e56_19 e56_20 e56_21 e56_22 e56_23 e56_24 e56_25 e56_26 e56_27 e56_28); omega)
        have Fs56 : rR s56 15 = rR σ 15 := by first | assumption | ((try simp only [rR_sF, rR_sA, rR_sT, rR_sL] at e56_0 e56_1 e56_2 e56_3 e56_4 e56_5 e56_6 e56_7 e56_8 e56_9 e56_10 e56_11 e56_12 e56_13 e56_14 e56_15 e56_16 e56_17 e56_18 e56_19 e56_20 e56_21 e56_22 e56_23 e56_24 e56_25 e56_26 e56_27 e56_28); omega)
        have zr56 := fz_rng s56
        have zc56 : fz s56 = 0 → fz s32 = 0 := fun hf => by omega
        have A56 : Im (fz s56 = 0) (RG (RT σ) s56 (rR σ 7) 0) := fun hf => RG.trk hp_2 (A32 (zc56 hf)) q56_5 (Or.inr (Or.inl rfl))
        obtain ⟨g56, X56⟩ := EN_30 (P := fz s56 = 0) 0 0 hp_2 (fun hf => Gu74 (zc56 hf)) (fun hf => q56_5) q56_1 q56_2 q56_6 rfl rfl q56_11 (fun hf => by (try simp only [rF_sT, rF_sA]); (repeat' (with_reducible apply And.intro)) <;> first | trivial | omega)
        have Ku75 : Im (fz s56 = 0) (GK g g56 (rF σ (rR σ 7) 7) (rF s56 (rR σ 7) 7) 0) := fun hf => GK.gs (Ku73 (zc56 hf)) (X56 hf).2.1
        have Gu76 : Im (fz s56 = 0) _ := fun hf => (X56 hf).1
        have O56 : Im (fz s56 = 0) _ := fun hf => (X56 hf).2.2.1
        have rNMp_56 : rNMp s56 := rNMp.grow (k := (rR σ 7)) (σ := s32) rNMp_32 Ks32 Ks56 (by omega) (by omega) (by assumption) (by assumption)
        obtain ⟨gu77, Xu78⟩ := EC_30 (P := fz s56 = 0) 0 Gu76 O56 (fun hf => by omega)
        have O56u79 : Im (fz s56 = 0) _ := fun hf => (Xu78 hf).2.1
        have Ku80 : Im (fz s56 = 0) (GK g gu77 (rF σ (rR σ 7) 7) (rF s56 (rR σ 7) 7) 0) := fun hf => GK.kc (Ku75 hf) (Xu78 hf).2.2 (by omega)
        have Gu81 : Im (fz s56 = 0) _ := fun hf => (Xu78 hf).1
        have Vu82 : Im (fz s56 = 0) _ := fun hf => NR_re19 (O56u79 hf) (Xu78 hf).2.2 (O56 hf) (by rw [so_19]; omega)
        exact (by (try simp only [post_X14_readValue, Ks56, Fs56]); (all_goals (repeat' (first | with_reducible intro _ | with_reducible apply And.intro | with_reducible refine Exists.intro gu77 ?_ | with_reducible refine Im.and ?_ ?_))); all_goals (first | assumption | trivial | ((with_reducible refine Im.i fun hf_ => ?_); first | exact (A56 hf_) | exact (Gu81 hf_) | exact (Ku80 hf_) | exact (Vu82 hf_).cst | exact ok1.i | (exact LI.z (fun h => absurd h (by decide))) | (exact absurd hf_ (by omega)) | omega) | (unfold FPZ; (try simp only [Ks56, Fs56]); omega) | (unfold FQZ; (try simp only [Ks56, Fs56]); omega) | omega | (have zz_ := fz_z (by assumption); omega) | (split <;> omega) | done))
  · have z8 := fz_n c8
    exact (by (try simp only [post_X14_readValue, Ks1, Fs1]); (all_goals (repeat' (first | with_reducible intro _ | with_reducible apply And.intro | with_reducible refine Exists.intro g ?_ | with_reducible refine Im.and ?_ ?_))); all_goals (first | assumption | trivial | ((with_reducible refine Im.i fun hf_ => ?_); first | exact (A1 hf_) | exact (Gu2 hf_) | exact (Ku1 hf_) | exact ok1.i | (exact LI.z (fun h => absurd h (by decide))) | (exact absurd hf_ (by omega)) | omega) | (unfold FPZ; (try simp only [Ks1, Fs1]); omega) | (unfold FQZ; (try simp only [Ks1, Fs1]); omega) | omega | (have zz_ := fz_z (by assumption); omega) | (split <;> omega) | done))
theorem wX14_readValue (l : Launch) (G : zG) (κ : Nat → Nat) (σ : rS) (x1 : Int) (gg : Nat) (U : Int) (g : Nat → Int → Int) (hwf : rWF σ) (hx1 : rng x1) (Q : Int → rS → Prop) (h : VC_X14_readValue σ x1 gg U g Q) : rMi l G κ yX14_readValue cX14_readValue 4 .int 462 18050 [.ref (κ 0), iv x1] σ (fun x s => rKeep 0x6c3f3e21c00 0x4100001280 0x13c0c000000 0x3ee0000d7f 0 σ s ∧ Q x s) := by
  refine zMi.intro (by decide +kernel) (Nat.le_of_ble_eq_true rfl) (fun X hC hR => ?_)
  obtain ⟨g0, h⟩ := h
  refine z_aload_n hC (pc := 0) 0 dX14_readValue_0 rfl rfl ?_
  obtain ⟨p10, h⟩ := h
  refine y_callVv hC (pc := 1) (As := []) (kX14_skip l G κ σ  hwf  p10) dmX14_skip zf14 rOb_0 dX14_readValue_1 zw2985 rfl rfl (Nat.le_of_ble_eq_true rfl) (Nat.le_of_ble_eq_true rfl) (Nat.le_of_ble_eq_true rfl) (Nat.le_of_ble_eq_true rfl) (Nat.le_of_ble_eq_true rfl) (kk := fun s1 Ws1 qs1 => ?_)
  have h := h s1 Ws1 (rNMp.keep qs1.1 rfl rfl rfl rfl rfl) (PNp.keep qs1.1 rfl rfl rfl rfl rfl) (qs1.1.R rfl) (qs1.1.R rfl) (qs1.1.F rfl) (qs1.1.F rfl) (qs1.1.F rfl) (qs1.1.F rfl) (qs1.1.F rfl) (qs1.1.F rfl) (qs1.1.F rfl) (qs1.1.F rfl) (qs1.1.F rfl) (qs1.1.F rfl) (qs1.1.F rfl) (qs1.1.F rfl) (qs1.1.F rfl) (qs1.1.F rfl) (fun i => qs1.1.A (f := 27) (by decide) rfl) (fun i => qs1.1.A (f := 34) (by decide) rfl) (fun i => qs1.1.A (f := 35) (by decide) rfl) (fun i => qs1.1.A (f := 40) (by decide) rfl) (qs1.1.FG g0 rfl) (qs1.1.FG g0 rfl) (qs1.1.FG g0 rfl) (qs1.1.FG g0 rfl) (qs1.1.FG g0 rfl) (fun i => qs1.1.AG (f := 10) g0 (by decide) rfl) (fun i => qs1.1.AG (f := 11) g0 (by decide) rfl) (fun _ _ hp => qs1.1.FL hp) (RG.keep (c0 := 0) qs1.1 rfl rfl rfl rfl rfl rfl rfl rfl rfl rfl rfl rfl rfl rfl rfl rfl rfl rfl) qs1.2
  refine z_aload_n hC (pc := 4) 0 dX14_readValue_4 rfl rfl ?_
  refine y_get hC (pc := 5) zf14 rOb_0 10 (v := iv (rF s1 0 10)) dX14_readValue_5 zw2478 (rv_i (Or.inl rfl) rfl) (kk := ?_)
  have h := h (Ws1.f _ _)
  obtain ⟨hT, hF⟩ := h
  refine y_if_eq hC (pc := 8) 13 (Ws1.f _ _) dX14_readValue_8 (by decide) (fun c => ?_) (fun c => ?_)
  · have h := hT c
    refine z_aload_n hC (pc := 13) 0 dX14_readValue_13 rfl rfl ?_
    refine y_get hC (pc := 14) zf14 rOb_0 17 (v := iv (rF s1 0 17)) dX14_readValue_14 zw2484 (rv_i (Or.inl rfl) rfl) (kk := ?_)
    have h := h (Ws1.f _ _)
    refine z_istore_n hC (pc := 17) (lv' := [(2, iv (rF s1 0 17)), (0, .ref (κ 0)), (1, iv x1)]) dX14_readValue_17 rfl (by decide) rfl ?_
    refine z_aload_n hC (pc := 18) 1 dX14_readValue_18 rfl rfl ?_
    refine z_aload_n hC (pc := 19) 1 dX14_readValue_19 rfl rfl ?_
    refine y_get hC (pc := 20) zf14 rOb_0 17 (v := iv (rF s1 0 17)) dX14_readValue_20 zw2484 (rv_i (Or.inl rfl) rfl) (kk := ?_)
    obtain ⟨p11, h⟩ := h
    refine y_callVi hC (pc := 23) (As := [iv (rF s1 0 17)]) (kX14_fc l G κ s1 (rF s1 0 17) Ws1 (Ws1.f _ _) p11) dmX14_fc zf14 rOb_0 dX14_readValue_23 zw2993 rfl rfl (Nat.le_of_ble_eq_true rfl) (Nat.le_of_ble_eq_true rfl) (Nat.le_of_ble_eq_true rfl) (Nat.le_of_ble_eq_true rfl) (Nat.le_of_ble_eq_true rfl) (kk := fun v23 s23 hv23 Ws23 qs23 => ?_)
    obtain ⟨es23, qs23⟩ := qs23
    have es23 := es23.symm
    subst es23
    have h := h v23 hv23 qs23
    refine z_bipush hC (pc := 26) (v := Int32.ofInt 34) dX14_readValue_26 (by decide) ?_
    obtain ⟨hT, hF⟩ := h
    refine y_icmp_ne hC (pc := 28) 64 hv23 (r_lit rfl) dX14_readValue_28 (by decide) (fun c => ?_) (fun c => ?_)
    · have h := hT c
      refine z_aload_n hC (pc := 64) 1 dX14_readValue_64 rfl rfl ?_
      refine z_aload_n hC (pc := 65) 1 dX14_readValue_65 rfl rfl ?_
      refine y_get hC (pc := 66) zf14 rOb_0 17 (v := iv (rF s1 0 17)) dX14_readValue_66 zw2484 (rv_i (Or.inl rfl) rfl) (kk := ?_)
      obtain ⟨p12, h⟩ := h
      refine y_callVi hC (pc := 69) (As := [iv (rF s1 0 17)]) (kX14_fc l G κ s1 (rF s1 0 17) Ws1 (Ws1.f _ _) p12) dmX14_fc zf14 rOb_0 dX14_readValue_69 zw2993 rfl rfl (Nat.le_of_ble_eq_true rfl) (Nat.le_of_ble_eq_true rfl) (Nat.le_of_ble_eq_true rfl) (Nat.le_of_ble_eq_true rfl) (Nat.le_of_ble_eq_true rfl) (kk := fun v69 s69 hv69 Ws69 qs69 => ?_)
      obtain ⟨es69, qs69⟩ := qs69
      have es69 := es69.symm
      subst es69
      have h := h v69 hv69 qs69
      refine z_bipush hC (pc := 72) (v := Int32.ofInt 123) dX14_readValue_72 (by decide) ?_
      obtain ⟨hT, hF⟩ := h
      refine y_icmp_ne hC (pc := 74) 82 hv69 (r_lit rfl) dX14_readValue_74 (by decide) (fun c => ?_) (fun c => ?_)
      · have h := hT c
        refine z_aload_n hC (pc := 82) 1 dX14_readValue_82 rfl rfl ?_
        refine z_ldcSw hC (pc := 83) dX14_readValue_83 zS_26 ?_
        obtain ⟨p13, h⟩ := h
        refine y_callVi hC (pc := 86) (As := [.ref (G.2.2 53)]) (kX14_isFileWord_f l G κ s1 (G.2.2 53) 4 Ws1 (rSt_26 G) p13) dmX14_isFileWord zf14 rOb_0 dX14_readValue_86 zw3005 rfl rfl (Nat.le_of_ble_eq_true rfl) (Nat.le_of_ble_eq_true rfl) (Nat.le_of_ble_eq_true rfl) (Nat.le_of_ble_eq_true rfl) (Nat.le_of_ble_eq_true rfl) (kk := fun v86 s86 hv86 Ws86 qs86 => ?_)
        obtain ⟨es86, qs86⟩ := qs86
        have es86 := es86.symm
        subst es86
        have h := h v86 hv86 qs86
        obtain ⟨hT, hF⟩ := h
        refine y_if_ne hC (pc := 89) 102 hv86 dX14_readValue_89 (by decide) (fun c => ?_) (fun c => ?_)
        · have h := hT c
          refine z_aload_n hC (pc := 102) 1 dX14_readValue_102 rfl rfl ?_
          refine z_aload_n hC (pc := 103) 1 dX14_readValue_103 rfl rfl ?_
          refine z_ldcSw hC (pc := 104) dX14_readValue_104 zS_26 ?_
          obtain ⟨p14, h⟩ := h
          refine y_callVi hC (pc := 107) (As := [.ref (G.2.2 53)]) (kX14_isFileWord_f l G κ s1 (G.2.2 53) 4 Ws1 (rSt_26 G) p14) dmX14_isFileWord zf14 rOb_0 dX14_readValue_107 zw3005 rfl rfl (Nat.le_of_ble_eq_true rfl) (Nat.le_of_ble_eq_true rfl) (Nat.le_of_ble_eq_true rfl) (Nat.le_of_ble_eq_true rfl) (Nat.le_of_ble_eq_true rfl) (kk := fun v107 s107 hv107 Ws107 qs107 => ?_)
          obtain ⟨es107, qs107⟩ := qs107
          have es107 := es107.symm
          subst es107
          have h := h v107 hv107 qs107
          obtain ⟨hT, hF⟩ := h
          refine y_if_eq hC (pc := 110) 118 hv107 dX14_readValue_110 (by decide) (fun c => ?_) (fun c => ?_)
          · have h := hT c
            refine z_bipush hC (pc := 118) (v := Int32.ofInt 32) dX14_readValue_118 (by decide) ?_
            refine z_iconst hC (pc := 120) (v := Int32.ofInt 0) dX14_readValue_120 (by decide) ?_
            refine z_iconst hC (pc := 121) (v := Int32.ofInt 0) dX14_readValue_121 (by decide) ?_
            refine z_iload_n hC (pc := 122) 0 dX14_readValue_122 rfl rfl ?_
            obtain ⟨p15, h⟩ := h
            refine y_callVi hC (pc := 123) (As := [iv 32, iv 0, iv 0, iv (rF s1 0 17)]) (kX14_node_t l G κ s1 32 0 0 (rF s1 0 17) gg Ws1 (r_lit rfl) (r_lit rfl) (r_lit rfl) (Ws1.f _ _) p15) dmX14_node zf14 rOb_0 dX14_readValue_123 zw3170 rfl rfl (Nat.le_of_ble_eq_true rfl) (Nat.le_of_ble_eq_true rfl) (Nat.le_of_ble_eq_true rfl) (Nat.le_of_ble_eq_true rfl) (Nat.le_of_ble_eq_true rfl) (kk := fun v123 s123 hv123 Ws123 qs123 => ?_)
            have h := h v123 s123 hv123 Ws123 (rNMp.keep qs123.1 rfl rfl rfl rfl rfl) (qs123.1.R rfl) (qs123.1.R rfl) (qs123.1.F rfl) (qs123.1.F rfl) (qs123.1.F rfl) (qs123.1.F rfl) (qs123.1.F rfl) (qs123.1.F rfl) (qs123.1.F rfl) (qs123.1.F rfl) (qs123.1.F rfl) (qs123.1.F rfl) (qs123.1.F rfl) (qs123.1.F rfl) (qs123.1.F rfl) (qs123.1.F rfl) (qs123.1.F rfl) (qs123.1.F rfl) (fun i => qs123.1.A (f := 27) (by decide) rfl) (fun i => qs123.1.A (f := 34) (by decide) rfl) (fun i => qs123.1.A (f := 35) (by decide) rfl) (fun i => qs123.1.A (f := 40) (by decide) rfl) (qs123.1.FG g0 rfl) (qs123.1.FG g0 rfl) (qs123.1.FG g0 rfl) (qs123.1.FG g0 rfl) (fun i => qs123.1.AG (f := 10) g0 (by decide) rfl) (fun i => qs123.1.AG (f := 11) g0 (by decide) rfl) (fun _ _ hp => qs123.1.FL hp) (fz_keep qs123.1 rfl) qs123.2
            refine z_istore_n hC (pc := 126) (lv' := [(3, iv v123), (2, iv (rF s1 0 17)), (0, .ref (κ 0)), (1, iv x1)]) dX14_readValue_126 rfl (by decide) rfl ?_
            refine z_aload_n hC (pc := 127) 2 dX14_readValue_127 rfl rfl ?_
            refine z_aload_n hC (pc := 128) 2 dX14_readValue_128 rfl rfl ?_
            obtain ⟨g16, h⟩ := h
            refine y_get hC (pc := 129) zf14 rOb_0 15 (v := .ref (κ (rR σ 15))) dX14_readValue_129 zw2482 (rv_b rfl ((qs123.1.R rfl).trans ((qs1.1.R rfl).trans rfl)) g16) (kk := ?_)
            refine z_aload_n hC (pc := 132) 2 dX14_readValue_132 rfl rfl ?_
            refine y_get hC (pc := 133) zf14 rOb_0 16 (v := iv (rF s123 0 16)) dX14_readValue_133 zw2483 (rv_i (Or.inl rfl) rfl) (kk := ?_)
            have h := h (Ws123.f _ _)
            refine z_aload_n hC (pc := 136) 2 dX14_readValue_136 rfl rfl ?_
            refine y_get hC (pc := 137) zf14 rOb_0 17 (v := iv (rF s1 0 17)) dX14_readValue_137 zw2484 (rv_i (Or.inl rfl) ((qs123.1.F rfl).trans rfl)) (kk := ?_)
            obtain ⟨p17, h⟩ := h
            refine y_callSi hC (pc := 140) (As := [.ref (κ (rR σ 15)), iv (rF s123 0 16), iv (rF s1 0 17)]) (kX14_wordEnd_t l G κ s123 (rR σ 15) 4000 (rF s123 0 16) (rF s1 0 17) Ws123 (rAr_f g16) (Ws123.f _ _) (Ws1.f _ _) p17) dmX14_wordEnd dX14_readValue_140 zw3009 rfl rfl (Nat.le_of_ble_eq_true rfl) (Nat.le_of_ble_eq_true rfl) (Nat.le_of_ble_eq_true rfl) (Nat.le_of_ble_eq_true rfl) (Nat.le_of_ble_eq_true rfl) (kk := fun v140 s140 hv140 Ws140 qs140 => ?_)
            obtain ⟨es140, qs140⟩ := qs140
            have es140 := es140.symm
            subst es140
            have h := h v140 hv140 qs140
            refine y_putI hC (pc := 143) zf14 rOb_0 17 (x := v140) dX14_readValue_143 zw2484 (Or.inl rfl) rfl rfl (kk := ?_)
            have W18 := Ws123.sF (q := 0) (f := 17) (x := v140) hv140
            refine z_iload_n hC (pc := 146) 0 dX14_readValue_146 rfl rfl ?_
            exact y_reti hR dX14_readValue_147 rfl hv123 W18 (Nat.le_of_ble_eq_true rfl) (Nat.le_of_ble_eq_true rfl) ⟨(rKeep.tr (rKeep.tr (rKeep.tr rKeep.rf qs1.1 rfl rfl rfl rfl rfl) qs123.1 rfl rfl rfl rfl rfl) (rKeep.sF0 (f := 17)) rfl rfl rfl rfl rfl), h⟩
          · have h := hF c
            refine z_bipush hC (pc := 113) (v := Int32.ofInt 31) dX14_readValue_113 (by decide) ?_
            refine z_goto hC (pc := 115) 120 dX14_readValue_115 (by decide) ?_
            refine z_iconst hC (pc := 120) (v := Int32.ofInt 0) dX14_readValue_120 (by decide) ?_
            refine z_iconst hC (pc := 121) (v := Int32.ofInt 0) dX14_readValue_121 (by decide) ?_
            refine z_iload_n hC (pc := 122) 0 dX14_readValue_122 rfl rfl ?_
            obtain ⟨p19, h⟩ := h
            refine y_callVi hC (pc := 123) (As := [iv 31, iv 0, iv 0, iv (rF s1 0 17)]) (kX14_node_t l G κ s1 31 0 0 (rF s1 0 17) gg Ws1 (r_lit rfl) (r_lit rfl) (r_lit rfl) (Ws1.f _ _) p19) dmX14_node zf14 rOb_0 dX14_readValue_123 zw3170 rfl rfl (Nat.le_of_ble_eq_true rfl) (Nat.le_of_ble_eq_true rfl) (Nat.le_of_ble_eq_true rfl) (Nat.le_of_ble_eq_true rfl) (Nat.le_of_ble_eq_true rfl) (kk := fun v123 s123 hv123 Ws123 qs123 => ?_)
            have h := h v123 s123 hv123 Ws123 (rNMp.keep qs123.1 rfl rfl rfl rfl rfl) (qs123.1.R rfl) (qs123.1.R rfl) (qs123.1.F rfl) (qs123.1.F rfl) (qs123.1.F rfl) (qs123.1.F rfl) (qs123.1.F rfl) (qs123.1.F rfl) (qs123.1.F rfl) (qs123.1.F rfl) (qs123.1.F rfl) (qs123.1.F rfl) (qs123.1.F rfl) (qs123.1.F rfl) (qs123.1.F rfl) (qs123.1.F rfl) (qs123.1.F rfl) (qs123.1.F rfl) (fun i => qs123.1.A (f := 27) (by decide) rfl) (fun i => qs123.1.A (f := 34) (by decide) rfl) (fun i => qs123.1.A (f := 35) (by decide) rfl) (fun i => qs123.1.A (f := 40) (by decide) rfl) (qs123.1.FG g0 rfl) (qs123.1.FG g0 rfl) (qs123.1.FG g0 rfl) (qs123.1.FG g0 rfl) (fun i => qs123.1.AG (f := 10) g0 (by decide) rfl) (fun i => qs123.1.AG (f := 11) g0 (by decide) rfl) (fun _ _ hp => qs123.1.FL hp) (fz_keep qs123.1 rfl) qs123.2
            refine z_istore_n hC (pc := 126) (lv' := [(3, iv v123), (2, iv (rF s1 0 17)), (0, .ref (κ 0)), (1, iv x1)]) dX14_readValue_126 rfl (by decide) rfl ?_
            refine z_aload_n hC (pc := 127) 2 dX14_readValue_127 rfl rfl ?_
            refine z_aload_n hC (pc := 128) 2 dX14_readValue_128 rfl rfl ?_
            obtain ⟨g20, h⟩ := h
            refine y_get hC (pc := 129) zf14 rOb_0 15 (v := .ref (κ (rR σ 15))) dX14_readValue_129 zw2482 (rv_b rfl ((qs123.1.R rfl).trans ((qs1.1.R rfl).trans rfl)) g20) (kk := ?_)
            refine z_aload_n hC (pc := 132) 2 dX14_readValue_132 rfl rfl ?_
            refine y_get hC (pc := 133) zf14 rOb_0 16 (v := iv (rF s123 0 16)) dX14_readValue_133 zw2483 (rv_i (Or.inl rfl) rfl) (kk := ?_)
            have h := h (Ws123.f _ _)
            refine z_aload_n hC (pc := 136) 2 dX14_readValue_136 rfl rfl ?_
            refine y_get hC (pc := 137) zf14 rOb_0 17 (v := iv (rF s1 0 17)) dX14_readValue_137 zw2484 (rv_i (Or.inl rfl) ((qs123.1.F rfl).trans rfl)) (kk := ?_)
            obtain ⟨p21, h⟩ := h
            refine y_callSi hC (pc := 140) (As := [.ref (κ (rR σ 15)), iv (rF s123 0 16), iv (rF s1 0 17)]) (kX14_wordEnd_t l G κ s123 (rR σ 15) 4000 (rF s123 0 16) (rF s1 0 17) Ws123 (rAr_f g20) (Ws123.f _ _) (Ws1.f _ _) p21) dmX14_wordEnd dX14_readValue_140 zw3009 rfl rfl (Nat.le_of_ble_eq_true rfl) (Nat.le_of_ble_eq_true rfl) (Nat.le_of_ble_eq_true rfl) (Nat.le_of_ble_eq_true rfl) (Nat.le_of_ble_eq_true rfl) (kk := fun v140 s140 hv140 Ws140 qs140 => ?_)
            obtain ⟨es140, qs140⟩ := qs140
            have es140 := es140.symm
            subst es140
            have h := h v140 hv140 qs140
            refine y_putI hC (pc := 143) zf14 rOb_0 17 (x := v140) dX14_readValue_143 zw2484 (Or.inl rfl) rfl rfl (kk := ?_)
            have W22 := Ws123.sF (q := 0) (f := 17) (x := v140) hv140
            refine z_iload_n hC (pc := 146) 0 dX14_readValue_146 rfl rfl ?_
            exact y_reti hR dX14_readValue_147 rfl hv123 W22 (Nat.le_of_ble_eq_true rfl) (Nat.le_of_ble_eq_true rfl) ⟨(rKeep.tr (rKeep.tr (rKeep.tr rKeep.rf qs1.1 rfl rfl rfl rfl rfl) qs123.1 rfl rfl rfl rfl rfl) (rKeep.sF0 (f := 17)) rfl rfl rfl rfl rfl), h⟩
        · have h := hF c
          refine z_aload_n hC (pc := 92) 1 dX14_readValue_92 rfl rfl ?_
          refine z_ldcSw hC (pc := 93) dX14_readValue_93 zS_27 ?_
          obtain ⟨p23, h⟩ := h
          refine y_callVi hC (pc := 96) (As := [.ref (G.2.2 55)]) (kX14_isFileWord_f l G κ s1 (G.2.2 55) 5 Ws1 (rSt_27 G) p23) dmX14_isFileWord zf14 rOb_0 dX14_readValue_96 zw3005 rfl rfl (Nat.le_of_ble_eq_true rfl) (Nat.le_of_ble_eq_true rfl) (Nat.le_of_ble_eq_true rfl) (Nat.le_of_ble_eq_true rfl) (Nat.le_of_ble_eq_true rfl) (kk := fun v96 s96 hv96 Ws96 qs96 => ?_)
          obtain ⟨es96, qs96⟩ := qs96
          have es96 := es96.symm
          subst es96
          have h := h v96 hv96 qs96
          obtain ⟨hT, hF⟩ := h
          refine y_if_eq hC (pc := 99) 148 hv96 dX14_readValue_99 (by decide) (fun c => ?_) (fun c => ?_)
          · have h := hT c
            refine z_iload_n hC (pc := 148) 2 dX14_readValue_148 rfl rfl ?_
            obtain ⟨hT, hF⟩ := h
            refine y_if_eq hC (pc := 149) 182 hx1 dX14_readValue_149 (by decide) (fun c => ?_) (fun c => ?_)
            · have h := hT c
              refine z_iload_n hC (pc := 182) 2 dX14_readValue_182 rfl rfl ?_
              obtain ⟨hT, hF⟩ := h
              refine y_if_ne hC (pc := 183) 226 hx1 dX14_readValue_183 (by decide) (fun c => ?_) (fun c => ?_)
              · have h := hT c
                refine z_aload_n hC (pc := 226) 1 dX14_readValue_226 rfl rfl ?_
                refine z_iconst hC (pc := 227) (v := Int32.ofInt 1) dX14_readValue_227 (by decide) ?_
                refine z_aload_n hC (pc := 228) 1 dX14_readValue_228 rfl rfl ?_
                refine y_get hC (pc := 229) zf14 rOb_0 17 (v := iv (rF s1 0 17)) dX14_readValue_229 zw2484 (rv_i (Or.inl rfl) rfl) (kk := ?_)
                obtain ⟨p24, h⟩ := h
                refine y_callVv hC (pc := 232) (As := [iv 1, iv (rF s1 0 17)]) (kX14_bad l G κ s1 1 (rF s1 0 17) Ws1 (r_lit rfl) (Ws1.f _ _) p24) dmX14_bad zf14 rOb_0 dX14_readValue_232 zw3000 rfl rfl (Nat.le_of_ble_eq_true rfl) (Nat.le_of_ble_eq_true rfl) (Nat.le_of_ble_eq_true rfl) (Nat.le_of_ble_eq_true rfl) (Nat.le_of_ble_eq_true rfl) (kk := fun s232 Ws232 qs232 => ?_)
                have h := h s232 Ws232 (rNMp.keep qs232.1 rfl rfl rfl rfl rfl) (PNp.keep qs232.1 rfl rfl rfl rfl rfl) (qs232.1.R rfl) (qs232.1.R rfl) (qs232.1.F rfl) (qs232.1.F rfl) (qs232.1.F rfl) (qs232.1.F rfl) (qs232.1.F rfl) (qs232.1.F rfl) (qs232.1.F rfl) (qs232.1.F rfl) (qs232.1.F rfl) (qs232.1.F rfl) (qs232.1.F rfl) (qs232.1.F rfl) (qs232.1.F rfl) (qs232.1.F rfl) (qs232.1.F rfl) (fun i => qs232.1.A (f := 27) (by decide) rfl) (fun i => qs232.1.A (f := 34) (by decide) rfl) (fun i => qs232.1.A (f := 35) (by decide) rfl) (fun i => qs232.1.A (f := 40) (by decide) rfl) (qs232.1.FG g0 rfl) (qs232.1.FG g0 rfl) (qs232.1.FG g0 rfl) (qs232.1.FG g0 rfl) (qs232.1.FG g0 rfl) (fun i => qs232.1.AG (f := 10) g0 (by decide) rfl) (fun i => qs232.1.AG (f := 11) g0 (by decide) rfl) (fun _ _ hp => qs232.1.FL hp) (RG.keep (c0 := 0) qs232.1 rfl rfl rfl rfl rfl rfl rfl rfl rfl rfl rfl rfl rfl rfl rfl rfl rfl rfl) qs232.2
                refine z_iconst hC (pc := 235) (v := Int32.ofInt 0) dX14_readValue_235 (by decide) ?_
                exact y_reti hR dX14_readValue_236 rfl (r_lit rfl) Ws232 (Nat.le_of_ble_eq_true rfl) (Nat.le_of_ble_eq_true rfl) ⟨(rKeep.tr (rKeep.tr rKeep.rf qs1.1 rfl rfl rfl rfl rfl) qs232.1 rfl rfl rfl rfl rfl), h⟩
              · have h := hF c
                refine z_aload_n hC (pc := 186) 1 dX14_readValue_186 rfl rfl ?_
                refine z_aload_n hC (pc := 187) 1 dX14_readValue_187 rfl rfl ?_
                refine y_get hC (pc := 188) zf14 rOb_0 17 (v := iv (rF s1 0 17)) dX14_readValue_188 zw2484 (rv_i (Or.inl rfl) rfl) (kk := ?_)
                obtain ⟨p25, h⟩ := h
                refine y_callVi hC (pc := 191) (As := [iv (rF s1 0 17)]) (kX14_fc l G κ s1 (rF s1 0 17) Ws1 (Ws1.f _ _) p25) dmX14_fc zf14 rOb_0 dX14_readValue_191 zw2993 rfl rfl (Nat.le_of_ble_eq_true rfl) (Nat.le_of_ble_eq_true rfl) (Nat.le_of_ble_eq_true rfl) (Nat.le_of_ble_eq_true rfl) (Nat.le_of_ble_eq_true rfl) (kk := fun v191 s191 hv191 Ws191 qs191 => ?_)
                obtain ⟨es191, qs191⟩ := qs191
                have es191 := es191.symm
                subst es191
                have h := h v191 hv191 qs191
                refine z_bipush hC (pc := 194) (v := Int32.ofInt 91) dX14_readValue_194 (by decide) ?_
                obtain ⟨hT, hF⟩ := h
                refine y_icmp_ne hC (pc := 196) 226 hv191 (r_lit rfl) dX14_readValue_196 (by decide) (fun c => ?_) (fun c => ?_)
                · have h := hT c
                  refine z_aload_n hC (pc := 226) 1 dX14_readValue_226 rfl rfl ?_
                  refine z_iconst hC (pc := 227) (v := Int32.ofInt 1) dX14_readValue_227 (by decide) ?_
                  refine z_aload_n hC (pc := 228) 1 dX14_readValue_228 rfl rfl ?_
                  refine y_get hC (pc := 229) zf14 rOb_0 17 (v := iv (rF s1 0 17)) dX14_readValue_229 zw2484 (rv_i (Or.inl rfl) rfl) (kk := ?_)
                  obtain ⟨p26, h⟩ := h
                  refine y_callVv hC (pc := 232) (As := [iv 1, iv (rF s1 0 17)]) (kX14_bad l G κ s1 1 (rF s1 0 17) Ws1 (r_lit rfl) (Ws1.f _ _) p26) dmX14_bad zf14 rOb_0 dX14_readValue_232 zw3000 rfl rfl (Nat.le_of_ble_eq_true rfl) (Nat.le_of_ble_eq_true rfl) (Nat.le_of_ble_eq_true rfl) (Nat.le_of_ble_eq_true rfl) (Nat.le_of_ble_eq_true rfl) (kk := fun s232 Ws232 qs232 => ?_)
                  have h := h s232 Ws232 (rNMp.keep qs232.1 rfl rfl rfl rfl rfl) (PNp.keep qs232.1 rfl rfl rfl rfl rfl) (qs232.1.R rfl) (qs232.1.R rfl) (qs232.1.F rfl) (qs232.1.F rfl) (qs232.1.F rfl) (qs232.1.F rfl) (qs232.1.F rfl) (qs232.1.F rfl) (qs232.1.F rfl) (qs232.1.F rfl) (qs232.1.F rfl) (qs232.1.F rfl) (qs232.1.F rfl) (qs232.1.F rfl) (qs232.1.F rfl) (qs232.1.F rfl) (qs232.1.F rfl) (fun i => qs232.1.A (f := 27) (by decide) rfl) (fun i => qs232.1.A (f := 34) (by decide) rfl) (fun i => qs232.1.A (f := 35) (by decide) rfl) (fun i => qs232.1.A (f := 40) (by decide) rfl) (qs232.1.FG g0 rfl) (qs232.1.FG g0 rfl) (qs232.1.FG g0 rfl) (qs232.1.FG g0 rfl) (qs232.1.FG g0 rfl) (fun i => qs232.1.AG (f := 10) g0 (by decide) rfl) (fun i => qs232.1.AG (f := 11) g0 (by decide) rfl) (fun _ _ hp => qs232.1.FL hp) (RG.keep (c0 := 0) qs232.1 rfl rfl rfl rfl rfl rfl rfl rfl rfl rfl rfl rfl rfl rfl rfl rfl rfl rfl) qs232.2
                  refine z_iconst hC (pc := 235) (v := Int32.ofInt 0) dX14_readValue_235 (by decide) ?_
                  exact y_reti hR dX14_readValue_236 rfl (r_lit rfl) Ws232 (Nat.le_of_ble_eq_true rfl) (Nat.le_of_ble_eq_true rfl) ⟨(rKeep.tr (rKeep.tr rKeep.rf qs1.1 rfl rfl rfl rfl rfl) qs232.1 rfl rfl rfl rfl rfl), h⟩
                · have h := hF c
                  refine z_aload_n hC (pc := 199) 1 dX14_readValue_199 rfl rfl ?_
                  refine z_dup hC (pc := 200) dX14_readValue_200 rfl ?_
                  refine y_get hC (pc := 201) zf14 rOb_0 17 (v := iv (rF s1 0 17)) dX14_readValue_201 zw2484 (rv_i (Or.inl rfl) rfl) (kk := ?_)
                  refine z_iconst hC (pc := 204) (v := Int32.ofInt 1) dX14_readValue_204 (by decide) ?_
                  refine y_iadd hC (pc := 205) (v := ((rF s1 0 17) + 1)) dX14_readValue_205 rfl ?_
                  obtain ⟨r27, h⟩ := h
                  refine y_putI hC (pc := 206) zf14 rOb_0 17 (x := ((rF s1 0 17) + 1)) dX14_readValue_206 zw2484 (Or.inl rfl) rfl rfl (kk := ?_)
                  have W28 := Ws1.sF (q := 0) (f := 17) (x := ((rF s1 0 17) + 1)) r27
                  refine z_aload_n hC (pc := 209) 1 dX14_readValue_209 rfl rfl ?_
                  refine z_ldcSw hC (pc := 210) dX14_readValue_210 zS_35 ?_
                  obtain ⟨p29, h⟩ := h
                  refine y_callVv hC (pc := 213) (As := [.ref (G.2.2 71)]) (kX14_sign l G κ (sF s1 0 17 ((rF s1 0 17) + 1)) (G.2.2 71) 1 W28 (rSt_35 G) p29) dmX14_sign zf14 rOb_0 dX14_readValue_213 zw3034 rfl rfl (Nat.le_of_ble_eq_true rfl) (Nat.le_of_ble_eq_true rfl) (Nat.le_of_ble_eq_true rfl) (Nat.le_of_ble_eq_true rfl) (Nat.le_of_ble_eq_true rfl) (kk := fun s213 Ws213 qs213 => ?_)
                  have h := h s213 Ws213 (rNMp.keep qs213.1 rfl rfl rfl rfl rfl) (PNp.keep qs213.1 rfl rfl rfl rfl rfl) (qs213.1.R rfl) (qs213.1.R rfl) (qs213.1.F rfl) (qs213.1.F rfl) (qs213.1.F rfl) (qs213.1.F rfl) (qs213.1.F rfl) (qs213.1.F rfl) (qs213.1.F rfl) (qs213.1.F rfl) (qs213.1.F rfl) (qs213.1.F rfl) (qs213.1.F rfl) (qs213.1.F rfl) (qs213.1.F rfl) (qs213.1.F rfl) (fun i => qs213.1.A (f := 27) (by decide) rfl) (fun i => qs213.1.A (f := 34) (by decide) rfl) (fun i => qs213.1.A (f := 35) (by decide) rfl) (fun i => qs213.1.A (f := 40) (by decide) rfl) (qs213.1.FG g0 rfl) (qs213.1.FG g0 rfl) (qs213.1.FG g0 rfl) (qs213.1.FG g0 rfl) (qs213.1.FG g0 rfl) (fun i => qs213.1.AG (f := 10) g0 (by decide) rfl) (fun i => qs213.1.AG (f := 11) g0 (by decide) rfl) (fun _ _ hp => qs213.1.FL hp) (RG.keep (c0 := 0) qs213.1 rfl rfl rfl rfl rfl rfl rfl rfl rfl rfl rfl rfl rfl rfl rfl rfl rfl rfl) qs213.2
                  refine z_aload_n hC (pc := 216) 1 dX14_readValue_216 rfl rfl ?_
                  refine z_bipush hC (pc := 217) (v := Int32.ofInt 34) dX14_readValue_217 (by decide) ?_
                  refine z_iconst hC (pc := 219) (v := Int32.ofInt 0) dX14_readValue_219 (by decide) ?_
                  refine z_iconst hC (pc := 220) (v := Int32.ofInt 0) dX14_readValue_220 (by decide) ?_
                  refine z_iload_n hC (pc := 221) 0 dX14_readValue_221 rfl rfl ?_
                  obtain ⟨p30, h⟩ := h
                  refine y_callVi hC (pc := 222) (As := [iv 34, iv 0, iv 0, iv (rF s1 0 17)]) (kX14_node_t l G κ s213 34 0 0 (rF s1 0 17) gg Ws213 (r_lit rfl) (r_lit rfl) (r_lit rfl) (Ws1.f _ _) p30) dmX14_node zf14 rOb_0 dX14_readValue_222 zw3170 rfl rfl (Nat.le_of_ble_eq_true rfl) (Nat.le_of_ble_eq_true rfl) (Nat.le_of_ble_eq_true rfl) (Nat.le_of_ble_eq_true rfl) (Nat.le_of_ble_eq_true rfl) (kk := fun v222 s222 hv222 Ws222 qs222 => ?_)
                  have h := h v222 s222 hv222 Ws222 (rNMp.keep qs222.1 rfl rfl rfl rfl rfl) (qs222.1.R rfl) (qs222.1.R rfl) (qs222.1.F rfl) (qs222.1.F rfl) (qs222.1.F rfl) (qs222.1.F rfl) (qs222.1.F rfl) (qs222.1.F rfl) (qs222.1.F rfl) (qs222.1.F rfl) (qs222.1.F rfl) (qs222.1.F rfl) (qs222.1.F rfl) (qs222.1.F rfl) (qs222.1.F rfl) (qs222.1.F rfl) (qs222.1.F rfl) (qs222.1.F rfl) (fun i => qs222.1.A (f := 27) (by decide) rfl) (fun i => qs222.1.A (f := 34) (by decide) rfl) (fun i => qs222.1.A (f := 35) (by decide) rfl) (fun i => qs222.1.A (f := 40) (by decide) rfl) (qs222.1.FG g0 rfl) (qs222.1.FG g0 rfl) (qs222.1.FG g0 rfl) (qs222.1.FG g0 rfl) (fun i => qs222.1.AG (f := 10) g0 (by decide) rfl) (fun i => qs222.1.AG (f := 11) g0 (by decide) rfl) (fun _ _ hp => qs222.1.FL hp) (fz_keep qs222.1 rfl) qs222.2
                  exact y_reti hR dX14_readValue_225 rfl hv222 Ws222 (Nat.le_of_ble_eq_true rfl) (Nat.le_of_ble_eq_true rfl) ⟨(rKeep.tr (rKeep.tr (rKeep.tr (rKeep.tr rKeep.rf qs1.1 rfl rfl rfl rfl rfl) (rKeep.sF0 (f := 17)) rfl rfl rfl rfl rfl) qs213.1 rfl rfl rfl rfl rfl) qs222.1 rfl rfl rfl rfl rfl), h⟩
            · have h := hF c
              refine z_aload_n hC (pc := 152) 1 dX14_readValue_152 rfl rfl ?_
              refine z_ldcSw hC (pc := 153) dX14_readValue_153 zS_25 ?_
              obtain ⟨p31, h⟩ := h
              refine y_callVi hC (pc := 156) (As := [.ref (G.2.2 51)]) (kX14_isFileWord_f l G κ s1 (G.2.2 51) 3 Ws1 (rSt_25 G) p31) dmX14_isFileWord zf14 rOb_0 dX14_readValue_156 zw3005 rfl rfl (Nat.le_of_ble_eq_true rfl) (Nat.le_of_ble_eq_true rfl) (Nat.le_of_ble_eq_true rfl) (Nat.le_of_ble_eq_true rfl) (Nat.le_of_ble_eq_true rfl) (kk := fun v156 s156 hv156 Ws156 qs156 => ?_)
              obtain ⟨es156, qs156⟩ := qs156
              have es156 := es156.symm
              subst es156
              have h := h v156 hv156 qs156
              obtain ⟨hT, hF⟩ := h
              refine y_if_eq hC (pc := 159) 182 hv156 dX14_readValue_159 (by decide) (fun c => ?_) (fun c => ?_)
              · have h := hT c
                refine z_iload_n hC (pc := 182) 2 dX14_readValue_182 rfl rfl ?_
                obtain ⟨hT, hF⟩ := h
                refine y_if_ne hC (pc := 183) 226 hx1 dX14_readValue_183 (by decide) (fun c => ?_) (fun c => ?_)
                · have h := hT c
                  refine z_aload_n hC (pc := 226) 1 dX14_readValue_226 rfl rfl ?_
                  refine z_iconst hC (pc := 227) (v := Int32.ofInt 1) dX14_readValue_227 (by decide) ?_
                  refine z_aload_n hC (pc := 228) 1 dX14_readValue_228 rfl rfl ?_
                  refine y_get hC (pc := 229) zf14 rOb_0 17 (v := iv (rF s1 0 17)) dX14_readValue_229 zw2484 (rv_i (Or.inl rfl) rfl) (kk := ?_)
                  obtain ⟨p32, h⟩ := h
                  refine y_callVv hC (pc := 232) (As := [iv 1, iv (rF s1 0 17)]) (kX14_bad l G κ s1 1 (rF s1 0 17) Ws1 (r_lit rfl) (Ws1.f _ _) p32) dmX14_bad zf14 rOb_0 dX14_readValue_232 zw3000 rfl rfl (Nat.le_of_ble_eq_true rfl) (Nat.le_of_ble_eq_true rfl) (Nat.le_of_ble_eq_true rfl) (Nat.le_of_ble_eq_true rfl) (Nat.le_of_ble_eq_true rfl) (kk := fun s232 Ws232 qs232 => ?_)
                  have h := h s232 Ws232 (rNMp.keep qs232.1 rfl rfl rfl rfl rfl) (PNp.keep qs232.1 rfl rfl rfl rfl rfl) (qs232.1.R rfl) (qs232.1.R rfl) (qs232.1.F rfl) (qs232.1.F rfl) (qs232.1.F rfl) (qs232.1.F rfl) (qs232.1.F rfl) (qs232.1.F rfl) (qs232.1.F rfl) (qs232.1.F rfl) (qs232.1.F rfl) (qs232.1.F rfl) (qs232.1.F rfl) (qs232.1.F rfl) (qs232.1.F rfl) (qs232.1.F rfl) (qs232.1.F rfl) (fun i => qs232.1.A (f := 27) (by decide) rfl) (fun i => qs232.1.A (f := 34) (by decide) rfl) (fun i => qs232.1.A (f := 35) (by decide) rfl) (fun i => qs232.1.A (f := 40) (by decide) rfl) (qs232.1.FG g0 rfl) (qs232.1.FG g0 rfl) (qs232.1.FG g0 rfl) (qs232.1.FG g0 rfl) (qs232.1.FG g0 rfl) (fun i => qs232.1.AG (f := 10) g0 (by decide) rfl) (fun i => qs232.1.AG (f := 11) g0 (by decide) rfl) (fun _ _ hp => qs232.1.FL hp) (RG.keep (c0 := 0) qs232.1 rfl rfl rfl rfl rfl rfl rfl rfl rfl rfl rfl rfl rfl rfl rfl rfl rfl rfl) qs232.2
                  refine z_iconst hC (pc := 235) (v := Int32.ofInt 0) dX14_readValue_235 (by decide) ?_
                  exact y_reti hR dX14_readValue_236 rfl (r_lit rfl) Ws232 (Nat.le_of_ble_eq_true rfl) (Nat.le_of_ble_eq_true rfl) ⟨(rKeep.tr (rKeep.tr rKeep.rf qs1.1 rfl rfl rfl rfl rfl) qs232.1 rfl rfl rfl rfl rfl), h⟩
                · have h := hF c
                  refine z_aload_n hC (pc := 186) 1 dX14_readValue_186 rfl rfl ?_
                  refine z_aload_n hC (pc := 187) 1 dX14_readValue_187 rfl rfl ?_
                  refine y_get hC (pc := 188) zf14 rOb_0 17 (v := iv (rF s1 0 17)) dX14_readValue_188 zw2484 (rv_i (Or.inl rfl) rfl) (kk := ?_)
                  obtain ⟨p33, h⟩ := h
                  refine y_callVi hC (pc := 191) (As := [iv (rF s1 0 17)]) (kX14_fc l G κ s1 (rF s1 0 17) Ws1 (Ws1.f _ _) p33) dmX14_fc zf14 rOb_0 dX14_readValue_191 zw2993 rfl rfl (Nat.le_of_ble_eq_true rfl) (Nat.le_of_ble_eq_true rfl) (Nat.le_of_ble_eq_true rfl) (Nat.le_of_ble_eq_true rfl) (Nat.le_of_ble_eq_true rfl) (kk := fun v191 s191 hv191 Ws191 qs191 => ?_)
                  obtain ⟨es191, qs191⟩ := qs191
                  have es191 := es191.symm
                  subst es191
                  have h := h v191 hv191 qs191
                  refine z_bipush hC (pc := 194) (v := Int32.ofInt 91) dX14_readValue_194 (by decide) ?_
                  obtain ⟨hT, hF⟩ := h
                  refine y_icmp_ne hC (pc := 196) 226 hv191 (r_lit rfl) dX14_readValue_196 (by decide) (fun c => ?_) (fun c => ?_)
                  · have h := hT c
                    refine z_aload_n hC (pc := 226) 1 dX14_readValue_226 rfl rfl ?_
                    refine z_iconst hC (pc := 227) (v := Int32.ofInt 1) dX14_readValue_227 (by decide) ?_
                    refine z_aload_n hC (pc := 228) 1 dX14_readValue_228 rfl rfl ?_
                    refine y_get hC (pc := 229) zf14 rOb_0 17 (v := iv (rF s1 0 17)) dX14_readValue_229 zw2484 (rv_i (Or.inl rfl) rfl) (kk := ?_)
                    obtain ⟨p34, h⟩ := h
                    refine y_callVv hC (pc := 232) (As := [iv 1, iv (rF s1 0 17)]) (kX14_bad l G κ s1 1 (rF s1 0 17) Ws1 (r_lit rfl) (Ws1.f _ _) p34) dmX14_bad zf14 rOb_0 dX14_readValue_232 zw3000 rfl rfl (Nat.le_of_ble_eq_true rfl) (Nat.le_of_ble_eq_true rfl) (Nat.le_of_ble_eq_true rfl) (Nat.le_of_ble_eq_true rfl) (Nat.le_of_ble_eq_true rfl) (kk := fun s232 Ws232 qs232 => ?_)
                    have h := h s232 Ws232 (rNMp.keep qs232.1 rfl rfl rfl rfl rfl) (PNp.keep qs232.1 rfl rfl rfl rfl rfl) (qs232.1.R rfl) (qs232.1.R rfl) (qs232.1.F rfl) (qs232.1.F rfl) (qs232.1.F rfl) (qs232.1.F rfl) (qs232.1.F rfl) (qs232.1.F rfl) (qs232.1.F rfl) (qs232.1.F rfl) (qs232.1.F rfl) (qs232.1.F rfl) (qs232.1.F rfl) (qs232.1.F rfl) (qs232.1.F rfl) (qs232.1.F rfl) (qs232.1.F rfl) (fun i => qs232.1.A (f := 27) (by decide) rfl) (fun i => qs232.1.A (f := 34) (by decide) rfl) (fun i => qs232.1.A (f := 35) (by decide) rfl) (fun i => qs232.1.A (f := 40) (by decide) rfl) (qs232.1.FG g0 rfl) (qs232.1.FG g0 rfl) (qs232.1.FG g0 rfl) (qs232.1.FG g0 rfl) (qs232.1.FG g0 rfl) (fun i => qs232.1.AG (f := 10) g0 (by decide) rfl) (fun i => qs232.1.AG (f := 11) g0 (by decide) rfl) (fun _ _ hp => qs232.1.FL hp) (RG.keep (c0 := 0) qs232.1 rfl rfl rfl rfl rfl rfl rfl rfl rfl rfl rfl rfl rfl rfl rfl rfl rfl rfl) qs232.2
                    refine z_iconst hC (pc := 235) (v := Int32.ofInt 0) dX14_readValue_235 (by decide) ?_
                    exact y_reti hR dX14_readValue_236 rfl (r_lit rfl) Ws232 (Nat.le_of_ble_eq_true rfl) (Nat.le_of_ble_eq_true rfl) ⟨(rKeep.tr (rKeep.tr rKeep.rf qs1.1 rfl rfl rfl rfl rfl) qs232.1 rfl rfl rfl rfl rfl), h⟩
                  · have h := hF c
                    refine z_aload_n hC (pc := 199) 1 dX14_readValue_199 rfl rfl ?_
                    refine z_dup hC (pc := 200) dX14_readValue_200 rfl ?_
                    refine y_get hC (pc := 201) zf14 rOb_0 17 (v := iv (rF s1 0 17)) dX14_readValue_201 zw2484 (rv_i (Or.inl rfl) rfl) (kk := ?_)
                    refine z_iconst hC (pc := 204) (v := Int32.ofInt 1) dX14_readValue_204 (by decide) ?_
                    refine y_iadd hC (pc := 205) (v := ((rF s1 0 17) + 1)) dX14_readValue_205 rfl ?_
                    obtain ⟨r35, h⟩ := h
                    refine y_putI hC (pc := 206) zf14 rOb_0 17 (x := ((rF s1 0 17) + 1)) dX14_readValue_206 zw2484 (Or.inl rfl) rfl rfl (kk := ?_)
                    have W36 := Ws1.sF (q := 0) (f := 17) (x := ((rF s1 0 17) + 1)) r35
                    refine z_aload_n hC (pc := 209) 1 dX14_readValue_209 rfl rfl ?_
                    refine z_ldcSw hC (pc := 210) dX14_readValue_210 zS_35 ?_
                    obtain ⟨p37, h⟩ := h
                    refine y_callVv hC (pc := 213) (As := [.ref (G.2.2 71)]) (kX14_sign l G κ (sF s1 0 17 ((rF s1 0 17) + 1)) (G.2.2 71) 1 W36 (rSt_35 G) p37) dmX14_sign zf14 rOb_0 dX14_readValue_213 zw3034 rfl rfl (Nat.le_of_ble_eq_true rfl) (Nat.le_of_ble_eq_true rfl) (Nat.le_of_ble_eq_true rfl) (Nat.le_of_ble_eq_true rfl) (Nat.le_of_ble_eq_true rfl) (kk := fun s213 Ws213 qs213 => ?_)
                    have h := h s213 Ws213 (rNMp.keep qs213.1 rfl rfl rfl rfl rfl) (PNp.keep qs213.1 rfl rfl rfl rfl rfl) (qs213.1.R rfl) (qs213.1.R rfl) (qs213.1.F rfl) (qs213.1.F rfl) (qs213.1.F rfl) (qs213.1.F rfl) (qs213.1.F rfl) (qs213.1.F rfl) (qs213.1.F rfl) (qs213.1.F rfl) (qs213.1.F rfl) (qs213.1.F rfl) (qs213.1.F rfl) (qs213.1.F rfl) (qs213.1.F rfl) (qs213.1.F rfl) (fun i => qs213.1.A (f := 27) (by decide) rfl) (fun i => qs213.1.A (f := 34) (by decide) rfl) (fun i => qs213.1.A (f := 35) (by decide) rfl) (fun i => qs213.1.A (f := 40) (by decide) rfl) (qs213.1.FG g0 rfl) (qs213.1.FG g0 rfl) (qs213.1.FG g0 rfl) (qs213.1.FG g0 rfl) (qs213.1.FG g0 rfl) (fun i => qs213.1.AG (f := 10) g0 (by decide) rfl) (fun i => qs213.1.AG (f := 11) g0 (by decide) rfl) (fun _ _ hp => qs213.1.FL hp) (RG.keep (c0 := 0) qs213.1 rfl rfl rfl rfl rfl rfl rfl rfl rfl rfl rfl rfl rfl rfl rfl rfl rfl rfl) qs213.2
                    refine z_aload_n hC (pc := 216) 1 dX14_readValue_216 rfl rfl ?_
                    refine z_bipush hC (pc := 217) (v := Int32.ofInt 34) dX14_readValue_217 (by decide) ?_
                    refine z_iconst hC (pc := 219) (v := Int32.ofInt 0) dX14_readValue_219 (by decide) ?_
                    refine z_iconst hC (pc := 220) (v := Int32.ofInt 0) dX14_readValue_220 (by decide) ?_
                    refine z_iload_n hC (pc := 221) 0 dX14_readValue_221 rfl rfl ?_
                    obtain ⟨p38, h⟩ := h
                    refine y_callVi hC (pc := 222) (As := [iv 34, iv 0, iv 0, iv (rF s1 0 17)]) (kX14_node_t l G κ s213 34 0 0 (rF s1 0 17) gg Ws213 (r_lit rfl) (r_lit rfl) (r_lit rfl) (Ws1.f _ _) p38) dmX14_node zf14 rOb_0 dX14_readValue_222 zw3170 rfl rfl (Nat.le_of_ble_eq_true rfl) (Nat.le_of_ble_eq_true rfl) (Nat.le_of_ble_eq_true rfl) (Nat.le_of_ble_eq_true rfl) (Nat.le_of_ble_eq_true rfl) (kk := fun v222 s222 hv222 Ws222 qs222 => ?_)
                    have h := h v222 s222 hv222 Ws222 (rNMp.keep qs222.1 rfl rfl rfl rfl rfl) (qs222.1.R rfl) (qs222.1.R rfl) (qs222.1.F rfl) (qs222.1.F rfl) (qs222.1.F rfl) (qs222.1.F rfl) (qs222.1.F rfl) (qs222.1.F rfl) (qs222.1.F rfl) (qs222.1.F rfl) (qs222.1.F rfl) (qs222.1.F rfl) (qs222.1.F rfl) (qs222.1.F rfl) (qs222.1.F rfl) (qs222.1.F rfl) (qs222.1.F rfl) (qs222.1.F rfl) (fun i => qs222.1.A (f := 27) (by decide) rfl) (fun i => qs222.1.A (f := 34) (by decide) rfl) (fun i => qs222.1.A (f := 35) (by decide) rfl) (fun i => qs222.1.A (f := 40) (by decide) rfl) (qs222.1.FG g0 rfl) (qs222.1.FG g0 rfl) (qs222.1.FG g0 rfl) (qs222.1.FG g0 rfl) (fun i => qs222.1.AG (f := 10) g0 (by decide) rfl) (fun i => qs222.1.AG (f := 11) g0 (by decide) rfl) (fun _ _ hp => qs222.1.FL hp) (fz_keep qs222.1 rfl) qs222.2
                    exact y_reti hR dX14_readValue_225 rfl hv222 Ws222 (Nat.le_of_ble_eq_true rfl) (Nat.le_of_ble_eq_true rfl) ⟨(rKeep.tr (rKeep.tr (rKeep.tr (rKeep.tr rKeep.rf qs1.1 rfl rfl rfl rfl rfl) (rKeep.sF0 (f := 17)) rfl rfl rfl rfl rfl) qs213.1 rfl rfl rfl rfl rfl) qs222.1 rfl rfl rfl rfl rfl), h⟩
              · have h := hF c
                refine z_aload_n hC (pc := 162) 1 dX14_readValue_162 rfl rfl ?_
                refine z_dup hC (pc := 163) dX14_readValue_163 rfl ?_
                refine y_get hC (pc := 164) zf14 rOb_0 17 (v := iv (rF s1 0 17)) dX14_readValue_164 zw2484 (rv_i (Or.inl rfl) rfl) (kk := ?_)
                refine z_iconst hC (pc := 167) (v := Int32.ofInt 3) dX14_readValue_167 (by decide) ?_
                refine y_iadd hC (pc := 168) (v := ((rF s1 0 17) + 3)) dX14_readValue_168 rfl ?_
                obtain ⟨r39, h⟩ := h
                refine y_putI hC (pc := 169) zf14 rOb_0 17 (x := ((rF s1 0 17) + 3)) dX14_readValue_169 zw2484 (Or.inl rfl) rfl rfl (kk := ?_)
                have W40 := Ws1.sF (q := 0) (f := 17) (x := ((rF s1 0 17) + 3)) r39
                refine z_aload_n hC (pc := 172) 1 dX14_readValue_172 rfl rfl ?_
                refine z_bipush hC (pc := 173) (v := Int32.ofInt 56) dX14_readValue_173 (by decide) ?_
                refine z_iconst hC (pc := 175) (v := Int32.ofInt 0) dX14_readValue_175 (by decide) ?_
                refine z_iconst hC (pc := 176) (v := Int32.ofInt 0) dX14_readValue_176 (by decide) ?_
                refine z_iload_n hC (pc := 177) 0 dX14_readValue_177 rfl rfl ?_
                obtain ⟨p41, h⟩ := h
                refine y_callVi hC (pc := 178) (As := [iv 56, iv 0, iv 0, iv (rF s1 0 17)]) (kX14_node_t l G κ (sF s1 0 17 ((rF s1 0 17) + 3)) 56 0 0 (rF s1 0 17) gg W40 (r_lit rfl) (r_lit rfl) (r_lit rfl) (Ws1.f _ _) p41) dmX14_node zf14 rOb_0 dX14_readValue_178 zw3170 rfl rfl (Nat.le_of_ble_eq_true rfl) (Nat.le_of_ble_eq_true rfl) (Nat.le_of_ble_eq_true rfl) (Nat.le_of_ble_eq_true rfl) (Nat.le_of_ble_eq_true rfl) (kk := fun v178 s178 hv178 Ws178 qs178 => ?_)
                have h := h v178 s178 hv178 Ws178 (rNMp.keep qs178.1 rfl rfl rfl rfl rfl) (qs178.1.R rfl) (qs178.1.R rfl) (qs178.1.F rfl) (qs178.1.F rfl) (qs178.1.F rfl) (qs178.1.F rfl) (qs178.1.F rfl) (qs178.1.F rfl) (qs178.1.F rfl) (qs178.1.F rfl) (qs178.1.F rfl) (qs178.1.F rfl) (qs178.1.F rfl) (qs178.1.F rfl) (qs178.1.F rfl) (qs178.1.F rfl) (qs178.1.F rfl) (qs178.1.F rfl) (fun i => qs178.1.A (f := 27) (by decide) rfl) (fun i => qs178.1.A (f := 34) (by decide) rfl) (fun i => qs178.1.A (f := 35) (by decide) rfl) (fun i => qs178.1.A (f := 40) (by decide) rfl) (qs178.1.FG g0 rfl) (qs178.1.FG g0 rfl) (qs178.1.FG g0 rfl) (qs178.1.FG g0 rfl) (fun i => qs178.1.AG (f := 10) g0 (by decide) rfl) (fun i => qs178.1.AG (f := 11) g0 (by decide) rfl) (fun _ _ hp => qs178.1.FL hp) (fz_keep qs178.1 rfl) qs178.2
                exact y_reti hR dX14_readValue_181 rfl hv178 Ws178 (Nat.le_of_ble_eq_true rfl) (Nat.le_of_ble_eq_true rfl) ⟨(rKeep.tr (rKeep.tr (rKeep.tr rKeep.rf qs1.1 rfl rfl rfl rfl rfl) (rKeep.sF0 (f := 17)) rfl rfl rfl rfl rfl) qs178.1 rfl rfl rfl rfl rfl), h⟩
          · have h := hF c
            refine z_aload_n hC (pc := 102) 1 dX14_readValue_102 rfl rfl ?_
            refine z_aload_n hC (pc := 103) 1 dX14_readValue_103 rfl rfl ?_
            refine z_ldcSw hC (pc := 104) dX14_readValue_104 zS_26 ?_
            obtain ⟨p42, h⟩ := h
            refine y_callVi hC (pc := 107) (As := [.ref (G.2.2 53)]) (kX14_isFileWord_f l G κ s1 (G.2.2 53) 4 Ws1 (rSt_26 G) p42) dmX14_isFileWord zf14 rOb_0 dX14_readValue_107 zw3005 rfl rfl (Nat.le_of_ble_eq_true rfl) (Nat.le_of_ble_eq_true rfl) (Nat.le_of_ble_eq_true rfl) (Nat.le_of_ble_eq_true rfl) (Nat.le_of_ble_eq_true rfl) (kk := fun v107 s107 hv107 Ws107 qs107 => ?_)
            obtain ⟨es107, qs107⟩ := qs107
            have es107 := es107.symm
            subst es107
            have h := h v107 hv107 qs107
            obtain ⟨hT, hF⟩ := h
            refine y_if_eq hC (pc := 110) 118 hv107 dX14_readValue_110 (by decide) (fun c => ?_) (fun c => ?_)
            · have h := hT c
              refine z_bipush hC (pc := 118) (v := Int32.ofInt 32) dX14_readValue_118 (by decide) ?_
              refine z_iconst hC (pc := 120) (v := Int32.ofInt 0) dX14_readValue_120 (by decide) ?_
              refine z_iconst hC (pc := 121) (v := Int32.ofInt 0) dX14_readValue_121 (by decide) ?_
              refine z_iload_n hC (pc := 122) 0 dX14_readValue_122 rfl rfl ?_
              obtain ⟨p43, h⟩ := h
              refine y_callVi hC (pc := 123) (As := [iv 32, iv 0, iv 0, iv (rF s1 0 17)]) (kX14_node_t l G κ s1 32 0 0 (rF s1 0 17) gg Ws1 (r_lit rfl) (r_lit rfl) (r_lit rfl) (Ws1.f _ _) p43) dmX14_node zf14 rOb_0 dX14_readValue_123 zw3170 rfl rfl (Nat.le_of_ble_eq_true rfl) (Nat.le_of_ble_eq_true rfl) (Nat.le_of_ble_eq_true rfl) (Nat.le_of_ble_eq_true rfl) (Nat.le_of_ble_eq_true rfl) (kk := fun v123 s123 hv123 Ws123 qs123 => ?_)
              have h := h v123 s123 hv123 Ws123 (rNMp.keep qs123.1 rfl rfl rfl rfl rfl) (qs123.1.R rfl) (qs123.1.R rfl) (qs123.1.F rfl) (qs123.1.F rfl) (qs123.1.F rfl) (qs123.1.F rfl) (qs123.1.F rfl) (qs123.1.F rfl) (qs123.1.F rfl) (qs123.1.F rfl) (qs123.1.F rfl) (qs123.1.F rfl) (qs123.1.F rfl) (qs123.1.F rfl) (qs123.1.F rfl) (qs123.1.F rfl) (qs123.1.F rfl) (qs123.1.F rfl) (fun i => qs123.1.A (f := 27) (by decide) rfl) (fun i => qs123.1.A (f := 34) (by decide) rfl) (fun i => qs123.1.A (f := 35) (by decide) rfl) (fun i => qs123.1.A (f := 40) (by decide) rfl) (qs123.1.FG g0 rfl) (qs123.1.FG g0 rfl) (qs123.1.FG g0 rfl) (qs123.1.FG g0 rfl) (fun i => qs123.1.AG (f := 10) g0 (by decide) rfl) (fun i => qs123.1.AG (f := 11) g0 (by decide) rfl) (fun _ _ hp => qs123.1.FL hp) (fz_keep qs123.1 rfl) qs123.2
              refine z_istore_n hC (pc := 126) (lv' := [(3, iv v123), (2, iv (rF s1 0 17)), (0, .ref (κ 0)), (1, iv x1)]) dX14_readValue_126 rfl (by decide) rfl ?_
              refine z_aload_n hC (pc := 127) 2 dX14_readValue_127 rfl rfl ?_
              refine z_aload_n hC (pc := 128) 2 dX14_readValue_128 rfl rfl ?_
              obtain ⟨g44, h⟩ := h
              refine y_get hC (pc := 129) zf14 rOb_0 15 (v := .ref (κ (rR σ 15))) dX14_readValue_129 zw2482 (rv_b rfl ((qs123.1.R rfl).trans ((qs1.1.R rfl).trans rfl)) g44) (kk := ?_)
              refine z_aload_n hC (pc := 132) 2 dX14_readValue_132 rfl rfl ?_
              refine y_get hC (pc := 133) zf14 rOb_0 16 (v := iv (rF s123 0 16)) dX14_readValue_133 zw2483 (rv_i (Or.inl rfl) rfl) (kk := ?_)
              have h := h (Ws123.f _ _)
              refine z_aload_n hC (pc := 136) 2 dX14_readValue_136 rfl rfl ?_
              refine y_get hC (pc := 137) zf14 rOb_0 17 (v := iv (rF s1 0 17)) dX14_readValue_137 zw2484 (rv_i (Or.inl rfl) ((qs123.1.F rfl).trans rfl)) (kk := ?_)
              obtain ⟨p45, h⟩ := h
              refine y_callSi hC (pc := 140) (As := [.ref (κ (rR σ 15)), iv (rF s123 0 16), iv (rF s1 0 17)]) (kX14_wordEnd_t l G κ s123 (rR σ 15) 4000 (rF s123 0 16) (rF s1 0 17) Ws123 (rAr_f g44) (Ws123.f _ _) (Ws1.f _ _) p45) dmX14_wordEnd dX14_readValue_140 zw3009 rfl rfl (Nat.le_of_ble_eq_true rfl) (Nat.le_of_ble_eq_true rfl) (Nat.le_of_ble_eq_true rfl) (Nat.le_of_ble_eq_true rfl) (Nat.le_of_ble_eq_true rfl) (kk := fun v140 s140 hv140 Ws140 qs140 => ?_)
              obtain ⟨es140, qs140⟩ := qs140
              have es140 := es140.symm
              subst es140
              have h := h v140 hv140 qs140
              refine y_putI hC (pc := 143) zf14 rOb_0 17 (x := v140) dX14_readValue_143 zw2484 (Or.inl rfl) rfl rfl (kk := ?_)
              have W46 := Ws123.sF (q := 0) (f := 17) (x := v140) hv140
              refine z_iload_n hC (pc := 146) 0 dX14_readValue_146 rfl rfl ?_
              exact y_reti hR dX14_readValue_147 rfl hv123 W46 (Nat.le_of_ble_eq_true rfl) (Nat.le_of_ble_eq_true rfl) ⟨(rKeep.tr (rKeep.tr (rKeep.tr rKeep.rf qs1.1 rfl rfl rfl rfl rfl) qs123.1 rfl rfl rfl rfl rfl) (rKeep.sF0 (f := 17)) rfl rfl rfl rfl rfl), h⟩
            · have h := hF c
              refine z_bipush hC (pc := 113) (v := Int32.ofInt 31) dX14_readValue_113 (by decide) ?_
              refine z_goto hC (pc := 115) 120 dX14_readValue_115 (by decide) ?_
              refine z_iconst hC (pc := 120) (v := Int32.ofInt 0) dX14_readValue_120 (by decide) ?_
              refine z_iconst hC (pc := 121) (v := Int32.ofInt 0) dX14_readValue_121 (by decide) ?_
              refine z_iload_n hC (pc := 122) 0 dX14_readValue_122 rfl rfl ?_
              obtain ⟨p47, h⟩ := h
              refine y_callVi hC (pc := 123) (As := [iv 31, iv 0, iv 0, iv (rF s1 0 17)]) (kX14_node_t l G κ s1 31 0 0 (rF s1 0 17) gg Ws1 (r_lit rfl) (r_lit rfl) (r_lit rfl) (Ws1.f _ _) p47) dmX14_node zf14 rOb_0 dX14_readValue_123 zw3170 rfl rfl (Nat.le_of_ble_eq_true rfl) (Nat.le_of_ble_eq_true rfl) (Nat.le_of_ble_eq_true rfl) (Nat.le_of_ble_eq_true rfl) (Nat.le_of_ble_eq_true rfl) (kk := fun v123 s123 hv123 Ws123 qs123 => ?_)
              have h := h v123 s123 hv123 Ws123 (rNMp.keep qs123.1 rfl rfl rfl rfl rfl) (qs123.1.R rfl) (qs123.1.R rfl) (qs123.1.F rfl) (qs123.1.F rfl) (qs123.1.F rfl) (qs123.1.F rfl) (qs123.1.F rfl) (qs123.1.F rfl) (qs123.1.F rfl) (qs123.1.F rfl) (qs123.1.F rfl) (qs123.1.F rfl) (qs123.1.F rfl) (qs123.1.F rfl) (qs123.1.F rfl) (qs123.1.F rfl) (qs123.1.F rfl) (qs123.1.F rfl) (fun i => qs123.1.A (f := 27) (by decide) rfl) (fun i => qs123.1.A (f := 34) (by decide) rfl) (fun i => qs123.1.A (f := 35) (by decide) rfl) (fun i => qs123.1.A (f := 40) (by decide) rfl) (qs123.1.FG g0 rfl) (qs123.1.FG g0 rfl) (qs123.1.FG g0 rfl) (qs123.1.FG g0 rfl) (fun i => qs123.1.AG (f := 10) g0 (by decide) rfl) (fun i => qs123.1.AG (f := 11) g0 (by decide) rfl) (fun _ _ hp => qs123.1.FL hp) (fz_keep qs123.1 rfl) qs123.2
              refine z_istore_n hC (pc := 126) (lv' := [(3, iv v123), (2, iv (rF s1 0 17)), (0, .ref (κ 0)), (1, iv x1)]) dX14_readValue_126 rfl (by decide) rfl ?_
              refine z_aload_n hC (pc := 127) 2 dX14_readValue_127 rfl rfl ?_
              refine z_aload_n hC (pc := 128) 2 dX14_readValue_128 rfl rfl ?_
              obtain ⟨g48, h⟩ := h
              refine y_get hC (pc := 129) zf14 rOb_0 15 (v := .ref (κ (rR σ 15))) dX14_readValue_129 zw2482 (rv_b rfl ((qs123.1.R rfl).trans ((qs1.1.R rfl).trans rfl)) g48) (kk := ?_)
              refine z_aload_n hC (pc := 132) 2 dX14_readValue_132 rfl rfl ?_
              refine y_get hC (pc := 133) zf14 rOb_0 16 (v := iv (rF s123 0 16)) dX14_readValue_133 zw2483 (rv_i (Or.inl rfl) rfl) (kk := ?_)
              have h := h (Ws123.f _ _)
              refine z_aload_n hC (pc := 136) 2 dX14_readValue_136 rfl rfl ?_
              refine y_get hC (pc := 137) zf14 rOb_0 17 (v := iv (rF s1 0 17)) dX14_readValue_137 zw2484 (rv_i (Or.inl rfl) ((qs123.1.F rfl).trans rfl)) (kk := ?_)
              obtain ⟨p49, h⟩ := h
              refine y_callSi hC (pc := 140) (As := [.ref (κ (rR σ 15)), iv (rF s123 0 16), iv (rF s1 0 17)]) (kX14_wordEnd_t l G κ s123 (rR σ 15) 4000 (rF s123 0 16) (rF s1 0 17) Ws123 (rAr_f g48) (Ws123.f _ _) (Ws1.f _ _) p49) dmX14_wordEnd dX14_readValue_140 zw3009 rfl rfl (Nat.le_of_ble_eq_true rfl) (Nat.le_of_ble_eq_true rfl) (Nat.le_of_ble_eq_true rfl) (Nat.le_of_ble_eq_true rfl) (Nat.le_of_ble_eq_true rfl) (kk := fun v140 s140 hv140 Ws140 qs140 => ?_)
              obtain ⟨es140, qs140⟩ := qs140
              have es140 := es140.symm
              subst es140
              have h := h v140 hv140 qs140
              refine y_putI hC (pc := 143) zf14 rOb_0 17 (x := v140) dX14_readValue_143 zw2484 (Or.inl rfl) rfl rfl (kk := ?_)
              have W50 := Ws123.sF (q := 0) (f := 17) (x := v140) hv140
              refine z_iload_n hC (pc := 146) 0 dX14_readValue_146 rfl rfl ?_
              exact y_reti hR dX14_readValue_147 rfl hv123 W50 (Nat.le_of_ble_eq_true rfl) (Nat.le_of_ble_eq_true rfl) ⟨(rKeep.tr (rKeep.tr (rKeep.tr rKeep.rf qs1.1 rfl rfl rfl rfl rfl) qs123.1 rfl rfl rfl rfl rfl) (rKeep.sF0 (f := 17)) rfl rfl rfl rfl rfl), h⟩
      · have h := hF c
        refine z_aload_n hC (pc := 77) 1 dX14_readValue_77 rfl rfl ?_
        obtain ⟨g51, h⟩ := h
        obtain ⟨p52, h⟩ := h
        refine y_callVi hC (pc := 78) (As := []) (kX14_readFileSub l G κ s1 gg U g51 Ws1  p52) dmX14_readFileSub zf14 rOb_0 dX14_readValue_78 zw3332 rfl rfl (Nat.le_of_ble_eq_true rfl) (Nat.le_of_ble_eq_true rfl) (Nat.le_of_ble_eq_true rfl) (Nat.le_of_ble_eq_true rfl) (Nat.le_of_ble_eq_true rfl) (kk := fun v78 s78 hv78 Ws78 qs78 => ?_)
        have h := h v78 s78 hv78 Ws78 (qs78.1.R rfl) (qs78.1.R rfl) (qs78.1.F rfl) (qs78.1.F rfl) (qs78.1.F rfl) (qs78.1.F rfl) (qs78.1.F rfl) (qs78.1.F rfl) (fun _ _ hp => qs78.1.FL hp) qs78.2
        exact y_reti hR dX14_readValue_81 rfl hv78 Ws78 (Nat.le_of_ble_eq_true rfl) (Nat.le_of_ble_eq_true rfl) ⟨(rKeep.tr (rKeep.tr rKeep.rf qs1.1 rfl rfl rfl rfl rfl) qs78.1 rfl rfl rfl rfl rfl), h⟩
    · have h := hF c
      refine z_aload_n hC (pc := 31) 1 dX14_readValue_31 rfl rfl ?_
      obtain ⟨p53, h⟩ := h
      refine y_callVv hC (pc := 32) (As := []) (kX14_fileString_f l G κ s1  Ws1  p53) dmX14_fileString zf14 rOb_0 dX14_readValue_32 zw3027 rfl rfl (Nat.le_of_ble_eq_true rfl) (Nat.le_of_ble_eq_true rfl) (Nat.le_of_ble_eq_true rfl) (Nat.le_of_ble_eq_true rfl) (Nat.le_of_ble_eq_true rfl) (kk := fun s32 Ws32 qs32 => ?_)
      have h := h s32 Ws32 (rNMp.keep qs32.1 rfl rfl rfl rfl rfl) (PNp.keep qs32.1 rfl rfl rfl rfl rfl) (qs32.1.R rfl) (qs32.1.R rfl) (qs32.1.F rfl) (qs32.1.F rfl) (qs32.1.F rfl) (qs32.1.F rfl) (qs32.1.F rfl) (qs32.1.F rfl) (qs32.1.F rfl) (qs32.1.F rfl) (qs32.1.F rfl) (qs32.1.F rfl) (qs32.1.F rfl) (fun i => qs32.1.A (f := 27) (by decide) rfl) (fun i => qs32.1.A (f := 34) (by decide) rfl) (fun i => qs32.1.A (f := 35) (by decide) rfl) (fun i => qs32.1.A (f := 40) (by decide) rfl) (qs32.1.FG g0 rfl) (qs32.1.FG g0 rfl) (qs32.1.FG g0 rfl) (qs32.1.FG g0 rfl) (qs32.1.FG g0 rfl) (fun i => qs32.1.AG (f := 10) g0 (by decide) rfl) (fun i => qs32.1.AG (f := 11) g0 (by decide) rfl) (fun _ _ hp => qs32.1.FL hp) (RG.keep (c0 := 0) qs32.1 rfl rfl rfl rfl rfl rfl rfl rfl rfl rfl rfl rfl rfl rfl rfl rfl rfl rfl) qs32.2
      refine z_aload_n hC (pc := 35) 1 dX14_readValue_35 rfl rfl ?_
      refine y_get hC (pc := 36) zf14 rOb_0 10 (v := iv (rF s32 0 10)) dX14_readValue_36 zw2478 (rv_i (Or.inl rfl) rfl) (kk := ?_)
      have h := h (Ws32.f _ _)
      obtain ⟨hT, hF⟩ := h
      refine y_if_ne hC (pc := 39) 62 (Ws32.f _ _) dX14_readValue_39 (by decide) (fun c => ?_) (fun c => ?_)
      · have h := hT c
        refine z_iconst hC (pc := 62) (v := Int32.ofInt 0) dX14_readValue_62 (by decide) ?_
        exact y_reti hR dX14_readValue_63 rfl (r_lit rfl) Ws32 (Nat.le_of_ble_eq_true rfl) (Nat.le_of_ble_eq_true rfl) ⟨(rKeep.tr (rKeep.tr rKeep.rf qs1.1 rfl rfl rfl rfl rfl) qs32.1 rfl rfl rfl rfl rfl), h⟩
      · have h := hF c
        refine z_aload_n hC (pc := 42) 1 dX14_readValue_42 rfl rfl ?_
        refine z_aload_n hC (pc := 43) 1 dX14_readValue_43 rfl rfl ?_
        obtain ⟨g54, h⟩ := h
        refine y_get hC (pc := 44) zf14 rOb_0 15 (v := .ref (κ (rR σ 15))) dX14_readValue_44 zw2482 (rv_b rfl ((qs32.1.R rfl).trans ((qs1.1.R rfl).trans rfl)) g54) (kk := ?_)
        refine z_aload_n hC (pc := 47) 1 dX14_readValue_47 rfl rfl ?_
        refine y_get hC (pc := 48) zf14 rOb_0 22 (v := iv (rF s32 0 22)) dX14_readValue_48 zw2489 (rv_i (Or.inl rfl) rfl) (kk := ?_)
        have h := h (Ws32.f _ _)
        refine z_aload_n hC (pc := 51) 1 dX14_readValue_51 rfl rfl ?_
        refine y_get hC (pc := 52) zf14 rOb_0 23 (v := iv (rF s32 0 23)) dX14_readValue_52 zw2490 (rv_i (Or.inl rfl) rfl) (kk := ?_)
        have h := h (Ws32.f _ _)
        refine z_iload_n hC (pc := 55) 0 dX14_readValue_55 rfl rfl ?_
        obtain ⟨p55, h⟩ := h
        refine y_callVi hC (pc := 56) (As := [.ref (κ (rR σ 15)), iv (rF s32 0 22), iv (rF s32 0 23), iv (rF s1 0 17)]) (kX14_keepString_t l G κ s32 (rR σ 15) 4000 (rF s32 0 22) (rF s32 0 23) (rF s1 0 17) gg Ws32 (rAr_f g54) (Ws32.f _ _) (Ws32.f _ _) (Ws1.f _ _) p55) dmX14_keepString zf14 rOb_0 dX14_readValue_56 zw3214 rfl rfl (Nat.le_of_ble_eq_true rfl) (Nat.le_of_ble_eq_true rfl) (Nat.le_of_ble_eq_true rfl) (Nat.le_of_ble_eq_true rfl) (Nat.le_of_ble_eq_true rfl) (kk := fun v56 s56 hv56 Ws56 qs56 => ?_)
        have h := h v56 s56 hv56 Ws56 (qs56.1.R rfl) (qs56.1.R rfl) (qs56.1.F rfl) (qs56.1.F rfl) (qs56.1.F rfl) (qs56.1.F rfl) (qs56.1.F rfl) (qs56.1.F rfl) (qs56.1.F rfl) (qs56.1.F rfl) (qs56.1.F rfl) (qs56.1.F rfl) (qs56.1.F rfl) (qs56.1.F rfl) (qs56.1.F rfl) (qs56.1.F rfl) (qs56.1.F rfl) (qs56.1.F rfl) (fun i => qs56.1.A (f := 27) (by decide) rfl) (fun i => qs56.1.A (f := 34) (by decide) rfl) (fun i => qs56.1.A (f := 35) (by decide) rfl) (fun i => qs56.1.A (f := 40) (by decide) rfl) (qs56.1.FG g0 rfl) (qs56.1.FG g0 rfl) (qs56.1.FG g0 rfl) (fun i => qs56.1.AG (f := 10) g0 (by decide) rfl) (fun i => qs56.1.AG (f := 11) g0 (by decide) rfl) (fun _ _ hp => qs56.1.FL hp) (fz_keep qs56.1 rfl) qs56.2
        refine z_goto hC (pc := 59) 63 dX14_readValue_59 (by decide) ?_
        exact y_reti hR dX14_readValue_63 rfl hv56 Ws56 (Nat.le_of_ble_eq_true rfl) (Nat.le_of_ble_eq_true rfl) ⟨(rKeep.tr (rKeep.tr (rKeep.tr rKeep.rf qs1.1 rfl rfl rfl rfl rfl) qs32.1 rfl rfl rfl rfl rfl) qs56.1 rfl rfl rfl rfl rfl), h⟩
  · have h := hF c
    refine z_iconst hC (pc := 11) (v := Int32.ofInt 0) dX14_readValue_11 (by decide) ?_
    exact y_reti hR dX14_readValue_12 rfl (r_lit rfl) Ws1 (Nat.le_of_ble_eq_true rfl) (Nat.le_of_ble_eq_true rfl) ⟨(rKeep.tr rKeep.rf qs1.1 rfl rfl rfl rfl rfl), h⟩
theorem kX14_readValue (l : Launch) (G : zG) (κ : Nat → Nat) (σ : rS) (x1 : Int) (gg : Nat) (U : Int) (g : Nat → Int → Int) (hwf : rWF σ) (hx1 : rng x1) (hp : pre_X14_readValue σ x1 gg U g) : rMi l G κ yX14_readValue cX14_readValue 4 .int 462 18050 [.ref (κ 0), iv x1] σ (fun x s => rKeep 0x6c3f3e21c00 0x4100001280 0x13c0c000000 0x3ee0000d7f 0 σ s ∧ post_X14_readValue σ x1 gg U g x s) := wX14_readValue l G κ σ x1 gg U g hwf hx1 (post_X14_readValue σ x1 gg U g) (vX14_readValue σ x1 gg U g hwf hx1 hp) 
