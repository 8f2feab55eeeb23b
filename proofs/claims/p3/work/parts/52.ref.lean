theorem zw2925 : Cond.methodLink "TemplateHouseModel" 815 ⟨"TemplateHouseModel", "isValue", "(II)Z"⟩ ∈ zT := zsub13 45 (by decide +kernel) (by decide +kernel)
theorem zw2929 : Cond.methodLink "TemplateHouseModel" 818 ⟨"TemplateHouseModel", "mayHave", "(II)Z"⟩ ∈ zT := zsub13 49 (by decide +kernel) (by decide +kernel)
theorem zw2511 : Cond.fieldLink "TemplateHouseModel" 821 "TemplateHouseModel" "listed" "I" ∈ zT := zsub11 111 (by decide +kernel) (by decide +kernel)
theorem zw2519 : Cond.fieldLink "TemplateHouseModel" 84 "TemplateHouseModel" "listValue" "[I" ∈ zT := zsub11 119 (by decide +kernel) (by decide +kernel)
theorem zw2520 : Cond.fieldLink "TemplateHouseModel" 87 "TemplateHouseModel" "keyFrom" "[I" ∈ zT := zsub11 120 (by decide +kernel) (by decide +kernel)
theorem zw2941 : Cond.methodLink "TemplateHouseModel" 827 ⟨"TemplateHouseModel", "keepTape", "()I"⟩ ∈ zT := zsub13 61 (by decide +kernel) (by decide +kernel)
theorem zw2521 : Cond.fieldLink "TemplateHouseModel" 90 "TemplateHouseModel" "keySize" "[I" ∈ zT := zsub11 121 (by decide +kernel) (by decide +kernel)
theorem zw2522 : Cond.fieldLink "TemplateHouseModel" 93 "TemplateHouseModel" "mapValue" "[I" ∈ zT := zsub11 122 (by decide +kernel) (by decide +kernel)
theorem zw2937 : Cond.methodLink "TemplateHouseModel" 824 ⟨"TemplateHouseModel", "isTape", "(II)Z"⟩ ∈ zT := zsub13 57 (by decide +kernel) (by decide +kernel)
theorem zw2523 : Cond.fieldLink "TemplateHouseModel" 96 "TemplateHouseModel" "propertyFrom" "[I" ∈ zT := zsub11 123 (by decide +kernel) (by decide +kernel)
theorem zw2524 : Cond.fieldLink "TemplateHouseModel" 99 "TemplateHouseModel" "propertySize" "[I" ∈ zT := zsub11 124 (by decide +kernel) (by decide +kernel)
theorem zw2525 : Cond.fieldLink "TemplateHouseModel" 102 "TemplateHouseModel" "propertySort" "[I" ∈ zT := zsub11 125 (by decide +kernel) (by decide +kernel)
theorem zw2526 : Cond.fieldLink "TemplateHouseModel" 105 "TemplateHouseModel" "propertyValue" "[I" ∈ zT := zsub11 126 (by decide +kernel) (by decide +kernel)
theorem zw2924 : Cond.code ⟨"TemplateHouseModel", "add", "(II)Z"⟩ prog_15_method_97_code 3 (Option.some Jvm.ClassFile.FieldType.boolean) ∈ zT := zsub13 44 rfl rfl
theorem zw2922 : Cond.instanceMethod ⟨"TemplateHouseModel", "add", "(II)Z"⟩ ∈ zT := zsub13 42 (by decide +kernel) (by decide +kernel)
theorem zw2923 : Cond.selects "TemplateHouseModel" ⟨"TemplateHouseModel", "add", "(II)Z"⟩ ⟨"TemplateHouseModel", "add", "(II)Z"⟩ ∈ zT := zsub13 43 (by decide +kernel) (by decide +kernel)
theorem zw2936 : Cond.code ⟨"TemplateHouseModel", "entry", "(II)Z"⟩ prog_15_method_99_code 4 (Option.some Jvm.ClassFile.FieldType.boolean) ∈ zT := zsub13 56 rfl rfl
theorem zw2934 : Cond.instanceMethod ⟨"TemplateHouseModel", "entry", "(II)Z"⟩ ∈ zT := zsub13 54 (by decide +kernel) (by decide +kernel)
theorem zw2935 : Cond.selects "TemplateHouseModel" ⟨"TemplateHouseModel", "entry", "(II)Z"⟩ ⟨"TemplateHouseModel", "entry", "(II)Z"⟩ ∈ zT := zsub13 55 (by decide +kernel) (by decide +kernel)
theorem zw2948 : Cond.code ⟨"TemplateHouseModel", "property", "(III)Z"⟩ prog_15_method_101_code 5 (Option.some Jvm.ClassFile.FieldType.boolean) ∈ zT := zsub13 68 rfl rfl
theorem zw2946 : Cond.instanceMethod ⟨"TemplateHouseModel", "property", "(III)Z"⟩ ∈ zT := zsub13 66 (by decide +kernel) (by decide +kernel)
theorem zw2947 : Cond.selects "TemplateHouseModel" ⟨"TemplateHouseModel", "property", "(III)Z"⟩ ⟨"TemplateHouseModel", "property", "(III)Z"⟩ ∈ zT := zsub13 67 (by decide +kernel) (by decide +kernel)
abbrev cX14_add : ByteArray := prog_15_method_97_code
abbrev yX14_add : MethodName := ⟨"TemplateHouseModel", "add", "(II)Z"⟩
theorem dmX14_add : zDv yX14_add cX14_add 3 (some .boolean) 2 := ⟨⟨⟨by decide +kernel, by decide +kernel, by decide +kernel⟩, zw2924, zw14⟩, zw2922, zw2923⟩
abbrev cX14_entry : ByteArray := prog_15_method_99_code
abbrev yX14_entry : MethodName := ⟨"TemplateHouseModel", "entry", "(II)Z"⟩
theorem dmX14_entry : zDv yX14_entry cX14_entry 4 (some .boolean) 2 := ⟨⟨⟨by decide +kernel, by decide +kernel, by decide +kernel⟩, zw2936, zw14⟩, zw2934, zw2935⟩
abbrev cX14_property : ByteArray := prog_15_method_101_code
abbrev yX14_property : MethodName := ⟨"TemplateHouseModel", "property", "(III)Z"⟩
theorem dmX14_property : zDv yX14_property cX14_property 5 (some .boolean) 3 := ⟨⟨⟨by decide +kernel, by decide +kernel, by decide +kernel⟩, zw2948, zw14⟩, zw2946, zw2947⟩
theorem dX14_add_0 : decode cX14_add 0 = .ok (.aload_n 0, 1) := by decide +kernel
theorem dX14_add_1 : decode cX14_add 1 = .ok (.iconst 0, 1) := by decide +kernel
theorem dX14_add_2 : decode cX14_add 2 = .ok (.putfield 806, 3) := by decide +kernel
theorem dX14_add_5 : decode cX14_add 5 = .ok (.aload_n 0, 1) := by decide +kernel
theorem dX14_add_6 : decode cX14_add 6 = .ok (.invokevirtual 803, 3) := by decide +kernel
theorem dX14_add_9 : decode cX14_add 9 = .ok (.ifCond .ne 42, 3) := by decide +kernel
theorem dX14_add_51 : decode cX14_add 51 = .ok (.iconst 0, 1) := by decide +kernel
theorem dX14_add_52 : decode cX14_add 52 = .ok (.ireturn, 1) := by decide +kernel
theorem dX14_add_12 : decode cX14_add 12 = .ok (.aload_n 0, 1) := by decide +kernel
theorem dX14_add_13 : decode cX14_add 13 = .ok (.iload_n 1, 1) := by decide +kernel
theorem dX14_add_14 : decode cX14_add 14 = .ok (.iconst 3, 1) := by decide +kernel
theorem dX14_add_15 : decode cX14_add 15 = .ok (.invokevirtual 815, 3) := by decide +kernel
theorem dX14_add_18 : decode cX14_add 18 = .ok (.ifCond .eq 33, 3) := by decide +kernel
theorem dX14_add_21 : decode cX14_add 21 = .ok (.aload_n 0, 1) := by decide +kernel
theorem dX14_add_22 : decode cX14_add 22 = .ok (.iload_n 1, 1) := by decide +kernel
theorem dX14_add_23 : decode cX14_add 23 = .ok (.iload_n 2, 1) := by decide +kernel
theorem dX14_add_24 : decode cX14_add 24 = .ok (.invokevirtual 818, 3) := by decide +kernel
theorem dX14_add_27 : decode cX14_add 27 = .ok (.ifCond .eq 24, 3) := by decide +kernel
theorem dX14_add_30 : decode cX14_add 30 = .ok (.aload_n 0, 1) := by decide +kernel
theorem dX14_add_31 : decode cX14_add 31 = .ok (.getfield 80, 3) := by decide +kernel
theorem dX14_add_34 : decode cX14_add 34 = .ok (.iload_n 1, 1) := by decide +kernel
theorem dX14_add_35 : decode cX14_add 35 = .ok (.iaload, 1) := by decide +kernel
theorem dX14_add_36 : decode cX14_add 36 = .ok (.bipush 100, 2) := by decide +kernel
theorem dX14_add_38 : decode cX14_add 38 = .ok (.if_icmp .eq 13, 3) := by decide +kernel
theorem dX14_add_41 : decode cX14_add 41 = .ok (.aload_n 0, 1) := by decide +kernel
theorem dX14_add_42 : decode cX14_add 42 = .ok (.getfield 821, 3) := by decide +kernel
theorem dX14_add_45 : decode cX14_add 45 = .ok (.sipush 4000, 3) := by decide +kernel
theorem dX14_add_48 : decode cX14_add 48 = .ok (.if_icmp .ne 5, 3) := by decide +kernel
theorem dX14_add_53 : decode cX14_add 53 = .ok (.aload_n 0, 1) := by decide +kernel
theorem dX14_add_54 : decode cX14_add 54 = .ok (.getfield 84, 3) := by decide +kernel
theorem dX14_add_57 : decode cX14_add 57 = .ok (.bipush 100, 2) := by decide +kernel
theorem dX14_add_59 : decode cX14_add 59 = .ok (.iload_n 1, 1) := by decide +kernel
theorem dX14_add_60 : decode cX14_add 60 = .ok (.imul, 1) := by decide +kernel
theorem dX14_add_61 : decode cX14_add 61 = .ok (.aload_n 0, 1) := by decide +kernel
theorem dX14_add_62 : decode cX14_add 62 = .ok (.getfield 80, 3) := by decide +kernel
theorem dX14_add_65 : decode cX14_add 65 = .ok (.iload_n 1, 1) := by decide +kernel
theorem dX14_add_66 : decode cX14_add 66 = .ok (.iaload, 1) := by decide +kernel
theorem dX14_add_67 : decode cX14_add 67 = .ok (.iadd, 1) := by decide +kernel
theorem dX14_add_68 : decode cX14_add 68 = .ok (.iload_n 2, 1) := by decide +kernel
theorem dX14_add_69 : decode cX14_add 69 = .ok (.iastore, 1) := by decide +kernel
theorem dX14_add_70 : decode cX14_add 70 = .ok (.aload_n 0, 1) := by decide +kernel
theorem dX14_add_71 : decode cX14_add 71 = .ok (.getfield 80, 3) := by decide +kernel
theorem dX14_add_74 : decode cX14_add 74 = .ok (.iload_n 1, 1) := by decide +kernel
theorem dX14_add_75 : decode cX14_add 75 = .ok (.dup2, 1) := by decide +kernel
theorem dX14_add_76 : decode cX14_add 76 = .ok (.iaload, 1) := by decide +kernel
theorem dX14_add_77 : decode cX14_add 77 = .ok (.iconst 1, 1) := by decide +kernel
theorem dX14_add_78 : decode cX14_add 78 = .ok (.iadd, 1) := by decide +kernel
theorem dX14_add_79 : decode cX14_add 79 = .ok (.iastore, 1) := by decide +kernel
theorem dX14_add_80 : decode cX14_add 80 = .ok (.aload_n 0, 1) := by decide +kernel
theorem dX14_add_81 : decode cX14_add 81 = .ok (.dup, 1) := by decide +kernel
theorem dX14_add_82 : decode cX14_add 82 = .ok (.getfield 821, 3) := by decide +kernel
theorem dX14_add_85 : decode cX14_add 85 = .ok (.iconst 1, 1) := by decide +kernel
theorem dX14_add_86 : decode cX14_add 86 = .ok (.iadd, 1) := by decide +kernel
theorem dX14_add_87 : decode cX14_add 87 = .ok (.putfield 821, 3) := by decide +kernel
theorem dX14_add_90 : decode cX14_add 90 = .ok (.iconst 1, 1) := by decide +kernel
theorem dX14_add_91 : decode cX14_add 91 = .ok (.ireturn, 1) := by decide +kernel
theorem dX14_entry_0 : decode cX14_entry 0 = .ok (.aload_n 0, 1) := by decide +kernel
theorem dX14_entry_1 : decode cX14_entry 1 = .ok (.iconst 0, 1) := by decide +kernel
theorem dX14_entry_2 : decode cX14_entry 2 = .ok (.putfield 806, 3) := by decide +kernel
theorem dX14_entry_5 : decode cX14_entry 5 = .ok (.aload_n 0, 1) := by decide +kernel
theorem dX14_entry_6 : decode cX14_entry 6 = .ok (.invokevirtual 812, 3) := by decide +kernel
theorem dX14_entry_9 : decode cX14_entry 9 = .ok (.aload_n 0, 1) := by decide +kernel
theorem dX14_entry_10 : decode cX14_entry 10 = .ok (.invokevirtual 803, 3) := by decide +kernel
theorem dX14_entry_13 : decode cX14_entry 13 = .ok (.ifCond .ne 38, 3) := by decide +kernel
theorem dX14_entry_51 : decode cX14_entry 51 = .ok (.iconst 0, 1) := by decide +kernel
theorem dX14_entry_52 : decode cX14_entry 52 = .ok (.ireturn, 1) := by decide +kernel
theorem dX14_entry_16 : decode cX14_entry 16 = .ok (.aload_n 0, 1) := by decide +kernel
theorem dX14_entry_17 : decode cX14_entry 17 = .ok (.iload_n 1, 1) := by decide +kernel
theorem dX14_entry_18 : decode cX14_entry 18 = .ok (.iconst 4, 1) := by decide +kernel
theorem dX14_entry_19 : decode cX14_entry 19 = .ok (.invokevirtual 815, 3) := by decide +kernel
theorem dX14_entry_22 : decode cX14_entry 22 = .ok (.ifCond .eq 29, 3) := by decide +kernel
theorem dX14_entry_25 : decode cX14_entry 25 = .ok (.aload_n 0, 1) := by decide +kernel
theorem dX14_entry_26 : decode cX14_entry 26 = .ok (.iload_n 1, 1) := by decide +kernel
theorem dX14_entry_27 : decode cX14_entry 27 = .ok (.iload_n 2, 1) := by decide +kernel
theorem dX14_entry_28 : decode cX14_entry 28 = .ok (.invokevirtual 818, 3) := by decide +kernel
theorem dX14_entry_31 : decode cX14_entry 31 = .ok (.ifCond .eq 20, 3) := by decide +kernel
theorem dX14_entry_34 : decode cX14_entry 34 = .ok (.aload_n 0, 1) := by decide +kernel
theorem dX14_entry_35 : decode cX14_entry 35 = .ok (.getfield 791, 3) := by decide +kernel
theorem dX14_entry_38 : decode cX14_entry 38 = .ok (.iconst 1, 1) := by decide +kernel
theorem dX14_entry_39 : decode cX14_entry 39 = .ok (.if_icmp .lt 12, 3) := by decide +kernel
theorem dX14_entry_42 : decode cX14_entry 42 = .ok (.aload_n 0, 1) := by decide +kernel
theorem dX14_entry_43 : decode cX14_entry 43 = .ok (.getfield 791, 3) := by decide +kernel
theorem dX14_entry_46 : decode cX14_entry 46 = .ok (.bipush 20, 2) := by decide +kernel
theorem dX14_entry_48 : decode cX14_entry 48 = .ok (.if_icmp .le 5, 3) := by decide +kernel
theorem dX14_entry_53 : decode cX14_entry 53 = .ok (.bipush 50, 2) := by decide +kernel
theorem dX14_entry_55 : decode cX14_entry 55 = .ok (.iload_n 1, 1) := by decide +kernel
theorem dX14_entry_56 : decode cX14_entry 56 = .ok (.imul, 1) := by decide +kernel
theorem dX14_entry_57 : decode cX14_entry 57 = .ok (.istore_n 3, 1) := by decide +kernel
theorem dX14_entry_58 : decode cX14_entry 58 = .ok (.iload_n 3, 1) := by decide +kernel
theorem dX14_entry_59 : decode cX14_entry 59 = .ok (.bipush 50, 2) := by decide +kernel
theorem dX14_entry_61 : decode cX14_entry 61 = .ok (.iload_n 1, 1) := by decide +kernel
theorem dX14_entry_62 : decode cX14_entry 62 = .ok (.imul, 1) := by decide +kernel
theorem dX14_entry_63 : decode cX14_entry 63 = .ok (.aload_n 0, 1) := by decide +kernel
theorem dX14_entry_64 : decode cX14_entry 64 = .ok (.getfield 80, 3) := by decide +kernel
theorem dX14_entry_67 : decode cX14_entry 67 = .ok (.iload_n 1, 1) := by decide +kernel
theorem dX14_entry_68 : decode cX14_entry 68 = .ok (.iaload, 1) := by decide +kernel
theorem dX14_entry_69 : decode cX14_entry 69 = .ok (.iadd, 1) := by decide +kernel
theorem dX14_entry_70 : decode cX14_entry 70 = .ok (.if_icmp .ge 40, 3) := by decide +kernel
theorem dX14_entry_110 : decode cX14_entry 110 = .ok (.aload_n 0, 1) := by decide +kernel
theorem dX14_entry_111 : decode cX14_entry 111 = .ok (.getfield 80, 3) := by decide +kernel
theorem dX14_entry_114 : decode cX14_entry 114 = .ok (.iload_n 1, 1) := by decide +kernel
theorem dX14_entry_115 : decode cX14_entry 115 = .ok (.iaload, 1) := by decide +kernel
theorem dX14_entry_116 : decode cX14_entry 116 = .ok (.bipush 50, 2) := by decide +kernel
theorem dX14_entry_118 : decode cX14_entry 118 = .ok (.if_icmp .eq 18, 3) := by decide +kernel
theorem dX14_entry_136 : decode cX14_entry 136 = .ok (.iconst 0, 1) := by decide +kernel
theorem dX14_entry_137 : decode cX14_entry 137 = .ok (.ireturn, 1) := by decide +kernel
theorem dX14_entry_121 : decode cX14_entry 121 = .ok (.aload_n 0, 1) := by decide +kernel
theorem dX14_entry_122 : decode cX14_entry 122 = .ok (.getfield 800, 3) := by decide +kernel
theorem dX14_entry_125 : decode cX14_entry 125 = .ok (.aload_n 0, 1) := by decide +kernel
theorem dX14_entry_126 : decode cX14_entry 126 = .ok (.getfield 791, 3) := by decide +kernel
theorem dX14_entry_129 : decode cX14_entry 129 = .ok (.iadd, 1) := by decide +kernel
theorem dX14_entry_130 : decode cX14_entry 130 = .ok (.sipush 16000, 3) := by decide +kernel
theorem dX14_entry_133 : decode cX14_entry 133 = .ok (.if_icmp .le 5, 3) := by decide +kernel
theorem dX14_entry_138 : decode cX14_entry 138 = .ok (.bipush 50, 2) := by decide +kernel
theorem dX14_entry_140 : decode cX14_entry 140 = .ok (.iload_n 1, 1) := by decide +kernel
theorem dX14_entry_141 : decode cX14_entry 141 = .ok (.imul, 1) := by decide +kernel
theorem dX14_entry_142 : decode cX14_entry 142 = .ok (.aload_n 0, 1) := by decide +kernel
theorem dX14_entry_143 : decode cX14_entry 143 = .ok (.getfield 80, 3) := by decide +kernel
theorem dX14_entry_146 : decode cX14_entry 146 = .ok (.iload_n 1, 1) := by decide +kernel
theorem dX14_entry_147 : decode cX14_entry 147 = .ok (.iaload, 1) := by decide +kernel
theorem dX14_entry_148 : decode cX14_entry 148 = .ok (.iadd, 1) := by decide +kernel
theorem dX14_entry_149 : decode cX14_entry 149 = .ok (.istore_n 3, 1) := by decide +kernel
theorem dX14_entry_150 : decode cX14_entry 150 = .ok (.aload_n 0, 1) := by decide +kernel
theorem dX14_entry_151 : decode cX14_entry 151 = .ok (.getfield 87, 3) := by decide +kernel
theorem dX14_entry_154 : decode cX14_entry 154 = .ok (.iload_n 3, 1) := by decide +kernel
theorem dX14_entry_155 : decode cX14_entry 155 = .ok (.aload_n 0, 1) := by decide +kernel
theorem dX14_entry_156 : decode cX14_entry 156 = .ok (.invokevirtual 827, 3) := by decide +kernel
theorem dX14_entry_159 : decode cX14_entry 159 = .ok (.iastore, 1) := by decide +kernel
theorem dX14_entry_160 : decode cX14_entry 160 = .ok (.aload_n 0, 1) := by decide +kernel
theorem dX14_entry_161 : decode cX14_entry 161 = .ok (.getfield 90, 3) := by decide +kernel
theorem dX14_entry_164 : decode cX14_entry 164 = .ok (.iload_n 3, 1) := by decide +kernel
theorem dX14_entry_165 : decode cX14_entry 165 = .ok (.aload_n 0, 1) := by decide +kernel
theorem dX14_entry_166 : decode cX14_entry 166 = .ok (.getfield 791, 3) := by decide +kernel
theorem dX14_entry_169 : decode cX14_entry 169 = .ok (.iastore, 1) := by decide +kernel
theorem dX14_entry_170 : decode cX14_entry 170 = .ok (.aload_n 0, 1) := by decide +kernel
theorem dX14_entry_171 : decode cX14_entry 171 = .ok (.getfield 93, 3) := by decide +kernel
theorem dX14_entry_174 : decode cX14_entry 174 = .ok (.iload_n 3, 1) := by decide +kernel
theorem dX14_entry_175 : decode cX14_entry 175 = .ok (.iload_n 2, 1) := by decide +kernel
theorem dX14_entry_176 : decode cX14_entry 176 = .ok (.iastore, 1) := by decide +kernel
theorem dX14_entry_177 : decode cX14_entry 177 = .ok (.aload_n 0, 1) := by decide +kernel
theorem dX14_entry_178 : decode cX14_entry 178 = .ok (.getfield 80, 3) := by decide +kernel
theorem dX14_entry_181 : decode cX14_entry 181 = .ok (.iload_n 1, 1) := by decide +kernel
theorem dX14_entry_182 : decode cX14_entry 182 = .ok (.dup2, 1) := by decide +kernel
theorem dX14_entry_183 : decode cX14_entry 183 = .ok (.iaload, 1) := by decide +kernel
theorem dX14_entry_184 : decode cX14_entry 184 = .ok (.iconst 1, 1) := by decide +kernel
theorem dX14_entry_185 : decode cX14_entry 185 = .ok (.iadd, 1) := by decide +kernel
theorem dX14_entry_186 : decode cX14_entry 186 = .ok (.iastore, 1) := by decide +kernel
theorem dX14_entry_187 : decode cX14_entry 187 = .ok (.iconst 1, 1) := by decide +kernel
theorem dX14_entry_188 : decode cX14_entry 188 = .ok (.ireturn, 1) := by decide +kernel
theorem dX14_entry_73 : decode cX14_entry 73 = .ok (.aload_n 0, 1) := by decide +kernel
theorem dX14_entry_74 : decode cX14_entry 74 = .ok (.aload_n 0, 1) := by decide +kernel
theorem dX14_entry_75 : decode cX14_entry 75 = .ok (.getfield 87, 3) := by decide +kernel
theorem dX14_entry_78 : decode cX14_entry 78 = .ok (.iload_n 3, 1) := by decide +kernel
theorem dX14_entry_79 : decode cX14_entry 79 = .ok (.iaload, 1) := by decide +kernel
theorem dX14_entry_80 : decode cX14_entry 80 = .ok (.aload_n 0, 1) := by decide +kernel
theorem dX14_entry_81 : decode cX14_entry 81 = .ok (.getfield 90, 3) := by decide +kernel
theorem dX14_entry_84 : decode cX14_entry 84 = .ok (.iload_n 3, 1) := by decide +kernel
theorem dX14_entry_85 : decode cX14_entry 85 = .ok (.iaload, 1) := by decide +kernel
theorem dX14_entry_86 : decode cX14_entry 86 = .ok (.invokevirtual 824, 3) := by decide +kernel
theorem dX14_entry_89 : decode cX14_entry 89 = .ok (.ifCond .ne 6, 3) := by decide +kernel
theorem dX14_entry_95 : decode cX14_entry 95 = .ok (.aload_n 0, 1) := by decide +kernel
theorem dX14_entry_96 : decode cX14_entry 96 = .ok (.getfield 93, 3) := by decide +kernel
theorem dX14_entry_99 : decode cX14_entry 99 = .ok (.iload_n 3, 1) := by decide +kernel
theorem dX14_entry_100 : decode cX14_entry 100 = .ok (.iload_n 2, 1) := by decide +kernel
theorem dX14_entry_101 : decode cX14_entry 101 = .ok (.iastore, 1) := by decide +kernel
theorem dX14_entry_102 : decode cX14_entry 102 = .ok (.iconst 1, 1) := by decide +kernel
theorem dX14_entry_103 : decode cX14_entry 103 = .ok (.ireturn, 1) := by decide +kernel
theorem dX14_entry_92 : decode cX14_entry 92 = .ok (.goto 12, 3) := by decide +kernel
theorem dX14_entry_104 : decode cX14_entry 104 = .ok (.iinc 3 1, 3) := by decide +kernel
theorem dX14_entry_107 : decode cX14_entry 107 = .ok (.goto (-49), 3) := by decide +kernel
theorem dX14_property_0 : decode cX14_property 0 = .ok (.aload_n 0, 1) := by decide +kernel
theorem dX14_property_1 : decode cX14_property 1 = .ok (.iconst 0, 1) := by decide +kernel
theorem dX14_property_2 : decode cX14_property 2 = .ok (.putfield 806, 3) := by decide +kernel
theorem dX14_property_5 : decode cX14_property 5 = .ok (.aload_n 0, 1) := by decide +kernel
theorem dX14_property_6 : decode cX14_property 6 = .ok (.invokevirtual 812, 3) := by decide +kernel
theorem dX14_property_9 : decode cX14_property 9 = .ok (.aload_n 0, 1) := by decide +kernel
theorem dX14_property_10 : decode cX14_property 10 = .ok (.invokevirtual 803, 3) := by decide +kernel
theorem dX14_property_13 : decode cX14_property 13 = .ok (.ifCond .ne 78, 3) := by decide +kernel
theorem dX14_property_91 : decode cX14_property 91 = .ok (.iconst 0, 1) := by decide +kernel
theorem dX14_property_92 : decode cX14_property 92 = .ok (.ireturn, 1) := by decide +kernel
theorem dX14_property_16 : decode cX14_property 16 = .ok (.aload_n 0, 1) := by decide +kernel
theorem dX14_property_17 : decode cX14_property 17 = .ok (.iload_n 1, 1) := by decide +kernel
theorem dX14_property_18 : decode cX14_property 18 = .ok (.iconst 5, 1) := by decide +kernel
theorem dX14_property_19 : decode cX14_property 19 = .ok (.invokevirtual 815, 3) := by decide +kernel
theorem dX14_property_22 : decode cX14_property 22 = .ok (.ifCond .eq 69, 3) := by decide +kernel
theorem dX14_property_25 : decode cX14_property 25 = .ok (.iload_n 2, 1) := by decide +kernel
theorem dX14_property_26 : decode cX14_property 26 = .ok (.ifCond .lt 65, 3) := by decide +kernel
theorem dX14_property_29 : decode cX14_property 29 = .ok (.iload_n 2, 1) := by decide +kernel
theorem dX14_property_30 : decode cX14_property 30 = .ok (.iconst 3, 1) := by decide +kernel
theorem dX14_property_31 : decode cX14_property 31 = .ok (.if_icmp .gt 60, 3) := by decide +kernel
theorem dX14_property_34 : decode cX14_property 34 = .ok (.iload_n 3, 1) := by decide +kernel
theorem dX14_property_35 : decode cX14_property 35 = .ok (.bipush (-2), 2) := by decide +kernel
theorem dX14_property_37 : decode cX14_property 37 = .ok (.if_icmp .lt 54, 3) := by decide +kernel
theorem dX14_property_40 : decode cX14_property 40 = .ok (.iload_n 3, 1) := by decide +kernel
theorem dX14_property_41 : decode cX14_property 41 = .ok (.aload_n 0, 1) := by decide +kernel
theorem dX14_property_42 : decode cX14_property 42 = .ok (.getfield 797, 3) := by decide +kernel
theorem dX14_property_45 : decode cX14_property 45 = .ok (.if_icmp .ge 46, 3) := by decide +kernel
theorem dX14_property_48 : decode cX14_property 48 = .ok (.aload_n 0, 1) := by decide +kernel
theorem dX14_property_49 : decode cX14_property 49 = .ok (.getfield 791, 3) := by decide +kernel
theorem dX14_property_52 : decode cX14_property 52 = .ok (.iconst 1, 1) := by decide +kernel
theorem dX14_property_53 : decode cX14_property 53 = .ok (.if_icmp .lt 38, 3) := by decide +kernel
theorem dX14_property_56 : decode cX14_property 56 = .ok (.aload_n 0, 1) := by decide +kernel
theorem dX14_property_57 : decode cX14_property 57 = .ok (.getfield 791, 3) := by decide +kernel
theorem dX14_property_60 : decode cX14_property 60 = .ok (.bipush 16, 2) := by decide +kernel
theorem dX14_property_62 : decode cX14_property 62 = .ok (.if_icmp .gt 29, 3) := by decide +kernel
theorem dX14_property_65 : decode cX14_property 65 = .ok (.aload_n 0, 1) := by decide +kernel
theorem dX14_property_66 : decode cX14_property 66 = .ok (.getfield 80, 3) := by decide +kernel
theorem dX14_property_69 : decode cX14_property 69 = .ok (.iload_n 1, 1) := by decide +kernel
theorem dX14_property_70 : decode cX14_property 70 = .ok (.iaload, 1) := by decide +kernel
theorem dX14_property_71 : decode cX14_property 71 = .ok (.bipush 12, 2) := by decide +kernel
theorem dX14_property_73 : decode cX14_property 73 = .ok (.if_icmp .eq 18, 3) := by decide +kernel
theorem dX14_property_76 : decode cX14_property 76 = .ok (.aload_n 0, 1) := by decide +kernel
theorem dX14_property_77 : decode cX14_property 77 = .ok (.getfield 800, 3) := by decide +kernel
theorem dX14_property_80 : decode cX14_property 80 = .ok (.aload_n 0, 1) := by decide +kernel
theorem dX14_property_81 : decode cX14_property 81 = .ok (.getfield 791, 3) := by decide +kernel
theorem dX14_property_84 : decode cX14_property 84 = .ok (.iadd, 1) := by decide +kernel
theorem dX14_property_85 : decode cX14_property 85 = .ok (.sipush 16000, 3) := by decide +kernel
theorem dX14_property_88 : decode cX14_property 88 = .ok (.if_icmp .le 5, 3) := by decide +kernel
theorem dX14_property_93 : decode cX14_property 93 = .ok (.bipush 12, 2) := by decide +kernel
theorem dX14_property_95 : decode cX14_property 95 = .ok (.iload_n 1, 1) := by decide +kernel
theorem dX14_property_96 : decode cX14_property 96 = .ok (.imul, 1) := by decide +kernel
theorem dX14_property_97 : decode cX14_property 97 = .ok (.istore 4, 2) := by decide +kernel
theorem dX14_property_99 : decode cX14_property 99 = .ok (.iload 4, 2) := by decide +kernel
theorem dX14_property_101 : decode cX14_property 101 = .ok (.bipush 12, 2) := by decide +kernel
theorem dX14_property_103 : decode cX14_property 103 = .ok (.iload_n 1, 1) := by decide +kernel
theorem dX14_property_104 : decode cX14_property 104 = .ok (.imul, 1) := by decide +kernel
theorem dX14_property_105 : decode cX14_property 105 = .ok (.aload_n 0, 1) := by decide +kernel
theorem dX14_property_106 : decode cX14_property 106 = .ok (.getfield 80, 3) := by decide +kernel
theorem dX14_property_109 : decode cX14_property 109 = .ok (.iload_n 1, 1) := by decide +kernel
theorem dX14_property_110 : decode cX14_property 110 = .ok (.iaload, 1) := by decide +kernel
theorem dX14_property_111 : decode cX14_property 111 = .ok (.iadd, 1) := by decide +kernel
theorem dX14_property_112 : decode cX14_property 112 = .ok (.if_icmp .ge 43, 3) := by decide +kernel
theorem dX14_property_155 : decode cX14_property 155 = .ok (.bipush 12, 2) := by decide +kernel
theorem dX14_property_157 : decode cX14_property 157 = .ok (.iload_n 1, 1) := by decide +kernel
theorem dX14_property_158 : decode cX14_property 158 = .ok (.imul, 1) := by decide +kernel
theorem dX14_property_159 : decode cX14_property 159 = .ok (.aload_n 0, 1) := by decide +kernel
theorem dX14_property_160 : decode cX14_property 160 = .ok (.getfield 80, 3) := by decide +kernel
theorem dX14_property_163 : decode cX14_property 163 = .ok (.iload_n 1, 1) := by decide +kernel
theorem dX14_property_164 : decode cX14_property 164 = .ok (.iaload, 1) := by decide +kernel
theorem dX14_property_165 : decode cX14_property 165 = .ok (.iadd, 1) := by decide +kernel
theorem dX14_property_166 : decode cX14_property 166 = .ok (.istore 4, 2) := by decide +kernel
theorem dX14_property_168 : decode cX14_property 168 = .ok (.aload_n 0, 1) := by decide +kernel
theorem dX14_property_169 : decode cX14_property 169 = .ok (.getfield 96, 3) := by decide +kernel
theorem dX14_property_172 : decode cX14_property 172 = .ok (.iload 4, 2) := by decide +kernel
theorem dX14_property_174 : decode cX14_property 174 = .ok (.aload_n 0, 1) := by decide +kernel
theorem dX14_property_175 : decode cX14_property 175 = .ok (.invokevirtual 827, 3) := by decide +kernel
theorem dX14_property_178 : decode cX14_property 178 = .ok (.iastore, 1) := by decide +kernel
theorem dX14_property_179 : decode cX14_property 179 = .ok (.aload_n 0, 1) := by decide +kernel
theorem dX14_property_180 : decode cX14_property 180 = .ok (.getfield 99, 3) := by decide +kernel
theorem dX14_property_183 : decode cX14_property 183 = .ok (.iload 4, 2) := by decide +kernel
theorem dX14_property_185 : decode cX14_property 185 = .ok (.aload_n 0, 1) := by decide +kernel
theorem dX14_property_186 : decode cX14_property 186 = .ok (.getfield 791, 3) := by decide +kernel
theorem dX14_property_189 : decode cX14_property 189 = .ok (.iastore, 1) := by decide +kernel
theorem dX14_property_190 : decode cX14_property 190 = .ok (.aload_n 0, 1) := by decide +kernel
theorem dX14_property_191 : decode cX14_property 191 = .ok (.getfield 102, 3) := by decide +kernel
theorem dX14_property_194 : decode cX14_property 194 = .ok (.iload 4, 2) := by decide +kernel
theorem dX14_property_196 : decode cX14_property 196 = .ok (.iload_n 2, 1) := by decide +kernel
theorem dX14_property_197 : decode cX14_property 197 = .ok (.iastore, 1) := by decide +kernel
theorem dX14_property_198 : decode cX14_property 198 = .ok (.aload_n 0, 1) := by decide +kernel
theorem dX14_property_199 : decode cX14_property 199 = .ok (.getfield 105, 3) := by decide +kernel
theorem dX14_property_202 : decode cX14_property 202 = .ok (.iload 4, 2) := by decide +kernel
theorem dX14_property_204 : decode cX14_property 204 = .ok (.iload_n 3, 1) := by decide +kernel
theorem dX14_property_205 : decode cX14_property 205 = .ok (.iastore, 1) := by decide +kernel
theorem dX14_property_206 : decode cX14_property 206 = .ok (.aload_n 0, 1) := by decide +kernel
theorem dX14_property_207 : decode cX14_property 207 = .ok (.getfield 80, 3) := by decide +kernel
theorem dX14_property_210 : decode cX14_property 210 = .ok (.iload_n 1, 1) := by decide +kernel
theorem dX14_property_211 : decode cX14_property 211 = .ok (.dup2, 1) := by decide +kernel
theorem dX14_property_212 : decode cX14_property 212 = .ok (.iaload, 1) := by decide +kernel
theorem dX14_property_213 : decode cX14_property 213 = .ok (.iconst 1, 1) := by decide +kernel
theorem dX14_property_214 : decode cX14_property 214 = .ok (.iadd, 1) := by decide +kernel
theorem dX14_property_215 : decode cX14_property 215 = .ok (.iastore, 1) := by decide +kernel
theorem dX14_property_216 : decode cX14_property 216 = .ok (.iconst 1, 1) := by decide +kernel
theorem dX14_property_217 : decode cX14_property 217 = .ok (.ireturn, 1) := by decide +kernel
theorem dX14_property_115 : decode cX14_property 115 = .ok (.aload_n 0, 1) := by decide +kernel
theorem dX14_property_116 : decode cX14_property 116 = .ok (.getfield 102, 3) := by decide +kernel
theorem dX14_property_119 : decode cX14_property 119 = .ok (.iload 4, 2) := by decide +kernel
theorem dX14_property_121 : decode cX14_property 121 = .ok (.iaload, 1) := by decide +kernel
theorem dX14_property_122 : decode cX14_property 122 = .ok (.iload_n 2, 1) := by decide +kernel
theorem dX14_property_123 : decode cX14_property 123 = .ok (.if_icmp .ne 26, 3) := by decide +kernel
theorem dX14_property_149 : decode cX14_property 149 = .ok (.iinc 4 1, 3) := by decide +kernel
theorem dX14_property_152 : decode cX14_property 152 = .ok (.goto (-53), 3) := by decide +kernel
theorem dX14_property_126 : decode cX14_property 126 = .ok (.aload_n 0, 1) := by decide +kernel
theorem dX14_property_127 : decode cX14_property 127 = .ok (.aload_n 0, 1) := by decide +kernel
theorem dX14_property_128 : decode cX14_property 128 = .ok (.getfield 96, 3) := by decide +kernel
theorem dX14_property_131 : decode cX14_property 131 = .ok (.iload 4, 2) := by decide +kernel
theorem dX14_property_133 : decode cX14_property 133 = .ok (.iaload, 1) := by decide +kernel
theorem dX14_property_134 : decode cX14_property 134 = .ok (.aload_n 0, 1) := by decide +kernel
theorem dX14_property_135 : decode cX14_property 135 = .ok (.getfield 99, 3) := by decide +kernel
theorem dX14_property_138 : decode cX14_property 138 = .ok (.iload 4, 2) := by decide +kernel
theorem dX14_property_140 : decode cX14_property 140 = .ok (.iaload, 1) := by decide +kernel
theorem dX14_property_141 : decode cX14_property 141 = .ok (.invokevirtual 824, 3) := by decide +kernel
theorem dX14_property_144 : decode cX14_property 144 = .ok (.ifCond .eq 5, 3) := by decide +kernel
theorem dX14_property_147 : decode cX14_property 147 = .ok (.iconst 0, 1) := by decide +kernel
theorem dX14_property_148 : decode cX14_property 148 = .ok (.ireturn, 1) := by decide +kernel
def pre_X14_add (σ : rS) (x1 : Int) (x2 : Int) : Prop := 0 ≤ (rF σ 0 43) ∧ (rF σ 0 43) ≤ 500 ∧ 0 ≤ (rF σ 0 45) ∧ (rF σ 0 45) ≤ 16000 ∧ 0 ≤ (rF σ 0 44) ∧ (rF σ 0 44) ≤ 4000 ∧ 0 ≤ (rF σ 0 60) ∧ (rF σ 0 60) ≤ 40 ∧ 0 ≤ (rF σ 0 3) ∧ (rF σ 0 3) ≤ 4000 ∧ VMp σ ∧ KYp σ ∧ PPp σ ∧ WFp σ
def post_X14_add (σ : rS) (x1 : Int) (x2 : Int) (r : Int) (σ' : rS) : Prop := 0 ≤ (rF σ' 0 43) ∧ (rF σ' 0 43) ≤ 500 ∧ 0 ≤ (rF σ' 0 45) ∧ (rF σ' 0 45) ≤ 16000 ∧ 0 ≤ (rF σ' 0 44) ∧ (rF σ' 0 44) ≤ 4000 ∧ 0 ≤ (rF σ' 0 60) ∧ (rF σ' 0 60) ≤ 40 ∧ 0 ≤ (rF σ' 0 3) ∧ (rF σ' 0 3) ≤ 4000 ∧ VMp σ' ∧ KYp σ' ∧ PPp σ' ∧ WFp σ'
def VC_X14_add (σ : rS) (x1 : Int) (x2 : Int) (Q : Int → rS → Prop) : Prop := pre_X14_isMade (sF σ 0 0 0) ∧ (∀ (x13 : Int), rng x13 → post_X14_isMade (sF σ 0 0 0) x13 → ((¬ x13 = 0 → Q 0 (sF σ 0 0 0)) ∧ (x13 = 0 → pre_X14_isValue (sF σ 0 0 0) x1 3 ∧ (∀ (x16 : Int), rng x16 → post_X14_isValue (sF σ 0 0 0) x1 3 x16 → ((x16 = 0 → Q 0 (sF σ 0 0 0)) ∧ (¬ x16 = 0 → pre_X14_mayHave (sF σ 0 0 0) x1 x2 ∧ (∀ (x19 : Int), rng x19 → post_X14_mayHave (sF σ 0 0 0) x1 x2 x19 → ((x19 = 0 → Q 0 (sF σ 0 0 0)) ∧ (¬ x19 = 0 → (0 ≤ x1 ∧ x1 < 500) ∧ (rng (rA σ 1051 x1) → (((rA σ 1051 x1) = 100 → Q 0 (sF σ 0 0 0)) ∧ (¬ (rA σ 1051 x1) = 100 → (rng (rF σ 0 44) → ((¬ (rF σ 0 44) = 4000 → (0 ≤ x1 ∧ x1 < 500) ∧ (0 ≤ ((100 * x1) + (rA σ 1051 x1)) ∧ ((100 * x1) + (rA σ 1051 x1)) < 50000) ∧ (0 ≤ x1 ∧ x1 < 500) ∧ (0 ≤ x1 ∧ x1 < 500) ∧ rng ((rA σ 1051 x1) + 1) ∧ rng ((rF σ 0 44) + 1) ∧ Q 1 (sF (sA (sA (sF σ 0 0 0) 1052 ((100 * x1) + (rA σ 1051 x1)) x2) 1051 x1 ((rA σ 1051 x1) + 1)) 0 44 ((rF σ 0 44) + 1))) ∧ ((rF σ 0 44) = 4000 → Q 0 (sF σ 0 0 0))))))))))))))))
set_option maxHeartbeats 400000 in
theorem vX14_add (σ : rS) (x1 : Int) (x2 : Int) (hwf : rWF σ) (hx1 : rng x1) (hx2 : rng x2) (hp : pre_X14_add σ x1 x2) : VC_X14_add σ x1 x2 (post_X14_add σ x1 x2) := by
  simp only [VC_X14_add, pre_X14_add, post_X14_add, pre_X14_mayHave, pre_X14_isValue, pre_X14_isMade, post_X14_mayHave, post_X14_isValue, post_X14_isMade, VMp, rng, rfk, rNMp, rF_sF, rF_sA, rF_sL, rF_sR, rA_sA, rA_sF, rA_sL, rA_sR, rR_sF, rR_sA, rR_sL, rR_sR, reduceIte, and_true, true_and, and_false, false_and, and_self, VMp_sL, VMp_sF0, VMp_sF3, VMp_sF10, VMp_sF11, VMp_sF12, VMp_sF13, VMp_sF14, VMp_sF16, VMp_sF17, VMp_sF18, VMp_sF19, VMp_sF21, VMp_sF22, VMp_sF23, VMp_sF24, VMp_sF25, VMp_sF28, VMp_sF29, VMp_sF30, VMp_sF31, VMp_sF32, VMp_sF33, VMp_sF38, VMp_sF39, VMp_sF41, VMp_sF42, VMp_sF43, VMp_sF44, VMp_sF45, VMp_sF60, VMp_sF65, VMp_sF66, VMp_sF67, VMp_sF68, VMp_sF70, VMp_sF71, VMp_sF72, VMp_sF73, VMp_sF74, VMp_sF80, VMp_sF81, VMp_sF82, VMp_sF83, VMp_sF88, VMp_sF92, VMp_sF94, VMp_sF96, VMp_sF97, VMp_sF98, VMp_sF99, VMp_sF100, VMp_sF101, VMp_sF103, VMp_sF104, VMp_sF112, VMp_sF113, VMp_sF118, VMp_sF119, VMp_sF122, VMp_sF123, VMp_sF135, VMp_sF137, VMp_sA1, VMp_sA2, VMp_sA5, VMp_sA20, VMp_sA26, VMp_sA27, VMp_sA34, VMp_sA35, VMp_sA36, VMp_sA37, VMp_sA40, VMp_sA47, VMp_sA48, VMp_sA49, VMp_sA50, VMp_sA52, VMp_sA53, VMp_sA54, VMp_sA55, VMp_sA56, VMp_sA57, VMp_sA58, VMp_sA59, VMp_sA61, VMp_sA62, VMp_sA63, VMp_sA64, VMp_sA69, VMp_sA75, VMp_sA76, VMp_sA77, VMp_sA78, VMp_sA79, VMp_sA84, VMp_sA85, VMp_sA86, VMp_sA87, VMp_sA89, VMp_sA90, VMp_sA91, VMp_sA93, VMp_sA102, VMp_sA105, VMp_sA106, VMp_sA107, VMp_sA108, VMp_sA109, VMp_sA110, VMp_sA111, VMp_sA114, VMp_sA115, VMp_sA116, VMp_sA117, VMp_sA120, VMp_sA121, VMp_sA124, VMp_sA125, VMp_sA126, VMp_sA127, VMp_sA128, VMp_sA129, VMp_sA136, VMp_sA138, VMp_gA0, VMp_gA1, VMp_gA2, VMp_gA3, VMp_gA4, VMp_gA5, VMp_gA6, VMp_gA8, VMp_gA10, VMp_gA11, VMp_gA15, VMp_gA16, VMp_gA17, VMp_gA18, VMp_gA19, VMp_gA20, VMp_gA21, VMp_gA22, VMp_gA23, VMp_gA24, VMp_gA25, VMp_gA26, VMp_gA27, VMp_gA29, VMp_gA30, VMp_gA31, VMp_gA33, VMp_gA34, VMp_gA35, VMp_gA36, VMp_gA37, VMp_sF7, VMp_sF9, KYp_sL, KYp_sF0, KYp_sF3, KYp_sF10, KYp_sF11, KYp_sF12, KYp_sF13, KYp_sF14, KYp_sF16, KYp_sF17, KYp_sF18, KYp_sF19, KYp_sF21, KYp_sF22, KYp_sF23, KYp_sF24, KYp_sF25, KYp_sF28, KYp_sF29, KYp_sF30, KYp_sF31, KYp_sF32, KYp_sF33, KYp_sF38, KYp_sF39, KYp_sF41, KYp_sF42, KYp_sF43, KYp_sF44, KYp_sF45, KYp_sF60, KYp_sF65, KYp_sF66, KYp_sF67, KYp_sF68, KYp_sF70, KYp_sF71, KYp_sF72, KYp_sF73, KYp_sF74, KYp_sF80, KYp_sF81, KYp_sF82, KYp_sF83, KYp_sF88, KYp_sF92, KYp_sF94, KYp_sF96, KYp_sF97, KYp_sF98, KYp_sF99, KYp_sF100, KYp_sF101, KYp_sF103, KYp_sF104, KYp_sF112, KYp_sF113, KYp_sF118, KYp_sF119, KYp_sF122, KYp_sF123, KYp_sF135, KYp_sF137, KYp_sA1, KYp_sA2, KYp_sA5, KYp_sA20, KYp_sA26, KYp_sA27, KYp_sA34, KYp_sA35, KYp_sA36, KYp_sA37, KYp_sA40, KYp_sA46, KYp_sA47, KYp_sA48, KYp_sA49, KYp_sA50, KYp_sA51, KYp_sA52, KYp_sA55, KYp_sA56, KYp_sA57, KYp_sA58, KYp_sA59, KYp_sA61, KYp_sA62, KYp_sA63, KYp_sA64, KYp_sA69, KYp_sA75, KYp_sA76, KYp_sA77, KYp_sA78, KYp_sA79, KYp_sA84, KYp_sA85, KYp_sA86, KYp_sA87, KYp_sA89, KYp_sA90, KYp_sA91, KYp_sA93, KYp_sA102, KYp_sA105, KYp_sA106, KYp_sA107, KYp_sA108, KYp_sA109, KYp_sA110, KYp_sA111, KYp_sA114, KYp_sA115, KYp_sA116, KYp_sA117, KYp_sA120, KYp_sA121, KYp_sA124, KYp_sA125, KYp_sA126, KYp_sA127, KYp_sA128, KYp_sA129, KYp_sA136, KYp_sA138, KYp_gA0, KYp_gA1, KYp_gA2, KYp_gA3, KYp_gA4, KYp_gA5, KYp_gA6, KYp_gA8, KYp_gA10, KYp_gA11, KYp_gA15, KYp_gA16, KYp_gA17, KYp_gA18, KYp_gA19, KYp_gA20, KYp_gA21, KYp_gA22, KYp_gA23, KYp_gA24, KYp_gA25, KYp_gA26, KYp_gA27, KYp_gA29, KYp_gA30, KYp_gA31, KYp_gA33, KYp_gA34, KYp_gA35, KYp_gA36, KYp_gA37, KYp_sF7, KYp_sF9, PPp_sL, PPp_sF0, PPp_sF3, PPp_sF10, PPp_sF11, PPp_sF12, PPp_sF13, PPp_sF14, PPp_sF16, PPp_sF17, PPp_sF18, PPp_sF19, PPp_sF21, PPp_sF22, PPp_sF23, PPp_sF24, PPp_sF25, PPp_sF28, PPp_sF29, PPp_sF30, PPp_sF31, PPp_sF32, PPp_sF33, PPp_sF38, PPp_sF39, PPp_sF41, PPp_sF42, PPp_sF43, PPp_sF44, PPp_sF45, PPp_sF60, PPp_sF65, PPp_sF66, PPp_sF67, PPp_sF68, PPp_sF70, PPp_sF71, PPp_sF72, PPp_sF73, PPp_sF74, PPp_sF80, PPp_sF81, PPp_sF82, PPp_sF83, PPp_sF88, PPp_sF92, PPp_sF94, PPp_sF96, PPp_sF97, PPp_sF98, PPp_sF99, PPp_sF100, PPp_sF101, PPp_sF103, PPp_sF104, PPp_sF112, PPp_sF113, PPp_sF118, PPp_sF119, PPp_sF122, PPp_sF123, PPp_sF135, PPp_sF137, PPp_sA1, PPp_sA2, PPp_sA5, PPp_sA20, PPp_sA26, PPp_sA27, PPp_sA34, PPp_sA35, PPp_sA36, PPp_sA37, PPp_sA40, PPp_sA46, PPp_sA47, PPp_sA48, PPp_sA49, PPp_sA50, PPp_sA51, PPp_sA52, PPp_sA53, PPp_sA54, PPp_sA55, PPp_sA58, PPp_sA59, PPp_sA61, PPp_sA62, PPp_sA63, PPp_sA64, PPp_sA69, PPp_sA75, PPp_sA76, PPp_sA77, PPp_sA78, PPp_sA79, PPp_sA84, PPp_sA85, PPp_sA86, PPp_sA87, PPp_sA89, PPp_sA90, PPp_sA91, PPp_sA93, PPp_sA102, PPp_sA105, PPp_sA106, PPp_sA107, PPp_sA108, PPp_sA109, PPp_sA110, PPp_sA111, PPp_sA114, PPp_sA115, PPp_sA116, PPp_sA117, PPp_sA120, PPp_sA121, PPp_sA124, PPp_sA125, PPp_sA126, PPp_sA127, PPp_sA128, PPp_sA129, PPp_sA136, PPp_sA138, PPp_gA0, PPp_gA1, PPp_gA2, PPp_gA3, PPp_gA4, PPp_gA5, PPp_gA6, PPp_gA8, PPp_gA10, PPp_gA11, PPp_gA15, PPp_gA16, PPp_gA17, PPp_gA18, PPp_gA19, PPp_gA20, PPp_gA21, PPp_gA22, PPp_gA23, PPp_gA24, PPp_gA25, PPp_gA26, PPp_gA27, PPp_gA29, PPp_gA30, PPp_gA31, PPp_gA33, PPp_gA34, PPp_gA35, PPp_gA36, PPp_gA37, PPp_sF7, PPp_sF9, WFp_sL, WFp_sF0, WFp_sF3, WFp_sF10, WFp_sF11, WFp_sF12, WFp_sF13, WFp_sF14, WFp_sF16, WFp_sF17, WFp_sF18, WFp_sF19, WFp_sF21, WFp_sF22, WFp_sF23, WFp_sF24, WFp_sF25, WFp_sF28, WFp_sF29, WFp_sF30, WFp_sF31, WFp_sF32, WFp_sF33, WFp_sF38, WFp_sF39, WFp_sF41, WFp_sF42, WFp_sF43, WFp_sF44, WFp_sF45, WFp_sF60, WFp_sF65, WFp_sF66, WFp_sF67, WFp_sF68, WFp_sF70, WFp_sF71, WFp_sF72, WFp_sF73, WFp_sF74, WFp_sF80, WFp_sF81, WFp_sF82, WFp_sF83, WFp_sF88, WFp_sF92, WFp_sF94, WFp_sF96, WFp_sF97, WFp_sF98, WFp_sF99, WFp_sF100, WFp_sF101, WFp_sF103, WFp_sF104, WFp_sF112, WFp_sF113, WFp_sF118, WFp_sF119, WFp_sF122, WFp_sF123, WFp_sF135, WFp_sF137, WFp_sA1, WFp_sA2, WFp_sA5, WFp_sA20, WFp_sA26, WFp_sA27, WFp_sA34, WFp_sA35, WFp_sA36, WFp_sA37, WFp_sA40, WFp_sA46, WFp_sA47, WFp_sA48, WFp_sA51, WFp_sA52, WFp_sA53, WFp_sA54, WFp_sA55, WFp_sA56, WFp_sA57, WFp_sA58, WFp_sA59, WFp_sA61, WFp_sA62, WFp_sA63, WFp_sA64, WFp_sA69, WFp_sA75, WFp_sA76, WFp_sA77, WFp_sA78, WFp_sA79, WFp_sA84, WFp_sA85, WFp_sA86, WFp_sA87, WFp_sA89, WFp_sA90, WFp_sA91, WFp_sA93, WFp_sA102, WFp_sA105, WFp_sA106, WFp_sA107, WFp_sA108, WFp_sA109, WFp_sA110, WFp_sA111, WFp_sA114, WFp_sA115, WFp_sA116, WFp_sA117, WFp_sA120, WFp_sA121, WFp_sA124, WFp_sA125, WFp_sA126, WFp_sA127, WFp_sA128, WFp_sA129, WFp_sA136, WFp_sA138, WFp_gA0, WFp_gA1, WFp_gA2, WFp_gA3, WFp_gA4, WFp_gA5, WFp_gA6, WFp_gA8, WFp_gA10, WFp_gA11, WFp_gA15, WFp_gA16, WFp_gA17, WFp_gA18, WFp_gA19, WFp_gA20, WFp_gA21, WFp_gA22, WFp_gA23, WFp_gA24, WFp_gA25, WFp_gA26, WFp_gA27, WFp_gA29, WFp_gA30, WFp_gA31, WFp_gA33, WFp_gA34, WFp_gA35, WFp_gA36, WFp_gA37, WFp_sF7, WFp_sF9] at *
  (repeat' (first | with_reducible intro _ | with_reducible apply And.intro))
  all_goals (first | assumption | omega | grind (splits := 20) [rNM_sF0])
theorem wX14_add (l : Launch) (G : zG) (κ : Nat → Nat) (σ : rS) (x1 : Int) (x2 : Int) (hwf : rWF σ) (hx1 : rng x1) (hx2 : rng x2) (Q : Int → rS → Prop) (h : VC_X14_add σ x1 x2 Q) : rMi l G κ yX14_add cX14_add 3 .boolean 2 22 [.ref (κ 0), iv x1, iv x2] σ (fun x s => rKeep 0x100000000001 0 0x18000000000000 0 0 σ s ∧ Q x s) := by
  refine zMi.intro (by decide +kernel) (Nat.le_of_ble_eq_true rfl) (fun X hC hR => ?_)
  refine z_aload_n hC (pc := 0) 0 dX14_add_0 rfl rfl ?_
  refine z_iconst hC (pc := 1) (v := Int32.ofInt 0) dX14_add_1 (by decide) ?_
  refine y_putI hC (pc := 2) zf14 rOb_0 0 (x := 0) dX14_add_2 zw2468 (Or.inl rfl) rfl rfl (kk := ?_)
  have W10 := hwf.sF (q := 0) (f := 0) (x := 0) (r_lit rfl)
  refine z_aload_n hC (pc := 5) 0 dX14_add_5 rfl rfl ?_
  obtain ⟨p11, h⟩ := h
  refine y_callVi hC (pc := 6) (As := []) (kX14_isMade l G κ (sF σ 0 0 0)  W10  p11) dmX14_isMade zf14 rOb_0 dX14_add_6 zw2893 rfl rfl (Nat.le_of_ble_eq_true rfl) (Nat.le_of_ble_eq_true rfl) (Nat.le_of_ble_eq_true rfl) (Nat.le_of_ble_eq_true rfl) (Nat.le_of_ble_eq_true rfl) (kk := fun x13 s12 hx13 Ws12 qs12 => ?_)
  obtain ⟨es12, qs12⟩ := qs12
  have es12 := es12.symm
  subst es12
  have h := h x13 hx13 qs12
  obtain ⟨hT, hF⟩ := h
  refine y_if_ne hC (pc := 9) 51 hx13 dX14_add_9 (by decide) (fun c => ?_) (fun c => ?_)
  · have h := hT c
    refine z_iconst hC (pc := 51) (v := Int32.ofInt 0) dX14_add_51 (by decide) ?_
    exact y_reti hR dX14_add_52 rfl (r_lit rfl) W10 (Nat.le_of_ble_eq_true rfl) (Nat.le_of_ble_eq_true rfl) ⟨(rKeep.tr rKeep.rf (rKeep.sF0 (f := 0)) rfl rfl rfl rfl rfl), h⟩
  · have h := hF c
    refine z_aload_n hC (pc := 12) 0 dX14_add_12 rfl rfl ?_
    refine z_iload_n hC (pc := 13) 1 dX14_add_13 rfl rfl ?_
    refine z_iconst hC (pc := 14) (v := Int32.ofInt 3) dX14_add_14 (by decide) ?_
    obtain ⟨p14, h⟩ := h
    refine y_callVi hC (pc := 15) (As := [iv x1, iv 3]) (kX14_isValue l G κ (sF σ 0 0 0) x1 3 W10 hx1 (r_lit rfl) p14) dmX14_isValue zf14 rOb_0 dX14_add_15 zw2925 rfl rfl (Nat.le_of_ble_eq_true rfl) (Nat.le_of_ble_eq_true rfl) (Nat.le_of_ble_eq_true rfl) (Nat.le_of_ble_eq_true rfl) (Nat.le_of_ble_eq_true rfl) (kk := fun x16 s15 hx16 Ws15 qs15 => ?_)
    obtain ⟨es15, qs15⟩ := qs15
    have es15 := es15.symm
    subst es15
    have h := h x16 hx16 qs15
    obtain ⟨hT, hF⟩ := h
    refine y_if_eq hC (pc := 18) 51 hx16 dX14_add_18 (by decide) (fun c => ?_) (fun c => ?_)
    · have h := hT c
      refine z_iconst hC (pc := 51) (v := Int32.ofInt 0) dX14_add_51 (by decide) ?_
      exact y_reti hR dX14_add_52 rfl (r_lit rfl) W10 (Nat.le_of_ble_eq_true rfl) (Nat.le_of_ble_eq_true rfl) ⟨(rKeep.tr rKeep.rf (rKeep.sF0 (f := 0)) rfl rfl rfl rfl rfl), h⟩
    · have h := hF c
      refine z_aload_n hC (pc := 21) 0 dX14_add_21 rfl rfl ?_
      refine z_iload_n hC (pc := 22) 1 dX14_add_22 rfl rfl ?_
      refine z_iload_n hC (pc := 23) 2 dX14_add_23 rfl rfl ?_
      obtain ⟨p17, h⟩ := h
      refine y_callVi hC (pc := 24) (As := [iv x1, iv x2]) (kX14_mayHave l G κ (sF σ 0 0 0) x1 x2 W10 hx1 hx2 p17) dmX14_mayHave zf14 rOb_0 dX14_add_24 zw2929 rfl rfl (Nat.le_of_ble_eq_true rfl) (Nat.le_of_ble_eq_true rfl) (Nat.le_of_ble_eq_true rfl) (Nat.le_of_ble_eq_true rfl) (Nat.le_of_ble_eq_true rfl) (kk := fun x19 s18 hx19 Ws18 qs18 => ?_)
      obtain ⟨es18, qs18⟩ := qs18
      have es18 := es18.symm
      subst es18
      have h := h x19 hx19 qs18
      obtain ⟨hT, hF⟩ := h
      refine y_if_eq hC (pc := 27) 51 hx19 dX14_add_27 (by decide) (fun c => ?_) (fun c => ?_)
      · have h := hT c
        refine z_iconst hC (pc := 51) (v := Int32.ofInt 0) dX14_add_51 (by decide) ?_
        exact y_reti hR dX14_add_52 rfl (r_lit rfl) W10 (Nat.le_of_ble_eq_true rfl) (Nat.le_of_ble_eq_true rfl) ⟨(rKeep.tr rKeep.rf (rKeep.sF0 (f := 0)) rfl rfl rfl rfl rfl), h⟩
      · have h := hF c
        refine z_aload_n hC (pc := 30) 0 dX14_add_30 rfl rfl ?_
        refine y_get hC (pc := 31) zf14 rOb_0 51 (v := .ref (κ 1051)) dX14_add_31 zw2518 (rv_c rfl) (kk := ?_)
        refine z_iload_n hC (pc := 34) 1 dX14_add_34 rfl rfl ?_
        obtain ⟨b20, h⟩ := h
        refine y_iald hC (pc := 35) (rAr_m rfl) dX14_add_35 b20 (v := (rA σ 1051 x1)) rfl (kk := ?_)
        have h := h (hwf.a _ _)
        refine z_bipush hC (pc := 36) (v := Int32.ofInt 100) dX14_add_36 (by decide) ?_
        obtain ⟨hT, hF⟩ := h
        refine y_icmp_eq hC (pc := 38) 51 (hwf.a _ _) (r_lit rfl) dX14_add_38 (by decide) (fun c => ?_) (fun c => ?_)
        · have h := hT c
          refine z_iconst hC (pc := 51) (v := Int32.ofInt 0) dX14_add_51 (by decide) ?_
          exact y_reti hR dX14_add_52 rfl (r_lit rfl) W10 (Nat.le_of_ble_eq_true rfl) (Nat.le_of_ble_eq_true rfl) ⟨(rKeep.tr rKeep.rf (rKeep.sF0 (f := 0)) rfl rfl rfl rfl rfl), h⟩
        · have h := hF c
          refine z_aload_n hC (pc := 41) 0 dX14_add_41 rfl rfl ?_
          refine y_get hC (pc := 42) zf14 rOb_0 44 (v := iv (rF σ 0 44)) dX14_add_42 zw2511 (rv_i (Or.inl rfl) ((F_sF_ne (by decide)).trans rfl)) (kk := ?_)
          have h := h (hwf.f _ _)
          refine z_sipush hC (pc := 45) (v := Int32.ofInt 4000) dX14_add_45 (by decide) ?_
          obtain ⟨hT, hF⟩ := h
          refine y_icmp_ne hC (pc := 48) 53 (hwf.f _ _) (r_lit rfl) dX14_add_48 (by decide) (fun c => ?_) (fun c => ?_)
          · have h := hT c
            refine z_aload_n hC (pc := 53) 0 dX14_add_53 rfl rfl ?_
            refine y_get hC (pc := 54) zf14 rOb_0 52 (v := .ref (κ 1052)) dX14_add_54 zw2519 (rv_c rfl) (kk := ?_)
            refine z_bipush hC (pc := 57) (v := Int32.ofInt 100) dX14_add_57 (by decide) ?_
            refine z_iload_n hC (pc := 59) 1 dX14_add_59 rfl rfl ?_
            refine y_imul hC (pc := 60) (v := (100 * x1)) dX14_add_60 rfl ?_
            refine z_aload_n hC (pc := 61) 0 dX14_add_61 rfl rfl ?_
            refine y_get hC (pc := 62) zf14 rOb_0 51 (v := .ref (κ 1051)) dX14_add_62 zw2518 (rv_c rfl) (kk := ?_)
            refine z_iload_n hC (pc := 65) 1 dX14_add_65 rfl rfl ?_
            obtain ⟨b21, h⟩ := h
            refine y_iald hC (pc := 66) (rAr_m rfl) dX14_add_66 b21 (v := (rA σ 1051 x1)) rfl (kk := ?_)
            refine y_iadd hC (pc := 67) (v := ((100 * x1) + (rA σ 1051 x1))) dX14_add_67 rfl ?_
            refine z_iload_n hC (pc := 68) 2 dX14_add_68 rfl rfl ?_
            obtain ⟨b22, h⟩ := h
            refine y_iast hC (pc := 69) (rAr_m rfl) dX14_add_69 b22 (v := x2) (kk := ?_)
            have W23 := W10.sA (p := 1052) (i := ((100 * x1) + (rA σ 1051 x1))) (x := x2) hx2
            refine z_aload_n hC (pc := 70) 0 dX14_add_70 rfl rfl ?_
            refine y_get hC (pc := 71) zf14 rOb_0 51 (v := .ref (κ 1051)) dX14_add_71 zw2518 (rv_c rfl) (kk := ?_)
            refine z_iload_n hC (pc := 74) 1 dX14_add_74 rfl rfl ?_
            refine z_dup2 hC (pc := 75) dX14_add_75 rfl rfl ?_
            obtain ⟨b24, h⟩ := h
            refine y_iald hC (pc := 76) (rAr_m rfl) dX14_add_76 b24 (v := (rA σ 1051 x1)) ((A_sA_ne (by decide)).trans rfl) (kk := ?_)
            refine z_iconst hC (pc := 77) (v := Int32.ofInt 1) dX14_add_77 (by decide) ?_
            refine y_iadd hC (pc := 78) (v := ((rA σ 1051 x1) + 1)) dX14_add_78 rfl ?_
            obtain ⟨b25, h⟩ := h
            obtain ⟨r26, h⟩ := h
            refine y_iast hC (pc := 79) (rAr_m rfl) dX14_add_79 b25 (v := ((rA σ 1051 x1) + 1)) (kk := ?_)
            have W27 := W23.sA (p := 1051) (i := x1) (x := ((rA σ 1051 x1) + 1)) r26
            refine z_aload_n hC (pc := 80) 0 dX14_add_80 rfl rfl ?_
            refine z_dup hC (pc := 81) dX14_add_81 rfl ?_
            refine y_get hC (pc := 82) zf14 rOb_0 44 (v := iv (rF σ 0 44)) dX14_add_82 zw2511 (rv_i (Or.inl rfl) ((F_sF_ne (by decide)).trans rfl)) (kk := ?_)
            refine z_iconst hC (pc := 85) (v := Int32.ofInt 1) dX14_add_85 (by decide) ?_
            refine y_iadd hC (pc := 86) (v := ((rF σ 0 44) + 1)) dX14_add_86 rfl ?_
            obtain ⟨r28, h⟩ := h
            refine y_putI hC (pc := 87) zf14 rOb_0 44 (x := ((rF σ 0 44) + 1)) dX14_add_87 zw2511 (Or.inl rfl) rfl rfl (kk := ?_)
            have W29 := W27.sF (q := 0) (f := 44) (x := ((rF σ 0 44) + 1)) r28
            refine z_iconst hC (pc := 90) (v := Int32.ofInt 1) dX14_add_90 (by decide) ?_
            exact y_reti hR dX14_add_91 rfl (r_lit rfl) W29 (Nat.le_of_ble_eq_true rfl) (Nat.le_of_ble_eq_true rfl) ⟨(rKeep.tr (rKeep.tr (rKeep.tr (rKeep.tr rKeep.rf (rKeep.sF0 (f := 0)) rfl rfl rfl rfl rfl) (rKeep.sA0 (f := 52) (by decide)) rfl rfl rfl rfl rfl) (rKeep.sA0 (f := 51) (by decide)) rfl rfl rfl rfl rfl) (rKeep.sF0 (f := 44)) rfl rfl rfl rfl rfl), h⟩
          · have h := hF c
            refine z_iconst hC (pc := 51) (v := Int32.ofInt 0) dX14_add_51 (by decide) ?_
            exact y_reti hR dX14_add_52 rfl (r_lit rfl) W10 (Nat.le_of_ble_eq_true rfl) (Nat.le_of_ble_eq_true rfl) ⟨(rKeep.tr rKeep.rf (rKeep.sF0 (f := 0)) rfl rfl rfl rfl rfl), h⟩
theorem kX14_add (l : Launch) (G : zG) (κ : Nat → Nat) (σ : rS) (x1 : Int) (x2 : Int) (hwf : rWF σ) (hx1 : rng x1) (hx2 : rng x2) (hp : pre_X14_add σ x1 x2) : rMi l G κ yX14_add cX14_add 3 .boolean 2 22 [.ref (κ 0), iv x1, iv x2] σ (fun x s => rKeep 0x100000000001 0 0x18000000000000 0 0 σ s ∧ post_X14_add σ x1 x2 x s) := wX14_add l G κ σ x1 x2 hwf hx1 hx2 (post_X14_add σ x1 x2) (vX14_add σ x1 x2 hwf hx1 hx2 hp) 
def pre_X14_entry (σ : rS) (x1 : Int) (x2 : Int) : Prop := 0 ≤ (rF σ 0 43) ∧ (rF σ 0 43) ≤ 500 ∧ 0 ≤ (rF σ 0 45) ∧ (rF σ 0 45) ≤ 16000 ∧ 0 ≤ (rF σ 0 44) ∧ (rF σ 0 44) ≤ 4000 ∧ 0 ≤ (rF σ 0 60) ∧ (rF σ 0 60) ≤ 40 ∧ 0 ≤ (rF σ 0 3) ∧ (rF σ 0 3) ≤ 4000 ∧ VMp σ ∧ KYp σ ∧ PPp σ ∧ WFp σ
def post_X14_entry (σ : rS) (x1 : Int) (x2 : Int) (r : Int) (σ' : rS) : Prop := 0 ≤ (rF σ' 0 43) ∧ (rF σ' 0 43) ≤ 500 ∧ 0 ≤ (rF σ' 0 45) ∧ (rF σ' 0 45) ≤ 16000 ∧ 0 ≤ (rF σ' 0 44) ∧ (rF σ' 0 44) ≤ 4000 ∧ 0 ≤ (rF σ' 0 60) ∧ (rF σ' 0 60) ≤ 40 ∧ 0 ≤ (rF σ' 0 3) ∧ (rF σ' 0 3) ≤ 4000 ∧ VMp σ' ∧ KYp σ' ∧ PPp σ' ∧ WFp σ'
def inv_X14_entry_58 (σ : rS) (x1 : Int) (x2 : Int)  (s : rS) (k : Int) : Prop := 0 ≤ (rF s 0 43) ∧ (rF s 0 43) ≤ 500 ∧ 0 ≤ (rF s 0 45) ∧ (rF s 0 45) ≤ 16000 ∧ 0 ≤ (rF s 0 44) ∧ (rF s 0 44) ≤ 4000 ∧ 0 ≤ (rF s 0 60) ∧ (rF s 0 60) ≤ 40 ∧ 0 ≤ (rF s 0 3) ∧ (rF s 0 3) ≤ 4000 ∧ 0 ≤ (rF s 0 66) ∧ (rF s 0 66) ≤ 20 ∧ 1 ≤ (rF s 0 66) ∧ 0 ≤ x1 ∧ x1 < 500 ∧ (rA σ 1046 (x1)) = 4 ∧ 50 * x1 ≤ k ∧ VMp s ∧ KYp s
def mu_X14_entry_58 (σ : rS) (x1 : Int) (x2 : Int) (s : rS) (k : Int) : Nat := (1 + (50 * x1 + 50 - k).toNat)
def VC_X14_entry (σ : rS) (x1 : Int) (x2 : Int) (Q : Int → rS → Prop) : Prop := pre_X14_take (sF σ 0 0 0) ∧ (∀ (s12 : rS), rWF s12 → (VMp (sF σ 0 0 0) → VMp s12) → (KYp (sF σ 0 0 0) → KYp s12) → (PPp (sF σ 0 0 0) → PPp s12) → (WFp (sF σ 0 0 0) → WFp s12) → rF s12 0 43 = rF (sF σ 0 0 0) 0 43 → rF s12 0 44 = rF (sF σ 0 0 0) 0 44 → rF s12 0 45 = rF (sF σ 0 0 0) 0 45 → rF s12 0 60 = rF (sF σ 0 0 0) 0 60 → (∀ i, rA s12 1046 i = rA (sF σ 0 0 0) 1046 i) → post_X14_take (sF σ 0 0 0) s12 → pre_X14_isMade s12 ∧ (∀ (x16 : Int), rng x16 → post_X14_isMade s12 x16 → ((¬ x16 = 0 → Q 0 s12) ∧ (x16 = 0 → pre_X14_isValue s12 x1 4 ∧ (∀ (x19 : Int), rng x19 → post_X14_isValue s12 x1 4 x19 → ((x19 = 0 → Q 0 s12) ∧ (¬ x19 = 0 → pre_X14_mayHave s12 x1 x2 ∧ (∀ (x22 : Int), rng x22 → post_X14_mayHave s12 x1 x2 x22 → ((x22 = 0 → Q 0 s12) ∧ (¬ x22 = 0 → (rng (rF s12 0 66) → (((rF s12 0 66) < 1 → Q 0 s12) ∧ (¬ (rF s12 0 66) < 1 → (((rF s12 0 66) ≤ 20 → rng (50 * x1) ∧ (inv_X14_entry_58 σ x1 x2 s12 (50 * x1))) ∧ (¬ (rF s12 0 66) ≤ 20 → Q 0 s12)))))))))))))))
def VC_X14_entry_58 (σ : rS) (x1 : Int) (x2 : Int) (Q : Int → rS → Prop) : Prop := ∀ (s23 : rS) (y24 : Int), rWF s23 → rng y24 → (PPp σ → PPp s23) → (WFp σ → WFp s23) → rF s23 0 43 = rF σ 0 43 → rF s23 0 44 = rF σ 0 44 → rF s23 0 60 = rF σ 0 60 → (∀ i, rA s23 1046 i = rA σ 1046 i) → inv_X14_entry_58 σ x1 x2 s23 y24 → ((0 ≤ x1 ∧ x1 < 500) ∧ (rng (rA s23 1051 x1) → rng ((50 * x1) + (rA s23 1051 x1)) ∧ ((((50 * x1) + (rA s23 1051 x1)) ≤ y24 → (0 ≤ x1 ∧ x1 < 500) ∧ (((rA s23 1051 x1) = 50 → Q 0 s23) ∧ (¬ (rA s23 1051 x1) = 50 → (rng (rF s23 0 45) → (rng (rF s23 0 66) → rng ((rF s23 0 45) + (rF s23 0 66)) ∧ ((((rF s23 0 45) + (rF s23 0 66)) ≤ 16000 → (0 ≤ x1 ∧ x1 < 500) ∧ pre_X14_keepTape s23 ∧ (∀ (x32 : Int) (s31 : rS), rng x32 → rWF s31 → (VMp s23 → VMp s31) → (KYp s23 → KYp s31) → (PPp s23 → PPp s31) → (WFp s23 → WFp s31) → rF s31 0 3 = rF s23 0 3 → rF s31 0 43 = rF s23 0 43 → rF s31 0 44 = rF s23 0 44 → rF s31 0 60 = rF s23 0 60 → rF s31 0 66 = rF s23 0 66 → (∀ i, rA s31 1046 i = rA s23 1046 i) → post_X14_keepTape s23 x32 s31 → (0 ≤ ((50 * x1) + (rA s23 1051 x1)) ∧ ((50 * x1) + (rA s23 1051 x1)) < 25000) ∧ (0 ≤ ((50 * x1) + (rA s23 1051 x1)) ∧ ((50 * x1) + (rA s23 1051 x1)) < 25000) ∧ (0 ≤ ((50 * x1) + (rA s23 1051 x1)) ∧ ((50 * x1) + (rA s23 1051 x1)) < 25000) ∧ (0 ≤ x1 ∧ x1 < 500) ∧ (rng (rA s31 1051 x1) → (0 ≤ x1 ∧ x1 < 500) ∧ rng ((rA s31 1051 x1) + 1) ∧ Q 1 (sA (sA (sA (sA s31 1053 ((50 * x1) + (rA s23 1051 x1)) x32) 1054 ((50 * x1) + (rA s23 1051 x1)) (rF s23 0 66)) 1055 ((50 * x1) + (rA s23 1051 x1)) x2) 1051 x1 ((rA s31 1051 x1) + 1))))) ∧ (¬ ((rF s23 0 45) + (rF s23 0 66)) ≤ 16000 → Q 0 s23))))))) ∧ (¬ ((50 * x1) + (rA s23 1051 x1)) ≤ y24 → (0 ≤ y24 ∧ y24 < 25000) ∧ (rng (rA s23 1053 y24) → (0 ≤ y24 ∧ y24 < 25000) ∧ (rng (rA s23 1054 y24) → pre_X14_isTape s23 (rA s23 1053 y24) (rA s23 1054 y24) ∧ (∀ (x47 : Int), rng x47 → post_X14_isTape s23 (rA s23 1053 y24) (rA s23 1054 y24) x47 → ((¬ x47 = 0 → (0 ≤ y24 ∧ y24 < 25000) ∧ Q 1 (sA s23 1055 y24 x2)) ∧ (x47 = 0 → rng (y24 + 1) ∧ (inv_X14_entry_58 σ x1 x2 s23 (y24 + 1) ∧ (mu_X14_entry_58 σ x1 x2 s23 (y24 + 1)) < (mu_X14_entry_58 σ x1 x2 s23 y24)))))))))))
def VC_X14_entry_58m (σ : rS) (x1 : Int) (x2 : Int) : Prop := ∀ (s23 : rS) (y24 : Int), rWF s23 → rng y24 → (PPp σ → PPp s23) → (WFp σ → WFp s23) → rF s23 0 43 = rF σ 0 43 → rF s23 0 44 = rF σ 0 44 → rF s23 0 60 = rF σ 0 60 → (∀ i, rA s23 1046 i = rA σ 1046 i) → inv_X14_entry_58 σ x1 x2 s23 y24 → 0 < (mu_X14_entry_58 σ x1 x2 s23 y24)
set_option maxHeartbeats 400000 in
theorem vX14_entry (σ : rS) (x1 : Int) (x2 : Int) (hwf : rWF σ) (hx1 : rng x1) (hx2 : rng x2) (hp : pre_X14_entry σ x1 x2) : VC_X14_entry σ x1 x2 (post_X14_entry σ x1 x2) := by
  simp only [VC_X14_entry, pre_X14_entry, post_X14_entry, inv_X14_entry_58, mu_X14_entry_58, pre_X14_take, pre_X14_isValue, pre_X14_isMade, pre_X14_mayHave, pre_X14_keepTape, pre_X14_isTape, post_X14_take, post_X14_isValue, post_X14_isMade, post_X14_mayHave, post_X14_keepTape, post_X14_isTape, VMp, KYp, rng, rfk, rNMp, rF_sF, rF_sA, rF_sL, rF_sR, rA_sA, rA_sF, rA_sL, rA_sR, rR_sF, rR_sA, rR_sL, rR_sR, reduceIte, and_true, true_and, and_false, false_and, and_self, VMp_sL, VMp_sF0, VMp_sF3, VMp_sF10, VMp_sF11, VMp_sF12, VMp_sF13, VMp_sF14, VMp_sF16, VMp_sF17, VMp_sF18, VMp_sF19, VMp_sF21, VMp_sF22, VMp_sF23, VMp_sF24, VMp_sF25, VMp_sF28, VMp_sF29, VMp_sF30, VMp_sF31, VMp_sF32, VMp_sF33, VMp_sF38, VMp_sF39, VMp_sF41, VMp_sF42, VMp_sF43, VMp_sF44, VMp_sF45, VMp_sF60, VMp_sF65, VMp_sF66, VMp_sF67, VMp_sF68, VMp_sF70, VMp_sF71, VMp_sF72, VMp_sF73, VMp_sF74, VMp_sF80, VMp_sF81, VMp_sF82, VMp_sF83, VMp_sF88, VMp_sF92, VMp_sF94, VMp_sF96, VMp_sF97, VMp_sF98, VMp_sF99, VMp_sF100, VMp_sF101, VMp_sF103, VMp_sF104, VMp_sF112, VMp_sF113, VMp_sF118, VMp_sF119, VMp_sF122, VMp_sF123, VMp_sF135, VMp_sF137, VMp_sA1, VMp_sA2, VMp_sA5, VMp_sA20, VMp_sA26, VMp_sA27, VMp_sA34, VMp_sA35, VMp_sA36, VMp_sA37, VMp_sA40, VMp_sA47, VMp_sA48, VMp_sA49, VMp_sA50, VMp_sA52, VMp_sA53, VMp_sA54, VMp_sA55, VMp_sA56, VMp_sA57, VMp_sA58, VMp_sA59, VMp_sA61, VMp_sA62, VMp_sA63, VMp_sA64, VMp_sA69, VMp_sA75, VMp_sA76, VMp_sA77, VMp_sA78, VMp_sA79, VMp_sA84, VMp_sA85, VMp_sA86, VMp_sA87, VMp_sA89, VMp_sA90, VMp_sA91, VMp_sA93, VMp_sA102, VMp_sA105, VMp_sA106, VMp_sA107, VMp_sA108, VMp_sA109, VMp_sA110, VMp_sA111, VMp_sA114, VMp_sA115, VMp_sA116, VMp_sA117, VMp_sA120, VMp_sA121, VMp_sA124, VMp_sA125, VMp_sA126, VMp_sA127, VMp_sA128, VMp_sA129, VMp_sA136, VMp_sA138, VMp_gA0, VMp_gA1, VMp_gA2, VMp_gA3, VMp_gA4, VMp_gA5, VMp_gA6, VMp_gA8, VMp_gA10, VMp_gA11, VMp_gA15, VMp_gA16, VMp_gA17, VMp_gA18, VMp_gA19, VMp_gA20, VMp_gA21, VMp_gA22, VMp_gA23, VMp_gA24, VMp_gA25, VMp_gA26, VMp_gA27, VMp_gA29, VMp_gA30, VMp_gA31, VMp_gA33, VMp_gA34, VMp_gA35, VMp_gA36, VMp_gA37, VMp_sF7, VMp_sF9, KYp_sL, KYp_sF0, KYp_sF3, KYp_sF10, KYp_sF11, KYp_sF12, KYp_sF13, KYp_sF14, KYp_sF16, KYp_sF17, KYp_sF18, KYp_sF19, KYp_sF21, KYp_sF22, KYp_sF23, KYp_sF24, KYp_sF25, KYp_sF28, KYp_sF29, KYp_sF30, KYp_sF31, KYp_sF32, KYp_sF33, KYp_sF38, KYp_sF39, KYp_sF41, KYp_sF42, KYp_sF43, KYp_sF44, KYp_sF45, KYp_sF60, KYp_sF65, KYp_sF66, KYp_sF67, KYp_sF68, KYp_sF70, KYp_sF71, KYp_sF72, KYp_sF73, KYp_sF74, KYp_sF80, KYp_sF81, KYp_sF82, KYp_sF83, KYp_sF88, KYp_sF92, KYp_sF94, KYp_sF96, KYp_sF97, KYp_sF98, KYp_sF99, KYp_sF100, KYp_sF101, KYp_sF103, KYp_sF104, KYp_sF112, KYp_sF113, KYp_sF118, KYp_sF119, KYp_sF122, KYp_sF123, KYp_sF135, KYp_sF137, KYp_sA1, KYp_sA2, KYp_sA5, KYp_sA20, KYp_sA26, KYp_sA27, KYp_sA34, KYp_sA35, KYp_sA36, KYp_sA37, KYp_sA40, KYp_sA46, KYp_sA47, KYp_sA48, KYp_sA49, KYp_sA50, KYp_sA51, KYp_sA52, KYp_sA55, KYp_sA56, KYp_sA57, KYp_sA58, KYp_sA59, KYp_sA61, KYp_sA62, KYp_sA63, KYp_sA64, KYp_sA69, KYp_sA75, KYp_sA76, KYp_sA77, KYp_sA78, KYp_sA79, KYp_sA84, KYp_sA85, KYp_sA86, KYp_sA87, KYp_sA89, KYp_sA90, KYp_sA91, KYp_sA93, KYp_sA102, KYp_sA105, KYp_sA106, KYp_sA107, KYp_sA108, KYp_sA109, KYp_sA110, KYp_sA111, KYp_sA114, KYp_sA115, KYp_sA116, KYp_sA117, KYp_sA120, KYp_sA121, KYp_sA124, KYp_sA125, KYp_sA126, KYp_sA127, KYp_sA128, KYp_sA129, KYp_sA136, KYp_sA138, KYp_gA0, KYp_gA1, KYp_gA2, KYp_gA3, KYp_gA4, KYp_gA5, KYp_gA6, KYp_gA8, KYp_gA10, KYp_gA11, KYp_gA15, KYp_gA16, KYp_gA17, KYp_gA18, KYp_gA19, KYp_gA20, KYp_gA21, KYp_gA22, KYp_gA23, KYp_gA24, KYp_gA25, KYp_gA26, KYp_gA27, KYp_gA29, KYp_gA30, KYp_gA31, KYp_gA33, KYp_gA34, KYp_gA35, KYp_gA36, KYp_gA37, KYp_sF7, KYp_sF9, PPp_sL, PPp_sF0, PPp_sF3, PPp_sF10, PPp_sF11, PPp_sF12, PPp_sF13, PPp_sF14, PPp_sF16, PPp_sF17, PPp_sF18, PPp_sF19, PPp_sF21, PPp_sF22, PPp_sF23, PPp_sF24, PPp_sF25, PPp_sF28, PPp_sF29, PPp_sF30, PPp_sF31, PPp_sF32, PPp_sF33, PPp_sF38, PPp_sF39, PPp_sF41, PPp_sF42, PPp_sF43, PPp_sF44, PPp_sF45, PPp_sF60, PPp_sF65, PPp_sF66, PPp_sF67, PPp_sF68, PPp_sF70, PPp_sF71, PPp_sF72, PPp_sF73, PPp_sF74, PPp_sF80, PPp_sF81, PPp_sF82, PPp_sF83, PPp_sF88, PPp_sF92, PPp_sF94, PPp_sF96, PPp_sF97, PPp_sF98, PPp_sF99, PPp_sF100, PPp_sF101, PPp_sF103, PPp_sF104, PPp_sF112, PPp_sF113, PPp_sF118, PPp_sF119, PPp_sF122, PPp_sF123, PPp_sF135, PPp_sF137, PPp_sA1, PPp_sA2, PPp_sA5, PPp_sA20, PPp_sA26, PPp_sA27, PPp_sA34, PPp_sA35, PPp_sA36, PPp_sA37, PPp_sA40, PPp_sA46, PPp_sA47, PPp_sA48, PPp_sA49, PPp_sA50, PPp_sA51, PPp_sA52, PPp_sA53, PPp_sA54, PPp_sA55, PPp_sA58, PPp_sA59, PPp_sA61, PPp_sA62, PPp_sA63, PPp_sA64, PPp_sA69, PPp_sA75, PPp_sA76, PPp_sA77, PPp_sA78, PPp_sA79, PPp_sA84, PPp_sA85, PPp_sA86, PPp_sA87, PPp_sA89, PPp_sA90, PPp_sA91, PPp_sA93, PPp_sA102, PPp_sA105, PPp_sA106, PPp_sA107, PPp_sA108, PPp_sA109, PPp_sA110, PPp_sA111, PPp_sA114, PPp_sA115, PPp_sA116, PPp_sA117, PPp_sA120, PPp_sA121, PPp_sA124, PPp_sA125, PPp_sA126, PPp_sA127, PPp_sA128, PPp_sA129, PPp_sA136, PPp_sA138, PPp_gA0, PPp_gA1, PPp_gA2, PPp_gA3, PPp_gA4, PPp_gA5, PPp_gA6, PPp_gA8, PPp_gA10, PPp_gA11, PPp_gA15, PPp_gA16, PPp_gA17, PPp_gA18, PPp_gA19, PPp_gA20, PPp_gA21, PPp_gA22, PPp_gA23, PPp_gA24, PPp_gA25, PPp_gA26, PPp_gA27, PPp_gA29, PPp_gA30, PPp_gA31, PPp_gA33, PPp_gA34, PPp_gA35, PPp_gA36, PPp_gA37, PPp_sF7, PPp_sF9, WFp_sL, WFp_sF0, WFp_sF3, WFp_sF10, WFp_sF11, WFp_sF12, WFp_sF13, WFp_sF14, WFp_sF16, WFp_sF17, WFp_sF18, WFp_sF19, WFp_sF21, WFp_sF22, WFp_sF23, WFp_sF24, WFp_sF25, WFp_sF28, WFp_sF29, WFp_sF30, WFp_sF31, WFp_sF32, WFp_sF33, WFp_sF38, WFp_sF39, WFp_sF41, WFp_sF42, WFp_sF43, WFp_sF44, WFp_sF45, WFp_sF60, WFp_sF65, WFp_sF66, WFp_sF67, WFp_sF68, WFp_sF70, WFp_sF71, WFp_sF72, WFp_sF73, WFp_sF74, WFp_sF80, WFp_sF81, WFp_sF82, WFp_sF83, WFp_sF88, WFp_sF92, WFp_sF94, WFp_sF96, WFp_sF97, WFp_sF98, WFp_sF99, WFp_sF100, WFp_sF101, WFp_sF103, WFp_sF104, WFp_sF112, WFp_sF113, WFp_sF118, WFp_sF119, WFp_sF122, WFp_sF123, WFp_sF135, WFp_sF137, WFp_sA1, WFp_sA2, WFp_sA5, WFp_sA20, WFp_sA26, WFp_sA27, WFp_sA34, WFp_sA35, WFp_sA36, WFp_sA37, WFp_sA40, WFp_sA46, WFp_sA47, WFp_sA48, WFp_sA51, WFp_sA52, WFp_sA53, WFp_sA54, WFp_sA55, WFp_sA56, WFp_sA57, WFp_sA58, WFp_sA59, WFp_sA61, WFp_sA62, WFp_sA63, WFp_sA64, WFp_sA69, WFp_sA75, WFp_sA76, WFp_sA77, WFp_sA78, WFp_sA79, WFp_sA84, WFp_sA85, WFp_sA86, WFp_sA87, WFp_sA89, WFp_sA90, WFp_sA91, WFp_sA93, WFp_sA102, WFp_sA105, WFp_sA106, WFp_sA107, WFp_sA108, WFp_sA109, WFp_sA110, WFp_sA111, WFp_sA114, WFp_sA115, WFp_sA116, WFp_sA117, WFp_sA120, WFp_sA121, WFp_sA124, WFp_sA125, WFp_sA126, WFp_sA127, WFp_sA128, WFp_sA129, WFp_sA136, WFp_sA138, WFp_gA0, WFp_gA1, WFp_gA2, WFp_gA3, WFp_gA4, WFp_gA5, WFp_gA6, WFp_gA8, WFp_gA10, WFp_gA11, WFp_gA15, WFp_gA16, WFp_gA17, WFp_gA18, WFp_gA19, WFp_gA20, WFp_gA21, WFp_gA22, WFp_gA23, WFp_gA24, WFp_gA25, WFp_gA26, WFp_gA27, WFp_gA29, WFp_gA30, WFp_gA31, WFp_gA33, WFp_gA34, WFp_gA35, WFp_gA36, WFp_gA37, WFp_sF7, WFp_sF9] at *
  (repeat' (first | with_reducible intro _ | with_reducible apply And.intro))
  all_goals (first | assumption | omega | grind (splits := 20) [rNM_sF0])
set_option maxHeartbeats 400000 in
theorem vX14_entry_58 (σ : rS) (x1 : Int) (x2 : Int) (hwf : rWF σ) (hx1 : rng x1) (hx2 : rng x2) (hp : pre_X14_entry σ x1 x2) : VC_X14_entry_58 σ x1 x2 (post_X14_entry σ x1 x2) := by
  simp only [VC_X14_entry_58, pre_X14_entry, post_X14_entry, inv_X14_entry_58, mu_X14_entry_58, pre_X14_take, pre_X14_isValue, pre_X14_isMade, pre_X14_mayHave, pre_X14_keepTape, pre_X14_isTape, post_X14_take, post_X14_isValue, post_X14_isMade, post_X14_mayHave, post_X14_keepTape, post_X14_isTape, VMp, KYp, rng, rfk, rNMp, rF_sF, rF_sA, rF_sL, rF_sR, rA_sA, rA_sF, rA_sL, rA_sR, rR_sF, rR_sA, rR_sL, rR_sR, reduceIte, and_true, true_and, and_false, false_and, and_self, VMp_sL, VMp_sF0, VMp_sF3, VMp_sF10, VMp_sF11, VMp_sF12, VMp_sF13, VMp_sF14, VMp_sF16, VMp_sF17, VMp_sF18, VMp_sF19, VMp_sF21, VMp_sF22, VMp_sF23, VMp_sF24, VMp_sF25, VMp_sF28, VMp_sF29, VMp_sF30, VMp_sF31, VMp_sF32, VMp_sF33, VMp_sF38, VMp_sF39, VMp_sF41, VMp_sF42, VMp_sF43, VMp_sF44, VMp_sF45, VMp_sF60, VMp_sF65, VMp_sF66, VMp_sF67, VMp_sF68, VMp_sF70, VMp_sF71, VMp_sF72, VMp_sF73, VMp_sF74, VMp_sF80, VMp_sF81, VMp_sF82, VMp_sF83, VMp_sF88, VMp_sF92, VMp_sF94, VMp_sF96, VMp_sF97, VMp_sF98, VMp_sF99, VMp_sF100, VMp_sF101, VMp_sF103, VMp_sF104, VMp_sF112, VMp_sF113, VMp_sF118, VMp_sF119, VMp_sF122, VMp_sF123, VMp_sF135, VMp_sF137, VMp_sA1, VMp_sA2, VMp_sA5, VMp_sA20, VMp_sA26, VMp_sA27, VMp_sA34, VMp_sA35, VMp_sA36, VMp_sA37, VMp_sA40, VMp_sA47, VMp_sA48, VMp_sA49, VMp_sA50, VMp_sA52, VMp_sA53, VMp_sA54, VMp_sA55, VMp_sA56, VMp_sA57, VMp_sA58, VMp_sA59, VMp_sA61, VMp_sA62, VMp_sA63, VMp_sA64, VMp_sA69, VMp_sA75, VMp_sA76, VMp_sA77, VMp_sA78, VMp_sA79, VMp_sA84, VMp_sA85, VMp_sA86, VMp_sA87, VMp_sA89, VMp_sA90, VMp_sA91, VMp_sA93, VMp_sA102, VMp_sA105, VMp_sA106, VMp_sA107, VMp_sA108, VMp_sA109, VMp_sA110, VMp_sA111, VMp_sA114, VMp_sA115, VMp_sA116, VMp_sA117, VMp_sA120, VMp_sA121, VMp_sA124, VMp_sA125, VMp_sA126, VMp_sA127, VMp_sA128, VMp_sA129, VMp_sA136, VMp_sA138, VMp_gA0, VMp_gA1, VMp_gA2, VMp_gA3, VMp_gA4, VMp_gA5, VMp_gA6, VMp_gA8, VMp_gA10, VMp_gA11, VMp_gA15, VMp_gA16, VMp_gA17, VMp_gA18, VMp_gA19, VMp_gA20, VMp_gA21, VMp_gA22, VMp_gA23, VMp_gA24, VMp_gA25, VMp_gA26, VMp_gA27, VMp_gA29, VMp_gA30, VMp_gA31, VMp_gA33, VMp_gA34, VMp_gA35, VMp_gA36, VMp_gA37, VMp_sF7, VMp_sF9, KYp_sL, KYp_sF0, KYp_sF3, KYp_sF10, KYp_sF11, KYp_sF12, KYp_sF13, KYp_sF14, KYp_sF16, KYp_sF17, KYp_sF18, KYp_sF19, KYp_sF21, KYp_sF22, KYp_sF23, KYp_sF24, KYp_sF25, KYp_sF28, KYp_sF29, KYp_sF30, KYp_sF31, KYp_sF32, KYp_sF33, KYp_sF38, KYp_sF39, KYp_sF41, KYp_sF42, KYp_sF43, KYp_sF44, KYp_sF45, KYp_sF60, KYp_sF65, KYp_sF66, KYp_sF67, KYp_sF68, KYp_sF70, KYp_sF71, KYp_sF72, KYp_sF73, KYp_sF74, KYp_sF80, KYp_sF81, KYp_sF82, KYp_sF83, KYp_sF88, KYp_sF92, KYp_sF94, KYp_sF96, KYp_sF97, KYp_sF98, KYp_sF99, KYp_sF100, KYp_sF101, KYp_sF103, KYp_sF104, KYp_sF112, KYp_sF113, KYp_sF118, KYp_sF119, KYp_sF122, KYp_sF123, KYp_sF135, KYp_sF137, KYp_sA1, KYp_sA2, KYp_sA5, KYp_sA20, KYp_sA26, KYp_sA27, KYp_sA34, KYp_sA35, KYp_sA36, KYp_sA37, KYp_sA40, KYp_sA46, KYp_sA47, KYp_sA48, KYp_sA49, KYp_sA50, KYp_sA51, KYp_sA52, KYp_sA55, KYp_sA56, KYp_sA57, KYp_sA58, KYp_sA59, KYp_sA61, KYp_sA62, KYp_sA63, KYp_sA64, KYp_sA69, KYp_sA75, KYp_sA76, KYp_sA77, KYp_sA78, KYp_sA79, KYp_sA84, KYp_sA85, KYp_sA86, KYp_sA87, KYp_sA89, KYp_sA90, KYp_sA91, KYp_sA93, KYp_sA102, KYp_sA105, KYp_sA106, KYp_sA107, KYp_sA108, KYp_sA109, KYp_sA110, KYp_sA111, KYp_sA114, KYp_sA115, KYp_sA116, KYp_sA117, KYp_sA120, KYp_sA121, KYp_sA124, KYp_sA125, KYp_sA126, KYp_sA127, KYp_sA128, KYp_sA129, KYp_sA136, KYp_sA138, KYp_gA0, KYp_gA1, KYp_gA2, KYp_gA3, KYp_gA4, KYp_gA5, KYp_gA6, KYp_gA8, KYp_gA10, KYp_gA11, KYp_gA15, KYp_gA16, KYp_gA17, KYp_gA18, KYp_gA19, KYp_gA20, KYp_gA21, KYp_gA22, KYp_gA23, KYp_gA24, KYp_gA25, KYp_gA26, KYp_gA27, KYp_gA29, KYp_gA30, KYp_gA31, KYp_gA33, KYp_gA34, KYp_gA35, KYp_gA36, KYp_gA37, KYp_sF7, KYp_sF9, PPp_sL, PPp_sF0, PPp_sF3, PPp_sF10, PPp_sF11, PPp_sF12, PPp_sF13, PPp_sF14, PPp_sF16, PPp_sF17, PPp_sF18, PPp_sF19, PPp_sF21, PPp_sF22, PPp_sF23, PPp_sF24, PPp_sF25, PPp_sF28, PPp_sF29, PPp_sF30, PPp_sF31, PPp_sF32, PPp_sF33, PPp_sF38, PPp_sF39, PPp_sF41, PPp_sF42, PPp_sF43, PPp_sF44, PPp_sF45, PPp_sF60, PPp_sF65, PPp_sF66, PPp_sF67, PPp_sF68, PPp_sF70, PPp_sF71, PPp_sF72, PPp_sF73, PPp_sF74, PPp_sF80, PPp_sF81, PPp_sF82, PPp_sF83, PPp_sF88, PPp_sF92, PPp_sF94, PPp_sF96, PPp_sF97, PPp_sF98, PPp_sF99, PPp_sF100, PPp_sF101, PPp_sF103, PPp_sF104, PPp_sF112, PPp_sF113, PPp_sF118, PPp_sF119, PPp_sF122, PPp_sF123, PPp_sF135, PPp_sF137, PPp_sA1, PPp_sA2, PPp_sA5, PPp_sA20, PPp_sA26, PPp_sA27, PPp_sA34, PPp_sA35, PPp_sA36, PPp_sA37, PPp_sA40, PPp_sA46, PPp_sA47, PPp_sA48, PPp_sA49, PPp_sA50, PPp_sA51, PPp_sA52, PPp_sA53, PPp_sA54, PPp_sA55, PPp_sA58, PPp_sA59, PPp_sA61, PPp_sA62, PPp_sA63, PPp_sA64, PPp_sA69, PPp_sA75, PPp_sA76, PPp_sA77, PPp_sA78, PPp_sA79, PPp_sA84, PPp_sA85, PPp_sA86, PPp_sA87, PPp_sA89, PPp_sA90, PPp_sA91, PPp_sA93, PPp_sA102, PPp_sA105, PPp_sA106, PPp_sA107, PPp_sA108, PPp_sA109, PPp_sA110, PPp_sA111, PPp_sA114, PPp_sA115, PPp_sA116, PPp_sA117, PPp_sA120, PPp_sA121, PPp_sA124, PPp_sA125, PPp_sA126, PPp_sA127, PPp_sA128, PPp_sA129, PPp_sA136, PPp_sA138, PPp_gA0, PPp_gA1, PPp_gA2, PPp_gA3, PPp_gA4, PPp_gA5, PPp_gA6, PPp_gA8, PPp_gA10, PPp_gA11, PPp_gA15, PPp_gA16, PPp_gA17, PPp_gA18, PPp_gA19, PPp_gA20, PPp_gA21, PPp_gA22, PPp_gA23, PPp_gA24, PPp_gA25, PPp_gA26, PPp_gA27, PPp_gA29, PPp_gA30, PPp_gA31, PPp_gA33, PPp_gA34, PPp_gA35, PPp_gA36, PPp_gA37, PPp_sF7, PPp_sF9, WFp_sL, WFp_sF0, WFp_sF3, WFp_sF10, WFp_sF11, WFp_sF12, WFp_sF13, WFp_sF14, WFp_sF16, WFp_sF17, WFp_sF18, WFp_sF19, WFp_sF21, WFp_sF22, WFp_sF23, WFp_sF24, WFp_sF25, WFp_sF28, WFp_sF29, WFp_sF30, WFp_sF31, WFp_sF32, WFp_sF33, WFp_sF38, WFp_sF39, WFp_sF41, WFp_sF42, WFp_sF43, WFp_sF44, WFp_sF45, WFp_sF60, WFp_sF65, WFp_sF66, WFp_sF67, WFp_sF68, WFp_sF70, WFp_sF71, WFp_sF72, WFp_sF73, WFp_sF74, WFp_sF80, WFp_sF81, WFp_sF82, WFp_sF83, WFp_sF88, WFp_sF92, WFp_sF94, WFp_sF96, WFp_sF97, WFp_sF98, WFp_sF99, WFp_sF100, WFp_sF101, WFp_sF103, WFp_sF104, WFp_sF112, WFp_sF113, WFp_sF118, WFp_sF119, WFp_sF122, WFp_sF123, WFp_sF135, WFp_sF137, WFp_sA1, WFp_sA2, WFp_sA5, WFp_sA20, WFp_sA26, WFp_sA27, WFp_sA34, WFp_sA35, WFp_sA36, WFp_sA37, WFp_sA40, WFp_sA46, WFp_sA47, WFp_sA48, WFp_sA51, WFp_sA52, WFp_sA53, WFp_sA54, WFp_sA55, WFp_sA56, WFp_sA57, WFp_sA58, WFp_sA59, WFp_sA61, WFp_sA62, WFp_sA63, WFp_sA64, WFp_sA69, WFp_sA75, WFp_sA76, WFp_sA77, WFp_sA78, WFp_sA79, WFp_sA84, WFp_sA85, WFp_sA86, WFp_sA87, WFp_sA89, WFp_sA90, WFp_sA91, WFp_sA93, WFp_sA102, WFp_sA105, WFp_sA106, WFp_sA107, WFp_sA108, WFp_sA109, WFp_sA110, WFp_sA111, WFp_sA114, WFp_sA115, WFp_sA116, WFp_sA117, WFp_sA120, WFp_sA121, WFp_sA124, WFp_sA125, WFp_sA126, WFp_sA127, WFp_sA128, WFp_sA129, WFp_sA136, WFp_sA138, WFp_gA0, WFp_gA1, WFp_gA2, WFp_gA3, WFp_gA4, WFp_gA5, WFp_gA6, WFp_gA8, WFp_gA10, WFp_gA11, WFp_gA15, WFp_gA16, WFp_gA17, WFp_gA18, WFp_gA19, WFp_gA20, WFp_gA21, WFp_gA22, WFp_gA23, WFp_gA24, WFp_gA25, WFp_gA26, WFp_gA27, WFp_gA29, WFp_gA30, WFp_gA31, WFp_gA33, WFp_gA34, WFp_gA35, WFp_gA36, WFp_gA37, WFp_sF7, WFp_sF9] at *
  (repeat' (first | with_reducible intro _ | with_reducible apply And.intro))
  all_goals (first | assumption | omega | grind (splits := 20) [rNM_sF0])
set_option maxHeartbeats 400000 in
theorem vX14_entry_58m (σ : rS) (x1 : Int) (x2 : Int) (hwf : rWF σ) (hx1 : rng x1) (hx2 : rng x2) (hp : pre_X14_entry σ x1 x2) : VC_X14_entry_58m σ x1 x2 := by
  simp only [VC_X14_entry_58m, pre_X14_entry, post_X14_entry, inv_X14_entry_58, mu_X14_entry_58, pre_X14_take, pre_X14_isValue, pre_X14_isMade, pre_X14_mayHave, pre_X14_keepTape, pre_X14_isTape, post_X14_take, post_X14_isValue, post_X14_isMade, post_X14_mayHave, post_X14_keepTape, post_X14_isTape, VMp, KYp, rng, rfk, rNMp, rF_sF, rF_sA, rF_sL, rF_sR, rA_sA, rA_sF, rA_sL, rA_sR, rR_sF, rR_sA, rR_sL, rR_sR, reduceIte, and_true, true_and, and_false, false_and, and_self, VMp_sL, VMp_sF0, VMp_sF3, VMp_sF10, VMp_sF11, VMp_sF12, VMp_sF13, VMp_sF14, VMp_sF16, VMp_sF17, VMp_sF18, VMp_sF19, VMp_sF21, VMp_sF22, VMp_sF23, VMp_sF24, VMp_sF25, VMp_sF28, VMp_sF29, VMp_sF30, VMp_sF31, VMp_sF32, VMp_sF33, VMp_sF38, VMp_sF39, VMp_sF41, VMp_sF42, VMp_sF43, VMp_sF44, VMp_sF45, VMp_sF60, VMp_sF65, VMp_sF66, VMp_sF67, VMp_sF68, VMp_sF70, VMp_sF71, VMp_sF72, VMp_sF73, VMp_sF74, VMp_sF80, VMp_sF81, VMp_sF82, VMp_sF83, VMp_sF88, VMp_sF92, VMp_sF94, VMp_sF96, VMp_sF97, VMp_sF98, VMp_sF99, VMp_sF100, VMp_sF101, VMp_sF103, VMp_sF104, VMp_sF112, VMp_sF113, VMp_sF118, VMp_sF119, VMp_sF122, VMp_sF123, VMp_sF135, VMp_sF137, VMp_sA1, VMp_sA2, VMp_sA5, VMp_sA20, VMp_sA26, VMp_sA27, VMp_sA34, VMp_sA35, VMp_sA36, VMp_sA37, VMp_sA40, VMp_sA47, VMp_sA48, VMp_sA49, VMp_sA50, VMp_sA52, VMp_sA53, VMp_sA54, VMp_sA55, VMp_sA56, VMp_sA57, VMp_sA58, VMp_sA59, VMp_sA61, VMp_sA62, VMp_sA63, VMp_sA64, VMp_sA69, VMp_sA75, VMp_sA76, VMp_sA77, VMp_sA78, VMp_sA79, VMp_sA84, VMp_sA85, VMp_sA86, VMp_sA87, VMp_sA89, VMp_sA90, VMp_sA91, VMp_sA93, VMp_sA102, VMp_sA105, VMp_sA106, VMp_sA107, VMp_sA108, VMp_sA109, VMp_sA110, VMp_sA111, VMp_sA114, VMp_sA115, VMp_sA116, VMp_sA117, VMp_sA120, VMp_sA121, VMp_sA124, VMp_sA125, VMp_sA126, VMp_sA127, VMp_sA128, VMp_sA129, VMp_sA136, VMp_sA138, VMp_gA0, VMp_gA1, VMp_gA2, VMp_gA3, VMp_gA4, VMp_gA5, VMp_gA6, VMp_gA8, VMp_gA10, VMp_gA11, VMp_gA15, VMp_gA16, VMp_gA17, VMp_gA18, VMp_gA19, VMp_gA20, VMp_gA21, VMp_gA22, VMp_gA23, VMp_gA24, VMp_gA25, VMp_gA26, VMp_gA27, VMp_gA29, VMp_gA30, VMp_gA31, VMp_gA33, VMp_gA34, VMp_gA35, VMp_gA36, VMp_gA37, VMp_sF7, VMp_sF9, KYp_sL, KYp_sF0, KYp_sF3, KYp_sF10, KYp_sF11, KYp_sF12, KYp_sF13, KYp_sF14, KYp_sF16, KYp_sF17, KYp_sF18, KYp_sF19, KYp_sF21, KYp_sF22, KYp_sF23, KYp_sF24, KYp_sF25, KYp_sF28, KYp_sF29, KYp_sF30, KYp_sF31, KYp_sF32, KYp_sF33, KYp_sF38, KYp_sF39, KYp_sF41, KYp_sF42, KYp_sF43, KYp_sF44, KYp_sF45, KYp_sF60, KYp_sF65, KYp_sF66, KYp_sF67, KYp_sF68, KYp_sF70, KYp_sF71, KYp_sF72, KYp_sF73, KYp_sF74, KYp_sF80, KYp_sF81, KYp_sF82, KYp_sF83, KYp_sF88, KYp_sF92, KYp_sF94, KYp_sF96, KYp_sF97, KYp_sF98, KYp_sF99, KYp_sF100, KYp_sF101, KYp_sF103, KYp_sF104, KYp_sF112, KYp_sF113, KYp_sF118, KYp_sF119, KYp_sF122, KYp_sF123, KYp_sF135, KYp_sF137, KYp_sA1, KYp_sA2, KYp_sA5, KYp_sA20, KYp_sA26, KYp_sA27, KYp_sA34, KYp_sA35, KYp_sA36, KYp_sA37, KYp_sA40, KYp_sA46, KYp_sA47, KYp_sA48, KYp_sA49, KYp_sA50, KYp_sA51, KYp_sA52, KYp_sA55, KYp_sA56, KYp_sA57, KYp_sA58, KYp_sA59, KYp_sA61, KYp_sA62, KYp_sA63, KYp_sA64, KYp_sA69, KYp_sA75, KYp_sA76, KYp_sA77, KYp_sA78, KYp_sA79, KYp_sA84, KYp_sA85, KYp_sA86, KYp_sA87, KYp_sA89, KYp_sA90, KYp_sA91, KYp_sA93, KYp_sA102, KYp_sA105, KYp_sA106, KYp_sA107, KYp_sA108, KYp_sA109, KYp_sA110, KYp_sA111, KYp_sA114, KYp_sA115, KYp_sA116, KYp_sA117, KYp_sA120, KYp_sA121, KYp_sA124, KYp_sA125, KYp_sA126, KYp_sA127, KYp_sA128, KYp_sA129, KYp_sA136, KYp_sA138, KYp_gA0, KYp_gA1, KYp_gA2, KYp_gA3, KYp_gA4, KYp_gA5, KYp_gA6, KYp_gA8, KYp_gA10, KYp_gA11, KYp_gA15, KYp_gA16, KYp_gA17, KYp_gA18, KYp_gA19, KYp_gA20, KYp_gA21, KYp_gA22, KYp_gA23, KYp_gA24, KYp_gA25, KYp_gA26, KYp_gA27, KYp_gA29, KYp_gA30, KYp_gA31, KYp_gA33, KYp_gA34, KYp_gA35, KYp_gA36, KYp_gA37, KYp_sF7, KYp_sF9, PPp_sL, PPp_sF0, PPp_sF3, PPp_sF10, PPp_sF11, PPp_sF12, PPp_sF13, PPp_sF14, PPp_sF16, PPp_sF17, PPp_sF18, PPp_sF19, PPp_sF21, PPp_sF22, PPp_sF23, PPp_sF24, PPp_sF25, PPp_sF28, PPp_sF29, PPp_sF30, PPp_sF31, PPp_sF32, PPp_sF33, PPp_sF38, PPp_sF39, PPp_sF41, PPp_sF42, PPp_sF43, PPp_sF44, PPp_sF45, PPp_sF60, PPp_sF65, PPp_sF66, PPp_sF67, PPp_sF68, PPp_sF70, PPp_sF71, PPp_sF72, PPp_sF73, PPp_sF74, PPp_sF80, PPp_sF81, PPp_sF82, PPp_sF83, PPp_sF88, PPp_sF92, PPp_sF94, PPp_sF96, PPp_sF97, PPp_sF98, PPp_sF99, PPp_sF100, PPp_sF101, PPp_sF103, PPp_sF104, PPp_sF112, PPp_sF113, PPp_sF118, PPp_sF119, PPp_sF122, PPp_sF123, PPp_sF135, PPp_sF137, PPp_sA1, PPp_sA2, PPp_sA5, PPp_sA20, PPp_sA26, PPp_sA27, PPp_sA34, PPp_sA35, PPp_sA36, PPp_sA37, PPp_sA40, PPp_sA46, PPp_sA47, PPp_sA48, PPp_sA49, PPp_sA50, PPp_sA51, PPp_sA52, PPp_sA53, PPp_sA54, PPp_sA55, PPp_sA58, PPp_sA59, PPp_sA61, PPp_sA62, PPp_sA63, PPp_sA64, PPp_sA69, PPp_sA75, PPp_sA76, PPp_sA77, PPp_sA78, PPp_sA79, PPp_sA84, PPp_sA85, PPp_sA86, PPp_sA87, PPp_sA89, PPp_sA90, PPp_sA91, PPp_sA93, PPp_sA102, PPp_sA105, PPp_sA106, PPp_sA107, PPp_sA108, PPp_sA109, PPp_sA110, PPp_sA111, PPp_sA114, PPp_sA115, PPp_sA116, PPp_sA117, PPp_sA120, PPp_sA121, PPp_sA124, PPp_sA125, PPp_sA126, PPp_sA127, PPp_sA128, PPp_sA129, PPp_sA136, PPp_sA138, PPp_gA0, PPp_gA1, PPp_gA2, PPp_gA3, PPp_gA4, PPp_gA5, PPp_gA6, PPp_gA8, PPp_gA10, PPp_gA11, PPp_gA15, PPp_gA16, PPp_gA17, PPp_gA18, PPp_gA19, PPp_gA20, PPp_gA21, PPp_gA22, PPp_gA23, PPp_gA24, PPp_gA25, PPp_gA26, PPp_gA27, PPp_gA29, PPp_gA30, PPp_gA31, PPp_gA33, PPp_gA34, PPp_gA35, PPp_gA36, PPp_gA37, PPp_sF7, PPp_sF9, WFp_sL, WFp_sF0, WFp_sF3, WFp_sF10, WFp_sF11, WFp_sF12, WFp_sF13, WFp_sF14, WFp_sF16, WFp_sF17, WFp_sF18, WFp_sF19, WFp_sF21, WFp_sF22, WFp_sF23, WFp_sF24, WFp_sF25, WFp_sF28, WFp_sF29, WFp_sF30, WFp_sF31, WFp_sF32, WFp_sF33, WFp_sF38, WFp_sF39, WFp_sF41, WFp_sF42, WFp_sF43, WFp_sF44, WFp_sF45, WFp_sF60, WFp_sF65, WFp_sF66, WFp_sF67, WFp_sF68, WFp_sF70, WFp_sF71, WFp_sF72, WFp_sF73, WFp_sF74, WFp_sF80, WFp_sF81, WFp_sF82, WFp_sF83, WFp_sF88, WFp_sF92, WFp_sF94, WFp_sF96, WFp_sF97, WFp_sF98, WFp_sF99, WFp_sF100, WFp_sF101, WFp_sF103, WFp_sF104, WFp_sF112, WFp_sF113, WFp_sF118, WFp_sF119, WFp_sF122, WFp_sF123, WFp_sF135, WFp_sF137, WFp_sA1, WFp_sA2, WFp_sA5, WFp_sA20, WFp_sA26, WFp_sA27, WFp_sA34, WFp_sA35, WFp_sA36, WFp_sA37, WFp_sA40, WFp_sA46, WFp_sA47, WFp_sA48, WFp_sA51, WFp_sA52, WFp_sA53, WFp_sA54, WFp_sA55, WFp_sA56, WFp_sA57, WFp_sA58, WFp_sA59, WFp_sA61, WFp_sA62, WFp_sA63, WFp_sA64, WFp_sA69, WFp_sA75, WFp_sA76, WFp_sA77, WFp_sA78, WFp_sA79, WFp_sA84, WFp_sA85, WFp_sA86, WFp_sA87, WFp_sA89, WFp_sA90, WFp_sA91, WFp_sA93, WFp_sA102, WFp_sA105, WFp_sA106, WFp_sA107, WFp_sA108, WFp_sA109, WFp_sA110, WFp_sA111, WFp_sA114, WFp_sA115, WFp_sA116, WFp_sA117, WFp_sA120, WFp_sA121, WFp_sA124, WFp_sA125, WFp_sA126, WFp_sA127, WFp_sA128, WFp_sA129, WFp_sA136, WFp_sA138, WFp_gA0, WFp_gA1, WFp_gA2, WFp_gA3, WFp_gA4, WFp_gA5, WFp_gA6, WFp_gA8, WFp_gA10, WFp_gA11, WFp_gA15, WFp_gA16, WFp_gA17, WFp_gA18, WFp_gA19, WFp_gA20, WFp_gA21, WFp_gA22, WFp_gA23, WFp_gA24, WFp_gA25, WFp_gA26, WFp_gA27, WFp_gA29, WFp_gA30, WFp_gA31, WFp_gA33, WFp_gA34, WFp_gA35, WFp_gA36, WFp_gA37, WFp_sF7, WFp_sF9] at *
  (repeat' (first | with_reducible intro _ | with_reducible apply And.intro))
  all_goals (first | assumption | omega | grind (splits := 20) [rNM_sF0])
theorem wX14_entry (l : Launch) (G : zG) (κ : Nat → Nat) (σ : rS) (x1 : Int) (x2 : Int) (hwf : rWF σ) (hx1 : rng x1) (hx2 : rng x2) (Q : Int → rS → Prop) (h : VC_X14_entry σ x1 x2 Q) (h_58 : VC_X14_entry_58 σ x1 x2 Q) (h_58m : VC_X14_entry_58m σ x1 x2) : rMi l G κ yX14_entry cX14_entry 4 .boolean 2 24 [.ref (κ 0), iv x1, iv x2] σ (fun x s => rKeep 0x40000200000000009 0 0xe9000000000000 0 0 σ s ∧ Q x s) := by
  refine zMi.intro (by decide +kernel) (Nat.le_of_ble_eq_true rfl) (fun X hC hR => ?_)
  refine z_aload_n hC (pc := 0) 0 dX14_entry_0 rfl rfl ?_
  refine z_iconst hC (pc := 1) (v := Int32.ofInt 0) dX14_entry_1 (by decide) ?_
  refine y_putI hC (pc := 2) zf14 rOb_0 0 (x := 0) dX14_entry_2 zw2468 (Or.inl rfl) rfl rfl (kk := ?_)
  have W10 := hwf.sF (q := 0) (f := 0) (x := 0) (r_lit rfl)
  refine z_aload_n hC (pc := 5) 0 dX14_entry_5 rfl rfl ?_
  obtain ⟨p11, h⟩ := h
  refine y_callVv hC (pc := 6) (As := []) (kX14_take l G κ (sF σ 0 0 0)  W10  p11) dmX14_take zf14 rOb_0 dX14_entry_6 zw2905 rfl rfl (Nat.le_of_ble_eq_true rfl) (Nat.le_of_ble_eq_true rfl) (Nat.le_of_ble_eq_true rfl) (Nat.le_of_ble_eq_true rfl) (Nat.le_of_ble_eq_true rfl) (kk := fun s12 Ws12 qs12 => ?_)
  have h := h s12 Ws12 (VMp.keep qs12.1 rfl rfl) (KYp.keep qs12.1 rfl rfl) (PPp.keep qs12.1 rfl rfl) (WFp.keep qs12.1 rfl rfl) (qs12.1.F rfl) (qs12.1.F rfl) (qs12.1.F rfl) (qs12.1.F rfl) (fun i => qs12.1.A (f := 46) (by decide) rfl) qs12.2
  refine z_aload_n hC (pc := 9) 0 dX14_entry_9 rfl rfl ?_
  obtain ⟨p14, h⟩ := h
  refine y_callVi hC (pc := 10) (As := []) (kX14_isMade l G κ s12  Ws12  p14) dmX14_isMade zf14 rOb_0 dX14_entry_10 zw2893 rfl rfl (Nat.le_of_ble_eq_true rfl) (Nat.le_of_ble_eq_true rfl) (Nat.le_of_ble_eq_true rfl) (Nat.le_of_ble_eq_true rfl) (Nat.le_of_ble_eq_true rfl) (kk := fun x16 s15 hx16 Ws15 qs15 => ?_)
  obtain ⟨es15, qs15⟩ := qs15
  have es15 := es15.symm
  subst es15
  have h := h x16 hx16 qs15
  obtain ⟨hT, hF⟩ := h
  refine y_if_ne hC (pc := 13) 51 hx16 dX14_entry_13 (by decide) (fun c => ?_) (fun c => ?_)
  · have h := hT c
    refine z_iconst hC (pc := 51) (v := Int32.ofInt 0) dX14_entry_51 (by decide) ?_
    exact y_reti hR dX14_entry_52 rfl (r_lit rfl) Ws12 (Nat.le_of_ble_eq_true rfl) (Nat.le_of_ble_eq_true rfl) ⟨(rKeep.tr (rKeep.tr rKeep.rf (rKeep.sF0 (f := 0)) rfl rfl rfl rfl rfl) qs12.1 rfl rfl rfl rfl rfl), h⟩
  · have h := hF c
    refine z_aload_n hC (pc := 16) 0 dX14_entry_16 rfl rfl ?_
    refine z_iload_n hC (pc := 17) 1 dX14_entry_17 rfl rfl ?_
    refine z_iconst hC (pc := 18) (v := Int32.ofInt 4) dX14_entry_18 (by decide) ?_
    obtain ⟨p17, h⟩ := h
    refine y_callVi hC (pc := 19) (As := [iv x1, iv 4]) (kX14_isValue l G κ s12 x1 4 Ws12 hx1 (r_lit rfl) p17) dmX14_isValue zf14 rOb_0 dX14_entry_19 zw2925 rfl rfl (Nat.le_of_ble_eq_true rfl) (Nat.le_of_ble_eq_true rfl) (Nat.le_of_ble_eq_true rfl) (Nat.le_of_ble_eq_true rfl) (Nat.le_of_ble_eq_true rfl) (kk := fun x19 s18 hx19 Ws18 qs18 => ?_)
    obtain ⟨es18, qs18⟩ := qs18
    have es18 := es18.symm
    subst es18
    have h := h x19 hx19 qs18
    obtain ⟨hT, hF⟩ := h
    refine y_if_eq hC (pc := 22) 51 hx19 dX14_entry_22 (by decide) (fun c => ?_) (fun c => ?_)
    · have h := hT c
      refine z_iconst hC (pc := 51) (v := Int32.ofInt 0) dX14_entry_51 (by decide) ?_
      exact y_reti hR dX14_entry_52 rfl (r_lit rfl) Ws12 (Nat.le_of_ble_eq_true rfl) (Nat.le_of_ble_eq_true rfl) ⟨(rKeep.tr (rKeep.tr rKeep.rf (rKeep.sF0 (f := 0)) rfl rfl rfl rfl rfl) qs12.1 rfl rfl rfl rfl rfl), h⟩
    · have h := hF c
      refine z_aload_n hC (pc := 25) 0 dX14_entry_25 rfl rfl ?_
      refine z_iload_n hC (pc := 26) 1 dX14_entry_26 rfl rfl ?_
      refine z_iload_n hC (pc := 27) 2 dX14_entry_27 rfl rfl ?_
      obtain ⟨p20, h⟩ := h
      refine y_callVi hC (pc := 28) (As := [iv x1, iv x2]) (kX14_mayHave l G κ s12 x1 x2 Ws12 hx1 hx2 p20) dmX14_mayHave zf14 rOb_0 dX14_entry_28 zw2929 rfl rfl (Nat.le_of_ble_eq_true rfl) (Nat.le_of_ble_eq_true rfl) (Nat.le_of_ble_eq_true rfl) (Nat.le_of_ble_eq_true rfl) (Nat.le_of_ble_eq_true rfl) (kk := fun x22 s21 hx22 Ws21 qs21 => ?_)
      obtain ⟨es21, qs21⟩ := qs21
      have es21 := es21.symm
      subst es21
      have h := h x22 hx22 qs21
      obtain ⟨hT, hF⟩ := h
      refine y_if_eq hC (pc := 31) 51 hx22 dX14_entry_31 (by decide) (fun c => ?_) (fun c => ?_)
      · have h := hT c
        refine z_iconst hC (pc := 51) (v := Int32.ofInt 0) dX14_entry_51 (by decide) ?_
        exact y_reti hR dX14_entry_52 rfl (r_lit rfl) Ws12 (Nat.le_of_ble_eq_true rfl) (Nat.le_of_ble_eq_true rfl) ⟨(rKeep.tr (rKeep.tr rKeep.rf (rKeep.sF0 (f := 0)) rfl rfl rfl rfl rfl) qs12.1 rfl rfl rfl rfl rfl), h⟩
      · have h := hF c
        refine z_aload_n hC (pc := 34) 0 dX14_entry_34 rfl rfl ?_
        refine y_get hC (pc := 35) zf14 rOb_0 66 (v := iv (rF s12 0 66)) dX14_entry_35 zw2533 (rv_i (Or.inl rfl) rfl) (kk := ?_)
        have h := h (Ws12.f _ _)
        refine z_iconst hC (pc := 38) (v := Int32.ofInt 1) dX14_entry_38 (by decide) ?_
        obtain ⟨hT, hF⟩ := h
        refine y_icmp_lt hC (pc := 39) 51 (Ws12.f _ _) (r_lit rfl) dX14_entry_39 (by decide) (fun c => ?_) (fun c => ?_)
        · have h := hT c
          refine z_iconst hC (pc := 51) (v := Int32.ofInt 0) dX14_entry_51 (by decide) ?_
          exact y_reti hR dX14_entry_52 rfl (r_lit rfl) Ws12 (Nat.le_of_ble_eq_true rfl) (Nat.le_of_ble_eq_true rfl) ⟨(rKeep.tr (rKeep.tr rKeep.rf (rKeep.sF0 (f := 0)) rfl rfl rfl rfl rfl) qs12.1 rfl rfl rfl rfl rfl), h⟩
        · have h := hF c
          refine z_aload_n hC (pc := 42) 0 dX14_entry_42 rfl rfl ?_
          refine y_get hC (pc := 43) zf14 rOb_0 66 (v := iv (rF s12 0 66)) dX14_entry_43 zw2533 (rv_i (Or.inl rfl) rfl) (kk := ?_)
          refine z_bipush hC (pc := 46) (v := Int32.ofInt 20) dX14_entry_46 (by decide) ?_
          obtain ⟨hT, hF⟩ := h
          refine y_icmp_le hC (pc := 48) 53 (Ws12.f _ _) (r_lit rfl) dX14_entry_48 (by decide) (fun c => ?_) (fun c => ?_)
          · have h := hT c
            refine z_bipush hC (pc := 53) (v := Int32.ofInt 50) dX14_entry_53 (by decide) ?_
            refine z_iload_n hC (pc := 55) 1 dX14_entry_55 rfl rfl ?_
            refine y_imul hC (pc := 56) (v := (50 * x1)) dX14_entry_56 rfl ?_
            refine z_istore_n hC (pc := 57) (lv' := [(3, iv (50 * x1)), (0, .ref (κ 0)), (1, iv x1), (2, iv x2)]) dX14_entry_57 rfl (by decide) rfl ?_
            have j58 : ∀ (d58 : Nat), ∀ (s23 : rS) (y24 : Int), rWF s23 → rng y24 → rKeep 0x40000200000000009 0 0xe9000000000000 0 0 σ s23 → inv_X14_entry_58 σ x1 x2 s23 y24 → (mu_X14_entry_58 σ x1 x2 s23 y24) ≤ d58 → zS X G 4 (rW G κ s23) [(0, .ref (κ 0)), (1, iv x1), (2, iv x2), (3, iv y24)] 0 0 58 [] := by
              intro d58
              induction d58 with
              | zero =>
                intro s23 y24 Ws23 hy24 kJ hI hmu
                exact absurd hmu (by have := h_58m  s23 y24 Ws23 hy24 (PPp.keep kJ rfl rfl) (WFp.keep kJ rfl rfl) (kJ.F rfl) (kJ.F rfl) (kJ.F rfl) (fun i => kJ.A (f := 46) (by decide) rfl) hI; omega)
              | succ d58 ih58 =>
                intro s23 y24 Ws23 hy24 kJ hI hmu58
                have h := h_58  s23 y24 Ws23 hy24 (PPp.keep kJ rfl rfl) (WFp.keep kJ rfl rfl) (kJ.F rfl) (kJ.F rfl) (kJ.F rfl) (fun i => kJ.A (f := 46) (by decide) rfl) hI
                refine z_iload_n hC (pc := 58) 3 dX14_entry_58 rfl rfl ?_
                refine z_bipush hC (pc := 59) (v := Int32.ofInt 50) dX14_entry_59 (by decide) ?_
                refine z_iload_n hC (pc := 61) 1 dX14_entry_61 rfl rfl ?_
                refine y_imul hC (pc := 62) (v := (50 * x1)) dX14_entry_62 rfl ?_
                refine z_aload_n hC (pc := 63) 0 dX14_entry_63 rfl rfl ?_
                refine y_get hC (pc := 64) zf14 rOb_0 51 (v := .ref (κ 1051)) dX14_entry_64 zw2518 (rv_c rfl) (kk := ?_)
                refine z_iload_n hC (pc := 67) 1 dX14_entry_67 rfl rfl ?_
                obtain ⟨b25, h⟩ := h
                refine y_iald hC (pc := 68) (rAr_m rfl) dX14_entry_68 b25 (v := (rA s23 1051 x1)) rfl (kk := ?_)
                have h := h (Ws23.a _ _)
                refine y_iadd hC (pc := 69) (v := ((50 * x1) + (rA s23 1051 x1))) dX14_entry_69 rfl ?_
                obtain ⟨r26, h⟩ := h
                obtain ⟨hT, hF⟩ := h
                refine y_icmp_ge hC (pc := 70) 110 hy24 r26 dX14_entry_70 (by decide) (fun c => ?_) (fun c => ?_)
                · have h := hT c
                  refine z_aload_n hC (pc := 110) 0 dX14_entry_110 rfl rfl ?_
                  refine y_get hC (pc := 111) zf14 rOb_0 51 (v := .ref (κ 1051)) dX14_entry_111 zw2518 (rv_c rfl) (kk := ?_)
                  refine z_iload_n hC (pc := 114) 1 dX14_entry_114 rfl rfl ?_
                  obtain ⟨b27, h⟩ := h
                  refine y_iald hC (pc := 115) (rAr_m rfl) dX14_entry_115 b27 (v := (rA s23 1051 x1)) rfl (kk := ?_)
                  refine z_bipush hC (pc := 116) (v := Int32.ofInt 50) dX14_entry_116 (by decide) ?_
                  obtain ⟨hT, hF⟩ := h
                  refine y_icmp_eq hC (pc := 118) 136 (Ws23.a _ _) (r_lit rfl) dX14_entry_118 (by decide) (fun c => ?_) (fun c => ?_)
                  · have h := hT c
                    refine z_iconst hC (pc := 136) (v := Int32.ofInt 0) dX14_entry_136 (by decide) ?_
                    exact y_reti hR dX14_entry_137 rfl (r_lit rfl) Ws23 (Nat.le_of_ble_eq_true rfl) (Nat.le_of_ble_eq_true rfl) ⟨(rKeep.tr rKeep.rf kJ rfl rfl rfl rfl rfl), h⟩
                  · have h := hF c
                    refine z_aload_n hC (pc := 121) 0 dX14_entry_121 rfl rfl ?_
                    refine y_get hC (pc := 122) zf14 rOb_0 45 (v := iv (rF s23 0 45)) dX14_entry_122 zw2512 (rv_i (Or.inl rfl) rfl) (kk := ?_)
                    have h := h (Ws23.f _ _)
                    refine z_aload_n hC (pc := 125) 0 dX14_entry_125 rfl rfl ?_
                    refine y_get hC (pc := 126) zf14 rOb_0 66 (v := iv (rF s23 0 66)) dX14_entry_126 zw2533 (rv_i (Or.inl rfl) rfl) (kk := ?_)
                    have h := h (Ws23.f _ _)
                    refine y_iadd hC (pc := 129) (v := ((rF s23 0 45) + (rF s23 0 66))) dX14_entry_129 rfl ?_
                    refine z_sipush hC (pc := 130) (v := Int32.ofInt 16000) dX14_entry_130 (by decide) ?_
                    obtain ⟨r28, h⟩ := h
                    obtain ⟨hT, hF⟩ := h
                    refine y_icmp_le hC (pc := 133) 138 r28 (r_lit rfl) dX14_entry_133 (by decide) (fun c => ?_) (fun c => ?_)
                    · have h := hT c
                      refine z_bipush hC (pc := 138) (v := Int32.ofInt 50) dX14_entry_138 (by decide) ?_
                      refine z_iload_n hC (pc := 140) 1 dX14_entry_140 rfl rfl ?_
                      refine y_imul hC (pc := 141) (v := (50 * x1)) dX14_entry_141 rfl ?_
                      refine z_aload_n hC (pc := 142) 0 dX14_entry_142 rfl rfl ?_
                      refine y_get hC (pc := 143) zf14 rOb_0 51 (v := .ref (κ 1051)) dX14_entry_143 zw2518 (rv_c rfl) (kk := ?_)
                      refine z_iload_n hC (pc := 146) 1 dX14_entry_146 rfl rfl ?_
                      obtain ⟨b29, h⟩ := h
                      refine y_iald hC (pc := 147) (rAr_m rfl) dX14_entry_147 b29 (v := (rA s23 1051 x1)) rfl (kk := ?_)
                      refine y_iadd hC (pc := 148) (v := ((50 * x1) + (rA s23 1051 x1))) dX14_entry_148 rfl ?_
                      refine z_istore_n hC (pc := 149) (lv' := [(3, iv ((50 * x1) + (rA s23 1051 x1))), (0, .ref (κ 0)), (1, iv x1), (2, iv x2)]) dX14_entry_149 rfl (by decide) rfl ?_
                      refine z_aload_n hC (pc := 150) 1 dX14_entry_150 rfl rfl ?_
                      refine y_get hC (pc := 151) zf14 rOb_0 53 (v := .ref (κ 1053)) dX14_entry_151 zw2520 (rv_c rfl) (kk := ?_)
                      refine z_iload_n hC (pc := 154) 0 dX14_entry_154 rfl rfl ?_
                      refine z_aload_n hC (pc := 155) 1 dX14_entry_155 rfl rfl ?_
                      obtain ⟨p30, h⟩ := h
                      refine y_callVi hC (pc := 156) (As := []) (kX14_keepTape l G κ s23  Ws23  p30) dmX14_keepTape zf14 rOb_0 dX14_entry_156 zw2941 rfl rfl (Nat.le_of_ble_eq_true rfl) (Nat.le_of_ble_eq_true rfl) (Nat.le_of_ble_eq_true rfl) (Nat.le_of_ble_eq_true rfl) (Nat.le_of_ble_eq_true rfl) (kk := fun x32 s31 hx32 Ws31 qs31 => ?_)
                      have h := h x32 s31 hx32 Ws31 (VMp.keep qs31.1 rfl rfl) (KYp.keep qs31.1 rfl rfl) (PPp.keep qs31.1 rfl rfl) (WFp.keep qs31.1 rfl rfl) (qs31.1.F rfl) (qs31.1.F rfl) (qs31.1.F rfl) (qs31.1.F rfl) (qs31.1.F rfl) (fun i => qs31.1.A (f := 46) (by decide) rfl) qs31.2
                      obtain ⟨b33, h⟩ := h
                      refine y_iast hC (pc := 159) (rAr_m rfl) dX14_entry_159 b33 (v := x32) (kk := ?_)
                      have W34 := Ws31.sA (p := 1053) (i := ((50 * x1) + (rA s23 1051 x1))) (x := x32) hx32
                      refine z_aload_n hC (pc := 160) 1 dX14_entry_160 rfl rfl ?_
                      refine y_get hC (pc := 161) zf14 rOb_0 54 (v := .ref (κ 1054)) dX14_entry_161 zw2521 (rv_c rfl) (kk := ?_)
                      refine z_iload_n hC (pc := 164) 0 dX14_entry_164 rfl rfl ?_
                      refine z_aload_n hC (pc := 165) 1 dX14_entry_165 rfl rfl ?_
                      refine y_get hC (pc := 166) zf14 rOb_0 66 (v := iv (rF s23 0 66)) dX14_entry_166 zw2533 (rv_i (Or.inl rfl) ((qs31.1.F rfl).trans rfl)) (kk := ?_)
                      obtain ⟨b35, h⟩ := h
                      refine y_iast hC (pc := 169) (rAr_m rfl) dX14_entry_169 b35 (v := (rF s23 0 66)) (kk := ?_)
                      have W36 := W34.sA (p := 1054) (i := ((50 * x1) + (rA s23 1051 x1))) (x := (rF s23 0 66)) (Ws23.f _ _)
                      refine z_aload_n hC (pc := 170) 1 dX14_entry_170 rfl rfl ?_
                      refine y_get hC (pc := 171) zf14 rOb_0 55 (v := .ref (κ 1055)) dX14_entry_171 zw2522 (rv_c rfl) (kk := ?_)
                      refine z_iload_n hC (pc := 174) 0 dX14_entry_174 rfl rfl ?_
                      refine z_iload_n hC (pc := 175) 3 dX14_entry_175 rfl rfl ?_
                      obtain ⟨b37, h⟩ := h
                      refine y_iast hC (pc := 176) (rAr_m rfl) dX14_entry_176 b37 (v := x2) (kk := ?_)
                      have W38 := W36.sA (p := 1055) (i := ((50 * x1) + (rA s23 1051 x1))) (x := x2) hx2
                      refine z_aload_n hC (pc := 177) 1 dX14_entry_177 rfl rfl ?_
                      refine y_get hC (pc := 178) zf14 rOb_0 51 (v := .ref (κ 1051)) dX14_entry_178 zw2518 (rv_c rfl) (kk := ?_)
                      refine z_iload_n hC (pc := 181) 2 dX14_entry_181 rfl rfl ?_
                      refine z_dup2 hC (pc := 182) dX14_entry_182 rfl rfl ?_
                      obtain ⟨b39, h⟩ := h
                      refine y_iald hC (pc := 183) (rAr_m rfl) dX14_entry_183 b39 (v := (rA s31 1051 x1)) ((A_sA_ne (by decide)).trans ((A_sA_ne (by decide)).trans ((A_sA_ne (by decide)).trans rfl))) (kk := ?_)
                      have h := h (Ws31.a _ _)
                      refine z_iconst hC (pc := 184) (v := Int32.ofInt 1) dX14_entry_184 (by decide) ?_
                      refine y_iadd hC (pc := 185) (v := ((rA s31 1051 x1) + 1)) dX14_entry_185 rfl ?_
                      obtain ⟨b40, h⟩ := h
                      obtain ⟨r41, h⟩ := h
                      refine y_iast hC (pc := 186) (rAr_m rfl) dX14_entry_186 b40 (v := ((rA s31 1051 x1) + 1)) (kk := ?_)
                      have W42 := W38.sA (p := 1051) (i := x1) (x := ((rA s31 1051 x1) + 1)) r41
                      refine z_iconst hC (pc := 187) (v := Int32.ofInt 1) dX14_entry_187 (by decide) ?_
                      exact y_reti hR dX14_entry_188 rfl (r_lit rfl) W42 (Nat.le_of_ble_eq_true rfl) (Nat.le_of_ble_eq_true rfl) ⟨(rKeep.tr (rKeep.tr (rKeep.tr (rKeep.tr (rKeep.tr (rKeep.tr rKeep.rf kJ rfl rfl rfl rfl rfl) qs31.1 rfl rfl rfl rfl rfl) (rKeep.sA0 (f := 53) (by decide)) rfl rfl rfl rfl rfl) (rKeep.sA0 (f := 54) (by decide)) rfl rfl rfl rfl rfl) (rKeep.sA0 (f := 55) (by decide)) rfl rfl rfl rfl rfl) (rKeep.sA0 (f := 51) (by decide)) rfl rfl rfl rfl rfl), h⟩
                    · have h := hF c
                      refine z_iconst hC (pc := 136) (v := Int32.ofInt 0) dX14_entry_136 (by decide) ?_
                      exact y_reti hR dX14_entry_137 rfl (r_lit rfl) Ws23 (Nat.le_of_ble_eq_true rfl) (Nat.le_of_ble_eq_true rfl) ⟨(rKeep.tr rKeep.rf kJ rfl rfl rfl rfl rfl), h⟩
                · have h := hF c
                  refine z_aload_n hC (pc := 73) 0 dX14_entry_73 rfl rfl ?_
                  refine z_aload_n hC (pc := 74) 0 dX14_entry_74 rfl rfl ?_
                  refine y_get hC (pc := 75) zf14 rOb_0 53 (v := .ref (κ 1053)) dX14_entry_75 zw2520 (rv_c rfl) (kk := ?_)
                  refine z_iload_n hC (pc := 78) 3 dX14_entry_78 rfl rfl ?_
                  obtain ⟨b43, h⟩ := h
                  refine y_iald hC (pc := 79) (rAr_m rfl) dX14_entry_79 b43 (v := (rA s23 1053 y24)) rfl (kk := ?_)
                  have h := h (Ws23.a _ _)
                  refine z_aload_n hC (pc := 80) 0 dX14_entry_80 rfl rfl ?_
                  refine y_get hC (pc := 81) zf14 rOb_0 54 (v := .ref (κ 1054)) dX14_entry_81 zw2521 (rv_c rfl) (kk := ?_)
                  refine z_iload_n hC (pc := 84) 3 dX14_entry_84 rfl rfl ?_
                  obtain ⟨b44, h⟩ := h
                  refine y_iald hC (pc := 85) (rAr_m rfl) dX14_entry_85 b44 (v := (rA s23 1054 y24)) rfl (kk := ?_)
                  have h := h (Ws23.a _ _)
                  obtain ⟨p45, h⟩ := h
                  refine y_callVi hC (pc := 86) (As := [iv (rA s23 1053 y24), iv (rA s23 1054 y24)]) (kX14_isTape l G κ s23 (rA s23 1053 y24) (rA s23 1054 y24) Ws23 (Ws23.a _ _) (Ws23.a _ _) p45) dmX14_isTape zf14 rOb_0 dX14_entry_86 zw2937 rfl rfl (Nat.le_of_ble_eq_true rfl) (Nat.le_of_ble_eq_true rfl) (Nat.le_of_ble_eq_true rfl) (Nat.le_of_ble_eq_true rfl) (Nat.le_of_ble_eq_true rfl) (kk := fun x47 s46 hx47 Ws46 qs46 => ?_)
                  obtain ⟨es46, qs46⟩ := qs46
                  have es46 := es46.symm
                  subst es46
                  have h := h x47 hx47 qs46
                  obtain ⟨hT, hF⟩ := h
                  refine y_if_ne hC (pc := 89) 95 hx47 dX14_entry_89 (by decide) (fun c => ?_) (fun c => ?_)
                  · have h := hT c
                    refine z_aload_n hC (pc := 95) 0 dX14_entry_95 rfl rfl ?_
                    refine y_get hC (pc := 96) zf14 rOb_0 55 (v := .ref (κ 1055)) dX14_entry_96 zw2522 (rv_c rfl) (kk := ?_)
                    refine z_iload_n hC (pc := 99) 3 dX14_entry_99 rfl rfl ?_
                    refine z_iload_n hC (pc := 100) 2 dX14_entry_100 rfl rfl ?_
                    obtain ⟨b48, h⟩ := h
                    refine y_iast hC (pc := 101) (rAr_m rfl) dX14_entry_101 b48 (v := x2) (kk := ?_)
                    have W49 := Ws23.sA (p := 1055) (i := y24) (x := x2) hx2
                    refine z_iconst hC (pc := 102) (v := Int32.ofInt 1) dX14_entry_102 (by decide) ?_
                    exact y_reti hR dX14_entry_103 rfl (r_lit rfl) W49 (Nat.le_of_ble_eq_true rfl) (Nat.le_of_ble_eq_true rfl) ⟨(rKeep.tr (rKeep.tr rKeep.rf kJ rfl rfl rfl rfl rfl) (rKeep.sA0 (f := 55) (by decide)) rfl rfl rfl rfl rfl), h⟩
                  · have h := hF c
                    refine z_goto hC (pc := 92) 104 dX14_entry_92 (by decide) ?_
                    refine y_iinc hC (pc := 104) (v := (y24 + 1)) (lv' := [(3, iv (y24 + 1)), (0, .ref (κ 0)), (1, iv x1), (2, iv x2)]) 3 dX14_entry_104 rfl rfl (by decide) rfl ?_
                    refine z_goto hC (pc := 107) 58 dX14_entry_107 (by decide) ?_
                    refine z_lvs [1, 2, 3, 0] rfl ?_
                    obtain ⟨r50, h⟩ := h
                    obtain ⟨hI, hm⟩ := h
                    exact ih58 s23 (y24 + 1) Ws23 r50 (rKeep.tr rKeep.rf kJ rfl rfl rfl rfl rfl) hI (by omega)
            refine z_lvs [1, 2, 3, 0] rfl ?_
            obtain ⟨r51, h⟩ := h
            exact j58 _ s12 (50 * x1) Ws12 r51 (rKeep.tr (rKeep.tr rKeep.rf (rKeep.sF0 (f := 0)) rfl rfl rfl rfl rfl) qs12.1 rfl rfl rfl rfl rfl) h (Nat.le_refl _)
          · have h := hF c
            refine z_iconst hC (pc := 51) (v := Int32.ofInt 0) dX14_entry_51 (by decide) ?_
            exact y_reti hR dX14_entry_52 rfl (r_lit rfl) Ws12 (Nat.le_of_ble_eq_true rfl) (Nat.le_of_ble_eq_true rfl) ⟨(rKeep.tr (rKeep.tr rKeep.rf (rKeep.sF0 (f := 0)) rfl rfl rfl rfl rfl) qs12.1 rfl rfl rfl rfl rfl), h⟩
theorem kX14_entry (l : Launch) (G : zG) (κ : Nat → Nat) (σ : rS) (x1 : Int) (x2 : Int) (hwf : rWF σ) (hx1 : rng x1) (hx2 : rng x2) (hp : pre_X14_entry σ x1 x2) : rMi l G κ yX14_entry cX14_entry 4 .boolean 2 24 [.ref (κ 0), iv x1, iv x2] σ (fun x s => rKeep 0x40000200000000009 0 0xe9000000000000 0 0 σ s ∧ post_X14_entry σ x1 x2 x s) := wX14_entry l G κ σ x1 x2 hwf hx1 hx2 (post_X14_entry σ x1 x2) (vX14_entry σ x1 x2 hwf hx1 hx2 hp) (vX14_entry_58 σ x1 x2 hwf hx1 hx2 hp) (vX14_entry_58m σ x1 x2 hwf hx1 hx2 hp)
def pre_X14_property (σ : rS) (x1 : Int) (x2 : Int) (x3 : Int) : Prop := 0 ≤ (rF σ 0 43) ∧ (rF σ 0 43) ≤ 500 ∧ 0 ≤ (rF σ 0 45) ∧ (rF σ 0 45) ≤ 16000 ∧ 0 ≤ (rF σ 0 44) ∧ (rF σ 0 44) ≤ 4000 ∧ 0 ≤ (rF σ 0 60) ∧ (rF σ 0 60) ≤ 40 ∧ 0 ≤ (rF σ 0 3) ∧ (rF σ 0 3) ≤ 4000 ∧ VMp σ ∧ KYp σ ∧ PPp σ ∧ WFp σ
def post_X14_property (σ : rS) (x1 : Int) (x2 : Int) (x3 : Int) (r : Int) (σ' : rS) : Prop := 0 ≤ (rF σ' 0 43) ∧ (rF σ' 0 43) ≤ 500 ∧ 0 ≤ (rF σ' 0 45) ∧ (rF σ' 0 45) ≤ 16000 ∧ 0 ≤ (rF σ' 0 44) ∧ (rF σ' 0 44) ≤ 4000 ∧ 0 ≤ (rF σ' 0 60) ∧ (rF σ' 0 60) ≤ 40 ∧ 0 ≤ (rF σ' 0 3) ∧ (rF σ' 0 3) ≤ 4000 ∧ VMp σ' ∧ KYp σ' ∧ PPp σ' ∧ WFp σ'
def inv_X14_property_99 (σ : rS) (x1 : Int) (x2 : Int) (x3 : Int)  (s : rS) (k : Int) : Prop := 0 ≤ (rF s 0 43) ∧ (rF s 0 43) ≤ 500 ∧ 0 ≤ (rF s 0 45) ∧ (rF s 0 45) ≤ 16000 ∧ 0 ≤ (rF s 0 44) ∧ (rF s 0 44) ≤ 4000 ∧ 0 ≤ (rF s 0 60) ∧ (rF s 0 60) ≤ 40 ∧ 0 ≤ (rF s 0 3) ∧ (rF s 0 3) ≤ 4000 ∧ 1 ≤ (rF s 0 66) ∧ (rF s 0 66) ≤ 16 ∧ (rF s 0 45) + (rF s 0 66) ≤ 16000 ∧ 0 ≤ x1 ∧ x1 < 500 ∧ (rA σ 1046 (x1)) = 5 ∧ (rA σ 1051 (x1)) ≤ 11 ∧ 12 * x1 ≤ k ∧ VMp s ∧ PPp s
def mu_X14_property_99 (σ : rS) (x1 : Int) (x2 : Int) (x3 : Int) (s : rS) (k : Int) : Nat := (1 + (12 * x1 + 12 - k).toNat)
def VC_X14_property (σ : rS) (x1 : Int) (x2 : Int) (x3 : Int) (Q : Int → rS → Prop) : Prop := pre_X14_take (sF σ 0 0 0) ∧ (∀ (s12 : rS), rWF s12 → (VMp (sF σ 0 0 0) → VMp s12) → (KYp (sF σ 0 0 0) → KYp s12) → (PPp (sF σ 0 0 0) → PPp s12) → (WFp (sF σ 0 0 0) → WFp s12) → rF s12 0 43 = rF (sF σ 0 0 0) 0 43 → rF s12 0 44 = rF (sF σ 0 0 0) 0 44 → rF s12 0 45 = rF (sF σ 0 0 0) 0 45 → rF s12 0 60 = rF (sF σ 0 0 0) 0 60 → (∀ i, rA s12 1046 i = rA (sF σ 0 0 0) 1046 i) → (∀ i, rA s12 1051 i = rA (sF σ 0 0 0) 1051 i) → post_X14_take (sF σ 0 0 0) s12 → pre_X14_isMade s12 ∧ (∀ (x16 : Int), rng x16 → post_X14_isMade s12 x16 → ((¬ x16 = 0 → Q 0 s12) ∧ (x16 = 0 → pre_X14_isValue s12 x1 5 ∧ (∀ (x19 : Int), rng x19 → post_X14_isValue s12 x1 5 x19 → ((x19 = 0 → Q 0 s12) ∧ (¬ x19 = 0 → ((x2 < 0 → Q 0 s12) ∧ (¬ x2 < 0 → ((3 < x2 → Q 0 s12) ∧ (¬ 3 < x2 → ((x3 < (-2) → Q 0 s12) ∧ (¬ x3 < (-2) → (rng (rF s12 0 43) → (((rF s12 0 43) ≤ x3 → Q 0 s12) ∧ (¬ (rF s12 0 43) ≤ x3 → (rng (rF s12 0 66) → (((rF s12 0 66) < 1 → Q 0 s12) ∧ (¬ (rF s12 0 66) < 1 → ((16 < (rF s12 0 66) → Q 0 s12) ∧ (¬ 16 < (rF s12 0 66) → (0 ≤ x1 ∧ x1 < 500) ∧ (rng (rA s12 1051 x1) → (((rA s12 1051 x1) = 12 → Q 0 s12) ∧ (¬ (rA s12 1051 x1) = 12 → (rng (rF s12 0 45) → rng ((rF s12 0 45) + (rF s12 0 66)) ∧ ((((rF s12 0 45) + (rF s12 0 66)) ≤ 16000 → rng (12 * x1) ∧ (inv_X14_property_99 σ x1 x2 x3 s12 (12 * x1))) ∧ (¬ ((rF s12 0 45) + (rF s12 0 66)) ≤ 16000 → Q 0 s12)))))))))))))))))))))))))))
def VC_X14_property_99 (σ : rS) (x1 : Int) (x2 : Int) (x3 : Int) (Q : Int → rS → Prop) : Prop := ∀ (s22 : rS) (y23 : Int), rWF s22 → rng y23 → (KYp σ → KYp s22) → (WFp σ → WFp s22) → rF s22 0 43 = rF σ 0 43 → rF s22 0 44 = rF σ 0 44 → rF s22 0 60 = rF σ 0 60 → (∀ i, rA s22 1046 i = rA σ 1046 i) → inv_X14_property_99 σ x1 x2 x3 s22 y23 → ((0 ≤ x1 ∧ x1 < 500) ∧ (rng (rA s22 1051 x1) → rng ((12 * x1) + (rA s22 1051 x1)) ∧ ((((12 * x1) + (rA s22 1051 x1)) ≤ y23 → (0 ≤ x1 ∧ x1 < 500) ∧ pre_X14_keepTape s22 ∧ (∀ (x29 : Int) (s28 : rS), rng x29 → rWF s28 → (VMp s22 → VMp s28) → (KYp s22 → KYp s28) → (PPp s22 → PPp s28) → (WFp s22 → WFp s28) → rF s28 0 3 = rF s22 0 3 → rF s28 0 43 = rF s22 0 43 → rF s28 0 44 = rF s22 0 44 → rF s28 0 60 = rF s22 0 60 → rF s28 0 66 = rF s22 0 66 → (∀ i, rA s28 1046 i = rA s22 1046 i) → (∀ i, rA s28 1051 i = rA s22 1051 i) → post_X14_keepTape s22 x29 s28 → (0 ≤ ((12 * x1) + (rA s22 1051 x1)) ∧ ((12 * x1) + (rA s22 1051 x1)) < 6000) ∧ (rng (rF s28 0 66) → (0 ≤ ((12 * x1) + (rA s22 1051 x1)) ∧ ((12 * x1) + (rA s22 1051 x1)) < 6000) ∧ (0 ≤ ((12 * x1) + (rA s22 1051 x1)) ∧ ((12 * x1) + (rA s22 1051 x1)) < 6000) ∧ (0 ≤ ((12 * x1) + (rA s22 1051 x1)) ∧ ((12 * x1) + (rA s22 1051 x1)) < 6000) ∧ (0 ≤ x1 ∧ x1 < 500) ∧ (rng (rA s28 1051 x1) → (0 ≤ x1 ∧ x1 < 500) ∧ rng ((rA s28 1051 x1) + 1) ∧ Q 1 (sA (sA (sA (sA (sA s28 1056 ((12 * x1) + (rA s22 1051 x1)) x29) 1057 ((12 * x1) + (rA s22 1051 x1)) (rF s28 0 66)) 1058 ((12 * x1) + (rA s22 1051 x1)) x2) 1059 ((12 * x1) + (rA s22 1051 x1)) x3) 1051 x1 ((rA s28 1051 x1) + 1)))))) ∧ (¬ ((12 * x1) + (rA s22 1051 x1)) ≤ y23 → (0 ≤ y23 ∧ y23 < 6000) ∧ (rng (rA s22 1058 y23) → ((¬ (rA s22 1058 y23) = x2 → rng (y23 + 1) ∧ (inv_X14_property_99 σ x1 x2 x3 s22 (y23 + 1) ∧ (mu_X14_property_99 σ x1 x2 x3 s22 (y23 + 1)) < (mu_X14_property_99 σ x1 x2 x3 s22 y23))) ∧ ((rA s22 1058 y23) = x2 → (0 ≤ y23 ∧ y23 < 6000) ∧ (rng (rA s22 1056 y23) → (0 ≤ y23 ∧ y23 < 6000) ∧ (rng (rA s22 1057 y23) → pre_X14_isTape s22 (rA s22 1056 y23) (rA s22 1057 y23) ∧ (∀ (x48 : Int), rng x48 → post_X14_isTape s22 (rA s22 1056 y23) (rA s22 1057 y23) x48 → ((x48 = 0 → rng (y23 + 1) ∧ (inv_X14_property_99 σ x1 x2 x3 s22 (y23 + 1) ∧ (mu_X14_property_99 σ x1 x2 x3 s22 (y23 + 1)) < (mu_X14_property_99 σ x1 x2 x3 s22 y23))) ∧ (¬ x48 = 0 → Q 0 s22))))))))))))
def VC_X14_property_99m (σ : rS) (x1 : Int) (x2 : Int) (x3 : Int) : Prop := ∀ (s22 : rS) (y23 : Int), rWF s22 → rng y23 → (KYp σ → KYp s22) → (WFp σ → WFp s22) → rF s22 0 43 = rF σ 0 43 → rF s22 0 44 = rF σ 0 44 → rF s22 0 60 = rF σ 0 60 → (∀ i, rA s22 1046 i = rA σ 1046 i) → inv_X14_property_99 σ x1 x2 x3 s22 y23 → 0 < (mu_X14_property_99 σ x1 x2 x3 s22 y23)
set_option maxHeartbeats 400000 in
theorem vX14_property (σ : rS) (x1 : Int) (x2 : Int) (x3 : Int) (hwf : rWF σ) (hx1 : rng x1) (hx2 : rng x2) (hx3 : rng x3) (hp : pre_X14_property σ x1 x2 x3) : VC_X14_property σ x1 x2 x3 (post_X14_property σ x1 x2 x3) := by
  simp only [VC_X14_property, pre_X14_property, post_X14_property, inv_X14_property_99, mu_X14_property_99, pre_X14_take, pre_X14_isValue, pre_X14_isMade, pre_X14_keepTape, pre_X14_isTape, post_X14_take, post_X14_isValue, post_X14_isMade, post_X14_keepTape, post_X14_isTape, VMp, PPp, rng, rfk, rNMp, rF_sF, rF_sA, rF_sL, rF_sR, rA_sA, rA_sF, rA_sL, rA_sR, rR_sF, rR_sA, rR_sL, rR_sR, reduceIte, and_true, true_and, and_false, false_and, and_self, VMp_sL, VMp_sF0, VMp_sF3, VMp_sF10, VMp_sF11, VMp_sF12, VMp_sF13, VMp_sF14, VMp_sF16, VMp_sF17, VMp_sF18, VMp_sF19, VMp_sF21, VMp_sF22, VMp_sF23, VMp_sF24, VMp_sF25, VMp_sF28, VMp_sF29, VMp_sF30, VMp_sF31, VMp_sF32, VMp_sF33, VMp_sF38, VMp_sF39, VMp_sF41, VMp_sF42, VMp_sF43, VMp_sF44, VMp_sF45, VMp_sF60, VMp_sF65, VMp_sF66, VMp_sF67, VMp_sF68, VMp_sF70, VMp_sF71, VMp_sF72, VMp_sF73, VMp_sF74, VMp_sF80, VMp_sF81, VMp_sF82, VMp_sF83, VMp_sF88, VMp_sF92, VMp_sF94, VMp_sF96, VMp_sF97, VMp_sF98, VMp_sF99, VMp_sF100, VMp_sF101, VMp_sF103, VMp_sF104, VMp_sF112, VMp_sF113, VMp_sF118, VMp_sF119, VMp_sF122, VMp_sF123, VMp_sF135, VMp_sF137, VMp_sA1, VMp_sA2, VMp_sA5, VMp_sA20, VMp_sA26, VMp_sA27, VMp_sA34, VMp_sA35, VMp_sA36, VMp_sA37, VMp_sA40, VMp_sA47, VMp_sA48, VMp_sA49, VMp_sA50, VMp_sA52, VMp_sA53, VMp_sA54, VMp_sA55, VMp_sA56, VMp_sA57, VMp_sA58, VMp_sA59, VMp_sA61, VMp_sA62, VMp_sA63, VMp_sA64, VMp_sA69, VMp_sA75, VMp_sA76, VMp_sA77, VMp_sA78, VMp_sA79, VMp_sA84, VMp_sA85, VMp_sA86, VMp_sA87, VMp_sA89, VMp_sA90, VMp_sA91, VMp_sA93, VMp_sA102, VMp_sA105, VMp_sA106, VMp_sA107, VMp_sA108, VMp_sA109, VMp_sA110, VMp_sA111, VMp_sA114, VMp_sA115, VMp_sA116, VMp_sA117, VMp_sA120, VMp_sA121, VMp_sA124, VMp_sA125, VMp_sA126, VMp_sA127, VMp_sA128, VMp_sA129, VMp_sA136, VMp_sA138, VMp_gA0, VMp_gA1, VMp_gA2, VMp_gA3, VMp_gA4, VMp_gA5, VMp_gA6, VMp_gA8, VMp_gA10, VMp_gA11, VMp_gA15, VMp_gA16, VMp_gA17, VMp_gA18, VMp_gA19, VMp_gA20, VMp_gA21, VMp_gA22, VMp_gA23, VMp_gA24, VMp_gA25, VMp_gA26, VMp_gA27, VMp_gA29, VMp_gA30, VMp_gA31, VMp_gA33, VMp_gA34, VMp_gA35, VMp_gA36, VMp_gA37, VMp_sF7, VMp_sF9, KYp_sL, KYp_sF0, KYp_sF3, KYp_sF10, KYp_sF11, KYp_sF12, KYp_sF13, KYp_sF14, KYp_sF16, KYp_sF17, KYp_sF18, KYp_sF19, KYp_sF21, KYp_sF22, KYp_sF23, KYp_sF24, KYp_sF25, KYp_sF28, KYp_sF29, KYp_sF30, KYp_sF31, KYp_sF32, KYp_sF33, KYp_sF38, KYp_sF39, KYp_sF41, KYp_sF42, KYp_sF43, KYp_sF44, KYp_sF45, KYp_sF60, KYp_sF65, KYp_sF66, KYp_sF67, KYp_sF68, KYp_sF70, KYp_sF71, KYp_sF72, KYp_sF73, KYp_sF74, KYp_sF80, KYp_sF81, KYp_sF82, KYp_sF83, KYp_sF88, KYp_sF92, KYp_sF94, KYp_sF96, KYp_sF97, KYp_sF98, KYp_sF99, KYp_sF100, KYp_sF101, KYp_sF103, KYp_sF104, KYp_sF112, KYp_sF113, KYp_sF118, KYp_sF119, KYp_sF122, KYp_sF123, KYp_sF135, KYp_sF137, KYp_sA1, KYp_sA2, KYp_sA5, KYp_sA20, KYp_sA26, KYp_sA27, KYp_sA34, KYp_sA35, KYp_sA36, KYp_sA37, KYp_sA40, KYp_sA46, KYp_sA47, KYp_sA48, KYp_sA49, KYp_sA50, KYp_sA51, KYp_sA52, KYp_sA55, KYp_sA56, KYp_sA57, KYp_sA58, KYp_sA59, KYp_sA61, KYp_sA62, KYp_sA63, KYp_sA64, KYp_sA69, KYp_sA75, KYp_sA76, KYp_sA77, KYp_sA78, KYp_sA79, KYp_sA84, KYp_sA85, KYp_sA86, KYp_sA87, KYp_sA89, KYp_sA90, KYp_sA91, KYp_sA93, KYp_sA102, KYp_sA105, KYp_sA106, KYp_sA107, KYp_sA108, KYp_sA109, KYp_sA110, KYp_sA111, KYp_sA114, KYp_sA115, KYp_sA116, KYp_sA117, KYp_sA120, KYp_sA121, KYp_sA124, KYp_sA125, KYp_sA126, KYp_sA127, KYp_sA128, KYp_sA129, KYp_sA136, KYp_sA138, KYp_gA0, KYp_gA1, KYp_gA2, KYp_gA3, KYp_gA4, KYp_gA5, KYp_gA6, KYp_gA8, KYp_gA10, KYp_gA11, KYp_gA15, KYp_gA16, KYp_gA17, KYp_gA18, KYp_gA19, KYp_gA20, KYp_gA21, KYp_gA22, KYp_gA23, KYp_gA24, KYp_gA25, KYp_gA26, KYp_gA27, KYp_gA29, KYp_gA30, KYp_gA31, KYp_gA33, KYp_gA34, KYp_gA35, KYp_gA36, KYp_gA37, KYp_sF7, KYp_sF9, PPp_sL, PPp_sF0, PPp_sF3, PPp_sF10, PPp_sF11, PPp_sF12, PPp_sF13, PPp_sF14, PPp_sF16, PPp_sF17, PPp_sF18, PPp_sF19, PPp_sF21, PPp_sF22, PPp_sF23, PPp_sF24, PPp_sF25, PPp_sF28, PPp_sF29, PPp_sF30, PPp_sF31, PPp_sF32, PPp_sF33, PPp_sF38, PPp_sF39, PPp_sF41, PPp_sF42, PPp_sF43, PPp_sF44, PPp_sF45, PPp_sF60, PPp_sF65, PPp_sF66, PPp_sF67, PPp_sF68, PPp_sF70, PPp_sF71, PPp_sF72, PPp_sF73, PPp_sF74, PPp_sF80, PPp_sF81, PPp_sF82, PPp_sF83, PPp_sF88, PPp_sF92, PPp_sF94, PPp_sF96, PPp_sF97, PPp_sF98, PPp_sF99, PPp_sF100, PPp_sF101, PPp_sF103, PPp_sF104, PPp_sF112, PPp_sF113, PPp_sF118, PPp_sF119, PPp_sF122, PPp_sF123, PPp_sF135, PPp_sF137, PPp_sA1, PPp_sA2, PPp_sA5, PPp_sA20, PPp_sA26, PPp_sA27, PPp_sA34, PPp_sA35, PPp_sA36, PPp_sA37, PPp_sA40, PPp_sA46, PPp_sA47, PPp_sA48, PPp_sA49, PPp_sA50, PPp_sA51, PPp_sA52, PPp_sA53, PPp_sA54, PPp_sA55, PPp_sA58, PPp_sA59, PPp_sA61, PPp_sA62, PPp_sA63, PPp_sA64, PPp_sA69, PPp_sA75, PPp_sA76, PPp_sA77, PPp_sA78, PPp_sA79, PPp_sA84, PPp_sA85, PPp_sA86, PPp_sA87, PPp_sA89, PPp_sA90, PPp_sA91, PPp_sA93, PPp_sA102, PPp_sA105, PPp_sA106, PPp_sA107, PPp_sA108, PPp_sA109, PPp_sA110, PPp_sA111, PPp_sA114, PPp_sA115, PPp_sA116, PPp_sA117, PPp_sA120, PPp_sA121, PPp_sA124, PPp_sA125, PPp_sA126, PPp_sA127, PPp_sA128, PPp_sA129, PPp_sA136, PPp_sA138, PPp_gA0, PPp_gA1, PPp_gA2, PPp_gA3, PPp_gA4, PPp_gA5, PPp_gA6, PPp_gA8, PPp_gA10, PPp_gA11, PPp_gA15, PPp_gA16, PPp_gA17, PPp_gA18, PPp_gA19, PPp_gA20, PPp_gA21, PPp_gA22, PPp_gA23, PPp_gA24, PPp_gA25, PPp_gA26, PPp_gA27, PPp_gA29, PPp_gA30, PPp_gA31, PPp_gA33, PPp_gA34, PPp_gA35, PPp_gA36, PPp_gA37, PPp_sF7, PPp_sF9, WFp_sL, WFp_sF0, WFp_sF3, WFp_sF10, WFp_sF11, WFp_sF12, WFp_sF13, WFp_sF14, WFp_sF16, WFp_sF17, WFp_sF18, WFp_sF19, WFp_sF21, WFp_sF22, WFp_sF23, WFp_sF24, WFp_sF25, WFp_sF28, WFp_sF29, WFp_sF30, WFp_sF31, WFp_sF32, WFp_sF33, WFp_sF38, WFp_sF39, WFp_sF41, WFp_sF42, WFp_sF43, WFp_sF44, WFp_sF45, WFp_sF60, WFp_sF65, WFp_sF66, WFp_sF67, WFp_sF68, WFp_sF70, WFp_sF71, WFp_sF72, WFp_sF73, WFp_sF74, WFp_sF80, WFp_sF81, WFp_sF82, WFp_sF83, WFp_sF88, WFp_sF92, WFp_sF94, WFp_sF96, WFp_sF97, WFp_sF98, WFp_sF99, WFp_sF100, WFp_sF101, WFp_sF103, WFp_sF104, WFp_sF112, WFp_sF113, WFp_sF118, WFp_sF119, WFp_sF122, WFp_sF123, WFp_sF135, WFp_sF137, WFp_sA1, WFp_sA2, WFp_sA5, WFp_sA20, WFp_sA26, WFp_sA27, WFp_sA34, WFp_sA35, WFp_sA36, WFp_sA37, WFp_sA40, WFp_sA46, WFp_sA47, WFp_sA48, WFp_sA51, WFp_sA52, WFp_sA53, WFp_sA54, WFp_sA55, WFp_sA56, WFp_sA57, WFp_sA58, WFp_sA59, WFp_sA61, WFp_sA62, WFp_sA63, WFp_sA64, WFp_sA69, WFp_sA75, WFp_sA76, WFp_sA77, WFp_sA78, WFp_sA79, WFp_sA84, WFp_sA85, WFp_sA86, WFp_sA87, WFp_sA89, WFp_sA90, WFp_sA91, WFp_sA93, WFp_sA102, WFp_sA105, WFp_sA106, WFp_sA107, WFp_sA108, WFp_sA109, WFp_sA110, WFp_sA111, WFp_sA114, WFp_sA115, WFp_sA116, WFp_sA117, WFp_sA120, WFp_sA121, WFp_sA124, WFp_sA125, WFp_sA126, WFp_sA127, WFp_sA128, WFp_sA129, WFp_sA136, WFp_sA138, WFp_gA0, WFp_gA1, WFp_gA2, WFp_gA3, WFp_gA4, WFp_gA5, WFp_gA6, WFp_gA8, WFp_gA10, WFp_gA11, WFp_gA15, WFp_gA16, WFp_gA17, WFp_gA18, WFp_gA19, WFp_gA20, WFp_gA21, WFp_gA22, WFp_gA23, WFp_gA24, WFp_gA25, WFp_gA26, WFp_gA27, WFp_gA29, WFp_gA30, WFp_gA31, WFp_gA33, WFp_gA34, WFp_gA35, WFp_gA36, WFp_gA37, WFp_sF7, WFp_sF9] at *
  (repeat' (first | with_reducible intro _ | with_reducible apply And.intro))
  all_goals (first | assumption | omega | grind (splits := 20) [rNM_sF0])
set_option maxHeartbeats 400000 in
theorem vX14_property_99 (σ : rS) (x1 : Int) (x2 : Int) (x3 : Int) (hwf : rWF σ) (hx1 : rng x1) (hx2 : rng x2) (hx3 : rng x3) (hp : pre_X14_property σ x1 x2 x3) : VC_X14_property_99 σ x1 x2 x3 (post_X14_property σ x1 x2 x3) := by
  simp only [VC_X14_property_99, pre_X14_property, post_X14_property, inv_X14_property_99, mu_X14_property_99, pre_X14_take, pre_X14_isValue, pre_X14_isMade, pre_X14_keepTape, pre_X14_isTape, post_X14_take, post_X14_isValue, post_X14_isMade, post_X14_keepTape, post_X14_isTape, VMp, PPp, rng, rfk, rNMp, rF_sF, rF_sA, rF_sL, rF_sR, rA_sA, rA_sF, rA_sL, rA_sR, rR_sF, rR_sA, rR_sL, rR_sR, reduceIte, and_true, true_and, and_false, false_and, and_self, VMp_sL, VMp_sF0, VMp_sF3, VMp_sF10, VMp_sF11, VMp_sF12, VMp_sF13, VMp_sF14, VMp_sF16, VMp_sF17, VMp_sF18, VMp_sF19, VMp_sF21, VMp_sF22, VMp_sF23, VMp_sF24, VMp_sF25, VMp_sF28, VMp_sF29, VMp_sF30, VMp_sF31, VMp_sF32, VMp_sF33, VMp_sF38, VMp_sF39, VMp_sF41, VMp_sF42, VMp_sF43, VMp_sF44, VMp_sF45, VMp_sF60, VMp_sF65, VMp_sF66, VMp_sF67, VMp_sF68, VMp_sF70, VMp_sF71, VMp_sF72, VMp_sF73, VMp_sF74, VMp_sF80, VMp_sF81, VMp_sF82, VMp_sF83, VMp_sF88, VMp_sF92, VMp_sF94, VMp_sF96, VMp_sF97, VMp_sF98, VMp_sF99, VMp_sF100, VMp_sF101, VMp_sF103, VMp_sF104, VMp_sF112, VMp_sF113, VMp_sF118, VMp_sF119, VMp_sF122, VMp_sF123, VMp_sF135, VMp_sF137, VMp_sA1, VMp_sA2, VMp_sA5, VMp_sA20, VMp_sA26, VMp_sA27, VMp_sA34, VMp_sA35, VMp_sA36, VMp_sA37, VMp_sA40, VMp_sA47, VMp_sA48, VMp_sA49, VMp_sA50, VMp_sA52, VMp_sA53, VMp_sA54, VMp_sA55, VMp_sA56, VMp_sA57, VMp_sA58, VMp_sA59, VMp_sA61, VMp_sA62, VMp_sA63, VMp_sA64, VMp_sA69, VMp_sA75, VMp_sA76, VMp_sA77, VMp_sA78, VMp_sA79, VMp_sA84, VMp_sA85, VMp_sA86, VMp_sA87, VMp_sA89, VMp_sA90, VMp_sA91, VMp_sA93, VMp_sA102, VMp_sA105, VMp_sA106, VMp_sA107, VMp_sA108, VMp_sA109, VMp_sA110, VMp_sA111, VMp_sA114, VMp_sA115, VMp_sA116, VMp_sA117, VMp_sA120, VMp_sA121, VMp_sA124, VMp_sA125, VMp_sA126, VMp_sA127, VMp_sA128, VMp_sA129, VMp_sA136, VMp_sA138, VMp_gA0, VMp_gA1, VMp_gA2, VMp_gA3, VMp_gA4, VMp_gA5, VMp_gA6, VMp_gA8, VMp_gA10, VMp_gA11, VMp_gA15, VMp_gA16, VMp_gA17, VMp_gA18, VMp_gA19, VMp_gA20, VMp_gA21, VMp_gA22, VMp_gA23, VMp_gA24, VMp_gA25, VMp_gA26, VMp_gA27, VMp_gA29, VMp_gA30, VMp_gA31, VMp_gA33, VMp_gA34, VMp_gA35, VMp_gA36, VMp_gA37, VMp_sF7, VMp_sF9, KYp_sL, KYp_sF0, KYp_sF3, KYp_sF10, KYp_sF11, KYp_sF12, KYp_sF13, KYp_sF14, KYp_sF16, KYp_sF17, KYp_sF18, KYp_sF19, KYp_sF21, KYp_sF22, KYp_sF23, KYp_sF24, KYp_sF25, KYp_sF28, KYp_sF29, KYp_sF30, KYp_sF31, KYp_sF32, KYp_sF33, KYp_sF38, KYp_sF39, KYp_sF41, KYp_sF42, KYp_sF43, KYp_sF44, KYp_sF45, KYp_sF60, KYp_sF65, KYp_sF66, KYp_sF67, KYp_sF68, KYp_sF70, KYp_sF71, KYp_sF72, KYp_sF73, KYp_sF74, KYp_sF80, KYp_sF81, KYp_sF82, KYp_sF83, KYp_sF88, KYp_sF92, KYp_sF94, KYp_sF96, KYp_sF97, KYp_sF98, KYp_sF99, KYp_sF100, KYp_sF101, KYp_sF103, KYp_sF104, KYp_sF112, KYp_sF113, KYp_sF118, KYp_sF119, KYp_sF122, KYp_sF123, KYp_sF135, KYp_sF137, KYp_sA1, KYp_sA2, KYp_sA5, KYp_sA20, KYp_sA26, KYp_sA27, KYp_sA34, KYp_sA35, KYp_sA36, KYp_sA37, KYp_sA40, KYp_sA46, KYp_sA47, KYp_sA48, KYp_sA49, KYp_sA50, KYp_sA51, KYp_sA52, KYp_sA55, KYp_sA56, KYp_sA57, KYp_sA58, KYp_sA59, KYp_sA61, KYp_sA62, KYp_sA63, KYp_sA64, KYp_sA69, KYp_sA75, KYp_sA76, KYp_sA77, KYp_sA78, KYp_sA79, KYp_sA84, KYp_sA85, KYp_sA86, KYp_sA87, KYp_sA89, KYp_sA90, KYp_sA91, KYp_sA93, KYp_sA102, KYp_sA105, KYp_sA106, KYp_sA107, KYp_sA108, KYp_sA109, KYp_sA110, KYp_sA111, KYp_sA114, KYp_sA115, KYp_sA116, KYp_sA117, KYp_sA120, KYp_sA121, KYp_sA124, KYp_sA125, KYp_sA126, KYp_sA127, KYp_sA128, KYp_sA129, KYp_sA136, KYp_sA138, KYp_gA0, KYp_gA1, KYp_gA2, KYp_gA3, KYp_gA4, KYp_gA5, KYp_gA6, KYp_gA8, KYp_gA10, KYp_gA11, KYp_gA15, KYp_gA16, KYp_gA17, KYp_gA18, KYp_gA19, KYp_gA20, KYp_gA21, KYp_gA22, KYp_gA23, KYp_gA24, KYp_gA25, KYp_gA26, KYp_gA27, KYp_gA29, KYp_gA30, KYp_gA31, KYp_gA33, KYp_gA34, KYp_gA35, KYp_gA36, KYp_gA37, KYp_sF7, KYp_sF9, PPp_sL, PPp_sF0, PPp_sF3, PPp_sF10, PPp_sF11, PPp_sF12, PPp_sF13, PPp_sF14, PPp_sF16, PPp_sF17, PPp_sF18, PPp_sF19, PPp_sF21, PPp_sF22, PPp_sF23, PPp_sF24, PPp_sF25, PPp_sF28, PPp_sF29, PPp_sF30, PPp_sF31, PPp_sF32, PPp_sF33, PPp_sF38, PPp_sF39, PPp_sF41, PPp_sF42, PPp_sF43, PPp_sF44, PPp_sF45, PPp_sF60, PPp_sF65, PPp_sF66, PPp_sF67, PPp_sF68, PPp_sF70, PPp_sF71, PPp_sF72, PPp_sF73, PPp_sF74, PPp_sF80, PPp_sF81, PPp_sF82, PPp_sF83, PPp_sF88, PPp_sF92, PPp_sF94, PPp_sF96, PPp_sF97, PPp_sF98, PPp_sF99, PPp_sF100, PPp_sF101, PPp_sF103, PPp_sF104, PPp_sF112, PPp_sF113, PPp_sF118, PPp_sF119, PPp_sF122, PPp_sF123, PPp_sF135, PPp_sF137, PPp_sA1, PPp_sA2, PPp_sA5, PPp_sA20, PPp_sA26, PPp_sA27, PPp_sA34, PPp_sA35, PPp_sA36, PPp_sA37, PPp_sA40, PPp_sA46, PPp_sA47, PPp_sA48, PPp_sA49, PPp_sA50, PPp_sA51, PPp_sA52, PPp_sA53, PPp_sA54, PPp_sA55, PPp_sA58, PPp_sA59, PPp_sA61, PPp_sA62, PPp_sA63, PPp_sA64, PPp_sA69, PPp_sA75, PPp_sA76, PPp_sA77, PPp_sA78, PPp_sA79, PPp_sA84, PPp_sA85, PPp_sA86, PPp_sA87, PPp_sA89, PPp_sA90, PPp_sA91, PPp_sA93, PPp_sA102, PPp_sA105, PPp_sA106, PPp_sA107, PPp_sA108, PPp_sA109, PPp_sA110, PPp_sA111, PPp_sA114, PPp_sA115, PPp_sA116, PPp_sA117, PPp_sA120, PPp_sA121, PPp_sA124, PPp_sA125, PPp_sA126, PPp_sA127, PPp_sA128, PPp_sA129, PPp_sA136, PPp_sA138, PPp_gA0, PPp_gA1, PPp_gA2, PPp_gA3, PPp_gA4, PPp_gA5, PPp_gA6, PPp_gA8, PPp_gA10, PPp_gA11, PPp_gA15, PPp_gA16, PPp_gA17, PPp_gA18, PPp_gA19, PPp_gA20, PPp_gA21, PPp_gA22, PPp_gA23, PPp_gA24, PPp_gA25, PPp_gA26, PPp_gA27, PPp_gA29, PPp_gA30, PPp_gA31, PPp_gA33, PPp_gA34, PPp_gA35, PPp_gA36, PPp_gA37, PPp_sF7, PPp_sF9, WFp_sL, WFp_sF0, WFp_sF3, WFp_sF10, WFp_sF11, WFp_sF12, WFp_sF13, WFp_sF14, WFp_sF16, WFp_sF17, WFp_sF18, WFp_sF19, WFp_sF21, WFp_sF22, WFp_sF23, WFp_sF24, WFp_sF25, WFp_sF28, WFp_sF29, WFp_sF30, WFp_sF31, WFp_sF32, WFp_sF33, WFp_sF38, WFp_sF39, WFp_sF41, WFp_sF42, WFp_sF43, WFp_sF44, WFp_sF45, WFp_sF60, WFp_sF65, WFp_sF66, WFp_sF67, WFp_sF68, WFp_sF70, WFp_sF71, WFp_sF72, WFp_sF73, WFp_sF74, WFp_sF80, WFp_sF81, WFp_sF82, WFp_sF83, WFp_sF88, WFp_sF92, WFp_sF94, WFp_sF96, WFp_sF97, WFp_sF98, WFp_sF99, WFp_sF100, WFp_sF101, WFp_sF103, WFp_sF104, WFp_sF112, WFp_sF113, WFp_sF118, WFp_sF119, WFp_sF122, WFp_sF123, WFp_sF135, WFp_sF137, WFp_sA1, WFp_sA2, WFp_sA5, WFp_sA20, WFp_sA26, WFp_sA27, WFp_sA34, WFp_sA35, WFp_sA36, WFp_sA37, WFp_sA40, WFp_sA46, WFp_sA47, WFp_sA48, WFp_sA51, WFp_sA52, WFp_sA53, WFp_sA54, WFp_sA55, WFp_sA56, WFp_sA57, WFp_sA58, WFp_sA59, WFp_sA61, WFp_sA62, WFp_sA63, WFp_sA64, WFp_sA69, WFp_sA75, WFp_sA76, WFp_sA77, WFp_sA78, WFp_sA79, WFp_sA84, WFp_sA85, WFp_sA86, WFp_sA87, WFp_sA89, WFp_sA90, WFp_sA91, WFp_sA93, WFp_sA102, WFp_sA105, WFp_sA106, WFp_sA107, WFp_sA108, WFp_sA109, WFp_sA110, WFp_sA111, WFp_sA114, WFp_sA115, WFp_sA116, WFp_sA117, WFp_sA120, WFp_sA121, WFp_sA124, WFp_sA125, WFp_sA126, WFp_sA127, WFp_sA128, WFp_sA129, WFp_sA136, WFp_sA138, WFp_gA0, WFp_gA1, WFp_gA2, WFp_gA3, WFp_gA4, WFp_gA5, WFp_gA6, WFp_gA8, WFp_gA10, WFp_gA11, WFp_gA15, WFp_gA16, WFp_gA17, WFp_gA18, WFp_gA19, WFp_gA20, WFp_gA21, WFp_gA22, WFp_gA23, WFp_gA24, WFp_gA25, WFp_gA26, WFp_gA27, WFp_gA29, WFp_gA30, WFp_gA31, WFp_gA33, WFp_gA34, WFp_gA35, WFp_gA36, WFp_gA37, WFp_sF7, WFp_sF9] at *
  (repeat' (first | with_reducible intro _ | with_reducible apply And.intro))
  all_goals (first | assumption | omega | grind (splits := 20) [rNM_sF0])
set_option maxHeartbeats 400000 in
theorem vX14_property_99m (σ : rS) (x1 : Int) (x2 : Int) (x3 : Int) (hwf : rWF σ) (hx1 : rng x1) (hx2 : rng x2) (hx3 : rng x3) (hp : pre_X14_property σ x1 x2 x3) : VC_X14_property_99m σ x1 x2 x3 := by
  simp only [VC_X14_property_99m, pre_X14_property, post_X14_property, inv_X14_property_99, mu_X14_property_99, pre_X14_take, pre_X14_isValue, pre_X14_isMade, pre_X14_keepTape, pre_X14_isTape, post_X14_take, post_X14_isValue, post_X14_isMade, post_X14_keepTape, post_X14_isTape, VMp, PPp, rng, rfk, rNMp, rF_sF, rF_sA, rF_sL, rF_sR, rA_sA, rA_sF, rA_sL, rA_sR, rR_sF, rR_sA, rR_sL, rR_sR, reduceIte, and_true, true_and, and_false, false_and, and_self, VMp_sL, VMp_sF0, VMp_sF3, VMp_sF10, VMp_sF11, VMp_sF12, VMp_sF13, VMp_sF14, VMp_sF16, VMp_sF17, VMp_sF18, VMp_sF19, VMp_sF21, VMp_sF22, VMp_sF23, VMp_sF24, VMp_sF25, VMp_sF28, VMp_sF29, VMp_sF30, VMp_sF31, VMp_sF32, VMp_sF33, VMp_sF38, VMp_sF39, VMp_sF41, VMp_sF42, VMp_sF43, VMp_sF44, VMp_sF45, VMp_sF60, VMp_sF65, VMp_sF66, VMp_sF67, VMp_sF68, VMp_sF70, VMp_sF71, VMp_sF72, VMp_sF73, VMp_sF74, VMp_sF80, VMp_sF81, VMp_sF82, VMp_sF83, VMp_sF88, VMp_sF92, VMp_sF94, VMp_sF96, VMp_sF97, VMp_sF98, VMp_sF99, VMp_sF100, VMp_sF101, VMp_sF103, VMp_sF104, VMp_sF112, VMp_sF113, VMp_sF118, VMp_sF119, VMp_sF122, VMp_sF123, VMp_sF135, VMp_sF137, VMp_sA1, VMp_sA2, VMp_sA5, VMp_sA20, VMp_sA26, VMp_sA27, VMp_sA34, VMp_sA35, VMp_sA36, VMp_sA37, VMp_sA40, VMp_sA47, VMp_sA48, VMp_sA49, VMp_sA50, VMp_sA52, VMp_sA53, VMp_sA54, VMp_sA55, VMp_sA56, VMp_sA57, VMp_sA58, VMp_sA59, VMp_sA61, VMp_sA62, VMp_sA63, VMp_sA64, VMp_sA69, VMp_sA75, VMp_sA76, VMp_sA77, VMp_sA78, VMp_sA79, VMp_sA84, VMp_sA85, VMp_sA86, VMp_sA87, VMp_sA89, VMp_sA90, VMp_sA91, VMp_sA93, VMp_sA102, VMp_sA105, VMp_sA106, VMp_sA107, VMp_sA108, VMp_sA109, VMp_sA110, VMp_sA111, VMp_sA114, VMp_sA115, VMp_sA116, VMp_sA117, VMp_sA120, VMp_sA121, VMp_sA124, VMp_sA125, VMp_sA126, VMp_sA127, VMp_sA128, VMp_sA129, VMp_sA136, VMp_sA138, VMp_gA0, VMp_gA1, VMp_gA2, VMp_gA3, VMp_gA4, VMp_gA5, VMp_gA6, VMp_gA8, VMp_gA10, VMp_gA11, VMp_gA15, VMp_gA16, VMp_gA17, VMp_gA18, VMp_gA19, VMp_gA20, VMp_gA21, VMp_gA22, VMp_gA23, VMp_gA24, VMp_gA25, VMp_gA26, VMp_gA27, VMp_gA29, VMp_gA30, VMp_gA31, VMp_gA33, VMp_gA34, VMp_gA35, VMp_gA36, VMp_gA37, VMp_sF7, VMp_sF9, KYp_sL, KYp_sF0, KYp_sF3, KYp_sF10, KYp_sF11, KYp_sF12, KYp_sF13, KYp_sF14, KYp_sF16, KYp_sF17, KYp_sF18, KYp_sF19, KYp_sF21, KYp_sF22, KYp_sF23, KYp_sF24, KYp_sF25, KYp_sF28, KYp_sF29, KYp_sF30, KYp_sF31, KYp_sF32, KYp_sF33, KYp_sF38, KYp_sF39, KYp_sF41, KYp_sF42, KYp_sF43, KYp_sF44, KYp_sF45, KYp_sF60, KYp_sF65, KYp_sF66, KYp_sF67, KYp_sF68, KYp_sF70, KYp_sF71, KYp_sF72, KYp_sF73, KYp_sF74, KYp_sF80, KYp_sF81, KYp_sF82, KYp_sF83, KYp_sF88, KYp_sF92, KYp_sF94, KYp_sF96, KYp_sF97, KYp_sF98, KYp_sF99, KYp_sF100, KYp_sF101, KYp_sF103, KYp_sF104, KYp_sF112, KYp_sF113, KYp_sF118, KYp_sF119, KYp_sF122, KYp_sF123, KYp_sF135, KYp_sF137, KYp_sA1, KYp_sA2, KYp_sA5, KYp_sA20, KYp_sA26, KYp_sA27, KYp_sA34, KYp_sA35, KYp_sA36, KYp_sA37, KYp_sA40, KYp_sA46, KYp_sA47, KYp_sA48, KYp_sA49, KYp_sA50, KYp_sA51, KYp_sA52, KYp_sA55, KYp_sA56, KYp_sA57, KYp_sA58, KYp_sA59, KYp_sA61, KYp_sA62, KYp_sA63, KYp_sA64, KYp_sA69, KYp_sA75, KYp_sA76, KYp_sA77, KYp_sA78, KYp_sA79, KYp_sA84, KYp_sA85, KYp_sA86, KYp_sA87, KYp_sA89, KYp_sA90, KYp_sA91, KYp_sA93, KYp_sA102, KYp_sA105, KYp_sA106, KYp_sA107, KYp_sA108, KYp_sA109, KYp_sA110, KYp_sA111, KYp_sA114, KYp_sA115, KYp_sA116, KYp_sA117, KYp_sA120, KYp_sA121, KYp_sA124, KYp_sA125, KYp_sA126, KYp_sA127, KYp_sA128, KYp_sA129, KYp_sA136, KYp_sA138, KYp_gA0, KYp_gA1, KYp_gA2, KYp_gA3, KYp_gA4, KYp_gA5, KYp_gA6, KYp_gA8, KYp_gA10, KYp_gA11, KYp_gA15, KYp_gA16, KYp_gA17, KYp_gA18, KYp_gA19, KYp_gA20, KYp_gA21, KYp_gA22, KYp_gA23, KYp_gA24, KYp_gA25, KYp_gA26, KYp_gA27, KYp_gA29, KYp_gA30, KYp_gA31, KYp_gA33, KYp_gA34, KYp_gA35, KYp_gA36, KYp_gA37, KYp_sF7, KYp_sF9, PPp_sL, PPp_sF0, PPp_sF3, PPp_sF10, PPp_sF11, PPp_sF12, PPp_sF13, PPp_sF14, PPp_sF16, PPp_sF17, PPp_sF18, PPp_sF19, PPp_sF21, PPp_sF22, PPp_sF23, PPp_sF24, PPp_sF25, PPp_sF28, PPp_sF29, PPp_sF30, PPp_sF31, PPp_sF32, PPp_sF33, PPp_sF38, PPp_sF39, PPp_sF41, PPp_sF42, PPp_sF43, PPp_sF44, PPp_sF45, PPp_sF60, PPp_sF65, PPp_sF66, PPp_sF67, PPp_sF68, PPp_sF70, PPp_sF71, PPp_sF72, PPp_sF73, PPp_sF74, PPp_sF80, PPp_sF81, PPp_sF82, PPp_sF83, PPp_sF88, PPp_sF92, PPp_sF94, PPp_sF96, PPp_sF97, PPp_sF98, PPp_sF99, PPp_sF100, PPp_sF101, PPp_sF103, PPp_sF104, PPp_sF112, PPp_sF113, PPp_sF118, PPp_sF119, PPp_sF122, PPp_sF123, PPp_sF135, PPp_sF137, PPp_sA1, PPp_sA2, PPp_sA5, PPp_sA20, PPp_sA26, PPp_sA27, PPp_sA34, PPp_sA35, PPp_sA36, PPp_sA37, PPp_sA40, PPp_sA46, PPp_sA47, PPp_sA48, PPp_sA49, PPp_sA50, PPp_sA51, PPp_sA52, PPp_sA53, PPp_sA54, PPp_sA55, PPp_sA58, PPp_sA59, PPp_sA61, PPp_sA62, PPp_sA63, PPp_sA64, PPp_sA69, PPp_sA75, PPp_sA76, PPp_sA77, PPp_sA78, PPp_sA79, PPp_sA84, PPp_sA85, PPp_sA86, PPp_sA87, PPp_sA89, PPp_sA90, PPp_sA91, PPp_sA93, PPp_sA102, PPp_sA105, PPp_sA106, PPp_sA107, PPp_sA108, PPp_sA109, PPp_sA110, PPp_sA111, PPp_sA114, PPp_sA115, PPp_sA116, PPp_sA117, PPp_sA120, PPp_sA121, PPp_sA124, PPp_sA125, PPp_sA126, PPp_sA127, PPp_sA128, PPp_sA129, PPp_sA136, PPp_sA138, PPp_gA0, PPp_gA1, PPp_gA2, PPp_gA3, PPp_gA4, PPp_gA5, PPp_gA6, PPp_gA8, PPp_gA10, PPp_gA11, PPp_gA15, PPp_gA16, PPp_gA17, PPp_gA18, PPp_gA19, PPp_gA20, PPp_gA21, PPp_gA22, PPp_gA23, PPp_gA24, PPp_gA25, PPp_gA26, PPp_gA27, PPp_gA29, PPp_gA30, PPp_gA31, PPp_gA33, PPp_gA34, PPp_gA35, PPp_gA36, PPp_gA37, PPp_sF7, PPp_sF9, WFp_sL, WFp_sF0, WFp_sF3, WFp_sF10, WFp_sF11, WFp_sF12, WFp_sF13, WFp_sF14, WFp_sF16, WFp_sF17, WFp_sF18, WFp_sF19, WFp_sF21, WFp_sF22, WFp_sF23, WFp_sF24, WFp_sF25, WFp_sF28, WFp_sF29, WFp_sF30, WFp_sF31, WFp_sF32, WFp_sF33, WFp_sF38, WFp_sF39, WFp_sF41, WFp_sF42, WFp_sF43, WFp_sF44, WFp_sF45, WFp_sF60, WFp_sF65, WFp_sF66, WFp_sF67, WFp_sF68, WFp_sF70, WFp_sF71, WFp_sF72, WFp_sF73, WFp_sF74, WFp_sF80, WFp_sF81, WFp_sF82, WFp_sF83, WFp_sF88, WFp_sF92, WFp_sF94, WFp_sF96, WFp_sF97, WFp_sF98, WFp_sF99, WFp_sF100, WFp_sF101, WFp_sF103, WFp_sF104, WFp_sF112, WFp_sF113, WFp_sF118, WFp_sF119, WFp_sF122, WFp_sF123, WFp_sF135, WFp_sF137, WFp_sA1, WFp_sA2, WFp_sA5, WFp_sA20, WFp_sA26, WFp_sA27, WFp_sA34, WFp_sA35, WFp_sA36, WFp_sA37, WFp_sA40, WFp_sA46, WFp_sA47, WFp_sA48, WFp_sA51, WFp_sA52, WFp_sA53, WFp_sA54, WFp_sA55, WFp_sA56, WFp_sA57, WFp_sA58, WFp_sA59, WFp_sA61, WFp_sA62, WFp_sA63, WFp_sA64, WFp_sA69, WFp_sA75, WFp_sA76, WFp_sA77, WFp_sA78, WFp_sA79, WFp_sA84, WFp_sA85, WFp_sA86, WFp_sA87, WFp_sA89, WFp_sA90, WFp_sA91, WFp_sA93, WFp_sA102, WFp_sA105, WFp_sA106, WFp_sA107, WFp_sA108, WFp_sA109, WFp_sA110, WFp_sA111, WFp_sA114, WFp_sA115, WFp_sA116, WFp_sA117, WFp_sA120, WFp_sA121, WFp_sA124, WFp_sA125, WFp_sA126, WFp_sA127, WFp_sA128, WFp_sA129, WFp_sA136, WFp_sA138, WFp_gA0, WFp_gA1, WFp_gA2, WFp_gA3, WFp_gA4, WFp_gA5, WFp_gA6, WFp_gA8, WFp_gA10, WFp_gA11, WFp_gA15, WFp_gA16, WFp_gA17, WFp_gA18, WFp_gA19, WFp_gA20, WFp_gA21, WFp_gA22, WFp_gA23, WFp_gA24, WFp_gA25, WFp_gA26, WFp_gA27, WFp_gA29, WFp_gA30, WFp_gA31, WFp_gA33, WFp_gA34, WFp_gA35, WFp_gA36, WFp_gA37, WFp_sF7, WFp_sF9] at *
  (repeat' (first | with_reducible intro _ | with_reducible apply And.intro))
  all_goals (first | assumption | omega | grind (splits := 20) [rNM_sF0])
theorem wX14_property (l : Launch) (G : zG) (κ : Nat → Nat) (σ : rS) (x1 : Int) (x2 : Int) (x3 : Int) (hwf : rWF σ) (hx1 : rng x1) (hx2 : rng x2) (hx3 : rng x3) (Q : Int → rS → Prop) (h : VC_X14_property σ x1 x2 x3 Q) (h_99 : VC_X14_property_99 σ x1 x2 x3 Q) (h_99m : VC_X14_property_99m σ x1 x2 x3) : rMi l G κ yX14_property cX14_property 5 .boolean 2 24 [.ref (κ 0), iv x1, iv x2, iv x3] σ (fun x s => rKeep 0x40000200000000009 0 0xf09000000000000 0 0 σ s ∧ Q x s) := by
  refine zMi.intro (by decide +kernel) (Nat.le_of_ble_eq_true rfl) (fun X hC hR => ?_)
  refine z_aload_n hC (pc := 0) 0 dX14_property_0 rfl rfl ?_
  refine z_iconst hC (pc := 1) (v := Int32.ofInt 0) dX14_property_1 (by decide) ?_
  refine y_putI hC (pc := 2) zf14 rOb_0 0 (x := 0) dX14_property_2 zw2468 (Or.inl rfl) rfl rfl (kk := ?_)
  have W10 := hwf.sF (q := 0) (f := 0) (x := 0) (r_lit rfl)
  refine z_aload_n hC (pc := 5) 0 dX14_property_5 rfl rfl ?_
  obtain ⟨p11, h⟩ := h
  refine y_callVv hC (pc := 6) (As := []) (kX14_take l G κ (sF σ 0 0 0)  W10  p11) dmX14_take zf14 rOb_0 dX14_property_6 zw2905 rfl rfl (Nat.le_of_ble_eq_true rfl) (Nat.le_of_ble_eq_true rfl) (Nat.le_of_ble_eq_true rfl) (Nat.le_of_ble_eq_true rfl) (Nat.le_of_ble_eq_true rfl) (kk := fun s12 Ws12 qs12 => ?_)
  have h := h s12 Ws12 (VMp.keep qs12.1 rfl rfl) (KYp.keep qs12.1 rfl rfl) (PPp.keep qs12.1 rfl rfl) (WFp.keep qs12.1 rfl rfl) (qs12.1.F rfl) (qs12.1.F rfl) (qs12.1.F rfl) (qs12.1.F rfl) (fun i => qs12.1.A (f := 46) (by decide) rfl) (fun i => qs12.1.A (f := 51) (by decide) rfl) qs12.2
  refine z_aload_n hC (pc := 9) 0 dX14_property_9 rfl rfl ?_
  obtain ⟨p14, h⟩ := h
  refine y_callVi hC (pc := 10) (As := []) (kX14_isMade l G κ s12  Ws12  p14) dmX14_isMade zf14 rOb_0 dX14_property_10 zw2893 rfl rfl (Nat.le_of_ble_eq_true rfl) (Nat.le_of_ble_eq_true rfl) (Nat.le_of_ble_eq_true rfl) (Nat.le_of_ble_eq_true rfl) (Nat.le_of_ble_eq_true rfl) (kk := fun x16 s15 hx16 Ws15 qs15 => ?_)
  obtain ⟨es15, qs15⟩ := qs15
  have es15 := es15.symm
  subst es15
  have h := h x16 hx16 qs15
  obtain ⟨hT, hF⟩ := h
  refine y_if_ne hC (pc := 13) 91 hx16 dX14_property_13 (by decide) (fun c => ?_) (fun c => ?_)
  · have h := hT c
    refine z_iconst hC (pc := 91) (v := Int32.ofInt 0) dX14_property_91 (by decide) ?_
    exact y_reti hR dX14_property_92 rfl (r_lit rfl) Ws12 (Nat.le_of_ble_eq_true rfl) (Nat.le_of_ble_eq_true rfl) ⟨(rKeep.tr (rKeep.tr rKeep.rf (rKeep.sF0 (f := 0)) rfl rfl rfl rfl rfl) qs12.1 rfl rfl rfl rfl rfl), h⟩
  · have h := hF c
    refine z_aload_n hC (pc := 16) 0 dX14_property_16 rfl rfl ?_
    refine z_iload_n hC (pc := 17) 1 dX14_property_17 rfl rfl ?_
    refine z_iconst hC (pc := 18) (v := Int32.ofInt 5) dX14_property_18 (by decide) ?_
    obtain ⟨p17, h⟩ := h
    refine y_callVi hC (pc := 19) (As := [iv x1, iv 5]) (kX14_isValue l G κ s12 x1 5 Ws12 hx1 (r_lit rfl) p17) dmX14_isValue zf14 rOb_0 dX14_property_19 zw2925 rfl rfl (Nat.le_of_ble_eq_true rfl) (Nat.le_of_ble_eq_true rfl) (Nat.le_of_ble_eq_true rfl) (Nat.le_of_ble_eq_true rfl) (Nat.le_of_ble_eq_true rfl) (kk := fun x19 s18 hx19 Ws18 qs18 => ?_)
    obtain ⟨es18, qs18⟩ := qs18
    have es18 := es18.symm
    subst es18
    have h := h x19 hx19 qs18
    obtain ⟨hT, hF⟩ := h
    refine y_if_eq hC (pc := 22) 91 hx19 dX14_property_22 (by decide) (fun c => ?_) (fun c => ?_)
    · have h := hT c
      refine z_iconst hC (pc := 91) (v := Int32.ofInt 0) dX14_property_91 (by decide) ?_
      exact y_reti hR dX14_property_92 rfl (r_lit rfl) Ws12 (Nat.le_of_ble_eq_true rfl) (Nat.le_of_ble_eq_true rfl) ⟨(rKeep.tr (rKeep.tr rKeep.rf (rKeep.sF0 (f := 0)) rfl rfl rfl rfl rfl) qs12.1 rfl rfl rfl rfl rfl), h⟩
    · have h := hF c
      refine z_iload_n hC (pc := 25) 2 dX14_property_25 rfl rfl ?_
      obtain ⟨hT, hF⟩ := h
      refine y_if_lt hC (pc := 26) 91 hx2 dX14_property_26 (by decide) (fun c => ?_) (fun c => ?_)
      · have h := hT c
        refine z_iconst hC (pc := 91) (v := Int32.ofInt 0) dX14_property_91 (by decide) ?_
        exact y_reti hR dX14_property_92 rfl (r_lit rfl) Ws12 (Nat.le_of_ble_eq_true rfl) (Nat.le_of_ble_eq_true rfl) ⟨(rKeep.tr (rKeep.tr rKeep.rf (rKeep.sF0 (f := 0)) rfl rfl rfl rfl rfl) qs12.1 rfl rfl rfl rfl rfl), h⟩
      · have h := hF c
        refine z_iload_n hC (pc := 29) 2 dX14_property_29 rfl rfl ?_
        refine z_iconst hC (pc := 30) (v := Int32.ofInt 3) dX14_property_30 (by decide) ?_
        obtain ⟨hT, hF⟩ := h
        refine y_icmp_gt hC (pc := 31) 91 hx2 (r_lit rfl) dX14_property_31 (by decide) (fun c => ?_) (fun c => ?_)
        · have h := hT c
          refine z_iconst hC (pc := 91) (v := Int32.ofInt 0) dX14_property_91 (by decide) ?_
          exact y_reti hR dX14_property_92 rfl (r_lit rfl) Ws12 (Nat.le_of_ble_eq_true rfl) (Nat.le_of_ble_eq_true rfl) ⟨(rKeep.tr (rKeep.tr rKeep.rf (rKeep.sF0 (f := 0)) rfl rfl rfl rfl rfl) qs12.1 rfl rfl rfl rfl rfl), h⟩
        · have h := hF c
          refine z_iload_n hC (pc := 34) 3 dX14_property_34 rfl rfl ?_
          refine z_bipush hC (pc := 35) (v := Int32.ofInt (-2)) dX14_property_35 (by decide) ?_
          obtain ⟨hT, hF⟩ := h
          refine y_icmp_lt hC (pc := 37) 91 hx3 (r_lit rfl) dX14_property_37 (by decide) (fun c => ?_) (fun c => ?_)
          · have h := hT c
            refine z_iconst hC (pc := 91) (v := Int32.ofInt 0) dX14_property_91 (by decide) ?_
            exact y_reti hR dX14_property_92 rfl (r_lit rfl) Ws12 (Nat.le_of_ble_eq_true rfl) (Nat.le_of_ble_eq_true rfl) ⟨(rKeep.tr (rKeep.tr rKeep.rf (rKeep.sF0 (f := 0)) rfl rfl rfl rfl rfl) qs12.1 rfl rfl rfl rfl rfl), h⟩
          · have h := hF c
            refine z_iload_n hC (pc := 40) 3 dX14_property_40 rfl rfl ?_
            refine z_aload_n hC (pc := 41) 0 dX14_property_41 rfl rfl ?_
            refine y_get hC (pc := 42) zf14 rOb_0 43 (v := iv (rF s12 0 43)) dX14_property_42 zw2510 (rv_i (Or.inl rfl) rfl) (kk := ?_)
            have h := h (Ws12.f _ _)
            obtain ⟨hT, hF⟩ := h
            refine y_icmp_ge hC (pc := 45) 91 hx3 (Ws12.f _ _) dX14_property_45 (by decide) (fun c => ?_) (fun c => ?_)
            · have h := hT c
              refine z_iconst hC (pc := 91) (v := Int32.ofInt 0) dX14_property_91 (by decide) ?_
              exact y_reti hR dX14_property_92 rfl (r_lit rfl) Ws12 (Nat.le_of_ble_eq_true rfl) (Nat.le_of_ble_eq_true rfl) ⟨(rKeep.tr (rKeep.tr rKeep.rf (rKeep.sF0 (f := 0)) rfl rfl rfl rfl rfl) qs12.1 rfl rfl rfl rfl rfl), h⟩
            · have h := hF c
              refine z_aload_n hC (pc := 48) 0 dX14_property_48 rfl rfl ?_
              refine y_get hC (pc := 49) zf14 rOb_0 66 (v := iv (rF s12 0 66)) dX14_property_49 zw2533 (rv_i (Or.inl rfl) rfl) (kk := ?_)
              have h := h (Ws12.f _ _)
              refine z_iconst hC (pc := 52) (v := Int32.ofInt 1) dX14_property_52 (by decide) ?_
              obtain ⟨hT, hF⟩ := h
              refine y_icmp_lt hC (pc := 53) 91 (Ws12.f _ _) (r_lit rfl) dX14_property_53 (by decide) (fun c => ?_) (fun c => ?_)
              · have h := hT c
                refine z_iconst hC (pc := 91) (v := Int32.ofInt 0) dX14_property_91 (by decide) ?_
                exact y_reti hR dX14_property_92 rfl (r_lit rfl) Ws12 (Nat.le_of_ble_eq_true rfl) (Nat.le_of_ble_eq_true rfl) ⟨(rKeep.tr (rKeep.tr rKeep.rf (rKeep.sF0 (f := 0)) rfl rfl rfl rfl rfl) qs12.1 rfl rfl rfl rfl rfl), h⟩
              · have h := hF c
                refine z_aload_n hC (pc := 56) 0 dX14_property_56 rfl rfl ?_
                refine y_get hC (pc := 57) zf14 rOb_0 66 (v := iv (rF s12 0 66)) dX14_property_57 zw2533 (rv_i (Or.inl rfl) rfl) (kk := ?_)
                refine z_bipush hC (pc := 60) (v := Int32.ofInt 16) dX14_property_60 (by decide) ?_
                obtain ⟨hT, hF⟩ := h
                refine y_icmp_gt hC (pc := 62) 91 (Ws12.f _ _) (r_lit rfl) dX14_property_62 (by decide) (fun c => ?_) (fun c => ?_)
                · have h := hT c
                  refine z_iconst hC (pc := 91) (v := Int32.ofInt 0) dX14_property_91 (by decide) ?_
                  exact y_reti hR dX14_property_92 rfl (r_lit rfl) Ws12 (Nat.le_of_ble_eq_true rfl) (Nat.le_of_ble_eq_true rfl) ⟨(rKeep.tr (rKeep.tr rKeep.rf (rKeep.sF0 (f := 0)) rfl rfl rfl rfl rfl) qs12.1 rfl rfl rfl rfl rfl), h⟩
                · have h := hF c
                  refine z_aload_n hC (pc := 65) 0 dX14_property_65 rfl rfl ?_
                  refine y_get hC (pc := 66) zf14 rOb_0 51 (v := .ref (κ 1051)) dX14_property_66 zw2518 (rv_c rfl) (kk := ?_)
                  refine z_iload_n hC (pc := 69) 1 dX14_property_69 rfl rfl ?_
                  obtain ⟨b20, h⟩ := h
                  refine y_iald hC (pc := 70) (rAr_m rfl) dX14_property_70 b20 (v := (rA s12 1051 x1)) rfl (kk := ?_)
                  have h := h (Ws12.a _ _)
                  refine z_bipush hC (pc := 71) (v := Int32.ofInt 12) dX14_property_71 (by decide) ?_
                  obtain ⟨hT, hF⟩ := h
                  refine y_icmp_eq hC (pc := 73) 91 (Ws12.a _ _) (r_lit rfl) dX14_property_73 (by decide) (fun c => ?_) (fun c => ?_)
                  · have h := hT c
                    refine z_iconst hC (pc := 91) (v := Int32.ofInt 0) dX14_property_91 (by decide) ?_
                    exact y_reti hR dX14_property_92 rfl (r_lit rfl) Ws12 (Nat.le_of_ble_eq_true rfl) (Nat.le_of_ble_eq_true rfl) ⟨(rKeep.tr (rKeep.tr rKeep.rf (rKeep.sF0 (f := 0)) rfl rfl rfl rfl rfl) qs12.1 rfl rfl rfl rfl rfl), h⟩
                  · have h := hF c
                    refine z_aload_n hC (pc := 76) 0 dX14_property_76 rfl rfl ?_
                    refine y_get hC (pc := 77) zf14 rOb_0 45 (v := iv (rF s12 0 45)) dX14_property_77 zw2512 (rv_i (Or.inl rfl) rfl) (kk := ?_)
                    have h := h (Ws12.f _ _)
                    refine z_aload_n hC (pc := 80) 0 dX14_property_80 rfl rfl ?_
                    refine y_get hC (pc := 81) zf14 rOb_0 66 (v := iv (rF s12 0 66)) dX14_property_81 zw2533 (rv_i (Or.inl rfl) rfl) (kk := ?_)
                    refine y_iadd hC (pc := 84) (v := ((rF s12 0 45) + (rF s12 0 66))) dX14_property_84 rfl ?_
                    refine z_sipush hC (pc := 85) (v := Int32.ofInt 16000) dX14_property_85 (by decide) ?_
                    obtain ⟨r21, h⟩ := h
                    obtain ⟨hT, hF⟩ := h
                    refine y_icmp_le hC (pc := 88) 93 r21 (r_lit rfl) dX14_property_88 (by decide) (fun c => ?_) (fun c => ?_)
                    · have h := hT c
                      refine z_bipush hC (pc := 93) (v := Int32.ofInt 12) dX14_property_93 (by decide) ?_
                      refine z_iload_n hC (pc := 95) 1 dX14_property_95 rfl rfl ?_
                      refine y_imul hC (pc := 96) (v := (12 * x1)) dX14_property_96 rfl ?_
                      refine z_istore hC (pc := 97) (lv' := [(4, iv (12 * x1)), (0, .ref (κ 0)), (1, iv x1), (2, iv x2), (3, iv x3)]) dX14_property_97 (by decide) rfl ?_
                      have j99 : ∀ (d99 : Nat), ∀ (s22 : rS) (y23 : Int), rWF s22 → rng y23 → rKeep 0x40000200000000009 0 0xf09000000000000 0 0 σ s22 → inv_X14_property_99 σ x1 x2 x3 s22 y23 → (mu_X14_property_99 σ x1 x2 x3 s22 y23) ≤ d99 → zS X G 5 (rW G κ s22) [(0, .ref (κ 0)), (1, iv x1), (2, iv x2), (3, iv x3), (4, iv y23)] 0 0 99 [] := by
                        intro d99
                        induction d99 with
                        | zero =>
                          intro s22 y23 Ws22 hy23 kJ hI hmu
                          exact absurd hmu (by have := h_99m  s22 y23 Ws22 hy23 (KYp.keep kJ rfl rfl) (WFp.keep kJ rfl rfl) (kJ.F rfl) (kJ.F rfl) (kJ.F rfl) (fun i => kJ.A (f := 46) (by decide) rfl) hI; omega)
                        | succ d99 ih99 =>
                          intro s22 y23 Ws22 hy23 kJ hI hmu99
                          have h := h_99  s22 y23 Ws22 hy23 (KYp.keep kJ rfl rfl) (WFp.keep kJ rfl rfl) (kJ.F rfl) (kJ.F rfl) (kJ.F rfl) (fun i => kJ.A (f := 46) (by decide) rfl) hI
                          refine z_iload hC (pc := 99) 4 dX14_property_99 rfl ?_
                          refine z_bipush hC (pc := 101) (v := Int32.ofInt 12) dX14_property_101 (by decide) ?_
                          refine z_iload_n hC (pc := 103) 1 dX14_property_103 rfl rfl ?_
                          refine y_imul hC (pc := 104) (v := (12 * x1)) dX14_property_104 rfl ?_
                          refine z_aload_n hC (pc := 105) 0 dX14_property_105 rfl rfl ?_
                          refine y_get hC (pc := 106) zf14 rOb_0 51 (v := .ref (κ 1051)) dX14_property_106 zw2518 (rv_c rfl) (kk := ?_)
                          refine z_iload_n hC (pc := 109) 1 dX14_property_109 rfl rfl ?_
                          obtain ⟨b24, h⟩ := h
                          refine y_iald hC (pc := 110) (rAr_m rfl) dX14_property_110 b24 (v := (rA s22 1051 x1)) rfl (kk := ?_)
                          have h := h (Ws22.a _ _)
                          refine y_iadd hC (pc := 111) (v := ((12 * x1) + (rA s22 1051 x1))) dX14_property_111 rfl ?_
                          obtain ⟨r25, h⟩ := h
                          obtain ⟨hT, hF⟩ := h
                          refine y_icmp_ge hC (pc := 112) 155 hy23 r25 dX14_property_112 (by decide) (fun c => ?_) (fun c => ?_)
                          · have h := hT c
                            refine z_bipush hC (pc := 155) (v := Int32.ofInt 12) dX14_property_155 (by decide) ?_
                            refine z_iload_n hC (pc := 157) 1 dX14_property_157 rfl rfl ?_
                            refine y_imul hC (pc := 158) (v := (12 * x1)) dX14_property_158 rfl ?_
                            refine z_aload_n hC (pc := 159) 0 dX14_property_159 rfl rfl ?_
                            refine y_get hC (pc := 160) zf14 rOb_0 51 (v := .ref (κ 1051)) dX14_property_160 zw2518 (rv_c rfl) (kk := ?_)
                            refine z_iload_n hC (pc := 163) 1 dX14_property_163 rfl rfl ?_
                            obtain ⟨b26, h⟩ := h
                            refine y_iald hC (pc := 164) (rAr_m rfl) dX14_property_164 b26 (v := (rA s22 1051 x1)) rfl (kk := ?_)
                            refine y_iadd hC (pc := 165) (v := ((12 * x1) + (rA s22 1051 x1))) dX14_property_165 rfl ?_
                            refine z_istore hC (pc := 166) (lv' := [(4, iv ((12 * x1) + (rA s22 1051 x1))), (0, .ref (κ 0)), (1, iv x1), (2, iv x2), (3, iv x3)]) dX14_property_166 (by decide) rfl ?_
                            refine z_aload_n hC (pc := 168) 1 dX14_property_168 rfl rfl ?_
                            refine y_get hC (pc := 169) zf14 rOb_0 56 (v := .ref (κ 1056)) dX14_property_169 zw2523 (rv_c rfl) (kk := ?_)
                            refine z_iload hC (pc := 172) 0 dX14_property_172 rfl ?_
                            refine z_aload_n hC (pc := 174) 1 dX14_property_174 rfl rfl ?_
                            obtain ⟨p27, h⟩ := h
                            refine y_callVi hC (pc := 175) (As := []) (kX14_keepTape l G κ s22  Ws22  p27) dmX14_keepTape zf14 rOb_0 dX14_property_175 zw2941 rfl rfl (Nat.le_of_ble_eq_true rfl) (Nat.le_of_ble_eq_true rfl) (Nat.le_of_ble_eq_true rfl) (Nat.le_of_ble_eq_true rfl) (Nat.le_of_ble_eq_true rfl) (kk := fun x29 s28 hx29 Ws28 qs28 => ?_)
                            have h := h x29 s28 hx29 Ws28 (VMp.keep qs28.1 rfl rfl) (KYp.keep qs28.1 rfl rfl) (PPp.keep qs28.1 rfl rfl) (WFp.keep qs28.1 rfl rfl) (qs28.1.F rfl) (qs28.1.F rfl) (qs28.1.F rfl) (qs28.1.F rfl) (qs28.1.F rfl) (fun i => qs28.1.A (f := 46) (by decide) rfl) (fun i => qs28.1.A (f := 51) (by decide) rfl) qs28.2
                            obtain ⟨b30, h⟩ := h
                            refine y_iast hC (pc := 178) (rAr_m rfl) dX14_property_178 b30 (v := x29) (kk := ?_)
                            have W31 := Ws28.sA (p := 1056) (i := ((12 * x1) + (rA s22 1051 x1))) (x := x29) hx29
                            refine z_aload_n hC (pc := 179) 1 dX14_property_179 rfl rfl ?_
                            refine y_get hC (pc := 180) zf14 rOb_0 57 (v := .ref (κ 1057)) dX14_property_180 zw2524 (rv_c rfl) (kk := ?_)
                            refine z_iload hC (pc := 183) 0 dX14_property_183 rfl ?_
                            refine z_aload_n hC (pc := 185) 1 dX14_property_185 rfl rfl ?_
                            refine y_get hC (pc := 186) zf14 rOb_0 66 (v := iv (rF s28 0 66)) dX14_property_186 zw2533 (rv_i (Or.inl rfl) rfl) (kk := ?_)
                            have h := h (Ws28.f _ _)
                            obtain ⟨b32, h⟩ := h
                            refine y_iast hC (pc := 189) (rAr_m rfl) dX14_property_189 b32 (v := (rF s28 0 66)) (kk := ?_)
                            have W33 := W31.sA (p := 1057) (i := ((12 * x1) + (rA s22 1051 x1))) (x := (rF s28 0 66)) (Ws28.f _ _)
                            refine z_aload_n hC (pc := 190) 1 dX14_property_190 rfl rfl ?_
                            refine y_get hC (pc := 191) zf14 rOb_0 58 (v := .ref (κ 1058)) dX14_property_191 zw2525 (rv_c rfl) (kk := ?_)
                            refine z_iload hC (pc := 194) 0 dX14_property_194 rfl ?_
                            refine z_iload_n hC (pc := 196) 3 dX14_property_196 rfl rfl ?_
                            obtain ⟨b34, h⟩ := h
                            refine y_iast hC (pc := 197) (rAr_m rfl) dX14_property_197 b34 (v := x2) (kk := ?_)
                            have W35 := W33.sA (p := 1058) (i := ((12 * x1) + (rA s22 1051 x1))) (x := x2) hx2
                            refine z_aload_n hC (pc := 198) 1 dX14_property_198 rfl rfl ?_
                            refine y_get hC (pc := 199) zf14 rOb_0 59 (v := .ref (κ 1059)) dX14_property_199 zw2526 (rv_c rfl) (kk := ?_)
                            refine z_iload hC (pc := 202) 0 dX14_property_202 rfl ?_
                            refine z_iload_n hC (pc := 204) 4 dX14_property_204 rfl rfl ?_
                            obtain ⟨b36, h⟩ := h
                            refine y_iast hC (pc := 205) (rAr_m rfl) dX14_property_205 b36 (v := x3) (kk := ?_)
                            have W37 := W35.sA (p := 1059) (i := ((12 * x1) + (rA s22 1051 x1))) (x := x3) hx3
                            refine z_aload_n hC (pc := 206) 1 dX14_property_206 rfl rfl ?_
                            refine y_get hC (pc := 207) zf14 rOb_0 51 (v := .ref (κ 1051)) dX14_property_207 zw2518 (rv_c rfl) (kk := ?_)
                            refine z_iload_n hC (pc := 210) 2 dX14_property_210 rfl rfl ?_
                            refine z_dup2 hC (pc := 211) dX14_property_211 rfl rfl ?_
                            obtain ⟨b38, h⟩ := h
                            refine y_iald hC (pc := 212) (rAr_m rfl) dX14_property_212 b38 (v := (rA s28 1051 x1)) ((A_sA_ne (by decide)).trans ((A_sA_ne (by decide)).trans ((A_sA_ne (by decide)).trans ((A_sA_ne (by decide)).trans rfl)))) (kk := ?_)
                            have h := h (Ws28.a _ _)
                            refine z_iconst hC (pc := 213) (v := Int32.ofInt 1) dX14_property_213 (by decide) ?_
                            refine y_iadd hC (pc := 214) (v := ((rA s28 1051 x1) + 1)) dX14_property_214 rfl ?_
                            obtain ⟨b39, h⟩ := h
                            obtain ⟨r40, h⟩ := h
                            refine y_iast hC (pc := 215) (rAr_m rfl) dX14_property_215 b39 (v := ((rA s28 1051 x1) + 1)) (kk := ?_)
                            have W41 := W37.sA (p := 1051) (i := x1) (x := ((rA s28 1051 x1) + 1)) r40
                            refine z_iconst hC (pc := 216) (v := Int32.ofInt 1) dX14_property_216 (by decide) ?_
                            exact y_reti hR dX14_property_217 rfl (r_lit rfl) W41 (Nat.le_of_ble_eq_true rfl) (Nat.le_of_ble_eq_true rfl) ⟨(rKeep.tr (rKeep.tr (rKeep.tr (rKeep.tr (rKeep.tr (rKeep.tr (rKeep.tr rKeep.rf kJ rfl rfl rfl rfl rfl) qs28.1 rfl rfl rfl rfl rfl) (rKeep.sA0 (f := 56) (by decide)) rfl rfl rfl rfl rfl) (rKeep.sA0 (f := 57) (by decide)) rfl rfl rfl rfl rfl) (rKeep.sA0 (f := 58) (by decide)) rfl rfl rfl rfl rfl) (rKeep.sA0 (f := 59) (by decide)) rfl rfl rfl rfl rfl) (rKeep.sA0 (f := 51) (by decide)) rfl rfl rfl rfl rfl), h⟩
                          · have h := hF c
                            refine z_aload_n hC (pc := 115) 0 dX14_property_115 rfl rfl ?_
                            refine y_get hC (pc := 116) zf14 rOb_0 58 (v := .ref (κ 1058)) dX14_property_116 zw2525 (rv_c rfl) (kk := ?_)
                            refine z_iload hC (pc := 119) 4 dX14_property_119 rfl ?_
                            obtain ⟨b42, h⟩ := h
                            refine y_iald hC (pc := 121) (rAr_m rfl) dX14_property_121 b42 (v := (rA s22 1058 y23)) rfl (kk := ?_)
                            have h := h (Ws22.a _ _)
                            refine z_iload_n hC (pc := 122) 2 dX14_property_122 rfl rfl ?_
                            obtain ⟨hT, hF⟩ := h
                            refine y_icmp_ne hC (pc := 123) 149 (Ws22.a _ _) hx2 dX14_property_123 (by decide) (fun c => ?_) (fun c => ?_)
                            · have h := hT c
                              refine y_iinc hC (pc := 149) (v := (y23 + 1)) (lv' := [(4, iv (y23 + 1)), (0, .ref (κ 0)), (1, iv x1), (2, iv x2), (3, iv x3)]) 4 dX14_property_149 rfl rfl (by decide) rfl ?_
                              refine z_goto hC (pc := 152) 99 dX14_property_152 (by decide) ?_
                              refine z_lvs [1, 2, 3, 4, 0] rfl ?_
                              obtain ⟨r43, h⟩ := h
                              obtain ⟨hI, hm⟩ := h
                              exact ih99 s22 (y23 + 1) Ws22 r43 (rKeep.tr rKeep.rf kJ rfl rfl rfl rfl rfl) hI (by omega)
                            · have h := hF c
                              refine z_aload_n hC (pc := 126) 0 dX14_property_126 rfl rfl ?_
                              refine z_aload_n hC (pc := 127) 0 dX14_property_127 rfl rfl ?_
                              refine y_get hC (pc := 128) zf14 rOb_0 56 (v := .ref (κ 1056)) dX14_property_128 zw2523 (rv_c rfl) (kk := ?_)
                              refine z_iload hC (pc := 131) 4 dX14_property_131 rfl ?_
                              obtain ⟨b44, h⟩ := h
                              refine y_iald hC (pc := 133) (rAr_m rfl) dX14_property_133 b44 (v := (rA s22 1056 y23)) rfl (kk := ?_)
                              have h := h (Ws22.a _ _)
                              refine z_aload_n hC (pc := 134) 0 dX14_property_134 rfl rfl ?_
                              refine y_get hC (pc := 135) zf14 rOb_0 57 (v := .ref (κ 1057)) dX14_property_135 zw2524 (rv_c rfl) (kk := ?_)
                              refine z_iload hC (pc := 138) 4 dX14_property_138 rfl ?_
                              obtain ⟨b45, h⟩ := h
                              refine y_iald hC (pc := 140) (rAr_m rfl) dX14_property_140 b45 (v := (rA s22 1057 y23)) rfl (kk := ?_)
                              have h := h (Ws22.a _ _)
                              obtain ⟨p46, h⟩ := h
                              refine y_callVi hC (pc := 141) (As := [iv (rA s22 1056 y23), iv (rA s22 1057 y23)]) (kX14_isTape l G κ s22 (rA s22 1056 y23) (rA s22 1057 y23) Ws22 (Ws22.a _ _) (Ws22.a _ _) p46) dmX14_isTape zf14 rOb_0 dX14_property_141 zw2937 rfl rfl (Nat.le_of_ble_eq_true rfl) (Nat.le_of_ble_eq_true rfl) (Nat.le_of_ble_eq_true rfl) (Nat.le_of_ble_eq_true rfl) (Nat.le_of_ble_eq_true rfl) (kk := fun x48 s47 hx48 Ws47 qs47 => ?_)
                              obtain ⟨es47, qs47⟩ := qs47
                              have es47 := es47.symm
                              subst es47
                              have h := h x48 hx48 qs47
                              obtain ⟨hT, hF⟩ := h
                              refine y_if_eq hC (pc := 144) 149 hx48 dX14_property_144 (by decide) (fun c => ?_) (fun c => ?_)
                              · have h := hT c
                                refine y_iinc hC (pc := 149) (v := (y23 + 1)) (lv' := [(4, iv (y23 + 1)), (0, .ref (κ 0)), (1, iv x1), (2, iv x2), (3, iv x3)]) 4 dX14_property_149 rfl rfl (by decide) rfl ?_
                                refine z_goto hC (pc := 152) 99 dX14_property_152 (by decide) ?_
                                refine z_lvs [1, 2, 3, 4, 0] rfl ?_
                                obtain ⟨r49, h⟩ := h
                                obtain ⟨hI, hm⟩ := h
                                exact ih99 s22 (y23 + 1) Ws22 r49 (rKeep.tr rKeep.rf kJ rfl rfl rfl rfl rfl) hI (by omega)
                              · have h := hF c
                                refine z_iconst hC (pc := 147) (v := Int32.ofInt 0) dX14_property_147 (by decide) ?_
                                exact y_reti hR dX14_property_148 rfl (r_lit rfl) Ws22 (Nat.le_of_ble_eq_true rfl) (Nat.le_of_ble_eq_true rfl) ⟨(rKeep.tr rKeep.rf kJ rfl rfl rfl rfl rfl), h⟩
                      refine z_lvs [1, 2, 3, 4, 0] rfl ?_
                      obtain ⟨r50, h⟩ := h
                      exact j99 _ s12 (12 * x1) Ws12 r50 (rKeep.tr (rKeep.tr rKeep.rf (rKeep.sF0 (f := 0)) rfl rfl rfl rfl rfl) qs12.1 rfl rfl rfl rfl rfl) h (Nat.le_refl _)
                    · have h := hF c
                      refine z_iconst hC (pc := 91) (v := Int32.ofInt 0) dX14_property_91 (by decide) ?_
                      exact y_reti hR dX14_property_92 rfl (r_lit rfl) Ws12 (Nat.le_of_ble_eq_true rfl) (Nat.le_of_ble_eq_true rfl) ⟨(rKeep.tr (rKeep.tr rKeep.rf (rKeep.sF0 (f := 0)) rfl rfl rfl rfl rfl) qs12.1 rfl rfl rfl rfl rfl), h⟩
theorem kX14_property (l : Launch) (G : zG) (κ : Nat → Nat) (σ : rS) (x1 : Int) (x2 : Int) (x3 : Int) (hwf : rWF σ) (hx1 : rng x1) (hx2 : rng x2) (hx3 : rng x3) (hp : pre_X14_property σ x1 x2 x3) : rMi l G κ yX14_property cX14_property 5 .boolean 2 24 [.ref (κ 0), iv x1, iv x2, iv x3] σ (fun x s => rKeep 0x40000200000000009 0 0xf09000000000000 0 0 σ s ∧ post_X14_property σ x1 x2 x3 x s) := wX14_property l G κ σ x1 x2 x3 hwf hx1 hx2 hx3 (post_X14_property σ x1 x2 x3) (vX14_property σ x1 x2 x3 hwf hx1 hx2 hx3 hp) (vX14_property_99 σ x1 x2 x3 hwf hx1 hx2 hx3 hp) (vX14_property_99m σ x1 x2 x3 hwf hx1 hx2 hx3 hp)
