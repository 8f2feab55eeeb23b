theorem zw3299 : Cond.methodLink "TemplateHouseModel" 686 ⟨"TemplateHouseModel", "isSpace", "(I)Z"⟩ ∈ zT := zsub14 179 (by decide +kernel) (by decide +kernel)
theorem zw3295 : Cond.methodLink "TemplateHouseModel" 683 ⟨"TemplateHouseModel", "isLineTag", "(I)Z"⟩ ∈ zT := zsub14 175 (by decide +kernel) (by decide +kernel)
theorem zw3291 : Cond.methodLink "TemplateHouseModel" 680 ⟨"TemplateHouseModel", "line", "(II)V"⟩ ∈ zT := zsub14 171 (by decide +kernel) (by decide +kernel)
theorem zw2486 : Cond.fieldLink "TemplateHouseModel" 394 "TemplateHouseModel" "close" "I" ∈ zT := zsub11 86 (by decide +kernel) (by decide +kernel)
theorem zw3111 : Cond.methodLink "TemplateHouseModel" 619 ⟨"TemplateHouseModel", "note", "(III)V"⟩ ∈ zT := zsub13 231 (by decide +kernel) (by decide +kernel)
theorem zw3294 : Cond.code ⟨"TemplateHouseModel", "line", "(II)V"⟩ prog_15_method_57_code 9 (Option.none : Option Jvm.ClassFile.FieldType) ∈ zT := zsub14 174 rfl rfl
theorem zw3293 : Cond.instanceMethod ⟨"TemplateHouseModel", "line", "(II)V"⟩ ∈ zT := zsub14 173 (by decide +kernel) (by decide +kernel)
theorem zwp218 : Cond.selects "TemplateHouseModel" ⟨"TemplateHouseModel", "line", "(II)V"⟩ ⟨"TemplateHouseModel", "line", "(II)V"⟩ ∈ zT := zin 218 (by decide +kernel) (by decide +kernel)
theorem zw3290 : Cond.code ⟨"TemplateHouseModel", "lines", "(I)V"⟩ prog_15_method_56_code 4 (Option.none : Option Jvm.ClassFile.FieldType) ∈ zT := zsub14 170 rfl rfl
theorem zw3289 : Cond.instanceMethod ⟨"TemplateHouseModel", "lines", "(I)V"⟩ ∈ zT := zsub14 169 (by decide +kernel) (by decide +kernel)
theorem zwp219 : Cond.selects "TemplateHouseModel" ⟨"TemplateHouseModel", "lines", "(I)V"⟩ ⟨"TemplateHouseModel", "lines", "(I)V"⟩ ∈ zT := zin 219 (by decide +kernel) (by decide +kernel)
theorem zw3118 : Cond.code ⟨"TemplateHouseModel", "readBytes", "(I)V"⟩ prog_15_method_49_code 3 (Option.none : Option Jvm.ClassFile.FieldType) ∈ zT := zsub13 238 rfl rfl
theorem zw3117 : Cond.instanceMethod ⟨"TemplateHouseModel", "readBytes", "(I)V"⟩ ∈ zT := zsub13 237 (by decide +kernel) (by decide +kernel)
theorem zwp253 : Cond.selects "TemplateHouseModel" ⟨"TemplateHouseModel", "readBytes", "(I)V"⟩ ⟨"TemplateHouseModel", "readBytes", "(I)V"⟩ ∈ zT := zin 253 (by decide +kernel) (by decide +kernel)
abbrev cX14_line : ByteArray := prog_15_method_57_code
abbrev yX14_line : MethodName := ⟨"TemplateHouseModel", "line", "(II)V"⟩
theorem dmX14_line : zDv yX14_line cX14_line 9 none 2 := ⟨⟨⟨by decide +kernel, by decide +kernel, by decide +kernel⟩, zw3294, zw14⟩, zw3293, zwp218⟩
abbrev cX14_lines : ByteArray := prog_15_method_56_code
abbrev yX14_lines : MethodName := ⟨"TemplateHouseModel", "lines", "(I)V"⟩
theorem dmX14_lines : zDv yX14_lines cX14_lines 4 none 1 := ⟨⟨⟨by decide +kernel, by decide +kernel, by decide +kernel⟩, zw3290, zw14⟩, zw3289, zwp219⟩
abbrev cX14_readBytes : ByteArray := prog_15_method_49_code
abbrev yX14_readBytes : MethodName := ⟨"TemplateHouseModel", "readBytes", "(I)V"⟩
theorem dmX14_readBytes : zDv yX14_readBytes cX14_readBytes 3 none 1 := ⟨⟨⟨by decide +kernel, by decide +kernel, by decide +kernel⟩, zw3118, zw14⟩, zw3117, zwp253⟩
theorem dX14_line_0 : decode cX14_line 0 = .ok (.iconst 0, 1) := by decide +kernel
theorem dX14_line_1 : decode cX14_line 1 = .ok (.istore_n 3, 1) := by decide +kernel
theorem dX14_line_2 : decode cX14_line 2 = .ok (.iconst 0, 1) := by decide +kernel
theorem dX14_line_3 : decode cX14_line 3 = .ok (.istore 4, 2) := by decide +kernel
theorem dX14_line_5 : decode cX14_line 5 = .ok (.iload_n 1, 1) := by decide +kernel
theorem dX14_line_6 : decode cX14_line 6 = .ok (.istore 5, 2) := by decide +kernel
theorem dX14_line_8 : decode cX14_line 8 = .ok (.iload 5, 2) := by decide +kernel
theorem dX14_line_10 : decode cX14_line 10 = .ok (.iload_n 2, 1) := by decide +kernel
theorem dX14_line_11 : decode cX14_line 11 = .ok (.if_icmp .ge 36, 3) := by decide +kernel
theorem dX14_line_47 : decode cX14_line 47 = .ok (.iload_n 3, 1) := by decide +kernel
theorem dX14_line_48 : decode cX14_line 48 = .ok (.iconst 1, 1) := by decide +kernel
theorem dX14_line_49 : decode cX14_line 49 = .ok (.if_icmp .ne 52, 3) := by decide +kernel
theorem dX14_line_101 : decode cX14_line 101 = .ok (.iload_n 1, 1) := by decide +kernel
theorem dX14_line_102 : decode cX14_line 102 = .ok (.istore 5, 2) := by decide +kernel
theorem dX14_line_104 : decode cX14_line 104 = .ok (.iload 5, 2) := by decide +kernel
theorem dX14_line_106 : decode cX14_line 106 = .ok (.iload_n 2, 1) := by decide +kernel
theorem dX14_line_107 : decode cX14_line 107 = .ok (.if_icmp .ge 18, 3) := by decide +kernel
theorem dX14_line_125 : decode cX14_line 125 = .ok (.iload 5, 2) := by decide +kernel
theorem dX14_line_127 : decode cX14_line 127 = .ok (.iload_n 1, 1) := by decide +kernel
theorem dX14_line_128 : decode cX14_line 128 = .ok (.if_icmp .eq 9, 3) := by decide +kernel
theorem dX14_line_137 : decode cX14_line 137 = .ok (.return_, 1) := by decide +kernel
theorem dX14_line_131 : decode cX14_line 131 = .ok (.iload 5, 2) := by decide +kernel
theorem dX14_line_133 : decode cX14_line 133 = .ok (.iload_n 2, 1) := by decide +kernel
theorem dX14_line_134 : decode cX14_line 134 = .ok (.if_icmp .ne 4, 3) := by decide +kernel
theorem dX14_line_138 : decode cX14_line 138 = .ok (.aload_n 0, 1) := by decide +kernel
theorem dX14_line_139 : decode cX14_line 139 = .ok (.getfield 49, 3) := by decide +kernel
theorem dX14_line_142 : decode cX14_line 142 = .ok (.iload 5, 2) := by decide +kernel
theorem dX14_line_144 : decode cX14_line 144 = .ok (.iaload, 1) := by decide +kernel
theorem dX14_line_145 : decode cX14_line 145 = .ok (.istore 6, 2) := by decide +kernel
theorem dX14_line_147 : decode cX14_line 147 = .ok (.iload 6, 2) := by decide +kernel
theorem dX14_line_149 : decode cX14_line 149 = .ok (.iconst 4, 1) := by decide +kernel
theorem dX14_line_150 : decode cX14_line 150 = .ok (.if_icmp .eq 18, 3) := by decide +kernel
theorem dX14_line_168 : decode cX14_line 168 = .ok (.aload_n 0, 1) := by decide +kernel
theorem dX14_line_169 : decode cX14_line 169 = .ok (.getfield 52, 3) := by decide +kernel
theorem dX14_line_172 : decode cX14_line 172 = .ok (.iload 5, 2) := by decide +kernel
theorem dX14_line_174 : decode cX14_line 174 = .ok (.iaload, 1) := by decide +kernel
theorem dX14_line_175 : decode cX14_line 175 = .ok (.istore 7, 2) := by decide +kernel
theorem dX14_line_177 : decode cX14_line 177 = .ok (.aload_n 0, 1) := by decide +kernel
theorem dX14_line_178 : decode cX14_line 178 = .ok (.getfield 334, 3) := by decide +kernel
theorem dX14_line_181 : decode cX14_line 181 = .ok (.getfield 362, 3) := by decide +kernel
theorem dX14_line_184 : decode cX14_line 184 = .ok (.iload 7, 2) := by decide +kernel
theorem dX14_line_186 : decode cX14_line 186 = .ok (.sipush 4096, 3) := by decide +kernel
theorem dX14_line_189 : decode cX14_line 189 = .ok (.aload_n 0, 1) := by decide +kernel
theorem dX14_line_190 : decode cX14_line 190 = .ok (.getfield 334, 3) := by decide +kernel
theorem dX14_line_193 : decode cX14_line 193 = .ok (.getfield 371, 3) := by decide +kernel
theorem dX14_line_196 : decode cX14_line 196 = .ok (.imul, 1) := by decide +kernel
theorem dX14_line_197 : decode cX14_line 197 = .ok (.iload 5, 2) := by decide +kernel
theorem dX14_line_199 : decode cX14_line 199 = .ok (.iadd, 1) := by decide +kernel
theorem dX14_line_200 : decode cX14_line 200 = .ok (.iload_n 1, 1) := by decide +kernel
theorem dX14_line_201 : decode cX14_line 201 = .ok (.isub, 1) := by decide +kernel
theorem dX14_line_202 : decode cX14_line 202 = .ok (.iastore, 1) := by decide +kernel
theorem dX14_line_203 : decode cX14_line 203 = .ok (.iload_n 1, 1) := by decide +kernel
theorem dX14_line_204 : decode cX14_line 204 = .ok (.istore 8, 2) := by decide +kernel
theorem dX14_line_206 : decode cX14_line 206 = .ok (.iload 8, 2) := by decide +kernel
theorem dX14_line_208 : decode cX14_line 208 = .ok (.iload 5, 2) := by decide +kernel
theorem dX14_line_210 : decode cX14_line 210 = .ok (.if_icmp .ge 53, 3) := by decide +kernel
theorem dX14_line_263 : decode cX14_line 263 = .ok (.return_, 1) := by decide +kernel
theorem dX14_line_213 : decode cX14_line 213 = .ok (.aload_n 0, 1) := by decide +kernel
theorem dX14_line_214 : decode cX14_line 214 = .ok (.getfield 58, 3) := by decide +kernel
theorem dX14_line_217 : decode cX14_line 217 = .ok (.iload 8, 2) := by decide +kernel
theorem dX14_line_219 : decode cX14_line 219 = .ok (.iconst 1, 1) := by decide +kernel
theorem dX14_line_220 : decode cX14_line 220 = .ok (.bastore, 1) := by decide +kernel
theorem dX14_line_221 : decode cX14_line 221 = .ok (.aload_n 0, 1) := by decide +kernel
theorem dX14_line_222 : decode cX14_line 222 = .ok (.getfield 334, 3) := by decide +kernel
theorem dX14_line_225 : decode cX14_line 225 = .ok (.getfield 377, 3) := by decide +kernel
theorem dX14_line_228 : decode cX14_line 228 = .ok (.aload_n 0, 1) := by decide +kernel
theorem dX14_line_229 : decode cX14_line 229 = .ok (.getfield 334, 3) := by decide +kernel
theorem dX14_line_232 : decode cX14_line 232 = .ok (.getfield 371, 3) := by decide +kernel
theorem dX14_line_235 : decode cX14_line 235 = .ok (.aload_n 0, 1) := by decide +kernel
theorem dX14_line_236 : decode cX14_line 236 = .ok (.getfield 52, 3) := by decide +kernel
theorem dX14_line_239 : decode cX14_line 239 = .ok (.iload 8, 2) := by decide +kernel
theorem dX14_line_241 : decode cX14_line 241 = .ok (.iaload, 1) := by decide +kernel
theorem dX14_line_242 : decode cX14_line 242 = .ok (.i2b, 1) := by decide +kernel
theorem dX14_line_243 : decode cX14_line 243 = .ok (.bastore, 1) := by decide +kernel
theorem dX14_line_244 : decode cX14_line 244 = .ok (.aload_n 0, 1) := by decide +kernel
theorem dX14_line_245 : decode cX14_line 245 = .ok (.getfield 334, 3) := by decide +kernel
theorem dX14_line_248 : decode cX14_line 248 = .ok (.dup, 1) := by decide +kernel
theorem dX14_line_249 : decode cX14_line 249 = .ok (.getfield 371, 3) := by decide +kernel
theorem dX14_line_252 : decode cX14_line 252 = .ok (.iconst 1, 1) := by decide +kernel
theorem dX14_line_253 : decode cX14_line 253 = .ok (.iadd, 1) := by decide +kernel
theorem dX14_line_254 : decode cX14_line 254 = .ok (.putfield 371, 3) := by decide +kernel
theorem dX14_line_257 : decode cX14_line 257 = .ok (.iinc 8 1, 3) := by decide +kernel
theorem dX14_line_260 : decode cX14_line 260 = .ok (.goto (-54), 3) := by decide +kernel
theorem dX14_line_153 : decode cX14_line 153 = .ok (.iload 6, 2) := by decide +kernel
theorem dX14_line_155 : decode cX14_line 155 = .ok (.bipush 6, 2) := by decide +kernel
theorem dX14_line_157 : decode cX14_line 157 = .ok (.if_icmp .eq 11, 3) := by decide +kernel
theorem dX14_line_160 : decode cX14_line 160 = .ok (.iload 6, 2) := by decide +kernel
theorem dX14_line_162 : decode cX14_line 162 = .ok (.bipush 7, 2) := by decide +kernel
theorem dX14_line_164 : decode cX14_line 164 = .ok (.if_icmp .eq 4, 3) := by decide +kernel
theorem dX14_line_167 : decode cX14_line 167 = .ok (.return_, 1) := by decide +kernel
theorem dX14_line_110 : decode cX14_line 110 = .ok (.aload_n 0, 1) := by decide +kernel
theorem dX14_line_111 : decode cX14_line 111 = .ok (.iload 5, 2) := by decide +kernel
theorem dX14_line_113 : decode cX14_line 113 = .ok (.invokevirtual 686, 3) := by decide +kernel
theorem dX14_line_116 : decode cX14_line 116 = .ok (.ifCond .eq 9, 3) := by decide +kernel
theorem dX14_line_119 : decode cX14_line 119 = .ok (.iinc 5 1, 3) := by decide +kernel
theorem dX14_line_122 : decode cX14_line 122 = .ok (.goto (-18), 3) := by decide +kernel
theorem dX14_line_52 : decode cX14_line 52 = .ok (.iload 4, 2) := by decide +kernel
theorem dX14_line_54 : decode cX14_line 54 = .ok (.ifCond .ne 47, 3) := by decide +kernel
theorem dX14_line_57 : decode cX14_line 57 = .ok (.iload_n 1, 1) := by decide +kernel
theorem dX14_line_58 : decode cX14_line 58 = .ok (.istore 5, 2) := by decide +kernel
theorem dX14_line_60 : decode cX14_line 60 = .ok (.iload 5, 2) := by decide +kernel
theorem dX14_line_62 : decode cX14_line 62 = .ok (.iload_n 2, 1) := by decide +kernel
theorem dX14_line_63 : decode cX14_line 63 = .ok (.if_icmp .ge 22, 3) := by decide +kernel
theorem dX14_line_85 : decode cX14_line 85 = .ok (.iload_n 2, 1) := by decide +kernel
theorem dX14_line_86 : decode cX14_line 86 = .ok (.aload_n 0, 1) := by decide +kernel
theorem dX14_line_87 : decode cX14_line 87 = .ok (.getfield 554, 3) := by decide +kernel
theorem dX14_line_90 : decode cX14_line 90 = .ok (.if_icmp .ge 10, 3) := by decide +kernel
theorem dX14_line_100 : decode cX14_line 100 = .ok (.return_, 1) := by decide +kernel
theorem dX14_line_93 : decode cX14_line 93 = .ok (.aload_n 0, 1) := by decide +kernel
theorem dX14_line_94 : decode cX14_line 94 = .ok (.getfield 58, 3) := by decide +kernel
theorem dX14_line_97 : decode cX14_line 97 = .ok (.iload_n 2, 1) := by decide +kernel
theorem dX14_line_98 : decode cX14_line 98 = .ok (.iconst 1, 1) := by decide +kernel
theorem dX14_line_99 : decode cX14_line 99 = .ok (.bastore, 1) := by decide +kernel
theorem dX14_line_66 : decode cX14_line 66 = .ok (.aload_n 0, 1) := by decide +kernel
theorem dX14_line_67 : decode cX14_line 67 = .ok (.getfield 58, 3) := by decide +kernel
theorem dX14_line_70 : decode cX14_line 70 = .ok (.iload 5, 2) := by decide +kernel
theorem dX14_line_72 : decode cX14_line 72 = .ok (.aload_n 0, 1) := by decide +kernel
theorem dX14_line_73 : decode cX14_line 73 = .ok (.iload 5, 2) := by decide +kernel
theorem dX14_line_75 : decode cX14_line 75 = .ok (.invokevirtual 686, 3) := by decide +kernel
theorem dX14_line_78 : decode cX14_line 78 = .ok (.bastore, 1) := by decide +kernel
theorem dX14_line_79 : decode cX14_line 79 = .ok (.iinc 5 1, 3) := by decide +kernel
theorem dX14_line_82 : decode cX14_line 82 = .ok (.goto (-22), 3) := by decide +kernel
theorem dX14_line_14 : decode cX14_line 14 = .ok (.aload_n 0, 1) := by decide +kernel
theorem dX14_line_15 : decode cX14_line 15 = .ok (.iload 5, 2) := by decide +kernel
theorem dX14_line_17 : decode cX14_line 17 = .ok (.invokevirtual 683, 3) := by decide +kernel
theorem dX14_line_20 : decode cX14_line 20 = .ok (.ifCond .eq 9, 3) := by decide +kernel
theorem dX14_line_29 : decode cX14_line 29 = .ok (.aload_n 0, 1) := by decide +kernel
theorem dX14_line_30 : decode cX14_line 30 = .ok (.iload 5, 2) := by decide +kernel
theorem dX14_line_32 : decode cX14_line 32 = .ok (.invokevirtual 686, 3) := by decide +kernel
theorem dX14_line_35 : decode cX14_line 35 = .ok (.ifCond .ne 6, 3) := by decide +kernel
theorem dX14_line_41 : decode cX14_line 41 = .ok (.iinc 5 1, 3) := by decide +kernel
theorem dX14_line_44 : decode cX14_line 44 = .ok (.goto (-36), 3) := by decide +kernel
theorem dX14_line_38 : decode cX14_line 38 = .ok (.iinc 4 1, 3) := by decide +kernel
theorem dX14_line_23 : decode cX14_line 23 = .ok (.iinc 3 1, 3) := by decide +kernel
theorem dX14_line_26 : decode cX14_line 26 = .ok (.goto 15, 3) := by decide +kernel
theorem dX14_lines_0 : decode cX14_lines 0 = .ok (.iload_n 1, 1) := by decide +kernel
theorem dX14_lines_1 : decode cX14_lines 1 = .ok (.istore_n 2, 1) := by decide +kernel
theorem dX14_lines_2 : decode cX14_lines 2 = .ok (.iload_n 2, 1) := by decide +kernel
theorem dX14_lines_3 : decode cX14_lines 3 = .ok (.aload_n 0, 1) := by decide +kernel
theorem dX14_lines_4 : decode cX14_lines 4 = .ok (.getfield 554, 3) := by decide +kernel
theorem dX14_lines_7 : decode cX14_lines 7 = .ok (.if_icmp .ge 42, 3) := by decide +kernel
theorem dX14_lines_49 : decode cX14_lines 49 = .ok (.return_, 1) := by decide +kernel
theorem dX14_lines_10 : decode cX14_lines 10 = .ok (.iload_n 2, 1) := by decide +kernel
theorem dX14_lines_11 : decode cX14_lines 11 = .ok (.istore_n 3, 1) := by decide +kernel
theorem dX14_lines_12 : decode cX14_lines 12 = .ok (.iload_n 3, 1) := by decide +kernel
theorem dX14_lines_13 : decode cX14_lines 13 = .ok (.aload_n 0, 1) := by decide +kernel
theorem dX14_lines_14 : decode cX14_lines 14 = .ok (.getfield 554, 3) := by decide +kernel
theorem dX14_lines_17 : decode cX14_lines 17 = .ok (.if_icmp .ge 19, 3) := by decide +kernel
theorem dX14_lines_36 : decode cX14_lines 36 = .ok (.aload_n 0, 1) := by decide +kernel
theorem dX14_lines_37 : decode cX14_lines 37 = .ok (.iload_n 2, 1) := by decide +kernel
theorem dX14_lines_38 : decode cX14_lines 38 = .ok (.iload_n 3, 1) := by decide +kernel
theorem dX14_lines_39 : decode cX14_lines 39 = .ok (.invokevirtual 680, 3) := by decide +kernel
theorem dX14_lines_42 : decode cX14_lines 42 = .ok (.iload_n 3, 1) := by decide +kernel
theorem dX14_lines_43 : decode cX14_lines 43 = .ok (.iconst 1, 1) := by decide +kernel
theorem dX14_lines_44 : decode cX14_lines 44 = .ok (.iadd, 1) := by decide +kernel
theorem dX14_lines_45 : decode cX14_lines 45 = .ok (.istore_n 2, 1) := by decide +kernel
theorem dX14_lines_46 : decode cX14_lines 46 = .ok (.goto (-44), 3) := by decide +kernel
theorem dX14_lines_20 : decode cX14_lines 20 = .ok (.aload_n 0, 1) := by decide +kernel
theorem dX14_lines_21 : decode cX14_lines 21 = .ok (.getfield 49, 3) := by decide +kernel
theorem dX14_lines_24 : decode cX14_lines 24 = .ok (.iload_n 3, 1) := by decide +kernel
theorem dX14_lines_25 : decode cX14_lines 25 = .ok (.iaload, 1) := by decide +kernel
theorem dX14_lines_26 : decode cX14_lines 26 = .ok (.iconst 2, 1) := by decide +kernel
theorem dX14_lines_27 : decode cX14_lines 27 = .ok (.if_icmp .eq 9, 3) := by decide +kernel
theorem dX14_lines_30 : decode cX14_lines 30 = .ok (.iinc 3 1, 3) := by decide +kernel
theorem dX14_lines_33 : decode cX14_lines 33 = .ok (.goto (-21), 3) := by decide +kernel
theorem dX14_readBytes_0 : decode cX14_readBytes 0 = .ok (.aload_n 0, 1) := by decide +kernel
theorem dX14_readBytes_1 : decode cX14_readBytes 1 = .ok (.getfield 548, 3) := by decide +kernel
theorem dX14_readBytes_4 : decode cX14_readBytes 4 = .ok (.iconst 1, 1) := by decide +kernel
theorem dX14_readBytes_5 : decode cX14_readBytes 5 = .ok (.iadd, 1) := by decide +kernel
theorem dX14_readBytes_6 : decode cX14_readBytes 6 = .ok (.aload_n 0, 1) := by decide +kernel
theorem dX14_readBytes_7 : decode cX14_readBytes 7 = .ok (.getfield 533, 3) := by decide +kernel
theorem dX14_readBytes_10 : decode cX14_readBytes 10 = .ok (.if_icmp .ge 160, 3) := by decide +kernel
theorem dX14_readBytes_170 : decode cX14_readBytes 170 = .ok (.aload_n 0, 1) := by decide +kernel
theorem dX14_readBytes_171 : decode cX14_readBytes 171 = .ok (.invokevirtual 569, 3) := by decide +kernel
theorem dX14_readBytes_174 : decode cX14_readBytes 174 = .ok (.bipush 92, 2) := by decide +kernel
theorem dX14_readBytes_176 : decode cX14_readBytes 176 = .ok (.if_icmp .ne 96, 3) := by decide +kernel
theorem dX14_readBytes_272 : decode cX14_readBytes 272 = .ok (.aload_n 0, 1) := by decide +kernel
theorem dX14_readBytes_273 : decode cX14_readBytes 273 = .ok (.invokevirtual 569, 3) := by decide +kernel
theorem dX14_readBytes_276 : decode cX14_readBytes 276 = .ok (.aload_n 0, 1) := by decide +kernel
theorem dX14_readBytes_277 : decode cX14_readBytes 277 = .ok (.getfield 394, 3) := by decide +kernel
theorem dX14_readBytes_280 : decode cX14_readBytes 280 = .ok (.if_icmp .ne 16, 3) := by decide +kernel
theorem dX14_readBytes_296 : decode cX14_readBytes 296 = .ok (.aload_n 0, 1) := by decide +kernel
theorem dX14_readBytes_297 : decode cX14_readBytes 297 = .ok (.iconst 1, 1) := by decide +kernel
theorem dX14_readBytes_298 : decode cX14_readBytes 298 = .ok (.aload_n 0, 1) := by decide +kernel
theorem dX14_readBytes_299 : decode cX14_readBytes 299 = .ok (.invokevirtual 572, 3) := by decide +kernel
theorem dX14_readBytes_302 : decode cX14_readBytes 302 = .ok (.invokevirtual 280, 3) := by decide +kernel
theorem dX14_readBytes_305 : decode cX14_readBytes 305 = .ok (.return_, 1) := by decide +kernel
theorem dX14_readBytes_283 : decode cX14_readBytes 283 = .ok (.aload_n 0, 1) := by decide +kernel
theorem dX14_readBytes_284 : decode cX14_readBytes 284 = .ok (.dup, 1) := by decide +kernel
theorem dX14_readBytes_285 : decode cX14_readBytes 285 = .ok (.getfield 548, 3) := by decide +kernel
theorem dX14_readBytes_288 : decode cX14_readBytes 288 = .ok (.iconst 1, 1) := by decide +kernel
theorem dX14_readBytes_289 : decode cX14_readBytes 289 = .ok (.iadd, 1) := by decide +kernel
theorem dX14_readBytes_290 : decode cX14_readBytes 290 = .ok (.putfield 548, 3) := by decide +kernel
theorem dX14_readBytes_293 : decode cX14_readBytes 293 = .ok (.goto 12, 3) := by decide +kernel
theorem dX14_readBytes_179 : decode cX14_readBytes 179 = .ok (.aload_n 0, 1) := by decide +kernel
theorem dX14_readBytes_180 : decode cX14_readBytes 180 = .ok (.getfield 248, 3) := by decide +kernel
theorem dX14_readBytes_183 : decode cX14_readBytes 183 = .ok (.ifCond .ne 89, 3) := by decide +kernel
theorem dX14_readBytes_186 : decode cX14_readBytes 186 = .ok (.aload_n 0, 1) := by decide +kernel
theorem dX14_readBytes_187 : decode cX14_readBytes 187 = .ok (.dup, 1) := by decide +kernel
theorem dX14_readBytes_188 : decode cX14_readBytes 188 = .ok (.getfield 548, 3) := by decide +kernel
theorem dX14_readBytes_191 : decode cX14_readBytes 191 = .ok (.iconst 1, 1) := by decide +kernel
theorem dX14_readBytes_192 : decode cX14_readBytes 192 = .ok (.iadd, 1) := by decide +kernel
theorem dX14_readBytes_193 : decode cX14_readBytes 193 = .ok (.putfield 548, 3) := by decide +kernel
theorem dX14_readBytes_196 : decode cX14_readBytes 196 = .ok (.aload_n 0, 1) := by decide +kernel
theorem dX14_readBytes_197 : decode cX14_readBytes 197 = .ok (.invokevirtual 569, 3) := by decide +kernel
theorem dX14_readBytes_200 : decode cX14_readBytes 200 = .ok (.istore_n 2, 1) := by decide +kernel
theorem dX14_readBytes_201 : decode cX14_readBytes 201 = .ok (.iload_n 2, 1) := by decide +kernel
theorem dX14_readBytes_202 : decode cX14_readBytes 202 = .ok (.bipush 110, 2) := by decide +kernel
theorem dX14_readBytes_204 : decode cX14_readBytes 204 = .ok (.if_icmp .eq 25, 3) := by decide +kernel
theorem dX14_readBytes_229 : decode cX14_readBytes 229 = .ok (.aload_n 0, 1) := by decide +kernel
theorem dX14_readBytes_230 : decode cX14_readBytes 230 = .ok (.iconst 3, 1) := by decide +kernel
theorem dX14_readBytes_231 : decode cX14_readBytes 231 = .ok (.iload_n 2, 1) := by decide +kernel
theorem dX14_readBytes_232 : decode cX14_readBytes 232 = .ok (.bipush 110, 2) := by decide +kernel
theorem dX14_readBytes_234 : decode cX14_readBytes 234 = .ok (.if_icmp .ne 8, 3) := by decide +kernel
theorem dX14_readBytes_242 : decode cX14_readBytes 242 = .ok (.iload_n 2, 1) := by decide +kernel
theorem dX14_readBytes_243 : decode cX14_readBytes 243 = .ok (.bipush 116, 2) := by decide +kernel
theorem dX14_readBytes_245 : decode cX14_readBytes 245 = .ok (.if_icmp .ne 8, 3) := by decide +kernel
theorem dX14_readBytes_253 : decode cX14_readBytes 253 = .ok (.bipush 32, 2) := by decide +kernel
theorem dX14_readBytes_255 : decode cX14_readBytes 255 = .ok (.iload_n 1, 1) := by decide +kernel
theorem dX14_readBytes_256 : decode cX14_readBytes 256 = .ok (.invokevirtual 619, 3) := by decide +kernel
theorem dX14_readBytes_259 : decode cX14_readBytes 259 = .ok (.aload_n 0, 1) := by decide +kernel
theorem dX14_readBytes_260 : decode cX14_readBytes 260 = .ok (.dup, 1) := by decide +kernel
theorem dX14_readBytes_261 : decode cX14_readBytes 261 = .ok (.getfield 548, 3) := by decide +kernel
theorem dX14_readBytes_264 : decode cX14_readBytes 264 = .ok (.iconst 1, 1) := by decide +kernel
theorem dX14_readBytes_265 : decode cX14_readBytes 265 = .ok (.iadd, 1) := by decide +kernel
theorem dX14_readBytes_266 : decode cX14_readBytes 266 = .ok (.putfield 548, 3) := by decide +kernel
theorem dX14_readBytes_269 : decode cX14_readBytes 269 = .ok (.goto (-99), 3) := by decide +kernel
theorem dX14_readBytes_248 : decode cX14_readBytes 248 = .ok (.bipush 9, 2) := by decide +kernel
theorem dX14_readBytes_250 : decode cX14_readBytes 250 = .ok (.goto 5, 3) := by decide +kernel
theorem dX14_readBytes_237 : decode cX14_readBytes 237 = .ok (.bipush 10, 2) := by decide +kernel
theorem dX14_readBytes_239 : decode cX14_readBytes 239 = .ok (.goto 16, 3) := by decide +kernel
theorem dX14_readBytes_207 : decode cX14_readBytes 207 = .ok (.iload_n 2, 1) := by decide +kernel
theorem dX14_readBytes_208 : decode cX14_readBytes 208 = .ok (.bipush 116, 2) := by decide +kernel
theorem dX14_readBytes_210 : decode cX14_readBytes 210 = .ok (.if_icmp .eq 19, 3) := by decide +kernel
theorem dX14_readBytes_213 : decode cX14_readBytes 213 = .ok (.iload_n 2, 1) := by decide +kernel
theorem dX14_readBytes_214 : decode cX14_readBytes 214 = .ok (.bipush 32, 2) := by decide +kernel
theorem dX14_readBytes_216 : decode cX14_readBytes 216 = .ok (.if_icmp .eq 13, 3) := by decide +kernel
theorem dX14_readBytes_219 : decode cX14_readBytes 219 = .ok (.aload_n 0, 1) := by decide +kernel
theorem dX14_readBytes_220 : decode cX14_readBytes 220 = .ok (.iconst 1, 1) := by decide +kernel
theorem dX14_readBytes_221 : decode cX14_readBytes 221 = .ok (.aload_n 0, 1) := by decide +kernel
theorem dX14_readBytes_222 : decode cX14_readBytes 222 = .ok (.invokevirtual 572, 3) := by decide +kernel
theorem dX14_readBytes_225 : decode cX14_readBytes 225 = .ok (.invokevirtual 280, 3) := by decide +kernel
theorem dX14_readBytes_228 : decode cX14_readBytes 228 = .ok (.return_, 1) := by decide +kernel
theorem dX14_readBytes_13 : decode cX14_readBytes 13 = .ok (.aload_n 0, 1) := by decide +kernel
theorem dX14_readBytes_14 : decode cX14_readBytes 14 = .ok (.getfield 36, 3) := by decide +kernel
theorem dX14_readBytes_17 : decode cX14_readBytes 17 = .ok (.aload_n 0, 1) := by decide +kernel
theorem dX14_readBytes_18 : decode cX14_readBytes 18 = .ok (.getfield 548, 3) := by decide +kernel
theorem dX14_readBytes_21 : decode cX14_readBytes 21 = .ok (.iconst 1, 1) := by decide +kernel
theorem dX14_readBytes_22 : decode cX14_readBytes 22 = .ok (.iadd, 1) := by decide +kernel
theorem dX14_readBytes_23 : decode cX14_readBytes 23 = .ok (.baload, 1) := by decide +kernel
theorem dX14_readBytes_24 : decode cX14_readBytes 24 = .ok (.bipush 92, 2) := by decide +kernel
theorem dX14_readBytes_26 : decode cX14_readBytes 26 = .ok (.if_icmp .ne 144, 3) := by decide +kernel
theorem dX14_readBytes_29 : decode cX14_readBytes 29 = .ok (.aload_n 0, 1) := by decide +kernel
theorem dX14_readBytes_30 : decode cX14_readBytes 30 = .ok (.dup, 1) := by decide +kernel
theorem dX14_readBytes_31 : decode cX14_readBytes 31 = .ok (.getfield 548, 3) := by decide +kernel
theorem dX14_readBytes_34 : decode cX14_readBytes 34 = .ok (.iconst 2, 1) := by decide +kernel
theorem dX14_readBytes_35 : decode cX14_readBytes 35 = .ok (.iadd, 1) := by decide +kernel
theorem dX14_readBytes_36 : decode cX14_readBytes 36 = .ok (.putfield 548, 3) := by decide +kernel
theorem dX14_readBytes_39 : decode cX14_readBytes 39 = .ok (.aload_n 0, 1) := by decide +kernel
theorem dX14_readBytes_40 : decode cX14_readBytes 40 = .ok (.invokevirtual 569, 3) := by decide +kernel
theorem dX14_readBytes_43 : decode cX14_readBytes 43 = .ok (.aload_n 0, 1) := by decide +kernel
theorem dX14_readBytes_44 : decode cX14_readBytes 44 = .ok (.getfield 394, 3) := by decide +kernel
theorem dX14_readBytes_47 : decode cX14_readBytes 47 = .ok (.if_icmp .eq 13, 3) := by decide +kernel
theorem dX14_readBytes_60 : decode cX14_readBytes 60 = .ok (.aload_n 0, 1) := by decide +kernel
theorem dX14_readBytes_61 : decode cX14_readBytes 61 = .ok (.dup, 1) := by decide +kernel
theorem dX14_readBytes_62 : decode cX14_readBytes 62 = .ok (.getfield 548, 3) := by decide +kernel
theorem dX14_readBytes_65 : decode cX14_readBytes 65 = .ok (.iconst 1, 1) := by decide +kernel
theorem dX14_readBytes_66 : decode cX14_readBytes 66 = .ok (.iadd, 1) := by decide +kernel
theorem dX14_readBytes_67 : decode cX14_readBytes 67 = .ok (.putfield 548, 3) := by decide +kernel
theorem dX14_readBytes_70 : decode cX14_readBytes 70 = .ok (.aload_n 0, 1) := by decide +kernel
theorem dX14_readBytes_71 : decode cX14_readBytes 71 = .ok (.invokevirtual 569, 3) := by decide +kernel
theorem dX14_readBytes_74 : decode cX14_readBytes 74 = .ok (.bipush 32, 2) := by decide +kernel
theorem dX14_readBytes_76 : decode cX14_readBytes 76 = .ok (.if_icmp .eq 12, 3) := by decide +kernel
theorem dX14_readBytes_88 : decode cX14_readBytes 88 = .ok (.aload_n 0, 1) := by decide +kernel
theorem dX14_readBytes_89 : decode cX14_readBytes 89 = .ok (.dup, 1) := by decide +kernel
theorem dX14_readBytes_90 : decode cX14_readBytes 90 = .ok (.getfield 548, 3) := by decide +kernel
theorem dX14_readBytes_93 : decode cX14_readBytes 93 = .ok (.iconst 1, 1) := by decide +kernel
theorem dX14_readBytes_94 : decode cX14_readBytes 94 = .ok (.iadd, 1) := by decide +kernel
theorem dX14_readBytes_95 : decode cX14_readBytes 95 = .ok (.putfield 548, 3) := by decide +kernel
theorem dX14_readBytes_98 : decode cX14_readBytes 98 = .ok (.goto (-28), 3) := by decide +kernel
theorem dX14_readBytes_79 : decode cX14_readBytes 79 = .ok (.aload_n 0, 1) := by decide +kernel
theorem dX14_readBytes_80 : decode cX14_readBytes 80 = .ok (.invokevirtual 569, 3) := by decide +kernel
theorem dX14_readBytes_83 : decode cX14_readBytes 83 = .ok (.bipush 9, 2) := by decide +kernel
theorem dX14_readBytes_85 : decode cX14_readBytes 85 = .ok (.if_icmp .ne 16, 3) := by decide +kernel
theorem dX14_readBytes_101 : decode cX14_readBytes 101 = .ok (.aload_n 0, 1) := by decide +kernel
theorem dX14_readBytes_102 : decode cX14_readBytes 102 = .ok (.invokevirtual 569, 3) := by decide +kernel
theorem dX14_readBytes_105 : decode cX14_readBytes 105 = .ok (.bipush 10, 2) := by decide +kernel
theorem dX14_readBytes_107 : decode cX14_readBytes 107 = .ok (.if_icmp .eq 13, 3) := by decide +kernel
theorem dX14_readBytes_120 : decode cX14_readBytes 120 = .ok (.aload_n 0, 1) := by decide +kernel
theorem dX14_readBytes_121 : decode cX14_readBytes 121 = .ok (.dup, 1) := by decide +kernel
theorem dX14_readBytes_122 : decode cX14_readBytes 122 = .ok (.getfield 548, 3) := by decide +kernel
theorem dX14_readBytes_125 : decode cX14_readBytes 125 = .ok (.iconst 1, 1) := by decide +kernel
theorem dX14_readBytes_126 : decode cX14_readBytes 126 = .ok (.iadd, 1) := by decide +kernel
theorem dX14_readBytes_127 : decode cX14_readBytes 127 = .ok (.putfield 548, 3) := by decide +kernel
theorem dX14_readBytes_130 : decode cX14_readBytes 130 = .ok (.aload_n 0, 1) := by decide +kernel
theorem dX14_readBytes_131 : decode cX14_readBytes 131 = .ok (.invokevirtual 569, 3) := by decide +kernel
theorem dX14_readBytes_134 : decode cX14_readBytes 134 = .ok (.bipush 32, 2) := by decide +kernel
theorem dX14_readBytes_136 : decode cX14_readBytes 136 = .ok (.if_icmp .eq 12, 3) := by decide +kernel
theorem dX14_readBytes_148 : decode cX14_readBytes 148 = .ok (.aload_n 0, 1) := by decide +kernel
theorem dX14_readBytes_149 : decode cX14_readBytes 149 = .ok (.dup, 1) := by decide +kernel
theorem dX14_readBytes_150 : decode cX14_readBytes 150 = .ok (.getfield 548, 3) := by decide +kernel
theorem dX14_readBytes_153 : decode cX14_readBytes 153 = .ok (.iconst 1, 1) := by decide +kernel
theorem dX14_readBytes_154 : decode cX14_readBytes 154 = .ok (.iadd, 1) := by decide +kernel
theorem dX14_readBytes_155 : decode cX14_readBytes 155 = .ok (.putfield 548, 3) := by decide +kernel
theorem dX14_readBytes_158 : decode cX14_readBytes 158 = .ok (.goto (-28), 3) := by decide +kernel
theorem dX14_readBytes_139 : decode cX14_readBytes 139 = .ok (.aload_n 0, 1) := by decide +kernel
theorem dX14_readBytes_140 : decode cX14_readBytes 140 = .ok (.invokevirtual 569, 3) := by decide +kernel
theorem dX14_readBytes_143 : decode cX14_readBytes 143 = .ok (.bipush 9, 2) := by decide +kernel
theorem dX14_readBytes_145 : decode cX14_readBytes 145 = .ok (.if_icmp .ne 16, 3) := by decide +kernel
theorem dX14_readBytes_161 : decode cX14_readBytes 161 = .ok (.aload_n 0, 1) := by decide +kernel
theorem dX14_readBytes_162 : decode cX14_readBytes 162 = .ok (.bipush 20, 2) := by decide +kernel
theorem dX14_readBytes_164 : decode cX14_readBytes 164 = .ok (.iconst 0, 1) := by decide +kernel
theorem dX14_readBytes_165 : decode cX14_readBytes 165 = .ok (.iload_n 1, 1) := by decide +kernel
theorem dX14_readBytes_166 : decode cX14_readBytes 166 = .ok (.invokevirtual 619, 3) := by decide +kernel
theorem dX14_readBytes_169 : decode cX14_readBytes 169 = .ok (.return_, 1) := by decide +kernel
theorem dX14_readBytes_110 : decode cX14_readBytes 110 = .ok (.aload_n 0, 1) := by decide +kernel
theorem dX14_readBytes_111 : decode cX14_readBytes 111 = .ok (.iconst 1, 1) := by decide +kernel
theorem dX14_readBytes_112 : decode cX14_readBytes 112 = .ok (.aload_n 0, 1) := by decide +kernel
theorem dX14_readBytes_113 : decode cX14_readBytes 113 = .ok (.invokevirtual 572, 3) := by decide +kernel
theorem dX14_readBytes_116 : decode cX14_readBytes 116 = .ok (.invokevirtual 280, 3) := by decide +kernel
theorem dX14_readBytes_119 : decode cX14_readBytes 119 = .ok (.return_, 1) := by decide +kernel
theorem dX14_readBytes_50 : decode cX14_readBytes 50 = .ok (.aload_n 0, 1) := by decide +kernel
theorem dX14_readBytes_51 : decode cX14_readBytes 51 = .ok (.iconst 1, 1) := by decide +kernel
theorem dX14_readBytes_52 : decode cX14_readBytes 52 = .ok (.aload_n 0, 1) := by decide +kernel
theorem dX14_readBytes_53 : decode cX14_readBytes 53 = .ok (.invokevirtual 572, 3) := by decide +kernel
theorem dX14_readBytes_56 : decode cX14_readBytes 56 = .ok (.invokevirtual 280, 3) := by decide +kernel
theorem dX14_readBytes_59 : decode cX14_readBytes 59 = .ok (.return_, 1) := by decide +kernel
def pre_X14_line (σ : rS) (x1 : Int) (x2 : Int) : Prop := rgk (rR σ 7) ∧ 0 ≤ x1 ∧ x1 ≤ x2 ∧ x2 ≤ (rF σ 0 38) ∧ (rF σ 0 38) ≤ 9000 ∧ 0 ≤ (rF σ (rR σ 7) 9) ∧ (rF σ (rR σ 7) 9) + (x2 - x1) ≤ 60000 ∧ WNp σ
def post_X14_line (σ : rS) (x1 : Int) (x2 : Int) (σ' : rS) : Prop := (rF σ (rR σ 7) 9) ≤ rF σ' (rR σ 7) 9 ∧ rF σ' (rR σ 7) 9 ≤ (rF σ (rR σ 7) 9) + (x2 - x1)
def inv_X14_line_8 (σ : rS) (x1 : Int) (x2 : Int)  (s : rS) (tags : Int) (oth : Int) (k : Int) : Prop := x1 ≤ k ∧ k ≤ x2 ∧ 0 ≤ tags ∧ tags ≤ k ∧ 0 ≤ oth ∧ oth ≤ k ∧ rF s (rR σ 7) 9 = (rF σ (rR σ 7) 9)
def mu_X14_line_8 (σ : rS) (x1 : Int) (x2 : Int) (s : rS) (tags : Int) (oth : Int) (k : Int) : Nat := (1 + (x2 - k).toNat)
def inv_X14_line_60 (σ : rS) (x1 : Int) (x2 : Int)  (s : rS) (k : Int) : Prop := x1 ≤ k ∧ k ≤ x2 ∧ rF s (rR σ 7) 9 = (rF σ (rR σ 7) 9)
def mu_X14_line_60 (σ : rS) (x1 : Int) (x2 : Int) (s : rS) (k : Int) : Nat := (1 + (x2 - k).toNat)
def inv_X14_line_104 (σ : rS) (x1 : Int) (x2 : Int)  (s : rS) (k : Int) : Prop := x1 ≤ k ∧ k ≤ x2 ∧ rF s (rR σ 7) 9 = (rF σ (rR σ 7) 9)
def mu_X14_line_104 (σ : rS) (x1 : Int) (x2 : Int) (s : rS) (k : Int) : Nat := (1 + (x2 - k).toNat)
def inv_X14_line_206 (σ : rS) (x1 : Int) (x2 : Int)  (s : rS) (fi : Int) (k : Int) : Prop := x1 ≤ fi ∧ fi ≤ x2 ∧ x1 ≤ k ∧ k ≤ fi ∧ rF s (rR σ 7) 9 = (rF σ (rR σ 7) 9) + (k - x1)
def mu_X14_line_206 (σ : rS) (x1 : Int) (x2 : Int) (s : rS) (fi : Int) (k : Int) : Nat := (1 + (x2 - k).toNat)
def VC_X14_line (σ : rS) (x1 : Int) (x2 : Int) (Q : rS → Prop) : Prop := rgk (rR σ 7) ∧ (inv_X14_line_8 σ x1 x2 σ 0 0 x1)
def VC_X14_line_206 (σ : rS) (x1 : Int) (x2 : Int) (Q : rS → Prop) : Prop := ∀ (s21 : rS) (y22 : Int) (y23 : Int), rWF s21 → rng y22 → rng y23 → (WNp σ → WNp s21) → rR s21 7 = rR σ 7 → rF s21 0 38 = rF σ 0 38 → (∀ i, rA s21 1034 i = rA σ 1034 i) → inv_X14_line_206 σ x1 x2 s21 y22 y23 → (((y22 ≤ y23 → Q s21) ∧ (¬ y22 ≤ y23 → (0 ≤ y23 ∧ y23 < 9000) ∧ (rng (rF s21 (rR σ 7) 9) → (0 ≤ y23 ∧ y23 < 9000) ∧ (rng (rA s21 1035 y23) → (0 ≤ (rF s21 (rR σ 7) 9) ∧ (rF s21 (rR σ 7) 9) < 60000) ∧ rng ((rF s21 (rR σ 7) 9) + 1) ∧ rng (y23 + 1) ∧ (inv_X14_line_206 σ x1 x2 (sF (sA (sA s21 1037 y23 (inar .boolean 1)) (1000 * ((rR σ 7) + 1) + 8) (rF s21 (rR σ 7) 9) (inar .byte (f_i2b (rA s21 1035 y23)))) (rR σ 7) 9 ((rF s21 (rR σ 7) 9) + 1)) y22 (y23 + 1) ∧ (mu_X14_line_206 σ x1 x2 (sF (sA (sA s21 1037 y23 (inar .boolean 1)) (1000 * ((rR σ 7) + 1) + 8) (rF s21 (rR σ 7) 9) (inar .byte (f_i2b (rA s21 1035 y23)))) (rR σ 7) 9 ((rF s21 (rR σ 7) 9) + 1)) y22 (y23 + 1)) < (mu_X14_line_206 σ x1 x2 s21 y22 y23)))))))
def VC_X14_line_206m (σ : rS) (x1 : Int) (x2 : Int) : Prop := ∀ (s21 : rS) (y22 : Int) (y23 : Int), rWF s21 → rng y22 → rng y23 → (WNp σ → WNp s21) → rR s21 7 = rR σ 7 → rF s21 0 38 = rF σ 0 38 → (∀ i, rA s21 1034 i = rA σ 1034 i) → inv_X14_line_206 σ x1 x2 s21 y22 y23 → 0 < (mu_X14_line_206 σ x1 x2 s21 y22 y23)
def VC_X14_line_104 (σ : rS) (x1 : Int) (x2 : Int) (Q : rS → Prop) : Prop := ∀ (s14 : rS) (y15 : Int), rWF s14 → rng y15 → (WNp σ → WNp s14) → rR s14 7 = rR σ 7 → rF s14 0 38 = rF σ 0 38 → (∀ i, rA s14 1034 i = rA σ 1034 i) → inv_X14_line_104 σ x1 x2 s14 y15 → (((x2 ≤ y15 → ((y15 = x1 → Q s14) ∧ (¬ y15 = x1 → ((¬ y15 = x2 → (0 ≤ y15 ∧ y15 < 9000) ∧ (rng (rA s14 1034 y15) → (((rA s14 1034 y15) = 4 → (0 ≤ y15 ∧ y15 < 9000) ∧ (rng (rA s14 1035 y15) → (rng (rF s14 (rR σ 7) 9) → (0 ≤ (rA s14 1035 y15) ∧ (rA s14 1035 y15) < 50000) ∧ rng (((4096 * (rF s14 (rR σ 7) 9)) + y15) - x1) ∧ (inv_X14_line_206 σ x1 x2 (sA s14 (1000 * ((rR σ 7) + 1) + 4) (rA s14 1035 y15) (((4096 * (rF s14 (rR σ 7) 9)) + y15) - x1)) y15 x1)))) ∧ (¬ (rA s14 1034 y15) = 4 → (((rA s14 1034 y15) = 6 → (0 ≤ y15 ∧ y15 < 9000) ∧ (rng (rA s14 1035 y15) → (rng (rF s14 (rR σ 7) 9) → (0 ≤ (rA s14 1035 y15) ∧ (rA s14 1035 y15) < 50000) ∧ rng (((4096 * (rF s14 (rR σ 7) 9)) + y15) - x1) ∧ (inv_X14_line_206 σ x1 x2 (sA s14 (1000 * ((rR σ 7) + 1) + 4) (rA s14 1035 y15) (((4096 * (rF s14 (rR σ 7) 9)) + y15) - x1)) y15 x1)))) ∧ (¬ (rA s14 1034 y15) = 6 → (((rA s14 1034 y15) = 7 → (0 ≤ y15 ∧ y15 < 9000) ∧ (rng (rA s14 1035 y15) → (rng (rF s14 (rR σ 7) 9) → (0 ≤ (rA s14 1035 y15) ∧ (rA s14 1035 y15) < 50000) ∧ rng (((4096 * (rF s14 (rR σ 7) 9)) + y15) - x1) ∧ (inv_X14_line_206 σ x1 x2 (sA s14 (1000 * ((rR σ 7) + 1) + 4) (rA s14 1035 y15) (((4096 * (rF s14 (rR σ 7) 9)) + y15) - x1)) y15 x1)))) ∧ (¬ (rA s14 1034 y15) = 7 → Q s14)))))))) ∧ (y15 = x2 → Q s14))))) ∧ (¬ x2 ≤ y15 → pre_X14_isSpace s14 y15 ∧ (∀ (x64 : Int), rng x64 → post_X14_isSpace s14 y15 x64 → ((x64 = 0 → ((y15 = x1 → Q s14) ∧ (¬ y15 = x1 → ((¬ y15 = x2 → (0 ≤ y15 ∧ y15 < 9000) ∧ (rng (rA s14 1034 y15) → (((rA s14 1034 y15) = 4 → (0 ≤ y15 ∧ y15 < 9000) ∧ (rng (rA s14 1035 y15) → (rng (rF s14 (rR σ 7) 9) → (0 ≤ (rA s14 1035 y15) ∧ (rA s14 1035 y15) < 50000) ∧ rng (((4096 * (rF s14 (rR σ 7) 9)) + y15) - x1) ∧ (inv_X14_line_206 σ x1 x2 (sA s14 (1000 * ((rR σ 7) + 1) + 4) (rA s14 1035 y15) (((4096 * (rF s14 (rR σ 7) 9)) + y15) - x1)) y15 x1)))) ∧ (¬ (rA s14 1034 y15) = 4 → (((rA s14 1034 y15) = 6 → (0 ≤ y15 ∧ y15 < 9000) ∧ (rng (rA s14 1035 y15) → (rng (rF s14 (rR σ 7) 9) → (0 ≤ (rA s14 1035 y15) ∧ (rA s14 1035 y15) < 50000) ∧ rng (((4096 * (rF s14 (rR σ 7) 9)) + y15) - x1) ∧ (inv_X14_line_206 σ x1 x2 (sA s14 (1000 * ((rR σ 7) + 1) + 4) (rA s14 1035 y15) (((4096 * (rF s14 (rR σ 7) 9)) + y15) - x1)) y15 x1)))) ∧ (¬ (rA s14 1034 y15) = 6 → (((rA s14 1034 y15) = 7 → (0 ≤ y15 ∧ y15 < 9000) ∧ (rng (rA s14 1035 y15) → (rng (rF s14 (rR σ 7) 9) → (0 ≤ (rA s14 1035 y15) ∧ (rA s14 1035 y15) < 50000) ∧ rng (((4096 * (rF s14 (rR σ 7) 9)) + y15) - x1) ∧ (inv_X14_line_206 σ x1 x2 (sA s14 (1000 * ((rR σ 7) + 1) + 4) (rA s14 1035 y15) (((4096 * (rF s14 (rR σ 7) 9)) + y15) - x1)) y15 x1)))) ∧ (¬ (rA s14 1034 y15) = 7 → Q s14)))))))) ∧ (y15 = x2 → Q s14))))) ∧ (¬ x64 = 0 → rng (y15 + 1) ∧ (inv_X14_line_104 σ x1 x2 s14 (y15 + 1) ∧ (mu_X14_line_104 σ x1 x2 s14 (y15 + 1)) < (mu_X14_line_104 σ x1 x2 s14 y15))))))))
def VC_X14_line_104m (σ : rS) (x1 : Int) (x2 : Int) : Prop := ∀ (s14 : rS) (y15 : Int), rWF s14 → rng y15 → (WNp σ → WNp s14) → rR s14 7 = rR σ 7 → rF s14 0 38 = rF σ 0 38 → (∀ i, rA s14 1034 i = rA σ 1034 i) → inv_X14_line_104 σ x1 x2 s14 y15 → 0 < (mu_X14_line_104 σ x1 x2 s14 y15)
def VC_X14_line_60 (σ : rS) (x1 : Int) (x2 : Int) (Q : rS → Prop) : Prop := ∀ (s210 : rS) (y211 : Int), rWF s210 → rng y211 → (WNp σ → WNp s210) → rR s210 7 = rR σ 7 → rF s210 0 38 = rF σ 0 38 → (∀ i, rA s210 1034 i = rA σ 1034 i) → inv_X14_line_60 σ x1 x2 s210 y211 → (((x2 ≤ y211 → (rng (rF s210 0 38) → (((rF s210 0 38) ≤ x2 → Q s210) ∧ (¬ (rF s210 0 38) ≤ x2 → (0 ≤ x2 ∧ x2 < 9000) ∧ Q (sA s210 1037 x2 (inar .boolean 1)))))) ∧ (¬ x2 ≤ y211 → pre_X14_isSpace s210 y211 ∧ (∀ (x216 : Int), rng x216 → post_X14_isSpace s210 y211 x216 → (0 ≤ y211 ∧ y211 < 9000) ∧ rng (y211 + 1) ∧ (inv_X14_line_60 σ x1 x2 (sA s210 1037 y211 (inar .boolean x216)) (y211 + 1) ∧ (mu_X14_line_60 σ x1 x2 (sA s210 1037 y211 (inar .boolean x216)) (y211 + 1)) < (mu_X14_line_60 σ x1 x2 s210 y211))))))
def VC_X14_line_60m (σ : rS) (x1 : Int) (x2 : Int) : Prop := ∀ (s210 : rS) (y211 : Int), rWF s210 → rng y211 → (WNp σ → WNp s210) → rR s210 7 = rR σ 7 → rF s210 0 38 = rF σ 0 38 → (∀ i, rA s210 1034 i = rA σ 1034 i) → inv_X14_line_60 σ x1 x2 s210 y211 → 0 < (mu_X14_line_60 σ x1 x2 s210 y211)
def VC_X14_line_8 (σ : rS) (x1 : Int) (x2 : Int) (Q : rS → Prop) : Prop := ∀ (s10 : rS) (y11 : Int) (y12 : Int) (y13 : Int), rWF s10 → rng y11 → rng y12 → rng y13 → (WNp σ → WNp s10) → rR s10 7 = rR σ 7 → rF s10 0 38 = rF σ 0 38 → (∀ i, rA s10 1034 i = rA σ 1034 i) → inv_X14_line_8 σ x1 x2 s10 y11 y12 y13 → (((x2 ≤ y13 → ((¬ y11 = 1 → (inv_X14_line_104 σ x1 x2 s10 x1)) ∧ (y11 = 1 → ((¬ y12 = 0 → (inv_X14_line_104 σ x1 x2 s10 x1)) ∧ (y12 = 0 → (inv_X14_line_60 σ x1 x2 s10 x1)))))) ∧ (¬ x2 ≤ y13 → pre_X14_isLineTag s10 y13 ∧ (∀ (x222 : Int), rng x222 → post_X14_isLineTag s10 y13 x222 → ((x222 = 0 → pre_X14_isSpace s10 y13 ∧ (∀ (x225 : Int), rng x225 → post_X14_isSpace s10 y13 x225 → ((¬ x225 = 0 → rng (y13 + 1) ∧ (inv_X14_line_8 σ x1 x2 s10 y11 y12 (y13 + 1) ∧ (mu_X14_line_8 σ x1 x2 s10 y11 y12 (y13 + 1)) < (mu_X14_line_8 σ x1 x2 s10 y11 y12 y13))) ∧ (x225 = 0 → rng (y12 + 1) ∧ rng (y13 + 1) ∧ (inv_X14_line_8 σ x1 x2 s10 y11 (y12 + 1) (y13 + 1) ∧ (mu_X14_line_8 σ x1 x2 s10 y11 (y12 + 1) (y13 + 1)) < (mu_X14_line_8 σ x1 x2 s10 y11 y12 y13)))))) ∧ (¬ x222 = 0 → rng (y11 + 1) ∧ rng (y13 + 1) ∧ (inv_X14_line_8 σ x1 x2 s10 (y11 + 1) y12 (y13 + 1) ∧ (mu_X14_line_8 σ x1 x2 s10 (y11 + 1) y12 (y13 + 1)) < (mu_X14_line_8 σ x1 x2 s10 y11 y12 y13))))))))
def VC_X14_line_8m (σ : rS) (x1 : Int) (x2 : Int) : Prop := ∀ (s10 : rS) (y11 : Int) (y12 : Int) (y13 : Int), rWF s10 → rng y11 → rng y12 → rng y13 → (WNp σ → WNp s10) → rR s10 7 = rR σ 7 → rF s10 0 38 = rF σ 0 38 → (∀ i, rA s10 1034 i = rA σ 1034 i) → inv_X14_line_8 σ x1 x2 s10 y11 y12 y13 → 0 < (mu_X14_line_8 σ x1 x2 s10 y11 y12 y13)
set_option maxHeartbeats 400000 in
theorem vX14_line (σ : rS) (x1 : Int) (x2 : Int) (hwf : rWF σ) (hx1 : rng x1) (hx2 : rng x2) (hp : pre_X14_line σ x1 x2) : VC_X14_line σ x1 x2 (post_X14_line σ x1 x2) := by
  simp only [VC_X14_line, pre_X14_line, post_X14_line, inv_X14_line_8, inv_X14_line_60, inv_X14_line_104, inv_X14_line_206, mu_X14_line_8, mu_X14_line_60, mu_X14_line_104, mu_X14_line_206, pre_X14_isSpace, pre_X14_isLineTag, post_X14_isSpace, post_X14_isLineTag, WNp, rng, rfk, rNMp, rF_sF, rF_sA, rF_sL, rF_sR, rA_sA, rA_sF, rA_sL, rA_sR, rR_sF, rR_sA, rR_sL, rR_sR, reduceIte, and_true, true_and, and_false, false_and, and_self, WNp_sL, WNp_sF0, WNp_sF3, WNp_sF10, WNp_sF11, WNp_sF12, WNp_sF13, WNp_sF14, WNp_sF16, WNp_sF17, WNp_sF18, WNp_sF19, WNp_sF21, WNp_sF22, WNp_sF23, WNp_sF24, WNp_sF25, WNp_sF28, WNp_sF29, WNp_sF30, WNp_sF31, WNp_sF32, WNp_sF33, WNp_sF39, WNp_sF41, WNp_sF42, WNp_sF43, WNp_sF44, WNp_sF45, WNp_sF60, WNp_sF65, WNp_sF66, WNp_sF67, WNp_sF68, WNp_sF70, WNp_sF71, WNp_sF72, WNp_sF73, WNp_sF74, WNp_sF80, WNp_sF81, WNp_sF82, WNp_sF83, WNp_sF88, WNp_sF92, WNp_sF94, WNp_sF96, WNp_sF97, WNp_sF98, WNp_sF99, WNp_sF100, WNp_sF101, WNp_sF103, WNp_sF104, WNp_sF112, WNp_sF113, WNp_sF118, WNp_sF119, WNp_sF122, WNp_sF123, WNp_sF135, WNp_sF137, WNp_sA1, WNp_sA2, WNp_sA5, WNp_sA20, WNp_sA26, WNp_sA27, WNp_sA37, WNp_sA40, WNp_sA46, WNp_sA47, WNp_sA48, WNp_sA49, WNp_sA50, WNp_sA51, WNp_sA52, WNp_sA53, WNp_sA54, WNp_sA55, WNp_sA56, WNp_sA57, WNp_sA58, WNp_sA59, WNp_sA61, WNp_sA62, WNp_sA63, WNp_sA64, WNp_sA69, WNp_sA75, WNp_sA76, WNp_sA77, WNp_sA78, WNp_sA79, WNp_sA84, WNp_sA85, WNp_sA86, WNp_sA87, WNp_sA89, WNp_sA90, WNp_sA91, WNp_sA93, WNp_sA102, WNp_sA105, WNp_sA106, WNp_sA107, WNp_sA108, WNp_sA109, WNp_sA110, WNp_sA111, WNp_sA114, WNp_sA115, WNp_sA116, WNp_sA117, WNp_sA120, WNp_sA121, WNp_sA124, WNp_sA125, WNp_sA126, WNp_sA127, WNp_sA128, WNp_sA129, WNp_sA136, WNp_sA138, WNp_gA0, WNp_gA1, WNp_gA2, WNp_gA3, WNp_gA4, WNp_gA5, WNp_gA6, WNp_gA8, WNp_gA10, WNp_gA11, WNp_gA15, WNp_gA16, WNp_gA17, WNp_gA18, WNp_gA19, WNp_gA20, WNp_gA21, WNp_gA22, WNp_gA23, WNp_gA24, WNp_gA25, WNp_gA26, WNp_gA27, WNp_gA29, WNp_gA30, WNp_gA31, WNp_gA33, WNp_gA37, WNp_sF7, WNp_sF9] at *
  (repeat' (first | with_reducible intro _ | with_reducible apply And.intro))
  all_goals (first | assumption | omega | grind (splits := 20) [rNM_sF0])
set_option maxHeartbeats 400000 in
theorem vX14_line_206 (σ : rS) (x1 : Int) (x2 : Int) (hwf : rWF σ) (hx1 : rng x1) (hx2 : rng x2) (hp : pre_X14_line σ x1 x2) : VC_X14_line_206 σ x1 x2 (post_X14_line σ x1 x2) := by
  simp only [VC_X14_line_206, pre_X14_line, post_X14_line, inv_X14_line_8, inv_X14_line_60, inv_X14_line_104, inv_X14_line_206, mu_X14_line_8, mu_X14_line_60, mu_X14_line_104, mu_X14_line_206, pre_X14_isSpace, pre_X14_isLineTag, post_X14_isSpace, post_X14_isLineTag, WNp, rng, rfk, rNMp, rF_sF, rF_sA, rF_sL, rF_sR, rA_sA, rA_sF, rA_sL, rA_sR, rR_sF, rR_sA, rR_sL, rR_sR, reduceIte, and_true, true_and, and_false, false_and, and_self, WNp_sL, WNp_sF0, WNp_sF3, WNp_sF10, WNp_sF11, WNp_sF12, WNp_sF13, WNp_sF14, WNp_sF16, WNp_sF17, WNp_sF18, WNp_sF19, WNp_sF21, WNp_sF22, WNp_sF23, WNp_sF24, WNp_sF25, WNp_sF28, WNp_sF29, WNp_sF30, WNp_sF31, WNp_sF32, WNp_sF33, WNp_sF39, WNp_sF41, WNp_sF42, WNp_sF43, WNp_sF44, WNp_sF45, WNp_sF60, WNp_sF65, WNp_sF66, WNp_sF67, WNp_sF68, WNp_sF70, WNp_sF71, WNp_sF72, WNp_sF73, WNp_sF74, WNp_sF80, WNp_sF81, WNp_sF82, WNp_sF83, WNp_sF88, WNp_sF92, WNp_sF94, WNp_sF96, WNp_sF97, WNp_sF98, WNp_sF99, WNp_sF100, WNp_sF101, WNp_sF103, WNp_sF104, WNp_sF112, WNp_sF113, WNp_sF118, WNp_sF119, WNp_sF122, WNp_sF123, WNp_sF135, WNp_sF137, WNp_sA1, WNp_sA2, WNp_sA5, WNp_sA20, WNp_sA26, WNp_sA27, WNp_sA37, WNp_sA40, WNp_sA46, WNp_sA47, WNp_sA48, WNp_sA49, WNp_sA50, WNp_sA51, WNp_sA52, WNp_sA53, WNp_sA54, WNp_sA55, WNp_sA56, WNp_sA57, WNp_sA58, WNp_sA59, WNp_sA61, WNp_sA62, WNp_sA63, WNp_sA64, WNp_sA69, WNp_sA75, WNp_sA76, WNp_sA77, WNp_sA78, WNp_sA79, WNp_sA84, WNp_sA85, WNp_sA86, WNp_sA87, WNp_sA89, WNp_sA90, WNp_sA91, WNp_sA93, WNp_sA102, WNp_sA105, WNp_sA106, WNp_sA107, WNp_sA108, WNp_sA109, WNp_sA110, WNp_sA111, WNp_sA114, WNp_sA115, WNp_sA116, WNp_sA117, WNp_sA120, WNp_sA121, WNp_sA124, WNp_sA125, WNp_sA126, WNp_sA127, WNp_sA128, WNp_sA129, WNp_sA136, WNp_sA138, WNp_gA0, WNp_gA1, WNp_gA2, WNp_gA3, WNp_gA4, WNp_gA5, WNp_gA6, WNp_gA8, WNp_gA10, WNp_gA11, WNp_gA15, WNp_gA16, WNp_gA17, WNp_gA18, WNp_gA19, WNp_gA20, WNp_gA21, WNp_gA22, WNp_gA23, WNp_gA24, WNp_gA25, WNp_gA26, WNp_gA27, WNp_gA29, WNp_gA30, WNp_gA31, WNp_gA33, WNp_gA37, WNp_sF7, WNp_sF9] at *
  (repeat' (first | with_reducible intro _ | with_reducible apply And.intro))
  all_goals (first | assumption | omega | grind (splits := 20) [rNM_sF0])
set_option maxHeartbeats 400000 in
theorem vX14_line_206m (σ : rS) (x1 : Int) (x2 : Int) (hwf : rWF σ) (hx1 : rng x1) (hx2 : rng x2) (hp : pre_X14_line σ x1 x2) : VC_X14_line_206m σ x1 x2 := by
  simp only [VC_X14_line_206m, pre_X14_line, post_X14_line, inv_X14_line_8, inv_X14_line_60, inv_X14_line_104, inv_X14_line_206, mu_X14_line_8, mu_X14_line_60, mu_X14_line_104, mu_X14_line_206, pre_X14_isSpace, pre_X14_isLineTag, post_X14_isSpace, post_X14_isLineTag, WNp, rng, rfk, rNMp, rF_sF, rF_sA, rF_sL, rF_sR, rA_sA, rA_sF, rA_sL, rA_sR, rR_sF, rR_sA, rR_sL, rR_sR, reduceIte, and_true, true_and, and_false, false_and, and_self, WNp_sL, WNp_sF0, WNp_sF3, WNp_sF10, WNp_sF11, WNp_sF12, WNp_sF13, WNp_sF14, WNp_sF16, WNp_sF17, WNp_sF18, WNp_sF19, WNp_sF21, WNp_sF22, WNp_sF23, WNp_sF24, WNp_sF25, WNp_sF28, WNp_sF29, WNp_sF30, WNp_sF31, WNp_sF32, WNp_sF33, WNp_sF39, WNp_sF41, WNp_sF42, WNp_sF43, WNp_sF44, WNp_sF45, WNp_sF60, WNp_sF65, WNp_sF66, WNp_sF67, WNp_sF68, WNp_sF70, WNp_sF71, WNp_sF72, WNp_sF73, WNp_sF74, WNp_sF80, WNp_sF81, WNp_sF82, WNp_sF83, WNp_sF88, WNp_sF92, WNp_sF94, WNp_sF96, WNp_sF97, WNp_sF98, WNp_sF99, WNp_sF100, WNp_sF101, WNp_sF103, WNp_sF104, WNp_sF112, WNp_sF113, WNp_sF118, WNp_sF119, WNp_sF122, WNp_sF123, WNp_sF135, WNp_sF137, WNp_sA1, WNp_sA2, WNp_sA5, WNp_sA20, WNp_sA26, WNp_sA27, WNp_sA37, WNp_sA40, WNp_sA46, WNp_sA47, WNp_sA48, WNp_sA49, WNp_sA50, WNp_sA51, WNp_sA52, WNp_sA53, WNp_sA54, WNp_sA55, WNp_sA56, WNp_sA57, WNp_sA58, WNp_sA59, WNp_sA61, WNp_sA62, WNp_sA63, WNp_sA64, WNp_sA69, WNp_sA75, WNp_sA76, WNp_sA77, WNp_sA78, WNp_sA79, WNp_sA84, WNp_sA85, WNp_sA86, WNp_sA87, WNp_sA89, WNp_sA90, WNp_sA91, WNp_sA93, WNp_sA102, WNp_sA105, WNp_sA106, WNp_sA107, WNp_sA108, WNp_sA109, WNp_sA110, WNp_sA111, WNp_sA114, WNp_sA115, WNp_sA116, WNp_sA117, WNp_sA120, WNp_sA121, WNp_sA124, WNp_sA125, WNp_sA126, WNp_sA127, WNp_sA128, WNp_sA129, WNp_sA136, WNp_sA138, WNp_gA0, WNp_gA1, WNp_gA2, WNp_gA3, WNp_gA4, WNp_gA5, WNp_gA6, WNp_gA8, WNp_gA10, WNp_gA11, WNp_gA15, WNp_gA16, WNp_gA17, WNp_gA18, WNp_gA19, WNp_gA20, WNp_gA21, WNp_gA22, WNp_gA23, WNp_gA24, WNp_gA25, WNp_gA26, WNp_gA27, WNp_gA29, WNp_gA30, WNp_gA31, WNp_gA33, WNp_gA37, WNp_sF7, WNp_sF9] at *
  (repeat' (first | with_reducible intro _ | with_reducible apply And.intro))
  all_goals (first | assumption | omega | grind (splits := 20) [rNM_sF0])
set_option maxHeartbeats 400000 in
theorem vX14_line_104 (σ : rS) (x1 : Int) (x2 : Int) (hwf : rWF σ) (hx1 : rng x1) (hx2 : rng x2) (hp : pre_X14_line σ x1 x2) : VC_X14_line_104 σ x1 x2 (post_X14_line σ x1 x2) := by
  simp only [VC_X14_line_104, pre_X14_line, post_X14_line, inv_X14_line_8, inv_X14_line_60, inv_X14_line_104, inv_X14_line_206, mu_X14_line_8, mu_X14_line_60, mu_X14_line_104, mu_X14_line_206, pre_X14_isSpace, pre_X14_isLineTag, post_X14_isSpace, post_X14_isLineTag, WNp, rng, rfk, rNMp, rF_sF, rF_sA, rF_sL, rF_sR, rA_sA, rA_sF, rA_sL, rA_sR, rR_sF, rR_sA, rR_sL, rR_sR, reduceIte, and_true, true_and, and_false, false_and, and_self, WNp_sL, WNp_sF0, WNp_sF3, WNp_sF10, WNp_sF11, WNp_sF12, WNp_sF13, WNp_sF14, WNp_sF16, WNp_sF17, WNp_sF18, WNp_sF19, WNp_sF21, WNp_sF22, WNp_sF23, WNp_sF24, WNp_sF25, WNp_sF28, WNp_sF29, WNp_sF30, WNp_sF31, WNp_sF32, WNp_sF33, WNp_sF39, WNp_sF41, WNp_sF42, WNp_sF43, WNp_sF44, WNp_sF45, WNp_sF60, WNp_sF65, WNp_sF66, WNp_sF67, WNp_sF68, WNp_sF70, WNp_sF71, WNp_sF72, WNp_sF73, WNp_sF74, WNp_sF80, WNp_sF81, WNp_sF82, WNp_sF83, WNp_sF88, WNp_sF92, WNp_sF94, WNp_sF96, WNp_sF97, WNp_sF98, WNp_sF99, WNp_sF100, WNp_sF101, WNp_sF103, WNp_sF104, WNp_sF112, WNp_sF113, WNp_sF118, WNp_sF119, WNp_sF122, WNp_sF123, WNp_sF135, WNp_sF137, WNp_sA1, WNp_sA2, WNp_sA5, WNp_sA20, WNp_sA26, WNp_sA27, WNp_sA37, WNp_sA40, WNp_sA46, WNp_sA47, WNp_sA48, WNp_sA49, WNp_sA50, WNp_sA51, WNp_sA52, WNp_sA53, WNp_sA54, WNp_sA55, WNp_sA56, WNp_sA57, WNp_sA58, WNp_sA59, WNp_sA61, WNp_sA62, WNp_sA63, WNp_sA64, WNp_sA69, WNp_sA75, WNp_sA76, WNp_sA77, WNp_sA78, WNp_sA79, WNp_sA84, WNp_sA85, WNp_sA86, WNp_sA87, WNp_sA89, WNp_sA90, WNp_sA91, WNp_sA93, WNp_sA102, WNp_sA105, WNp_sA106, WNp_sA107, WNp_sA108, WNp_sA109, WNp_sA110, WNp_sA111, WNp_sA114, WNp_sA115, WNp_sA116, WNp_sA117, WNp_sA120, WNp_sA121, WNp_sA124, WNp_sA125, WNp_sA126, WNp_sA127, WNp_sA128, WNp_sA129, WNp_sA136, WNp_sA138, WNp_gA0, WNp_gA1, WNp_gA2, WNp_gA3, WNp_gA4, WNp_gA5, WNp_gA6, WNp_gA8, WNp_gA10, WNp_gA11, WNp_gA15, WNp_gA16, WNp_gA17, WNp_gA18, WNp_gA19, WNp_gA20, WNp_gA21, WNp_gA22, WNp_gA23, WNp_gA24, WNp_gA25, WNp_gA26, WNp_gA27, WNp_gA29, WNp_gA30, WNp_gA31, WNp_gA33, WNp_gA37, WNp_sF7, WNp_sF9] at *
  (repeat' (first | with_reducible intro _ | with_reducible apply And.intro))
  all_goals (first | assumption | omega | grind (splits := 20) [rNM_sF0])
set_option maxHeartbeats 400000 in
theorem vX14_line_104m (σ : rS) (x1 : Int) (x2 : Int) (hwf : rWF σ) (hx1 : rng x1) (hx2 : rng x2) (hp : pre_X14_line σ x1 x2) : VC_X14_line_104m σ x1 x2 := by
  simp only [VC_X14_line_104m, pre_X14_line, post_X14_line, inv_X14_line_8, inv_X14_line_60, inv_X14_line_104, inv_X14_line_206, mu_X14_line_8, mu_X14_line_60, mu_X14_line_104, mu_X14_line_206, pre_X14_isSpace, pre_X14_isLineTag, post_X14_isSpace, post_X14_isLineTag, WNp, rng, rfk, rNMp, rF_sF, rF_sA, rF_sL, rF_sR, rA_sA, rA_sF, rA_sL, rA_sR, rR_sF, rR_sA, rR_sL, rR_sR, reduceIte, and_true, true_and, and_false, false_and, and_self, WNp_sL, WNp_sF0, WNp_sF3, WNp_sF10, WNp_sF11, WNp_sF12, WNp_sF13, WNp_sF14, WNp_sF16, WNp_sF17, WNp_sF18, WNp_sF19, WNp_sF21, WNp_sF22, WNp_sF23, WNp_sF24, WNp_sF25, WNp_sF28, WNp_sF29, WNp_sF30, WNp_sF31, WNp_sF32, WNp_sF33, WNp_sF39, WNp_sF41, WNp_sF42, WNp_sF43, WNp_sF44, WNp_sF45, WNp_sF60, WNp_sF65, WNp_sF66, WNp_sF67, WNp_sF68, WNp_sF70, WNp_sF71, WNp_sF72, WNp_sF73, WNp_sF74, WNp_sF80, WNp_sF81, WNp_sF82, WNp_sF83, WNp_sF88, WNp_sF92, WNp_sF94, WNp_sF96, WNp_sF97, WNp_sF98, WNp_sF99, WNp_sF100, WNp_sF101, WNp_sF103, WNp_sF104, WNp_sF112, WNp_sF113, WNp_sF118, WNp_sF119, WNp_sF122, WNp_sF123, WNp_sF135, WNp_sF137, WNp_sA1, WNp_sA2, WNp_sA5, WNp_sA20, WNp_sA26, WNp_sA27, WNp_sA37, WNp_sA40, WNp_sA46, WNp_sA47, WNp_sA48, WNp_sA49, WNp_sA50, WNp_sA51, WNp_sA52, WNp_sA53, WNp_sA54, WNp_sA55, WNp_sA56, WNp_sA57, WNp_sA58, WNp_sA59, WNp_sA61, WNp_sA62, WNp_sA63, WNp_sA64, WNp_sA69, WNp_sA75, WNp_sA76, WNp_sA77, WNp_sA78, WNp_sA79, WNp_sA84, WNp_sA85, WNp_sA86, WNp_sA87, WNp_sA89, WNp_sA90, WNp_sA91, WNp_sA93, WNp_sA102, WNp_sA105, WNp_sA106, WNp_sA107, WNp_sA108, WNp_sA109, WNp_sA110, WNp_sA111, WNp_sA114, WNp_sA115, WNp_sA116, WNp_sA117, WNp_sA120, WNp_sA121, WNp_sA124, WNp_sA125, WNp_sA126, WNp_sA127, WNp_sA128, WNp_sA129, WNp_sA136, WNp_sA138, WNp_gA0, WNp_gA1, WNp_gA2, WNp_gA3, WNp_gA4, WNp_gA5, WNp_gA6, WNp_gA8, WNp_gA10, WNp_gA11, WNp_gA15, WNp_gA16, WNp_gA17, WNp_gA18, WNp_gA19, WNp_gA20, WNp_gA21, WNp_gA22, WNp_gA23, WNp_gA24, WNp_gA25, WNp_gA26, WNp_gA27, WNp_gA29, WNp_gA30, WNp_gA31, WNp_gA33, WNp_gA37, WNp_sF7, WNp_sF9] at *
  (repeat' (first | with_reducible intro _ | with_reducible apply And.intro))
  all_goals (first | assumption | omega | grind (splits := 20) [rNM_sF0])
set_option maxHeartbeats 400000 in
theorem vX14_line_60 (σ : rS) (x1 : Int) (x2 : Int) (hwf : rWF σ) (hx1 : rng x1) (hx2 : rng x2) (hp : pre_X14_line σ x1 x2) : VC_X14_line_60 σ x1 x2 (post_X14_line σ x1 x2) := by
  simp only [VC_X14_line_60, pre_X14_line, post_X14_line, inv_X14_line_8, inv_X14_line_60, inv_X14_line_104, inv_X14_line_206, mu_X14_line_8, mu_X14_line_60, mu_X14_line_104, mu_X14_line_206, pre_X14_isSpace, pre_X14_isLineTag, post_X14_isSpace, post_X14_isLineTag, WNp, rng, rfk, rNMp, rF_sF, rF_sA, rF_sL, rF_sR, rA_sA, rA_sF, rA_sL, rA_sR, rR_sF, rR_sA, rR_sL, rR_sR, reduceIte, and_true, true_and, and_false, false_and, and_self, WNp_sL, WNp_sF0, WNp_sF3, WNp_sF10, WNp_sF11, WNp_sF12, WNp_sF13, WNp_sF14, WNp_sF16, WNp_sF17, WNp_sF18, WNp_sF19, WNp_sF21, WNp_sF22, WNp_sF23, WNp_sF24, WNp_sF25, WNp_sF28, WNp_sF29, WNp_sF30, WNp_sF31, WNp_sF32, WNp_sF33, WNp_sF39, WNp_sF41, WNp_sF42, WNp_sF43, WNp_sF44, WNp_sF45, WNp_sF60, WNp_sF65, WNp_sF66, WNp_sF67, WNp_sF68, WNp_sF70, WNp_sF71, WNp_sF72, WNp_sF73, WNp_sF74, WNp_sF80, WNp_sF81, WNp_sF82, WNp_sF83, WNp_sF88, WNp_sF92, WNp_sF94, WNp_sF96, WNp_sF97, WNp_sF98, WNp_sF99, WNp_sF100, WNp_sF101, WNp_sF103, WNp_sF104, WNp_sF112, WNp_sF113, WNp_sF118, WNp_sF119, WNp_sF122, WNp_sF123, WNp_sF135, WNp_sF137, WNp_sA1, WNp_sA2, WNp_sA5, WNp_sA20, WNp_sA26, WNp_sA27, WNp_sA37, WNp_sA40, WNp_sA46, WNp_sA47, WNp_sA48, WNp_sA49, WNp_sA50, WNp_sA51, WNp_sA52, WNp_sA53, WNp_sA54, WNp_sA55, WNp_sA56, WNp_sA57, WNp_sA58, WNp_sA59, WNp_sA61, WNp_sA62, WNp_sA63, WNp_sA64, WNp_sA69, WNp_sA75, WNp_sA76, WNp_sA77, WNp_sA78, WNp_sA79, WNp_sA84, WNp_sA85, WNp_sA86, WNp_sA87, WNp_sA89, WNp_sA90, WNp_sA91, WNp_sA93, WNp_sA102, WNp_sA105, WNp_sA106, WNp_sA107, WNp_sA108, WNp_sA109, WNp_sA110, WNp_sA111, WNp_sA114, WNp_sA115, WNp_sA116, WNp_sA117, WNp_sA120, WNp_sA121, WNp_sA124, WNp_sA125, WNp_sA126, WNp_sA127, WNp_sA128, WNp_sA129, WNp_sA136, WNp_sA138, WNp_gA0, WNp_gA1, WNp_gA2, WNp_gA3, WNp_gA4, WNp_gA5, WNp_gA6, WNp_gA8, WNp_gA10, WNp_gA11, WNp_gA15, WNp_gA16, WNp_gA17, WNp_gA18, WNp_gA19, WNp_gA20, WNp_gA21, WNp_gA22, WNp_gA23, WNp_gA24, WNp_gA25, WNp_gA26, WNp_gA27, WNp_gA29, WNp_gA30, WNp_gA31, WNp_gA33, WNp_gA37, WNp_sF7, WNp_sF9] at *
  (repeat' (first | with_reducible intro _ | with_reducible apply And.intro))
  all_goals (first | assumption | omega | grind (splits := 20) [rNM_sF0])
set_option maxHeartbeats 400000 in
theorem vX14_line_60m (σ : rS) (x1 : Int) (x2 : Int) (hwf : rWF σ) (hx1 : rng x1) (hx2 : rng x2) (hp : pre_X14_line σ x1 x2) : VC_X14_line_60m σ x1 x2 := by
  simp only [VC_X14_line_60m, pre_X14_line, post_X14_line, inv_X14_line_8, inv_X14_line_60, inv_X14_line_104, inv_X14_line_206, mu_X14_line_8, mu_X14_line_60, mu_X14_line_104, mu_X14_line_206, pre_X14_isSpace, pre_X14_isLineTag, post_X14_isSpace, post_X14_isLineTag, WNp, rng, rfk, rNMp, rF_sF, rF_sA, rF_sL, rF_sR, rA_sA, rA_sF, rA_sL, rA_sR, rR_sF, rR_sA, rR_sL, rR_sR, reduceIte, and_true, true_and, and_false, false_and, and_self, WNp_sL, WNp_sF0, WNp_sF3, WNp_sF10, WNp_sF11, WNp_sF12, WNp_sF13, WNp_sF14, WNp_sF16, WNp_sF17, WNp_sF18, WNp_sF19, WNp_sF21, WNp_sF22, WNp_sF23, WNp_sF24, WNp_sF25, WNp_sF28, WNp_sF29, WNp_sF30, WNp_sF31, WNp_sF32, WNp_sF33, WNp_sF39, WNp_sF41, WNp_sF42, WNp_sF43, WNp_sF44, WNp_sF45, WNp_sF60, WNp_sF65, WNp_sF66, WNp_sF67, WNp_sF68, WNp_sF70, WNp_sF71, WNp_sF72, WNp_sF73, WNp_sF74, WNp_sF80, WNp_sF81, WNp_sF82, WNp_sF83, WNp_sF88, WNp_sF92, WNp_sF94, WNp_sF96, WNp_sF97, WNp_sF98, WNp_sF99, WNp_sF100, WNp_sF101, WNp_sF103, WNp_sF104, WNp_sF112, WNp_sF113, WNp_sF118, WNp_sF119, WNp_sF122, WNp_sF123, WNp_sF135, WNp_sF137, WNp_sA1, WNp_sA2, WNp_sA5, WNp_sA20, WNp_sA26, WNp_sA27, WNp_sA37, WNp_sA40, WNp_sA46, WNp_sA47, WNp_sA48, WNp_sA49, WNp_sA50, WNp_sA51, WNp_sA52, WNp_sA53, WNp_sA54, WNp_sA55, WNp_sA56, WNp_sA57, WNp_sA58, WNp_sA59, WNp_sA61, WNp_sA62, WNp_sA63, WNp_sA64, WNp_sA69, WNp_sA75, WNp_sA76, WNp_sA77, WNp_sA78, WNp_sA79, WNp_sA84, WNp_sA85, WNp_sA86, WNp_sA87, WNp_sA89, WNp_sA90, WNp_sA91, WNp_sA93, WNp_sA102, WNp_sA105, WNp_sA106, WNp_sA107, WNp_sA108, WNp_sA109, WNp_sA110, WNp_sA111, WNp_sA114, WNp_sA115, WNp_sA116, WNp_sA117, WNp_sA120, WNp_sA121, WNp_sA124, WNp_sA125, WNp_sA126, WNp_sA127, WNp_sA128, WNp_sA129, WNp_sA136, WNp_sA138, WNp_gA0, WNp_gA1, WNp_gA2, WNp_gA3, WNp_gA4, WNp_gA5, WNp_gA6, WNp_gA8, WNp_gA10, WNp_gA11, WNp_gA15, WNp_gA16, WNp_gA17, WNp_gA18, WNp_gA19, WNp_gA20, WNp_gA21, WNp_gA22, WNp_gA23, WNp_gA24, WNp_gA25, WNp_gA26, WNp_gA27, WNp_gA29, WNp_gA30, WNp_gA31, WNp_gA33, WNp_gA37, WNp_sF7, WNp_sF9] at *
  (repeat' (first | with_reducible intro _ | with_reducible apply And.intro))
  all_goals (first | assumption | omega | grind (splits := 20) [rNM_sF0])
set_option maxHeartbeats 400000 in
theorem vX14_line_8 (σ : rS) (x1 : Int) (x2 : Int) (hwf : rWF σ) (hx1 : rng x1) (hx2 : rng x2) (hp : pre_X14_line σ x1 x2) : VC_X14_line_8 σ x1 x2 (post_X14_line σ x1 x2) := by
  simp only [VC_X14_line_8, pre_X14_line, post_X14_line, inv_X14_line_8, inv_X14_line_60, inv_X14_line_104, inv_X14_line_206, mu_X14_line_8, mu_X14_line_60, mu_X14_line_104, mu_X14_line_206, pre_X14_isSpace, pre_X14_isLineTag, post_X14_isSpace, post_X14_isLineTag, WNp, rng, rfk, rNMp, rF_sF, rF_sA, rF_sL, rF_sR, rA_sA, rA_sF, rA_sL, rA_sR, rR_sF, rR_sA, rR_sL, rR_sR, reduceIte, and_true, true_and, and_false, false_and, and_self, WNp_sL, WNp_sF0, WNp_sF3, WNp_sF10, WNp_sF11, WNp_sF12, WNp_sF13, WNp_sF14, WNp_sF16, WNp_sF17, WNp_sF18, WNp_sF19, WNp_sF21, WNp_sF22, WNp_sF23, WNp_sF24, WNp_sF25, WNp_sF28, WNp_sF29, WNp_sF30, WNp_sF31, WNp_sF32, WNp_sF33, WNp_sF39, WNp_sF41, WNp_sF42, WNp_sF43, WNp_sF44, WNp_sF45, WNp_sF60, WNp_sF65, WNp_sF66, WNp_sF67, WNp_sF68, WNp_sF70, WNp_sF71, WNp_sF72, WNp_sF73, WNp_sF74, WNp_sF80, WNp_sF81, WNp_sF82, WNp_sF83, WNp_sF88, WNp_sF92, WNp_sF94, WNp_sF96, WNp_sF97, WNp_sF98, WNp_sF99, WNp_sF100, WNp_sF101, WNp_sF103, WNp_sF104, WNp_sF112, WNp_sF113, WNp_sF118, WNp_sF119, WNp_sF122, WNp_sF123, WNp_sF135, WNp_sF137, WNp_sA1, WNp_sA2, WNp_sA5, WNp_sA20, WNp_sA26, WNp_sA27, WNp_sA37, WNp_sA40, WNp_sA46, WNp_sA47, WNp_sA48, WNp_sA49, WNp_sA50, WNp_sA51, WNp_sA52, WNp_sA53, WNp_sA54, WNp_sA55, WNp_sA56, WNp_sA57, WNp_sA58, WNp_sA59, WNp_sA61, WNp_sA62, WNp_sA63, WNp_sA64, WNp_sA69, WNp_sA75, WNp_sA76, WNp_sA77, WNp_sA78, WNp_sA79, WNp_sA84, WNp_sA85, WNp_sA86, WNp_sA87, WNp_sA89, WNp_sA90, WNp_sA91, WNp_sA93, WNp_sA102, WNp_sA105, WNp_sA106, WNp_sA107, WNp_sA108, WNp_sA109, WNp_sA110, WNp_sA111, WNp_sA114, WNp_sA115, WNp_sA116, WNp_sA117, WNp_sA120, WNp_sA121, WNp_sA124, WNp_sA125, WNp_sA126, WNp_sA127, WNp_sA128, WNp_sA129, WNp_sA136, WNp_sA138, WNp_gA0, WNp_gA1, WNp_gA2, WNp_gA3, WNp_gA4, WNp_gA5, WNp_gA6, WNp_gA8, WNp_gA10, WNp_gA11, WNp_gA15, WNp_gA16, WNp_gA17, WNp_gA18, WNp_gA19, WNp_gA20, WNp_gA21, WNp_gA22, WNp_gA23, WNp_gA24, WNp_gA25, WNp_gA26, WNp_gA27, WNp_gA29, WNp_gA30, WNp_gA31, WNp_gA33, WNp_gA37, WNp_sF7, WNp_sF9] at *
  (repeat' (first | with_reducible intro _ | with_reducible apply And.intro))
  all_goals (first | assumption | omega | grind (splits := 20) [rNM_sF0])
set_option maxHeartbeats 400000 in
theorem vX14_line_8m (σ : rS) (x1 : Int) (x2 : Int) (hwf : rWF σ) (hx1 : rng x1) (hx2 : rng x2) (hp : pre_X14_line σ x1 x2) : VC_X14_line_8m σ x1 x2 := by
  simp only [VC_X14_line_8m, pre_X14_line, post_X14_line, inv_X14_line_8, inv_X14_line_60, inv_X14_line_104, inv_X14_line_206, mu_X14_line_8, mu_X14_line_60, mu_X14_line_104, mu_X14_line_206, pre_X14_isSpace, pre_X14_isLineTag, post_X14_isSpace, post_X14_isLineTag, WNp, rng, rfk, rNMp, rF_sF, rF_sA, rF_sL, rF_sR, rA_sA, rA_sF, rA_sL, rA_sR, rR_sF, rR_sA, rR_sL, rR_sR, reduceIte, and_true, true_and, and_false, false_and, and_self, WNp_sL, WNp_sF0, WNp_sF3, WNp_sF10, WNp_sF11, WNp_sF12, WNp_sF13, WNp_sF14, WNp_sF16, WNp_sF17, WNp_sF18, WNp_sF19, WNp_sF21, WNp_sF22, WNp_sF23, WNp_sF24, WNp_sF25, WNp_sF28, WNp_sF29, WNp_sF30, WNp_sF31, WNp_sF32, WNp_sF33, WNp_sF39, WNp_sF41, WNp_sF42, WNp_sF43, WNp_sF44, WNp_sF45, WNp_sF60, WNp_sF65, WNp_sF66, WNp_sF67, WNp_sF68, WNp_sF70, WNp_sF71, WNp_sF72, WNp_sF73, WNp_sF74, WNp_sF80, WNp_sF81, WNp_sF82, WNp_sF83, WNp_sF88, WNp_sF92, WNp_sF94, WNp_sF96, WNp_sF97, WNp_sF98, WNp_sF99, WNp_sF100, WNp_sF101, WNp_sF103, WNp_sF104, WNp_sF112, WNp_sF113, WNp_sF118, WNp_sF119, WNp_sF122, WNp_sF123, WNp_sF135, WNp_sF137, WNp_sA1, WNp_sA2, WNp_sA5, WNp_sA20, WNp_sA26, WNp_sA27, WNp_sA37, WNp_sA40, WNp_sA46, WNp_sA47, WNp_sA48, WNp_sA49, WNp_sA50, WNp_sA51, WNp_sA52, WNp_sA53, WNp_sA54, WNp_sA55, WNp_sA56, WNp_sA57, WNp_sA58, WNp_sA59, WNp_sA61, WNp_sA62, WNp_sA63, WNp_sA64, WNp_sA69, WNp_sA75, WNp_sA76, WNp_sA77, WNp_sA78, WNp_sA79, WNp_sA84, WNp_sA85, WNp_sA86, WNp_sA87, WNp_sA89, WNp_sA90, WNp_sA91, WNp_sA93, WNp_sA102, WNp_sA105, WNp_sA106, WNp_sA107, WNp_sA108, WNp_sA109, WNp_sA110, WNp_sA111, WNp_sA114, WNp_sA115, WNp_sA116, WNp_sA117, WNp_sA120, WNp_sA121, WNp_sA124, WNp_sA125, WNp_sA126, WNp_sA127, WNp_sA128, WNp_sA129, WNp_sA136, WNp_sA138, WNp_gA0, WNp_gA1, WNp_gA2, WNp_gA3, WNp_gA4, WNp_gA5, WNp_gA6, WNp_gA8, WNp_gA10, WNp_gA11, WNp_gA15, WNp_gA16, WNp_gA17, WNp_gA18, WNp_gA19, WNp_gA20, WNp_gA21, WNp_gA22, WNp_gA23, WNp_gA24, WNp_gA25, WNp_gA26, WNp_gA27, WNp_gA29, WNp_gA30, WNp_gA31, WNp_gA33, WNp_gA37, WNp_sF7, WNp_sF9] at *
  (repeat' (first | with_reducible intro _ | with_reducible apply And.intro))
  all_goals (first | assumption | omega | grind (splits := 20) [rNM_sF0])
theorem wX14_line (l : Launch) (G : zG) (κ : Nat → Nat) (σ : rS) (x1 : Int) (x2 : Int) (hwf : rWF σ) (hx1 : rng x1) (hx2 : rng x2) (Q : rS → Prop) (h : VC_X14_line σ x1 x2 Q) (h_206 : VC_X14_line_206 σ x1 x2 Q) (h_206m : VC_X14_line_206m σ x1 x2) (h_104 : VC_X14_line_104 σ x1 x2 Q) (h_104m : VC_X14_line_104m σ x1 x2) (h_60 : VC_X14_line_60 σ x1 x2 Q) (h_60m : VC_X14_line_60m σ x1 x2) (h_8 : VC_X14_line_8 σ x1 x2 Q) (h_8m : VC_X14_line_8m σ x1 x2) : rMv l G κ yX14_line cX14_line 9 2 21 [.ref (κ 0), iv x1, iv x2] σ (fun s => rKeep 0 0x200 0x2000000000 0x110 0 σ s ∧ Q s) := by
  refine zMv.intro (by decide +kernel) (Nat.le_of_ble_eq_true rfl) (fun X hC hR => ?_)
  obtain ⟨g0, h⟩ := h
  refine z_iconst hC (pc := 0) (v := Int32.ofInt 0) dX14_line_0 (by decide) ?_
  refine z_istore_n hC (pc := 1) (lv' := [(3, iv 0), (0, .ref (κ 0)), (1, iv x1), (2, iv x2)]) dX14_line_1 rfl (by decide) rfl ?_
  refine z_iconst hC (pc := 2) (v := Int32.ofInt 0) dX14_line_2 (by decide) ?_
  refine z_istore hC (pc := 3) (lv' := [(4, iv 0), (3, iv 0), (0, .ref (κ 0)), (1, iv x1), (2, iv x2)]) dX14_line_3 (by decide) rfl ?_
  refine z_iload_n hC (pc := 5) 3 dX14_line_5 rfl rfl ?_
  refine z_istore hC (pc := 6) (lv' := [(5, iv x1), (4, iv 0), (3, iv 0), (0, .ref (κ 0)), (1, iv x1), (2, iv x2)]) dX14_line_6 (by decide) rfl ?_
  have j8 : ∀ (d8 : Nat), ∀ (s10 : rS) (y11 : Int) (y12 : Int) (y13 : Int), rWF s10 → rng y11 → rng y12 → rng y13 → rKeep 0 0x200 0x2000000000 0x110 0 σ s10 → inv_X14_line_8 σ x1 x2 s10 y11 y12 y13 → (mu_X14_line_8 σ x1 x2 s10 y11 y12 y13) ≤ d8 → zS X G 9 (rW G κ s10) [(0, .ref (κ 0)), (1, iv x1), (2, iv x2), (3, iv y11), (4, iv y12), (5, iv y13)] 0 0 8 [] := by
    intro d8
    induction d8 with
    | zero =>
      intro s10 y11 y12 y13 Ws10 hy11 hy12 hy13 kJ hI hmu
      exact absurd hmu (by have := h_8m  s10 y11 y12 y13 Ws10 hy11 hy12 hy13 (WNp.keep kJ rfl rfl rfl rfl) (kJ.R rfl) (kJ.F rfl) (fun i => kJ.A (f := 34) (by decide) rfl) hI; omega)
    | succ d8 ih8 =>
      intro s10 y11 y12 y13 Ws10 hy11 hy12 hy13 kJ hI hmu8
      have h := h_8  s10 y11 y12 y13 Ws10 hy11 hy12 hy13 (WNp.keep kJ rfl rfl rfl rfl) (kJ.R rfl) (kJ.F rfl) (fun i => kJ.A (f := 34) (by decide) rfl) hI
      refine z_iload hC (pc := 8) 5 dX14_line_8 rfl ?_
      refine z_iload_n hC (pc := 10) 2 dX14_line_10 rfl rfl ?_
      obtain ⟨hT, hF⟩ := h
      refine y_icmp_ge hC (pc := 11) 47 hy13 hx2 dX14_line_11 (by decide) (fun c => ?_) (fun c => ?_)
      · have h := hT c
        refine z_iload_n hC (pc := 47) 3 dX14_line_47 rfl rfl ?_
        refine z_iconst hC (pc := 48) (v := Int32.ofInt 1) dX14_line_48 (by decide) ?_
        obtain ⟨hT, hF⟩ := h
        refine y_icmp_ne hC (pc := 49) 101 hy11 (r_lit rfl) dX14_line_49 (by decide) (fun c => ?_) (fun c => ?_)
        · have h := hT c
          refine z_iload_n hC (pc := 101) 1 dX14_line_101 rfl rfl ?_
          refine z_istore hC (pc := 102) (lv' := [(5, iv x1), (0, .ref (κ 0)), (1, iv x1), (2, iv x2), (3, iv y11), (4, iv y12)]) dX14_line_102 (by decide) rfl ?_
          have j104 : ∀ (d104 : Nat), ∀ (s14 : rS) (y15 : Int), rWF s14 → rng y15 → rKeep 0 0x200 0x2000000000 0x110 0 σ s14 → inv_X14_line_104 σ x1 x2 s14 y15 → (mu_X14_line_104 σ x1 x2 s14 y15) ≤ d104 → zS X G 9 (rW G κ s14) [(0, .ref (κ 0)), (1, iv x1), (2, iv x2), (5, iv y15)] 0 0 104 [] := by
            intro d104
            induction d104 with
            | zero =>
              intro s14 y15 Ws14 hy15 kJ hI hmu
              exact absurd hmu (by have := h_104m  s14 y15 Ws14 hy15 (WNp.keep kJ rfl rfl rfl rfl) (kJ.R rfl) (kJ.F rfl) (fun i => kJ.A (f := 34) (by decide) rfl) hI; omega)
            | succ d104 ih104 =>
              intro s14 y15 Ws14 hy15 kJ hI hmu104
              have h := h_104  s14 y15 Ws14 hy15 (WNp.keep kJ rfl rfl rfl rfl) (kJ.R rfl) (kJ.F rfl) (fun i => kJ.A (f := 34) (by decide) rfl) hI
              refine z_iload hC (pc := 104) 3 dX14_line_104 rfl ?_
              refine z_iload_n hC (pc := 106) 2 dX14_line_106 rfl rfl ?_
              obtain ⟨hT, hF⟩ := h
              refine y_icmp_ge hC (pc := 107) 125 hy15 hx2 dX14_line_107 (by decide) (fun c => ?_) (fun c => ?_)
              · have h := hT c
                refine z_iload hC (pc := 125) 3 dX14_line_125 rfl ?_
                refine z_iload_n hC (pc := 127) 1 dX14_line_127 rfl rfl ?_
                obtain ⟨hT, hF⟩ := h
                refine y_icmp_eq hC (pc := 128) 137 hy15 hx1 dX14_line_128 (by decide) (fun c => ?_) (fun c => ?_)
                · have h := hT c
                  exact y_retv hR dX14_line_137 Ws14 (Nat.le_of_ble_eq_true rfl) (Nat.le_of_ble_eq_true rfl) ⟨(rKeep.tr rKeep.rf kJ rfl rfl rfl rfl rfl), h⟩
                · have h := hF c
                  refine z_iload hC (pc := 131) 3 dX14_line_131 rfl ?_
                  refine z_iload_n hC (pc := 133) 2 dX14_line_133 rfl rfl ?_
                  obtain ⟨hT, hF⟩ := h
                  refine y_icmp_ne hC (pc := 134) 138 hy15 hx2 dX14_line_134 (by decide) (fun c => ?_) (fun c => ?_)
                  · have h := hT c
                    refine z_aload_n hC (pc := 138) 0 dX14_line_138 rfl rfl ?_
                    refine y_get hC (pc := 139) zf14 rOb_0 34 (v := .ref (κ 1034)) dX14_line_139 zw2501 (rv_c rfl) (kk := ?_)
                    refine z_iload hC (pc := 142) 3 dX14_line_142 rfl ?_
                    obtain ⟨b16, h⟩ := h
                    refine y_iald hC (pc := 144) (rAr_m rfl) dX14_line_144 b16 (v := (rA s14 1034 y15)) rfl (kk := ?_)
                    have h := h (Ws14.a _ _)
                    refine z_istore hC (pc := 145) (lv' := [(6, iv (rA s14 1034 y15)), (0, .ref (κ 0)), (1, iv x1), (2, iv x2), (5, iv y15)]) dX14_line_145 (by decide) rfl ?_
                    refine z_iload hC (pc := 147) 0 dX14_line_147 rfl ?_
                    refine z_iconst hC (pc := 149) (v := Int32.ofInt 4) dX14_line_149 (by decide) ?_
                    obtain ⟨hT, hF⟩ := h
                    refine y_icmp_eq hC (pc := 150) 168 (Ws14.a _ _) (r_lit rfl) dX14_line_150 (by decide) (fun c => ?_) (fun c => ?_)
                    · have h := hT c
                      refine z_aload_n hC (pc := 168) 1 dX14_line_168 rfl rfl ?_
                      refine y_get hC (pc := 169) zf14 rOb_0 35 (v := .ref (κ 1035)) dX14_line_169 zw2502 (rv_c rfl) (kk := ?_)
                      refine z_iload hC (pc := 172) 4 dX14_line_172 rfl ?_
                      obtain ⟨b17, h⟩ := h
                      refine y_iald hC (pc := 174) (rAr_m rfl) dX14_line_174 b17 (v := (rA s14 1035 y15)) rfl (kk := ?_)
                      have h := h (Ws14.a _ _)
                      refine z_istore hC (pc := 175) (lv' := [(7, iv (rA s14 1035 y15)), (6, iv (rA s14 1034 y15)), (0, .ref (κ 0)), (1, iv x1), (2, iv x2), (5, iv y15)]) dX14_line_175 (by decide) rfl ?_
                      refine z_aload_n hC (pc := 177) 2 dX14_line_177 rfl rfl ?_
                      refine y_get hC (pc := 178) zf14 rOb_0 7 (v := .ref (κ (rR σ 7))) dX14_line_178 zw2475 (rv_g rfl (kJ.R rfl) g0) (kk := ?_)
                      refine y_getN hC (pc := 181) zf13 (rOb_k g0) 4 (v := .ref (κ (1000 * ((rR σ 7) + 1) + 4))) dX14_line_181 zw2318 (rv_c rfl) (kk := ?_)
                      refine z_iload hC (pc := 184) 0 dX14_line_184 rfl ?_
                      refine z_sipush hC (pc := 186) (v := Int32.ofInt 4096) dX14_line_186 (by decide) ?_
                      refine z_aload_n hC (pc := 189) 2 dX14_line_189 rfl rfl ?_
                      refine y_get hC (pc := 190) zf14 rOb_0 7 (v := .ref (κ (rR σ 7))) dX14_line_190 zw2475 (rv_g rfl (kJ.R rfl) g0) (kk := ?_)
                      refine y_getN hC (pc := 193) zf13 (rOb_k g0) 9 (v := iv (rF s14 (rR σ 7) 9)) dX14_line_193 zw2328 (rv_i (Or.inl rfl) rfl) (kk := ?_)
                      have h := h (Ws14.f _ _)
                      refine y_imul hC (pc := 196) (v := (4096 * (rF s14 (rR σ 7) 9))) dX14_line_196 rfl ?_
                      refine z_iload hC (pc := 197) 5 dX14_line_197 rfl ?_
                      refine y_iadd hC (pc := 199) (v := ((4096 * (rF s14 (rR σ 7) 9)) + y15)) dX14_line_199 rfl ?_
                      refine z_iload_n hC (pc := 200) 3 dX14_line_200 rfl rfl ?_
                      refine y_isub hC (pc := 201) (v := (((4096 * (rF s14 (rR σ 7) 9)) + y15) - x1)) dX14_line_201 rfl ?_
                      obtain ⟨b18, h⟩ := h
                      obtain ⟨r19, h⟩ := h
                      refine y_iast hC (pc := 202) (rAr_k g0 rfl rfl) dX14_line_202 b18 (v := (((4096 * (rF s14 (rR σ 7) 9)) + y15) - x1)) (kk := ?_)
                      have W20 := Ws14.sA (p := (1000 * ((rR σ 7) + 1) + 4)) (i := (rA s14 1035 y15)) (x := (((4096 * (rF s14 (rR σ 7) 9)) + y15) - x1)) r19
                      refine z_iload_n hC (pc := 203) 3 dX14_line_203 rfl rfl ?_
                      refine z_istore hC (pc := 204) (lv' := [(8, iv x1), (7, iv (rA s14 1035 y15)), (6, iv (rA s14 1034 y15)), (0, .ref (κ 0)), (1, iv x1), (2, iv x2), (5, iv y15)]) dX14_line_204 (by decide) rfl ?_
                      have j206 : ∀ (d206 : Nat), ∀ (s21 : rS) (y22 : Int) (y23 : Int), rWF s21 → rng y22 → rng y23 → rKeep 0 0x200 0x2000000000 0x110 0 σ s21 → inv_X14_line_206 σ x1 x2 s21 y22 y23 → (mu_X14_line_206 σ x1 x2 s21 y22 y23) ≤ d206 → zS X G 9 (rW G κ s21) [(0, .ref (κ 0)), (5, iv y22), (8, iv y23)] 0 0 206 [] := by
                        intro d206
                        induction d206 with
                        | zero =>
                          intro s21 y22 y23 Ws21 hy22 hy23 kJ hI hmu
                          exact absurd hmu (by have := h_206m  s21 y22 y23 Ws21 hy22 hy23 (WNp.keep kJ rfl rfl rfl rfl) (kJ.R rfl) (kJ.F rfl) (fun i => kJ.A (f := 34) (by decide) rfl) hI; omega)
                        | succ d206 ih206 =>
                          intro s21 y22 y23 Ws21 hy22 hy23 kJ hI hmu206
                          have h := h_206  s21 y22 y23 Ws21 hy22 hy23 (WNp.keep kJ rfl rfl rfl rfl) (kJ.R rfl) (kJ.F rfl) (fun i => kJ.A (f := 34) (by decide) rfl) hI
                          refine z_iload hC (pc := 206) 2 dX14_line_206 rfl ?_
                          refine z_iload hC (pc := 208) 1 dX14_line_208 rfl ?_
                          obtain ⟨hT, hF⟩ := h
                          refine y_icmp_ge hC (pc := 210) 263 hy23 hy22 dX14_line_210 (by decide) (fun c => ?_) (fun c => ?_)
                          · have h := hT c
                            exact y_retv hR dX14_line_263 Ws21 (Nat.le_of_ble_eq_true rfl) (Nat.le_of_ble_eq_true rfl) ⟨(rKeep.tr rKeep.rf kJ rfl rfl rfl rfl rfl), h⟩
                          · have h := hF c
                            refine z_aload_n hC (pc := 213) 0 dX14_line_213 rfl rfl ?_
                            refine y_get hC (pc := 214) zf14 rOb_0 37 (v := .ref (κ 1037)) dX14_line_214 zw2504 (rv_c rfl) (kk := ?_)
                            refine z_iload hC (pc := 217) 2 dX14_line_217 rfl ?_
                            refine z_iconst hC (pc := 219) (v := Int32.ofInt 1) dX14_line_219 (by decide) ?_
                            obtain ⟨b24, h⟩ := h
                            refine y_zast hC (pc := 220) (rAr_m rfl) dX14_line_220 b24 (v := 1) (kk := ?_)
                            have W25 := Ws21.sA (p := 1037) (i := y23) (x := (inar .boolean 1)) (inar_rng _ _)
                            refine z_aload_n hC (pc := 221) 0 dX14_line_221 rfl rfl ?_
                            refine y_get hC (pc := 222) zf14 rOb_0 7 (v := .ref (κ (rR σ 7))) dX14_line_222 zw2475 (rv_g rfl (kJ.R rfl) g0) (kk := ?_)
                            refine y_getN hC (pc := 225) zf13 (rOb_k g0) 8 (v := .ref (κ (1000 * ((rR σ 7) + 1) + 8))) dX14_line_225 zw2326 (rv_c rfl) (kk := ?_)
                            refine z_aload_n hC (pc := 228) 0 dX14_line_228 rfl rfl ?_
                            refine y_get hC (pc := 229) zf14 rOb_0 7 (v := .ref (κ (rR σ 7))) dX14_line_229 zw2475 (rv_g rfl (kJ.R rfl) g0) (kk := ?_)
                            refine y_getN hC (pc := 232) zf13 (rOb_k g0) 9 (v := iv (rF s21 (rR σ 7) 9)) dX14_line_232 zw2328 (rv_i (Or.inl rfl) rfl) (kk := ?_)
                            have h := h (Ws21.f _ _)
                            refine z_aload_n hC (pc := 235) 0 dX14_line_235 rfl rfl ?_
                            refine y_get hC (pc := 236) zf14 rOb_0 35 (v := .ref (κ 1035)) dX14_line_236 zw2502 (rv_c rfl) (kk := ?_)
                            refine z_iload hC (pc := 239) 2 dX14_line_239 rfl ?_
                            obtain ⟨b26, h⟩ := h
                            refine y_iald hC (pc := 241) (rAr_m rfl) dX14_line_241 b26 (v := (rA s21 1035 y23)) ((A_sA_ne (by decide)).trans rfl) (kk := ?_)
                            have h := h (Ws21.a _ _)
                            refine y_i2b hC (pc := 242) dX14_line_242 ?_
                            obtain ⟨b27, h⟩ := h
                            refine y_bast hC (pc := 243) (rAr_k g0 rfl rfl) dX14_line_243 b27 (v := (f_i2b (rA s21 1035 y23))) (kk := ?_)
                            have W28 := W25.sA (p := (1000 * ((rR σ 7) + 1) + 8)) (i := (rF s21 (rR σ 7) 9)) (x := (inar .byte (f_i2b (rA s21 1035 y23)))) (inar_rng _ _)
                            refine z_aload_n hC (pc := 244) 0 dX14_line_244 rfl rfl ?_
                            refine y_get hC (pc := 245) zf14 rOb_0 7 (v := .ref (κ (rR σ 7))) dX14_line_245 zw2475 (rv_g rfl (kJ.R rfl) g0) (kk := ?_)
                            refine z_dup hC (pc := 248) dX14_line_248 rfl ?_
                            refine y_getN hC (pc := 249) zf13 (rOb_k g0) 9 (v := iv (rF s21 (rR σ 7) 9)) dX14_line_249 zw2328 (rv_i (Or.inl rfl) rfl) (kk := ?_)
                            refine z_iconst hC (pc := 252) (v := Int32.ofInt 1) dX14_line_252 (by decide) ?_
                            refine y_iadd hC (pc := 253) (v := ((rF s21 (rR σ 7) 9) + 1)) dX14_line_253 rfl ?_
                            obtain ⟨r29, h⟩ := h
                            refine y_putIN hC (pc := 254) zf13 (rOb_k g0) 9 (x := ((rF s21 (rR σ 7) 9) + 1)) dX14_line_254 zw2328 (Or.inl rfl) rfl rfl (kk := ?_)
                            have W30 := W28.sF (q := (rR σ 7)) (f := 9) (x := ((rF s21 (rR σ 7) 9) + 1)) r29
                            refine y_iinc hC (pc := 257) (v := (y23 + 1)) (lv' := [(8, iv (y23 + 1)), (0, .ref (κ 0)), (5, iv y22)]) 2 dX14_line_257 rfl rfl (by decide) rfl ?_
                            refine z_goto hC (pc := 260) 206 dX14_line_260 (by decide) ?_
                            refine z_lvs [1, 2, 0] rfl ?_
                            obtain ⟨r31, h⟩ := h
                            obtain ⟨hI, hm⟩ := h
                            exact ih206 (sF (sA (sA s21 1037 y23 (inar .boolean 1)) (1000 * ((rR σ 7) + 1) + 8) (rF s21 (rR σ 7) 9) (inar .byte (f_i2b (rA s21 1035 y23)))) (rR σ 7) 9 ((rF s21 (rR σ 7) 9) + 1)) y22 (y23 + 1) W30 hy22 r31 (rKeep.tr (rKeep.tr (rKeep.tr (rKeep.tr rKeep.rf kJ rfl rfl rfl rfl rfl) (rKeep.sA0 (f := 37) (by decide)) rfl rfl rfl rfl rfl) (rKeep.sAk (f := 8) g0 (by decide)) rfl rfl rfl rfl rfl) (rKeep.sFk (f := 9) g0) rfl rfl rfl rfl rfl) hI (by omega)
                      refine z_lvs [3, 6, 0] rfl ?_
                      exact j206 _ (sA s14 (1000 * ((rR σ 7) + 1) + 4) (rA s14 1035 y15) (((4096 * (rF s14 (rR σ 7) 9)) + y15) - x1)) y15 x1 W20 hy15 hx1 (rKeep.tr (rKeep.tr rKeep.rf kJ rfl rfl rfl rfl rfl) (rKeep.sAk (f := 4) g0 (by decide)) rfl rfl rfl rfl rfl) h (Nat.le_refl _)
                    · have h := hF c
                      refine z_iload hC (pc := 153) 0 dX14_line_153 rfl ?_
                      refine z_bipush hC (pc := 155) (v := Int32.ofInt 6) dX14_line_155 (by decide) ?_
                      obtain ⟨hT, hF⟩ := h
                      refine y_icmp_eq hC (pc := 157) 168 (Ws14.a _ _) (r_lit rfl) dX14_line_157 (by decide) (fun c => ?_) (fun c => ?_)
                      · have h := hT c
                        refine z_aload_n hC (pc := 168) 1 dX14_line_168 rfl rfl ?_
                        refine y_get hC (pc := 169) zf14 rOb_0 35 (v := .ref (κ 1035)) dX14_line_169 zw2502 (rv_c rfl) (kk := ?_)
                        refine z_iload hC (pc := 172) 4 dX14_line_172 rfl ?_
                        obtain ⟨b32, h⟩ := h
                        refine y_iald hC (pc := 174) (rAr_m rfl) dX14_line_174 b32 (v := (rA s14 1035 y15)) rfl (kk := ?_)
                        have h := h (Ws14.a _ _)
                        refine z_istore hC (pc := 175) (lv' := [(7, iv (rA s14 1035 y15)), (6, iv (rA s14 1034 y15)), (0, .ref (κ 0)), (1, iv x1), (2, iv x2), (5, iv y15)]) dX14_line_175 (by decide) rfl ?_
                        refine z_aload_n hC (pc := 177) 2 dX14_line_177 rfl rfl ?_
                        refine y_get hC (pc := 178) zf14 rOb_0 7 (v := .ref (κ (rR σ 7))) dX14_line_178 zw2475 (rv_g rfl (kJ.R rfl) g0) (kk := ?_)
                        refine y_getN hC (pc := 181) zf13 (rOb_k g0) 4 (v := .ref (κ (1000 * ((rR σ 7) + 1) + 4))) dX14_line_181 zw2318 (rv_c rfl) (kk := ?_)
                        refine z_iload hC (pc := 184) 0 dX14_line_184 rfl ?_
                        refine z_sipush hC (pc := 186) (v := Int32.ofInt 4096) dX14_line_186 (by decide) ?_
                        refine z_aload_n hC (pc := 189) 2 dX14_line_189 rfl rfl ?_
                        refine y_get hC (pc := 190) zf14 rOb_0 7 (v := .ref (κ (rR σ 7))) dX14_line_190 zw2475 (rv_g rfl (kJ.R rfl) g0) (kk := ?_)
                        refine y_getN hC (pc := 193) zf13 (rOb_k g0) 9 (v := iv (rF s14 (rR σ 7) 9)) dX14_line_193 zw2328 (rv_i (Or.inl rfl) rfl) (kk := ?_)
                        have h := h (Ws14.f _ _)
                        refine y_imul hC (pc := 196) (v := (4096 * (rF s14 (rR σ 7) 9))) dX14_line_196 rfl ?_
                        refine z_iload hC (pc := 197) 5 dX14_line_197 rfl ?_
                        refine y_iadd hC (pc := 199) (v := ((4096 * (rF s14 (rR σ 7) 9)) + y15)) dX14_line_199 rfl ?_
                        refine z_iload_n hC (pc := 200) 3 dX14_line_200 rfl rfl ?_
                        refine y_isub hC (pc := 201) (v := (((4096 * (rF s14 (rR σ 7) 9)) + y15) - x1)) dX14_line_201 rfl ?_
                        obtain ⟨b33, h⟩ := h
                        obtain ⟨r34, h⟩ := h
                        refine y_iast hC (pc := 202) (rAr_k g0 rfl rfl) dX14_line_202 b33 (v := (((4096 * (rF s14 (rR σ 7) 9)) + y15) - x1)) (kk := ?_)
                        have W35 := Ws14.sA (p := (1000 * ((rR σ 7) + 1) + 4)) (i := (rA s14 1035 y15)) (x := (((4096 * (rF s14 (rR σ 7) 9)) + y15) - x1)) r34
                        refine z_iload_n hC (pc := 203) 3 dX14_line_203 rfl rfl ?_
                        refine z_istore hC (pc := 204) (lv' := [(8, iv x1), (7, iv (rA s14 1035 y15)), (6, iv (rA s14 1034 y15)), (0, .ref (κ 0)), (1, iv x1), (2, iv x2), (5, iv y15)]) dX14_line_204 (by decide) rfl ?_
                        have j206 : ∀ (d206 : Nat), ∀ (s36 : rS) (y37 : Int) (y38 : Int), rWF s36 → rng y37 → rng y38 → rKeep 0 0x200 0x2000000000 0x110 0 σ s36 → inv_X14_line_206 σ x1 x2 s36 y37 y38 → (mu_X14_line_206 σ x1 x2 s36 y37 y38) ≤ d206 → zS X G 9 (rW G κ s36) [(0, .ref (κ 0)), (5, iv y37), (8, iv y38)] 0 0 206 [] := by
                          intro d206
                          induction d206 with
                          | zero =>
                            intro s36 y37 y38 Ws36 hy37 hy38 kJ hI hmu
                            exact absurd hmu (by have := h_206m  s36 y37 y38 Ws36 hy37 hy38 (WNp.keep kJ rfl rfl rfl rfl) (kJ.R rfl) (kJ.F rfl) (fun i => kJ.A (f := 34) (by decide) rfl) hI; omega)
                          | succ d206 ih206 =>
                            intro s36 y37 y38 Ws36 hy37 hy38 kJ hI hmu206
                            have h := h_206  s36 y37 y38 Ws36 hy37 hy38 (WNp.keep kJ rfl rfl rfl rfl) (kJ.R rfl) (kJ.F rfl) (fun i => kJ.A (f := 34) (by decide) rfl) hI
                            refine z_iload hC (pc := 206) 2 dX14_line_206 rfl ?_
                            refine z_iload hC (pc := 208) 1 dX14_line_208 rfl ?_
                            obtain ⟨hT, hF⟩ := h
                            refine y_icmp_ge hC (pc := 210) 263 hy38 hy37 dX14_line_210 (by decide) (fun c => ?_) (fun c => ?_)
                            · have h := hT c
                              exact y_retv hR dX14_line_263 Ws36 (Nat.le_of_ble_eq_true rfl) (Nat.le_of_ble_eq_true rfl) ⟨(rKeep.tr rKeep.rf kJ rfl rfl rfl rfl rfl), h⟩
                            · have h := hF c
                              refine z_aload_n hC (pc := 213) 0 dX14_line_213 rfl rfl ?_
                              refine y_get hC (pc := 214) zf14 rOb_0 37 (v := .ref (κ 1037)) dX14_line_214 zw2504 (rv_c rfl) (kk := ?_)
                              refine z_iload hC (pc := 217) 2 dX14_line_217 rfl ?_
                              refine z_iconst hC (pc := 219) (v := Int32.ofInt 1) dX14_line_219 (by decide) ?_
                              obtain ⟨b39, h⟩ := h
                              refine y_zast hC (pc := 220) (rAr_m rfl) dX14_line_220 b39 (v := 1) (kk := ?_)
                              have W40 := Ws36.sA (p := 1037) (i := y38) (x := (inar .boolean 1)) (inar_rng _ _)
                              refine z_aload_n hC (pc := 221) 0 dX14_line_221 rfl rfl ?_
                              refine y_get hC (pc := 222) zf14 rOb_0 7 (v := .ref (κ (rR σ 7))) dX14_line_222 zw2475 (rv_g rfl (kJ.R rfl) g0) (kk := ?_)
                              refine y_getN hC (pc := 225) zf13 (rOb_k g0) 8 (v := .ref (κ (1000 * ((rR σ 7) + 1) + 8))) dX14_line_225 zw2326 (rv_c rfl) (kk := ?_)
                              refine z_aload_n hC (pc := 228) 0 dX14_line_228 rfl rfl ?_
                              refine y_get hC (pc := 229) zf14 rOb_0 7 (v := .ref (κ (rR σ 7))) dX14_line_229 zw2475 (rv_g rfl (kJ.R rfl) g0) (kk := ?_)
                              refine y_getN hC (pc := 232) zf13 (rOb_k g0) 9 (v := iv (rF s36 (rR σ 7) 9)) dX14_line_232 zw2328 (rv_i (Or.inl rfl) rfl) (kk := ?_)
                              have h := h (Ws36.f _ _)
                              refine z_aload_n hC (pc := 235) 0 dX14_line_235 rfl rfl ?_
                              refine y_get hC (pc := 236) zf14 rOb_0 35 (v := .ref (κ 1035)) dX14_line_236 zw2502 (rv_c rfl) (kk := ?_)
                              refine z_iload hC (pc := 239) 2 dX14_line_239 rfl ?_
                              obtain ⟨b41, h⟩ := h
                              refine y_iald hC (pc := 241) (rAr_m rfl) dX14_line_241 b41 (v := (rA s36 1035 y38)) ((A_sA_ne (by decide)).trans rfl) (kk := ?_)
                              have h := h (Ws36.a _ _)
                              refine y_i2b hC (pc := 242) dX14_line_242 ?_
                              obtain ⟨b42, h⟩ := h
                              refine y_bast hC (pc := 243) (rAr_k g0 rfl rfl) dX14_line_243 b42 (v := (f_i2b (rA s36 1035 y38))) (kk := ?_)
                              have W43 := W40.sA (p := (1000 * ((rR σ 7) + 1) + 8)) (i := (rF s36 (rR σ 7) 9)) (x := (inar .byte (f_i2b (rA s36 1035 y38)))) (inar_rng _ _)
                              refine z_aload_n hC (pc := 244) 0 dX14_line_244 rfl rfl ?_
                              refine y_get hC (pc := 245) zf14 rOb_0 7 (v := .ref (κ (rR σ 7))) dX14_line_245 zw2475 (rv_g rfl (kJ.R rfl) g0) (kk := ?_)
                              refine z_dup hC (pc := 248) dX14_line_248 rfl ?_
                              refine y_getN hC (pc := 249) zf13 (rOb_k g0) 9 (v := iv (rF s36 (rR σ 7) 9)) dX14_line_249 zw2328 (rv_i (Or.inl rfl) rfl) (kk := ?_)
                              refine z_iconst hC (pc := 252) (v := Int32.ofInt 1) dX14_line_252 (by decide) ?_
                              refine y_iadd hC (pc := 253) (v := ((rF s36 (rR σ 7) 9) + 1)) dX14_line_253 rfl ?_
                              obtain ⟨r44, h⟩ := h
                              refine y_putIN hC (pc := 254) zf13 (rOb_k g0) 9 (x := ((rF s36 (rR σ 7) 9) + 1)) dX14_line_254 zw2328 (Or.inl rfl) rfl rfl (kk := ?_)
                              have W45 := W43.sF (q := (rR σ 7)) (f := 9) (x := ((rF s36 (rR σ 7) 9) + 1)) r44
                              refine y_iinc hC (pc := 257) (v := (y38 + 1)) (lv' := [(8, iv (y38 + 1)), (0, .ref (κ 0)), (5, iv y37)]) 2 dX14_line_257 rfl rfl (by decide) rfl ?_
                              refine z_goto hC (pc := 260) 206 dX14_line_260 (by decide) ?_
                              refine z_lvs [1, 2, 0] rfl ?_
                              obtain ⟨r46, h⟩ := h
                              obtain ⟨hI, hm⟩ := h
                              exact ih206 (sF (sA (sA s36 1037 y38 (inar .boolean 1)) (1000 * ((rR σ 7) + 1) + 8) (rF s36 (rR σ 7) 9) (inar .byte (f_i2b (rA s36 1035 y38)))) (rR σ 7) 9 ((rF s36 (rR σ 7) 9) + 1)) y37 (y38 + 1) W45 hy37 r46 (rKeep.tr (rKeep.tr (rKeep.tr (rKeep.tr rKeep.rf kJ rfl rfl rfl rfl rfl) (rKeep.sA0 (f := 37) (by decide)) rfl rfl rfl rfl rfl) (rKeep.sAk (f := 8) g0 (by decide)) rfl rfl rfl rfl rfl) (rKeep.sFk (f := 9) g0) rfl rfl rfl rfl rfl) hI (by omega)
                        refine z_lvs [3, 6, 0] rfl ?_
                        exact j206 _ (sA s14 (1000 * ((rR σ 7) + 1) + 4) (rA s14 1035 y15) (((4096 * (rF s14 (rR σ 7) 9)) + y15) - x1)) y15 x1 W35 hy15 hx1 (rKeep.tr (rKeep.tr rKeep.rf kJ rfl rfl rfl rfl rfl) (rKeep.sAk (f := 4) g0 (by decide)) rfl rfl rfl rfl rfl) h (Nat.le_refl _)
                      · have h := hF c
                        refine z_iload hC (pc := 160) 0 dX14_line_160 rfl ?_
                        refine z_bipush hC (pc := 162) (v := Int32.ofInt 7) dX14_line_162 (by decide) ?_
                        obtain ⟨hT, hF⟩ := h
                        refine y_icmp_eq hC (pc := 164) 168 (Ws14.a _ _) (r_lit rfl) dX14_line_164 (by decide) (fun c => ?_) (fun c => ?_)
                        · have h := hT c
                          refine z_aload_n hC (pc := 168) 1 dX14_line_168 rfl rfl ?_
                          refine y_get hC (pc := 169) zf14 rOb_0 35 (v := .ref (κ 1035)) dX14_line_169 zw2502 (rv_c rfl) (kk := ?_)
                          refine z_iload hC (pc := 172) 4 dX14_line_172 rfl ?_
                          obtain ⟨b47, h⟩ := h
                          refine y_iald hC (pc := 174) (rAr_m rfl) dX14_line_174 b47 (v := (rA s14 1035 y15)) rfl (kk := ?_)
                          have h := h (Ws14.a _ _)
                          refine z_istore hC (pc := 175) (lv' := [(7, iv (rA s14 1035 y15)), (6, iv (rA s14 1034 y15)), (0, .ref (κ 0)), (1, iv x1), (2, iv x2), (5, iv y15)]) dX14_line_175 (by decide) rfl ?_
                          refine z_aload_n hC (pc := 177) 2 dX14_line_177 rfl rfl ?_
                          refine y_get hC (pc := 178) zf14 rOb_0 7 (v := .ref (κ (rR σ 7))) dX14_line_178 zw2475 (rv_g rfl (kJ.R rfl) g0) (kk := ?_)
                          refine y_getN hC (pc := 181) zf13 (rOb_k g0) 4 (v := .ref (κ (1000 * ((rR σ 7) + 1) + 4))) dX14_line_181 zw2318 (rv_c rfl) (kk := ?_)
                          refine z_iload hC (pc := 184) 0 dX14_line_184 rfl ?_
                          refine z_sipush hC (pc := 186) (v := Int32.ofInt 4096) dX14_line_186 (by decide) ?_
                          refine z_aload_n hC (pc := 189) 2 dX14_line_189 rfl rfl ?_
                          refine y_get hC (pc := 190) zf14 rOb_0 7 (v := .ref (κ (rR σ 7))) dX14_line_190 zw2475 (rv_g rfl (kJ.R rfl) g0) (kk := ?_)
                          refine y_getN hC (pc := 193) zf13 (rOb_k g0) 9 (v := iv (rF s14 (rR σ 7) 9)) dX14_line_193 zw2328 (rv_i (Or.inl rfl) rfl) (kk := ?_)
                          have h := h (Ws14.f _ _)
                          refine y_imul hC (pc := 196) (v := (4096 * (rF s14 (rR σ 7) 9))) dX14_line_196 rfl ?_
                          refine z_iload hC (pc := 197) 5 dX14_line_197 rfl ?_
                          refine y_iadd hC (pc := 199) (v := ((4096 * (rF s14 (rR σ 7) 9)) + y15)) dX14_line_199 rfl ?_
                          refine z_iload_n hC (pc := 200) 3 dX14_line_200 rfl rfl ?_
                          refine y_isub hC (pc := 201) (v := (((4096 * (rF s14 (rR σ 7) 9)) + y15) - x1)) dX14_line_201 rfl ?_
                          obtain ⟨b48, h⟩ := h
                          obtain ⟨r49, h⟩ := h
                          refine y_iast hC (pc := 202) (rAr_k g0 rfl rfl) dX14_line_202 b48 (v := (((4096 * (rF s14 (rR σ 7) 9)) + y15) - x1)) (kk := ?_)
                          have W50 := Ws14.sA (p := (1000 * ((rR σ 7) + 1) + 4)) (i := (rA s14 1035 y15)) (x := (((4096 * (rF s14 (rR σ 7) 9)) + y15) - x1)) r49
                          refine z_iload_n hC (pc := 203) 3 dX14_line_203 rfl rfl ?_
                          refine z_istore hC (pc := 204) (lv' := [(8, iv x1), (7, iv (rA s14 1035 y15)), (6, iv (rA s14 1034 y15)), (0, .ref (κ 0)), (1, iv x1), (2, iv x2), (5, iv y15)]) dX14_line_204 (by decide) rfl ?_
                          have j206 : ∀ (d206 : Nat), ∀ (s51 : rS) (y52 : Int) (y53 : Int), rWF s51 → rng y52 → rng y53 → rKeep 0 0x200 0x2000000000 0x110 0 σ s51 → inv_X14_line_206 σ x1 x2 s51 y52 y53 → (mu_X14_line_206 σ x1 x2 s51 y52 y53) ≤ d206 → zS X G 9 (rW G κ s51) [(0, .ref (κ 0)), (5, iv y52), (8, iv y53)] 0 0 206 [] := by
                            intro d206
                            induction d206 with
                            | zero =>
                              intro s51 y52 y53 Ws51 hy52 hy53 kJ hI hmu
                              exact absurd hmu (by have := h_206m  s51 y52 y53 Ws51 hy52 hy53 (WNp.keep kJ rfl rfl rfl rfl) (kJ.R rfl) (kJ.F rfl) (fun i => kJ.A (f := 34) (by decide) rfl) hI; omega)
                            | succ d206 ih206 =>
                              intro s51 y52 y53 Ws51 hy52 hy53 kJ hI hmu206
                              have h := h_206  s51 y52 y53 Ws51 hy52 hy53 (WNp.keep kJ rfl rfl rfl rfl) (kJ.R rfl) (kJ.F rfl) (fun i => kJ.A (f := 34) (by decide) rfl) hI
                              refine z_iload hC (pc := 206) 2 dX14_line_206 rfl ?_
                              refine z_iload hC (pc := 208) 1 dX14_line_208 rfl ?_
                              obtain ⟨hT, hF⟩ := h
                              refine y_icmp_ge hC (pc := 210) 263 hy53 hy52 dX14_line_210 (by decide) (fun c => ?_) (fun c => ?_)
                              · have h := hT c
                                exact y_retv hR dX14_line_263 Ws51 (Nat.le_of_ble_eq_true rfl) (Nat.le_of_ble_eq_true rfl) ⟨(rKeep.tr rKeep.rf kJ rfl rfl rfl rfl rfl), h⟩
                              · have h := hF c
                                refine z_aload_n hC (pc := 213) 0 dX14_line_213 rfl rfl ?_
                                refine y_get hC (pc := 214) zf14 rOb_0 37 (v := .ref (κ 1037)) dX14_line_214 zw2504 (rv_c rfl) (kk := ?_)
                                refine z_iload hC (pc := 217) 2 dX14_line_217 rfl ?_
                                refine z_iconst hC (pc := 219) (v := Int32.ofInt 1) dX14_line_219 (by decide) ?_
                                obtain ⟨b54, h⟩ := h
                                refine y_zast hC (pc := 220) (rAr_m rfl) dX14_line_220 b54 (v := 1) (kk := ?_)
                                have W55 := Ws51.sA (p := 1037) (i := y53) (x := (inar .boolean 1)) (inar_rng _ _)
                                refine z_aload_n hC (pc := 221) 0 dX14_line_221 rfl rfl ?_
                                refine y_get hC (pc := 222) zf14 rOb_0 7 (v := .ref (κ (rR σ 7))) dX14_line_222 zw2475 (rv_g rfl (kJ.R rfl) g0) (kk := ?_)
                                refine y_getN hC (pc := 225) zf13 (rOb_k g0) 8 (v := .ref (κ (1000 * ((rR σ 7) + 1) + 8))) dX14_line_225 zw2326 (rv_c rfl) (kk := ?_)
                                refine z_aload_n hC (pc := 228) 0 dX14_line_228 rfl rfl ?_
                                refine y_get hC (pc := 229) zf14 rOb_0 7 (v := .ref (κ (rR σ 7))) dX14_line_229 zw2475 (rv_g rfl (kJ.R rfl) g0) (kk := ?_)
                                refine y_getN hC (pc := 232) zf13 (rOb_k g0) 9 (v := iv (rF s51 (rR σ 7) 9)) dX14_line_232 zw2328 (rv_i (Or.inl rfl) rfl) (kk := ?_)
                                have h := h (Ws51.f _ _)
                                refine z_aload_n hC (pc := 235) 0 dX14_line_235 rfl rfl ?_
                                refine y_get hC (pc := 236) zf14 rOb_0 35 (v := .ref (κ 1035)) dX14_line_236 zw2502 (rv_c rfl) (kk := ?_)
                                refine z_iload hC (pc := 239) 2 dX14_line_239 rfl ?_
                                obtain ⟨b56, h⟩ := h
                                refine y_iald hC (pc := 241) (rAr_m rfl) dX14_line_241 b56 (v := (rA s51 1035 y53)) ((A_sA_ne (by decide)).trans rfl) (kk := ?_)
                                have h := h (Ws51.a _ _)
                                refine y_i2b hC (pc := 242) dX14_line_242 ?_
                                obtain ⟨b57, h⟩ := h
                                refine y_bast hC (pc := 243) (rAr_k g0 rfl rfl) dX14_line_243 b57 (v := (f_i2b (rA s51 1035 y53))) (kk := ?_)
                                have W58 := W55.sA (p := (1000 * ((rR σ 7) + 1) + 8)) (i := (rF s51 (rR σ 7) 9)) (x := (inar .byte (f_i2b (rA s51 1035 y53)))) (inar_rng _ _)
                                refine z_aload_n hC (pc := 244) 0 dX14_line_244 rfl rfl ?_
                                refine y_get hC (pc := 245) zf14 rOb_0 7 (v := .ref (κ (rR σ 7))) dX14_line_245 zw2475 (rv_g rfl (kJ.R rfl) g0) (kk := ?_)
                                refine z_dup hC (pc := 248) dX14_line_248 rfl ?_
                                refine y_getN hC (pc := 249) zf13 (rOb_k g0) 9 (v := iv (rF s51 (rR σ 7) 9)) dX14_line_249 zw2328 (rv_i (Or.inl rfl) rfl) (kk := ?_)
                                refine z_iconst hC (pc := 252) (v := Int32.ofInt 1) dX14_line_252 (by decide) ?_
                                refine y_iadd hC (pc := 253) (v := ((rF s51 (rR σ 7) 9) + 1)) dX14_line_253 rfl ?_
                                obtain ⟨r59, h⟩ := h
                                refine y_putIN hC (pc := 254) zf13 (rOb_k g0) 9 (x := ((rF s51 (rR σ 7) 9) + 1)) dX14_line_254 zw2328 (Or.inl rfl) rfl rfl (kk := ?_)
                                have W60 := W58.sF (q := (rR σ 7)) (f := 9) (x := ((rF s51 (rR σ 7) 9) + 1)) r59
                                refine y_iinc hC (pc := 257) (v := (y53 + 1)) (lv' := [(8, iv (y53 + 1)), (0, .ref (κ 0)), (5, iv y52)]) 2 dX14_line_257 rfl rfl (by decide) rfl ?_
                                refine z_goto hC (pc := 260) 206 dX14_line_260 (by decide) ?_
                                refine z_lvs [1, 2, 0] rfl ?_
                                obtain ⟨r61, h⟩ := h
                                obtain ⟨hI, hm⟩ := h
                                exact ih206 (sF (sA (sA s51 1037 y53 (inar .boolean 1)) (1000 * ((rR σ 7) + 1) + 8) (rF s51 (rR σ 7) 9) (inar .byte (f_i2b (rA s51 1035 y53)))) (rR σ 7) 9 ((rF s51 (rR σ 7) 9) + 1)) y52 (y53 + 1) W60 hy52 r61 (rKeep.tr (rKeep.tr (rKeep.tr (rKeep.tr rKeep.rf kJ rfl rfl rfl rfl rfl) (rKeep.sA0 (f := 37) (by decide)) rfl rfl rfl rfl rfl) (rKeep.sAk (f := 8) g0 (by decide)) rfl rfl rfl rfl rfl) (rKeep.sFk (f := 9) g0) rfl rfl rfl rfl rfl) hI (by omega)
                          refine z_lvs [3, 6, 0] rfl ?_
                          exact j206 _ (sA s14 (1000 * ((rR σ 7) + 1) + 4) (rA s14 1035 y15) (((4096 * (rF s14 (rR σ 7) 9)) + y15) - x1)) y15 x1 W50 hy15 hx1 (rKeep.tr (rKeep.tr rKeep.rf kJ rfl rfl rfl rfl rfl) (rKeep.sAk (f := 4) g0 (by decide)) rfl rfl rfl rfl rfl) h (Nat.le_refl _)
                        · have h := hF c
                          exact y_retv hR dX14_line_167 Ws14 (Nat.le_of_ble_eq_true rfl) (Nat.le_of_ble_eq_true rfl) ⟨(rKeep.tr rKeep.rf kJ rfl rfl rfl rfl rfl), h⟩
                  · have h := hF c
                    exact y_retv hR dX14_line_137 Ws14 (Nat.le_of_ble_eq_true rfl) (Nat.le_of_ble_eq_true rfl) ⟨(rKeep.tr rKeep.rf kJ rfl rfl rfl rfl rfl), h⟩
              · have h := hF c
                refine z_aload_n hC (pc := 110) 0 dX14_line_110 rfl rfl ?_
                refine z_iload hC (pc := 111) 3 dX14_line_111 rfl ?_
                obtain ⟨p62, h⟩ := h
                refine y_callVi hC (pc := 113) (As := [iv y15]) (kX14_isSpace l G κ s14 y15 Ws14 hy15 p62) dmX14_isSpace zf14 rOb_0 dX14_line_113 zw3299 rfl rfl (Nat.le_of_ble_eq_true rfl) (Nat.le_of_ble_eq_true rfl) (Nat.le_of_ble_eq_true rfl) (Nat.le_of_ble_eq_true rfl) (Nat.le_of_ble_eq_true rfl) (kk := fun x64 s63 hx64 Ws63 qs63 => ?_)
                obtain ⟨es63, qs63⟩ := qs63
                have es63 := es63.symm
                subst es63
                have h := h x64 hx64 qs63
                obtain ⟨hT, hF⟩ := h
                refine y_if_eq hC (pc := 116) 125 hx64 dX14_line_116 (by decide) (fun c => ?_) (fun c => ?_)
                · have h := hT c
                  refine z_iload hC (pc := 125) 3 dX14_line_125 rfl ?_
                  refine z_iload_n hC (pc := 127) 1 dX14_line_127 rfl rfl ?_
                  obtain ⟨hT, hF⟩ := h
                  refine y_icmp_eq hC (pc := 128) 137 hy15 hx1 dX14_line_128 (by decide) (fun c => ?_) (fun c => ?_)
                  · have h := hT c
                    exact y_retv hR dX14_line_137 Ws14 (Nat.le_of_ble_eq_true rfl) (Nat.le_of_ble_eq_true rfl) ⟨(rKeep.tr rKeep.rf kJ rfl rfl rfl rfl rfl), h⟩
                  · have h := hF c
                    refine z_iload hC (pc := 131) 3 dX14_line_131 rfl ?_
                    refine z_iload_n hC (pc := 133) 2 dX14_line_133 rfl rfl ?_
                    obtain ⟨hT, hF⟩ := h
                    refine y_icmp_ne hC (pc := 134) 138 hy15 hx2 dX14_line_134 (by decide) (fun c => ?_) (fun c => ?_)
                    · have h := hT c
                      refine z_aload_n hC (pc := 138) 0 dX14_line_138 rfl rfl ?_
                      refine y_get hC (pc := 139) zf14 rOb_0 34 (v := .ref (κ 1034)) dX14_line_139 zw2501 (rv_c rfl) (kk := ?_)
                      refine z_iload hC (pc := 142) 3 dX14_line_142 rfl ?_
                      obtain ⟨b65, h⟩ := h
                      refine y_iald hC (pc := 144) (rAr_m rfl) dX14_line_144 b65 (v := (rA s14 1034 y15)) rfl (kk := ?_)
                      have h := h (Ws14.a _ _)
                      refine z_istore hC (pc := 145) (lv' := [(6, iv (rA s14 1034 y15)), (0, .ref (κ 0)), (1, iv x1), (2, iv x2), (5, iv y15)]) dX14_line_145 (by decide) rfl ?_
                      refine z_iload hC (pc := 147) 0 dX14_line_147 rfl ?_
                      refine z_iconst hC (pc := 149) (v := Int32.ofInt 4) dX14_line_149 (by decide) ?_
                      obtain ⟨hT, hF⟩ := h
                      refine y_icmp_eq hC (pc := 150) 168 (Ws14.a _ _) (r_lit rfl) dX14_line_150 (by decide) (fun c => ?_) (fun c => ?_)
                      · have h := hT c
                        refine z_aload_n hC (pc := 168) 1 dX14_line_168 rfl rfl ?_
                        refine y_get hC (pc := 169) zf14 rOb_0 35 (v := .ref (κ 1035)) dX14_line_169 zw2502 (rv_c rfl) (kk := ?_)
                        refine z_iload hC (pc := 172) 4 dX14_line_172 rfl ?_
                        obtain ⟨b66, h⟩ := h
                        refine y_iald hC (pc := 174) (rAr_m rfl) dX14_line_174 b66 (v := (rA s14 1035 y15)) rfl (kk := ?_)
                        have h := h (Ws14.a _ _)
                        refine z_istore hC (pc := 175) (lv' := [(7, iv (rA s14 1035 y15)), (6, iv (rA s14 1034 y15)), (0, .ref (κ 0)), (1, iv x1), (2, iv x2), (5, iv y15)]) dX14_line_175 (by decide) rfl ?_
                        refine z_aload_n hC (pc := 177) 2 dX14_line_177 rfl rfl ?_
                        refine y_get hC (pc := 178) zf14 rOb_0 7 (v := .ref (κ (rR σ 7))) dX14_line_178 zw2475 (rv_g rfl (kJ.R rfl) g0) (kk := ?_)
                        refine y_getN hC (pc := 181) zf13 (rOb_k g0) 4 (v := .ref (κ (1000 * ((rR σ 7) + 1) + 4))) dX14_line_181 zw2318 (rv_c rfl) (kk := ?_)
                        refine z_iload hC (pc := 184) 0 dX14_line_184 rfl ?_
                        refine z_sipush hC (pc := 186) (v := Int32.ofInt 4096) dX14_line_186 (by decide) ?_
                        refine z_aload_n hC (pc := 189) 2 dX14_line_189 rfl rfl ?_
                        refine y_get hC (pc := 190) zf14 rOb_0 7 (v := .ref (κ (rR σ 7))) dX14_line_190 zw2475 (rv_g rfl (kJ.R rfl) g0) (kk := ?_)
                        refine y_getN hC (pc := 193) zf13 (rOb_k g0) 9 (v := iv (rF s14 (rR σ 7) 9)) dX14_line_193 zw2328 (rv_i (Or.inl rfl) rfl) (kk := ?_)
                        have h := h (Ws14.f _ _)
                        refine y_imul hC (pc := 196) (v := (4096 * (rF s14 (rR σ 7) 9))) dX14_line_196 rfl ?_
                        refine z_iload hC (pc := 197) 5 dX14_line_197 rfl ?_
                        refine y_iadd hC (pc := 199) (v := ((4096 * (rF s14 (rR σ 7) 9)) + y15)) dX14_line_199 rfl ?_
                        refine z_iload_n hC (pc := 200) 3 dX14_line_200 rfl rfl ?_
                        refine y_isub hC (pc := 201) (v := (((4096 * (rF s14 (rR σ 7) 9)) + y15) - x1)) dX14_line_201 rfl ?_
                        obtain ⟨b67, h⟩ := h
                        obtain ⟨r68, h⟩ := h
                        refine y_iast hC (pc := 202) (rAr_k g0 rfl rfl) dX14_line_202 b67 (v := (((4096 * (rF s14 (rR σ 7) 9)) + y15) - x1)) (kk := ?_)
                        have W69 := Ws14.sA (p := (1000 * ((rR σ 7) + 1) + 4)) (i := (rA s14 1035 y15)) (x := (((4096 * (rF s14 (rR σ 7) 9)) + y15) - x1)) r68
                        refine z_iload_n hC (pc := 203) 3 dX14_line_203 rfl rfl ?_
                        refine z_istore hC (pc := 204) (lv' := [(8, iv x1), (7, iv (rA s14 1035 y15)), (6, iv (rA s14 1034 y15)), (0, .ref (κ 0)), (1, iv x1), (2, iv x2), (5, iv y15)]) dX14_line_204 (by decide) rfl ?_
                        have j206 : ∀ (d206 : Nat), ∀ (s70 : rS) (y71 : Int) (y72 : Int), rWF s70 → rng y71 → rng y72 → rKeep 0 0x200 0x2000000000 0x110 0 σ s70 → inv_X14_line_206 σ x1 x2 s70 y71 y72 → (mu_X14_line_206 σ x1 x2 s70 y71 y72) ≤ d206 → zS X G 9 (rW G κ s70) [(0, .ref (κ 0)), (5, iv y71), (8, iv y72)] 0 0 206 [] := by
                          intro d206
                          induction d206 with
                          | zero =>
                            intro s70 y71 y72 Ws70 hy71 hy72 kJ hI hmu
                            exact absurd hmu (by have := h_206m  s70 y71 y72 Ws70 hy71 hy72 (WNp.keep kJ rfl rfl rfl rfl) (kJ.R rfl) (kJ.F rfl) (fun i => kJ.A (f := 34) (by decide) rfl) hI; omega)
                          | succ d206 ih206 =>
                            intro s70 y71 y72 Ws70 hy71 hy72 kJ hI hmu206
                            have h := h_206  s70 y71 y72 Ws70 hy71 hy72 (WNp.keep kJ rfl rfl rfl rfl) (kJ.R rfl) (kJ.F rfl) (fun i => kJ.A (f := 34) (by decide) rfl) hI
                            refine z_iload hC (pc := 206) 2 dX14_line_206 rfl ?_
                            refine z_iload hC (pc := 208) 1 dX14_line_208 rfl ?_
                            obtain ⟨hT, hF⟩ := h
                            refine y_icmp_ge hC (pc := 210) 263 hy72 hy71 dX14_line_210 (by decide) (fun c => ?_) (fun c => ?_)
                            · have h := hT c
                              exact y_retv hR dX14_line_263 Ws70 (Nat.le_of_ble_eq_true rfl) (Nat.le_of_ble_eq_true rfl) ⟨(rKeep.tr rKeep.rf kJ rfl rfl rfl rfl rfl), h⟩
                            · have h := hF c
                              refine z_aload_n hC (pc := 213) 0 dX14_line_213 rfl rfl ?_
                              refine y_get hC (pc := 214) zf14 rOb_0 37 (v := .ref (κ 1037)) dX14_line_214 zw2504 (rv_c rfl) (kk := ?_)
                              refine z_iload hC (pc := 217) 2 dX14_line_217 rfl ?_
                              refine z_iconst hC (pc := 219) (v := Int32.ofInt 1) dX14_line_219 (by decide) ?_
                              obtain ⟨b73, h⟩ := h
                              refine y_zast hC (pc := 220) (rAr_m rfl) dX14_line_220 b73 (v := 1) (kk := ?_)
                              have W74 := Ws70.sA (p := 1037) (i := y72) (x := (inar .boolean 1)) (inar_rng _ _)
                              refine z_aload_n hC (pc := 221) 0 dX14_line_221 rfl rfl ?_
                              refine y_get hC (pc := 222) zf14 rOb_0 7 (v := .ref (κ (rR σ 7))) dX14_line_222 zw2475 (rv_g rfl (kJ.R rfl) g0) (kk := ?_)
                              refine y_getN hC (pc := 225) zf13 (rOb_k g0) 8 (v := .ref (κ (1000 * ((rR σ 7) + 1) + 8))) dX14_line_225 zw2326 (rv_c rfl) (kk := ?_)
                              refine z_aload_n hC (pc := 228) 0 dX14_line_228 rfl rfl ?_
                              refine y_get hC (pc := 229) zf14 rOb_0 7 (v := .ref (κ (rR σ 7))) dX14_line_229 zw2475 (rv_g rfl (kJ.R rfl) g0) (kk := ?_)
                              refine y_getN hC (pc := 232) zf13 (rOb_k g0) 9 (v := iv (rF s70 (rR σ 7) 9)) dX14_line_232 zw2328 (rv_i (Or.inl rfl) rfl) (kk := ?_)
                              have h := h (Ws70.f _ _)
                              refine z_aload_n hC (pc := 235) 0 dX14_line_235 rfl rfl ?_
                              refine y_get hC (pc := 236) zf14 rOb_0 35 (v := .ref (κ 1035)) dX14_line_236 zw2502 (rv_c rfl) (kk := ?_)
                              refine z_iload hC (pc := 239) 2 dX14_line_239 rfl ?_
                              obtain ⟨b75, h⟩ := h
                              refine y_iald hC (pc := 241) (rAr_m rfl) dX14_line_241 b75 (v := (rA s70 1035 y72)) ((A_sA_ne (by decide)).trans rfl) (kk := ?_)
                              have h := h (Ws70.a _ _)
                              refine y_i2b hC (pc := 242) dX14_line_242 ?_
                              obtain ⟨b76, h⟩ := h
                              refine y_bast hC (pc := 243) (rAr_k g0 rfl rfl) dX14_line_243 b76 (v := (f_i2b (rA s70 1035 y72))) (kk := ?_)
                              have W77 := W74.sA (p := (1000 * ((rR σ 7) + 1) + 8)) (i := (rF s70 (rR σ 7) 9)) (x := (inar .byte (f_i2b (rA s70 1035 y72)))) (inar_rng _ _)
                              refine z_aload_n hC (pc := 244) 0 dX14_line_244 rfl rfl ?_
                              refine y_get hC (pc := 245) zf14 rOb_0 7 (v := .ref (κ (rR σ 7))) dX14_line_245 zw2475 (rv_g rfl (kJ.R rfl) g0) (kk := ?_)
                              refine z_dup hC (pc := 248) dX14_line_248 rfl ?_
                              refine y_getN hC (pc := 249) zf13 (rOb_k g0) 9 (v := iv (rF s70 (rR σ 7) 9)) dX14_line_249 zw2328 (rv_i (Or.inl rfl) rfl) (kk := ?_)
                              refine z_iconst hC (pc := 252) (v := Int32.ofInt 1) dX14_line_252 (by decide) ?_
                              refine y_iadd hC (pc := 253) (v := ((rF s70 (rR σ 7) 9) + 1)) dX14_line_253 rfl ?_
                              obtain ⟨r78, h⟩ := h
                              refine y_putIN hC (pc := 254) zf13 (rOb_k g0) 9 (x := ((rF s70 (rR σ 7) 9) + 1)) dX14_line_254 zw2328 (Or.inl rfl) rfl rfl (kk := ?_)
                              have W79 := W77.sF (q := (rR σ 7)) (f := 9) (x := ((rF s70 (rR σ 7) 9) + 1)) r78
                              refine y_iinc hC (pc := 257) (v := (y72 + 1)) (lv' := [(8, iv (y72 + 1)), (0, .ref (κ 0)), (5, iv y71)]) 2 dX14_line_257 rfl rfl (by decide) rfl ?_
                              refine z_goto hC (pc := 260) 206 dX14_line_260 (by decide) ?_
                              refine z_lvs [1, 2, 0] rfl ?_
                              obtain ⟨r80, h⟩ := h
                              obtain ⟨hI, hm⟩ := h
                              exact ih206 (sF (sA (sA s70 1037 y72 (inar .boolean 1)) (1000 * ((rR σ 7) + 1) + 8) (rF s70 (rR σ 7) 9) (inar .byte (f_i2b (rA s70 1035 y72)))) (rR σ 7) 9 ((rF s70 (rR σ 7) 9) + 1)) y71 (y72 + 1) W79 hy71 r80 (rKeep.tr (rKeep.tr (rKeep.tr (rKeep.tr rKeep.rf kJ rfl rfl rfl rfl rfl) (rKeep.sA0 (f := 37) (by decide)) rfl rfl rfl rfl rfl) (rKeep.sAk (f := 8) g0 (by decide)) rfl rfl rfl rfl rfl) (rKeep.sFk (f := 9) g0) rfl rfl rfl rfl rfl) hI (by omega)
                        refine z_lvs [3, 6, 0] rfl ?_
                        exact j206 _ (sA s14 (1000 * ((rR σ 7) + 1) + 4) (rA s14 1035 y15) (((4096 * (rF s14 (rR σ 7) 9)) + y15) - x1)) y15 x1 W69 hy15 hx1 (rKeep.tr (rKeep.tr rKeep.rf kJ rfl rfl rfl rfl rfl) (rKeep.sAk (f := 4) g0 (by decide)) rfl rfl rfl rfl rfl) h (Nat.le_refl _)
                      · have h := hF c
                        refine z_iload hC (pc := 153) 0 dX14_line_153 rfl ?_
                        refine z_bipush hC (pc := 155) (v := Int32.ofInt 6) dX14_line_155 (by decide) ?_
                        obtain ⟨hT, hF⟩ := h
                        refine y_icmp_eq hC (pc := 157) 168 (Ws14.a _ _) (r_lit rfl) dX14_line_157 (by decide) (fun c => ?_) (fun c => ?_)
                        · have h := hT c
                          refine z_aload_n hC (pc := 168) 1 dX14_line_168 rfl rfl ?_
                          refine y_get hC (pc := 169) zf14 rOb_0 35 (v := .ref (κ 1035)) dX14_line_169 zw2502 (rv_c rfl) (kk := ?_)
                          refine z_iload hC (pc := 172) 4 dX14_line_172 rfl ?_
                          obtain ⟨b81, h⟩ := h
                          refine y_iald hC (pc := 174) (rAr_m rfl) dX14_line_174 b81 (v := (rA s14 1035 y15)) rfl (kk := ?_)
                          have h := h (Ws14.a _ _)
                          refine z_istore hC (pc := 175) (lv' := [(7, iv (rA s14 1035 y15)), (6, iv (rA s14 1034 y15)), (0, .ref (κ 0)), (1, iv x1), (2, iv x2), (5, iv y15)]) dX14_line_175 (by decide) rfl ?_
                          refine z_aload_n hC (pc := 177) 2 dX14_line_177 rfl rfl ?_
                          refine y_get hC (pc := 178) zf14 rOb_0 7 (v := .ref (κ (rR σ 7))) dX14_line_178 zw2475 (rv_g rfl (kJ.R rfl) g0) (kk := ?_)
                          refine y_getN hC (pc := 181) zf13 (rOb_k g0) 4 (v := .ref (κ (1000 * ((rR σ 7) + 1) + 4))) dX14_line_181 zw2318 (rv_c rfl) (kk := ?_)
                          refine z_iload hC (pc := 184) 0 dX14_line_184 rfl ?_
                          refine z_sipush hC (pc := 186) (v := Int32.ofInt 4096) dX14_line_186 (by decide) ?_
                          refine z_aload_n hC (pc := 189) 2 dX14_line_189 rfl rfl ?_
                          refine y_get hC (pc := 190) zf14 rOb_0 7 (v := .ref (κ (rR σ 7))) dX14_line_190 zw2475 (rv_g rfl (kJ.R rfl) g0) (kk := ?_)
                          refine y_getN hC (pc := 193) zf13 (rOb_k g0) 9 (v := iv (rF s14 (rR σ 7) 9)) dX14_line_193 zw2328 (rv_i (Or.inl rfl) rfl) (kk := ?_)
                          have h := h (Ws14.f _ _)
                          refine y_imul hC (pc := 196) (v := (4096 * (rF s14 (rR σ 7) 9))) dX14_line_196 rfl ?_
                          refine z_iload hC (pc := 197) 5 dX14_line_197 rfl ?_
                          refine y_iadd hC (pc := 199) (v := ((4096 * (rF s14 (rR σ 7) 9)) + y15)) dX14_line_199 rfl ?_
                          refine z_iload_n hC (pc := 200) 3 dX14_line_200 rfl rfl ?_
                          refine y_isub hC (pc := 201) (v := (((4096 * (rF s14 (rR σ 7) 9)) + y15) - x1)) dX14_line_201 rfl ?_
                          obtain ⟨b82, h⟩ := h
                          obtain ⟨r83, h⟩ := h
                          refine y_iast hC (pc := 202) (rAr_k g0 rfl rfl) dX14_line_202 b82 (v := (((4096 * (rF s14 (rR σ 7) 9)) + y15) - x1)) (kk := ?_)
                          have W84 := Ws14.sA (p := (1000 * ((rR σ 7) + 1) + 4)) (i := (rA s14 1035 y15)) (x := (((4096 * (rF s14 (rR σ 7) 9)) + y15) - x1)) r83
                          refine z_iload_n hC (pc := 203) 3 dX14_line_203 rfl rfl ?_
                          refine z_istore hC (pc := 204) (lv' := [(8, iv x1), (7, iv (rA s14 1035 y15)), (6, iv (rA s14 1034 y15)), (0, .ref (κ 0)), (1, iv x1), (2, iv x2), (5, iv y15)]) dX14_line_204 (by decide) rfl ?_
                          have j206 : ∀ (d206 : Nat), ∀ (s85 : rS) (y86 : Int) (y87 : Int), rWF s85 → rng y86 → rng y87 → rKeep 0 0x200 0x2000000000 0x110 0 σ s85 → inv_X14_line_206 σ x1 x2 s85 y86 y87 → (mu_X14_line_206 σ x1 x2 s85 y86 y87) ≤ d206 → zS X G 9 (rW G κ s85) [(0, .ref (κ 0)), (5, iv y86), (8, iv y87)] 0 0 206 [] := by
                            intro d206
                            induction d206 with
                            | zero =>
                              intro s85 y86 y87 Ws85 hy86 hy87 kJ hI hmu
                              exact absurd hmu (by have := h_206m  s85 y86 y87 Ws85 hy86 hy87 (WNp.keep kJ rfl rfl rfl rfl) (kJ.R rfl) (kJ.F rfl) (fun i => kJ.A (f := 34) (by decide) rfl) hI; omega)
                            | succ d206 ih206 =>
                              intro s85 y86 y87 Ws85 hy86 hy87 kJ hI hmu206
                              have h := h_206  s85 y86 y87 Ws85 hy86 hy87 (WNp.keep kJ rfl rfl rfl rfl) (kJ.R rfl) (kJ.F rfl) (fun i => kJ.A (f := 34) (by decide) rfl) hI
                              refine z_iload hC (pc := 206) 2 dX14_line_206 rfl ?_
                              refine z_iload hC (pc := 208) 1 dX14_line_208 rfl ?_
                              obtain ⟨hT, hF⟩ := h
                              refine y_icmp_ge hC (pc := 210) 263 hy87 hy86 dX14_line_210 (by decide) (fun c => ?_) (fun c => ?_)
                              · have h := hT c
                                exact y_retv hR dX14_line_263 Ws85 (Nat.le_of_ble_eq_true rfl) (Nat.le_of_ble_eq_true rfl) ⟨(rKeep.tr rKeep.rf kJ rfl rfl rfl rfl rfl), h⟩
                              · have h := hF c
                                refine z_aload_n hC (pc := 213) 0 dX14_line_213 rfl rfl ?_
                                refine y_get hC (pc := 214) zf14 rOb_0 37 (v := .ref (κ 1037)) dX14_line_214 zw2504 (rv_c rfl) (kk := ?_)
                                refine z_iload hC (pc := 217) 2 dX14_line_217 rfl ?_
                                refine z_iconst hC (pc := 219) (v := Int32.ofInt 1) dX14_line_219 (by decide) ?_
                                obtain ⟨b88, h⟩ := h
                                refine y_zast hC (pc := 220) (rAr_m rfl) dX14_line_220 b88 (v := 1) (kk := ?_)
                                have W89 := Ws85.sA (p := 1037) (i := y87) (x := (inar .boolean 1)) (inar_rng _ _)
                                refine z_aload_n hC (pc := 221) 0 dX14_line_221 rfl rfl ?_
                                refine y_get hC (pc := 222) zf14 rOb_0 7 (v := .ref (κ (rR σ 7))) dX14_line_222 zw2475 (rv_g rfl (kJ.R rfl) g0) (kk := ?_)
                                refine y_getN hC (pc := 225) zf13 (rOb_k g0) 8 (v := .ref (κ (1000 * ((rR σ 7) + 1) + 8))) dX14_line_225 zw2326 (rv_c rfl) (kk := ?_)
                                refine z_aload_n hC (pc := 228) 0 dX14_line_228 rfl rfl ?_
                                refine y_get hC (pc := 229) zf14 rOb_0 7 (v := .ref (κ (rR σ 7))) dX14_line_229 zw2475 (rv_g rfl (kJ.R rfl) g0) (kk := ?_)
                                refine y_getN hC (pc := 232) zf13 (rOb_k g0) 9 (v := iv (rF s85 (rR σ 7) 9)) dX14_line_232 zw2328 (rv_i (Or.inl rfl) rfl) (kk := ?_)
                                have h := h (Ws85.f _ _)
                                refine z_aload_n hC (pc := 235) 0 dX14_line_235 rfl rfl ?_
                                refine y_get hC (pc := 236) zf14 rOb_0 35 (v := .ref (κ 1035)) dX14_line_236 zw2502 (rv_c rfl) (kk := ?_)
                                refine z_iload hC (pc := 239) 2 dX14_line_239 rfl ?_
                                obtain ⟨b90, h⟩ := h
                                refine y_iald hC (pc := 241) (rAr_m rfl) dX14_line_241 b90 (v := (rA s85 1035 y87)) ((A_sA_ne (by decide)).trans rfl) (kk := ?_)
                                have h := h (Ws85.a _ _)
                                refine y_i2b hC (pc := 242) dX14_line_242 ?_
                                obtain ⟨b91, h⟩ := h
                                refine y_bast hC (pc := 243) (rAr_k g0 rfl rfl) dX14_line_243 b91 (v := (f_i2b (rA s85 1035 y87))) (kk := ?_)
                                have W92 := W89.sA (p := (1000 * ((rR σ 7) + 1) + 8)) (i := (rF s85 (rR σ 7) 9)) (x := (inar .byte (f_i2b (rA s85 1035 y87)))) (inar_rng _ _)
                                refine z_aload_n hC (pc := 244) 0 dX14_line_244 rfl rfl ?_
                                refine y_get hC (pc := 245) zf14 rOb_0 7 (v := .ref (κ (rR σ 7))) dX14_line_245 zw2475 (rv_g rfl (kJ.R rfl) g0) (kk := ?_)
                                refine z_dup hC (pc := 248) dX14_line_248 rfl ?_
                                refine y_getN hC (pc := 249) zf13 (rOb_k g0) 9 (v := iv (rF s85 (rR σ 7) 9)) dX14_line_249 zw2328 (rv_i (Or.inl rfl) rfl) (kk := ?_)
                                refine z_iconst hC (pc := 252) (v := Int32.ofInt 1) dX14_line_252 (by decide) ?_
                                refine y_iadd hC (pc := 253) (v := ((rF s85 (rR σ 7) 9) + 1)) dX14_line_253 rfl ?_
                                obtain ⟨r93, h⟩ := h
                                refine y_putIN hC (pc := 254) zf13 (rOb_k g0) 9 (x := ((rF s85 (rR σ 7) 9) + 1)) dX14_line_254 zw2328 (Or.inl rfl) rfl rfl (kk := ?_)
                                have W94 := W92.sF (q := (rR σ 7)) (f := 9) (x := ((rF s85 (rR σ 7) 9) + 1)) r93
                                refine y_iinc hC (pc := 257) (v := (y87 + 1)) (lv' := [(8, iv (y87 + 1)), (0, .ref (κ 0)), (5, iv y86)]) 2 dX14_line_257 rfl rfl (by decide) rfl ?_
                                refine z_goto hC (pc := 260) 206 dX14_line_260 (by decide) ?_
                                refine z_lvs [1, 2, 0] rfl ?_
                                obtain ⟨r95, h⟩ := h
                                obtain ⟨hI, hm⟩ := h
                                exact ih206 (sF (sA (sA s85 1037 y87 (inar .boolean 1)) (1000 * ((rR σ 7) + 1) + 8) (rF s85 (rR σ 7) 9) (inar .byte (f_i2b (rA s85 1035 y87)))) (rR σ 7) 9 ((rF s85 (rR σ 7) 9) + 1)) y86 (y87 + 1) W94 hy86 r95 (rKeep.tr (rKeep.tr (rKeep.tr (rKeep.tr rKeep.rf kJ rfl rfl rfl rfl rfl) (rKeep.sA0 (f := 37) (by decide)) rfl rfl rfl rfl rfl) (rKeep.sAk (f := 8) g0 (by decide)) rfl rfl rfl rfl rfl) (rKeep.sFk (f := 9) g0) rfl rfl rfl rfl rfl) hI (by omega)
                          refine z_lvs [3, 6, 0] rfl ?_
                          exact j206 _ (sA s14 (1000 * ((rR σ 7) + 1) + 4) (rA s14 1035 y15) (((4096 * (rF s14 (rR σ 7) 9)) + y15) - x1)) y15 x1 W84 hy15 hx1 (rKeep.tr (rKeep.tr rKeep.rf kJ rfl rfl rfl rfl rfl) (rKeep.sAk (f := 4) g0 (by decide)) rfl rfl rfl rfl rfl) h (Nat.le_refl _)
                        · have h := hF c
                          refine z_iload hC (pc := 160) 0 dX14_line_160 rfl ?_
                          refine z_bipush hC (pc := 162) (v := Int32.ofInt 7) dX14_line_162 (by decide) ?_
                          obtain ⟨hT, hF⟩ := h
                          refine y_icmp_eq hC (pc := 164) 168 (Ws14.a _ _) (r_lit rfl) dX14_line_164 (by decide) (fun c => ?_) (fun c => ?_)
                          · have h := hT c
                            refine z_aload_n hC (pc := 168) 1 dX14_line_168 rfl rfl ?_
                            refine y_get hC (pc := 169) zf14 rOb_0 35 (v := .ref (κ 1035)) dX14_line_169 zw2502 (rv_c rfl) (kk := ?_)
                            refine z_iload hC (pc := 172) 4 dX14_line_172 rfl ?_
                            obtain ⟨b96, h⟩ := h
                            refine y_iald hC (pc := 174) (rAr_m rfl) dX14_line_174 b96 (v := (rA s14 1035 y15)) rfl (kk := ?_)
                            have h := h (Ws14.a _ _)
                            refine z_istore hC (pc := 175) (lv' := [(7, iv (rA s14 1035 y15)), (6, iv (rA s14 1034 y15)), (0, .ref (κ 0)), (1, iv x1), (2, iv x2), (5, iv y15)]) dX14_line_175 (by decide) rfl ?_
                            refine z_aload_n hC (pc := 177) 2 dX14_line_177 rfl rfl ?_
                            refine y_get hC (pc := 178) zf14 rOb_0 7 (v := .ref (κ (rR σ 7))) dX14_line_178 zw2475 (rv_g rfl (kJ.R rfl) g0) (kk := ?_)
                            refine y_getN hC (pc := 181) zf13 (rOb_k g0) 4 (v := .ref (κ (1000 * ((rR σ 7) + 1) + 4))) dX14_line_181 zw2318 (rv_c rfl) (kk := ?_)
                            refine z_iload hC (pc := 184) 0 dX14_line_184 rfl ?_
                            refine z_sipush hC (pc := 186) (v := Int32.ofInt 4096) dX14_line_186 (by decide) ?_
                            refine z_aload_n hC (pc := 189) 2 dX14_line_189 rfl rfl ?_
                            refine y_get hC (pc := 190) zf14 rOb_0 7 (v := .ref (κ (rR σ 7))) dX14_line_190 zw2475 (rv_g rfl (kJ.R rfl) g0) (kk := ?_)
                            refine y_getN hC (pc := 193) zf13 (rOb_k g0) 9 (v := iv (rF s14 (rR σ 7) 9)) dX14_line_193 zw2328 (rv_i (Or.inl rfl) rfl) (kk := ?_)
                            have h := h (Ws14.f _ _)
                            refine y_imul hC (pc := 196) (v := (4096 * (rF s14 (rR σ 7) 9))) dX14_line_196 rfl ?_
                            refine z_iload hC (pc := 197) 5 dX14_line_197 rfl ?_
                            refine y_iadd hC (pc := 199) (v := ((4096 * (rF s14 (rR σ 7) 9)) + y15)) dX14_line_199 rfl ?_
                            refine z_iload_n hC (pc := 200) 3 dX14_line_200 rfl rfl ?_
                            refine y_isub hC (pc := 201) (v := (((4096 * (rF s14 (rR σ 7) 9)) + y15) - x1)) dX14_line_201 rfl ?_
                            obtain ⟨b97, h⟩ := h
                            obtain ⟨r98, h⟩ := h
                            refine y_iast hC (pc := 202) (rAr_k g0 rfl rfl) dX14_line_202 b97 (v := (((4096 * (rF s14 (rR σ 7) 9)) + y15) - x1)) (kk := ?_)
                            have W99 := Ws14.sA (p := (1000 * ((rR σ 7) + 1) + 4)) (i := (rA s14 1035 y15)) (x := (((4096 * (rF s14 (rR σ 7) 9)) + y15) - x1)) r98
                            refine z_iload_n hC (pc := 203) 3 dX14_line_203 rfl rfl ?_
                            refine z_istore hC (pc := 204) (lv' := [(8, iv x1), (7, iv (rA s14 1035 y15)), (6, iv (rA s14 1034 y15)), (0, .ref (κ 0)), (1, iv x1), (2, iv x2), (5, iv y15)]) dX14_line_204 (by decide) rfl ?_
                            have j206 : ∀ (d206 : Nat), ∀ (s100 : rS) (y101 : Int) (y102 : Int), rWF s100 → rng y101 → rng y102 → rKeep 0 0x200 0x2000000000 0x110 0 σ s100 → inv_X14_line_206 σ x1 x2 s100 y101 y102 → (mu_X14_line_206 σ x1 x2 s100 y101 y102) ≤ d206 → zS X G 9 (rW G κ s100) [(0, .ref (κ 0)), (5, iv y101), (8, iv y102)] 0 0 206 [] := by
                              intro d206
                              induction d206 with
                              | zero =>
                                intro s100 y101 y102 Ws100 hy101 hy102 kJ hI hmu
                                exact absurd hmu (by have := h_206m  s100 y101 y102 Ws100 hy101 hy102 (WNp.keep kJ rfl rfl rfl rfl) (kJ.R rfl) (kJ.F rfl) (fun i => kJ.A (f := 34) (by decide) rfl) hI; omega)
                              | succ d206 ih206 =>
                                intro s100 y101 y102 Ws100 hy101 hy102 kJ hI hmu206
                                have h := h_206  s100 y101 y102 Ws100 hy101 hy102 (WNp.keep kJ rfl rfl rfl rfl) (kJ.R rfl) (kJ.F rfl) (fun i => kJ.A (f := 34) (by decide) rfl) hI
                                refine z_iload hC (pc := 206) 2 dX14_line_206 rfl ?_
                                refine z_iload hC (pc := 208) 1 dX14_line_208 rfl ?_
                                obtain ⟨hT, hF⟩ := h
                                refine y_icmp_ge hC (pc := 210) 263 hy102 hy101 dX14_line_210 (by decide) (fun c => ?_) (fun c => ?_)
                                · have h := hT c
                                  exact y_retv hR dX14_line_263 Ws100 (Nat.le_of_ble_eq_true rfl) (Nat.le_of_ble_eq_true rfl) ⟨(rKeep.tr rKeep.rf kJ rfl rfl rfl rfl rfl), h⟩
                                · have h := hF c
                                  refine z_aload_n hC (pc := 213) 0 dX14_line_213 rfl rfl ?_
                                  refine y_get hC (pc := 214) zf14 rOb_0 37 (v := .ref (κ 1037)) dX14_line_214 zw2504 (rv_c rfl) (kk := ?_)
                                  refine z_iload hC (pc := 217) 2 dX14_line_217 rfl ?_
                                  refine z_iconst hC (pc := 219) (v := Int32.ofInt 1) dX14_line_219 (by decide) ?_
                                  obtain ⟨b103, h⟩ := h
                                  refine y_zast hC (pc := 220) (rAr_m rfl) dX14_line_220 b103 (v := 1) (kk := ?_)
                                  have W104 := Ws100.sA (p := 1037) (i := y102) (x := (inar .boolean 1)) (inar_rng _ _)
                                  refine z_aload_n hC (pc := 221) 0 dX14_line_221 rfl rfl ?_
                                  refine y_get hC (pc := 222) zf14 rOb_0 7 (v := .ref (κ (rR σ 7))) dX14_line_222 zw2475 (rv_g rfl (kJ.R rfl) g0) (kk := ?_)
                                  refine y_getN hC (pc := 225) zf13 (rOb_k g0) 8 (v := .ref (κ (1000 * ((rR σ 7) + 1) + 8))) dX14_line_225 zw2326 (rv_c rfl) (kk := ?_)
                                  refine z_aload_n hC (pc := 228) 0 dX14_line_228 rfl rfl ?_
                                  refine y_get hC (pc := 229) zf14 rOb_0 7 (v := .ref (κ (rR σ 7))) dX14_line_229 zw2475 (rv_g rfl (kJ.R rfl) g0) (kk := ?_)
                                  refine y_getN hC (pc := 232) zf13 (rOb_k g0) 9 (v := iv (rF s100 (rR σ 7) 9)) dX14_line_232 zw2328 (rv_i (Or.inl rfl) rfl) (kk := ?_)
                                  have h := h (Ws100.f _ _)
                                  refine z_aload_n hC (pc := 235) 0 dX14_line_235 rfl rfl ?_
                                  refine y_get hC (pc := 236) zf14 rOb_0 35 (v := .ref (κ 1035)) dX14_line_236 zw2502 (rv_c rfl) (kk := ?_)
                                  refine z_iload hC (pc := 239) 2 dX14_line_239 rfl ?_
                                  obtain ⟨b105, h⟩ := h
                                  refine y_iald hC (pc := 241) (rAr_m rfl) dX14_line_241 b105 (v := (rA s100 1035 y102)) ((A_sA_ne (by decide)).trans rfl) (kk := ?_)
                                  have h := h (Ws100.a _ _)
                                  refine y_i2b hC (pc := 242) dX14_line_242 ?_
                                  obtain ⟨b106, h⟩ := h
                                  refine y_bast hC (pc := 243) (rAr_k g0 rfl rfl) dX14_line_243 b106 (v := (f_i2b (rA s100 1035 y102))) (kk := ?_)
                                  have W107 := W104.sA (p := (1000 * ((rR σ 7) + 1) + 8)) (i := (rF s100 (rR σ 7) 9)) (x := (inar .byte (f_i2b (rA s100 1035 y102)))) (inar_rng _ _)
                                  refine z_aload_n hC (pc := 244) 0 dX14_line_244 rfl rfl ?_
                                  refine y_get hC (pc := 245) zf14 rOb_0 7 (v := .ref (κ (rR σ 7))) dX14_line_245 zw2475 (rv_g rfl (kJ.R rfl) g0) (kk := ?_)
                                  refine z_dup hC (pc := 248) dX14_line_248 rfl ?_
                                  refine y_getN hC (pc := 249) zf13 (rOb_k g0) 9 (v := iv (rF s100 (rR σ 7) 9)) dX14_line_249 zw2328 (rv_i (Or.inl rfl) rfl) (kk := ?_)
                                  refine z_iconst hC (pc := 252) (v := Int32.ofInt 1) dX14_line_252 (by decide) ?_
                                  refine y_iadd hC (pc := 253) (v := ((rF s100 (rR σ 7) 9) + 1)) dX14_line_253 rfl ?_
                                  obtain ⟨r108, h⟩ := h
                                  refine y_putIN hC (pc := 254) zf13 (rOb_k g0) 9 (x := ((rF s100 (rR σ 7) 9) + 1)) dX14_line_254 zw2328 (Or.inl rfl) rfl rfl (kk := ?_)
                                  have W109 := W107.sF (q := (rR σ 7)) (f := 9) (x := ((rF s100 (rR σ 7) 9) + 1)) r108
                                  refine y_iinc hC (pc := 257) (v := (y102 + 1)) (lv' := [(8, iv (y102 + 1)), (0, .ref (κ 0)), (5, iv y101)]) 2 dX14_line_257 rfl rfl (by decide) rfl ?_
                                  refine z_goto hC (pc := 260) 206 dX14_line_260 (by decide) ?_
                                  refine z_lvs [1, 2, 0] rfl ?_
                                  obtain ⟨r110, h⟩ := h
                                  obtain ⟨hI, hm⟩ := h
                                  exact ih206 (sF (sA (sA s100 1037 y102 (inar .boolean 1)) (1000 * ((rR σ 7) + 1) + 8) (rF s100 (rR σ 7) 9) (inar .byte (f_i2b (rA s100 1035 y102)))) (rR σ 7) 9 ((rF s100 (rR σ 7) 9) + 1)) y101 (y102 + 1) W109 hy101 r110 (rKeep.tr (rKeep.tr (rKeep.tr (rKeep.tr rKeep.rf kJ rfl rfl rfl rfl rfl) (rKeep.sA0 (f := 37) (by decide)) rfl rfl rfl rfl rfl) (rKeep.sAk (f := 8) g0 (by decide)) rfl rfl rfl rfl rfl) (rKeep.sFk (f := 9) g0) rfl rfl rfl rfl rfl) hI (by omega)
                            refine z_lvs [3, 6, 0] rfl ?_
                            exact j206 _ (sA s14 (1000 * ((rR σ 7) + 1) + 4) (rA s14 1035 y15) (((4096 * (rF s14 (rR σ 7) 9)) + y15) - x1)) y15 x1 W99 hy15 hx1 (rKeep.tr (rKeep.tr rKeep.rf kJ rfl rfl rfl rfl rfl) (rKeep.sAk (f := 4) g0 (by decide)) rfl rfl rfl rfl rfl) h (Nat.le_refl _)
                          · have h := hF c
                            exact y_retv hR dX14_line_167 Ws14 (Nat.le_of_ble_eq_true rfl) (Nat.le_of_ble_eq_true rfl) ⟨(rKeep.tr rKeep.rf kJ rfl rfl rfl rfl rfl), h⟩
                    · have h := hF c
                      exact y_retv hR dX14_line_137 Ws14 (Nat.le_of_ble_eq_true rfl) (Nat.le_of_ble_eq_true rfl) ⟨(rKeep.tr rKeep.rf kJ rfl rfl rfl rfl rfl), h⟩
                · have h := hF c
                  refine y_iinc hC (pc := 119) (v := (y15 + 1)) (lv' := [(5, iv (y15 + 1)), (0, .ref (κ 0)), (1, iv x1), (2, iv x2)]) 3 dX14_line_119 rfl rfl (by decide) rfl ?_
                  refine z_goto hC (pc := 122) 104 dX14_line_122 (by decide) ?_
                  refine z_lvs [1, 2, 3, 0] rfl ?_
                  obtain ⟨r111, h⟩ := h
                  obtain ⟨hI, hm⟩ := h
                  exact ih104 s14 (y15 + 1) Ws14 r111 (rKeep.tr rKeep.rf kJ rfl rfl rfl rfl rfl) hI (by omega)
          refine z_lvs [1, 2, 3, 0] rfl ?_
          exact j104 _ s10 x1 Ws10 hx1 (rKeep.tr rKeep.rf kJ rfl rfl rfl rfl rfl) h (Nat.le_refl _)
        · have h := hF c
          refine z_iload hC (pc := 52) 4 dX14_line_52 rfl ?_
          obtain ⟨hT, hF⟩ := h
          refine y_if_ne hC (pc := 54) 101 hy12 dX14_line_54 (by decide) (fun c => ?_) (fun c => ?_)
          · have h := hT c
            refine z_iload_n hC (pc := 101) 1 dX14_line_101 rfl rfl ?_
            refine z_istore hC (pc := 102) (lv' := [(5, iv x1), (0, .ref (κ 0)), (1, iv x1), (2, iv x2), (3, iv y11), (4, iv y12)]) dX14_line_102 (by decide) rfl ?_
            have j104 : ∀ (d104 : Nat), ∀ (s112 : rS) (y113 : Int), rWF s112 → rng y113 → rKeep 0 0x200 0x2000000000 0x110 0 σ s112 → inv_X14_line_104 σ x1 x2 s112 y113 → (mu_X14_line_104 σ x1 x2 s112 y113) ≤ d104 → zS X G 9 (rW G κ s112) [(0, .ref (κ 0)), (1, iv x1), (2, iv x2), (5, iv y113)] 0 0 104 [] := by
              intro d104
              induction d104 with
              | zero =>
                intro s112 y113 Ws112 hy113 kJ hI hmu
                exact absurd hmu (by have := h_104m  s112 y113 Ws112 hy113 (WNp.keep kJ rfl rfl rfl rfl) (kJ.R rfl) (kJ.F rfl) (fun i => kJ.A (f := 34) (by decide) rfl) hI; omega)
              | succ d104 ih104 =>
                intro s112 y113 Ws112 hy113 kJ hI hmu104
                have h := h_104  s112 y113 Ws112 hy113 (WNp.keep kJ rfl rfl rfl rfl) (kJ.R rfl) (kJ.F rfl) (fun i => kJ.A (f := 34) (by decide) rfl) hI
                refine z_iload hC (pc := 104) 3 dX14_line_104 rfl ?_
                refine z_iload_n hC (pc := 106) 2 dX14_line_106 rfl rfl ?_
                obtain ⟨hT, hF⟩ := h
                refine y_icmp_ge hC (pc := 107) 125 hy113 hx2 dX14_line_107 (by decide) (fun c => ?_) (fun c => ?_)
                · have h := hT c
                  refine z_iload hC (pc := 125) 3 dX14_line_125 rfl ?_
                  refine z_iload_n hC (pc := 127) 1 dX14_line_127 rfl rfl ?_
                  obtain ⟨hT, hF⟩ := h
                  refine y_icmp_eq hC (pc := 128) 137 hy113 hx1 dX14_line_128 (by decide) (fun c => ?_) (fun c => ?_)
                  · have h := hT c
                    exact y_retv hR dX14_line_137 Ws112 (Nat.le_of_ble_eq_true rfl) (Nat.le_of_ble_eq_true rfl) ⟨(rKeep.tr rKeep.rf kJ rfl rfl rfl rfl rfl), h⟩
                  · have h := hF c
                    refine z_iload hC (pc := 131) 3 dX14_line_131 rfl ?_
                    refine z_iload_n hC (pc := 133) 2 dX14_line_133 rfl rfl ?_
                    obtain ⟨hT, hF⟩ := h
                    refine y_icmp_ne hC (pc := 134) 138 hy113 hx2 dX14_line_134 (by decide) (fun c => ?_) (fun c => ?_)
                    · have h := hT c
                      refine z_aload_n hC (pc := 138) 0 dX14_line_138 rfl rfl ?_
                      refine y_get hC (pc := 139) zf14 rOb_0 34 (v := .ref (κ 1034)) dX14_line_139 zw2501 (rv_c rfl) (kk := ?_)
                      refine z_iload hC (pc := 142) 3 dX14_line_142 rfl ?_
                      obtain ⟨b114, h⟩ := h
                      refine y_iald hC (pc := 144) (rAr_m rfl) dX14_line_144 b114 (v := (rA s112 1034 y113)) rfl (kk := ?_)
                      have h := h (Ws112.a _ _)
                      refine z_istore hC (pc := 145) (lv' := [(6, iv (rA s112 1034 y113)), (0, .ref (κ 0)), (1, iv x1), (2, iv x2), (5, iv y113)]) dX14_line_145 (by decide) rfl ?_
                      refine z_iload hC (pc := 147) 0 dX14_line_147 rfl ?_
                      refine z_iconst hC (pc := 149) (v := Int32.ofInt 4) dX14_line_149 (by decide) ?_
                      obtain ⟨hT, hF⟩ := h
                      refine y_icmp_eq hC (pc := 150) 168 (Ws112.a _ _) (r_lit rfl) dX14_line_150 (by decide) (fun c => ?_) (fun c => ?_)
                      · have h := hT c
                        refine z_aload_n hC (pc := 168) 1 dX14_line_168 rfl rfl ?_
                        refine y_get hC (pc := 169) zf14 rOb_0 35 (v := .ref (κ 1035)) dX14_line_169 zw2502 (rv_c rfl) (kk := ?_)
                        refine z_iload hC (pc := 172) 4 dX14_line_172 rfl ?_
                        obtain ⟨b115, h⟩ := h
                        refine y_iald hC (pc := 174) (rAr_m rfl) dX14_line_174 b115 (v := (rA s112 1035 y113)) rfl (kk := ?_)
                        have h := h (Ws112.a _ _)
                        refine z_istore hC (pc := 175) (lv' := [(7, iv (rA s112 1035 y113)), (6, iv (rA s112 1034 y113)), (0, .ref (κ 0)), (1, iv x1), (2, iv x2), (5, iv y113)]) dX14_line_175 (by decide) rfl ?_
                        refine z_aload_n hC (pc := 177) 2 dX14_line_177 rfl rfl ?_
                        refine y_get hC (pc := 178) zf14 rOb_0 7 (v := .ref (κ (rR σ 7))) dX14_line_178 zw2475 (rv_g rfl (kJ.R rfl) g0) (kk := ?_)
                        refine y_getN hC (pc := 181) zf13 (rOb_k g0) 4 (v := .ref (κ (1000 * ((rR σ 7) + 1) + 4))) dX14_line_181 zw2318 (rv_c rfl) (kk := ?_)
                        refine z_iload hC (pc := 184) 0 dX14_line_184 rfl ?_
                        refine z_sipush hC (pc := 186) (v := Int32.ofInt 4096) dX14_line_186 (by decide) ?_
                        refine z_aload_n hC (pc := 189) 2 dX14_line_189 rfl rfl ?_
                        refine y_get hC (pc := 190) zf14 rOb_0 7 (v := .ref (κ (rR σ 7))) dX14_line_190 zw2475 (rv_g rfl (kJ.R rfl) g0) (kk := ?_)
                        refine y_getN hC (pc := 193) zf13 (rOb_k g0) 9 (v := iv (rF s112 (rR σ 7) 9)) dX14_line_193 zw2328 (rv_i (Or.inl rfl) rfl) (kk := ?_)
                        have h := h (Ws112.f _ _)
                        refine y_imul hC (pc := 196) (v := (4096 * (rF s112 (rR σ 7) 9))) dX14_line_196 rfl ?_
                        refine z_iload hC (pc := 197) 5 dX14_line_197 rfl ?_
                        refine y_iadd hC (pc := 199) (v := ((4096 * (rF s112 (rR σ 7) 9)) + y113)) dX14_line_199 rfl ?_
                        refine z_iload_n hC (pc := 200) 3 dX14_line_200 rfl rfl ?_
                        refine y_isub hC (pc := 201) (v := (((4096 * (rF s112 (rR σ 7) 9)) + y113) - x1)) dX14_line_201 rfl ?_
                        obtain ⟨b116, h⟩ := h
                        obtain ⟨r117, h⟩ := h
                        refine y_iast hC (pc := 202) (rAr_k g0 rfl rfl) dX14_line_202 b116 (v := (((4096 * (rF s112 (rR σ 7) 9)) + y113) - x1)) (kk := ?_)
                        have W118 := Ws112.sA (p := (1000 * ((rR σ 7) + 1) + 4)) (i := (rA s112 1035 y113)) (x := (((4096 * (rF s112 (rR σ 7) 9)) + y113) - x1)) r117
                        refine z_iload_n hC (pc := 203) 3 dX14_line_203 rfl rfl ?_
                        refine z_istore hC (pc := 204) (lv' := [(8, iv x1), (7, iv (rA s112 1035 y113)), (6, iv (rA s112 1034 y113)), (0, .ref (κ 0)), (1, iv x1), (2, iv x2), (5, iv y113)]) dX14_line_204 (by decide) rfl ?_
                        have j206 : ∀ (d206 : Nat), ∀ (s119 : rS) (y120 : Int) (y121 : Int), rWF s119 → rng y120 → rng y121 → rKeep 0 0x200 0x2000000000 0x110 0 σ s119 → inv_X14_line_206 σ x1 x2 s119 y120 y121 → (mu_X14_line_206 σ x1 x2 s119 y120 y121) ≤ d206 → zS X G 9 (rW G κ s119) [(0, .ref (κ 0)), (5, iv y120), (8, iv y121)] 0 0 206 [] := by
                          intro d206
                          induction d206 with
                          | zero =>
                            intro s119 y120 y121 Ws119 hy120 hy121 kJ hI hmu
                            exact absurd hmu (by have := h_206m  s119 y120 y121 Ws119 hy120 hy121 (WNp.keep kJ rfl rfl rfl rfl) (kJ.R rfl) (kJ.F rfl) (fun i => kJ.A (f := 34) (by decide) rfl) hI; omega)
                          | succ d206 ih206 =>
                            intro s119 y120 y121 Ws119 hy120 hy121 kJ hI hmu206
                            have h := h_206  s119 y120 y121 Ws119 hy120 hy121 (WNp.keep kJ rfl rfl rfl rfl) (kJ.R rfl) (kJ.F rfl) (fun i => kJ.A (f := 34) (by decide) rfl) hI
                            refine z_iload hC (pc := 206) 2 dX14_line_206 rfl ?_
                            refine z_iload hC (pc := 208) 1 dX14_line_208 rfl ?_
                            obtain ⟨hT, hF⟩ := h
                            refine y_icmp_ge hC (pc := 210) 263 hy121 hy120 dX14_line_210 (by decide) (fun c => ?_) (fun c => ?_)
                            · have h := hT c
                              exact y_retv hR dX14_line_263 Ws119 (Nat.le_of_ble_eq_true rfl) (Nat.le_of_ble_eq_true rfl) ⟨(rKeep.tr rKeep.rf kJ rfl rfl rfl rfl rfl), h⟩
                            · have h := hF c
                              refine z_aload_n hC (pc := 213) 0 dX14_line_213 rfl rfl ?_
                              refine y_get hC (pc := 214) zf14 rOb_0 37 (v := .ref (κ 1037)) dX14_line_214 zw2504 (rv_c rfl) (kk := ?_)
                              refine z_iload hC (pc := 217) 2 dX14_line_217 rfl ?_
                              refine z_iconst hC (pc := 219) (v := Int32.ofInt 1) dX14_line_219 (by decide) ?_
                              obtain ⟨b122, h⟩ := h
                              refine y_zast hC (pc := 220) (rAr_m rfl) dX14_line_220 b122 (v := 1) (kk := ?_)
                              have W123 := Ws119.sA (p := 1037) (i := y121) (x := (inar .boolean 1)) (inar_rng _ _)
                              refine z_aload_n hC (pc := 221) 0 dX14_line_221 rfl rfl ?_
                              refine y_get hC (pc := 222) zf14 rOb_0 7 (v := .ref (κ (rR σ 7))) dX14_line_222 zw2475 (rv_g rfl (kJ.R rfl) g0) (kk := ?_)
                              refine y_getN hC (pc := 225) zf13 (rOb_k g0) 8 (v := .ref (κ (1000 * ((rR σ 7) + 1) + 8))) dX14_line_225 zw2326 (rv_c rfl) (kk := ?_)
                              refine z_aload_n hC (pc := 228) 0 dX14_line_228 rfl rfl ?_
                              refine y_get hC (pc := 229) zf14 rOb_0 7 (v := .ref (κ (rR σ 7))) dX14_line_229 zw2475 (rv_g rfl (kJ.R rfl) g0) (kk := ?_)
                              refine y_getN hC (pc := 232) zf13 (rOb_k g0) 9 (v := iv (rF s119 (rR σ 7) 9)) dX14_line_232 zw2328 (rv_i (Or.inl rfl) rfl) (kk := ?_)
                              have h := h (Ws119.f _ _)
                              refine z_aload_n hC (pc := 235) 0 dX14_line_235 rfl rfl ?_
                              refine y_get hC (pc := 236) zf14 rOb_0 35 (v := .ref (κ 1035)) dX14_line_236 zw2502 (rv_c rfl) (kk := ?_)
                              refine z_iload hC (pc := 239) 2 dX14_line_239 rfl ?_
                              obtain ⟨b124, h⟩ := h
                              refine y_iald hC (pc := 241) (rAr_m rfl) dX14_line_241 b124 (v := (rA s119 1035 y121)) ((A_sA_ne (by decide)).trans rfl) (kk := ?_)
                              have h := h (Ws119.a _ _)
                              refine y_i2b hC (pc := 242) dX14_line_242 ?_
                              obtain ⟨b125, h⟩ := h
                              refine y_bast hC (pc := 243) (rAr_k g0 rfl rfl) dX14_line_243 b125 (v := (f_i2b (rA s119 1035 y121))) (kk := ?_)
                              have W126 := W123.sA (p := (1000 * ((rR σ 7) + 1) + 8)) (i := (rF s119 (rR σ 7) 9)) (x := (inar .byte (f_i2b (rA s119 1035 y121)))) (inar_rng _ _)
                              refine z_aload_n hC (pc := 244) 0 dX14_line_244 rfl rfl ?_
                              refine y_get hC (pc := 245) zf14 rOb_0 7 (v := .ref (κ (rR σ 7))) dX14_line_245 zw2475 (rv_g rfl (kJ.R rfl) g0) (kk := ?_)
                              refine z_dup hC (pc := 248) dX14_line_248 rfl ?_
                              refine y_getN hC (pc := 249) zf13 (rOb_k g0) 9 (v := iv (rF s119 (rR σ 7) 9)) dX14_line_249 zw2328 (rv_i (Or.inl rfl) rfl) (kk := ?_)
                              refine z_iconst hC (pc := 252) (v := Int32.ofInt 1) dX14_line_252 (by decide) ?_
                              refine y_iadd hC (pc := 253) (v := ((rF s119 (rR σ 7) 9) + 1)) dX14_line_253 rfl ?_
                              obtain ⟨r127, h⟩ := h
                              refine y_putIN hC (pc := 254) zf13 (rOb_k g0) 9 (x := ((rF s119 (rR σ 7) 9) + 1)) dX14_line_254 zw2328 (Or.inl rfl) rfl rfl (kk := ?_)
                              have W128 := W126.sF (q := (rR σ 7)) (f := 9) (x := ((rF s119 (rR σ 7) 9) + 1)) r127
                              refine y_iinc hC (pc := 257) (v := (y121 + 1)) (lv' := [(8, iv (y121 + 1)), (0, .ref (κ 0)), (5, iv y120)]) 2 dX14_line_257 rfl rfl (by decide) rfl ?_
                              refine z_goto hC (pc := 260) 206 dX14_line_260 (by decide) ?_
                              refine z_lvs [1, 2, 0] rfl ?_
                              obtain ⟨r129, h⟩ := h
                              obtain ⟨hI, hm⟩ := h
                              exact ih206 (sF (sA (sA s119 1037 y121 (inar .boolean 1)) (1000 * ((rR σ 7) + 1) + 8) (rF s119 (rR σ 7) 9) (inar .byte (f_i2b (rA s119 1035 y121)))) (rR σ 7) 9 ((rF s119 (rR σ 7) 9) + 1)) y120 (y121 + 1) W128 hy120 r129 (rKeep.tr (rKeep.tr (rKeep.tr (rKeep.tr rKeep.rf kJ rfl rfl rfl rfl rfl) (rKeep.sA0 (f := 37) (by decide)) rfl rfl rfl rfl rfl) (rKeep.sAk (f := 8) g0 (by decide)) rfl rfl rfl rfl rfl) (rKeep.sFk (f := 9) g0) rfl rfl rfl rfl rfl) hI (by omega)
                        refine z_lvs [3, 6, 0] rfl ?_
                        exact j206 _ (sA s112 (1000 * ((rR σ 7) + 1) + 4) (rA s112 1035 y113) (((4096 * (rF s112 (rR σ 7) 9)) + y113) - x1)) y113 x1 W118 hy113 hx1 (rKeep.tr (rKeep.tr rKeep.rf kJ rfl rfl rfl rfl rfl) (rKeep.sAk (f := 4) g0 (by decide)) rfl rfl rfl rfl rfl) h (Nat.le_refl _)
                      · have h := hF c
                        refine z_iload hC (pc := 153) 0 dX14_line_153 rfl ?_
                        refine z_bipush hC (pc := 155) (v := Int32.ofInt 6) dX14_line_155 (by decide) ?_
                        obtain ⟨hT, hF⟩ := h
                        refine y_icmp_eq hC (pc := 157) 168 (Ws112.a _ _) (r_lit rfl) dX14_line_157 (by decide) (fun c => ?_) (fun c => ?_)
                        · have h := hT c
                          refine z_aload_n hC (pc := 168) 1 dX14_line_168 rfl rfl ?_
                          refine y_get hC (pc := 169) zf14 rOb_0 35 (v := .ref (κ 1035)) dX14_line_169 zw2502 (rv_c rfl) (kk := ?_)
                          refine z_iload hC (pc := 172) 4 dX14_line_172 rfl ?_
                          obtain ⟨b130, h⟩ := h
                          refine y_iald hC (pc := 174) (rAr_m rfl) dX14_line_174 b130 (v := (rA s112 1035 y113)) rfl (kk := ?_)
                          have h := h (Ws112.a _ _)
                          refine z_istore hC (pc := 175) (lv' := [(7, iv (rA s112 1035 y113)), (6, iv (rA s112 1034 y113)), (0, .ref (κ 0)), (1, iv x1), (2, iv x2), (5, iv y113)]) dX14_line_175 (by decide) rfl ?_
                          refine z_aload_n hC (pc := 177) 2 dX14_line_177 rfl rfl ?_
                          refine y_get hC (pc := 178) zf14 rOb_0 7 (v := .ref (κ (rR σ 7))) dX14_line_178 zw2475 (rv_g rfl (kJ.R rfl) g0) (kk := ?_)
                          refine y_getN hC (pc := 181) zf13 (rOb_k g0) 4 (v := .ref (κ (1000 * ((rR σ 7) + 1) + 4))) dX14_line_181 zw2318 (rv_c rfl) (kk := ?_)
                          refine z_iload hC (pc := 184) 0 dX14_line_184 rfl ?_
                          refine z_sipush hC (pc := 186) (v := Int32.ofInt 4096) dX14_line_186 (by decide) ?_
                          refine z_aload_n hC (pc := 189) 2 dX14_line_189 rfl rfl ?_
                          refine y_get hC (pc := 190) zf14 rOb_0 7 (v := .ref (κ (rR σ 7))) dX14_line_190 zw2475 (rv_g rfl (kJ.R rfl) g0) (kk := ?_)
                          refine y_getN hC (pc := 193) zf13 (rOb_k g0) 9 (v := iv (rF s112 (rR σ 7) 9)) dX14_line_193 zw2328 (rv_i (Or.inl rfl) rfl) (kk := ?_)
                          have h := h (Ws112.f _ _)
                          refine y_imul hC (pc := 196) (v := (4096 * (rF s112 (rR σ 7) 9))) dX14_line_196 rfl ?_
                          refine z_iload hC (pc := 197) 5 dX14_line_197 rfl ?_
                          refine y_iadd hC (pc := 199) (v := ((4096 * (rF s112 (rR σ 7) 9)) + y113)) dX14_line_199 rfl ?_
                          refine z_iload_n hC (pc := 200) 3 dX14_line_200 rfl rfl ?_
                          refine y_isub hC (pc := 201) (v := (((4096 * (rF s112 (rR σ 7) 9)) + y113) - x1)) dX14_line_201 rfl ?_
                          obtain ⟨b131, h⟩ := h
                          obtain ⟨r132, h⟩ := h
                          refine y_iast hC (pc := 202) (rAr_k g0 rfl rfl) dX14_line_202 b131 (v := (((4096 * (rF s112 (rR σ 7) 9)) + y113) - x1)) (kk := ?_)
                          have W133 := Ws112.sA (p := (1000 * ((rR σ 7) + 1) + 4)) (i := (rA s112 1035 y113)) (x := (((4096 * (rF s112 (rR σ 7) 9)) + y113) - x1)) r132
                          refine z_iload_n hC (pc := 203) 3 dX14_line_203 rfl rfl ?_
                          refine z_istore hC (pc := 204) (lv' := [(8, iv x1), (7, iv (rA s112 1035 y113)), (6, iv (rA s112 1034 y113)), (0, .ref (κ 0)), (1, iv x1), (2, iv x2), (5, iv y113)]) dX14_line_204 (by decide) rfl ?_
                          have j206 : ∀ (d206 : Nat), ∀ (s134 : rS) (y135 : Int) (y136 : Int), rWF s134 → rng y135 → rng y136 → rKeep 0 0x200 0x2000000000 0x110 0 σ s134 → inv_X14_line_206 σ x1 x2 s134 y135 y136 → (mu_X14_line_206 σ x1 x2 s134 y135 y136) ≤ d206 → zS X G 9 (rW G κ s134) [(0, .ref (κ 0)), (5, iv y135), (8, iv y136)] 0 0 206 [] := by
                            intro d206
                            induction d206 with
                            | zero =>
                              intro s134 y135 y136 Ws134 hy135 hy136 kJ hI hmu
                              exact absurd hmu (by have := h_206m  s134 y135 y136 Ws134 hy135 hy136 (WNp.keep kJ rfl rfl rfl rfl) (kJ.R rfl) (kJ.F rfl) (fun i => kJ.A (f := 34) (by decide) rfl) hI; omega)
                            | succ d206 ih206 =>
                              intro s134 y135 y136 Ws134 hy135 hy136 kJ hI hmu206
                              have h := h_206  s134 y135 y136 Ws134 hy135 hy136 (WNp.keep kJ rfl rfl rfl rfl) (kJ.R rfl) (kJ.F rfl) (fun i => kJ.A (f := 34) (by decide) rfl) hI
                              refine z_iload hC (pc := 206) 2 dX14_line_206 rfl ?_
                              refine z_iload hC (pc := 208) 1 dX14_line_208 rfl ?_
                              obtain ⟨hT, hF⟩ := h
                              refine y_icmp_ge hC (pc := 210) 263 hy136 hy135 dX14_line_210 (by decide) (fun c => ?_) (fun c => ?_)
                              · have h := hT c
                                exact y_retv hR dX14_line_263 Ws134 (Nat.le_of_ble_eq_true rfl) (Nat.le_of_ble_eq_true rfl) ⟨(rKeep.tr rKeep.rf kJ rfl rfl rfl rfl rfl), h⟩
                              · have h := hF c
                                refine z_aload_n hC (pc := 213) 0 dX14_line_213 rfl rfl ?_
                                refine y_get hC (pc := 214) zf14 rOb_0 37 (v := .ref (κ 1037)) dX14_line_214 zw2504 (rv_c rfl) (kk := ?_)
                                refine z_iload hC (pc := 217) 2 dX14_line_217 rfl ?_
                                refine z_iconst hC (pc := 219) (v := Int32.ofInt 1) dX14_line_219 (by decide) ?_
                                obtain ⟨b137, h⟩ := h
                                refine y_zast hC (pc := 220) (rAr_m rfl) dX14_line_220 b137 (v := 1) (kk := ?_)
                                have W138 := Ws134.sA (p := 1037) (i := y136) (x := (inar .boolean 1)) (inar_rng _ _)
                                refine z_aload_n hC (pc := 221) 0 dX14_line_221 rfl rfl ?_
                                refine y_get hC (pc := 222) zf14 rOb_0 7 (v := .ref (κ (rR σ 7))) dX14_line_222 zw2475 (rv_g rfl (kJ.R rfl) g0) (kk := ?_)
                                refine y_getN hC (pc := 225) zf13 (rOb_k g0) 8 (v := .ref (κ (1000 * ((rR σ 7) + 1) + 8))) dX14_line_225 zw2326 (rv_c rfl) (kk := ?_)
                                refine z_aload_n hC (pc := 228) 0 dX14_line_228 rfl rfl ?_
                                refine y_get hC (pc := 229) zf14 rOb_0 7 (v := .ref (κ (rR σ 7))) dX14_line_229 zw2475 (rv_g rfl (kJ.R rfl) g0) (kk := ?_)
                                refine y_getN hC (pc := 232) zf13 (rOb_k g0) 9 (v := iv (rF s134 (rR σ 7) 9)) dX14_line_232 zw2328 (rv_i (Or.inl rfl) rfl) (kk := ?_)
                                have h := h (Ws134.f _ _)
                                refine z_aload_n hC (pc := 235) 0 dX14_line_235 rfl rfl ?_
                                refine y_get hC (pc := 236) zf14 rOb_0 35 (v := .ref (κ 1035)) dX14_line_236 zw2502 (rv_c rfl) (kk := ?_)
                                refine z_iload hC (pc := 239) 2 dX14_line_239 rfl ?_
                                obtain ⟨b139, h⟩ := h
                                refine y_iald hC (pc := 241) (rAr_m rfl) dX14_line_241 b139 (v := (rA s134 1035 y136)) ((A_sA_ne (by decide)).trans rfl) (kk := ?_)
                                have h := h (Ws134.a _ _)
                                refine y_i2b hC (pc := 242) dX14_line_242 ?_
                                obtain ⟨b140, h⟩ := h
                                refine y_bast hC (pc := 243) (rAr_k g0 rfl rfl) dX14_line_243 b140 (v := (f_i2b (rA s134 1035 y136))) (kk := ?_)
                                have W141 := W138.sA (p := (1000 * ((rR σ 7) + 1) + 8)) (i := (rF s134 (rR σ 7) 9)) (x := (inar .byte (f_i2b (rA s134 1035 y136)))) (inar_rng _ _)
                                refine z_aload_n hC (pc := 244) 0 dX14_line_244 rfl rfl ?_
                                refine y_get hC (pc := 245) zf14 rOb_0 7 (v := .ref (κ (rR σ 7))) dX14_line_245 zw2475 (rv_g rfl (kJ.R rfl) g0) (kk := ?_)
                                refine z_dup hC (pc := 248) dX14_line_248 rfl ?_
                                refine y_getN hC (pc := 249) zf13 (rOb_k g0) 9 (v := iv (rF s134 (rR σ 7) 9)) dX14_line_249 zw2328 (rv_i (Or.inl rfl) rfl) (kk := ?_)
                                refine z_iconst hC (pc := 252) (v := Int32.ofInt 1) dX14_line_252 (by decide) ?_
                                refine y_iadd hC (pc := 253) (v := ((rF s134 (rR σ 7) 9) + 1)) dX14_line_253 rfl ?_
                                obtain ⟨r142, h⟩ := h
                                refine y_putIN hC (pc := 254) zf13 (rOb_k g0) 9 (x := ((rF s134 (rR σ 7) 9) + 1)) dX14_line_254 zw2328 (Or.inl rfl) rfl rfl (kk := ?_)
                                have W143 := W141.sF (q := (rR σ 7)) (f := 9) (x := ((rF s134 (rR σ 7) 9) + 1)) r142
                                refine y_iinc hC (pc := 257) (v := (y136 + 1)) (lv' := [(8, iv (y136 + 1)), (0, .ref (κ 0)), (5, iv y135)]) 2 dX14_line_257 rfl rfl (by decide) rfl ?_
                                refine z_goto hC (pc := 260) 206 dX14_line_260 (by decide) ?_
                                refine z_lvs [1, 2, 0] rfl ?_
                                obtain ⟨r144, h⟩ := h
                                obtain ⟨hI, hm⟩ := h
                                exact ih206 (sF (sA (sA s134 1037 y136 (inar .boolean 1)) (1000 * ((rR σ 7) + 1) + 8) (rF s134 (rR σ 7) 9) (inar .byte (f_i2b (rA s134 1035 y136)))) (rR σ 7) 9 ((rF s134 (rR σ 7) 9) + 1)) y135 (y136 + 1) W143 hy135 r144 (rKeep.tr (rKeep.tr (rKeep.tr (rKeep.tr rKeep.rf kJ rfl rfl rfl rfl rfl) (rKeep.sA0 (f := 37) (by decide)) rfl rfl rfl rfl rfl) (rKeep.sAk (f := 8) g0 (by decide)) rfl rfl rfl rfl rfl) (rKeep.sFk (f := 9) g0) rfl rfl rfl rfl rfl) hI (by omega)
                          refine z_lvs [3, 6, 0] rfl ?_
                          exact j206 _ (sA s112 (1000 * ((rR σ 7) + 1) + 4) (rA s112 1035 y113) (((4096 * (rF s112 (rR σ 7) 9)) + y113) - x1)) y113 x1 W133 hy113 hx1 (rKeep.tr (rKeep.tr rKeep.rf kJ rfl rfl rfl rfl rfl) (rKeep.sAk (f := 4) g0 (by decide)) rfl rfl rfl rfl rfl) h (Nat.le_refl _)
                        · have h := hF c
                          refine z_iload hC (pc := 160) 0 dX14_line_160 rfl ?_
                          refine z_bipush hC (pc := 162) (v := Int32.ofInt 7) dX14_line_162 (by decide) ?_
                          obtain ⟨hT, hF⟩ := h
                          refine y_icmp_eq hC (pc := 164) 168 (Ws112.a _ _) (r_lit rfl) dX14_line_164 (by decide) (fun c => ?_) (fun c => ?_)
                          · have h := hT c
                            refine z_aload_n hC (pc := 168) 1 dX14_line_168 rfl rfl ?_
                            refine y_get hC (pc := 169) zf14 rOb_0 35 (v := .ref (κ 1035)) dX14_line_169 zw2502 (rv_c rfl) (kk := ?_)
                            refine z_iload hC (pc := 172) 4 dX14_line_172 rfl ?_
                            obtain ⟨b145, h⟩ := h
                            refine y_iald hC (pc := 174) (rAr_m rfl) dX14_line_174 b145 (v := (rA s112 1035 y113)) rfl (kk := ?_)
                            have h := h (Ws112.a _ _)
                            refine z_istore hC (pc := 175) (lv' := [(7, iv (rA s112 1035 y113)), (6, iv (rA s112 1034 y113)), (0, .ref (κ 0)), (1, iv x1), (2, iv x2), (5, iv y113)]) dX14_line_175 (by decide) rfl ?_
                            refine z_aload_n hC (pc := 177) 2 dX14_line_177 rfl rfl ?_
                            refine y_get hC (pc := 178) zf14 rOb_0 7 (v := .ref (κ (rR σ 7))) dX14_line_178 zw2475 (rv_g rfl (kJ.R rfl) g0) (kk := ?_)
                            refine y_getN hC (pc := 181) zf13 (rOb_k g0) 4 (v := .ref (κ (1000 * ((rR σ 7) + 1) + 4))) dX14_line_181 zw2318 (rv_c rfl) (kk := ?_)
                            refine z_iload hC (pc := 184) 0 dX14_line_184 rfl ?_
                            refine z_sipush hC (pc := 186) (v := Int32.ofInt 4096) dX14_line_186 (by decide) ?_
                            refine z_aload_n hC (pc := 189) 2 dX14_line_189 rfl rfl ?_
                            refine y_get hC (pc := 190) zf14 rOb_0 7 (v := .ref (κ (rR σ 7))) dX14_line_190 zw2475 (rv_g rfl (kJ.R rfl) g0) (kk := ?_)
                            refine y_getN hC (pc := 193) zf13 (rOb_k g0) 9 (v := iv (rF s112 (rR σ 7) 9)) dX14_line_193 zw2328 (rv_i (Or.inl rfl) rfl) (kk := ?_)
                            have h := h (Ws112.f _ _)
                            refine y_imul hC (pc := 196) (v := (4096 * (rF s112 (rR σ 7) 9))) dX14_line_196 rfl ?_
                            refine z_iload hC (pc := 197) 5 dX14_line_197 rfl ?_
                            refine y_iadd hC (pc := 199) (v := ((4096 * (rF s112 (rR σ 7) 9)) + y113)) dX14_line_199 rfl ?_
                            refine z_iload_n hC (pc := 200) 3 dX14_line_200 rfl rfl ?_
                            refine y_isub hC (pc := 201) (v := (((4096 * (rF s112 (rR σ 7) 9)) + y113) - x1)) dX14_line_201 rfl ?_
                            obtain ⟨b146, h⟩ := h
                            obtain ⟨r147, h⟩ := h
                            refine y_iast hC (pc := 202) (rAr_k g0 rfl rfl) dX14_line_202 b146 (v := (((4096 * (rF s112 (rR σ 7) 9)) + y113) - x1)) (kk := ?_)
                            have W148 := Ws112.sA (p := (1000 * ((rR σ 7) + 1) + 4)) (i := (rA s112 1035 y113)) (x := (((4096 * (rF s112 (rR σ 7) 9)) + y113) - x1)) r147
                            refine z_iload_n hC (pc := 203) 3 dX14_line_203 rfl rfl ?_
                            refine z_istore hC (pc := 204) (lv' := [(8, iv x1), (7, iv (rA s112 1035 y113)), (6, iv (rA s112 1034 y113)), (0, .ref (κ 0)), (1, iv x1), (2, iv x2), (5, iv y113)]) dX14_line_204 (by decide) rfl ?_
                            have j206 : ∀ (d206 : Nat), ∀ (s149 : rS) (y150 : Int) (y151 : Int), rWF s149 → rng y150 → rng y151 → rKeep 0 0x200 0x2000000000 0x110 0 σ s149 → inv_X14_line_206 σ x1 x2 s149 y150 y151 → (mu_X14_line_206 σ x1 x2 s149 y150 y151) ≤ d206 → zS X G 9 (rW G κ s149) [(0, .ref (κ 0)), (5, iv y150), (8, iv y151)] 0 0 206 [] := by
                              intro d206
                              induction d206 with
                              | zero =>
                                intro s149 y150 y151 Ws149 hy150 hy151 kJ hI hmu
                                exact absurd hmu (by have := h_206m  s149 y150 y151 Ws149 hy150 hy151 (WNp.keep kJ rfl rfl rfl rfl) (kJ.R rfl) (kJ.F rfl) (fun i => kJ.A (f := 34) (by decide) rfl) hI; omega)
                              | succ d206 ih206 =>
                                intro s149 y150 y151 Ws149 hy150 hy151 kJ hI hmu206
                                have h := h_206  s149 y150 y151 Ws149 hy150 hy151 (WNp.keep kJ rfl rfl rfl rfl) (kJ.R rfl) (kJ.F rfl) (fun i => kJ.A (f := 34) (by decide) rfl) hI
                                refine z_iload hC (pc := 206) 2 dX14_line_206 rfl ?_
                                refine z_iload hC (pc := 208) 1 dX14_line_208 rfl ?_
                                obtain ⟨hT, hF⟩ := h
                                refine y_icmp_ge hC (pc := 210) 263 hy151 hy150 dX14_line_210 (by decide) (fun c => ?_) (fun c => ?_)
                                · have h := hT c
                                  exact y_retv hR dX14_line_263 Ws149 (Nat.le_of_ble_eq_true rfl) (Nat.le_of_ble_eq_true rfl) ⟨(rKeep.tr rKeep.rf kJ rfl rfl rfl rfl rfl), h⟩
                                · have h := hF c
                                  refine z_aload_n hC (pc := 213) 0 dX14_line_213 rfl rfl ?_
                                  refine y_get hC (pc := 214) zf14 rOb_0 37 (v := .ref (κ 1037)) dX14_line_214 zw2504 (rv_c rfl) (kk := ?_)
                                  refine z_iload hC (pc := 217) 2 dX14_line_217 rfl ?_
                                  refine z_iconst hC (pc := 219) (v := Int32.ofInt 1) dX14_line_219 (by decide) ?_
                                  obtain ⟨b152, h⟩ := h
                                  refine y_zast hC (pc := 220) (rAr_m rfl) dX14_line_220 b152 (v := 1) (kk := ?_)
                                  have W153 := Ws149.sA (p := 1037) (i := y151) (x := (inar .boolean 1)) (inar_rng _ _)
                                  refine z_aload_n hC (pc := 221) 0 dX14_line_221 rfl rfl ?_
                                  refine y_get hC (pc := 222) zf14 rOb_0 7 (v := .ref (κ (rR σ 7))) dX14_line_222 zw2475 (rv_g rfl (kJ.R rfl) g0) (kk := ?_)
                                  refine y_getN hC (pc := 225) zf13 (rOb_k g0) 8 (v := .ref (κ (1000 * ((rR σ 7) + 1) + 8))) dX14_line_225 zw2326 (rv_c rfl) (kk := ?_)
                                  refine z_aload_n hC (pc := 228) 0 dX14_line_228 rfl rfl ?_
                                  refine y_get hC (pc := 229) zf14 rOb_0 7 (v := .ref (κ (rR σ 7))) dX14_line_229 zw2475 (rv_g rfl (kJ.R rfl) g0) (kk := ?_)
                                  refine y_getN hC (pc := 232) zf13 (rOb_k g0) 9 (v := iv (rF s149 (rR σ 7) 9)) dX14_line_232 zw2328 (rv_i (Or.inl rfl) rfl) (kk := ?_)
                                  have h := h (Ws149.f _ _)
                                  refine z_aload_n hC (pc := 235) 0 dX14_line_235 rfl rfl ?_
                                  refine y_get hC (pc := 236) zf14 rOb_0 35 (v := .ref (κ 1035)) dX14_line_236 zw2502 (rv_c rfl) (kk := ?_)
                                  refine z_iload hC (pc := 239) 2 dX14_line_239 rfl ?_
                                  obtain ⟨b154, h⟩ := h
                                  refine y_iald hC (pc := 241) (rAr_m rfl) dX14_line_241 b154 (v := (rA s149 1035 y151)) ((A_sA_ne (by decide)).trans rfl) (kk := ?_)
                                  have h := h (Ws149.a _ _)
                                  refine y_i2b hC (pc := 242) dX14_line_242 ?_
                                  obtain ⟨b155, h⟩ := h
                                  refine y_bast hC (pc := 243) (rAr_k g0 rfl rfl) dX14_line_243 b155 (v := (f_i2b (rA s149 1035 y151))) (kk := ?_)
                                  have W156 := W153.sA (p := (1000 * ((rR σ 7) + 1) + 8)) (i := (rF s149 (rR σ 7) 9)) (x := (inar .byte (f_i2b (rA s149 1035 y151)))) (inar_rng _ _)
                                  refine z_aload_n hC (pc := 244) 0 dX14_line_244 rfl rfl ?_
                                  refine y_get hC (pc := 245) zf14 rOb_0 7 (v := .ref (κ (rR σ 7))) dX14_line_245 zw2475 (rv_g rfl (kJ.R rfl) g0) (kk := ?_)
                                  refine z_dup hC (pc := 248) dX14_line_248 rfl ?_
                                  refine y_getN hC (pc := 249) zf13 (rOb_k g0) 9 (v := iv (rF s149 (rR σ 7) 9)) dX14_line_249 zw2328 (rv_i (Or.inl rfl) rfl) (kk := ?_)
                                  refine z_iconst hC (pc := 252) (v := Int32.ofInt 1) dX14_line_252 (by decide) ?_
                                  refine y_iadd hC (pc := 253) (v := ((rF s149 (rR σ 7) 9) + 1)) dX14_line_253 rfl ?_
                                  obtain ⟨r157, h⟩ := h
                                  refine y_putIN hC (pc := 254) zf13 (rOb_k g0) 9 (x := ((rF s149 (rR σ 7) 9) + 1)) dX14_line_254 zw2328 (Or.inl rfl) rfl rfl (kk := ?_)
                                  have W158 := W156.sF (q := (rR σ 7)) (f := 9) (x := ((rF s149 (rR σ 7) 9) + 1)) r157
                                  refine y_iinc hC (pc := 257) (v := (y151 + 1)) (lv' := [(8, iv (y151 + 1)), (0, .ref (κ 0)), (5, iv y150)]) 2 dX14_line_257 rfl rfl (by decide) rfl ?_
                                  refine z_goto hC (pc := 260) 206 dX14_line_260 (by decide) ?_
                                  refine z_lvs [1, 2, 0] rfl ?_
                                  obtain ⟨r159, h⟩ := h
                                  obtain ⟨hI, hm⟩ := h
                                  exact ih206 (sF (sA (sA s149 1037 y151 (inar .boolean 1)) (1000 * ((rR σ 7) + 1) + 8) (rF s149 (rR σ 7) 9) (inar .byte (f_i2b (rA s149 1035 y151)))) (rR σ 7) 9 ((rF s149 (rR σ 7) 9) + 1)) y150 (y151 + 1) W158 hy150 r159 (rKeep.tr (rKeep.tr (rKeep.tr (rKeep.tr rKeep.rf kJ rfl rfl rfl rfl rfl) (rKeep.sA0 (f := 37) (by decide)) rfl rfl rfl rfl rfl) (rKeep.sAk (f := 8) g0 (by decide)) rfl rfl rfl rfl rfl) (rKeep.sFk (f := 9) g0) rfl rfl rfl rfl rfl) hI (by omega)
                            refine z_lvs [3, 6, 0] rfl ?_
                            exact j206 _ (sA s112 (1000 * ((rR σ 7) + 1) + 4) (rA s112 1035 y113) (((4096 * (rF s112 (rR σ 7) 9)) + y113) - x1)) y113 x1 W148 hy113 hx1 (rKeep.tr (rKeep.tr rKeep.rf kJ rfl rfl rfl rfl rfl) (rKeep.sAk (f := 4) g0 (by decide)) rfl rfl rfl rfl rfl) h (Nat.le_refl _)
                          · have h := hF c
                            exact y_retv hR dX14_line_167 Ws112 (Nat.le_of_ble_eq_true rfl) (Nat.le_of_ble_eq_true rfl) ⟨(rKeep.tr rKeep.rf kJ rfl rfl rfl rfl rfl), h⟩
                    · have h := hF c
                      exact y_retv hR dX14_line_137 Ws112 (Nat.le_of_ble_eq_true rfl) (Nat.le_of_ble_eq_true rfl) ⟨(rKeep.tr rKeep.rf kJ rfl rfl rfl rfl rfl), h⟩
                · have h := hF c
                  refine z_aload_n hC (pc := 110) 0 dX14_line_110 rfl rfl ?_
                  refine z_iload hC (pc := 111) 3 dX14_line_111 rfl ?_
                  obtain ⟨p160, h⟩ := h
                  refine y_callVi hC (pc := 113) (As := [iv y113]) (kX14_isSpace l G κ s112 y113 Ws112 hy113 p160) dmX14_isSpace zf14 rOb_0 dX14_line_113 zw3299 rfl rfl (Nat.le_of_ble_eq_true rfl) (Nat.le_of_ble_eq_true rfl) (Nat.le_of_ble_eq_true rfl) (Nat.le_of_ble_eq_true rfl) (Nat.le_of_ble_eq_true rfl) (kk := fun x162 s161 hx162 Ws161 qs161 => ?_)
                  obtain ⟨es161, qs161⟩ := qs161
                  have es161 := es161.symm
                  subst es161
                  have h := h x162 hx162 qs161
                  obtain ⟨hT, hF⟩ := h
                  refine y_if_eq hC (pc := 116) 125 hx162 dX14_line_116 (by decide) (fun c => ?_) (fun c => ?_)
                  · have h := hT c
                    refine z_iload hC (pc := 125) 3 dX14_line_125 rfl ?_
                    refine z_iload_n hC (pc := 127) 1 dX14_line_127 rfl rfl ?_
                    obtain ⟨hT, hF⟩ := h
                    refine y_icmp_eq hC (pc := 128) 137 hy113 hx1 dX14_line_128 (by decide) (fun c => ?_) (fun c => ?_)
                    · have h := hT c
                      exact y_retv hR dX14_line_137 Ws112 (Nat.le_of_ble_eq_true rfl) (Nat.le_of_ble_eq_true rfl) ⟨(rKeep.tr rKeep.rf kJ rfl rfl rfl rfl rfl), h⟩
                    · have h := hF c
                      refine z_iload hC (pc := 131) 3 dX14_line_131 rfl ?_
                      refine z_iload_n hC (pc := 133) 2 dX14_line_133 rfl rfl ?_
                      obtain ⟨hT, hF⟩ := h
                      refine y_icmp_ne hC (pc := 134) 138 hy113 hx2 dX14_line_134 (by decide) (fun c => ?_) (fun c => ?_)
                      · have h := hT c
                        refine z_aload_n hC (pc := 138) 0 dX14_line_138 rfl rfl ?_
                        refine y_get hC (pc := 139) zf14 rOb_0 34 (v := .ref (κ 1034)) dX14_line_139 zw2501 (rv_c rfl) (kk := ?_)
                        refine z_iload hC (pc := 142) 3 dX14_line_142 rfl ?_
                        obtain ⟨b163, h⟩ := h
                        refine y_iald hC (pc := 144) (rAr_m rfl) dX14_line_144 b163 (v := (rA s112 1034 y113)) rfl (kk := ?_)
                        have h := h (Ws112.a _ _)
                        refine z_istore hC (pc := 145) (lv' := [(6, iv (rA s112 1034 y113)), (0, .ref (κ 0)), (1, iv x1), (2, iv x2), (5, iv y113)]) dX14_line_145 (by decide) rfl ?_
                        refine z_iload hC (pc := 147) 0 dX14_line_147 rfl ?_
                        refine z_iconst hC (pc := 149) (v := Int32.ofInt 4) dX14_line_149 (by decide) ?_
                        obtain ⟨hT, hF⟩ := h
                        refine y_icmp_eq hC (pc := 150) 168 (Ws112.a _ _) (r_lit rfl) dX14_line_150 (by decide) (fun c => ?_) (fun c => ?_)
                        · have h := hT c
                          refine z_aload_n hC (pc := 168) 1 dX14_line_168 rfl rfl ?_
                          refine y_get hC (pc := 169) zf14 rOb_0 35 (v := .ref (κ 1035)) dX14_line_169 zw2502 (rv_c rfl) (kk := ?_)
                          refine z_iload hC (pc := 172) 4 dX14_line_172 rfl ?_
                          obtain ⟨b164, h⟩ := h
                          refine y_iald hC (pc := 174) (rAr_m rfl) dX14_line_174 b164 (v := (rA s112 1035 y113)) rfl (kk := ?_)
                          have h := h (Ws112.a _ _)
                          refine z_istore hC (pc := 175) (lv' := [(7, iv (rA s112 1035 y113)), (6, iv (rA s112 1034 y113)), (0, .ref (κ 0)), (1, iv x1), (2, iv x2), (5, iv y113)]) dX14_line_175 (by decide) rfl ?_
                          refine z_aload_n hC (pc := 177) 2 dX14_line_177 rfl rfl ?_
                          refine y_get hC (pc := 178) zf14 rOb_0 7 (v := .ref (κ (rR σ 7))) dX14_line_178 zw2475 (rv_g rfl (kJ.R rfl) g0) (kk := ?_)
                          refine y_getN hC (pc := 181) zf13 (rOb_k g0) 4 (v := .ref (κ (1000 * ((rR σ 7) + 1) + 4))) dX14_line_181 zw2318 (rv_c rfl) (kk := ?_)
                          refine z_iload hC (pc := 184) 0 dX14_line_184 rfl ?_
                          refine z_sipush hC (pc := 186) (v := Int32.ofInt 4096) dX14_line_186 (by decide) ?_
                          refine z_aload_n hC (pc := 189) 2 dX14_line_189 rfl rfl ?_
                          refine y_get hC (pc := 190) zf14 rOb_0 7 (v := .ref (κ (rR σ 7))) dX14_line_190 zw2475 (rv_g rfl (kJ.R rfl) g0) (kk := ?_)
                          refine y_getN hC (pc := 193) zf13 (rOb_k g0) 9 (v := iv (rF s112 (rR σ 7) 9)) dX14_line_193 zw2328 (rv_i (Or.inl rfl) rfl) (kk := ?_)
                          have h := h (Ws112.f _ _)
                          refine y_imul hC (pc := 196) (v := (4096 * (rF s112 (rR σ 7) 9))) dX14_line_196 rfl ?_
                          refine z_iload hC (pc := 197) 5 dX14_line_197 rfl ?_
                          refine y_iadd hC (pc := 199) (v := ((4096 * (rF s112 (rR σ 7) 9)) + y113)) dX14_line_199 rfl ?_
                          refine z_iload_n hC (pc := 200) 3 dX14_line_200 rfl rfl ?_
                          refine y_isub hC (pc := 201) (v := (((4096 * (rF s112 (rR σ 7) 9)) + y113) - x1)) dX14_line_201 rfl ?_
                          obtain ⟨b165, h⟩ := h
                          obtain ⟨r166, h⟩ := h
                          refine y_iast hC (pc := 202) (rAr_k g0 rfl rfl) dX14_line_202 b165 (v := (((4096 * (rF s112 (rR σ 7) 9)) + y113) - x1)) (kk := ?_)
                          have W167 := Ws112.sA (p := (1000 * ((rR σ 7) + 1) + 4)) (i := (rA s112 1035 y113)) (x := (((4096 * (rF s112 (rR σ 7) 9)) + y113) - x1)) r166
                          refine z_iload_n hC (pc := 203) 3 dX14_line_203 rfl rfl ?_
                          refine z_istore hC (pc := 204) (lv' := [(8, iv x1), (7, iv (rA s112 1035 y113)), (6, iv (rA s112 1034 y113)), (0, .ref (κ 0)), (1, iv x1), (2, iv x2), (5, iv y113)]) dX14_line_204 (by decide) rfl ?_
                          have j206 : ∀ (d206 : Nat), ∀ (s168 : rS) (y169 : Int) (y170 : Int), rWF s168 → rng y169 → rng y170 → rKeep 0 0x200 0x2000000000 0x110 0 σ s168 → inv_X14_line_206 σ x1 x2 s168 y169 y170 → (mu_X14_line_206 σ x1 x2 s168 y169 y170) ≤ d206 → zS X G 9 (rW G κ s168) [(0, .ref (κ 0)), (5, iv y169), (8, iv y170)] 0 0 206 [] := by
                            intro d206
                            induction d206 with
                            | zero =>
                              intro s168 y169 y170 Ws168 hy169 hy170 kJ hI hmu
                              exact absurd hmu (by have := h_206m  s168 y169 y170 Ws168 hy169 hy170 (WNp.keep kJ rfl rfl rfl rfl) (kJ.R rfl) (kJ.F rfl) (fun i => kJ.A (f := 34) (by decide) rfl) hI; omega)
                            | succ d206 ih206 =>
                              intro s168 y169 y170 Ws168 hy169 hy170 kJ hI hmu206
                              have h := h_206  s168 y169 y170 Ws168 hy169 hy170 (WNp.keep kJ rfl rfl rfl rfl) (kJ.R rfl) (kJ.F rfl) (fun i => kJ.A (f := 34) (by decide) rfl) hI
                              refine z_iload hC (pc := 206) 2 dX14_line_206 rfl ?_
                              refine z_iload hC (pc := 208) 1 dX14_line_208 rfl ?_
                              obtain ⟨hT, hF⟩ := h
                              refine y_icmp_ge hC (pc := 210) 263 hy170 hy169 dX14_line_210 (by decide) (fun c => ?_) (fun c => ?_)
                              · have h := hT c
                                exact y_retv hR dX14_line_263 Ws168 (Nat.le_of_ble_eq_true rfl) (Nat.le_of_ble_eq_true rfl) ⟨(rKeep.tr rKeep.rf kJ rfl rfl rfl rfl rfl), h⟩
                              · have h := hF c
                                refine z_aload_n hC (pc := 213) 0 dX14_line_213 rfl rfl ?_
                                refine y_get hC (pc := 214) zf14 rOb_0 37 (v := .ref (κ 1037)) dX14_line_214 zw2504 (rv_c rfl) (kk := ?_)
                                refine z_iload hC (pc := 217) 2 dX14_line_217 rfl ?_
                                refine z_iconst hC (pc := 219) (v := Int32.ofInt 1) dX14_line_219 (by decide) ?_
                                obtain ⟨b171, h⟩ := h
                                refine y_zast hC (pc := 220) (rAr_m rfl) dX14_line_220 b171 (v := 1) (kk := ?_)
                                have W172 := Ws168.sA (p := 1037) (i := y170) (x := (inar .boolean 1)) (inar_rng _ _)
                                refine z_aload_n hC (pc := 221) 0 dX14_line_221 rfl rfl ?_
                                refine y_get hC (pc := 222) zf14 rOb_0 7 (v := .ref (κ (rR σ 7))) dX14_line_222 zw2475 (rv_g rfl (kJ.R rfl) g0) (kk := ?_)
                                refine y_getN hC (pc := 225) zf13 (rOb_k g0) 8 (v := .ref (κ (1000 * ((rR σ 7) + 1) + 8))) dX14_line_225 zw2326 (rv_c rfl) (kk := ?_)
                                refine z_aload_n hC (pc := 228) 0 dX14_line_228 rfl rfl ?_
                                refine y_get hC (pc := 229) zf14 rOb_0 7 (v := .ref (κ (rR σ 7))) dX14_line_229 zw2475 (rv_g rfl (kJ.R rfl) g0) (kk := ?_)
                                refine y_getN hC (pc := 232) zf13 (rOb_k g0) 9 (v := iv (rF s168 (rR σ 7) 9)) dX14_line_232 zw2328 (rv_i (Or.inl rfl) rfl) (kk := ?_)
                                have h := h (Ws168.f _ _)
                                refine z_aload_n hC (pc := 235) 0 dX14_line_235 rfl rfl ?_
                                refine y_get hC (pc := 236) zf14 rOb_0 35 (v := .ref (κ 1035)) dX14_line_236 zw2502 (rv_c rfl) (kk := ?_)
                                refine z_iload hC (pc := 239) 2 dX14_line_239 rfl ?_
                                obtain ⟨b173, h⟩ := h
                                refine y_iald hC (pc := 241) (rAr_m rfl) dX14_line_241 b173 (v := (rA s168 1035 y170)) ((A_sA_ne (by decide)).trans rfl) (kk := ?_)
                                have h := h (Ws168.a _ _)
                                refine y_i2b hC (pc := 242) dX14_line_242 ?_
                                obtain ⟨b174, h⟩ := h
                                refine y_bast hC (pc := 243) (rAr_k g0 rfl rfl) dX14_line_243 b174 (v := (f_i2b (rA s168 1035 y170))) (kk := ?_)
                                have W175 := W172.sA (p := (1000 * ((rR σ 7) + 1) + 8)) (i := (rF s168 (rR σ 7) 9)) (x := (inar .byte (f_i2b (rA s168 1035 y170)))) (inar_rng _ _)
                                refine z_aload_n hC (pc := 244) 0 dX14_line_244 rfl rfl ?_
                                refine y_get hC (pc := 245) zf14 rOb_0 7 (v := .ref (κ (rR σ 7))) dX14_line_245 zw2475 (rv_g rfl (kJ.R rfl) g0) (kk := ?_)
                                refine z_dup hC (pc := 248) dX14_line_248 rfl ?_
                                refine y_getN hC (pc := 249) zf13 (rOb_k g0) 9 (v := iv (rF s168 (rR σ 7) 9)) dX14_line_249 zw2328 (rv_i (Or.inl rfl) rfl) (kk := ?_)
                                refine z_iconst hC (pc := 252) (v := Int32.ofInt 1) dX14_line_252 (by decide) ?_
                                refine y_iadd hC (pc := 253) (v := ((rF s168 (rR σ 7) 9) + 1)) dX14_line_253 rfl ?_
                                obtain ⟨r176, h⟩ := h
                                refine y_putIN hC (pc := 254) zf13 (rOb_k g0) 9 (x := ((rF s168 (rR σ 7) 9) + 1)) dX14_line_254 zw2328 (Or.inl rfl) rfl rfl (kk := ?_)
                                have W177 := W175.sF (q := (rR σ 7)) (f := 9) (x := ((rF s168 (rR σ 7) 9) + 1)) r176
                                refine y_iinc hC (pc := 257) (v := (y170 + 1)) (lv' := [(8, iv (y170 + 1)), (0, .ref (κ 0)), (5, iv y169)]) 2 dX14_line_257 rfl rfl (by decide) rfl ?_
                                refine z_goto hC (pc := 260) 206 dX14_line_260 (by decide) ?_
                                refine z_lvs [1, 2, 0] rfl ?_
                                obtain ⟨r178, h⟩ := h
                                obtain ⟨hI, hm⟩ := h
                                exact ih206 (sF (sA (sA s168 1037 y170 (inar .boolean 1)) (1000 * ((rR σ 7) + 1) + 8) (rF s168 (rR σ 7) 9) (inar .byte (f_i2b (rA s168 1035 y170)))) (rR σ 7) 9 ((rF s168 (rR σ 7) 9) + 1)) y169 (y170 + 1) W177 hy169 r178 (rKeep.tr (rKeep.tr (rKeep.tr (rKeep.tr rKeep.rf kJ rfl rfl rfl rfl rfl) (rKeep.sA0 (f := 37) (by decide)) rfl rfl rfl rfl rfl) (rKeep.sAk (f := 8) g0 (by decide)) rfl rfl rfl rfl rfl) (rKeep.sFk (f := 9) g0) rfl rfl rfl rfl rfl) hI (by omega)
                          refine z_lvs [3, 6, 0] rfl ?_
                          exact j206 _ (sA s112 (1000 * ((rR σ 7) + 1) + 4) (rA s112 1035 y113) (((4096 * (rF s112 (rR σ 7) 9)) + y113) - x1)) y113 x1 W167 hy113 hx1 (rKeep.tr (rKeep.tr rKeep.rf kJ rfl rfl rfl rfl rfl) (rKeep.sAk (f := 4) g0 (by decide)) rfl rfl rfl rfl rfl) h (Nat.le_refl _)
                        · have h := hF c
                          refine z_iload hC (pc := 153) 0 dX14_line_153 rfl ?_
                          refine z_bipush hC (pc := 155) (v := Int32.ofInt 6) dX14_line_155 (by decide) ?_
                          obtain ⟨hT, hF⟩ := h
                          refine y_icmp_eq hC (pc := 157) 168 (Ws112.a _ _) (r_lit rfl) dX14_line_157 (by decide) (fun c => ?_) (fun c => ?_)
                          · have h := hT c
                            refine z_aload_n hC (pc := 168) 1 dX14_line_168 rfl rfl ?_
                            refine y_get hC (pc := 169) zf14 rOb_0 35 (v := .ref (κ 1035)) dX14_line_169 zw2502 (rv_c rfl) (kk := ?_)
                            refine z_iload hC (pc := 172) 4 dX14_line_172 rfl ?_
                            obtain ⟨b179, h⟩ := h
                            refine y_iald hC (pc := 174) (rAr_m rfl) dX14_line_174 b179 (v := (rA s112 1035 y113)) rfl (kk := ?_)
                            have h := h (Ws112.a _ _)
                            refine z_istore hC (pc := 175) (lv' := [(7, iv (rA s112 1035 y113)), (6, iv (rA s112 1034 y113)), (0, .ref (κ 0)), (1, iv x1), (2, iv x2), (5, iv y113)]) dX14_line_175 (by decide) rfl ?_
                            refine z_aload_n hC (pc := 177) 2 dX14_line_177 rfl rfl ?_
                            refine y_get hC (pc := 178) zf14 rOb_0 7 (v := .ref (κ (rR σ 7))) dX14_line_178 zw2475 (rv_g rfl (kJ.R rfl) g0) (kk := ?_)
                            refine y_getN hC (pc := 181) zf13 (rOb_k g0) 4 (v := .ref (κ (1000 * ((rR σ 7) + 1) + 4))) dX14_line_181 zw2318 (rv_c rfl) (kk := ?_)
                            refine z_iload hC (pc := 184) 0 dX14_line_184 rfl ?_
                            refine z_sipush hC (pc := 186) (v := Int32.ofInt 4096) dX14_line_186 (by decide) ?_
                            refine z_aload_n hC (pc := 189) 2 dX14_line_189 rfl rfl ?_
                            refine y_get hC (pc := 190) zf14 rOb_0 7 (v := .ref (κ (rR σ 7))) dX14_line_190 zw2475 (rv_g rfl (kJ.R rfl) g0) (kk := ?_)
                            refine y_getN hC (pc := 193) zf13 (rOb_k g0) 9 (v := iv (rF s112 (rR σ 7) 9)) dX14_line_193 zw2328 (rv_i (Or.inl rfl) rfl) (kk := ?_)
                            have h := h (Ws112.f _ _)
                            refine y_imul hC (pc := 196) (v := (4096 * (rF s112 (rR σ 7) 9))) dX14_line_196 rfl ?_
                            refine z_iload hC (pc := 197) 5 dX14_line_197 rfl ?_
                            refine y_iadd hC (pc := 199) (v := ((4096 * (rF s112 (rR σ 7) 9)) + y113)) dX14_line_199 rfl ?_
                            refine z_iload_n hC (pc := 200) 3 dX14_line_200 rfl rfl ?_
                            refine y_isub hC (pc := 201) (v := (((4096 * (rF s112 (rR σ 7) 9)) + y113) - x1)) dX14_line_201 rfl ?_
                            obtain ⟨b180, h⟩ := h
                            obtain ⟨r181, h⟩ := h
                            refine y_iast hC (pc := 202) (rAr_k g0 rfl rfl) dX14_line_202 b180 (v := (((4096 * (rF s112 (rR σ 7) 9)) + y113) - x1)) (kk := ?_)
                            have W182 := Ws112.sA (p := (1000 * ((rR σ 7) + 1) + 4)) (i := (rA s112 1035 y113)) (x := (((4096 * (rF s112 (rR σ 7) 9)) + y113) - x1)) r181
                            refine z_iload_n hC (pc := 203) 3 dX14_line_203 rfl rfl ?_
                            refine z_istore hC (pc := 204) (lv' := [(8, iv x1), (7, iv (rA s112 1035 y113)), (6, iv (rA s112 1034 y113)), (0, .ref (κ 0)), (1, iv x1), (2, iv x2), (5, iv y113)]) dX14_line_204 (by decide) rfl ?_
                            have j206 : ∀ (d206 : Nat), ∀ (s183 : rS) (y184 : Int) (y185 : Int), rWF s183 → rng y184 → rng y185 → rKeep 0 0x200 0x2000000000 0x110 0 σ s183 → inv_X14_line_206 σ x1 x2 s183 y184 y185 → (mu_X14_line_206 σ x1 x2 s183 y184 y185) ≤ d206 → zS X G 9 (rW G κ s183) [(0, .ref (κ 0)), (5, iv y184), (8, iv y185)] 0 0 206 [] := by
                              intro d206
                              induction d206 with
                              | zero =>
                                intro s183 y184 y185 Ws183 hy184 hy185 kJ hI hmu
                                exact absurd hmu (by have := h_206m  s183 y184 y185 Ws183 hy184 hy185 (WNp.keep kJ rfl rfl rfl rfl) (kJ.R rfl) (kJ.F rfl) (fun i => kJ.A (f := 34) (by decide) rfl) hI; omega)
                              | succ d206 ih206 =>
                                intro s183 y184 y185 Ws183 hy184 hy185 kJ hI hmu206
                                have h := h_206  s183 y184 y185 Ws183 hy184 hy185 (WNp.keep kJ rfl rfl rfl rfl) (kJ.R rfl) (kJ.F rfl) (fun i => kJ.A (f := 34) (by decide) rfl) hI
                                refine z_iload hC (pc := 206) 2 dX14_line_206 rfl ?_
                                refine z_iload hC (pc := 208) 1 dX14_line_208 rfl ?_
                                obtain ⟨hT, hF⟩ := h
                                refine y_icmp_ge hC (pc := 210) 263 hy185 hy184 dX14_line_210 (by decide) (fun c => ?_) (fun c => ?_)
                                · have h := hT c
                                  exact y_retv hR dX14_line_263 Ws183 (Nat.le_of_ble_eq_true rfl) (Nat.le_of_ble_eq_true rfl) ⟨(rKeep.tr rKeep.rf kJ rfl rfl rfl rfl rfl), h⟩
                                · have h := hF c
                                  refine z_aload_n hC (pc := 213) 0 dX14_line_213 rfl rfl ?_
                                  refine y_get hC (pc := 214) zf14 rOb_0 37 (v := .ref (κ 1037)) dX14_line_214 zw2504 (rv_c rfl) (kk := ?_)
                                  refine z_iload hC (pc := 217) 2 dX14_line_217 rfl ?_
                                  refine z_iconst hC (pc := 219) (v := Int32.ofInt 1) dX14_line_219 (by decide) ?_
                                  obtain ⟨b186, h⟩ := h
                                  refine y_zast hC (pc := 220) (rAr_m rfl) dX14_line_220 b186 (v := 1) (kk := ?_)
                                  have W187 := Ws183.sA (p := 1037) (i := y185) (x := (inar .boolean 1)) (inar_rng _ _)
                                  refine z_aload_n hC (pc := 221) 0 dX14_line_221 rfl rfl ?_
                                  refine y_get hC (pc := 222) zf14 rOb_0 7 (v := .ref (κ (rR σ 7))) dX14_line_222 zw2475 (rv_g rfl (kJ.R rfl) g0) (kk := ?_)
                                  refine y_getN hC (pc := 225) zf13 (rOb_k g0) 8 (v := .ref (κ (1000 * ((rR σ 7) + 1) + 8))) dX14_line_225 zw2326 (rv_c rfl) (kk := ?_)
                                  refine z_aload_n hC (pc := 228) 0 dX14_line_228 rfl rfl ?_
                                  refine y_get hC (pc := 229) zf14 rOb_0 7 (v := .ref (κ (rR σ 7))) dX14_line_229 zw2475 (rv_g rfl (kJ.R rfl) g0) (kk := ?_)
                                  refine y_getN hC (pc := 232) zf13 (rOb_k g0) 9 (v := iv (rF s183 (rR σ 7) 9)) dX14_line_232 zw2328 (rv_i (Or.inl rfl) rfl) (kk := ?_)
                                  have h := h (Ws183.f _ _)
                                  refine z_aload_n hC (pc := 235) 0 dX14_line_235 rfl rfl ?_
                                  refine y_get hC (pc := 236) zf14 rOb_0 35 (v := .ref (κ 1035)) dX14_line_236 zw2502 (rv_c rfl) (kk := ?_)
                                  refine z_iload hC (pc := 239) 2 dX14_line_239 rfl ?_
                                  obtain ⟨b188, h⟩ := h
                                  refine y_iald hC (pc := 241) (rAr_m rfl) dX14_line_241 b188 (v := (rA s183 1035 y185)) ((A_sA_ne (by decide)).trans rfl) (kk := ?_)
                                  have h := h (Ws183.a _ _)
                                  refine y_i2b hC (pc := 242) dX14_line_242 ?_
                                  obtain ⟨b189, h⟩ := h
                                  refine y_bast hC (pc := 243) (rAr_k g0 rfl rfl) dX14_line_243 b189 (v := (f_i2b (rA s183 1035 y185))) (kk := ?_)
                                  have W190 := W187.sA (p := (1000 * ((rR σ 7) + 1) + 8)) (i := (rF s183 (rR σ 7) 9)) (x := (inar .byte (f_i2b (rA s183 1035 y185)))) (inar_rng _ _)
                                  refine z_aload_n hC (pc := 244) 0 dX14_line_244 rfl rfl ?_
                                  refine y_get hC (pc := 245) zf14 rOb_0 7 (v := .ref (κ (rR σ 7))) dX14_line_245 zw2475 (rv_g rfl (kJ.R rfl) g0) (kk := ?_)
                                  refine z_dup hC (pc := 248) dX14_line_248 rfl ?_
                                  refine y_getN hC (pc := 249) zf13 (rOb_k g0) 9 (v := iv (rF s183 (rR σ 7) 9)) dX14_line_249 zw2328 (rv_i (Or.inl rfl) rfl) (kk := ?_)
                                  refine z_iconst hC (pc := 252) (v := Int32.ofInt 1) dX14_line_252 (by decide) ?_
                                  refine y_iadd hC (pc := 253) (v := ((rF s183 (rR σ 7) 9) + 1)) dX14_line_253 rfl ?_
                                  obtain ⟨r191, h⟩ := h
                                  refine y_putIN hC (pc := 254) zf13 (rOb_k g0) 9 (x := ((rF s183 (rR σ 7) 9) + 1)) dX14_line_254 zw2328 (Or.inl rfl) rfl rfl (kk := ?_)
                                  have W192 := W190.sF (q := (rR σ 7)) (f := 9) (x := ((rF s183 (rR σ 7) 9) + 1)) r191
                                  refine y_iinc hC (pc := 257) (v := (y185 + 1)) (lv' := [(8, iv (y185 + 1)), (0, .ref (κ 0)), (5, iv y184)]) 2 dX14_line_257 rfl rfl (by decide) rfl ?_
                                  refine z_goto hC (pc := 260) 206 dX14_line_260 (by decide) ?_
                                  refine z_lvs [1, 2, 0] rfl ?_
                                  obtain ⟨r193, h⟩ := h
                                  obtain ⟨hI, hm⟩ := h
                                  exact ih206 (sF (sA (sA s183 1037 y185 (inar .boolean 1)) (1000 * ((rR σ 7) + 1) + 8) (rF s183 (rR σ 7) 9) (inar .byte (f_i2b (rA s183 1035 y185)))) (rR σ 7) 9 ((rF s183 (rR σ 7) 9) + 1)) y184 (y185 + 1) W192 hy184 r193 (rKeep.tr (rKeep.tr (rKeep.tr (rKeep.tr rKeep.rf kJ rfl rfl rfl rfl rfl) (rKeep.sA0 (f := 37) (by decide)) rfl rfl rfl rfl rfl) (rKeep.sAk (f := 8) g0 (by decide)) rfl rfl rfl rfl rfl) (rKeep.sFk (f := 9) g0) rfl rfl rfl rfl rfl) hI (by omega)
                            refine z_lvs [3, 6, 0] rfl ?_
                            exact j206 _ (sA s112 (1000 * ((rR σ 7) + 1) + 4) (rA s112 1035 y113) (((4096 * (rF s112 (rR σ 7) 9)) + y113) - x1)) y113 x1 W182 hy113 hx1 (rKeep.tr (rKeep.tr rKeep.rf kJ rfl rfl rfl rfl rfl) (rKeep.sAk (f := 4) g0 (by decide)) rfl rfl rfl rfl rfl) h (Nat.le_refl _)
                          · have h := hF c
                            refine z_iload hC (pc := 160) 0 dX14_line_160 rfl ?_
                            refine z_bipush hC (pc := 162) (v := Int32.ofInt 7) dX14_line_162 (by decide) ?_
                            obtain ⟨hT, hF⟩ := h
                            refine y_icmp_eq hC (pc := 164) 168 (Ws112.a _ _) (r_lit rfl) dX14_line_164 (by decide) (fun c => ?_) (fun c => ?_)
                            · have h := hT c
                              refine z_aload_n hC (pc := 168) 1 dX14_line_168 rfl rfl ?_
                              refine y_get hC (pc := 169) zf14 rOb_0 35 (v := .ref (κ 1035)) dX14_line_169 zw2502 (rv_c rfl) (kk := ?_)
                              refine z_iload hC (pc := 172) 4 dX14_line_172 rfl ?_
                              obtain ⟨b194, h⟩ := h
                              refine y_iald hC (pc := 174) (rAr_m rfl) dX14_line_174 b194 (v := (rA s112 1035 y113)) rfl (kk := ?_)
                              have h := h (Ws112.a _ _)
                              refine z_istore hC (pc := 175) (lv' := [(7, iv (rA s112 1035 y113)), (6, iv (rA s112 1034 y113)), (0, .ref (κ 0)), (1, iv x1), (2, iv x2), (5, iv y113)]) dX14_line_175 (by decide) rfl ?_
                              refine z_aload_n hC (pc := 177) 2 dX14_line_177 rfl rfl ?_
                              refine y_get hC (pc := 178) zf14 rOb_0 7 (v := .ref (κ (rR σ 7))) dX14_line_178 zw2475 (rv_g rfl (kJ.R rfl) g0) (kk := ?_)
                              refine y_getN hC (pc := 181) zf13 (rOb_k g0) 4 (v := .ref (κ (1000 * ((rR σ 7) + 1) + 4))) dX14_line_181 zw2318 (rv_c rfl) (kk := ?_)
                              refine z_iload hC (pc := 184) 0 dX14_line_184 rfl ?_
                              refine z_sipush hC (pc := 186) (v := Int32.ofInt 4096) dX14_line_186 (by decide) ?_
                              refine z_aload_n hC (pc := 189) 2 dX14_line_189 rfl rfl ?_
                              refine y_get hC (pc := 190) zf14 rOb_0 7 (v := .ref (κ (rR σ 7))) dX14_line_190 zw2475 (rv_g rfl (kJ.R rfl) g0) (kk := ?_)
                              refine y_getN hC (pc := 193) zf13 (rOb_k g0) 9 (v := iv (rF s112 (rR σ 7) 9)) dX14_line_193 zw2328 (rv_i (Or.inl rfl) rfl) (kk := ?_)
                              have h := h (Ws112.f _ _)
                              refine y_imul hC (pc := 196) (v := (4096 * (rF s112 (rR σ 7) 9))) dX14_line_196 rfl ?_
                              refine z_iload hC (pc := 197) 5 dX14_line_197 rfl ?_
                              refine y_iadd hC (pc := 199) (v := ((4096 * (rF s112 (rR σ 7) 9)) + y113)) dX14_line_199 rfl ?_
                              refine z_iload_n hC (pc := 200) 3 dX14_line_200 rfl rfl ?_
                              refine y_isub hC (pc := 201) (v := (((4096 * (rF s112 (rR σ 7) 9)) + y113) - x1)) dX14_line_201 rfl ?_
                              obtain ⟨b195, h⟩ := h
                              obtain ⟨r196, h⟩ := h
                              refine y_iast hC (pc := 202) (rAr_k g0 rfl rfl) dX14_line_202 b195 (v := (((4096 * (rF s112 (rR σ 7) 9)) + y113) - x1)) (kk := ?_)
                              have W197 := Ws112.sA (p := (1000 * ((rR σ 7) + 1) + 4)) (i := (rA s112 1035 y113)) (x := (((4096 * (rF s112 (rR σ 7) 9)) + y113) - x1)) r196
                              refine z_iload_n hC (pc := 203) 3 dX14_line_203 rfl rfl ?_
                              refine z_istore hC (pc := 204) (lv' := [(8, iv x1), (7, iv (rA s112 1035 y113)), (6, iv (rA s112 1034 y113)), (0, .ref (κ 0)), (1, iv x1), (2, iv x2), (5, iv y113)]) dX14_line_204 (by decide) rfl ?_
                              have j206 : ∀ (d206 : Nat), ∀ (s198 : rS) (y199 : Int) (y200 : Int), rWF s198 → rng y199 → rng y200 → rKeep 0 0x200 0x2000000000 0x110 0 σ s198 → inv_X14_line_206 σ x1 x2 s198 y199 y200 → (mu_X14_line_206 σ x1 x2 s198 y199 y200) ≤ d206 → zS X G 9 (rW G κ s198) [(0, .ref (κ 0)), (5, iv y199), (8, iv y200)] 0 0 206 [] := by
                                intro d206
                                induction d206 with
                                | zero =>
                                  intro s198 y199 y200 Ws198 hy199 hy200 kJ hI hmu
                                  exact absurd hmu (by have := h_206m  s198 y199 y200 Ws198 hy199 hy200 (WNp.keep kJ rfl rfl rfl rfl) (kJ.R rfl) (kJ.F rfl) (fun i => kJ.A (f := 34) (by decide) rfl) hI; omega)
                                | succ d206 ih206 =>
                                  intro s198 y199 y200 Ws198 hy199 hy200 kJ hI hmu206
                                  have h := h_206  s198 y199 y200 Ws198 hy199 hy200 (WNp.keep kJ rfl rfl rfl rfl) (kJ.R rfl) (kJ.F rfl) (fun i => kJ.A (f := 34) (by decide) rfl) hI
                                  refine z_iload hC (pc := 206) 2 dX14_line_206 rfl ?_
                                  refine z_iload hC (pc := 208) 1 dX14_line_208 rfl ?_
                                  obtain ⟨hT, hF⟩ := h
                                  refine y_icmp_ge hC (pc := 210) 263 hy200 hy199 dX14_line_210 (by decide) (fun c => ?_) (fun c => ?_)
                                  · have h := hT c
                                    exact y_retv hR dX14_line_263 Ws198 (Nat.le_of_ble_eq_true rfl) (Nat.le_of_ble_eq_true rfl) ⟨(rKeep.tr rKeep.rf kJ rfl rfl rfl rfl rfl), h⟩
                                  · have h := hF c
                                    refine z_aload_n hC (pc := 213) 0 dX14_line_213 rfl rfl ?_
                                    refine y_get hC (pc := 214) zf14 rOb_0 37 (v := .ref (κ 1037)) dX14_line_214 zw2504 (rv_c rfl) (kk := ?_)
                                    refine z_iload hC (pc := 217) 2 dX14_line_217 rfl ?_
                                    refine z_iconst hC (pc := 219) (v := Int32.ofInt 1) dX14_line_219 (by decide) ?_
                                    obtain ⟨b201, h⟩ := h
                                    refine y_zast hC (pc := 220) (rAr_m rfl) dX14_line_220 b201 (v := 1) (kk := ?_)
                                    have W202 := Ws198.sA (p := 1037) (i := y200) (x := (inar .boolean 1)) (inar_rng _ _)
                                    refine z_aload_n hC (pc := 221) 0 dX14_line_221 rfl rfl ?_
                                    refine y_get hC (pc := 222) zf14 rOb_0 7 (v := .ref (κ (rR σ 7))) dX14_line_222 zw2475 (rv_g rfl (kJ.R rfl) g0) (kk := ?_)
                                    refine y_getN hC (pc := 225) zf13 (rOb_k g0) 8 (v := .ref (κ (1000 * ((rR σ 7) + 1) + 8))) dX14_line_225 zw2326 (rv_c rfl) (kk := ?_)
                                    refine z_aload_n hC (pc := 228) 0 dX14_line_228 rfl rfl ?_
                                    refine y_get hC (pc := 229) zf14 rOb_0 7 (v := .ref (κ (rR σ 7))) dX14_line_229 zw2475 (rv_g rfl (kJ.R rfl) g0) (kk := ?_)
                                    refine y_getN hC (pc := 232) zf13 (rOb_k g0) 9 (v := iv (rF s198 (rR σ 7) 9)) dX14_line_232 zw2328 (rv_i (Or.inl rfl) rfl) (kk := ?_)
                                    have h := h (Ws198.f _ _)
                                    refine z_aload_n hC (pc := 235) 0 dX14_line_235 rfl rfl ?_
                                    refine y_get hC (pc := 236) zf14 rOb_0 35 (v := .ref (κ 1035)) dX14_line_236 zw2502 (rv_c rfl) (kk := ?_)
                                    refine z_iload hC (pc := 239) 2 dX14_line_239 rfl ?_
                                    obtain ⟨b203, h⟩ := h
                                    refine y_iald hC (pc := 241) (rAr_m rfl) dX14_line_241 b203 (v := (rA s198 1035 y200)) ((A_sA_ne (by decide)).trans rfl) (kk := ?_)
                                    have h := h (Ws198.a _ _)
                                    refine y_i2b hC (pc := 242) dX14_line_242 ?_
                                    obtain ⟨b204, h⟩ := h
                                    refine y_bast hC (pc := 243) (rAr_k g0 rfl rfl) dX14_line_243 b204 (v := (f_i2b (rA s198 1035 y200))) (kk := ?_)
                                    have W205 := W202.sA (p := (1000 * ((rR σ 7) + 1) + 8)) (i := (rF s198 (rR σ 7) 9)) (x := (inar .byte (f_i2b (rA s198 1035 y200)))) (inar_rng _ _)
                                    refine z_aload_n hC (pc := 244) 0 dX14_line_244 rfl rfl ?_
                                    refine y_get hC (pc := 245) zf14 rOb_0 7 (v := .ref (κ (rR σ 7))) dX14_line_245 zw2475 (rv_g rfl (kJ.R rfl) g0) (kk := ?_)
                                    refine z_dup hC (pc := 248) dX14_line_248 rfl ?_
                                    refine y_getN hC (pc := 249) zf13 (rOb_k g0) 9 (v := iv (rF s198 (rR σ 7) 9)) dX14_line_249 zw2328 (rv_i (Or.inl rfl) rfl) (kk := ?_)
                                    refine z_iconst hC (pc := 252) (v := Int32.ofInt 1) dX14_line_252 (by decide) ?_
                                    refine y_iadd hC (pc := 253) (v := ((rF s198 (rR σ 7) 9) + 1)) dX14_line_253 rfl ?_
                                    obtain ⟨r206, h⟩ := h
                                    refine y_putIN hC (pc := 254) zf13 (rOb_k g0) 9 (x := ((rF s198 (rR σ 7) 9) + 1)) dX14_line_254 zw2328 (Or.inl rfl) rfl rfl (kk := ?_)
                                    have W207 := W205.sF (q := (rR σ 7)) (f := 9) (x := ((rF s198 (rR σ 7) 9) + 1)) r206
                                    refine y_iinc hC (pc := 257) (v := (y200 + 1)) (lv' := [(8, iv (y200 + 1)), (0, .ref (κ 0)), (5, iv y199)]) 2 dX14_line_257 rfl rfl (by decide) rfl ?_
                                    refine z_goto hC (pc := 260) 206 dX14_line_260 (by decide) ?_
                                    refine z_lvs [1, 2, 0] rfl ?_
                                    obtain ⟨r208, h⟩ := h
                                    obtain ⟨hI, hm⟩ := h
                                    exact ih206 (sF (sA (sA s198 1037 y200 (inar .boolean 1)) (1000 * ((rR σ 7) + 1) + 8) (rF s198 (rR σ 7) 9) (inar .byte (f_i2b (rA s198 1035 y200)))) (rR σ 7) 9 ((rF s198 (rR σ 7) 9) + 1)) y199 (y200 + 1) W207 hy199 r208 (rKeep.tr (rKeep.tr (rKeep.tr (rKeep.tr rKeep.rf kJ rfl rfl rfl rfl rfl) (rKeep.sA0 (f := 37) (by decide)) rfl rfl rfl rfl rfl) (rKeep.sAk (f := 8) g0 (by decide)) rfl rfl rfl rfl rfl) (rKeep.sFk (f := 9) g0) rfl rfl rfl rfl rfl) hI (by omega)
                              refine z_lvs [3, 6, 0] rfl ?_
                              exact j206 _ (sA s112 (1000 * ((rR σ 7) + 1) + 4) (rA s112 1035 y113) (((4096 * (rF s112 (rR σ 7) 9)) + y113) - x1)) y113 x1 W197 hy113 hx1 (rKeep.tr (rKeep.tr rKeep.rf kJ rfl rfl rfl rfl rfl) (rKeep.sAk (f := 4) g0 (by decide)) rfl rfl rfl rfl rfl) h (Nat.le_refl _)
                            · have h := hF c
                              exact y_retv hR dX14_line_167 Ws112 (Nat.le_of_ble_eq_true rfl) (Nat.le_of_ble_eq_true rfl) ⟨(rKeep.tr rKeep.rf kJ rfl rfl rfl rfl rfl), h⟩
                      · have h := hF c
                        exact y_retv hR dX14_line_137 Ws112 (Nat.le_of_ble_eq_true rfl) (Nat.le_of_ble_eq_true rfl) ⟨(rKeep.tr rKeep.rf kJ rfl rfl rfl rfl rfl), h⟩
                  · have h := hF c
                    refine y_iinc hC (pc := 119) (v := (y113 + 1)) (lv' := [(5, iv (y113 + 1)), (0, .ref (κ 0)), (1, iv x1), (2, iv x2)]) 3 dX14_line_119 rfl rfl (by decide) rfl ?_
                    refine z_goto hC (pc := 122) 104 dX14_line_122 (by decide) ?_
                    refine z_lvs [1, 2, 3, 0] rfl ?_
                    obtain ⟨r209, h⟩ := h
                    obtain ⟨hI, hm⟩ := h
                    exact ih104 s112 (y113 + 1) Ws112 r209 (rKeep.tr rKeep.rf kJ rfl rfl rfl rfl rfl) hI (by omega)
            refine z_lvs [1, 2, 3, 0] rfl ?_
            exact j104 _ s10 x1 Ws10 hx1 (rKeep.tr rKeep.rf kJ rfl rfl rfl rfl rfl) h (Nat.le_refl _)
          · have h := hF c
            refine z_iload_n hC (pc := 57) 1 dX14_line_57 rfl rfl ?_
            refine z_istore hC (pc := 58) (lv' := [(5, iv x1), (0, .ref (κ 0)), (1, iv x1), (2, iv x2), (3, iv y11), (4, iv y12)]) dX14_line_58 (by decide) rfl ?_
            have j60 : ∀ (d60 : Nat), ∀ (s210 : rS) (y211 : Int), rWF s210 → rng y211 → rKeep 0 0x200 0x2000000000 0x110 0 σ s210 → inv_X14_line_60 σ x1 x2 s210 y211 → (mu_X14_line_60 σ x1 x2 s210 y211) ≤ d60 → zS X G 9 (rW G κ s210) [(0, .ref (κ 0)), (2, iv x2), (5, iv y211)] 0 0 60 [] := by
              intro d60
              induction d60 with
              | zero =>
                intro s210 y211 Ws210 hy211 kJ hI hmu
                exact absurd hmu (by have := h_60m  s210 y211 Ws210 hy211 (WNp.keep kJ rfl rfl rfl rfl) (kJ.R rfl) (kJ.F rfl) (fun i => kJ.A (f := 34) (by decide) rfl) hI; omega)
              | succ d60 ih60 =>
                intro s210 y211 Ws210 hy211 kJ hI hmu60
                have h := h_60  s210 y211 Ws210 hy211 (WNp.keep kJ rfl rfl rfl rfl) (kJ.R rfl) (kJ.F rfl) (fun i => kJ.A (f := 34) (by decide) rfl) hI
                refine z_iload hC (pc := 60) 2 dX14_line_60 rfl ?_
                refine z_iload_n hC (pc := 62) 1 dX14_line_62 rfl rfl ?_
                obtain ⟨hT, hF⟩ := h
                refine y_icmp_ge hC (pc := 63) 85 hy211 hx2 dX14_line_63 (by decide) (fun c => ?_) (fun c => ?_)
                · have h := hT c
                  refine z_iload_n hC (pc := 85) 1 dX14_line_85 rfl rfl ?_
                  refine z_aload_n hC (pc := 86) 0 dX14_line_86 rfl rfl ?_
                  refine y_get hC (pc := 87) zf14 rOb_0 38 (v := iv (rF s210 0 38)) dX14_line_87 zw2505 (rv_i (Or.inl rfl) rfl) (kk := ?_)
                  have h := h (Ws210.f _ _)
                  obtain ⟨hT, hF⟩ := h
                  refine y_icmp_ge hC (pc := 90) 100 hx2 (Ws210.f _ _) dX14_line_90 (by decide) (fun c => ?_) (fun c => ?_)
                  · have h := hT c
                    exact y_retv hR dX14_line_100 Ws210 (Nat.le_of_ble_eq_true rfl) (Nat.le_of_ble_eq_true rfl) ⟨(rKeep.tr rKeep.rf kJ rfl rfl rfl rfl rfl), h⟩
                  · have h := hF c
                    refine z_aload_n hC (pc := 93) 0 dX14_line_93 rfl rfl ?_
                    refine y_get hC (pc := 94) zf14 rOb_0 37 (v := .ref (κ 1037)) dX14_line_94 zw2504 (rv_c rfl) (kk := ?_)
                    refine z_iload_n hC (pc := 97) 1 dX14_line_97 rfl rfl ?_
                    refine z_iconst hC (pc := 98) (v := Int32.ofInt 1) dX14_line_98 (by decide) ?_
                    obtain ⟨b212, h⟩ := h
                    refine y_zast hC (pc := 99) (rAr_m rfl) dX14_line_99 b212 (v := 1) (kk := ?_)
                    have W213 := Ws210.sA (p := 1037) (i := x2) (x := (inar .boolean 1)) (inar_rng _ _)
                    exact y_retv hR dX14_line_100 W213 (Nat.le_of_ble_eq_true rfl) (Nat.le_of_ble_eq_true rfl) ⟨(rKeep.tr (rKeep.tr rKeep.rf kJ rfl rfl rfl rfl rfl) (rKeep.sA0 (f := 37) (by decide)) rfl rfl rfl rfl rfl), h⟩
                · have h := hF c
                  refine z_aload_n hC (pc := 66) 0 dX14_line_66 rfl rfl ?_
                  refine y_get hC (pc := 67) zf14 rOb_0 37 (v := .ref (κ 1037)) dX14_line_67 zw2504 (rv_c rfl) (kk := ?_)
                  refine z_iload hC (pc := 70) 2 dX14_line_70 rfl ?_
                  refine z_aload_n hC (pc := 72) 0 dX14_line_72 rfl rfl ?_
                  refine z_iload hC (pc := 73) 2 dX14_line_73 rfl ?_
                  obtain ⟨p214, h⟩ := h
                  refine y_callVi hC (pc := 75) (As := [iv y211]) (kX14_isSpace l G κ s210 y211 Ws210 hy211 p214) dmX14_isSpace zf14 rOb_0 dX14_line_75 zw3299 rfl rfl (Nat.le_of_ble_eq_true rfl) (Nat.le_of_ble_eq_true rfl) (Nat.le_of_ble_eq_true rfl) (Nat.le_of_ble_eq_true rfl) (Nat.le_of_ble_eq_true rfl) (kk := fun x216 s215 hx216 Ws215 qs215 => ?_)
                  obtain ⟨es215, qs215⟩ := qs215
                  have es215 := es215.symm
                  subst es215
                  have h := h x216 hx216 qs215
                  obtain ⟨b217, h⟩ := h
                  refine y_zast hC (pc := 78) (rAr_m rfl) dX14_line_78 b217 (v := x216) (kk := ?_)
                  have W218 := Ws210.sA (p := 1037) (i := y211) (x := (inar .boolean x216)) (inar_rng _ _)
                  refine y_iinc hC (pc := 79) (v := (y211 + 1)) (lv' := [(5, iv (y211 + 1)), (0, .ref (κ 0)), (2, iv x2)]) 2 dX14_line_79 rfl rfl (by decide) rfl ?_
                  refine z_goto hC (pc := 82) 60 dX14_line_82 (by decide) ?_
                  refine z_lvs [1, 2, 0] rfl ?_
                  obtain ⟨r219, h⟩ := h
                  obtain ⟨hI, hm⟩ := h
                  exact ih60 (sA s210 1037 y211 (inar .boolean x216)) (y211 + 1) W218 r219 (rKeep.tr (rKeep.tr rKeep.rf kJ rfl rfl rfl rfl rfl) (rKeep.sA0 (f := 37) (by decide)) rfl rfl rfl rfl rfl) hI (by omega)
            refine z_lvs [1, 3, 0] rfl ?_
            exact j60 _ s10 x1 Ws10 hx1 (rKeep.tr rKeep.rf kJ rfl rfl rfl rfl rfl) h (Nat.le_refl _)
      · have h := hF c
        refine z_aload_n hC (pc := 14) 0 dX14_line_14 rfl rfl ?_
        refine z_iload hC (pc := 15) 5 dX14_line_15 rfl ?_
        obtain ⟨p220, h⟩ := h
        refine y_callVi hC (pc := 17) (As := [iv y13]) (kX14_isLineTag l G κ s10 y13 Ws10 hy13 p220) dmX14_isLineTag zf14 rOb_0 dX14_line_17 zw3295 rfl rfl (Nat.le_of_ble_eq_true rfl) (Nat.le_of_ble_eq_true rfl) (Nat.le_of_ble_eq_true rfl) (Nat.le_of_ble_eq_true rfl) (Nat.le_of_ble_eq_true rfl) (kk := fun x222 s221 hx222 Ws221 qs221 => ?_)
        obtain ⟨es221, qs221⟩ := qs221
        have es221 := es221.symm
        subst es221
        have h := h x222 hx222 qs221
        obtain ⟨hT, hF⟩ := h
        refine y_if_eq hC (pc := 20) 29 hx222 dX14_line_20 (by decide) (fun c => ?_) (fun c => ?_)
        · have h := hT c
          refine z_aload_n hC (pc := 29) 0 dX14_line_29 rfl rfl ?_
          refine z_iload hC (pc := 30) 5 dX14_line_30 rfl ?_
          obtain ⟨p223, h⟩ := h
          refine y_callVi hC (pc := 32) (As := [iv y13]) (kX14_isSpace l G κ s10 y13 Ws10 hy13 p223) dmX14_isSpace zf14 rOb_0 dX14_line_32 zw3299 rfl rfl (Nat.le_of_ble_eq_true rfl) (Nat.le_of_ble_eq_true rfl) (Nat.le_of_ble_eq_true rfl) (Nat.le_of_ble_eq_true rfl) (Nat.le_of_ble_eq_true rfl) (kk := fun x225 s224 hx225 Ws224 qs224 => ?_)
          obtain ⟨es224, qs224⟩ := qs224
          have es224 := es224.symm
          subst es224
          have h := h x225 hx225 qs224
          obtain ⟨hT, hF⟩ := h
          refine y_if_ne hC (pc := 35) 41 hx225 dX14_line_35 (by decide) (fun c => ?_) (fun c => ?_)
          · have h := hT c
            refine y_iinc hC (pc := 41) (v := (y13 + 1)) (lv' := [(5, iv (y13 + 1)), (0, .ref (κ 0)), (1, iv x1), (2, iv x2), (3, iv y11), (4, iv y12)]) 5 dX14_line_41 rfl rfl (by decide) rfl ?_
            refine z_goto hC (pc := 44) 8 dX14_line_44 (by decide) ?_
            refine z_lvs [1, 2, 3, 4, 5, 0] rfl ?_
            obtain ⟨r226, h⟩ := h
            obtain ⟨hI, hm⟩ := h
            exact ih8 s10 y11 y12 (y13 + 1) Ws10 hy11 hy12 r226 (rKeep.tr rKeep.rf kJ rfl rfl rfl rfl rfl) hI (by omega)
          · have h := hF c
            refine y_iinc hC (pc := 38) (v := (y12 + 1)) (lv' := [(4, iv (y12 + 1)), (0, .ref (κ 0)), (1, iv x1), (2, iv x2), (3, iv y11), (5, iv y13)]) 4 dX14_line_38 rfl rfl (by decide) rfl ?_
            refine y_iinc hC (pc := 41) (v := (y13 + 1)) (lv' := [(5, iv (y13 + 1)), (4, iv (y12 + 1)), (0, .ref (κ 0)), (1, iv x1), (2, iv x2), (3, iv y11)]) 5 dX14_line_41 rfl rfl (by decide) rfl ?_
            refine z_goto hC (pc := 44) 8 dX14_line_44 (by decide) ?_
            refine z_lvs [2, 3, 4, 5, 1, 0] rfl ?_
            obtain ⟨r227, h⟩ := h
            obtain ⟨r228, h⟩ := h
            obtain ⟨hI, hm⟩ := h
            exact ih8 s10 y11 (y12 + 1) (y13 + 1) Ws10 hy11 r227 r228 (rKeep.tr rKeep.rf kJ rfl rfl rfl rfl rfl) hI (by omega)
        · have h := hF c
          refine y_iinc hC (pc := 23) (v := (y11 + 1)) (lv' := [(3, iv (y11 + 1)), (0, .ref (κ 0)), (1, iv x1), (2, iv x2), (4, iv y12), (5, iv y13)]) 3 dX14_line_23 rfl rfl (by decide) rfl ?_
          refine z_goto hC (pc := 26) 41 dX14_line_26 (by decide) ?_
          refine y_iinc hC (pc := 41) (v := (y13 + 1)) (lv' := [(5, iv (y13 + 1)), (3, iv (y11 + 1)), (0, .ref (κ 0)), (1, iv x1), (2, iv x2), (4, iv y12)]) 5 dX14_line_41 rfl rfl (by decide) rfl ?_
          refine z_goto hC (pc := 44) 8 dX14_line_44 (by decide) ?_
          refine z_lvs [2, 3, 4, 1, 5, 0] rfl ?_
          obtain ⟨r229, h⟩ := h
          obtain ⟨r230, h⟩ := h
          obtain ⟨hI, hm⟩ := h
          exact ih8 s10 (y11 + 1) y12 (y13 + 1) Ws10 r229 hy12 r230 (rKeep.tr rKeep.rf kJ rfl rfl rfl rfl rfl) hI (by omega)
  refine z_lvs [3, 4, 5, 2, 1, 0] rfl ?_
  exact j8 _ σ 0 0 x1 hwf (r_lit rfl) (r_lit rfl) hx1 rKeep.rf h (Nat.le_refl _)
theorem kX14_line (l : Launch) (G : zG) (κ : Nat → Nat) (σ : rS) (x1 : Int) (x2 : Int) (hwf : rWF σ) (hx1 : rng x1) (hx2 : rng x2) (hp : pre_X14_line σ x1 x2) : rMv l G κ yX14_line cX14_line 9 2 21 [.ref (κ 0), iv x1, iv x2] σ (fun s => rKeep 0 0x200 0x2000000000 0x110 0 σ s ∧ post_X14_line σ x1 x2 s) := wX14_line l G κ σ x1 x2 hwf hx1 hx2 (post_X14_line σ x1 x2) (vX14_line σ x1 x2 hwf hx1 hx2 hp) (vX14_line_206 σ x1 x2 hwf hx1 hx2 hp) (vX14_line_206m σ x1 x2 hwf hx1 hx2 hp) (vX14_line_104 σ x1 x2 hwf hx1 hx2 hp) (vX14_line_104m σ x1 x2 hwf hx1 hx2 hp) (vX14_line_60 σ x1 x2 hwf hx1 hx2 hp) (vX14_line_60m σ x1 x2 hwf hx1 hx2 hp) (vX14_line_8 σ x1 x2 hwf hx1 hx2 hp) (vX14_line_8m σ x1 x2 hwf hx1 hx2 hp)
def pre_X14_lines (σ : rS) (x1 : Int) : Prop := rgk (rR σ 7) ∧ 0 ≤ x1 ∧ x1 ≤ (rF σ 0 38) ∧ (rF σ 0 38) ≤ 9000 ∧ 0 ≤ (rF σ (rR σ 7) 9) ∧ (rF σ (rR σ 7) 9) + ((rF σ 0 38) - x1) ≤ 60000 ∧ WNp σ
def post_X14_lines (σ : rS) (x1 : Int) (σ' : rS) : Prop := (rF σ (rR σ 7) 9) ≤ rF σ' (rR σ 7) 9 ∧ rF σ' (rR σ 7) 9 ≤ (rF σ (rR σ 7) 9) + ((rF σ 0 38) - x1)
def inv_X14_lines_2 (σ : rS) (x1 : Int)  (s : rS) (fr : Int) : Prop := x1 ≤ fr ∧ fr ≤ (rF σ 0 38) + 1 ∧ (rF σ (rR σ 7) 9) ≤ rF s (rR σ 7) 9 ∧ (rF s (rR σ 7) 9 + x1 ≤ (rF σ (rR σ 7) 9) + fr) ∧ (rF s (rR σ 7) 9 + x1 ≤ (rF σ (rR σ 7) 9) + (rF σ 0 38))
def mu_X14_lines_2 (σ : rS) (x1 : Int) (s : rS) (fr : Int) : Nat := (1 + ((rF σ 0 38) + 1 - fr).toNat)
def inv_X14_lines_12 (σ : rS) (x1 : Int) (m2 : Nat) (s : rS) (fr : Int) (en : Int) : Prop := x1 ≤ fr ∧ fr < (rF σ 0 38) ∧ fr ≤ en ∧ en ≤ (rF σ 0 38) ∧ ((rF σ 0 38) + 1 - fr).toNat + 1 ≤ m2 ∧ (rF σ (rR σ 7) 9) ≤ rF s (rR σ 7) 9 ∧ rF s (rR σ 7) 9 + x1 ≤ (rF σ (rR σ 7) 9) + fr
def mu_X14_lines_12 (σ : rS) (x1 : Int) (s : rS) (fr : Int) (en : Int) : Nat := (1 + ((rF σ 0 38) - en).toNat)
def VC_X14_lines (σ : rS) (x1 : Int) (Q : rS → Prop) : Prop := rgk (rR σ 7) ∧ (inv_X14_lines_2 σ x1 σ x1)
def VC_X14_lines_12 (σ : rS) (x1 : Int) (Q : rS → Prop) : Prop := ∀ (m2 : Nat) (s12 : rS) (y13 : Int) (y14 : Int), rWF s12 → rng y13 → rng y14 → (WNp σ → WNp s12) → rR s12 7 = rR σ 7 → rF s12 0 38 = rF σ 0 38 → inv_X14_lines_12 σ x1 m2 s12 y13 y14 → ((rng (rF s12 0 38) → (((rF s12 0 38) ≤ y14 → pre_X14_line s12 y13 y14 ∧ (∀ (s16 : rS), rWF s16 → (WNp s12 → WNp s16) → rR s16 7 = rR s12 7 → rF s16 0 38 = rF s12 0 38 → post_X14_line s12 y13 y14 s16 → rng (y14 + 1) ∧ (inv_X14_lines_2 σ x1 s16 (y14 + 1) ∧ (mu_X14_lines_2 σ x1 s16 (y14 + 1)) < m2))) ∧ (¬ (rF s12 0 38) ≤ y14 → (0 ≤ y14 ∧ y14 < 9000) ∧ (rng (rA s12 1034 y14) → (((rA s12 1034 y14) = 2 → pre_X14_line s12 y13 y14 ∧ (∀ (s21 : rS), rWF s21 → (WNp s12 → WNp s21) → rR s21 7 = rR s12 7 → rF s21 0 38 = rF s12 0 38 → post_X14_line s12 y13 y14 s21 → rng (y14 + 1) ∧ (inv_X14_lines_2 σ x1 s21 (y14 + 1) ∧ (mu_X14_lines_2 σ x1 s21 (y14 + 1)) < m2))) ∧ (¬ (rA s12 1034 y14) = 2 → rng (y14 + 1) ∧ (inv_X14_lines_12 σ x1 m2 s12 y13 (y14 + 1) ∧ (mu_X14_lines_12 σ x1 s12 y13 (y14 + 1)) < (mu_X14_lines_12 σ x1 s12 y13 y14)))))))))
def VC_X14_lines_12m (σ : rS) (x1 : Int) : Prop := ∀ (m2 : Nat) (s12 : rS) (y13 : Int) (y14 : Int), rWF s12 → rng y13 → rng y14 → (WNp σ → WNp s12) → rR s12 7 = rR σ 7 → rF s12 0 38 = rF σ 0 38 → inv_X14_lines_12 σ x1 m2 s12 y13 y14 → 0 < (mu_X14_lines_12 σ x1 s12 y13 y14)
def VC_X14_lines_2 (σ : rS) (x1 : Int) (Q : rS → Prop) : Prop := ∀ (s10 : rS) (y11 : Int), rWF s10 → rng y11 → (WNp σ → WNp s10) → rR s10 7 = rR σ 7 → rF s10 0 38 = rF σ 0 38 → inv_X14_lines_2 σ x1 s10 y11 → ((rng (rF s10 0 38) → (((rF s10 0 38) ≤ y11 → Q s10) ∧ (¬ (rF s10 0 38) ≤ y11 → (inv_X14_lines_12 σ x1 (mu_X14_lines_2 σ x1 s10 y11) s10 y11 y11)))))
def VC_X14_lines_2m (σ : rS) (x1 : Int) : Prop := ∀ (s10 : rS) (y11 : Int), rWF s10 → rng y11 → (WNp σ → WNp s10) → rR s10 7 = rR σ 7 → rF s10 0 38 = rF σ 0 38 → inv_X14_lines_2 σ x1 s10 y11 → 0 < (mu_X14_lines_2 σ x1 s10 y11)
set_option maxHeartbeats 400000 in
theorem vX14_lines (σ : rS) (x1 : Int) (hwf : rWF σ) (hx1 : rng x1) (hp : pre_X14_lines σ x1) : VC_X14_lines σ x1 (post_X14_lines σ x1) := by
  simp only [VC_X14_lines, pre_X14_lines, post_X14_lines, inv_X14_lines_2, inv_X14_lines_12, mu_X14_lines_2, mu_X14_lines_12, pre_X14_line, post_X14_line, rng, rfk, rNMp, rF_sF, rF_sA, rF_sL, rF_sR, rA_sA, rA_sF, rA_sL, rA_sR, rR_sF, rR_sA, rR_sL, rR_sR, reduceIte, and_true, true_and, and_false, false_and, and_self, WNp_sL, WNp_sF0, WNp_sF3, WNp_sF10, WNp_sF11, WNp_sF12, WNp_sF13, WNp_sF14, WNp_sF16, WNp_sF17, WNp_sF18, WNp_sF19, WNp_sF21, WNp_sF22, WNp_sF23, WNp_sF24, WNp_sF25, WNp_sF28, WNp_sF29, WNp_sF30, WNp_sF31, WNp_sF32, WNp_sF33, WNp_sF39, WNp_sF41, WNp_sF42, WNp_sF43, WNp_sF44, WNp_sF45, WNp_sF60, WNp_sF65, WNp_sF66, WNp_sF67, WNp_sF68, WNp_sF70, WNp_sF71, WNp_sF72, WNp_sF73, WNp_sF74, WNp_sF80, WNp_sF81, WNp_sF82, WNp_sF83, WNp_sF88, WNp_sF92, WNp_sF94, WNp_sF96, WNp_sF97, WNp_sF98, WNp_sF99, WNp_sF100, WNp_sF101, WNp_sF103, WNp_sF104, WNp_sF112, WNp_sF113, WNp_sF118, WNp_sF119, WNp_sF122, WNp_sF123, WNp_sF135, WNp_sF137, WNp_sA1, WNp_sA2, WNp_sA5, WNp_sA20, WNp_sA26, WNp_sA27, WNp_sA37, WNp_sA40, WNp_sA46, WNp_sA47, WNp_sA48, WNp_sA49, WNp_sA50, WNp_sA51, WNp_sA52, WNp_sA53, WNp_sA54, WNp_sA55, WNp_sA56, WNp_sA57, WNp_sA58, WNp_sA59, WNp_sA61, WNp_sA62, WNp_sA63, WNp_sA64, WNp_sA69, WNp_sA75, WNp_sA76, WNp_sA77, WNp_sA78, WNp_sA79, WNp_sA84, WNp_sA85, WNp_sA86, WNp_sA87, WNp_sA89, WNp_sA90, WNp_sA91, WNp_sA93, WNp_sA102, WNp_sA105, WNp_sA106, WNp_sA107, WNp_sA108, WNp_sA109, WNp_sA110, WNp_sA111, WNp_sA114, WNp_sA115, WNp_sA116, WNp_sA117, WNp_sA120, WNp_sA121, WNp_sA124, WNp_sA125, WNp_sA126, WNp_sA127, WNp_sA128, WNp_sA129, WNp_sA136, WNp_sA138, WNp_gA0, WNp_gA1, WNp_gA2, WNp_gA3, WNp_gA4, WNp_gA5, WNp_gA6, WNp_gA8, WNp_gA10, WNp_gA11, WNp_gA15, WNp_gA16, WNp_gA17, WNp_gA18, WNp_gA19, WNp_gA20, WNp_gA21, WNp_gA22, WNp_gA23, WNp_gA24, WNp_gA25, WNp_gA26, WNp_gA27, WNp_gA29, WNp_gA30, WNp_gA31, WNp_gA33, WNp_gA37, WNp_sF7, WNp_sF9] at *
  (repeat' (first | with_reducible intro _ | with_reducible apply And.intro))
  all_goals (first | assumption | omega | grind (splits := 20) [rNM_sF0])
set_option maxHeartbeats 400000 in
theorem vX14_lines_12 (σ : rS) (x1 : Int) (hwf : rWF σ) (hx1 : rng x1) (hp : pre_X14_lines σ x1) : VC_X14_lines_12 σ x1 (post_X14_lines σ x1) := by
  simp only [VC_X14_lines_12, pre_X14_lines, post_X14_lines, inv_X14_lines_2, inv_X14_lines_12, mu_X14_lines_2, mu_X14_lines_12, pre_X14_line, post_X14_line, rng, rfk, rNMp, rF_sF, rF_sA, rF_sL, rF_sR, rA_sA, rA_sF, rA_sL, rA_sR, rR_sF, rR_sA, rR_sL, rR_sR, reduceIte, and_true, true_and, and_false, false_and, and_self, WNp_sL, WNp_sF0, WNp_sF3, WNp_sF10, WNp_sF11, WNp_sF12, WNp_sF13, WNp_sF14, WNp_sF16, WNp_sF17, WNp_sF18, WNp_sF19, WNp_sF21, WNp_sF22, WNp_sF23, WNp_sF24, WNp_sF25, WNp_sF28, WNp_sF29, WNp_sF30, WNp_sF31, WNp_sF32, WNp_sF33, WNp_sF39, WNp_sF41, WNp_sF42, WNp_sF43, WNp_sF44, WNp_sF45, WNp_sF60, WNp_sF65, WNp_sF66, WNp_sF67, WNp_sF68, WNp_sF70, WNp_sF71, WNp_sF72, WNp_sF73, WNp_sF74, WNp_sF80, WNp_sF81, WNp_sF82, WNp_sF83, WNp_sF88, WNp_sF92, WNp_sF94, WNp_sF96, WNp_sF97, WNp_sF98, WNp_sF99, WNp_sF100, WNp_sF101, WNp_sF103, WNp_sF104, WNp_sF112, WNp_sF113, WNp_sF118, WNp_sF119, WNp_sF122, WNp_sF123, WNp_sF135, WNp_sF137, WNp_sA1, WNp_sA2, WNp_sA5, WNp_sA20, WNp_sA26, WNp_sA27, WNp_sA37, WNp_sA40, WNp_sA46, WNp_sA47, WNp_sA48, WNp_sA49, WNp_sA50, WNp_sA51, WNp_sA52, WNp_sA53, WNp_sA54, WNp_sA55, WNp_sA56, WNp_sA57, WNp_sA58, WNp_sA59, WNp_sA61, WNp_sA62, WNp_sA63, WNp_sA64, WNp_sA69, WNp_sA75, WNp_sA76, WNp_sA77, WNp_sA78, WNp_sA79, WNp_sA84, WNp_sA85, WNp_sA86, WNp_sA87, WNp_sA89, WNp_sA90, WNp_sA91, WNp_sA93, WNp_sA102, WNp_sA105, WNp_sA106, WNp_sA107, WNp_sA108, WNp_sA109, WNp_sA110, WNp_sA111, WNp_sA114, WNp_sA115, WNp_sA116, WNp_sA117, WNp_sA120, WNp_sA121, WNp_sA124, WNp_sA125, WNp_sA126, WNp_sA127, WNp_sA128, WNp_sA129, WNp_sA136, WNp_sA138, WNp_gA0, WNp_gA1, WNp_gA2, WNp_gA3, WNp_gA4, WNp_gA5, WNp_gA6, WNp_gA8, WNp_gA10, WNp_gA11, WNp_gA15, WNp_gA16, WNp_gA17, WNp_gA18, WNp_gA19, WNp_gA20, WNp_gA21, WNp_gA22, WNp_gA23, WNp_gA24, WNp_gA25, WNp_gA26, WNp_gA27, WNp_gA29, WNp_gA30, WNp_gA31, WNp_gA33, WNp_gA37, WNp_sF7, WNp_sF9] at *
  (repeat' (first | with_reducible intro _ | with_reducible apply And.intro))
  all_goals (first | assumption | omega | grind (splits := 20) [rNM_sF0])
set_option maxHeartbeats 400000 in
theorem vX14_lines_12m (σ : rS) (x1 : Int) (hwf : rWF σ) (hx1 : rng x1) (hp : pre_X14_lines σ x1) : VC_X14_lines_12m σ x1 := by
  simp only [VC_X14_lines_12m, pre_X14_lines, post_X14_lines, inv_X14_lines_2, inv_X14_lines_12, mu_X14_lines_2, mu_X14_lines_12, pre_X14_line, post_X14_line, rng, rfk, rNMp, rF_sF, rF_sA, rF_sL, rF_sR, rA_sA, rA_sF, rA_sL, rA_sR, rR_sF, rR_sA, rR_sL, rR_sR, reduceIte, and_true, true_and, and_false, false_and, and_self, WNp_sL, WNp_sF0, WNp_sF3, WNp_sF10, WNp_sF11, WNp_sF12, WNp_sF13, WNp_sF14, WNp_sF16, WNp_sF17, WNp_sF18, WNp_sF19, WNp_sF21, WNp_sF22, WNp_sF23, WNp_sF24, WNp_sF25, WNp_sF28, WNp_sF29, WNp_sF30, WNp_sF31, WNp_sF32, WNp_sF33, WNp_sF39, WNp_sF41, WNp_sF42, WNp_sF43, WNp_sF44, WNp_sF45, WNp_sF60, WNp_sF65, WNp_sF66, WNp_sF67, WNp_sF68, WNp_sF70, WNp_sF71, WNp_sF72, WNp_sF73, WNp_sF74, WNp_sF80, WNp_sF81, WNp_sF82, WNp_sF83, WNp_sF88, WNp_sF92, WNp_sF94, WNp_sF96, WNp_sF97, WNp_sF98, WNp_sF99, WNp_sF100, WNp_sF101, WNp_sF103, WNp_sF104, WNp_sF112, WNp_sF113, WNp_sF118, WNp_sF119, WNp_sF122, WNp_sF123, WNp_sF135, WNp_sF137, WNp_sA1, WNp_sA2, WNp_sA5, WNp_sA20, WNp_sA26, WNp_sA27, WNp_sA37, WNp_sA40, WNp_sA46, WNp_sA47, WNp_sA48, WNp_sA49, WNp_sA50, WNp_sA51, WNp_sA52, WNp_sA53, WNp_sA54, WNp_sA55, WNp_sA56, WNp_sA57, WNp_sA58, WNp_sA59, WNp_sA61, WNp_sA62, WNp_sA63, WNp_sA64, WNp_sA69, WNp_sA75, WNp_sA76, WNp_sA77, WNp_sA78, WNp_sA79, WNp_sA84, WNp_sA85, WNp_sA86, WNp_sA87, WNp_sA89, WNp_sA90, WNp_sA91, WNp_sA93, WNp_sA102, WNp_sA105, WNp_sA106, WNp_sA107, WNp_sA108, WNp_sA109, WNp_sA110, WNp_sA111, WNp_sA114, WNp_sA115, WNp_sA116, WNp_sA117, WNp_sA120, WNp_sA121, WNp_sA124, WNp_sA125, WNp_sA126, WNp_sA127, WNp_sA128, WNp_sA129, WNp_sA136, WNp_sA138, WNp_gA0, WNp_gA1, WNp_gA2, WNp_gA3, WNp_gA4, WNp_gA5, WNp_gA6, WNp_gA8, WNp_gA10, WNp_gA11, WNp_gA15, WNp_gA16, WNp_gA17, WNp_gA18, WNp_gA19, WNp_gA20, WNp_gA21, WNp_gA22, WNp_gA23, WNp_gA24, WNp_gA25, WNp_gA26, WNp_gA27, WNp_gA29, WNp_gA30, WNp_gA31, WNp_gA33, WNp_gA37, WNp_sF7, WNp_sF9] at *
  (repeat' (first | with_reducible intro _ | with_reducible apply And.intro))
  all_goals (first | assumption | omega | grind (splits := 20) [rNM_sF0])
set_option maxHeartbeats 400000 in
theorem vX14_lines_2 (σ : rS) (x1 : Int) (hwf : rWF σ) (hx1 : rng x1) (hp : pre_X14_lines σ x1) : VC_X14_lines_2 σ x1 (post_X14_lines σ x1) := by
  simp only [VC_X14_lines_2, pre_X14_lines, post_X14_lines, inv_X14_lines_2, inv_X14_lines_12, mu_X14_lines_2, mu_X14_lines_12, pre_X14_line, post_X14_line, rng, rfk, rNMp, rF_sF, rF_sA, rF_sL, rF_sR, rA_sA, rA_sF, rA_sL, rA_sR, rR_sF, rR_sA, rR_sL, rR_sR, reduceIte, and_true, true_and, and_false, false_and, and_self, WNp_sL, WNp_sF0, WNp_sF3, WNp_sF10, WNp_sF11, WNp_sF12, WNp_sF13, WNp_sF14, WNp_sF16, WNp_sF17, WNp_sF18, WNp_sF19, WNp_sF21, WNp_sF22, WNp_sF23, WNp_sF24, WNp_sF25, WNp_sF28, WNp_sF29, WNp_sF30, WNp_sF31, WNp_sF32, WNp_sF33, WNp_sF39, WNp_sF41, WNp_sF42, WNp_sF43, WNp_sF44, WNp_sF45, WNp_sF60, WNp_sF65, WNp_sF66, WNp_sF67, WNp_sF68, WNp_sF70, WNp_sF71, WNp_sF72, WNp_sF73, WNp_sF74, WNp_sF80, WNp_sF81, WNp_sF82, WNp_sF83, WNp_sF88, WNp_sF92, WNp_sF94, WNp_sF96, WNp_sF97, WNp_sF98, WNp_sF99, WNp_sF100, WNp_sF101, WNp_sF103, WNp_sF104, WNp_sF112, WNp_sF113, WNp_sF118, WNp_sF119, WNp_sF122, WNp_sF123, WNp_sF135, WNp_sF137, WNp_sA1, WNp_sA2, WNp_sA5, WNp_sA20, WNp_sA26, WNp_sA27, WNp_sA37, WNp_sA40, WNp_sA46, WNp_sA47, WNp_sA48, WNp_sA49, WNp_sA50, WNp_sA51, WNp_sA52, WNp_sA53, WNp_sA54, WNp_sA55, WNp_sA56, WNp_sA57, WNp_sA58, WNp_sA59, WNp_sA61, WNp_sA62, WNp_sA63, WNp_sA64, WNp_sA69, WNp_sA75, WNp_sA76, WNp_sA77, WNp_sA78, WNp_sA79, WNp_sA84, WNp_sA85, WNp_sA86, WNp_sA87, WNp_sA89, WNp_sA90, WNp_sA91, WNp_sA93, WNp_sA102, WNp_sA105, WNp_sA106, WNp_sA107, WNp_sA108, WNp_sA109, WNp_sA110, WNp_sA111, WNp_sA114, WNp_sA115, WNp_sA116, WNp_sA117, WNp_sA120, WNp_sA121, WNp_sA124, WNp_sA125, WNp_sA126, WNp_sA127, WNp_sA128, WNp_sA129, WNp_sA136, WNp_sA138, WNp_gA0, WNp_gA1, WNp_gA2, WNp_gA3, WNp_gA4, WNp_gA5, WNp_gA6, WNp_gA8, WNp_gA10, WNp_gA11, WNp_gA15, WNp_gA16, WNp_gA17, WNp_gA18, WNp_gA19, WNp_gA20, WNp_gA21, WNp_gA22, WNp_gA23, WNp_gA24, WNp_gA25, WNp_gA26, WNp_gA27, WNp_gA29, WNp_gA30, WNp_gA31, WNp_gA33, WNp_gA37, WNp_sF7, WNp_sF9] at *
  (repeat' (first | with_reducible intro _ | with_reducible apply And.intro))
  all_goals (first | assumption | omega | grind (splits := 20) [rNM_sF0])
set_option maxHeartbeats 400000 in
theorem vX14_lines_2m (σ : rS) (x1 : Int) (hwf : rWF σ) (hx1 : rng x1) (hp : pre_X14_lines σ x1) : VC_X14_lines_2m σ x1 := by
  simp only [VC_X14_lines_2m, pre_X14_lines, post_X14_lines, inv_X14_lines_2, inv_X14_lines_12, mu_X14_lines_2, mu_X14_lines_12, pre_X14_line, post_X14_line, rng, rfk, rNMp, rF_sF, rF_sA, rF_sL, rF_sR, rA_sA, rA_sF, rA_sL, rA_sR, rR_sF, rR_sA, rR_sL, rR_sR, reduceIte, and_true, true_and, and_false, false_and, and_self, WNp_sL, WNp_sF0, WNp_sF3, WNp_sF10, WNp_sF11, WNp_sF12, WNp_sF13, WNp_sF14, WNp_sF16, WNp_sF17, WNp_sF18, WNp_sF19, WNp_sF21, WNp_sF22, WNp_sF23, WNp_sF24, WNp_sF25, WNp_sF28, WNp_sF29, WNp_sF30, WNp_sF31, WNp_sF32, WNp_sF33, WNp_sF39, WNp_sF41, WNp_sF42, WNp_sF43, WNp_sF44, WNp_sF45, WNp_sF60, WNp_sF65, WNp_sF66, WNp_sF67, WNp_sF68, WNp_sF70, WNp_sF71, WNp_sF72, WNp_sF73, WNp_sF74, WNp_sF80, WNp_sF81, WNp_sF82, WNp_sF83, WNp_sF88, WNp_sF92, WNp_sF94, WNp_sF96, WNp_sF97, WNp_sF98, WNp_sF99, WNp_sF100, WNp_sF101, WNp_sF103, WNp_sF104, WNp_sF112, WNp_sF113, WNp_sF118, WNp_sF119, WNp_sF122, WNp_sF123, WNp_sF135, WNp_sF137, WNp_sA1, WNp_sA2, WNp_sA5, WNp_sA20, WNp_sA26, WNp_sA27, WNp_sA37, WNp_sA40, WNp_sA46, WNp_sA47, WNp_sA48, WNp_sA49, WNp_sA50, WNp_sA51, WNp_sA52, WNp_sA53, WNp_sA54, WNp_sA55, WNp_sA56, WNp_sA57, WNp_sA58, WNp_sA59, WNp_sA61, WNp_sA62, WNp_sA63, WNp_sA64, WNp_sA69, WNp_sA75, WNp_sA76, WNp_sA77, WNp_sA78, WNp_sA79, WNp_sA84, WNp_sA85, WNp_sA86, WNp_sA87, WNp_sA89, WNp_sA90, WNp_sA91, WNp_sA93, WNp_sA102, WNp_sA105, WNp_sA106, WNp_sA107, WNp_sA108, WNp_sA109, WNp_sA110, WNp_sA111, WNp_sA114, WNp_sA115, WNp_sA116, WNp_sA117, WNp_sA120, WNp_sA121, WNp_sA124, WNp_sA125, WNp_sA126, WNp_sA127, WNp_sA128, WNp_sA129, WNp_sA136, WNp_sA138, WNp_gA0, WNp_gA1, WNp_gA2, WNp_gA3, WNp_gA4, WNp_gA5, WNp_gA6, WNp_gA8, WNp_gA10, WNp_gA11, WNp_gA15, WNp_gA16, WNp_gA17, WNp_gA18, WNp_gA19, WNp_gA20, WNp_gA21, WNp_gA22, WNp_gA23, WNp_gA24, WNp_gA25, WNp_gA26, WNp_gA27, WNp_gA29, WNp_gA30, WNp_gA31, WNp_gA33, WNp_gA37, WNp_sF7, WNp_sF9] at *
  (repeat' (first | with_reducible intro _ | with_reducible apply And.intro))
  all_goals (first | assumption | omega | grind (splits := 20) [rNM_sF0])
theorem wX14_lines (l : Launch) (G : zG) (κ : Nat → Nat) (σ : rS) (x1 : Int) (hwf : rWF σ) (hx1 : rng x1) (Q : rS → Prop) (h : VC_X14_lines σ x1 Q) (h_12 : VC_X14_lines_12 σ x1 Q) (h_12m : VC_X14_lines_12m σ x1) (h_2 : VC_X14_lines_2 σ x1 Q) (h_2m : VC_X14_lines_2m σ x1) : rMv l G κ yX14_lines cX14_lines 4 3 49 [.ref (κ 0), iv x1] σ (fun s => rKeep 0 0x200 0x2000000000 0x110 0 σ s ∧ Q s) := by
  refine zMv.intro (by decide +kernel) (Nat.le_of_ble_eq_true rfl) (fun X hC hR => ?_)
  obtain ⟨g0, h⟩ := h
  refine z_iload_n hC (pc := 0) 1 dX14_lines_0 rfl rfl ?_
  refine z_istore_n hC (pc := 1) (lv' := [(2, iv x1), (0, .ref (κ 0)), (1, iv x1)]) dX14_lines_1 rfl (by decide) rfl ?_
  have j2 : ∀ (d2 : Nat), ∀ (s10 : rS) (y11 : Int), rWF s10 → rng y11 → rKeep 0 0x200 0x2000000000 0x110 0 σ s10 → inv_X14_lines_2 σ x1 s10 y11 → (mu_X14_lines_2 σ x1 s10 y11) ≤ d2 → zS X G 4 (rW G κ s10) [(0, .ref (κ 0)), (2, iv y11)] 0 0 2 [] := by
    intro d2
    induction d2 with
    | zero =>
      intro s10 y11 Ws10 hy11 kJ hI hmu
      exact absurd hmu (by have := h_2m  s10 y11 Ws10 hy11 (WNp.keep kJ rfl rfl rfl rfl) (kJ.R rfl) (kJ.F rfl) hI; omega)
    | succ d2 ih2 =>
      intro s10 y11 Ws10 hy11 kJ hI hmu2
      have h := h_2  s10 y11 Ws10 hy11 (WNp.keep kJ rfl rfl rfl rfl) (kJ.R rfl) (kJ.F rfl) hI
      refine z_iload_n hC (pc := 2) 1 dX14_lines_2 rfl rfl ?_
      refine z_aload_n hC (pc := 3) 0 dX14_lines_3 rfl rfl ?_
      refine y_get hC (pc := 4) zf14 rOb_0 38 (v := iv (rF s10 0 38)) dX14_lines_4 zw2505 (rv_i (Or.inl rfl) rfl) (kk := ?_)
      have h := h (Ws10.f _ _)
      obtain ⟨hT, hF⟩ := h
      refine y_icmp_ge hC (pc := 7) 49 hy11 (Ws10.f _ _) dX14_lines_7 (by decide) (fun c => ?_) (fun c => ?_)
      · have h := hT c
        exact y_retv hR dX14_lines_49 Ws10 (Nat.le_of_ble_eq_true rfl) (Nat.le_of_ble_eq_true rfl) ⟨(rKeep.tr rKeep.rf kJ rfl rfl rfl rfl rfl), h⟩
      · have h := hF c
        refine z_iload_n hC (pc := 10) 1 dX14_lines_10 rfl rfl ?_
        refine z_istore_n hC (pc := 11) (lv' := [(3, iv y11), (0, .ref (κ 0)), (2, iv y11)]) dX14_lines_11 rfl (by decide) rfl ?_
        have j12 : ∀ (d12 : Nat), ∀ (s12 : rS) (y13 : Int) (y14 : Int), rWF s12 → rng y13 → rng y14 → rKeep 0 0x200 0x2000000000 0x110 0 σ s12 → inv_X14_lines_12 σ x1 (mu_X14_lines_2 σ x1 s10 y11) s12 y13 y14 → (mu_X14_lines_12 σ x1 s12 y13 y14) ≤ d12 → zS X G 4 (rW G κ s12) [(0, .ref (κ 0)), (2, iv y13), (3, iv y14)] 0 0 12 [] := by
          intro d12
          induction d12 with
          | zero =>
            intro s12 y13 y14 Ws12 hy13 hy14 kJ hI hmu
            exact absurd hmu (by have := h_12m (mu_X14_lines_2 σ x1 s10 y11) s12 y13 y14 Ws12 hy13 hy14 (WNp.keep kJ rfl rfl rfl rfl) (kJ.R rfl) (kJ.F rfl) hI; omega)
          | succ d12 ih12 =>
            intro s12 y13 y14 Ws12 hy13 hy14 kJ hI hmu12
            have h := h_12 (mu_X14_lines_2 σ x1 s10 y11) s12 y13 y14 Ws12 hy13 hy14 (WNp.keep kJ rfl rfl rfl rfl) (kJ.R rfl) (kJ.F rfl) hI
            refine z_iload_n hC (pc := 12) 2 dX14_lines_12 rfl rfl ?_
            refine z_aload_n hC (pc := 13) 0 dX14_lines_13 rfl rfl ?_
            refine y_get hC (pc := 14) zf14 rOb_0 38 (v := iv (rF s12 0 38)) dX14_lines_14 zw2505 (rv_i (Or.inl rfl) rfl) (kk := ?_)
            have h := h (Ws12.f _ _)
            obtain ⟨hT, hF⟩ := h
            refine y_icmp_ge hC (pc := 17) 36 hy14 (Ws12.f _ _) dX14_lines_17 (by decide) (fun c => ?_) (fun c => ?_)
            · have h := hT c
              refine z_aload_n hC (pc := 36) 0 dX14_lines_36 rfl rfl ?_
              refine z_iload_n hC (pc := 37) 1 dX14_lines_37 rfl rfl ?_
              refine z_iload_n hC (pc := 38) 2 dX14_lines_38 rfl rfl ?_
              obtain ⟨p15, h⟩ := h
              refine y_callVv hC (pc := 39) (As := [iv y13, iv y14]) (kX14_line l G κ s12 y13 y14 Ws12 hy13 hy14 p15) dmX14_line zf14 rOb_0 dX14_lines_39 zw3291 rfl rfl (Nat.le_of_ble_eq_true rfl) (Nat.le_of_ble_eq_true rfl) (Nat.le_of_ble_eq_true rfl) (Nat.le_of_ble_eq_true rfl) (Nat.le_of_ble_eq_true rfl) (kk := fun s16 Ws16 qs16 => ?_)
              have h := h s16 Ws16 (WNp.keep qs16.1 rfl rfl rfl rfl) (qs16.1.R rfl) (qs16.1.F rfl) qs16.2
              refine z_iload_n hC (pc := 42) 2 dX14_lines_42 rfl rfl ?_
              refine z_iconst hC (pc := 43) (v := Int32.ofInt 1) dX14_lines_43 (by decide) ?_
              refine y_iadd hC (pc := 44) (v := (y14 + 1)) dX14_lines_44 rfl ?_
              refine z_istore_n hC (pc := 45) (lv' := [(2, iv (y14 + 1)), (0, .ref (κ 0)), (3, iv y14)]) dX14_lines_45 rfl (by decide) rfl ?_
              refine z_goto hC (pc := 46) 2 dX14_lines_46 (by decide) ?_
              refine z_lvs [1, 0] rfl ?_
              obtain ⟨r18, h⟩ := h
              obtain ⟨hI, hm⟩ := h
              exact ih2 s16 (y14 + 1) Ws16 r18 (rKeep.tr (rKeep.tr rKeep.rf kJ rfl rfl rfl rfl rfl) qs16.1 rfl rfl rfl rfl rfl) hI (by omega)
            · have h := hF c
              refine z_aload_n hC (pc := 20) 0 dX14_lines_20 rfl rfl ?_
              refine y_get hC (pc := 21) zf14 rOb_0 34 (v := .ref (κ 1034)) dX14_lines_21 zw2501 (rv_c rfl) (kk := ?_)
              refine z_iload_n hC (pc := 24) 2 dX14_lines_24 rfl rfl ?_
              obtain ⟨b19, h⟩ := h
              refine y_iald hC (pc := 25) (rAr_m rfl) dX14_lines_25 b19 (v := (rA s12 1034 y14)) rfl (kk := ?_)
              have h := h (Ws12.a _ _)
              refine z_iconst hC (pc := 26) (v := Int32.ofInt 2) dX14_lines_26 (by decide) ?_
              obtain ⟨hT, hF⟩ := h
              refine y_icmp_eq hC (pc := 27) 36 (Ws12.a _ _) (r_lit rfl) dX14_lines_27 (by decide) (fun c => ?_) (fun c => ?_)
              · have h := hT c
                refine z_aload_n hC (pc := 36) 0 dX14_lines_36 rfl rfl ?_
                refine z_iload_n hC (pc := 37) 1 dX14_lines_37 rfl rfl ?_
                refine z_iload_n hC (pc := 38) 2 dX14_lines_38 rfl rfl ?_
                obtain ⟨p20, h⟩ := h
                refine y_callVv hC (pc := 39) (As := [iv y13, iv y14]) (kX14_line l G κ s12 y13 y14 Ws12 hy13 hy14 p20) dmX14_line zf14 rOb_0 dX14_lines_39 zw3291 rfl rfl (Nat.le_of_ble_eq_true rfl) (Nat.le_of_ble_eq_true rfl) (Nat.le_of_ble_eq_true rfl) (Nat.le_of_ble_eq_true rfl) (Nat.le_of_ble_eq_true rfl) (kk := fun s21 Ws21 qs21 => ?_)
                have h := h s21 Ws21 (WNp.keep qs21.1 rfl rfl rfl rfl) (qs21.1.R rfl) (qs21.1.F rfl) qs21.2
                refine z_iload_n hC (pc := 42) 2 dX14_lines_42 rfl rfl ?_
                refine z_iconst hC (pc := 43) (v := Int32.ofInt 1) dX14_lines_43 (by decide) ?_
                refine y_iadd hC (pc := 44) (v := (y14 + 1)) dX14_lines_44 rfl ?_
                refine z_istore_n hC (pc := 45) (lv' := [(2, iv (y14 + 1)), (0, .ref (κ 0)), (3, iv y14)]) dX14_lines_45 rfl (by decide) rfl ?_
                refine z_goto hC (pc := 46) 2 dX14_lines_46 (by decide) ?_
                refine z_lvs [1, 0] rfl ?_
                obtain ⟨r23, h⟩ := h
                obtain ⟨hI, hm⟩ := h
                exact ih2 s21 (y14 + 1) Ws21 r23 (rKeep.tr (rKeep.tr rKeep.rf kJ rfl rfl rfl rfl rfl) qs21.1 rfl rfl rfl rfl rfl) hI (by omega)
              · have h := hF c
                refine y_iinc hC (pc := 30) (v := (y14 + 1)) (lv' := [(3, iv (y14 + 1)), (0, .ref (κ 0)), (2, iv y13)]) 2 dX14_lines_30 rfl rfl (by decide) rfl ?_
                refine z_goto hC (pc := 33) 12 dX14_lines_33 (by decide) ?_
                refine z_lvs [1, 2, 0] rfl ?_
                obtain ⟨r24, h⟩ := h
                obtain ⟨hI, hm⟩ := h
                exact ih12 s12 y13 (y14 + 1) Ws12 hy13 r24 (rKeep.tr rKeep.rf kJ rfl rfl rfl rfl rfl) hI (by omega)
        refine z_lvs [1, 2, 0] rfl ?_
        exact j12 _ s10 y11 y11 Ws10 hy11 hy11 (rKeep.tr rKeep.rf kJ rfl rfl rfl rfl rfl) h (Nat.le_refl _)
  refine z_lvs [1, 0] rfl ?_
  exact j2 _ σ x1 hwf hx1 rKeep.rf h (Nat.le_refl _)
theorem kX14_lines (l : Launch) (G : zG) (κ : Nat → Nat) (σ : rS) (x1 : Int) (hwf : rWF σ) (hx1 : rng x1) (hp : pre_X14_lines σ x1) : rMv l G κ yX14_lines cX14_lines 4 3 49 [.ref (κ 0), iv x1] σ (fun s => rKeep 0 0x200 0x2000000000 0x110 0 σ s ∧ post_X14_lines σ x1 s) := wX14_lines l G κ σ x1 hwf hx1 (post_X14_lines σ x1) (vX14_lines σ x1 hwf hx1 hp) (vX14_lines_12 σ x1 hwf hx1 hp) (vX14_lines_12m σ x1 hwf hx1 hp) (vX14_lines_2 σ x1 hwf hx1 hp) (vX14_lines_2m σ x1 hwf hx1 hp)
def pre_X14_readBytes (σ : rS) (x1 : Int) : Prop := 0 ≤ (rF σ 0 29) ∧ (rF σ 0 29) ≤ (rF σ 0 28) ∧ (rF σ 0 28) ≤ 4001 ∧ TPRp σ ∧ WNp σ ∧ (rF σ 0 38) + ((rF σ 0 28) + 3 - (rF σ 0 29)) ≤ 8990 ∧ 0 ≤ (rF σ 0 38) ∧ (rF σ 0 10) = 0 ∧ 0 ≤ x1 ∧ x1 ≤ 4000 ∧ 0 ≤ (rF σ 0 19)
def post_X14_readBytes (σ : rS) (x1 : Int) (σ' : rS) : Prop := (rF σ 0 29) ≤ (rF σ' 0 29) ∧ (rF σ' 0 29) ≤ (rF σ 0 28) ∧ (rF σ 0 38) ≤ (rF σ' 0 38) ∧ (rF σ' 0 38) + (rF σ 0 29) ≤ (rF σ 0 38) + (rF σ' 0 29) ∧ WNp σ'
def inv_X14_readBytes_70 (σ : rS) (x1 : Int)  (s : rS)  : Prop := (rF σ 0 29) ≤ (rF s 0 29) ∧ (rF s 0 29) ≤ (rF σ 0 28) ∧ (rF s 0 10) = 0 ∧ (rF s 0 38) = (rF σ 0 38) ∧ WNp s
def mu_X14_readBytes_70 (σ : rS) (x1 : Int) (s : rS)  : Nat := (1 + ((rF σ 0 28) - (rF s 0 29)).toNat)
def inv_X14_readBytes_130 (σ : rS) (x1 : Int)  (s : rS)  : Prop := (rF σ 0 29) ≤ (rF s 0 29) ∧ (rF s 0 29) ≤ (rF σ 0 28) ∧ (rF s 0 10) = 0 ∧ (rF s 0 38) = (rF σ 0 38) ∧ (rF σ 0 29) + 1 ≤ (rF s 0 29) ∧ WNp s
def mu_X14_readBytes_130 (σ : rS) (x1 : Int) (s : rS)  : Nat := (1 + ((rF σ 0 28) - (rF s 0 29)).toNat)
def inv_X14_readBytes_170 (σ : rS) (x1 : Int)  (s : rS)  : Prop := (rF σ 0 29) ≤ (rF s 0 29) ∧ (rF s 0 29) ≤ (rF σ 0 28) ∧ (rF s 0 10) = 0 ∧ (rF σ 0 38) ≤ (rF s 0 38) ∧ (rF s 0 38) + (rF σ 0 29) ≤ (rF σ 0 38) + (rF s 0 29) ∧ WNp s
def mu_X14_readBytes_170 (σ : rS) (x1 : Int) (s : rS)  : Nat := (1 + ((rF σ 0 28) - (rF s 0 29)).toNat)
def VC_X14_readBytes (σ : rS) (x1 : Int) (Q : rS → Prop) : Prop := (rng (rF σ 0 29) → (rng (rF σ 0 28) → rng ((rF σ 0 29) + 1) ∧ (((rF σ 0 28) ≤ ((rF σ 0 29) + 1) → (inv_X14_readBytes_170 σ x1 σ)) ∧ (¬ (rF σ 0 28) ≤ ((rF σ 0 29) + 1) → (0 ≤ ((rF σ 0 29) + 1) ∧ ((rF σ 0 29) + 1) < 4001) ∧ (rng (rA σ 1026 ((rF σ 0 29) + 1)) → ((¬ (rA σ 1026 ((rF σ 0 29) + 1)) = 92 → (inv_X14_readBytes_170 σ x1 σ)) ∧ ((rA σ 1026 ((rF σ 0 29) + 1)) = 92 → rng ((rF σ 0 29) + 2) ∧ pre_X14_here (sF σ 0 29 ((rF σ 0 29) + 2)) ∧ (∀ (x98 : Int), rng x98 → post_X14_here (sF σ 0 29 ((rF σ 0 29) + 2)) x98 → (rng (rF σ 0 19) → ((x98 = (rF σ 0 19) → rng (((rF σ 0 29) + 2) + 1) ∧ (inv_X14_readBytes_70 σ x1 (sF (sF σ 0 29 ((rF σ 0 29) + 2)) 0 29 (((rF σ 0 29) + 2) + 1)))) ∧ (¬ x98 = (rF σ 0 19) → pre_X14_place (sF σ 0 29 ((rF σ 0 29) + 2)) ∧ (∀ (x139 : Int), rng x139 → post_X14_place (sF σ 0 29 ((rF σ 0 29) + 2)) x139 → pre_X14_bad (sF σ 0 29 ((rF σ 0 29) + 2)) 1 x139 ∧ (∀ (s141 : rS), rWF s141 → (TPRp (sF σ 0 29 ((rF σ 0 29) + 2)) → TPRp s141) → (WNp (sF σ 0 29 ((rF σ 0 29) + 2)) → WNp s141) → rF s141 0 19 = rF (sF σ 0 29 ((rF σ 0 29) + 2)) 0 19 → rF s141 0 28 = rF (sF σ 0 29 ((rF σ 0 29) + 2)) 0 28 → rF s141 0 29 = rF (sF σ 0 29 ((rF σ 0 29) + 2)) 0 29 → rF s141 0 38 = rF (sF σ 0 29 ((rF σ 0 29) + 2)) 0 38 → (∀ i, rA s141 1026 i = rA (sF σ 0 29 ((rF σ 0 29) + 2)) 1026 i) → post_X14_bad (sF σ 0 29 ((rF σ 0 29) + 2)) 1 x139 s141 → Q s141)))))))))))))
def VC_X14_readBytes_170 (σ : rS) (x1 : Int) (Q : rS → Prop) : Prop := ∀ (s10 : rS), rWF s10 → (TPRp σ → TPRp s10) → rF s10 0 19 = rF σ 0 19 → rF s10 0 28 = rF σ 0 28 → (∀ i, rA s10 1026 i = rA σ 1026 i) → inv_X14_readBytes_170 σ x1 s10 → (pre_X14_here s10 ∧ (∀ (x13 : Int), rng x13 → post_X14_here s10 x13 → ((¬ x13 = 92 → pre_X14_here s10 ∧ (∀ (x16 : Int), rng x16 → post_X14_here s10 x16 → (rng (rF s10 0 19) → ((¬ x16 = (rF s10 0 19) → pre_X14_place s10 ∧ (∀ (x19 : Int), rng x19 → post_X14_place s10 x19 → pre_X14_bad s10 1 x19 ∧ (∀ (s21 : rS), rWF s21 → (TPRp s10 → TPRp s21) → (WNp s10 → WNp s21) → rF s21 0 19 = rF s10 0 19 → rF s21 0 28 = rF s10 0 28 → rF s21 0 29 = rF s10 0 29 → rF s21 0 38 = rF s10 0 38 → (∀ i, rA s21 1026 i = rA s10 1026 i) → post_X14_bad s10 1 x19 s21 → Q s21))) ∧ (x16 = (rF s10 0 19) → (rng (rF s10 0 29) → rng ((rF s10 0 29) + 1) ∧ Q (sF s10 0 29 ((rF s10 0 29) + 1)))))))) ∧ (x13 = 92 → (rng (rF s10 0 10) → ((¬ (rF s10 0 10) = 0 → pre_X14_here s10 ∧ (∀ (x27 : Int), rng x27 → post_X14_here s10 x27 → (rng (rF s10 0 19) → ((¬ x27 = (rF s10 0 19) → pre_X14_place s10 ∧ (∀ (x30 : Int), rng x30 → post_X14_place s10 x30 → pre_X14_bad s10 1 x30 ∧ (∀ (s32 : rS), rWF s32 → (TPRp s10 → TPRp s32) → (WNp s10 → WNp s32) → rF s32 0 19 = rF s10 0 19 → rF s32 0 28 = rF s10 0 28 → rF s32 0 29 = rF s10 0 29 → rF s32 0 38 = rF s10 0 38 → (∀ i, rA s32 1026 i = rA s10 1026 i) → post_X14_bad s10 1 x30 s32 → Q s32))) ∧ (x27 = (rF s10 0 19) → (rng (rF s10 0 29) → rng ((rF s10 0 29) + 1) ∧ Q (sF s10 0 29 ((rF s10 0 29) + 1)))))))) ∧ ((rF s10 0 10) = 0 → (rng (rF s10 0 29) → rng ((rF s10 0 29) + 1) ∧ pre_X14_here (sF s10 0 29 ((rF s10 0 29) + 1)) ∧ (∀ (x40 : Int), rng x40 → post_X14_here (sF s10 0 29 ((rF s10 0 29) + 1)) x40 → ((x40 = 110 → ((¬ x40 = 110 → ((¬ x40 = 116 → pre_X14_note (sF s10 0 29 ((rF s10 0 29) + 1)) 3 32 x1 ∧ (∀ (s42 : rS), rWF s42 → (TPRp (sF s10 0 29 ((rF s10 0 29) + 1)) → TPRp s42) → rF s42 0 10 = rF (sF s10 0 29 ((rF s10 0 29) + 1)) 0 10 → rF s42 0 19 = rF (sF s10 0 29 ((rF s10 0 29) + 1)) 0 19 → rF s42 0 28 = rF (sF s10 0 29 ((rF s10 0 29) + 1)) 0 28 → rF s42 0 29 = rF (sF s10 0 29 ((rF s10 0 29) + 1)) 0 29 → (∀ i, rA s42 1026 i = rA (sF s10 0 29 ((rF s10 0 29) + 1)) 1026 i) → post_X14_note (sF s10 0 29 ((rF s10 0 29) + 1)) 3 32 x1 s42 → rng (((rF s10 0 29) + 1) + 1) ∧ (inv_X14_readBytes_170 σ x1 (sF s42 0 29 (((rF s10 0 29) + 1) + 1)) ∧ (mu_X14_readBytes_170 σ x1 (sF s42 0 29 (((rF s10 0 29) + 1) + 1)) ) < (mu_X14_readBytes_170 σ x1 s10 )))) ∧ (x40 = 116 → pre_X14_note (sF s10 0 29 ((rF s10 0 29) + 1)) 3 9 x1 ∧ (∀ (s47 : rS), rWF s47 → (TPRp (sF s10 0 29 ((rF s10 0 29) + 1)) → TPRp s47) → rF s47 0 10 = rF (sF s10 0 29 ((rF s10 0 29) + 1)) 0 10 → rF s47 0 19 = rF (sF s10 0 29 ((rF s10 0 29) + 1)) 0 19 → rF s47 0 28 = rF (sF s10 0 29 ((rF s10 0 29) + 1)) 0 28 → rF s47 0 29 = rF (sF s10 0 29 ((rF s10 0 29) + 1)) 0 29 → (∀ i, rA s47 1026 i = rA (sF s10 0 29 ((rF s10 0 29) + 1)) 1026 i) → post_X14_note (sF s10 0 29 ((rF s10 0 29) + 1)) 3 9 x1 s47 → rng (((rF s10 0 29) + 1) + 1) ∧ (inv_X14_readBytes_170 σ x1 (sF s47 0 29 (((rF s10 0 29) + 1) + 1)) ∧ (mu_X14_readBytes_170 σ x1 (sF s47 0 29 (((rF s10 0 29) + 1) + 1)) ) < (mu_X14_readBytes_170 σ x1 s10 )))))) ∧ (x40 = 110 → pre_X14_note (sF s10 0 29 ((rF s10 0 29) + 1)) 3 10 x1 ∧ (∀ (s52 : rS), rWF s52 → (TPRp (sF s10 0 29 ((rF s10 0 29) + 1)) → TPRp s52) → rF s52 0 10 = rF (sF s10 0 29 ((rF s10 0 29) + 1)) 0 10 → rF s52 0 19 = rF (sF s10 0 29 ((rF s10 0 29) + 1)) 0 19 → rF s52 0 28 = rF (sF s10 0 29 ((rF s10 0 29) + 1)) 0 28 → rF s52 0 29 = rF (sF s10 0 29 ((rF s10 0 29) + 1)) 0 29 → (∀ i, rA s52 1026 i = rA (sF s10 0 29 ((rF s10 0 29) + 1)) 1026 i) → post_X14_note (sF s10 0 29 ((rF s10 0 29) + 1)) 3 10 x1 s52 → rng (((rF s10 0 29) + 1) + 1) ∧ (inv_X14_readBytes_170 σ x1 (sF s52 0 29 (((rF s10 0 29) + 1) + 1)) ∧ (mu_X14_readBytes_170 σ x1 (sF s52 0 29 (((rF s10 0 29) + 1) + 1)) ) < (mu_X14_readBytes_170 σ x1 s10 )))))) ∧ (¬ x40 = 110 → ((x40 = 116 → ((¬ x40 = 110 → ((¬ x40 = 116 → pre_X14_note (sF s10 0 29 ((rF s10 0 29) + 1)) 3 32 x1 ∧ (∀ (s57 : rS), rWF s57 → (TPRp (sF s10 0 29 ((rF s10 0 29) + 1)) → TPRp s57) → rF s57 0 10 = rF (sF s10 0 29 ((rF s10 0 29) + 1)) 0 10 → rF s57 0 19 = rF (sF s10 0 29 ((rF s10 0 29) + 1)) 0 19 → rF s57 0 28 = rF (sF s10 0 29 ((rF s10 0 29) + 1)) 0 28 → rF s57 0 29 = rF (sF s10 0 29 ((rF s10 0 29) + 1)) 0 29 → (∀ i, rA s57 1026 i = rA (sF s10 0 29 ((rF s10 0 29) + 1)) 1026 i) → post_X14_note (sF s10 0 29 ((rF s10 0 29) + 1)) 3 32 x1 s57 → rng (((rF s10 0 29) + 1) + 1) ∧ (inv_X14_readBytes_170 σ x1 (sF s57 0 29 (((rF s10 0 29) + 1) + 1)) ∧ (mu_X14_readBytes_170 σ x1 (sF s57 0 29 (((rF s10 0 29) + 1) + 1)) ) < (mu_X14_readBytes_170 σ x1 s10 )))) ∧ (x40 = 116 → pre_X14_note (sF s10 0 29 ((rF s10 0 29) + 1)) 3 9 x1 ∧ (∀ (s62 : rS), rWF s62 → (TPRp (sF s10 0 29 ((rF s10 0 29) + 1)) → TPRp s62) → rF s62 0 10 = rF (sF s10 0 29 ((rF s10 0 29) + 1)) 0 10 → rF s62 0 19 = rF (sF s10 0 29 ((rF s10 0 29) + 1)) 0 19 → rF s62 0 28 = rF (sF s10 0 29 ((rF s10 0 29) + 1)) 0 28 → rF s62 0 29 = rF (sF s10 0 29 ((rF s10 0 29) + 1)) 0 29 → (∀ i, rA s62 1026 i = rA (sF s10 0 29 ((rF s10 0 29) + 1)) 1026 i) → post_X14_note (sF s10 0 29 ((rF s10 0 29) + 1)) 3 9 x1 s62 → rng (((rF s10 0 29) + 1) + 1) ∧ (inv_X14_readBytes_170 σ x1 (sF s62 0 29 (((rF s10 0 29) + 1) + 1)) ∧ (mu_X14_readBytes_170 σ x1 (sF s62 0 29 (((rF s10 0 29) + 1) + 1)) ) < (mu_X14_readBytes_170 σ x1 s10 )))))) ∧ (x40 = 110 → pre_X14_note (sF s10 0 29 ((rF s10 0 29) + 1)) 3 10 x1 ∧ (∀ (s67 : rS), rWF s67 → (TPRp (sF s10 0 29 ((rF s10 0 29) + 1)) → TPRp s67) → rF s67 0 10 = rF (sF s10 0 29 ((rF s10 0 29) + 1)) 0 10 → rF s67 0 19 = rF (sF s10 0 29 ((rF s10 0 29) + 1)) 0 19 → rF s67 0 28 = rF (sF s10 0 29 ((rF s10 0 29) + 1)) 0 28 → rF s67 0 29 = rF (sF s10 0 29 ((rF s10 0 29) + 1)) 0 29 → (∀ i, rA s67 1026 i = rA (sF s10 0 29 ((rF s10 0 29) + 1)) 1026 i) → post_X14_note (sF s10 0 29 ((rF s10 0 29) + 1)) 3 10 x1 s67 → rng (((rF s10 0 29) + 1) + 1) ∧ (inv_X14_readBytes_170 σ x1 (sF s67 0 29 (((rF s10 0 29) + 1) + 1)) ∧ (mu_X14_readBytes_170 σ x1 (sF s67 0 29 (((rF s10 0 29) + 1) + 1)) ) < (mu_X14_readBytes_170 σ x1 s10 )))))) ∧ (¬ x40 = 116 → ((x40 = 32 → ((¬ x40 = 110 → ((¬ x40 = 116 → pre_X14_note (sF s10 0 29 ((rF s10 0 29) + 1)) 3 32 x1 ∧ (∀ (s72 : rS), rWF s72 → (TPRp (sF s10 0 29 ((rF s10 0 29) + 1)) → TPRp s72) → rF s72 0 10 = rF (sF s10 0 29 ((rF s10 0 29) + 1)) 0 10 → rF s72 0 19 = rF (sF s10 0 29 ((rF s10 0 29) + 1)) 0 19 → rF s72 0 28 = rF (sF s10 0 29 ((rF s10 0 29) + 1)) 0 28 → rF s72 0 29 = rF (sF s10 0 29 ((rF s10 0 29) + 1)) 0 29 → (∀ i, rA s72 1026 i = rA (sF s10 0 29 ((rF s10 0 29) + 1)) 1026 i) → post_X14_note (sF s10 0 29 ((rF s10 0 29) + 1)) 3 32 x1 s72 → rng (((rF s10 0 29) + 1) + 1) ∧ (inv_X14_readBytes_170 σ x1 (sF s72 0 29 (((rF s10 0 29) + 1) + 1)) ∧ (mu_X14_readBytes_170 σ x1 (sF s72 0 29 (((rF s10 0 29) + 1) + 1)) ) < (mu_X14_readBytes_170 σ x1 s10 )))) ∧ (x40 = 116 → pre_X14_note (sF s10 0 29 ((rF s10 0 29) + 1)) 3 9 x1 ∧ (∀ (s77 : rS), rWF s77 → (TPRp (sF s10 0 29 ((rF s10 0 29) + 1)) → TPRp s77) → rF s77 0 10 = rF (sF s10 0 29 ((rF s10 0 29) + 1)) 0 10 → rF s77 0 19 = rF (sF s10 0 29 ((rF s10 0 29) + 1)) 0 19 → rF s77 0 28 = rF (sF s10 0 29 ((rF s10 0 29) + 1)) 0 28 → rF s77 0 29 = rF (sF s10 0 29 ((rF s10 0 29) + 1)) 0 29 → (∀ i, rA s77 1026 i = rA (sF s10 0 29 ((rF s10 0 29) + 1)) 1026 i) → post_X14_note (sF s10 0 29 ((rF s10 0 29) + 1)) 3 9 x1 s77 → rng (((rF s10 0 29) + 1) + 1) ∧ (inv_X14_readBytes_170 σ x1 (sF s77 0 29 (((rF s10 0 29) + 1) + 1)) ∧ (mu_X14_readBytes_170 σ x1 (sF s77 0 29 (((rF s10 0 29) + 1) + 1)) ) < (mu_X14_readBytes_170 σ x1 s10 )))))) ∧ (x40 = 110 → pre_X14_note (sF s10 0 29 ((rF s10 0 29) + 1)) 3 10 x1 ∧ (∀ (s82 : rS), rWF s82 → (TPRp (sF s10 0 29 ((rF s10 0 29) + 1)) → TPRp s82) → rF s82 0 10 = rF (sF s10 0 29 ((rF s10 0 29) + 1)) 0 10 → rF s82 0 19 = rF (sF s10 0 29 ((rF s10 0 29) + 1)) 0 19 → rF s82 0 28 = rF (sF s10 0 29 ((rF s10 0 29) + 1)) 0 28 → rF s82 0 29 = rF (sF s10 0 29 ((rF s10 0 29) + 1)) 0 29 → (∀ i, rA s82 1026 i = rA (sF s10 0 29 ((rF s10 0 29) + 1)) 1026 i) → post_X14_note (sF s10 0 29 ((rF s10 0 29) + 1)) 3 10 x1 s82 → rng (((rF s10 0 29) + 1) + 1) ∧ (inv_X14_readBytes_170 σ x1 (sF s82 0 29 (((rF s10 0 29) + 1) + 1)) ∧ (mu_X14_readBytes_170 σ x1 (sF s82 0 29 (((rF s10 0 29) + 1) + 1)) ) < (mu_X14_readBytes_170 σ x1 s10 )))))) ∧ (¬ x40 = 32 → pre_X14_place (sF s10 0 29 ((rF s10 0 29) + 1)) ∧ (∀ (x88 : Int), rng x88 → post_X14_place (sF s10 0 29 ((rF s10 0 29) + 1)) x88 → pre_X14_bad (sF s10 0 29 ((rF s10 0 29) + 1)) 1 x88 ∧ (∀ (s90 : rS), rWF s90 → (TPRp (sF s10 0 29 ((rF s10 0 29) + 1)) → TPRp s90) → (WNp (sF s10 0 29 ((rF s10 0 29) + 1)) → WNp s90) → rF s90 0 19 = rF (sF s10 0 29 ((rF s10 0 29) + 1)) 0 19 → rF s90 0 28 = rF (sF s10 0 29 ((rF s10 0 29) + 1)) 0 28 → rF s90 0 29 = rF (sF s10 0 29 ((rF s10 0 29) + 1)) 0 29 → rF s90 0 38 = rF (sF s10 0 29 ((rF s10 0 29) + 1)) 0 38 → (∀ i, rA s90 1026 i = rA (sF s10 0 29 ((rF s10 0 29) + 1)) 1026 i) → post_X14_bad (sF s10 0 29 ((rF s10 0 29) + 1)) 1 x88 s90 → Q s90)))))))))))))))))
def VC_X14_readBytes_170m (σ : rS) (x1 : Int) : Prop := ∀ (s10 : rS), rWF s10 → (TPRp σ → TPRp s10) → rF s10 0 19 = rF σ 0 19 → rF s10 0 28 = rF σ 0 28 → (∀ i, rA s10 1026 i = rA σ 1026 i) → inv_X14_readBytes_170 σ x1 s10 → 0 < (mu_X14_readBytes_170 σ x1 s10 )
def VC_X14_readBytes_130 (σ : rS) (x1 : Int) (Q : rS → Prop) : Prop := ∀ (s115 : rS), rWF s115 → (TPRp σ → TPRp s115) → rF s115 0 19 = rF σ 0 19 → rF s115 0 28 = rF σ 0 28 → (∀ i, rA s115 1026 i = rA σ 1026 i) → inv_X14_readBytes_130 σ x1 s115 → (pre_X14_here s115 ∧ (∀ (x118 : Int), rng x118 → post_X14_here s115 x118 → ((x118 = 32 → (rng (rF s115 0 29) → rng ((rF s115 0 29) + 1) ∧ (inv_X14_readBytes_130 σ x1 (sF s115 0 29 ((rF s115 0 29) + 1)) ∧ (mu_X14_readBytes_130 σ x1 (sF s115 0 29 ((rF s115 0 29) + 1)) ) < (mu_X14_readBytes_130 σ x1 s115 )))) ∧ (¬ x118 = 32 → pre_X14_here s115 ∧ (∀ (x123 : Int), rng x123 → post_X14_here s115 x123 → ((¬ x123 = 9 → pre_X14_note s115 20 0 x1 ∧ (∀ (s125 : rS), rWF s125 → (TPRp s115 → TPRp s125) → rF s125 0 10 = rF s115 0 10 → rF s125 0 19 = rF s115 0 19 → rF s125 0 28 = rF s115 0 28 → rF s125 0 29 = rF s115 0 29 → (∀ i, rA s125 1026 i = rA s115 1026 i) → post_X14_note s115 20 0 x1 s125 → Q s125)) ∧ (x123 = 9 → (rng (rF s115 0 29) → rng ((rF s115 0 29) + 1) ∧ (inv_X14_readBytes_130 σ x1 (sF s115 0 29 ((rF s115 0 29) + 1)) ∧ (mu_X14_readBytes_130 σ x1 (sF s115 0 29 ((rF s115 0 29) + 1)) ) < (mu_X14_readBytes_130 σ x1 s115 ))))))))))
def VC_X14_readBytes_130m (σ : rS) (x1 : Int) : Prop := ∀ (s115 : rS), rWF s115 → (TPRp σ → TPRp s115) → rF s115 0 19 = rF σ 0 19 → rF s115 0 28 = rF σ 0 28 → (∀ i, rA s115 1026 i = rA σ 1026 i) → inv_X14_readBytes_130 σ x1 s115 → 0 < (mu_X14_readBytes_130 σ x1 s115 )
def VC_X14_readBytes_70 (σ : rS) (x1 : Int) (Q : rS → Prop) : Prop := ∀ (s101 : rS), rWF s101 → (TPRp σ → TPRp s101) → rF s101 0 19 = rF σ 0 19 → rF s101 0 28 = rF σ 0 28 → (∀ i, rA s101 1026 i = rA σ 1026 i) → inv_X14_readBytes_70 σ x1 s101 → (pre_X14_here s101 ∧ (∀ (x104 : Int), rng x104 → post_X14_here s101 x104 → ((x104 = 32 → (rng (rF s101 0 29) → rng ((rF s101 0 29) + 1) ∧ (inv_X14_readBytes_70 σ x1 (sF s101 0 29 ((rF s101 0 29) + 1)) ∧ (mu_X14_readBytes_70 σ x1 (sF s101 0 29 ((rF s101 0 29) + 1)) ) < (mu_X14_readBytes_70 σ x1 s101 )))) ∧ (¬ x104 = 32 → pre_X14_here s101 ∧ (∀ (x109 : Int), rng x109 → post_X14_here s101 x109 → ((¬ x109 = 9 → pre_X14_here s101 ∧ (∀ (x112 : Int), rng x112 → post_X14_here s101 x112 → ((x112 = 10 → (rng (rF s101 0 29) → rng ((rF s101 0 29) + 1) ∧ (inv_X14_readBytes_130 σ x1 (sF s101 0 29 ((rF s101 0 29) + 1))))) ∧ (¬ x112 = 10 → pre_X14_place s101 ∧ (∀ (x131 : Int), rng x131 → post_X14_place s101 x131 → pre_X14_bad s101 1 x131 ∧ (∀ (s133 : rS), rWF s133 → (TPRp s101 → TPRp s133) → (WNp s101 → WNp s133) → rF s133 0 19 = rF s101 0 19 → rF s133 0 28 = rF s101 0 28 → rF s133 0 29 = rF s101 0 29 → rF s133 0 38 = rF s101 0 38 → (∀ i, rA s133 1026 i = rA s101 1026 i) → post_X14_bad s101 1 x131 s133 → Q s133)))))) ∧ (x109 = 9 → (rng (rF s101 0 29) → rng ((rF s101 0 29) + 1) ∧ (inv_X14_readBytes_70 σ x1 (sF s101 0 29 ((rF s101 0 29) + 1)) ∧ (mu_X14_readBytes_70 σ x1 (sF s101 0 29 ((rF s101 0 29) + 1)) ) < (mu_X14_readBytes_70 σ x1 s101 ))))))))))
def VC_X14_readBytes_70m (σ : rS) (x1 : Int) : Prop := ∀ (s101 : rS), rWF s101 → (TPRp σ → TPRp s101) → rF s101 0 19 = rF σ 0 19 → rF s101 0 28 = rF σ 0 28 → (∀ i, rA s101 1026 i = rA σ 1026 i) → inv_X14_readBytes_70 σ x1 s101 → 0 < (mu_X14_readBytes_70 σ x1 s101 )
set_option maxHeartbeats 400000 in
theorem vX14_readBytes (σ : rS) (x1 : Int) (hwf : rWF σ) (hx1 : rng x1) (hp : pre_X14_readBytes σ x1) : VC_X14_readBytes σ x1 (post_X14_readBytes σ x1) := by
  simp only [VC_X14_readBytes, pre_X14_readBytes, post_X14_readBytes, inv_X14_readBytes_70, inv_X14_readBytes_130, inv_X14_readBytes_170, mu_X14_readBytes_70, mu_X14_readBytes_130, mu_X14_readBytes_170, pre_X14_bad, pre_X14_place, pre_X14_here, pre_X14_note, post_X14_bad, post_X14_place, post_X14_here, post_X14_note, rng, rfk, rNMp, rF_sF, rF_sA, rF_sL, rF_sR, rA_sA, rA_sF, rA_sL, rA_sR, rR_sF, rR_sA, rR_sL, rR_sR, reduceIte, and_true, true_and, and_false, false_and, and_self, TPRp_sL, TPRp_sF0, TPRp_sF3, TPRp_sF10, TPRp_sF11, TPRp_sF12, TPRp_sF13, TPRp_sF14, TPRp_sF16, TPRp_sF17, TPRp_sF18, TPRp_sF19, TPRp_sF21, TPRp_sF22, TPRp_sF23, TPRp_sF24, TPRp_sF25, TPRp_sF29, TPRp_sF31, TPRp_sF32, TPRp_sF33, TPRp_sF38, TPRp_sF39, TPRp_sF41, TPRp_sF42, TPRp_sF43, TPRp_sF44, TPRp_sF45, TPRp_sF60, TPRp_sF65, TPRp_sF66, TPRp_sF67, TPRp_sF68, TPRp_sF70, TPRp_sF71, TPRp_sF72, TPRp_sF73, TPRp_sF74, TPRp_sF80, TPRp_sF81, TPRp_sF82, TPRp_sF83, TPRp_sF88, TPRp_sF92, TPRp_sF94, TPRp_sF96, TPRp_sF97, TPRp_sF98, TPRp_sF99, TPRp_sF100, TPRp_sF101, TPRp_sF103, TPRp_sF104, TPRp_sF112, TPRp_sF113, TPRp_sF118, TPRp_sF119, TPRp_sF122, TPRp_sF123, TPRp_sF135, TPRp_sF137, TPRp_sA1, TPRp_sA2, TPRp_sA5, TPRp_sA20, TPRp_sA26, TPRp_sA34, TPRp_sA35, TPRp_sA36, TPRp_sA37, TPRp_sA40, TPRp_sA46, TPRp_sA47, TPRp_sA48, TPRp_sA49, TPRp_sA50, TPRp_sA51, TPRp_sA52, TPRp_sA53, TPRp_sA54, TPRp_sA55, TPRp_sA56, TPRp_sA57, TPRp_sA58, TPRp_sA59, TPRp_sA61, TPRp_sA62, TPRp_sA63, TPRp_sA64, TPRp_sA69, TPRp_sA75, TPRp_sA76, TPRp_sA77, TPRp_sA78, TPRp_sA79, TPRp_sA84, TPRp_sA85, TPRp_sA86, TPRp_sA87, TPRp_sA89, TPRp_sA90, TPRp_sA91, TPRp_sA93, TPRp_sA102, TPRp_sA105, TPRp_sA106, TPRp_sA107, TPRp_sA108, TPRp_sA109, TPRp_sA110, TPRp_sA111, TPRp_sA114, TPRp_sA115, TPRp_sA116, TPRp_sA117, TPRp_sA120, TPRp_sA121, TPRp_sA124, TPRp_sA125, TPRp_sA126, TPRp_sA127, TPRp_sA128, TPRp_sA129, TPRp_sA136, TPRp_sA138, TPRp_gA0, TPRp_gA1, TPRp_gA2, TPRp_gA3, TPRp_gA4, TPRp_gA5, TPRp_gA6, TPRp_gA8, TPRp_gA10, TPRp_gA11, TPRp_gA15, TPRp_gA16, TPRp_gA17, TPRp_gA18, TPRp_gA19, TPRp_gA20, TPRp_gA21, TPRp_gA22, TPRp_gA23, TPRp_gA24, TPRp_gA25, TPRp_gA26, TPRp_gA29, TPRp_gA30, TPRp_gA31, TPRp_gA33, TPRp_gA34, TPRp_gA35, TPRp_gA36, TPRp_gA37, TPRp_sF7, TPRp_sF9, WNp_sL, WNp_sF0, WNp_sF3, WNp_sF10, WNp_sF11, WNp_sF12, WNp_sF13, WNp_sF14, WNp_sF16, WNp_sF17, WNp_sF18, WNp_sF19, WNp_sF21, WNp_sF22, WNp_sF23, WNp_sF24, WNp_sF25, WNp_sF28, WNp_sF29, WNp_sF30, WNp_sF31, WNp_sF32, WNp_sF33, WNp_sF39, WNp_sF41, WNp_sF42, WNp_sF43, WNp_sF44, WNp_sF45, WNp_sF60, WNp_sF65, WNp_sF66, WNp_sF67, WNp_sF68, WNp_sF70, WNp_sF71, WNp_sF72, WNp_sF73, WNp_sF74, WNp_sF80, WNp_sF81, WNp_sF82, WNp_sF83, WNp_sF88, WNp_sF92, WNp_sF94, WNp_sF96, WNp_sF97, WNp_sF98, WNp_sF99, WNp_sF100, WNp_sF101, WNp_sF103, WNp_sF104, WNp_sF112, WNp_sF113, WNp_sF118, WNp_sF119, WNp_sF122, WNp_sF123, WNp_sF135, WNp_sF137, WNp_sA1, WNp_sA2, WNp_sA5, WNp_sA20, WNp_sA26, WNp_sA27, WNp_sA37, WNp_sA40, WNp_sA46, WNp_sA47, WNp_sA48, WNp_sA49, WNp_sA50, WNp_sA51, WNp_sA52, WNp_sA53, WNp_sA54, WNp_sA55, WNp_sA56, WNp_sA57, WNp_sA58, WNp_sA59, WNp_sA61, WNp_sA62, WNp_sA63, WNp_sA64, WNp_sA69, WNp_sA75, WNp_sA76, WNp_sA77, WNp_sA78, WNp_sA79, WNp_sA84, WNp_sA85, WNp_sA86, WNp_sA87, WNp_sA89, WNp_sA90, WNp_sA91, WNp_sA93, WNp_sA102, WNp_sA105, WNp_sA106, WNp_sA107, WNp_sA108, WNp_sA109, WNp_sA110, WNp_sA111, WNp_sA114, WNp_sA115, WNp_sA116, WNp_sA117, WNp_sA120, WNp_sA121, WNp_sA124, WNp_sA125, WNp_sA126, WNp_sA127, WNp_sA128, WNp_sA129, WNp_sA136, WNp_sA138, WNp_gA0, WNp_gA1, WNp_gA2, WNp_gA3, WNp_gA4, WNp_gA5, WNp_gA6, WNp_gA8, WNp_gA10, WNp_gA11, WNp_gA15, WNp_gA16, WNp_gA17, WNp_gA18, WNp_gA19, WNp_gA20, WNp_gA21, WNp_gA22, WNp_gA23, WNp_gA24, WNp_gA25, WNp_gA26, WNp_gA27, WNp_gA29, WNp_gA30, WNp_gA31, WNp_gA33, WNp_gA37, WNp_sF7, WNp_sF9] at *
  (repeat' (first | with_reducible intro _ | with_reducible apply And.intro))
  all_goals (first | assumption | omega | grind (splits := 20) [rNM_sF0])
set_option maxHeartbeats 400000 in
theorem vX14_readBytes_170 (σ : rS) (x1 : Int) (hwf : rWF σ) (hx1 : rng x1) (hp : pre_X14_readBytes σ x1) : VC_X14_readBytes_170 σ x1 (post_X14_readBytes σ x1) := by
  simp only [VC_X14_readBytes_170, pre_X14_readBytes, post_X14_readBytes, inv_X14_readBytes_70, inv_X14_readBytes_130, inv_X14_readBytes_170, mu_X14_readBytes_70, mu_X14_readBytes_130, mu_X14_readBytes_170, pre_X14_bad, pre_X14_place, pre_X14_here, pre_X14_note, post_X14_bad, post_X14_place, post_X14_here, post_X14_note, rng, rfk, rNMp, rF_sF, rF_sA, rF_sL, rF_sR, rA_sA, rA_sF, rA_sL, rA_sR, rR_sF, rR_sA, rR_sL, rR_sR, reduceIte, and_true, true_and, and_false, false_and, and_self, TPRp_sL, TPRp_sF0, TPRp_sF3, TPRp_sF10, TPRp_sF11, TPRp_sF12, TPRp_sF13, TPRp_sF14, TPRp_sF16, TPRp_sF17, TPRp_sF18, TPRp_sF19, TPRp_sF21, TPRp_sF22, TPRp_sF23, TPRp_sF24, TPRp_sF25, TPRp_sF29, TPRp_sF31, TPRp_sF32, TPRp_sF33, TPRp_sF38, TPRp_sF39, TPRp_sF41, TPRp_sF42, TPRp_sF43, TPRp_sF44, TPRp_sF45, TPRp_sF60, TPRp_sF65, TPRp_sF66, TPRp_sF67, TPRp_sF68, TPRp_sF70, TPRp_sF71, TPRp_sF72, TPRp_sF73, TPRp_sF74, TPRp_sF80, TPRp_sF81, TPRp_sF82, TPRp_sF83, TPRp_sF88, TPRp_sF92, TPRp_sF94, TPRp_sF96, TPRp_sF97, TPRp_sF98, TPRp_sF99, TPRp_sF100, TPRp_sF101, TPRp_sF103, TPRp_sF104, TPRp_sF112, TPRp_sF113, TPRp_sF118, TPRp_sF119, TPRp_sF122, TPRp_sF123, TPRp_sF135, TPRp_sF137, TPRp_sA1, TPRp_sA2, TPRp_sA5, TPRp_sA20, TPRp_sA26, TPRp_sA34, TPRp_sA35, TPRp_sA36, TPRp_sA37, TPRp_sA40, TPRp_sA46, TPRp_sA47, TPRp_sA48, TPRp_sA49, TPRp_sA50, TPRp_sA51, TPRp_sA52, TPRp_sA53, TPRp_sA54, TPRp_sA55, TPRp_sA56, TPRp_sA57, TPRp_sA58, TPRp_sA59, TPRp_sA61, TPRp_sA62, TPRp_sA63, TPRp_sA64, TPRp_sA69, TPRp_sA75, TPRp_sA76, TPRp_sA77, TPRp_sA78, TPRp_sA79, TPRp_sA84, TPRp_sA85, TPRp_sA86, TPRp_sA87, TPRp_sA89, TPRp_sA90, TPRp_sA91, TPRp_sA93, TPRp_sA102, TPRp_sA105, TPRp_sA106, TPRp_sA107, TPRp_sA108, TPRp_sA109, TPRp_sA110, TPRp_sA111, TPRp_sA114, TPRp_sA115, TPRp_sA116, TPRp_sA117, TPRp_sA120, TPRp_sA121, TPRp_sA124, TPRp_sA125, TPRp_sA126, TPRp_sA127, TPRp_sA128, TPRp_sA129, TPRp_sA136, TPRp_sA138, TPRp_gA0, TPRp_gA1, TPRp_gA2, TPRp_gA3, TPRp_gA4, TPRp_gA5, TPRp_gA6, TPRp_gA8, TPRp_gA10, TPRp_gA11, TPRp_gA15, TPRp_gA16, TPRp_gA17, TPRp_gA18, TPRp_gA19, TPRp_gA20, TPRp_gA21, TPRp_gA22, TPRp_gA23, TPRp_gA24, TPRp_gA25, TPRp_gA26, TPRp_gA29, TPRp_gA30, TPRp_gA31, TPRp_gA33, TPRp_gA34, TPRp_gA35, TPRp_gA36, TPRp_gA37, TPRp_sF7, TPRp_sF9, WNp_sL, WNp_sF0, WNp_sF3, WNp_sF10, WNp_sF11, WNp_sF12, WNp_sF13, WNp_sF14, WNp_sF16, WNp_sF17, WNp_sF18, WNp_sF19, WNp_sF21, WNp_sF22, WNp_sF23, WNp_sF24, WNp_sF25, WNp_sF28, WNp_sF29, WNp_sF30, WNp_sF31, WNp_sF32, WNp_sF33, WNp_sF39, WNp_sF41, WNp_sF42, WNp_sF43, WNp_sF44, WNp_sF45, WNp_sF60, WNp_sF65, WNp_sF66, WNp_sF67, WNp_sF68, WNp_sF70, WNp_sF71, WNp_sF72, WNp_sF73, WNp_sF74, WNp_sF80, WNp_sF81, WNp_sF82, WNp_sF83, WNp_sF88, WNp_sF92, WNp_sF94, WNp_sF96, WNp_sF97, WNp_sF98, WNp_sF99, WNp_sF100, WNp_sF101, WNp_sF103, WNp_sF104, WNp_sF112, WNp_sF113, WNp_sF118, WNp_sF119, WNp_sF122, WNp_sF123, WNp_sF135, WNp_sF137, WNp_sA1, WNp_sA2, WNp_sA5, WNp_sA20, WNp_sA26, WNp_sA27, WNp_sA37, WNp_sA40, WNp_sA46, WNp_sA47, WNp_sA48, WNp_sA49, WNp_sA50, WNp_sA51, WNp_sA52, WNp_sA53, WNp_sA54, WNp_sA55, WNp_sA56, WNp_sA57, WNp_sA58, WNp_sA59, WNp_sA61, WNp_sA62, WNp_sA63, WNp_sA64, WNp_sA69, WNp_sA75, WNp_sA76, WNp_sA77, WNp_sA78, WNp_sA79, WNp_sA84, WNp_sA85, WNp_sA86, WNp_sA87, WNp_sA89, WNp_sA90, WNp_sA91, WNp_sA93, WNp_sA102, WNp_sA105, WNp_sA106, WNp_sA107, WNp_sA108, WNp_sA109, WNp_sA110, WNp_sA111, WNp_sA114, WNp_sA115, WNp_sA116, WNp_sA117, WNp_sA120, WNp_sA121, WNp_sA124, WNp_sA125, WNp_sA126, WNp_sA127, WNp_sA128, WNp_sA129, WNp_sA136, WNp_sA138, WNp_gA0, WNp_gA1, WNp_gA2, WNp_gA3, WNp_gA4, WNp_gA5, WNp_gA6, WNp_gA8, WNp_gA10, WNp_gA11, WNp_gA15, WNp_gA16, WNp_gA17, WNp_gA18, WNp_gA19, WNp_gA20, WNp_gA21, WNp_gA22, WNp_gA23, WNp_gA24, WNp_gA25, WNp_gA26, WNp_gA27, WNp_gA29, WNp_gA30, WNp_gA31, WNp_gA33, WNp_gA37, WNp_sF7, WNp_sF9] at *
  (repeat' (first | with_reducible intro _ | with_reducible apply And.intro))
  all_goals (first | assumption | omega | grind (splits := 20) [rNM_sF0])
set_option maxHeartbeats 400000 in
theorem vX14_readBytes_170m (σ : rS) (x1 : Int) (hwf : rWF σ) (hx1 : rng x1) (hp : pre_X14_readBytes σ x1) : VC_X14_readBytes_170m σ x1 := by
  simp only [VC_X14_readBytes_170m, pre_X14_readBytes, post_X14_readBytes, inv_X14_readBytes_70, inv_X14_readBytes_130, inv_X14_readBytes_170, mu_X14_readBytes_70, mu_X14_readBytes_130, mu_X14_readBytes_170, pre_X14_bad, pre_X14_place, pre_X14_here, pre_X14_note, post_X14_bad, post_X14_place, post_X14_here, post_X14_note, rng, rfk, rNMp, rF_sF, rF_sA, rF_sL, rF_sR, rA_sA, rA_sF, rA_sL, rA_sR, rR_sF, rR_sA, rR_sL, rR_sR, reduceIte, and_true, true_and, and_false, false_and, and_self, TPRp_sL, TPRp_sF0, TPRp_sF3, TPRp_sF10, TPRp_sF11, TPRp_sF12, TPRp_sF13, TPRp_sF14, TPRp_sF16, TPRp_sF17, TPRp_sF18, TPRp_sF19, TPRp_sF21, TPRp_sF22, TPRp_sF23, TPRp_sF24, TPRp_sF25, TPRp_sF29, TPRp_sF31, TPRp_sF32, TPRp_sF33, TPRp_sF38, TPRp_sF39, TPRp_sF41, TPRp_sF42, TPRp_sF43, TPRp_sF44, TPRp_sF45, TPRp_sF60, TPRp_sF65, TPRp_sF66, TPRp_sF67, TPRp_sF68, TPRp_sF70, TPRp_sF71, TPRp_sF72, TPRp_sF73, TPRp_sF74, TPRp_sF80, TPRp_sF81, TPRp_sF82, TPRp_sF83, TPRp_sF88, TPRp_sF92, TPRp_sF94, TPRp_sF96, TPRp_sF97, TPRp_sF98, TPRp_sF99, TPRp_sF100, TPRp_sF101, TPRp_sF103, TPRp_sF104, TPRp_sF112, TPRp_sF113, TPRp_sF118, TPRp_sF119, TPRp_sF122, TPRp_sF123, TPRp_sF135, TPRp_sF137, TPRp_sA1, TPRp_sA2, TPRp_sA5, TPRp_sA20, TPRp_sA26, TPRp_sA34, TPRp_sA35, TPRp_sA36, TPRp_sA37, TPRp_sA40, TPRp_sA46, TPRp_sA47, TPRp_sA48, TPRp_sA49, TPRp_sA50, TPRp_sA51, TPRp_sA52, TPRp_sA53, TPRp_sA54, TPRp_sA55, TPRp_sA56, TPRp_sA57, TPRp_sA58, TPRp_sA59, TPRp_sA61, TPRp_sA62, TPRp_sA63, TPRp_sA64, TPRp_sA69, TPRp_sA75, TPRp_sA76, TPRp_sA77, TPRp_sA78, TPRp_sA79, TPRp_sA84, TPRp_sA85, TPRp_sA86, TPRp_sA87, TPRp_sA89, TPRp_sA90, TPRp_sA91, TPRp_sA93, TPRp_sA102, TPRp_sA105, TPRp_sA106, TPRp_sA107, TPRp_sA108, TPRp_sA109, TPRp_sA110, TPRp_sA111, TPRp_sA114, TPRp_sA115, TPRp_sA116, TPRp_sA117, TPRp_sA120, TPRp_sA121, TPRp_sA124, TPRp_sA125, TPRp_sA126, TPRp_sA127, TPRp_sA128, TPRp_sA129, TPRp_sA136, TPRp_sA138, TPRp_gA0, TPRp_gA1, TPRp_gA2, TPRp_gA3, TPRp_gA4, TPRp_gA5, TPRp_gA6, TPRp_gA8, TPRp_gA10, TPRp_gA11, TPRp_gA15, TPRp_gA16, TPRp_gA17, TPRp_gA18, TPRp_gA19, TPRp_gA20, TPRp_gA21, TPRp_gA22, TPRp_gA23, TPRp_gA24, TPRp_gA25, TPRp_gA26, TPRp_gA29, TPRp_gA30, TPRp_gA31, TPRp_gA33, TPRp_gA34, TPRp_gA35, TPRp_gA36, TPRp_gA37, TPRp_sF7, TPRp_sF9, WNp_sL, WNp_sF0, WNp_sF3, WNp_sF10, WNp_sF11, WNp_sF12, WNp_sF13, WNp_sF14, WNp_sF16, WNp_sF17, WNp_sF18, WNp_sF19, WNp_sF21, WNp_sF22, WNp_sF23, WNp_sF24, WNp_sF25, WNp_sF28, WNp_sF29, WNp_sF30, WNp_sF31, WNp_sF32, WNp_sF33, WNp_sF39, WNp_sF41, WNp_sF42, WNp_sF43, WNp_sF44, WNp_sF45, WNp_sF60, WNp_sF65, WNp_sF66, WNp_sF67, WNp_sF68, WNp_sF70, WNp_sF71, WNp_sF72, WNp_sF73, WNp_sF74, WNp_sF80, WNp_sF81, WNp_sF82, WNp_sF83, WNp_sF88, WNp_sF92, WNp_sF94, WNp_sF96, WNp_sF97, WNp_sF98, WNp_sF99, WNp_sF100, WNp_sF101, WNp_sF103, WNp_sF104, WNp_sF112, WNp_sF113, WNp_sF118, WNp_sF119, WNp_sF122, WNp_sF123, WNp_sF135, WNp_sF137, WNp_sA1, WNp_sA2, WNp_sA5, WNp_sA20, WNp_sA26, WNp_sA27, WNp_sA37, WNp_sA40, WNp_sA46, WNp_sA47, WNp_sA48, WNp_sA49, WNp_sA50, WNp_sA51, WNp_sA52, WNp_sA53, WNp_sA54, WNp_sA55, WNp_sA56, WNp_sA57, WNp_sA58, WNp_sA59, WNp_sA61, WNp_sA62, WNp_sA63, WNp_sA64, WNp_sA69, WNp_sA75, WNp_sA76, WNp_sA77, WNp_sA78, WNp_sA79, WNp_sA84, WNp_sA85, WNp_sA86, WNp_sA87, WNp_sA89, WNp_sA90, WNp_sA91, WNp_sA93, WNp_sA102, WNp_sA105, WNp_sA106, WNp_sA107, WNp_sA108, WNp_sA109, WNp_sA110, WNp_sA111, WNp_sA114, WNp_sA115, WNp_sA116, WNp_sA117, WNp_sA120, WNp_sA121, WNp_sA124, WNp_sA125, WNp_sA126, WNp_sA127, WNp_sA128, WNp_sA129, WNp_sA136, WNp_sA138, WNp_gA0, WNp_gA1, WNp_gA2, WNp_gA3, WNp_gA4, WNp_gA5, WNp_gA6, WNp_gA8, WNp_gA10, WNp_gA11, WNp_gA15, WNp_gA16, WNp_gA17, WNp_gA18, WNp_gA19, WNp_gA20, WNp_gA21, WNp_gA22, WNp_gA23, WNp_gA24, WNp_gA25, WNp_gA26, WNp_gA27, WNp_gA29, WNp_gA30, WNp_gA31, WNp_gA33, WNp_gA37, WNp_sF7, WNp_sF9] at *
  (repeat' (first | with_reducible intro _ | with_reducible apply And.intro))
  all_goals (first | assumption | omega | grind (splits := 20) [rNM_sF0])
set_option maxHeartbeats 400000 in
theorem vX14_readBytes_130 (σ : rS) (x1 : Int) (hwf : rWF σ) (hx1 : rng x1) (hp : pre_X14_readBytes σ x1) : VC_X14_readBytes_130 σ x1 (post_X14_readBytes σ x1) := by
  simp only [VC_X14_readBytes_130, pre_X14_readBytes, post_X14_readBytes, inv_X14_readBytes_70, inv_X14_readBytes_130, inv_X14_readBytes_170, mu_X14_readBytes_70, mu_X14_readBytes_130, mu_X14_readBytes_170, pre_X14_bad, pre_X14_place, pre_X14_here, pre_X14_note, post_X14_bad, post_X14_place, post_X14_here, post_X14_note, rng, rfk, rNMp, rF_sF, rF_sA, rF_sL, rF_sR, rA_sA, rA_sF, rA_sL, rA_sR, rR_sF, rR_sA, rR_sL, rR_sR, reduceIte, and_true, true_and, and_false, false_and, and_self, TPRp_sL, TPRp_sF0, TPRp_sF3, TPRp_sF10, TPRp_sF11, TPRp_sF12, TPRp_sF13, TPRp_sF14, TPRp_sF16, TPRp_sF17, TPRp_sF18, TPRp_sF19, TPRp_sF21, TPRp_sF22, TPRp_sF23, TPRp_sF24, TPRp_sF25, TPRp_sF29, TPRp_sF31, TPRp_sF32, TPRp_sF33, TPRp_sF38, TPRp_sF39, TPRp_sF41, TPRp_sF42, TPRp_sF43, TPRp_sF44, TPRp_sF45, TPRp_sF60, TPRp_sF65, TPRp_sF66, TPRp_sF67, TPRp_sF68, TPRp_sF70, TPRp_sF71, TPRp_sF72, TPRp_sF73, TPRp_sF74, TPRp_sF80, TPRp_sF81, TPRp_sF82, TPRp_sF83, TPRp_sF88, TPRp_sF92, TPRp_sF94, TPRp_sF96, TPRp_sF97, TPRp_sF98, TPRp_sF99, TPRp_sF100, TPRp_sF101, TPRp_sF103, TPRp_sF104, TPRp_sF112, TPRp_sF113, TPRp_sF118, TPRp_sF119, TPRp_sF122, TPRp_sF123, TPRp_sF135, TPRp_sF137, TPRp_sA1, TPRp_sA2, TPRp_sA5, TPRp_sA20, TPRp_sA26, TPRp_sA34, TPRp_sA35, TPRp_sA36, TPRp_sA37, TPRp_sA40, TPRp_sA46, TPRp_sA47, TPRp_sA48, TPRp_sA49, TPRp_sA50, TPRp_sA51, TPRp_sA52, TPRp_sA53, TPRp_sA54, TPRp_sA55, TPRp_sA56, TPRp_sA57, TPRp_sA58, TPRp_sA59, TPRp_sA61, TPRp_sA62, TPRp_sA63, TPRp_sA64, TPRp_sA69, TPRp_sA75, TPRp_sA76, TPRp_sA77, TPRp_sA78, TPRp_sA79, TPRp_sA84, TPRp_sA85, TPRp_sA86, TPRp_sA87, TPRp_sA89, TPRp_sA90, TPRp_sA91, TPRp_sA93, TPRp_sA102, TPRp_sA105, TPRp_sA106, TPRp_sA107, TPRp_sA108, TPRp_sA109, TPRp_sA110, TPRp_sA111, TPRp_sA114, TPRp_sA115, TPRp_sA116, TPRp_sA117, TPRp_sA120, TPRp_sA121, TPRp_sA124, TPRp_sA125, TPRp_sA126, TPRp_sA127, TPRp_sA128, TPRp_sA129, TPRp_sA136, TPRp_sA138, TPRp_gA0, TPRp_gA1, TPRp_gA2, TPRp_gA3, TPRp_gA4, TPRp_gA5, TPRp_gA6, TPRp_gA8, TPRp_gA10, TPRp_gA11, TPRp_gA15, TPRp_gA16, TPRp_gA17, TPRp_gA18, TPRp_gA19, TPRp_gA20, TPRp_gA21, TPRp_gA22, TPRp_gA23, TPRp_gA24, TPRp_gA25, TPRp_gA26, TPRp_gA29, TPRp_gA30, TPRp_gA31, TPRp_gA33, TPRp_gA34, TPRp_gA35, TPRp_gA36, TPRp_gA37, TPRp_sF7, TPRp_sF9, WNp_sL, WNp_sF0, WNp_sF3, WNp_sF10, WNp_sF11, WNp_sF12, WNp_sF13, WNp_sF14, WNp_sF16, WNp_sF17, WNp_sF18, WNp_sF19, WNp_sF21, WNp_sF22, WNp_sF23, WNp_sF24, WNp_sF25, WNp_sF28, WNp_sF29, WNp_sF30, WNp_sF31, WNp_sF32, WNp_sF33, WNp_sF39, WNp_sF41, WNp_sF42, WNp_sF43, WNp_sF44, WNp_sF45, WNp_sF60, WNp_sF65, WNp_sF66, WNp_sF67, WNp_sF68, WNp_sF70, WNp_sF71, WNp_sF72, WNp_sF73, WNp_sF74, WNp_sF80, WNp_sF81, WNp_sF82, WNp_sF83, WNp_sF88, WNp_sF92, WNp_sF94, WNp_sF96, WNp_sF97, WNp_sF98, WNp_sF99, WNp_sF100, WNp_sF101, WNp_sF103, WNp_sF104, WNp_sF112, WNp_sF113, WNp_sF118, WNp_sF119, WNp_sF122, WNp_sF123, WNp_sF135, WNp_sF137, WNp_sA1, WNp_sA2, WNp_sA5, WNp_sA20, WNp_sA26, WNp_sA27, WNp_sA37, WNp_sA40, WNp_sA46, WNp_sA47, WNp_sA48, WNp_sA49, WNp_sA50, WNp_sA51, WNp_sA52, WNp_sA53, WNp_sA54, WNp_sA55, WNp_sA56, WNp_sA57, WNp_sA58, WNp_sA59, WNp_sA61, WNp_sA62, WNp_sA63, WNp_sA64, WNp_sA69, WNp_sA75, WNp_sA76, WNp_sA77, WNp_sA78, WNp_sA79, WNp_sA84, WNp_sA85, WNp_sA86, WNp_sA87, WNp_sA89, WNp_sA90, WNp_sA91, WNp_sA93, WNp_sA102, WNp_sA105, WNp_sA106, WNp_sA107, WNp_sA108, WNp_sA109, WNp_sA110, WNp_sA111, WNp_sA114, WNp_sA115, WNp_sA116, WNp_sA117, WNp_sA120, WNp_sA121, WNp_sA124, WNp_sA125, WNp_sA126, WNp_sA127, WNp_sA128, WNp_sA129, WNp_sA136, WNp_sA138, WNp_gA0, WNp_gA1, WNp_gA2, WNp_gA3, WNp_gA4, WNp_gA5, WNp_gA6, WNp_gA8, WNp_gA10, WNp_gA11, WNp_gA15, WNp_gA16, WNp_gA17, WNp_gA18, WNp_gA19, WNp_gA20, WNp_gA21, WNp_gA22, WNp_gA23, WNp_gA24, WNp_gA25, WNp_gA26, WNp_gA27, WNp_gA29, WNp_gA30, WNp_gA31, WNp_gA33, WNp_gA37, WNp_sF7, WNp_sF9] at *
  (repeat' (first | with_reducible intro _ | with_reducible apply And.intro))
  all_goals (first | assumption | omega | grind (splits := 20) [rNM_sF0])
set_option maxHeartbeats 400000 in
theorem vX14_readBytes_130m (σ : rS) (x1 : Int) (hwf : rWF σ) (hx1 : rng x1) (hp : pre_X14_readBytes σ x1) : VC_X14_readBytes_130m σ x1 := by
  simp only [VC_X14_readBytes_130m, pre_X14_readBytes, post_X14_readBytes, inv_X14_readBytes_70, inv_X14_readBytes_130, inv_X14_readBytes_170, mu_X14_readBytes_70, mu_X14_readBytes_130, mu_X14_readBytes_170, pre_X14_bad, pre_X14_place, pre_X14_here, pre_X14_note, post_X14_bad, post_X14_place, post_X14_here, post_X14_note, rng, rfk, rNMp, rF_sF, rF_sA, rF_sL, rF_sR, rA_sA, rA_sF, rA_sL, rA_sR, rR_sF, rR_sA, rR_sL, rR_sR, reduceIte, and_true, true_and, and_false, false_and, and_self, TPRp_sL, TPRp_sF0, TPRp_sF3, TPRp_sF10, TPRp_sF11, TPRp_sF12, TPRp_sF13, TPRp_sF14, TPRp_sF16, TPRp_sF17, TPRp_sF18, TPRp_sF19, TPRp_sF21, TPRp_sF22, TPRp_sF23, TPRp_sF24, TPRp_sF25, TPRp_sF29, TPRp_sF31, TPRp_sF32, TPRp_sF33, TPRp_sF38, TPRp_sF39, TPRp_sF41, TPRp_sF42, TPRp_sF43, TPRp_sF44, TPRp_sF45, TPRp_sF60, TPRp_sF65, TPRp_sF66, TPRp_sF67, TPRp_sF68, TPRp_sF70, TPRp_sF71, TPRp_sF72, TPRp_sF73, TPRp_sF74, TPRp_sF80, TPRp_sF81, TPRp_sF82, TPRp_sF83, TPRp_sF88, TPRp_sF92, TPRp_sF94, TPRp_sF96, TPRp_sF97, TPRp_sF98, TPRp_sF99, TPRp_sF100, TPRp_sF101, TPRp_sF103, TPRp_sF104, TPRp_sF112, TPRp_sF113, TPRp_sF118, TPRp_sF119, TPRp_sF122, TPRp_sF123, TPRp_sF135, TPRp_sF137, TPRp_sA1, TPRp_sA2, TPRp_sA5, TPRp_sA20, TPRp_sA26, TPRp_sA34, TPRp_sA35, TPRp_sA36, TPRp_sA37, TPRp_sA40, TPRp_sA46, TPRp_sA47, TPRp_sA48, TPRp_sA49, TPRp_sA50, TPRp_sA51, TPRp_sA52, TPRp_sA53, TPRp_sA54, TPRp_sA55, TPRp_sA56, TPRp_sA57, TPRp_sA58, TPRp_sA59, TPRp_sA61, TPRp_sA62, TPRp_sA63, TPRp_sA64, TPRp_sA69, TPRp_sA75, TPRp_sA76, TPRp_sA77, TPRp_sA78, TPRp_sA79, TPRp_sA84, TPRp_sA85, TPRp_sA86, TPRp_sA87, TPRp_sA89, TPRp_sA90, TPRp_sA91, TPRp_sA93, TPRp_sA102, TPRp_sA105, TPRp_sA106, TPRp_sA107, TPRp_sA108, TPRp_sA109, TPRp_sA110, TPRp_sA111, TPRp_sA114, TPRp_sA115, TPRp_sA116, TPRp_sA117, TPRp_sA120, TPRp_sA121, TPRp_sA124, TPRp_sA125, TPRp_sA126, TPRp_sA127, TPRp_sA128, TPRp_sA129, TPRp_sA136, TPRp_sA138, TPRp_gA0, TPRp_gA1, TPRp_gA2, TPRp_gA3, TPRp_gA4, TPRp_gA5, TPRp_gA6, TPRp_gA8, TPRp_gA10, TPRp_gA11, TPRp_gA15, TPRp_gA16, TPRp_gA17, TPRp_gA18, TPRp_gA19, TPRp_gA20, TPRp_gA21, TPRp_gA22, TPRp_gA23, TPRp_gA24, TPRp_gA25, TPRp_gA26, TPRp_gA29, TPRp_gA30, TPRp_gA31, TPRp_gA33, TPRp_gA34, TPRp_gA35, TPRp_gA36, TPRp_gA37, TPRp_sF7, TPRp_sF9, WNp_sL, WNp_sF0, WNp_sF3, WNp_sF10, WNp_sF11, WNp_sF12, WNp_sF13, WNp_sF14, WNp_sF16, WNp_sF17, WNp_sF18, WNp_sF19, WNp_sF21, WNp_sF22, WNp_sF23, WNp_sF24, WNp_sF25, WNp_sF28, WNp_sF29, WNp_sF30, WNp_sF31, WNp_sF32, WNp_sF33, WNp_sF39, WNp_sF41, WNp_sF42, WNp_sF43, WNp_sF44, WNp_sF45, WNp_sF60, WNp_sF65, WNp_sF66, WNp_sF67, WNp_sF68, WNp_sF70, WNp_sF71, WNp_sF72, WNp_sF73, WNp_sF74, WNp_sF80, WNp_sF81, WNp_sF82, WNp_sF83, WNp_sF88, WNp_sF92, WNp_sF94, WNp_sF96, WNp_sF97, WNp_sF98, WNp_sF99, WNp_sF100, WNp_sF101, WNp_sF103, WNp_sF104, WNp_sF112, WNp_sF113, WNp_sF118, WNp_sF119, WNp_sF122, WNp_sF123, WNp_sF135, WNp_sF137, WNp_sA1, WNp_sA2, WNp_sA5, WNp_sA20, WNp_sA26, WNp_sA27, WNp_sA37, WNp_sA40, WNp_sA46, WNp_sA47, WNp_sA48, WNp_sA49, WNp_sA50, WNp_sA51, WNp_sA52, WNp_sA53, WNp_sA54, WNp_sA55, WNp_sA56, WNp_sA57, WNp_sA58, WNp_sA59, WNp_sA61, WNp_sA62, WNp_sA63, WNp_sA64, WNp_sA69, WNp_sA75, WNp_sA76, WNp_sA77, WNp_sA78, WNp_sA79, WNp_sA84, WNp_sA85, WNp_sA86, WNp_sA87, WNp_sA89, WNp_sA90, WNp_sA91, WNp_sA93, WNp_sA102, WNp_sA105, WNp_sA106, WNp_sA107, WNp_sA108, WNp_sA109, WNp_sA110, WNp_sA111, WNp_sA114, WNp_sA115, WNp_sA116, WNp_sA117, WNp_sA120, WNp_sA121, WNp_sA124, WNp_sA125, WNp_sA126, WNp_sA127, WNp_sA128, WNp_sA129, WNp_sA136, WNp_sA138, WNp_gA0, WNp_gA1, WNp_gA2, WNp_gA3, WNp_gA4, WNp_gA5, WNp_gA6, WNp_gA8, WNp_gA10, WNp_gA11, WNp_gA15, WNp_gA16, WNp_gA17, WNp_gA18, WNp_gA19, WNp_gA20, WNp_gA21, WNp_gA22, WNp_gA23, WNp_gA24, WNp_gA25, WNp_gA26, WNp_gA27, WNp_gA29, WNp_gA30, WNp_gA31, WNp_gA33, WNp_gA37, WNp_sF7, WNp_sF9] at *
  (repeat' (first | with_reducible intro _ | with_reducible apply And.intro))
  all_goals (first | assumption | omega | grind (splits := 20) [rNM_sF0])
set_option maxHeartbeats 400000 in
theorem vX14_readBytes_70 (σ : rS) (x1 : Int) (hwf : rWF σ) (hx1 : rng x1) (hp : pre_X14_readBytes σ x1) : VC_X14_readBytes_70 σ x1 (post_X14_readBytes σ x1) := by
  simp only [VC_X14_readBytes_70, pre_X14_readBytes, post_X14_readBytes, inv_X14_readBytes_70, inv_X14_readBytes_130, inv_X14_readBytes_170, mu_X14_readBytes_70, mu_X14_readBytes_130, mu_X14_readBytes_170, pre_X14_bad, pre_X14_place, pre_X14_here, pre_X14_note, post_X14_bad, post_X14_place, post_X14_here, post_X14_note, rng, rfk, rNMp, rF_sF, rF_sA, rF_sL, rF_sR, rA_sA, rA_sF, rA_sL, rA_sR, rR_sF, rR_sA, rR_sL, rR_sR, reduceIte, and_true, true_and, and_false, false_and, and_self, TPRp_sL, TPRp_sF0, TPRp_sF3, TPRp_sF10, TPRp_sF11, TPRp_sF12, TPRp_sF13, TPRp_sF14, TPRp_sF16, TPRp_sF17, TPRp_sF18, TPRp_sF19, TPRp_sF21, TPRp_sF22, TPRp_sF23, TPRp_sF24, TPRp_sF25, TPRp_sF29, TPRp_sF31, TPRp_sF32, TPRp_sF33, TPRp_sF38, TPRp_sF39, TPRp_sF41, TPRp_sF42, TPRp_sF43, TPRp_sF44, TPRp_sF45, TPRp_sF60, TPRp_sF65, TPRp_sF66, TPRp_sF67, TPRp_sF68, TPRp_sF70, TPRp_sF71, TPRp_sF72, TPRp_sF73, TPRp_sF74, TPRp_sF80, TPRp_sF81, TPRp_sF82, TPRp_sF83, TPRp_sF88, TPRp_sF92, TPRp_sF94, TPRp_sF96, TPRp_sF97, TPRp_sF98, TPRp_sF99, TPRp_sF100, TPRp_sF101, TPRp_sF103, TPRp_sF104, TPRp_sF112, TPRp_sF113, TPRp_sF118, TPRp_sF119, TPRp_sF122, TPRp_sF123, TPRp_sF135, TPRp_sF137, TPRp_sA1, TPRp_sA2, TPRp_sA5, TPRp_sA20, TPRp_sA26, TPRp_sA34, TPRp_sA35, TPRp_sA36, TPRp_sA37, TPRp_sA40, TPRp_sA46, TPRp_sA47, TPRp_sA48, TPRp_sA49, TPRp_sA50, TPRp_sA51, TPRp_sA52, TPRp_sA53, TPRp_sA54, TPRp_sA55, TPRp_sA56, TPRp_sA57, TPRp_sA58, TPRp_sA59, TPRp_sA61, TPRp_sA62, TPRp_sA63, TPRp_sA64, TPRp_sA69, TPRp_sA75, TPRp_sA76, TPRp_sA77, TPRp_sA78, TPRp_sA79, TPRp_sA84, TPRp_sA85, TPRp_sA86, TPRp_sA87, TPRp_sA89, TPRp_sA90, TPRp_sA91, TPRp_sA93, TPRp_sA102, TPRp_sA105, TPRp_sA106, TPRp_sA107, TPRp_sA108, TPRp_sA109, TPRp_sA110, TPRp_sA111, TPRp_sA114, TPRp_sA115, TPRp_sA116, TPRp_sA117, TPRp_sA120, TPRp_sA121, TPRp_sA124, TPRp_sA125, TPRp_sA126, TPRp_sA127, TPRp_sA128, TPRp_sA129, TPRp_sA136, TPRp_sA138, TPRp_gA0, TPRp_gA1, TPRp_gA2, TPRp_gA3, TPRp_gA4, TPRp_gA5, TPRp_gA6, TPRp_gA8, TPRp_gA10, TPRp_gA11, TPRp_gA15, TPRp_gA16, TPRp_gA17, TPRp_gA18, TPRp_gA19, TPRp_gA20, TPRp_gA21, TPRp_gA22, TPRp_gA23, TPRp_gA24, TPRp_gA25, TPRp_gA26, TPRp_gA29, TPRp_gA30, TPRp_gA31, TPRp_gA33, TPRp_gA34, TPRp_gA35, TPRp_gA36, TPRp_gA37, TPRp_sF7, TPRp_sF9, WNp_sL, WNp_sF0, WNp_sF3, WNp_sF10, WNp_sF11, WNp_sF12, WNp_sF13, WNp_sF14, WNp_sF16, WNp_sF17, WNp_sF18, WNp_sF19, WNp_sF21, WNp_sF22, WNp_sF23, WNp_sF24, WNp_sF25, WNp_sF28, WNp_sF29, WNp_sF30, WNp_sF31, WNp_sF32, WNp_sF33, WNp_sF39, WNp_sF41, WNp_sF42, WNp_sF43, WNp_sF44, WNp_sF45, WNp_sF60, WNp_sF65, WNp_sF66, WNp_sF67, WNp_sF68, WNp_sF70, WNp_sF71, WNp_sF72, WNp_sF73, WNp_sF74, WNp_sF80, WNp_sF81, WNp_sF82, WNp_sF83, WNp_sF88, WNp_sF92, WNp_sF94, WNp_sF96, WNp_sF97, WNp_sF98, WNp_sF99, WNp_sF100, WNp_sF101, WNp_sF103, WNp_sF104, WNp_sF112, WNp_sF113, WNp_sF118, WNp_sF119, WNp_sF122, WNp_sF123, WNp_sF135, WNp_sF137, WNp_sA1, WNp_sA2, WNp_sA5, WNp_sA20, WNp_sA26, WNp_sA27, WNp_sA37, WNp_sA40, WNp_sA46, WNp_sA47, WNp_sA48, WNp_sA49, WNp_sA50, WNp_sA51, WNp_sA52, WNp_sA53, WNp_sA54, WNp_sA55, WNp_sA56, WNp_sA57, WNp_sA58, WNp_sA59, WNp_sA61, WNp_sA62, WNp_sA63, WNp_sA64, WNp_sA69, WNp_sA75, WNp_sA76, WNp_sA77, WNp_sA78, WNp_sA79, WNp_sA84, WNp_sA85, WNp_sA86, WNp_sA87, WNp_sA89, WNp_sA90, WNp_sA91, WNp_sA93, WNp_sA102, WNp_sA105, WNp_sA106, WNp_sA107, WNp_sA108, WNp_sA109, WNp_sA110, WNp_sA111, WNp_sA114, WNp_sA115, WNp_sA116, WNp_sA117, WNp_sA120, WNp_sA121, WNp_sA124, WNp_sA125, WNp_sA126, WNp_sA127, WNp_sA128, WNp_sA129, WNp_sA136, WNp_sA138, WNp_gA0, WNp_gA1, WNp_gA2, WNp_gA3, WNp_gA4, WNp_gA5, WNp_gA6, WNp_gA8, WNp_gA10, WNp_gA11, WNp_gA15, WNp_gA16, WNp_gA17, WNp_gA18, WNp_gA19, WNp_gA20, WNp_gA21, WNp_gA22, WNp_gA23, WNp_gA24, WNp_gA25, WNp_gA26, WNp_gA27, WNp_gA29, WNp_gA30, WNp_gA31, WNp_gA33, WNp_gA37, WNp_sF7, WNp_sF9] at *
  (repeat' (first | with_reducible intro _ | with_reducible apply And.intro))
  all_goals (first | assumption | omega | grind (splits := 20) [rNM_sF0])
set_option maxHeartbeats 400000 in
theorem vX14_readBytes_70m (σ : rS) (x1 : Int) (hwf : rWF σ) (hx1 : rng x1) (hp : pre_X14_readBytes σ x1) : VC_X14_readBytes_70m σ x1 := by
  simp only [VC_X14_readBytes_70m, pre_X14_readBytes, post_X14_readBytes, inv_X14_readBytes_70, inv_X14_readBytes_130, inv_X14_readBytes_170, mu_X14_readBytes_70, mu_X14_readBytes_130, mu_X14_readBytes_170, pre_X14_bad, pre_X14_place, pre_X14_here, pre_X14_note, post_X14_bad, post_X14_place, post_X14_here, post_X14_note, rng, rfk, rNMp, rF_sF, rF_sA, rF_sL, rF_sR, rA_sA, rA_sF, rA_sL, rA_sR, rR_sF, rR_sA, rR_sL, rR_sR, reduceIte, and_true, true_and, and_false, false_and, and_self, TPRp_sL, TPRp_sF0, TPRp_sF3, TPRp_sF10, TPRp_sF11, TPRp_sF12, TPRp_sF13, TPRp_sF14, TPRp_sF16, TPRp_sF17, TPRp_sF18, TPRp_sF19, TPRp_sF21, TPRp_sF22, TPRp_sF23, TPRp_sF24, TPRp_sF25, TPRp_sF29, TPRp_sF31, TPRp_sF32, TPRp_sF33, TPRp_sF38, TPRp_sF39, TPRp_sF41, TPRp_sF42, TPRp_sF43, TPRp_sF44, TPRp_sF45, TPRp_sF60, TPRp_sF65, TPRp_sF66, TPRp_sF67, TPRp_sF68, TPRp_sF70, TPRp_sF71, TPRp_sF72, TPRp_sF73, TPRp_sF74, TPRp_sF80, TPRp_sF81, TPRp_sF82, TPRp_sF83, TPRp_sF88, TPRp_sF92, TPRp_sF94, TPRp_sF96, TPRp_sF97, TPRp_sF98, TPRp_sF99, TPRp_sF100, TPRp_sF101, TPRp_sF103, TPRp_sF104, TPRp_sF112, TPRp_sF113, TPRp_sF118, TPRp_sF119, TPRp_sF122, TPRp_sF123, TPRp_sF135, TPRp_sF137, TPRp_sA1, TPRp_sA2, TPRp_sA5, TPRp_sA20, TPRp_sA26, TPRp_sA34, TPRp_sA35, TPRp_sA36, TPRp_sA37, TPRp_sA40, TPRp_sA46, TPRp_sA47, TPRp_sA48, TPRp_sA49, TPRp_sA50, TPRp_sA51, TPRp_sA52, TPRp_sA53, TPRp_sA54, TPRp_sA55, TPRp_sA56, TPRp_sA57, TPRp_sA58, TPRp_sA59, TPRp_sA61, TPRp_sA62, TPRp_sA63, TPRp_sA64, TPRp_sA69, TPRp_sA75, TPRp_sA76, TPRp_sA77, TPRp_sA78, TPRp_sA79, TPRp_sA84, TPRp_sA85, TPRp_sA86, TPRp_sA87, TPRp_sA89, TPRp_sA90, TPRp_sA91, TPRp_sA93, TPRp_sA102, TPRp_sA105, TPRp_sA106, TPRp_sA107, TPRp_sA108, TPRp_sA109, TPRp_sA110, TPRp_sA111, TPRp_sA114, TPRp_sA115, TPRp_sA116, TPRp_sA117, TPRp_sA120, TPRp_sA121, TPRp_sA124, TPRp_sA125, TPRp_sA126, TPRp_sA127, TPRp_sA128, TPRp_sA129, TPRp_sA136, TPRp_sA138, TPRp_gA0, TPRp_gA1, TPRp_gA2, TPRp_gA3, TPRp_gA4, TPRp_gA5, TPRp_gA6, TPRp_gA8, TPRp_gA10, TPRp_gA11, TPRp_gA15, TPRp_gA16, TPRp_gA17, TPRp_gA18, TPRp_gA19, TPRp_gA20, TPRp_gA21, TPRp_gA22, TPRp_gA23, TPRp_gA24, TPRp_gA25, TPRp_gA26, TPRp_gA29, TPRp_gA30, TPRp_gA31, TPRp_gA33, TPRp_gA34, TPRp_gA35, TPRp_gA36, TPRp_gA37, TPRp_sF7, TPRp_sF9, WNp_sL, WNp_sF0, WNp_sF3, WNp_sF10, WNp_sF11, WNp_sF12, WNp_sF13, WNp_sF14, WNp_sF16, WNp_sF17, WNp_sF18, WNp_sF19, WNp_sF21, WNp_sF22, WNp_sF23, WNp_sF24, WNp_sF25, WNp_sF28, WNp_sF29, WNp_sF30, WNp_sF31, WNp_sF32, WNp_sF33, WNp_sF39, WNp_sF41, WNp_sF42, WNp_sF43, WNp_sF44, WNp_sF45, WNp_sF60, WNp_sF65, WNp_sF66, WNp_sF67, WNp_sF68, WNp_sF70, WNp_sF71, WNp_sF72, WNp_sF73, WNp_sF74, WNp_sF80, WNp_sF81, WNp_sF82, WNp_sF83, WNp_sF88, WNp_sF92, WNp_sF94, WNp_sF96, WNp_sF97, WNp_sF98, WNp_sF99, WNp_sF100, WNp_sF101, WNp_sF103, WNp_sF104, WNp_sF112, WNp_sF113, WNp_sF118, WNp_sF119, WNp_sF122, WNp_sF123, WNp_sF135, WNp_sF137, WNp_sA1, WNp_sA2, WNp_sA5, WNp_sA20, WNp_sA26, WNp_sA27, WNp_sA37, WNp_sA40, WNp_sA46, WNp_sA47, WNp_sA48, WNp_sA49, WNp_sA50, WNp_sA51, WNp_sA52, WNp_sA53, WNp_sA54, WNp_sA55, WNp_sA56, WNp_sA57, WNp_sA58, WNp_sA59, WNp_sA61, WNp_sA62, WNp_sA63, WNp_sA64, WNp_sA69, WNp_sA75, WNp_sA76, WNp_sA77, WNp_sA78, WNp_sA79, WNp_sA84, WNp_sA85, WNp_sA86, WNp_sA87, WNp_sA89, WNp_sA90, WNp_sA91, WNp_sA93, WNp_sA102, WNp_sA105, WNp_sA106, WNp_sA107, WNp_sA108, WNp_sA109, WNp_sA110, WNp_sA111, WNp_sA114, WNp_sA115, WNp_sA116, WNp_sA117, WNp_sA120, WNp_sA121, WNp_sA124, WNp_sA125, WNp_sA126, WNp_sA127, WNp_sA128, WNp_sA129, WNp_sA136, WNp_sA138, WNp_gA0, WNp_gA1, WNp_gA2, WNp_gA3, WNp_gA4, WNp_gA5, WNp_gA6, WNp_gA8, WNp_gA10, WNp_gA11, WNp_gA15, WNp_gA16, WNp_gA17, WNp_gA18, WNp_gA19, WNp_gA20, WNp_gA21, WNp_gA22, WNp_gA23, WNp_gA24, WNp_gA25, WNp_gA26, WNp_gA27, WNp_gA29, WNp_gA30, WNp_gA31, WNp_gA33, WNp_gA37, WNp_sF7, WNp_sF9] at *
  (repeat' (first | with_reducible intro _ | with_reducible apply And.intro))
  all_goals (first | assumption | omega | grind (splits := 20) [rNM_sF0])
theorem wX14_readBytes (l : Launch) (G : zG) (κ : Nat → Nat) (σ : rS) (x1 : Int) (hwf : rWF σ) (hx1 : rng x1) (Q : rS → Prop) (h : VC_X14_readBytes σ x1 Q) (h_170 : VC_X14_readBytes_170 σ x1 Q) (h_170m : VC_X14_readBytes_170m σ x1) (h_130 : VC_X14_readBytes_130 σ x1 Q) (h_130m : VC_X14_readBytes_130m σ x1) (h_70 : VC_X14_readBytes_70 σ x1 Q) (h_70m : VC_X14_readBytes_70m σ x1) : rMv l G κ yX14_readBytes cX14_readBytes 3 2 23 [.ref (κ 0), iv x1] σ (fun s => rKeep 0x4020001c00 0 0x3c00000000 0 0 σ s ∧ Q s) := by
  refine zMv.intro (by decide +kernel) (Nat.le_of_ble_eq_true rfl) (fun X hC hR => ?_)
  refine z_aload_n hC (pc := 0) 0 dX14_readBytes_0 rfl rfl ?_
  refine y_get hC (pc := 1) zf14 rOb_0 29 (v := iv (rF σ 0 29)) dX14_readBytes_1 zw2496 (rv_i (Or.inl rfl) rfl) (kk := ?_)
  have h := h (hwf.f _ _)
  refine z_iconst hC (pc := 4) (v := Int32.ofInt 1) dX14_readBytes_4 (by decide) ?_
  refine y_iadd hC (pc := 5) (v := ((rF σ 0 29) + 1)) dX14_readBytes_5 rfl ?_
  refine z_aload_n hC (pc := 6) 0 dX14_readBytes_6 rfl rfl ?_
  refine y_get hC (pc := 7) zf14 rOb_0 28 (v := iv (rF σ 0 28)) dX14_readBytes_7 zw2495 (rv_i (Or.inl rfl) rfl) (kk := ?_)
  have h := h (hwf.f _ _)
  have j170 : ∀ (d170 : Nat), ∀ (s10 : rS) , rWF s10 → rKeep 0x4020001c00 0 0x3c00000000 0 0 σ s10 → inv_X14_readBytes_170 σ x1 s10 → (mu_X14_readBytes_170 σ x1 s10 ) ≤ d170 → zS X G 3 (rW G κ s10) [(0, .ref (κ 0)), (1, iv x1)] 0 0 170 [] := by
    intro d170
    induction d170 with
    | zero =>
      intro s10 Ws10 kJ hI hmu
      exact absurd hmu (by have := h_170m  s10  Ws10  (TPRp.keep kJ rfl rfl rfl) (kJ.F rfl) (kJ.F rfl) (fun i => kJ.A (f := 26) (by decide) rfl) hI; omega)
    | succ d170 ih170 =>
      intro s10 Ws10 kJ hI hmu170
      have h := h_170  s10  Ws10  (TPRp.keep kJ rfl rfl rfl) (kJ.F rfl) (kJ.F rfl) (fun i => kJ.A (f := 26) (by decide) rfl) hI
      refine z_aload_n hC (pc := 170) 0 dX14_readBytes_170 rfl rfl ?_
      obtain ⟨p11, h⟩ := h
      refine y_callVi hC (pc := 171) (As := []) (kX14_here l G κ s10  Ws10  p11) dmX14_here zf14 rOb_0 dX14_readBytes_171 zw3099 rfl rfl (Nat.le_of_ble_eq_true rfl) (Nat.le_of_ble_eq_true rfl) (Nat.le_of_ble_eq_true rfl) (Nat.le_of_ble_eq_true rfl) (Nat.le_of_ble_eq_true rfl) (kk := fun x13 s12 hx13 Ws12 qs12 => ?_)
      obtain ⟨es12, qs12⟩ := qs12
      have es12 := es12.symm
      subst es12
      have h := h x13 hx13 qs12
      refine z_bipush hC (pc := 174) (v := Int32.ofInt 92) dX14_readBytes_174 (by decide) ?_
      obtain ⟨hT, hF⟩ := h
      refine y_icmp_ne hC (pc := 176) 272 hx13 (r_lit rfl) dX14_readBytes_176 (by decide) (fun c => ?_) (fun c => ?_)
      · have h := hT c
        refine z_aload_n hC (pc := 272) 0 dX14_readBytes_272 rfl rfl ?_
        obtain ⟨p14, h⟩ := h
        refine y_callVi hC (pc := 273) (As := []) (kX14_here l G κ s10  Ws10  p14) dmX14_here zf14 rOb_0 dX14_readBytes_273 zw3099 rfl rfl (Nat.le_of_ble_eq_true rfl) (Nat.le_of_ble_eq_true rfl) (Nat.le_of_ble_eq_true rfl) (Nat.le_of_ble_eq_true rfl) (Nat.le_of_ble_eq_true rfl) (kk := fun x16 s15 hx16 Ws15 qs15 => ?_)
        obtain ⟨es15, qs15⟩ := qs15
        have es15 := es15.symm
        subst es15
        have h := h x16 hx16 qs15
        refine z_aload_n hC (pc := 276) 0 dX14_readBytes_276 rfl rfl ?_
        refine y_get hC (pc := 277) zf14 rOb_0 19 (v := iv (rF s10 0 19)) dX14_readBytes_277 zw2486 (rv_i (Or.inl rfl) rfl) (kk := ?_)
        have h := h (Ws10.f _ _)
        obtain ⟨hT, hF⟩ := h
        refine y_icmp_ne hC (pc := 280) 296 hx16 (Ws10.f _ _) dX14_readBytes_280 (by decide) (fun c => ?_) (fun c => ?_)
        · have h := hT c
          refine z_aload_n hC (pc := 296) 0 dX14_readBytes_296 rfl rfl ?_
          refine z_iconst hC (pc := 297) (v := Int32.ofInt 1) dX14_readBytes_297 (by decide) ?_
          refine z_aload_n hC (pc := 298) 0 dX14_readBytes_298 rfl rfl ?_
          obtain ⟨p17, h⟩ := h
          refine y_callVi hC (pc := 299) (As := []) (kX14_place l G κ s10  Ws10  p17) dmX14_place zf14 rOb_0 dX14_readBytes_299 zw3103 rfl rfl (Nat.le_of_ble_eq_true rfl) (Nat.le_of_ble_eq_true rfl) (Nat.le_of_ble_eq_true rfl) (Nat.le_of_ble_eq_true rfl) (Nat.le_of_ble_eq_true rfl) (kk := fun x19 s18 hx19 Ws18 qs18 => ?_)
          obtain ⟨es18, qs18⟩ := qs18
          have es18 := es18.symm
          subst es18
          have h := h x19 hx19 qs18
          obtain ⟨p20, h⟩ := h
          refine y_callVv hC (pc := 302) (As := [iv 1, iv x19]) (kX14_bad l G κ s10 1 x19 Ws10 (r_lit rfl) hx19 p20) dmX14_bad zf14 rOb_0 dX14_readBytes_302 zw3000 rfl rfl (Nat.le_of_ble_eq_true rfl) (Nat.le_of_ble_eq_true rfl) (Nat.le_of_ble_eq_true rfl) (Nat.le_of_ble_eq_true rfl) (Nat.le_of_ble_eq_true rfl) (kk := fun s21 Ws21 qs21 => ?_)
          have h := h s21 Ws21 (TPRp.keep qs21.1 rfl rfl rfl) (WNp.keep qs21.1 rfl rfl rfl rfl) (qs21.1.F rfl) (qs21.1.F rfl) (qs21.1.F rfl) (qs21.1.F rfl) (fun i => qs21.1.A (f := 26) (by decide) rfl) qs21.2
          exact y_retv hR dX14_readBytes_305 Ws21 (Nat.le_of_ble_eq_true rfl) (Nat.le_of_ble_eq_true rfl) ⟨(rKeep.tr (rKeep.tr rKeep.rf kJ rfl rfl rfl rfl rfl) qs21.1 rfl rfl rfl rfl rfl), h⟩
        · have h := hF c
          refine z_aload_n hC (pc := 283) 0 dX14_readBytes_283 rfl rfl ?_
          refine z_dup hC (pc := 284) dX14_readBytes_284 rfl ?_
          refine y_get hC (pc := 285) zf14 rOb_0 29 (v := iv (rF s10 0 29)) dX14_readBytes_285 zw2496 (rv_i (Or.inl rfl) rfl) (kk := ?_)
          have h := h (Ws10.f _ _)
          refine z_iconst hC (pc := 288) (v := Int32.ofInt 1) dX14_readBytes_288 (by decide) ?_
          refine y_iadd hC (pc := 289) (v := ((rF s10 0 29) + 1)) dX14_readBytes_289 rfl ?_
          obtain ⟨r23, h⟩ := h
          refine y_putI hC (pc := 290) zf14 rOb_0 29 (x := ((rF s10 0 29) + 1)) dX14_readBytes_290 zw2496 (Or.inl rfl) rfl rfl (kk := ?_)
          have W24 := Ws10.sF (q := 0) (f := 29) (x := ((rF s10 0 29) + 1)) r23
          refine z_goto hC (pc := 293) 305 dX14_readBytes_293 (by decide) ?_
          exact y_retv hR dX14_readBytes_305 W24 (Nat.le_of_ble_eq_true rfl) (Nat.le_of_ble_eq_true rfl) ⟨(rKeep.tr (rKeep.tr rKeep.rf kJ rfl rfl rfl rfl rfl) (rKeep.sF0 (f := 29)) rfl rfl rfl rfl rfl), h⟩
      · have h := hF c
        refine z_aload_n hC (pc := 179) 0 dX14_readBytes_179 rfl rfl ?_
        refine y_get hC (pc := 180) zf14 rOb_0 10 (v := iv (rF s10 0 10)) dX14_readBytes_180 zw2478 (rv_i (Or.inl rfl) rfl) (kk := ?_)
        have h := h (Ws10.f _ _)
        obtain ⟨hT, hF⟩ := h
        refine y_if_ne hC (pc := 183) 272 (Ws10.f _ _) dX14_readBytes_183 (by decide) (fun c => ?_) (fun c => ?_)
        · have h := hT c
          refine z_aload_n hC (pc := 272) 0 dX14_readBytes_272 rfl rfl ?_
          obtain ⟨p25, h⟩ := h
          refine y_callVi hC (pc := 273) (As := []) (kX14_here l G κ s10  Ws10  p25) dmX14_here zf14 rOb_0 dX14_readBytes_273 zw3099 rfl rfl (Nat.le_of_ble_eq_true rfl) (Nat.le_of_ble_eq_true rfl) (Nat.le_of_ble_eq_true rfl) (Nat.le_of_ble_eq_true rfl) (Nat.le_of_ble_eq_true rfl) (kk := fun x27 s26 hx27 Ws26 qs26 => ?_)
          obtain ⟨es26, qs26⟩ := qs26
          have es26 := es26.symm
          subst es26
          have h := h x27 hx27 qs26
          refine z_aload_n hC (pc := 276) 0 dX14_readBytes_276 rfl rfl ?_
          refine y_get hC (pc := 277) zf14 rOb_0 19 (v := iv (rF s10 0 19)) dX14_readBytes_277 zw2486 (rv_i (Or.inl rfl) rfl) (kk := ?_)
          have h := h (Ws10.f _ _)
          obtain ⟨hT, hF⟩ := h
          refine y_icmp_ne hC (pc := 280) 296 hx27 (Ws10.f _ _) dX14_readBytes_280 (by decide) (fun c => ?_) (fun c => ?_)
          · have h := hT c
            refine z_aload_n hC (pc := 296) 0 dX14_readBytes_296 rfl rfl ?_
            refine z_iconst hC (pc := 297) (v := Int32.ofInt 1) dX14_readBytes_297 (by decide) ?_
            refine z_aload_n hC (pc := 298) 0 dX14_readBytes_298 rfl rfl ?_
            obtain ⟨p28, h⟩ := h
            refine y_callVi hC (pc := 299) (As := []) (kX14_place l G κ s10  Ws10  p28) dmX14_place zf14 rOb_0 dX14_readBytes_299 zw3103 rfl rfl (Nat.le_of_ble_eq_true rfl) (Nat.le_of_ble_eq_true rfl) (Nat.le_of_ble_eq_true rfl) (Nat.le_of_ble_eq_true rfl) (Nat.le_of_ble_eq_true rfl) (kk := fun x30 s29 hx30 Ws29 qs29 => ?_)
            obtain ⟨es29, qs29⟩ := qs29
            have es29 := es29.symm
            subst es29
            have h := h x30 hx30 qs29
            obtain ⟨p31, h⟩ := h
            refine y_callVv hC (pc := 302) (As := [iv 1, iv x30]) (kX14_bad l G κ s10 1 x30 Ws10 (r_lit rfl) hx30 p31) dmX14_bad zf14 rOb_0 dX14_readBytes_302 zw3000 rfl rfl (Nat.le_of_ble_eq_true rfl) (Nat.le_of_ble_eq_true rfl) (Nat.le_of_ble_eq_true rfl) (Nat.le_of_ble_eq_true rfl) (Nat.le_of_ble_eq_true rfl) (kk := fun s32 Ws32 qs32 => ?_)
            have h := h s32 Ws32 (TPRp.keep qs32.1 rfl rfl rfl) (WNp.keep qs32.1 rfl rfl rfl rfl) (qs32.1.F rfl) (qs32.1.F rfl) (qs32.1.F rfl) (qs32.1.F rfl) (fun i => qs32.1.A (f := 26) (by decide) rfl) qs32.2
            exact y_retv hR dX14_readBytes_305 Ws32 (Nat.le_of_ble_eq_true rfl) (Nat.le_of_ble_eq_true rfl) ⟨(rKeep.tr (rKeep.tr rKeep.rf kJ rfl rfl rfl rfl rfl) qs32.1 rfl rfl rfl rfl rfl), h⟩
          · have h := hF c
            refine z_aload_n hC (pc := 283) 0 dX14_readBytes_283 rfl rfl ?_
            refine z_dup hC (pc := 284) dX14_readBytes_284 rfl ?_
            refine y_get hC (pc := 285) zf14 rOb_0 29 (v := iv (rF s10 0 29)) dX14_readBytes_285 zw2496 (rv_i (Or.inl rfl) rfl) (kk := ?_)
            have h := h (Ws10.f _ _)
            refine z_iconst hC (pc := 288) (v := Int32.ofInt 1) dX14_readBytes_288 (by decide) ?_
            refine y_iadd hC (pc := 289) (v := ((rF s10 0 29) + 1)) dX14_readBytes_289 rfl ?_
            obtain ⟨r34, h⟩ := h
            refine y_putI hC (pc := 290) zf14 rOb_0 29 (x := ((rF s10 0 29) + 1)) dX14_readBytes_290 zw2496 (Or.inl rfl) rfl rfl (kk := ?_)
            have W35 := Ws10.sF (q := 0) (f := 29) (x := ((rF s10 0 29) + 1)) r34
            refine z_goto hC (pc := 293) 305 dX14_readBytes_293 (by decide) ?_
            exact y_retv hR dX14_readBytes_305 W35 (Nat.le_of_ble_eq_true rfl) (Nat.le_of_ble_eq_true rfl) ⟨(rKeep.tr (rKeep.tr rKeep.rf kJ rfl rfl rfl rfl rfl) (rKeep.sF0 (f := 29)) rfl rfl rfl rfl rfl), h⟩
        · have h := hF c
          refine z_aload_n hC (pc := 186) 0 dX14_readBytes_186 rfl rfl ?_
          refine z_dup hC (pc := 187) dX14_readBytes_187 rfl ?_
          refine y_get hC (pc := 188) zf14 rOb_0 29 (v := iv (rF s10 0 29)) dX14_readBytes_188 zw2496 (rv_i (Or.inl rfl) rfl) (kk := ?_)
          have h := h (Ws10.f _ _)
          refine z_iconst hC (pc := 191) (v := Int32.ofInt 1) dX14_readBytes_191 (by decide) ?_
          refine y_iadd hC (pc := 192) (v := ((rF s10 0 29) + 1)) dX14_readBytes_192 rfl ?_
          obtain ⟨r36, h⟩ := h
          refine y_putI hC (pc := 193) zf14 rOb_0 29 (x := ((rF s10 0 29) + 1)) dX14_readBytes_193 zw2496 (Or.inl rfl) rfl rfl (kk := ?_)
          have W37 := Ws10.sF (q := 0) (f := 29) (x := ((rF s10 0 29) + 1)) r36
          refine z_aload_n hC (pc := 196) 0 dX14_readBytes_196 rfl rfl ?_
          obtain ⟨p38, h⟩ := h
          refine y_callVi hC (pc := 197) (As := []) (kX14_here l G κ (sF s10 0 29 ((rF s10 0 29) + 1))  W37  p38) dmX14_here zf14 rOb_0 dX14_readBytes_197 zw3099 rfl rfl (Nat.le_of_ble_eq_true rfl) (Nat.le_of_ble_eq_true rfl) (Nat.le_of_ble_eq_true rfl) (Nat.le_of_ble_eq_true rfl) (Nat.le_of_ble_eq_true rfl) (kk := fun x40 s39 hx40 Ws39 qs39 => ?_)
          obtain ⟨es39, qs39⟩ := qs39
          have es39 := es39.symm
          subst es39
          have h := h x40 hx40 qs39
          refine z_istore_n hC (pc := 200) (lv' := [(2, iv x40), (0, .ref (κ 0)), (1, iv x1)]) dX14_readBytes_200 rfl (by decide) rfl ?_
          refine z_iload_n hC (pc := 201) 0 dX14_readBytes_201 rfl rfl ?_
          refine z_bipush hC (pc := 202) (v := Int32.ofInt 110) dX14_readBytes_202 (by decide) ?_
          obtain ⟨hT, hF⟩ := h
          refine y_icmp_eq hC (pc := 204) 229 hx40 (r_lit rfl) dX14_readBytes_204 (by decide) (fun c => ?_) (fun c => ?_)
          · have h := hT c
            refine z_aload_n hC (pc := 229) 1 dX14_readBytes_229 rfl rfl ?_
            refine z_iconst hC (pc := 230) (v := Int32.ofInt 3) dX14_readBytes_230 (by decide) ?_
            refine z_iload_n hC (pc := 231) 0 dX14_readBytes_231 rfl rfl ?_
            refine z_bipush hC (pc := 232) (v := Int32.ofInt 110) dX14_readBytes_232 (by decide) ?_
            obtain ⟨hT, hF⟩ := h
            refine y_icmp_ne hC (pc := 234) 242 hx40 (r_lit rfl) dX14_readBytes_234 (by decide) (fun c => ?_) (fun c => ?_)
            · have h := hT c
              refine z_iload_n hC (pc := 242) 0 dX14_readBytes_242 rfl rfl ?_
              refine z_bipush hC (pc := 243) (v := Int32.ofInt 116) dX14_readBytes_243 (by decide) ?_
              obtain ⟨hT, hF⟩ := h
              refine y_icmp_ne hC (pc := 245) 253 hx40 (r_lit rfl) dX14_readBytes_245 (by decide) (fun c => ?_) (fun c => ?_)
              · have h := hT c
                refine z_bipush hC (pc := 253) (v := Int32.ofInt 32) dX14_readBytes_253 (by decide) ?_
                refine z_iload_n hC (pc := 255) 2 dX14_readBytes_255 rfl rfl ?_
                obtain ⟨p41, h⟩ := h
                refine y_callVv hC (pc := 256) (As := [iv 3, iv 32, iv x1]) (kX14_note l G κ (sF s10 0 29 ((rF s10 0 29) + 1)) 3 32 x1 W37 (r_lit rfl) (r_lit rfl) hx1 p41) dmX14_note zf14 rOb_0 dX14_readBytes_256 zw3111 rfl rfl (Nat.le_of_ble_eq_true rfl) (Nat.le_of_ble_eq_true rfl) (Nat.le_of_ble_eq_true rfl) (Nat.le_of_ble_eq_true rfl) (Nat.le_of_ble_eq_true rfl) (kk := fun s42 Ws42 qs42 => ?_)
                have h := h s42 Ws42 (TPRp.keep qs42.1 rfl rfl rfl) (qs42.1.F rfl) (qs42.1.F rfl) (qs42.1.F rfl) (qs42.1.F rfl) (fun i => qs42.1.A (f := 26) (by decide) rfl) qs42.2
                refine z_aload_n hC (pc := 259) 1 dX14_readBytes_259 rfl rfl ?_
                refine z_dup hC (pc := 260) dX14_readBytes_260 rfl ?_
                refine y_get hC (pc := 261) zf14 rOb_0 29 (v := iv ((rF s10 0 29) + 1)) dX14_readBytes_261 zw2496 (rv_i (Or.inl rfl) ((qs42.1.F rfl).trans (F_sF _ _ _ _))) (kk := ?_)
                refine z_iconst hC (pc := 264) (v := Int32.ofInt 1) dX14_readBytes_264 (by decide) ?_
                refine y_iadd hC (pc := 265) (v := (((rF s10 0 29) + 1) + 1)) dX14_readBytes_265 rfl ?_
                obtain ⟨r44, h⟩ := h
                refine y_putI hC (pc := 266) zf14 rOb_0 29 (x := (((rF s10 0 29) + 1) + 1)) dX14_readBytes_266 zw2496 (Or.inl rfl) rfl rfl (kk := ?_)
                have W45 := Ws42.sF (q := 0) (f := 29) (x := (((rF s10 0 29) + 1) + 1)) r44
                refine z_goto hC (pc := 269) 170 dX14_readBytes_269 (by decide) ?_
                refine z_lvs [1, 2] rfl ?_
                obtain ⟨hI, hm⟩ := h
                exact ih170 (sF s42 0 29 (((rF s10 0 29) + 1) + 1))  W45  (rKeep.tr (rKeep.tr (rKeep.tr (rKeep.tr rKeep.rf kJ rfl rfl rfl rfl rfl) (rKeep.sF0 (f := 29)) rfl rfl rfl rfl rfl) qs42.1 rfl rfl rfl rfl rfl) (rKeep.sF0 (f := 29)) rfl rfl rfl rfl rfl) hI (by omega)
              · have h := hF c
                refine z_bipush hC (pc := 248) (v := Int32.ofInt 9) dX14_readBytes_248 (by decide) ?_
                refine z_goto hC (pc := 250) 255 dX14_readBytes_250 (by decide) ?_
                refine z_iload_n hC (pc := 255) 2 dX14_readBytes_255 rfl rfl ?_
                obtain ⟨p46, h⟩ := h
                refine y_callVv hC (pc := 256) (As := [iv 3, iv 9, iv x1]) (kX14_note l G κ (sF s10 0 29 ((rF s10 0 29) + 1)) 3 9 x1 W37 (r_lit rfl) (r_lit rfl) hx1 p46) dmX14_note zf14 rOb_0 dX14_readBytes_256 zw3111 rfl rfl (Nat.le_of_ble_eq_true rfl) (Nat.le_of_ble_eq_true rfl) (Nat.le_of_ble_eq_true rfl) (Nat.le_of_ble_eq_true rfl) (Nat.le_of_ble_eq_true rfl) (kk := fun s47 Ws47 qs47 => ?_)
                have h := h s47 Ws47 (TPRp.keep qs47.1 rfl rfl rfl) (qs47.1.F rfl) (qs47.1.F rfl) (qs47.1.F rfl) (qs47.1.F rfl) (fun i => qs47.1.A (f := 26) (by decide) rfl) qs47.2
                refine z_aload_n hC (pc := 259) 1 dX14_readBytes_259 rfl rfl ?_
                refine z_dup hC (pc := 260) dX14_readBytes_260 rfl ?_
                refine y_get hC (pc := 261) zf14 rOb_0 29 (v := iv ((rF s10 0 29) + 1)) dX14_readBytes_261 zw2496 (rv_i (Or.inl rfl) ((qs47.1.F rfl).trans (F_sF _ _ _ _))) (kk := ?_)
                refine z_iconst hC (pc := 264) (v := Int32.ofInt 1) dX14_readBytes_264 (by decide) ?_
                refine y_iadd hC (pc := 265) (v := (((rF s10 0 29) + 1) + 1)) dX14_readBytes_265 rfl ?_
                obtain ⟨r49, h⟩ := h
                refine y_putI hC (pc := 266) zf14 rOb_0 29 (x := (((rF s10 0 29) + 1) + 1)) dX14_readBytes_266 zw2496 (Or.inl rfl) rfl rfl (kk := ?_)
                have W50 := Ws47.sF (q := 0) (f := 29) (x := (((rF s10 0 29) + 1) + 1)) r49
                refine z_goto hC (pc := 269) 170 dX14_readBytes_269 (by decide) ?_
                refine z_lvs [1, 2] rfl ?_
                obtain ⟨hI, hm⟩ := h
                exact ih170 (sF s47 0 29 (((rF s10 0 29) + 1) + 1))  W50  (rKeep.tr (rKeep.tr (rKeep.tr (rKeep.tr rKeep.rf kJ rfl rfl rfl rfl rfl) (rKeep.sF0 (f := 29)) rfl rfl rfl rfl rfl) qs47.1 rfl rfl rfl rfl rfl) (rKeep.sF0 (f := 29)) rfl rfl rfl rfl rfl) hI (by omega)
            · have h := hF c
              refine z_bipush hC (pc := 237) (v := Int32.ofInt 10) dX14_readBytes_237 (by decide) ?_
              refine z_goto hC (pc := 239) 255 dX14_readBytes_239 (by decide) ?_
              refine z_iload_n hC (pc := 255) 2 dX14_readBytes_255 rfl rfl ?_
              obtain ⟨p51, h⟩ := h
              refine y_callVv hC (pc := 256) (As := [iv 3, iv 10, iv x1]) (kX14_note l G κ (sF s10 0 29 ((rF s10 0 29) + 1)) 3 10 x1 W37 (r_lit rfl) (r_lit rfl) hx1 p51) dmX14_note zf14 rOb_0 dX14_readBytes_256 zw3111 rfl rfl (Nat.le_of_ble_eq_true rfl) (Nat.le_of_ble_eq_true rfl) (Nat.le_of_ble_eq_true rfl) (Nat.le_of_ble_eq_true rfl) (Nat.le_of_ble_eq_true rfl) (kk := fun s52 Ws52 qs52 => ?_)
              have h := h s52 Ws52 (TPRp.keep qs52.1 rfl rfl rfl) (qs52.1.F rfl) (qs52.1.F rfl) (qs52.1.F rfl) (qs52.1.F rfl) (fun i => qs52.1.A (f := 26) (by decide) rfl) qs52.2
              refine z_aload_n hC (pc := 259) 1 dX14_readBytes_259 rfl rfl ?_
              refine z_dup hC (pc := 260) dX14_readBytes_260 rfl ?_
              refine y_get hC (pc := 261) zf14 rOb_0 29 (v := iv ((rF s10 0 29) + 1)) dX14_readBytes_261 zw2496 (rv_i (Or.inl rfl) ((qs52.1.F rfl).trans (F_sF _ _ _ _))) (kk := ?_)
              refine z_iconst hC (pc := 264) (v := Int32.ofInt 1) dX14_readBytes_264 (by decide) ?_
              refine y_iadd hC (pc := 265) (v := (((rF s10 0 29) + 1) + 1)) dX14_readBytes_265 rfl ?_
              obtain ⟨r54, h⟩ := h
              refine y_putI hC (pc := 266) zf14 rOb_0 29 (x := (((rF s10 0 29) + 1) + 1)) dX14_readBytes_266 zw2496 (Or.inl rfl) rfl rfl (kk := ?_)
              have W55 := Ws52.sF (q := 0) (f := 29) (x := (((rF s10 0 29) + 1) + 1)) r54
              refine z_goto hC (pc := 269) 170 dX14_readBytes_269 (by decide) ?_
              refine z_lvs [1, 2] rfl ?_
              obtain ⟨hI, hm⟩ := h
              exact ih170 (sF s52 0 29 (((rF s10 0 29) + 1) + 1))  W55  (rKeep.tr (rKeep.tr (rKeep.tr (rKeep.tr rKeep.rf kJ rfl rfl rfl rfl rfl) (rKeep.sF0 (f := 29)) rfl rfl rfl rfl rfl) qs52.1 rfl rfl rfl rfl rfl) (rKeep.sF0 (f := 29)) rfl rfl rfl rfl rfl) hI (by omega)
          · have h := hF c
            refine z_iload_n hC (pc := 207) 0 dX14_readBytes_207 rfl rfl ?_
            refine z_bipush hC (pc := 208) (v := Int32.ofInt 116) dX14_readBytes_208 (by decide) ?_
            obtain ⟨hT, hF⟩ := h
            refine y_icmp_eq hC (pc := 210) 229 hx40 (r_lit rfl) dX14_readBytes_210 (by decide) (fun c => ?_) (fun c => ?_)
            · have h := hT c
              refine z_aload_n hC (pc := 229) 1 dX14_readBytes_229 rfl rfl ?_
              refine z_iconst hC (pc := 230) (v := Int32.ofInt 3) dX14_readBytes_230 (by decide) ?_
              refine z_iload_n hC (pc := 231) 0 dX14_readBytes_231 rfl rfl ?_
              refine z_bipush hC (pc := 232) (v := Int32.ofInt 110) dX14_readBytes_232 (by decide) ?_
              obtain ⟨hT, hF⟩ := h
              refine y_icmp_ne hC (pc := 234) 242 hx40 (r_lit rfl) dX14_readBytes_234 (by decide) (fun c => ?_) (fun c => ?_)
              · have h := hT c
                refine z_iload_n hC (pc := 242) 0 dX14_readBytes_242 rfl rfl ?_
                refine z_bipush hC (pc := 243) (v := Int32.ofInt 116) dX14_readBytes_243 (by decide) ?_
                obtain ⟨hT, hF⟩ := h
                refine y_icmp_ne hC (pc := 245) 253 hx40 (r_lit rfl) dX14_readBytes_245 (by decide) (fun c => ?_) (fun c => ?_)
                · have h := hT c
                  refine z_bipush hC (pc := 253) (v := Int32.ofInt 32) dX14_readBytes_253 (by decide) ?_
                  refine z_iload_n hC (pc := 255) 2 dX14_readBytes_255 rfl rfl ?_
                  obtain ⟨p56, h⟩ := h
                  refine y_callVv hC (pc := 256) (As := [iv 3, iv 32, iv x1]) (kX14_note l G κ (sF s10 0 29 ((rF s10 0 29) + 1)) 3 32 x1 W37 (r_lit rfl) (r_lit rfl) hx1 p56) dmX14_note zf14 rOb_0 dX14_readBytes_256 zw3111 rfl rfl (Nat.le_of_ble_eq_true rfl) (Nat.le_of_ble_eq_true rfl) (Nat.le_of_ble_eq_true rfl) (Nat.le_of_ble_eq_true rfl) (Nat.le_of_ble_eq_true rfl) (kk := fun s57 Ws57 qs57 => ?_)
                  have h := h s57 Ws57 (TPRp.keep qs57.1 rfl rfl rfl) (qs57.1.F rfl) (qs57.1.F rfl) (qs57.1.F rfl) (qs57.1.F rfl) (fun i => qs57.1.A (f := 26) (by decide) rfl) qs57.2
                  refine z_aload_n hC (pc := 259) 1 dX14_readBytes_259 rfl rfl ?_
                  refine z_dup hC (pc := 260) dX14_readBytes_260 rfl ?_
                  refine y_get hC (pc := 261) zf14 rOb_0 29 (v := iv ((rF s10 0 29) + 1)) dX14_readBytes_261 zw2496 (rv_i (Or.inl rfl) ((qs57.1.F rfl).trans (F_sF _ _ _ _))) (kk := ?_)
                  refine z_iconst hC (pc := 264) (v := Int32.ofInt 1) dX14_readBytes_264 (by decide) ?_
                  refine y_iadd hC (pc := 265) (v := (((rF s10 0 29) + 1) + 1)) dX14_readBytes_265 rfl ?_
                  obtain ⟨r59, h⟩ := h
                  refine y_putI hC (pc := 266) zf14 rOb_0 29 (x := (((rF s10 0 29) + 1) + 1)) dX14_readBytes_266 zw2496 (Or.inl rfl) rfl rfl (kk := ?_)
                  have W60 := Ws57.sF (q := 0) (f := 29) (x := (((rF s10 0 29) + 1) + 1)) r59
                  refine z_goto hC (pc := 269) 170 dX14_readBytes_269 (by decide) ?_
                  refine z_lvs [1, 2] rfl ?_
                  obtain ⟨hI, hm⟩ := h
                  exact ih170 (sF s57 0 29 (((rF s10 0 29) + 1) + 1))  W60  (rKeep.tr (rKeep.tr (rKeep.tr (rKeep.tr rKeep.rf kJ rfl rfl rfl rfl rfl) (rKeep.sF0 (f := 29)) rfl rfl rfl rfl rfl) qs57.1 rfl rfl rfl rfl rfl) (rKeep.sF0 (f := 29)) rfl rfl rfl rfl rfl) hI (by omega)
                · have h := hF c
                  refine z_bipush hC (pc := 248) (v := Int32.ofInt 9) dX14_readBytes_248 (by decide) ?_
                  refine z_goto hC (pc := 250) 255 dX14_readBytes_250 (by decide) ?_
                  refine z_iload_n hC (pc := 255) 2 dX14_readBytes_255 rfl rfl ?_
                  obtain ⟨p61, h⟩ := h
                  refine y_callVv hC (pc := 256) (As := [iv 3, iv 9, iv x1]) (kX14_note l G κ (sF s10 0 29 ((rF s10 0 29) + 1)) 3 9 x1 W37 (r_lit rfl) (r_lit rfl) hx1 p61) dmX14_note zf14 rOb_0 dX14_readBytes_256 zw3111 rfl rfl (Nat.le_of_ble_eq_true rfl) (Nat.le_of_ble_eq_true rfl) (Nat.le_of_ble_eq_true rfl) (Nat.le_of_ble_eq_true rfl) (Nat.le_of_ble_eq_true rfl) (kk := fun s62 Ws62 qs62 => ?_)
                  have h := h s62 Ws62 (TPRp.keep qs62.1 rfl rfl rfl) (qs62.1.F rfl) (qs62.1.F rfl) (qs62.1.F rfl) (qs62.1.F rfl) (fun i => qs62.1.A (f := 26) (by decide) rfl) qs62.2
                  refine z_aload_n hC (pc := 259) 1 dX14_readBytes_259 rfl rfl ?_
                  refine z_dup hC (pc := 260) dX14_readBytes_260 rfl ?_
                  refine y_get hC (pc := 261) zf14 rOb_0 29 (v := iv ((rF s10 0 29) + 1)) dX14_readBytes_261 zw2496 (rv_i (Or.inl rfl) ((qs62.1.F rfl).trans (F_sF _ _ _ _))) (kk := ?_)
                  refine z_iconst hC (pc := 264) (v := Int32.ofInt 1) dX14_readBytes_264 (by decide) ?_
                  refine y_iadd hC (pc := 265) (v := (((rF s10 0 29) + 1) + 1)) dX14_readBytes_265 rfl ?_
                  obtain ⟨r64, h⟩ := h
                  refine y_putI hC (pc := 266) zf14 rOb_0 29 (x := (((rF s10 0 29) + 1) + 1)) dX14_readBytes_266 zw2496 (Or.inl rfl) rfl rfl (kk := ?_)
                  have W65 := Ws62.sF (q := 0) (f := 29) (x := (((rF s10 0 29) + 1) + 1)) r64
                  refine z_goto hC (pc := 269) 170 dX14_readBytes_269 (by decide) ?_
                  refine z_lvs [1, 2] rfl ?_
                  obtain ⟨hI, hm⟩ := h
                  exact ih170 (sF s62 0 29 (((rF s10 0 29) + 1) + 1))  W65  (rKeep.tr (rKeep.tr (rKeep.tr (rKeep.tr rKeep.rf kJ rfl rfl rfl rfl rfl) (rKeep.sF0 (f := 29)) rfl rfl rfl rfl rfl) qs62.1 rfl rfl rfl rfl rfl) (rKeep.sF0 (f := 29)) rfl rfl rfl rfl rfl) hI (by omega)
              · have h := hF c
                refine z_bipush hC (pc := 237) (v := Int32.ofInt 10) dX14_readBytes_237 (by decide) ?_
                refine z_goto hC (pc := 239) 255 dX14_readBytes_239 (by decide) ?_
                refine z_iload_n hC (pc := 255) 2 dX14_readBytes_255 rfl rfl ?_
                obtain ⟨p66, h⟩ := h
                refine y_callVv hC (pc := 256) (As := [iv 3, iv 10, iv x1]) (kX14_note l G κ (sF s10 0 29 ((rF s10 0 29) + 1)) 3 10 x1 W37 (r_lit rfl) (r_lit rfl) hx1 p66) dmX14_note zf14 rOb_0 dX14_readBytes_256 zw3111 rfl rfl (Nat.le_of_ble_eq_true rfl) (Nat.le_of_ble_eq_true rfl) (Nat.le_of_ble_eq_true rfl) (Nat.le_of_ble_eq_true rfl) (Nat.le_of_ble_eq_true rfl) (kk := fun s67 Ws67 qs67 => ?_)
                have h := h s67 Ws67 (TPRp.keep qs67.1 rfl rfl rfl) (qs67.1.F rfl) (qs67.1.F rfl) (qs67.1.F rfl) (qs67.1.F rfl) (fun i => qs67.1.A (f := 26) (by decide) rfl) qs67.2
                refine z_aload_n hC (pc := 259) 1 dX14_readBytes_259 rfl rfl ?_
                refine z_dup hC (pc := 260) dX14_readBytes_260 rfl ?_
                refine y_get hC (pc := 261) zf14 rOb_0 29 (v := iv ((rF s10 0 29) + 1)) dX14_readBytes_261 zw2496 (rv_i (Or.inl rfl) ((qs67.1.F rfl).trans (F_sF _ _ _ _))) (kk := ?_)
                refine z_iconst hC (pc := 264) (v := Int32.ofInt 1) dX14_readBytes_264 (by decide) ?_
                refine y_iadd hC (pc := 265) (v := (((rF s10 0 29) + 1) + 1)) dX14_readBytes_265 rfl ?_
                obtain ⟨r69, h⟩ := h
                refine y_putI hC (pc := 266) zf14 rOb_0 29 (x := (((rF s10 0 29) + 1) + 1)) dX14_readBytes_266 zw2496 (Or.inl rfl) rfl rfl (kk := ?_)
                have W70 := Ws67.sF (q := 0) (f := 29) (x := (((rF s10 0 29) + 1) + 1)) r69
                refine z_goto hC (pc := 269) 170 dX14_readBytes_269 (by decide) ?_
                refine z_lvs [1, 2] rfl ?_
                obtain ⟨hI, hm⟩ := h
                exact ih170 (sF s67 0 29 (((rF s10 0 29) + 1) + 1))  W70  (rKeep.tr (rKeep.tr (rKeep.tr (rKeep.tr rKeep.rf kJ rfl rfl rfl rfl rfl) (rKeep.sF0 (f := 29)) rfl rfl rfl rfl rfl) qs67.1 rfl rfl rfl rfl rfl) (rKeep.sF0 (f := 29)) rfl rfl rfl rfl rfl) hI (by omega)
            · have h := hF c
              refine z_iload_n hC (pc := 213) 0 dX14_readBytes_213 rfl rfl ?_
              refine z_bipush hC (pc := 214) (v := Int32.ofInt 32) dX14_readBytes_214 (by decide) ?_
              obtain ⟨hT, hF⟩ := h
              refine y_icmp_eq hC (pc := 216) 229 hx40 (r_lit rfl) dX14_readBytes_216 (by decide) (fun c => ?_) (fun c => ?_)
              · have h := hT c
                refine z_aload_n hC (pc := 229) 1 dX14_readBytes_229 rfl rfl ?_
                refine z_iconst hC (pc := 230) (v := Int32.ofInt 3) dX14_readBytes_230 (by decide) ?_
                refine z_iload_n hC (pc := 231) 0 dX14_readBytes_231 rfl rfl ?_
                refine z_bipush hC (pc := 232) (v := Int32.ofInt 110) dX14_readBytes_232 (by decide) ?_
                obtain ⟨hT, hF⟩ := h
                refine y_icmp_ne hC (pc := 234) 242 hx40 (r_lit rfl) dX14_readBytes_234 (by decide) (fun c => ?_) (fun c => ?_)
                · have h := hT c
                  refine z_iload_n hC (pc := 242) 0 dX14_readBytes_242 rfl rfl ?_
                  refine z_bipush hC (pc := 243) (v := Int32.ofInt 116) dX14_readBytes_243 (by decide) ?_
                  obtain ⟨hT, hF⟩ := h
                  refine y_icmp_ne hC (pc := 245) 253 hx40 (r_lit rfl) dX14_readBytes_245 (by decide) (fun c => ?_) (fun c => ?_)
                  · have h := hT c
                    refine z_bipush hC (pc := 253) (v := Int32.ofInt 32) dX14_readBytes_253 (by decide) ?_
                    refine z_iload_n hC (pc := 255) 2 dX14_readBytes_255 rfl rfl ?_
                    obtain ⟨p71, h⟩ := h
                    refine y_callVv hC (pc := 256) (As := [iv 3, iv 32, iv x1]) (kX14_note l G κ (sF s10 0 29 ((rF s10 0 29) + 1)) 3 32 x1 W37 (r_lit rfl) (r_lit rfl) hx1 p71) dmX14_note zf14 rOb_0 dX14_readBytes_256 zw3111 rfl rfl (Nat.le_of_ble_eq_true rfl) (Nat.le_of_ble_eq_true rfl) (Nat.le_of_ble_eq_true rfl) (Nat.le_of_ble_eq_true rfl) (Nat.le_of_ble_eq_true rfl) (kk := fun s72 Ws72 qs72 => ?_)
                    have h := h s72 Ws72 (TPRp.keep qs72.1 rfl rfl rfl) (qs72.1.F rfl) (qs72.1.F rfl) (qs72.1.F rfl) (qs72.1.F rfl) (fun i => qs72.1.A (f := 26) (by decide) rfl) qs72.2
                    refine z_aload_n hC (pc := 259) 1 dX14_readBytes_259 rfl rfl ?_
                    refine z_dup hC (pc := 260) dX14_readBytes_260 rfl ?_
                    refine y_get hC (pc := 261) zf14 rOb_0 29 (v := iv ((rF s10 0 29) + 1)) dX14_readBytes_261 zw2496 (rv_i (Or.inl rfl) ((qs72.1.F rfl).trans (F_sF _ _ _ _))) (kk := ?_)
                    refine z_iconst hC (pc := 264) (v := Int32.ofInt 1) dX14_readBytes_264 (by decide) ?_
                    refine y_iadd hC (pc := 265) (v := (((rF s10 0 29) + 1) + 1)) dX14_readBytes_265 rfl ?_
                    obtain ⟨r74, h⟩ := h
                    refine y_putI hC (pc := 266) zf14 rOb_0 29 (x := (((rF s10 0 29) + 1) + 1)) dX14_readBytes_266 zw2496 (Or.inl rfl) rfl rfl (kk := ?_)
                    have W75 := Ws72.sF (q := 0) (f := 29) (x := (((rF s10 0 29) + 1) + 1)) r74
                    refine z_goto hC (pc := 269) 170 dX14_readBytes_269 (by decide) ?_
                    refine z_lvs [1, 2] rfl ?_
                    obtain ⟨hI, hm⟩ := h
                    exact ih170 (sF s72 0 29 (((rF s10 0 29) + 1) + 1))  W75  (rKeep.tr (rKeep.tr (rKeep.tr (rKeep.tr rKeep.rf kJ rfl rfl rfl rfl rfl) (rKeep.sF0 (f := 29)) rfl rfl rfl rfl rfl) qs72.1 rfl rfl rfl rfl rfl) (rKeep.sF0 (f := 29)) rfl rfl rfl rfl rfl) hI (by omega)
                  · have h := hF c
                    refine z_bipush hC (pc := 248) (v := Int32.ofInt 9) dX14_readBytes_248 (by decide) ?_
                    refine z_goto hC (pc := 250) 255 dX14_readBytes_250 (by decide) ?_
                    refine z_iload_n hC (pc := 255) 2 dX14_readBytes_255 rfl rfl ?_
                    obtain ⟨p76, h⟩ := h
                    refine y_callVv hC (pc := 256) (As := [iv 3, iv 9, iv x1]) (kX14_note l G κ (sF s10 0 29 ((rF s10 0 29) + 1)) 3 9 x1 W37 (r_lit rfl) (r_lit rfl) hx1 p76) dmX14_note zf14 rOb_0 dX14_readBytes_256 zw3111 rfl rfl (Nat.le_of_ble_eq_true rfl) (Nat.le_of_ble_eq_true rfl) (Nat.le_of_ble_eq_true rfl) (Nat.le_of_ble_eq_true rfl) (Nat.le_of_ble_eq_true rfl) (kk := fun s77 Ws77 qs77 => ?_)
                    have h := h s77 Ws77 (TPRp.keep qs77.1 rfl rfl rfl) (qs77.1.F rfl) (qs77.1.F rfl) (qs77.1.F rfl) (qs77.1.F rfl) (fun i => qs77.1.A (f := 26) (by decide) rfl) qs77.2
                    refine z_aload_n hC (pc := 259) 1 dX14_readBytes_259 rfl rfl ?_
                    refine z_dup hC (pc := 260) dX14_readBytes_260 rfl ?_
                    refine y_get hC (pc := 261) zf14 rOb_0 29 (v := iv ((rF s10 0 29) + 1)) dX14_readBytes_261 zw2496 (rv_i (Or.inl rfl) ((qs77.1.F rfl).trans (F_sF _ _ _ _))) (kk := ?_)
                    refine z_iconst hC (pc := 264) (v := Int32.ofInt 1) dX14_readBytes_264 (by decide) ?_
                    refine y_iadd hC (pc := 265) (v := (((rF s10 0 29) + 1) + 1)) dX14_readBytes_265 rfl ?_
                    obtain ⟨r79, h⟩ := h
                    refine y_putI hC (pc := 266) zf14 rOb_0 29 (x := (((rF s10 0 29) + 1) + 1)) dX14_readBytes_266 zw2496 (Or.inl rfl) rfl rfl (kk := ?_)
                    have W80 := Ws77.sF (q := 0) (f := 29) (x := (((rF s10 0 29) + 1) + 1)) r79
                    refine z_goto hC (pc := 269) 170 dX14_readBytes_269 (by decide) ?_
                    refine z_lvs [1, 2] rfl ?_
                    obtain ⟨hI, hm⟩ := h
                    exact ih170 (sF s77 0 29 (((rF s10 0 29) + 1) + 1))  W80  (rKeep.tr (rKeep.tr (rKeep.tr (rKeep.tr rKeep.rf kJ rfl rfl rfl rfl rfl) (rKeep.sF0 (f := 29)) rfl rfl rfl rfl rfl) qs77.1 rfl rfl rfl rfl rfl) (rKeep.sF0 (f := 29)) rfl rfl rfl rfl rfl) hI (by omega)
                · have h := hF c
                  refine z_bipush hC (pc := 237) (v := Int32.ofInt 10) dX14_readBytes_237 (by decide) ?_
                  refine z_goto hC (pc := 239) 255 dX14_readBytes_239 (by decide) ?_
                  refine z_iload_n hC (pc := 255) 2 dX14_readBytes_255 rfl rfl ?_
                  obtain ⟨p81, h⟩ := h
                  refine y_callVv hC (pc := 256) (As := [iv 3, iv 10, iv x1]) (kX14_note l G κ (sF s10 0 29 ((rF s10 0 29) + 1)) 3 10 x1 W37 (r_lit rfl) (r_lit rfl) hx1 p81) dmX14_note zf14 rOb_0 dX14_readBytes_256 zw3111 rfl rfl (Nat.le_of_ble_eq_true rfl) (Nat.le_of_ble_eq_true rfl) (Nat.le_of_ble_eq_true rfl) (Nat.le_of_ble_eq_true rfl) (Nat.le_of_ble_eq_true rfl) (kk := fun s82 Ws82 qs82 => ?_)
                  have h := h s82 Ws82 (TPRp.keep qs82.1 rfl rfl rfl) (qs82.1.F rfl) (qs82.1.F rfl) (qs82.1.F rfl) (qs82.1.F rfl) (fun i => qs82.1.A (f := 26) (by decide) rfl) qs82.2
                  refine z_aload_n hC (pc := 259) 1 dX14_readBytes_259 rfl rfl ?_
                  refine z_dup hC (pc := 260) dX14_readBytes_260 rfl ?_
                  refine y_get hC (pc := 261) zf14 rOb_0 29 (v := iv ((rF s10 0 29) + 1)) dX14_readBytes_261 zw2496 (rv_i (Or.inl rfl) ((qs82.1.F rfl).trans (F_sF _ _ _ _))) (kk := ?_)
                  refine z_iconst hC (pc := 264) (v := Int32.ofInt 1) dX14_readBytes_264 (by decide) ?_
                  refine y_iadd hC (pc := 265) (v := (((rF s10 0 29) + 1) + 1)) dX14_readBytes_265 rfl ?_
                  obtain ⟨r84, h⟩ := h
                  refine y_putI hC (pc := 266) zf14 rOb_0 29 (x := (((rF s10 0 29) + 1) + 1)) dX14_readBytes_266 zw2496 (Or.inl rfl) rfl rfl (kk := ?_)
                  have W85 := Ws82.sF (q := 0) (f := 29) (x := (((rF s10 0 29) + 1) + 1)) r84
                  refine z_goto hC (pc := 269) 170 dX14_readBytes_269 (by decide) ?_
                  refine z_lvs [1, 2] rfl ?_
                  obtain ⟨hI, hm⟩ := h
                  exact ih170 (sF s82 0 29 (((rF s10 0 29) + 1) + 1))  W85  (rKeep.tr (rKeep.tr (rKeep.tr (rKeep.tr rKeep.rf kJ rfl rfl rfl rfl rfl) (rKeep.sF0 (f := 29)) rfl rfl rfl rfl rfl) qs82.1 rfl rfl rfl rfl rfl) (rKeep.sF0 (f := 29)) rfl rfl rfl rfl rfl) hI (by omega)
              · have h := hF c
                refine z_aload_n hC (pc := 219) 1 dX14_readBytes_219 rfl rfl ?_
                refine z_iconst hC (pc := 220) (v := Int32.ofInt 1) dX14_readBytes_220 (by decide) ?_
                refine z_aload_n hC (pc := 221) 1 dX14_readBytes_221 rfl rfl ?_
                obtain ⟨p86, h⟩ := h
                refine y_callVi hC (pc := 222) (As := []) (kX14_place l G κ (sF s10 0 29 ((rF s10 0 29) + 1))  W37  p86) dmX14_place zf14 rOb_0 dX14_readBytes_222 zw3103 rfl rfl (Nat.le_of_ble_eq_true rfl) (Nat.le_of_ble_eq_true rfl) (Nat.le_of_ble_eq_true rfl) (Nat.le_of_ble_eq_true rfl) (Nat.le_of_ble_eq_true rfl) (kk := fun x88 s87 hx88 Ws87 qs87 => ?_)
                obtain ⟨es87, qs87⟩ := qs87
                have es87 := es87.symm
                subst es87
                have h := h x88 hx88 qs87
                obtain ⟨p89, h⟩ := h
                refine y_callVv hC (pc := 225) (As := [iv 1, iv x88]) (kX14_bad l G κ (sF s10 0 29 ((rF s10 0 29) + 1)) 1 x88 W37 (r_lit rfl) hx88 p89) dmX14_bad zf14 rOb_0 dX14_readBytes_225 zw3000 rfl rfl (Nat.le_of_ble_eq_true rfl) (Nat.le_of_ble_eq_true rfl) (Nat.le_of_ble_eq_true rfl) (Nat.le_of_ble_eq_true rfl) (Nat.le_of_ble_eq_true rfl) (kk := fun s90 Ws90 qs90 => ?_)
                have h := h s90 Ws90 (TPRp.keep qs90.1 rfl rfl rfl) (WNp.keep qs90.1 rfl rfl rfl rfl) (qs90.1.F rfl) (qs90.1.F rfl) (qs90.1.F rfl) (qs90.1.F rfl) (fun i => qs90.1.A (f := 26) (by decide) rfl) qs90.2
                exact y_retv hR dX14_readBytes_228 Ws90 (Nat.le_of_ble_eq_true rfl) (Nat.le_of_ble_eq_true rfl) ⟨(rKeep.tr (rKeep.tr (rKeep.tr rKeep.rf kJ rfl rfl rfl rfl rfl) (rKeep.sF0 (f := 29)) rfl rfl rfl rfl rfl) qs90.1 rfl rfl rfl rfl rfl), h⟩
  obtain ⟨r92, h⟩ := h
  obtain ⟨hT, hF⟩ := h
  refine y_icmp_ge hC (pc := 10) 170 r92 (hwf.f _ _) dX14_readBytes_10 (by decide) (fun c => ?_) (fun c => ?_)
  · have h := hT c
    exact j170 _ σ  hwf  rKeep.rf h (Nat.le_refl _)
  · have h := hF c
    refine z_aload_n hC (pc := 13) 0 dX14_readBytes_13 rfl rfl ?_
    refine y_get hC (pc := 14) zf14 rOb_0 26 (v := .ref (κ 1026)) dX14_readBytes_14 zw2493 (rv_c rfl) (kk := ?_)
    refine z_aload_n hC (pc := 17) 0 dX14_readBytes_17 rfl rfl ?_
    refine y_get hC (pc := 18) zf14 rOb_0 29 (v := iv (rF σ 0 29)) dX14_readBytes_18 zw2496 (rv_i (Or.inl rfl) rfl) (kk := ?_)
    refine z_iconst hC (pc := 21) (v := Int32.ofInt 1) dX14_readBytes_21 (by decide) ?_
    refine y_iadd hC (pc := 22) (v := ((rF σ 0 29) + 1)) dX14_readBytes_22 rfl ?_
    obtain ⟨b93, h⟩ := h
    refine y_bald hC (pc := 23) (rAr_m rfl) dX14_readBytes_23 b93 (v := (rA σ 1026 ((rF σ 0 29) + 1))) rfl (kk := ?_)
    have h := h (hwf.a _ _)
    refine z_bipush hC (pc := 24) (v := Int32.ofInt 92) dX14_readBytes_24 (by decide) ?_
    obtain ⟨hT, hF⟩ := h
    refine y_icmp_ne hC (pc := 26) 170 (hwf.a _ _) (r_lit rfl) dX14_readBytes_26 (by decide) (fun c => ?_) (fun c => ?_)
    · have h := hT c
      exact j170 _ σ  hwf  rKeep.rf h (Nat.le_refl _)
    · have h := hF c
      refine z_aload_n hC (pc := 29) 0 dX14_readBytes_29 rfl rfl ?_
      refine z_dup hC (pc := 30) dX14_readBytes_30 rfl ?_
      refine y_get hC (pc := 31) zf14 rOb_0 29 (v := iv (rF σ 0 29)) dX14_readBytes_31 zw2496 (rv_i (Or.inl rfl) rfl) (kk := ?_)
      refine z_iconst hC (pc := 34) (v := Int32.ofInt 2) dX14_readBytes_34 (by decide) ?_
      refine y_iadd hC (pc := 35) (v := ((rF σ 0 29) + 2)) dX14_readBytes_35 rfl ?_
      obtain ⟨r94, h⟩ := h
      refine y_putI hC (pc := 36) zf14 rOb_0 29 (x := ((rF σ 0 29) + 2)) dX14_readBytes_36 zw2496 (Or.inl rfl) rfl rfl (kk := ?_)
      have W95 := hwf.sF (q := 0) (f := 29) (x := ((rF σ 0 29) + 2)) r94
      refine z_aload_n hC (pc := 39) 0 dX14_readBytes_39 rfl rfl ?_
      obtain ⟨p96, h⟩ := h
      refine y_callVi hC (pc := 40) (As := []) (kX14_here l G κ (sF σ 0 29 ((rF σ 0 29) + 2))  W95  p96) dmX14_here zf14 rOb_0 dX14_readBytes_40 zw3099 rfl rfl (Nat.le_of_ble_eq_true rfl) (Nat.le_of_ble_eq_true rfl) (Nat.le_of_ble_eq_true rfl) (Nat.le_of_ble_eq_true rfl) (Nat.le_of_ble_eq_true rfl) (kk := fun x98 s97 hx98 Ws97 qs97 => ?_)
      obtain ⟨es97, qs97⟩ := qs97
      have es97 := es97.symm
      subst es97
      have h := h x98 hx98 qs97
      refine z_aload_n hC (pc := 43) 0 dX14_readBytes_43 rfl rfl ?_
      refine y_get hC (pc := 44) zf14 rOb_0 19 (v := iv (rF σ 0 19)) dX14_readBytes_44 zw2486 (rv_i (Or.inl rfl) ((F_sF_ne (by decide)).trans rfl)) (kk := ?_)
      have h := h (hwf.f _ _)
      obtain ⟨hT, hF⟩ := h
      refine y_icmp_eq hC (pc := 47) 60 hx98 (hwf.f _ _) dX14_readBytes_47 (by decide) (fun c => ?_) (fun c => ?_)
      · have h := hT c
        refine z_aload_n hC (pc := 60) 0 dX14_readBytes_60 rfl rfl ?_
        refine z_dup hC (pc := 61) dX14_readBytes_61 rfl ?_
        refine y_get hC (pc := 62) zf14 rOb_0 29 (v := iv ((rF σ 0 29) + 2)) dX14_readBytes_62 zw2496 (rv_i (Or.inl rfl) (F_sF _ _ _ _)) (kk := ?_)
        refine z_iconst hC (pc := 65) (v := Int32.ofInt 1) dX14_readBytes_65 (by decide) ?_
        refine y_iadd hC (pc := 66) (v := (((rF σ 0 29) + 2) + 1)) dX14_readBytes_66 rfl ?_
        obtain ⟨r99, h⟩ := h
        refine y_putI hC (pc := 67) zf14 rOb_0 29 (x := (((rF σ 0 29) + 2) + 1)) dX14_readBytes_67 zw2496 (Or.inl rfl) rfl rfl (kk := ?_)
        have W100 := W95.sF (q := 0) (f := 29) (x := (((rF σ 0 29) + 2) + 1)) r99
        have j70 : ∀ (d70 : Nat), ∀ (s101 : rS) , rWF s101 → rKeep 0x4020001c00 0 0x3c00000000 0 0 σ s101 → inv_X14_readBytes_70 σ x1 s101 → (mu_X14_readBytes_70 σ x1 s101 ) ≤ d70 → zS X G 3 (rW G κ s101) [(0, .ref (κ 0)), (1, iv x1)] 0 0 70 [] := by
          intro d70
          induction d70 with
          | zero =>
            intro s101 Ws101 kJ hI hmu
            exact absurd hmu (by have := h_70m  s101  Ws101  (TPRp.keep kJ rfl rfl rfl) (kJ.F rfl) (kJ.F rfl) (fun i => kJ.A (f := 26) (by decide) rfl) hI; omega)
          | succ d70 ih70 =>
            intro s101 Ws101 kJ hI hmu70
            have h := h_70  s101  Ws101  (TPRp.keep kJ rfl rfl rfl) (kJ.F rfl) (kJ.F rfl) (fun i => kJ.A (f := 26) (by decide) rfl) hI
            refine z_aload_n hC (pc := 70) 0 dX14_readBytes_70 rfl rfl ?_
            obtain ⟨p102, h⟩ := h
            refine y_callVi hC (pc := 71) (As := []) (kX14_here l G κ s101  Ws101  p102) dmX14_here zf14 rOb_0 dX14_readBytes_71 zw3099 rfl rfl (Nat.le_of_ble_eq_true rfl) (Nat.le_of_ble_eq_true rfl) (Nat.le_of_ble_eq_true rfl) (Nat.le_of_ble_eq_true rfl) (Nat.le_of_ble_eq_true rfl) (kk := fun x104 s103 hx104 Ws103 qs103 => ?_)
            obtain ⟨es103, qs103⟩ := qs103
            have es103 := es103.symm
            subst es103
            have h := h x104 hx104 qs103
            refine z_bipush hC (pc := 74) (v := Int32.ofInt 32) dX14_readBytes_74 (by decide) ?_
            obtain ⟨hT, hF⟩ := h
            refine y_icmp_eq hC (pc := 76) 88 hx104 (r_lit rfl) dX14_readBytes_76 (by decide) (fun c => ?_) (fun c => ?_)
            · have h := hT c
              refine z_aload_n hC (pc := 88) 0 dX14_readBytes_88 rfl rfl ?_
              refine z_dup hC (pc := 89) dX14_readBytes_89 rfl ?_
              refine y_get hC (pc := 90) zf14 rOb_0 29 (v := iv (rF s101 0 29)) dX14_readBytes_90 zw2496 (rv_i (Or.inl rfl) rfl) (kk := ?_)
              have h := h (Ws101.f _ _)
              refine z_iconst hC (pc := 93) (v := Int32.ofInt 1) dX14_readBytes_93 (by decide) ?_
              refine y_iadd hC (pc := 94) (v := ((rF s101 0 29) + 1)) dX14_readBytes_94 rfl ?_
              obtain ⟨r105, h⟩ := h
              refine y_putI hC (pc := 95) zf14 rOb_0 29 (x := ((rF s101 0 29) + 1)) dX14_readBytes_95 zw2496 (Or.inl rfl) rfl rfl (kk := ?_)
              have W106 := Ws101.sF (q := 0) (f := 29) (x := ((rF s101 0 29) + 1)) r105
              refine z_goto hC (pc := 98) 70 dX14_readBytes_98 (by decide) ?_
              obtain ⟨hI, hm⟩ := h
              exact ih70 (sF s101 0 29 ((rF s101 0 29) + 1))  W106  (rKeep.tr (rKeep.tr rKeep.rf kJ rfl rfl rfl rfl rfl) (rKeep.sF0 (f := 29)) rfl rfl rfl rfl rfl) hI (by omega)
            · have h := hF c
              refine z_aload_n hC (pc := 79) 0 dX14_readBytes_79 rfl rfl ?_
              obtain ⟨p107, h⟩ := h
              refine y_callVi hC (pc := 80) (As := []) (kX14_here l G κ s101  Ws101  p107) dmX14_here zf14 rOb_0 dX14_readBytes_80 zw3099 rfl rfl (Nat.le_of_ble_eq_true rfl) (Nat.le_of_ble_eq_true rfl) (Nat.le_of_ble_eq_true rfl) (Nat.le_of_ble_eq_true rfl) (Nat.le_of_ble_eq_true rfl) (kk := fun x109 s108 hx109 Ws108 qs108 => ?_)
              obtain ⟨es108, qs108⟩ := qs108
              have es108 := es108.symm
              subst es108
              have h := h x109 hx109 qs108
              refine z_bipush hC (pc := 83) (v := Int32.ofInt 9) dX14_readBytes_83 (by decide) ?_
              obtain ⟨hT, hF⟩ := h
              refine y_icmp_ne hC (pc := 85) 101 hx109 (r_lit rfl) dX14_readBytes_85 (by decide) (fun c => ?_) (fun c => ?_)
              · have h := hT c
                refine z_aload_n hC (pc := 101) 0 dX14_readBytes_101 rfl rfl ?_
                obtain ⟨p110, h⟩ := h
                refine y_callVi hC (pc := 102) (As := []) (kX14_here l G κ s101  Ws101  p110) dmX14_here zf14 rOb_0 dX14_readBytes_102 zw3099 rfl rfl (Nat.le_of_ble_eq_true rfl) (Nat.le_of_ble_eq_true rfl) (Nat.le_of_ble_eq_true rfl) (Nat.le_of_ble_eq_true rfl) (Nat.le_of_ble_eq_true rfl) (kk := fun x112 s111 hx112 Ws111 qs111 => ?_)
                obtain ⟨es111, qs111⟩ := qs111
                have es111 := es111.symm
                subst es111
                have h := h x112 hx112 qs111
                refine z_bipush hC (pc := 105) (v := Int32.ofInt 10) dX14_readBytes_105 (by decide) ?_
                obtain ⟨hT, hF⟩ := h
                refine y_icmp_eq hC (pc := 107) 120 hx112 (r_lit rfl) dX14_readBytes_107 (by decide) (fun c => ?_) (fun c => ?_)
                · have h := hT c
                  refine z_aload_n hC (pc := 120) 0 dX14_readBytes_120 rfl rfl ?_
                  refine z_dup hC (pc := 121) dX14_readBytes_121 rfl ?_
                  refine y_get hC (pc := 122) zf14 rOb_0 29 (v := iv (rF s101 0 29)) dX14_readBytes_122 zw2496 (rv_i (Or.inl rfl) rfl) (kk := ?_)
                  have h := h (Ws101.f _ _)
                  refine z_iconst hC (pc := 125) (v := Int32.ofInt 1) dX14_readBytes_125 (by decide) ?_
                  refine y_iadd hC (pc := 126) (v := ((rF s101 0 29) + 1)) dX14_readBytes_126 rfl ?_
                  obtain ⟨r113, h⟩ := h
                  refine y_putI hC (pc := 127) zf14 rOb_0 29 (x := ((rF s101 0 29) + 1)) dX14_readBytes_127 zw2496 (Or.inl rfl) rfl rfl (kk := ?_)
                  have W114 := Ws101.sF (q := 0) (f := 29) (x := ((rF s101 0 29) + 1)) r113
                  have j130 : ∀ (d130 : Nat), ∀ (s115 : rS) , rWF s115 → rKeep 0x4020001c00 0 0x3c00000000 0 0 σ s115 → inv_X14_readBytes_130 σ x1 s115 → (mu_X14_readBytes_130 σ x1 s115 ) ≤ d130 → zS X G 3 (rW G κ s115) [(0, .ref (κ 0)), (1, iv x1)] 0 0 130 [] := by
                    intro d130
                    induction d130 with
                    | zero =>
                      intro s115 Ws115 kJ hI hmu
                      exact absurd hmu (by have := h_130m  s115  Ws115  (TPRp.keep kJ rfl rfl rfl) (kJ.F rfl) (kJ.F rfl) (fun i => kJ.A (f := 26) (by decide) rfl) hI; omega)
                    | succ d130 ih130 =>
                      intro s115 Ws115 kJ hI hmu130
                      have h := h_130  s115  Ws115  (TPRp.keep kJ rfl rfl rfl) (kJ.F rfl) (kJ.F rfl) (fun i => kJ.A (f := 26) (by decide) rfl) hI
                      refine z_aload_n hC (pc := 130) 0 dX14_readBytes_130 rfl rfl ?_
                      obtain ⟨p116, h⟩ := h
                      refine y_callVi hC (pc := 131) (As := []) (kX14_here l G κ s115  Ws115  p116) dmX14_here zf14 rOb_0 dX14_readBytes_131 zw3099 rfl rfl (Nat.le_of_ble_eq_true rfl) (Nat.le_of_ble_eq_true rfl) (Nat.le_of_ble_eq_true rfl) (Nat.le_of_ble_eq_true rfl) (Nat.le_of_ble_eq_true rfl) (kk := fun x118 s117 hx118 Ws117 qs117 => ?_)
                      obtain ⟨es117, qs117⟩ := qs117
                      have es117 := es117.symm
                      subst es117
                      have h := h x118 hx118 qs117
                      refine z_bipush hC (pc := 134) (v := Int32.ofInt 32) dX14_readBytes_134 (by decide) ?_
                      obtain ⟨hT, hF⟩ := h
                      refine y_icmp_eq hC (pc := 136) 148 hx118 (r_lit rfl) dX14_readBytes_136 (by decide) (fun c => ?_) (fun c => ?_)
                      · have h := hT c
                        refine z_aload_n hC (pc := 148) 0 dX14_readBytes_148 rfl rfl ?_
                        refine z_dup hC (pc := 149) dX14_readBytes_149 rfl ?_
                        refine y_get hC (pc := 150) zf14 rOb_0 29 (v := iv (rF s115 0 29)) dX14_readBytes_150 zw2496 (rv_i (Or.inl rfl) rfl) (kk := ?_)
                        have h := h (Ws115.f _ _)
                        refine z_iconst hC (pc := 153) (v := Int32.ofInt 1) dX14_readBytes_153 (by decide) ?_
                        refine y_iadd hC (pc := 154) (v := ((rF s115 0 29) + 1)) dX14_readBytes_154 rfl ?_
                        obtain ⟨r119, h⟩ := h
                        refine y_putI hC (pc := 155) zf14 rOb_0 29 (x := ((rF s115 0 29) + 1)) dX14_readBytes_155 zw2496 (Or.inl rfl) rfl rfl (kk := ?_)
                        have W120 := Ws115.sF (q := 0) (f := 29) (x := ((rF s115 0 29) + 1)) r119
                        refine z_goto hC (pc := 158) 130 dX14_readBytes_158 (by decide) ?_
                        obtain ⟨hI, hm⟩ := h
                        exact ih130 (sF s115 0 29 ((rF s115 0 29) + 1))  W120  (rKeep.tr (rKeep.tr rKeep.rf kJ rfl rfl rfl rfl rfl) (rKeep.sF0 (f := 29)) rfl rfl rfl rfl rfl) hI (by omega)
                      · have h := hF c
                        refine z_aload_n hC (pc := 139) 0 dX14_readBytes_139 rfl rfl ?_
                        obtain ⟨p121, h⟩ := h
                        refine y_callVi hC (pc := 140) (As := []) (kX14_here l G κ s115  Ws115  p121) dmX14_here zf14 rOb_0 dX14_readBytes_140 zw3099 rfl rfl (Nat.le_of_ble_eq_true rfl) (Nat.le_of_ble_eq_true rfl) (Nat.le_of_ble_eq_true rfl) (Nat.le_of_ble_eq_true rfl) (Nat.le_of_ble_eq_true rfl) (kk := fun x123 s122 hx123 Ws122 qs122 => ?_)
                        obtain ⟨es122, qs122⟩ := qs122
                        have es122 := es122.symm
                        subst es122
                        have h := h x123 hx123 qs122
                        refine z_bipush hC (pc := 143) (v := Int32.ofInt 9) dX14_readBytes_143 (by decide) ?_
                        obtain ⟨hT, hF⟩ := h
                        refine y_icmp_ne hC (pc := 145) 161 hx123 (r_lit rfl) dX14_readBytes_145 (by decide) (fun c => ?_) (fun c => ?_)
                        · have h := hT c
                          refine z_aload_n hC (pc := 161) 0 dX14_readBytes_161 rfl rfl ?_
                          refine z_bipush hC (pc := 162) (v := Int32.ofInt 20) dX14_readBytes_162 (by decide) ?_
                          refine z_iconst hC (pc := 164) (v := Int32.ofInt 0) dX14_readBytes_164 (by decide) ?_
                          refine z_iload_n hC (pc := 165) 1 dX14_readBytes_165 rfl rfl ?_
                          obtain ⟨p124, h⟩ := h
                          refine y_callVv hC (pc := 166) (As := [iv 20, iv 0, iv x1]) (kX14_note l G κ s115 20 0 x1 Ws115 (r_lit rfl) (r_lit rfl) hx1 p124) dmX14_note zf14 rOb_0 dX14_readBytes_166 zw3111 rfl rfl (Nat.le_of_ble_eq_true rfl) (Nat.le_of_ble_eq_true rfl) (Nat.le_of_ble_eq_true rfl) (Nat.le_of_ble_eq_true rfl) (Nat.le_of_ble_eq_true rfl) (kk := fun s125 Ws125 qs125 => ?_)
                          have h := h s125 Ws125 (TPRp.keep qs125.1 rfl rfl rfl) (qs125.1.F rfl) (qs125.1.F rfl) (qs125.1.F rfl) (qs125.1.F rfl) (fun i => qs125.1.A (f := 26) (by decide) rfl) qs125.2
                          exact y_retv hR dX14_readBytes_169 Ws125 (Nat.le_of_ble_eq_true rfl) (Nat.le_of_ble_eq_true rfl) ⟨(rKeep.tr (rKeep.tr rKeep.rf kJ rfl rfl rfl rfl rfl) qs125.1 rfl rfl rfl rfl rfl), h⟩
                        · have h := hF c
                          refine z_aload_n hC (pc := 148) 0 dX14_readBytes_148 rfl rfl ?_
                          refine z_dup hC (pc := 149) dX14_readBytes_149 rfl ?_
                          refine y_get hC (pc := 150) zf14 rOb_0 29 (v := iv (rF s115 0 29)) dX14_readBytes_150 zw2496 (rv_i (Or.inl rfl) rfl) (kk := ?_)
                          have h := h (Ws115.f _ _)
                          refine z_iconst hC (pc := 153) (v := Int32.ofInt 1) dX14_readBytes_153 (by decide) ?_
                          refine y_iadd hC (pc := 154) (v := ((rF s115 0 29) + 1)) dX14_readBytes_154 rfl ?_
                          obtain ⟨r127, h⟩ := h
                          refine y_putI hC (pc := 155) zf14 rOb_0 29 (x := ((rF s115 0 29) + 1)) dX14_readBytes_155 zw2496 (Or.inl rfl) rfl rfl (kk := ?_)
                          have W128 := Ws115.sF (q := 0) (f := 29) (x := ((rF s115 0 29) + 1)) r127
                          refine z_goto hC (pc := 158) 130 dX14_readBytes_158 (by decide) ?_
                          obtain ⟨hI, hm⟩ := h
                          exact ih130 (sF s115 0 29 ((rF s115 0 29) + 1))  W128  (rKeep.tr (rKeep.tr rKeep.rf kJ rfl rfl rfl rfl rfl) (rKeep.sF0 (f := 29)) rfl rfl rfl rfl rfl) hI (by omega)
                  exact j130 _ (sF s101 0 29 ((rF s101 0 29) + 1))  W114  (rKeep.tr (rKeep.tr rKeep.rf kJ rfl rfl rfl rfl rfl) (rKeep.sF0 (f := 29)) rfl rfl rfl rfl rfl) h (Nat.le_refl _)
                · have h := hF c
                  refine z_aload_n hC (pc := 110) 0 dX14_readBytes_110 rfl rfl ?_
                  refine z_iconst hC (pc := 111) (v := Int32.ofInt 1) dX14_readBytes_111 (by decide) ?_
                  refine z_aload_n hC (pc := 112) 0 dX14_readBytes_112 rfl rfl ?_
                  obtain ⟨p129, h⟩ := h
                  refine y_callVi hC (pc := 113) (As := []) (kX14_place l G κ s101  Ws101  p129) dmX14_place zf14 rOb_0 dX14_readBytes_113 zw3103 rfl rfl (Nat.le_of_ble_eq_true rfl) (Nat.le_of_ble_eq_true rfl) (Nat.le_of_ble_eq_true rfl) (Nat.le_of_ble_eq_true rfl) (Nat.le_of_ble_eq_true rfl) (kk := fun x131 s130 hx131 Ws130 qs130 => ?_)
                  obtain ⟨es130, qs130⟩ := qs130
                  have es130 := es130.symm
                  subst es130
                  have h := h x131 hx131 qs130
                  obtain ⟨p132, h⟩ := h
                  refine y_callVv hC (pc := 116) (As := [iv 1, iv x131]) (kX14_bad l G κ s101 1 x131 Ws101 (r_lit rfl) hx131 p132) dmX14_bad zf14 rOb_0 dX14_readBytes_116 zw3000 rfl rfl (Nat.le_of_ble_eq_true rfl) (Nat.le_of_ble_eq_true rfl) (Nat.le_of_ble_eq_true rfl) (Nat.le_of_ble_eq_true rfl) (Nat.le_of_ble_eq_true rfl) (kk := fun s133 Ws133 qs133 => ?_)
                  have h := h s133 Ws133 (TPRp.keep qs133.1 rfl rfl rfl) (WNp.keep qs133.1 rfl rfl rfl rfl) (qs133.1.F rfl) (qs133.1.F rfl) (qs133.1.F rfl) (qs133.1.F rfl) (fun i => qs133.1.A (f := 26) (by decide) rfl) qs133.2
                  exact y_retv hR dX14_readBytes_119 Ws133 (Nat.le_of_ble_eq_true rfl) (Nat.le_of_ble_eq_true rfl) ⟨(rKeep.tr (rKeep.tr rKeep.rf kJ rfl rfl rfl rfl rfl) qs133.1 rfl rfl rfl rfl rfl), h⟩
              · have h := hF c
                refine z_aload_n hC (pc := 88) 0 dX14_readBytes_88 rfl rfl ?_
                refine z_dup hC (pc := 89) dX14_readBytes_89 rfl ?_
                refine y_get hC (pc := 90) zf14 rOb_0 29 (v := iv (rF s101 0 29)) dX14_readBytes_90 zw2496 (rv_i (Or.inl rfl) rfl) (kk := ?_)
                have h := h (Ws101.f _ _)
                refine z_iconst hC (pc := 93) (v := Int32.ofInt 1) dX14_readBytes_93 (by decide) ?_
                refine y_iadd hC (pc := 94) (v := ((rF s101 0 29) + 1)) dX14_readBytes_94 rfl ?_
                obtain ⟨r135, h⟩ := h
                refine y_putI hC (pc := 95) zf14 rOb_0 29 (x := ((rF s101 0 29) + 1)) dX14_readBytes_95 zw2496 (Or.inl rfl) rfl rfl (kk := ?_)
                have W136 := Ws101.sF (q := 0) (f := 29) (x := ((rF s101 0 29) + 1)) r135
                refine z_goto hC (pc := 98) 70 dX14_readBytes_98 (by decide) ?_
                obtain ⟨hI, hm⟩ := h
                exact ih70 (sF s101 0 29 ((rF s101 0 29) + 1))  W136  (rKeep.tr (rKeep.tr rKeep.rf kJ rfl rfl rfl rfl rfl) (rKeep.sF0 (f := 29)) rfl rfl rfl rfl rfl) hI (by omega)
        exact j70 _ (sF (sF σ 0 29 ((rF σ 0 29) + 2)) 0 29 (((rF σ 0 29) + 2) + 1))  W100  (rKeep.tr (rKeep.tr rKeep.rf (rKeep.sF0 (f := 29)) rfl rfl rfl rfl rfl) (rKeep.sF0 (f := 29)) rfl rfl rfl rfl rfl) h (Nat.le_refl _)
      · have h := hF c
        refine z_aload_n hC (pc := 50) 0 dX14_readBytes_50 rfl rfl ?_
        refine z_iconst hC (pc := 51) (v := Int32.ofInt 1) dX14_readBytes_51 (by decide) ?_
        refine z_aload_n hC (pc := 52) 0 dX14_readBytes_52 rfl rfl ?_
        obtain ⟨p137, h⟩ := h
        refine y_callVi hC (pc := 53) (As := []) (kX14_place l G κ (sF σ 0 29 ((rF σ 0 29) + 2))  W95  p137) dmX14_place zf14 rOb_0 dX14_readBytes_53 zw3103 rfl rfl (Nat.le_of_ble_eq_true rfl) (Nat.le_of_ble_eq_true rfl) (Nat.le_of_ble_eq_true rfl) (Nat.le_of_ble_eq_true rfl) (Nat.le_of_ble_eq_true rfl) (kk := fun x139 s138 hx139 Ws138 qs138 => ?_)
        obtain ⟨es138, qs138⟩ := qs138
        have es138 := es138.symm
        subst es138
        have h := h x139 hx139 qs138
        obtain ⟨p140, h⟩ := h
        refine y_callVv hC (pc := 56) (As := [iv 1, iv x139]) (kX14_bad l G κ (sF σ 0 29 ((rF σ 0 29) + 2)) 1 x139 W95 (r_lit rfl) hx139 p140) dmX14_bad zf14 rOb_0 dX14_readBytes_56 zw3000 rfl rfl (Nat.le_of_ble_eq_true rfl) (Nat.le_of_ble_eq_true rfl) (Nat.le_of_ble_eq_true rfl) (Nat.le_of_ble_eq_true rfl) (Nat.le_of_ble_eq_true rfl) (kk := fun s141 Ws141 qs141 => ?_)
        have h := h s141 Ws141 (TPRp.keep qs141.1 rfl rfl rfl) (WNp.keep qs141.1 rfl rfl rfl rfl) (qs141.1.F rfl) (qs141.1.F rfl) (qs141.1.F rfl) (qs141.1.F rfl) (fun i => qs141.1.A (f := 26) (by decide) rfl) qs141.2
        exact y_retv hR dX14_readBytes_59 Ws141 (Nat.le_of_ble_eq_true rfl) (Nat.le_of_ble_eq_true rfl) ⟨(rKeep.tr (rKeep.tr rKeep.rf (rKeep.sF0 (f := 29)) rfl rfl rfl rfl rfl) qs141.1 rfl rfl rfl rfl rfl), h⟩
theorem kX14_readBytes (l : Launch) (G : zG) (κ : Nat → Nat) (σ : rS) (x1 : Int) (hwf : rWF σ) (hx1 : rng x1) (hp : pre_X14_readBytes σ x1) : rMv l G κ yX14_readBytes cX14_readBytes 3 2 23 [.ref (κ 0), iv x1] σ (fun s => rKeep 0x4020001c00 0 0x3c00000000 0 0 σ s ∧ post_X14_readBytes σ x1 s) := wX14_readBytes l G κ σ x1 hwf hx1 (post_X14_readBytes σ x1) (vX14_readBytes σ x1 hwf hx1 hp) (vX14_readBytes_170 σ x1 hwf hx1 hp) (vX14_readBytes_170m σ x1 hwf hx1 hp) (vX14_readBytes_130 σ x1 hwf hx1 hp) (vX14_readBytes_130m σ x1 hwf hx1 hp) (vX14_readBytes_70 σ x1 hwf hx1 hp) (vX14_readBytes_70m σ x1 hwf hx1 hp)
