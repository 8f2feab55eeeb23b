theorem zw3051 : Cond.methodLink "TemplateHouseModel" 437 ⟨"TemplateHouseModel", "fileName", "()I"⟩ ∈ zT := zsub13 171 (by decide +kernel) (by decide +kernel)
theorem zw2346 : Cond.fieldLinkNest "TemplateHouseModel" 453 "TemplateHouseModel$Group" "defParams" "[I" "TemplateHouseModel" ∈ zNest := zsubN10 186 (by decide +kernel) (by decide +kernel)
theorem zw3323 : Cond.methodLink "TemplateHouseModel" 507 ⟨"TemplateHouseModel", "isNext", "(I)Z"⟩ ∈ zT := zsub14 203 (by decide +kernel) (by decide +kernel)
theorem zw2348 : Cond.fieldLinkNest "TemplateHouseModel" 450 "TemplateHouseModel$Group" "defMany" "[I" "TemplateHouseModel" ∈ zNest := zsubN10 188 (by decide +kernel) (by decide +kernel)
theorem zw3328 : Cond.methodLink "TemplateHouseModel" 512 ⟨"TemplateHouseModel", "readValue", "(Z)I"⟩ ∈ zT := zsub14 208 (by decide +kernel) (by decide +kernel)
theorem zw2487 : Cond.fieldLink "TemplateHouseModel" 32 "TemplateHouseModel" "onWay" "[Z" ∈ zT := zsub11 87 (by decide +kernel) (by decide +kernel)
theorem zw2473 : Cond.fieldLink "TemplateHouseModel" 21 "TemplateHouseModel" "fileSize" "[I" ∈ zT := zsub11 73 (by decide +kernel) (by decide +kernel)
theorem zw2360 : Cond.fieldLinkNest "TemplateHouseModel" 415 "TemplateHouseModel$Group" "importMany" "[I" "TemplateHouseModel" ∈ zNest := zsubN10 200 (by decide +kernel) (by decide +kernel)
theorem zw2358 : Cond.fieldLinkNest "TemplateHouseModel" 418 "TemplateHouseModel$Group" "imports" "[I" "TemplateHouseModel" ∈ zNest := zsubN10 198 (by decide +kernel) (by decide +kernel)
theorem zw3322 : Cond.code ⟨"TemplateHouseModel", "readParams", "(I)V"⟩ prog_15_method_27_code 9 (Option.none : Option Jvm.ClassFile.FieldType) ∈ zT := zsub14 202 rfl rfl
theorem zw3321 : Cond.instanceMethod ⟨"TemplateHouseModel", "readParams", "(I)V"⟩ ∈ zT := zsub14 201 (by decide +kernel) (by decide +kernel)
theorem zwp266 : Cond.selects "TemplateHouseModel" ⟨"TemplateHouseModel", "readParams", "(I)V"⟩ ⟨"TemplateHouseModel", "readParams", "(I)V"⟩ ∈ zT := zin 266 (by decide +kernel) (by decide +kernel)
theorem zw3042 : Cond.code ⟨"TemplateHouseModel", "readImport", "()V"⟩ prog_15_method_22_code 5 (Option.none : Option Jvm.ClassFile.FieldType) ∈ zT := zsub13 162 rfl rfl
theorem zw3041 : Cond.instanceMethod ⟨"TemplateHouseModel", "readImport", "()V"⟩ ∈ zT := zsub13 161 (by decide +kernel) (by decide +kernel)
theorem zwp261 : Cond.selects "TemplateHouseModel" ⟨"TemplateHouseModel", "readImport", "()V"⟩ ⟨"TemplateHouseModel", "readImport", "()V"⟩ ∈ zT := zin 261 (by decide +kernel) (by decide +kernel)
abbrev cX14_readParams : ByteArray := prog_15_method_27_code
abbrev yX14_readParams : MethodName := ⟨"TemplateHouseModel", "readParams", "(I)V"⟩
theorem dmX14_readParams : zDv yX14_readParams cX14_readParams 9 none 1 := ⟨⟨⟨by decide +kernel, by decide +kernel, by decide +kernel⟩, zw3322, zw14⟩, zw3321, zwp266⟩
abbrev cX14_readImport : ByteArray := prog_15_method_22_code
abbrev yX14_readImport : MethodName := ⟨"TemplateHouseModel", "readImport", "()V"⟩
theorem dmX14_readImport : zDv yX14_readImport cX14_readImport 5 none 0 := ⟨⟨⟨by decide +kernel, by decide +kernel, by decide +kernel⟩, zw3042, zw14⟩, zw3041, zwp261⟩
theorem dX14_readParams_0 : decode cX14_readParams 0 = .ok (.aload_n 0, 1) := by decide +kernel
theorem dX14_readParams_1 : decode cX14_readParams 1 = .ok (.invokevirtual 308, 3) := by decide +kernel
theorem dX14_readParams_4 : decode cX14_readParams 4 = .ok (.aload_n 0, 1) := by decide +kernel
theorem dX14_readParams_5 : decode cX14_readParams 5 = .ok (.aload_n 0, 1) := by decide +kernel
theorem dX14_readParams_6 : decode cX14_readParams 6 = .ok (.getfield 274, 3) := by decide +kernel
theorem dX14_readParams_9 : decode cX14_readParams 9 = .ok (.invokevirtual 266, 3) := by decide +kernel
theorem dX14_readParams_12 : decode cX14_readParams 12 = .ok (.bipush 41, 2) := by decide +kernel
theorem dX14_readParams_14 : decode cX14_readParams 14 = .ok (.if_icmp .ne 14, 3) := by decide +kernel
theorem dX14_readParams_28 : decode cX14_readParams 28 = .ok (.iconst 0, 1) := by decide +kernel
theorem dX14_readParams_29 : decode cX14_readParams 29 = .ok (.istore_n 2, 1) := by decide +kernel
theorem dX14_readParams_30 : decode cX14_readParams 30 = .ok (.iconst 0, 1) := by decide +kernel
theorem dX14_readParams_31 : decode cX14_readParams 31 = .ok (.istore_n 3, 1) := by decide +kernel
theorem dX14_readParams_32 : decode cX14_readParams 32 = .ok (.iconst 1, 1) := by decide +kernel
theorem dX14_readParams_33 : decode cX14_readParams 33 = .ok (.istore 4, 2) := by decide +kernel
theorem dX14_readParams_35 : decode cX14_readParams 35 = .ok (.iload 4, 2) := by decide +kernel
theorem dX14_readParams_37 : decode cX14_readParams 37 = .ok (.ifCond .eq 265, 3) := by decide +kernel
theorem dX14_readParams_302 : decode cX14_readParams 302 = .ok (.aload_n 0, 1) := by decide +kernel
theorem dX14_readParams_303 : decode cX14_readParams 303 = .ok (.ldc_w 505, 3) := by decide +kernel
theorem dX14_readParams_306 : decode cX14_readParams 306 = .ok (.invokevirtual 405, 3) := by decide +kernel
theorem dX14_readParams_309 : decode cX14_readParams 309 = .ok (.return_, 1) := by decide +kernel
theorem dX14_readParams_40 : decode cX14_readParams 40 = .ok (.aload_n 0, 1) := by decide +kernel
theorem dX14_readParams_41 : decode cX14_readParams 41 = .ok (.getfield 248, 3) := by decide +kernel
theorem dX14_readParams_44 : decode cX14_readParams 44 = .ok (.ifCond .ne 258, 3) := by decide +kernel
theorem dX14_readParams_47 : decode cX14_readParams 47 = .ok (.aload_n 0, 1) := by decide +kernel
theorem dX14_readParams_48 : decode cX14_readParams 48 = .ok (.invokevirtual 437, 3) := by decide +kernel
theorem dX14_readParams_51 : decode cX14_readParams 51 = .ok (.istore 5, 2) := by decide +kernel
theorem dX14_readParams_53 : decode cX14_readParams 53 = .ok (.aload_n 0, 1) := by decide +kernel
theorem dX14_readParams_54 : decode cX14_readParams 54 = .ok (.getfield 327, 3) := by decide +kernel
theorem dX14_readParams_57 : decode cX14_readParams 57 = .ok (.istore 6, 2) := by decide +kernel
theorem dX14_readParams_59 : decode cX14_readParams 59 = .ok (.aload_n 0, 1) := by decide +kernel
theorem dX14_readParams_60 : decode cX14_readParams 60 = .ok (.getfield 248, 3) := by decide +kernel
theorem dX14_readParams_63 : decode cX14_readParams 63 = .ok (.ifCond .eq 4, 3) := by decide +kernel
theorem dX14_readParams_67 : decode cX14_readParams 67 = .ok (.aload_n 0, 1) := by decide +kernel
theorem dX14_readParams_68 : decode cX14_readParams 68 = .ok (.getfield 334, 3) := by decide +kernel
theorem dX14_readParams_71 : decode cX14_readParams 71 = .ok (.getfield 453, 3) := by decide +kernel
theorem dX14_readParams_74 : decode cX14_readParams 74 = .ok (.iload_n 1, 1) := by decide +kernel
theorem dX14_readParams_75 : decode cX14_readParams 75 = .ok (.iaload, 1) := by decide +kernel
theorem dX14_readParams_76 : decode cX14_readParams 76 = .ok (.istore 7, 2) := by decide +kernel
theorem dX14_readParams_78 : decode cX14_readParams 78 = .ok (.iload 7, 2) := by decide +kernel
theorem dX14_readParams_80 : decode cX14_readParams 80 = .ok (.ifCond .eq 40, 3) := by decide +kernel
theorem dX14_readParams_120 : decode cX14_readParams 120 = .ok (.aload_n 0, 1) := by decide +kernel
theorem dX14_readParams_121 : decode cX14_readParams 121 = .ok (.bipush 61, 2) := by decide +kernel
theorem dX14_readParams_123 : decode cX14_readParams 123 = .ok (.invokevirtual 507, 3) := by decide +kernel
theorem dX14_readParams_126 : decode cX14_readParams 126 = .ok (.istore 7, 2) := by decide +kernel
theorem dX14_readParams_128 : decode cX14_readParams 128 = .ok (.iload_n 3, 1) := by decide +kernel
theorem dX14_readParams_129 : decode cX14_readParams 129 = .ok (.ifCond .eq 15, 3) := by decide +kernel
theorem dX14_readParams_144 : decode cX14_readParams 144 = .ok (.aload_n 0, 1) := by decide +kernel
theorem dX14_readParams_145 : decode cX14_readParams 145 = .ok (.getfield 334, 3) := by decide +kernel
theorem dX14_readParams_148 : decode cX14_readParams 148 = .ok (.getfield 450, 3) := by decide +kernel
theorem dX14_readParams_151 : decode cX14_readParams 151 = .ok (.iload_n 1, 1) := by decide +kernel
theorem dX14_readParams_152 : decode cX14_readParams 152 = .ok (.iaload, 1) := by decide +kernel
theorem dX14_readParams_153 : decode cX14_readParams 153 = .ok (.bipush 12, 2) := by decide +kernel
theorem dX14_readParams_155 : decode cX14_readParams 155 = .ok (.if_icmp .ne 10, 3) := by decide +kernel
theorem dX14_readParams_165 : decode cX14_readParams 165 = .ok (.aload_n 0, 1) := by decide +kernel
theorem dX14_readParams_166 : decode cX14_readParams 166 = .ok (.getfield 248, 3) := by decide +kernel
theorem dX14_readParams_169 : decode cX14_readParams 169 = .ok (.ifCond .eq 4, 3) := by decide +kernel
theorem dX14_readParams_173 : decode cX14_readParams 173 = .ok (.aload_n 0, 1) := by decide +kernel
theorem dX14_readParams_174 : decode cX14_readParams 174 = .ok (.bipush 52, 2) := by decide +kernel
theorem dX14_readParams_176 : decode cX14_readParams 176 = .ok (.iload 5, 2) := by decide +kernel
theorem dX14_readParams_178 : decode cX14_readParams 178 = .ok (.iconst (-1), 1) := by decide +kernel
theorem dX14_readParams_179 : decode cX14_readParams 179 = .ok (.iload 6, 2) := by decide +kernel
theorem dX14_readParams_181 : decode cX14_readParams 181 = .ok (.invokevirtual 387, 3) := by decide +kernel
theorem dX14_readParams_184 : decode cX14_readParams 184 = .ok (.istore 8, 2) := by decide +kernel
theorem dX14_readParams_186 : decode cX14_readParams 186 = .ok (.iload_n 2, 1) := by decide +kernel
theorem dX14_readParams_187 : decode cX14_readParams 187 = .ok (.ifCond .ne 17, 3) := by decide +kernel
theorem dX14_readParams_215 : decode cX14_readParams 215 = .ok (.iload 8, 2) := by decide +kernel
theorem dX14_readParams_217 : decode cX14_readParams 217 = .ok (.istore_n 2, 1) := by decide +kernel
theorem dX14_readParams_218 : decode cX14_readParams 218 = .ok (.aload_n 0, 1) := by decide +kernel
theorem dX14_readParams_219 : decode cX14_readParams 219 = .ok (.getfield 334, 3) := by decide +kernel
theorem dX14_readParams_222 : decode cX14_readParams 222 = .ok (.getfield 450, 3) := by decide +kernel
theorem dX14_readParams_225 : decode cX14_readParams 225 = .ok (.iload_n 1, 1) := by decide +kernel
theorem dX14_readParams_226 : decode cX14_readParams 226 = .ok (.dup2, 1) := by decide +kernel
theorem dX14_readParams_227 : decode cX14_readParams 227 = .ok (.iaload, 1) := by decide +kernel
theorem dX14_readParams_228 : decode cX14_readParams 228 = .ok (.iconst 1, 1) := by decide +kernel
theorem dX14_readParams_229 : decode cX14_readParams 229 = .ok (.iadd, 1) := by decide +kernel
theorem dX14_readParams_230 : decode cX14_readParams 230 = .ok (.iastore, 1) := by decide +kernel
theorem dX14_readParams_231 : decode cX14_readParams 231 = .ok (.iload 7, 2) := by decide +kernel
theorem dX14_readParams_233 : decode cX14_readParams 233 = .ok (.ifCond .eq 27, 3) := by decide +kernel
theorem dX14_readParams_260 : decode cX14_readParams 260 = .ok (.aload_n 0, 1) := by decide +kernel
theorem dX14_readParams_261 : decode cX14_readParams 261 = .ok (.invokevirtual 308, 3) := by decide +kernel
theorem dX14_readParams_264 : decode cX14_readParams 264 = .ok (.aload_n 0, 1) := by decide +kernel
theorem dX14_readParams_265 : decode cX14_readParams 265 = .ok (.aload_n 0, 1) := by decide +kernel
theorem dX14_readParams_266 : decode cX14_readParams 266 = .ok (.getfield 274, 3) := by decide +kernel
theorem dX14_readParams_269 : decode cX14_readParams 269 = .ok (.invokevirtual 266, 3) := by decide +kernel
theorem dX14_readParams_272 : decode cX14_readParams 272 = .ok (.bipush 44, 2) := by decide +kernel
theorem dX14_readParams_274 : decode cX14_readParams 274 = .ok (.if_icmp .ne 7, 3) := by decide +kernel
theorem dX14_readParams_281 : decode cX14_readParams 281 = .ok (.iconst 0, 1) := by decide +kernel
theorem dX14_readParams_282 : decode cX14_readParams 282 = .ok (.istore 4, 2) := by decide +kernel
theorem dX14_readParams_284 : decode cX14_readParams 284 = .ok (.iload 4, 2) := by decide +kernel
theorem dX14_readParams_286 : decode cX14_readParams 286 = .ok (.ifCond .eq 13, 3) := by decide +kernel
theorem dX14_readParams_299 : decode cX14_readParams 299 = .ok (.goto (-264), 3) := by decide +kernel
theorem dX14_readParams_277 : decode cX14_readParams 277 = .ok (.iconst 1, 1) := by decide +kernel
theorem dX14_readParams_278 : decode cX14_readParams 278 = .ok (.goto 4, 3) := by decide +kernel
theorem dX14_readParams_289 : decode cX14_readParams 289 = .ok (.aload_n 0, 1) := by decide +kernel
theorem dX14_readParams_290 : decode cX14_readParams 290 = .ok (.dup, 1) := by decide +kernel
theorem dX14_readParams_291 : decode cX14_readParams 291 = .ok (.getfield 274, 3) := by decide +kernel
theorem dX14_readParams_294 : decode cX14_readParams 294 = .ok (.iconst 1, 1) := by decide +kernel
theorem dX14_readParams_295 : decode cX14_readParams 295 = .ok (.iadd, 1) := by decide +kernel
theorem dX14_readParams_296 : decode cX14_readParams 296 = .ok (.putfield 274, 3) := by decide +kernel
theorem dX14_readParams_236 : decode cX14_readParams 236 = .ok (.iconst 1, 1) := by decide +kernel
theorem dX14_readParams_237 : decode cX14_readParams 237 = .ok (.istore_n 3, 1) := by decide +kernel
theorem dX14_readParams_238 : decode cX14_readParams 238 = .ok (.aload_n 0, 1) := by decide +kernel
theorem dX14_readParams_239 : decode cX14_readParams 239 = .ok (.ldc_w 510, 3) := by decide +kernel
theorem dX14_readParams_242 : decode cX14_readParams 242 = .ok (.invokevirtual 405, 3) := by decide +kernel
theorem dX14_readParams_245 : decode cX14_readParams 245 = .ok (.aload_n 0, 1) := by decide +kernel
theorem dX14_readParams_246 : decode cX14_readParams 246 = .ok (.getfield 334, 3) := by decide +kernel
theorem dX14_readParams_249 : decode cX14_readParams 249 = .ok (.getfield 356, 3) := by decide +kernel
theorem dX14_readParams_252 : decode cX14_readParams 252 = .ok (.iload 8, 2) := by decide +kernel
theorem dX14_readParams_254 : decode cX14_readParams 254 = .ok (.aload_n 0, 1) := by decide +kernel
theorem dX14_readParams_255 : decode cX14_readParams 255 = .ok (.iconst 0, 1) := by decide +kernel
theorem dX14_readParams_256 : decode cX14_readParams 256 = .ok (.invokevirtual 512, 3) := by decide +kernel
theorem dX14_readParams_259 : decode cX14_readParams 259 = .ok (.iastore, 1) := by decide +kernel
theorem dX14_readParams_204 : decode cX14_readParams 204 = .ok (.aload_n 0, 1) := by decide +kernel
theorem dX14_readParams_205 : decode cX14_readParams 205 = .ok (.getfield 334, 3) := by decide +kernel
theorem dX14_readParams_208 : decode cX14_readParams 208 = .ok (.getfield 365, 3) := by decide +kernel
theorem dX14_readParams_211 : decode cX14_readParams 211 = .ok (.iload_n 2, 1) := by decide +kernel
theorem dX14_readParams_212 : decode cX14_readParams 212 = .ok (.iload 8, 2) := by decide +kernel
theorem dX14_readParams_214 : decode cX14_readParams 214 = .ok (.iastore, 1) := by decide +kernel
theorem dX14_readParams_190 : decode cX14_readParams 190 = .ok (.aload_n 0, 1) := by decide +kernel
theorem dX14_readParams_191 : decode cX14_readParams 191 = .ok (.getfield 334, 3) := by decide +kernel
theorem dX14_readParams_194 : decode cX14_readParams 194 = .ok (.getfield 453, 3) := by decide +kernel
theorem dX14_readParams_197 : decode cX14_readParams 197 = .ok (.iload_n 1, 1) := by decide +kernel
theorem dX14_readParams_198 : decode cX14_readParams 198 = .ok (.iload 8, 2) := by decide +kernel
theorem dX14_readParams_200 : decode cX14_readParams 200 = .ok (.iastore, 1) := by decide +kernel
theorem dX14_readParams_201 : decode cX14_readParams 201 = .ok (.goto 14, 3) := by decide +kernel
theorem dX14_readParams_172 : decode cX14_readParams 172 = .ok (.return_, 1) := by decide +kernel
theorem dX14_readParams_158 : decode cX14_readParams 158 = .ok (.aload_n 0, 1) := by decide +kernel
theorem dX14_readParams_159 : decode cX14_readParams 159 = .ok (.iconst 4, 1) := by decide +kernel
theorem dX14_readParams_160 : decode cX14_readParams 160 = .ok (.iload 6, 2) := by decide +kernel
theorem dX14_readParams_162 : decode cX14_readParams 162 = .ok (.invokevirtual 280, 3) := by decide +kernel
theorem dX14_readParams_132 : decode cX14_readParams 132 = .ok (.iload 7, 2) := by decide +kernel
theorem dX14_readParams_134 : decode cX14_readParams 134 = .ok (.ifCond .ne 10, 3) := by decide +kernel
theorem dX14_readParams_137 : decode cX14_readParams 137 = .ok (.aload_n 0, 1) := by decide +kernel
theorem dX14_readParams_138 : decode cX14_readParams 138 = .ok (.iconst 3, 1) := by decide +kernel
theorem dX14_readParams_139 : decode cX14_readParams 139 = .ok (.iload 6, 2) := by decide +kernel
theorem dX14_readParams_141 : decode cX14_readParams 141 = .ok (.invokevirtual 280, 3) := by decide +kernel
theorem dX14_readParams_83 : decode cX14_readParams 83 = .ok (.aload_n 0, 1) := by decide +kernel
theorem dX14_readParams_84 : decode cX14_readParams 84 = .ok (.getfield 334, 3) := by decide +kernel
theorem dX14_readParams_87 : decode cX14_readParams 87 = .ok (.getfield 353, 3) := by decide +kernel
theorem dX14_readParams_90 : decode cX14_readParams 90 = .ok (.iload 7, 2) := by decide +kernel
theorem dX14_readParams_92 : decode cX14_readParams 92 = .ok (.iaload, 1) := by decide +kernel
theorem dX14_readParams_93 : decode cX14_readParams 93 = .ok (.iload 5, 2) := by decide +kernel
theorem dX14_readParams_95 : decode cX14_readParams 95 = .ok (.if_icmp .ne 10, 3) := by decide +kernel
theorem dX14_readParams_105 : decode cX14_readParams 105 = .ok (.aload_n 0, 1) := by decide +kernel
theorem dX14_readParams_106 : decode cX14_readParams 106 = .ok (.getfield 334, 3) := by decide +kernel
theorem dX14_readParams_109 : decode cX14_readParams 109 = .ok (.getfield 365, 3) := by decide +kernel
theorem dX14_readParams_112 : decode cX14_readParams 112 = .ok (.iload 7, 2) := by decide +kernel
theorem dX14_readParams_114 : decode cX14_readParams 114 = .ok (.iaload, 1) := by decide +kernel
theorem dX14_readParams_115 : decode cX14_readParams 115 = .ok (.istore 7, 2) := by decide +kernel
theorem dX14_readParams_117 : decode cX14_readParams 117 = .ok (.goto (-39), 3) := by decide +kernel
theorem dX14_readParams_98 : decode cX14_readParams 98 = .ok (.aload_n 0, 1) := by decide +kernel
theorem dX14_readParams_99 : decode cX14_readParams 99 = .ok (.iconst 3, 1) := by decide +kernel
theorem dX14_readParams_100 : decode cX14_readParams 100 = .ok (.iload 6, 2) := by decide +kernel
theorem dX14_readParams_102 : decode cX14_readParams 102 = .ok (.invokevirtual 280, 3) := by decide +kernel
theorem dX14_readParams_66 : decode cX14_readParams 66 = .ok (.return_, 1) := by decide +kernel
theorem dX14_readParams_17 : decode cX14_readParams 17 = .ok (.aload_n 0, 1) := by decide +kernel
theorem dX14_readParams_18 : decode cX14_readParams 18 = .ok (.dup, 1) := by decide +kernel
theorem dX14_readParams_19 : decode cX14_readParams 19 = .ok (.getfield 274, 3) := by decide +kernel
theorem dX14_readParams_22 : decode cX14_readParams 22 = .ok (.iconst 1, 1) := by decide +kernel
theorem dX14_readParams_23 : decode cX14_readParams 23 = .ok (.iadd, 1) := by decide +kernel
theorem dX14_readParams_24 : decode cX14_readParams 24 = .ok (.putfield 274, 3) := by decide +kernel
theorem dX14_readParams_27 : decode cX14_readParams 27 = .ok (.return_, 1) := by decide +kernel
theorem dX14_readImport_0 : decode cX14_readImport 0 = .ok (.aload_n 0, 1) := by decide +kernel
theorem dX14_readImport_1 : decode cX14_readImport 1 = .ok (.invokevirtual 308, 3) := by decide +kernel
theorem dX14_readImport_4 : decode cX14_readImport 4 = .ok (.aload_n 0, 1) := by decide +kernel
theorem dX14_readImport_5 : decode cX14_readImport 5 = .ok (.getfield 248, 3) := by decide +kernel
theorem dX14_readImport_8 : decode cX14_readImport 8 = .ok (.ifCond .eq 4, 3) := by decide +kernel
theorem dX14_readImport_12 : decode cX14_readImport 12 = .ok (.aload_n 0, 1) := by decide +kernel
theorem dX14_readImport_13 : decode cX14_readImport 13 = .ok (.aload_n 0, 1) := by decide +kernel
theorem dX14_readImport_14 : decode cX14_readImport 14 = .ok (.getfield 274, 3) := by decide +kernel
theorem dX14_readImport_17 : decode cX14_readImport 17 = .ok (.invokevirtual 266, 3) := by decide +kernel
theorem dX14_readImport_20 : decode cX14_readImport 20 = .ok (.istore_n 1, 1) := by decide +kernel
theorem dX14_readImport_21 : decode cX14_readImport 21 = .ok (.iload_n 1, 1) := by decide +kernel
theorem dX14_readImport_22 : decode cX14_readImport 22 = .ok (.bipush 48, 2) := by decide +kernel
theorem dX14_readImport_24 : decode cX14_readImport 24 = .ok (.if_icmp .lt 9, 3) := by decide +kernel
theorem dX14_readImport_33 : decode cX14_readImport 33 = .ok (.aload_n 0, 1) := by decide +kernel
theorem dX14_readImport_34 : decode cX14_readImport 34 = .ok (.iconst 1, 1) := by decide +kernel
theorem dX14_readImport_35 : decode cX14_readImport 35 = .ok (.aload_n 0, 1) := by decide +kernel
theorem dX14_readImport_36 : decode cX14_readImport 36 = .ok (.getfield 274, 3) := by decide +kernel
theorem dX14_readImport_39 : decode cX14_readImport 39 = .ok (.invokevirtual 280, 3) := by decide +kernel
theorem dX14_readImport_42 : decode cX14_readImport 42 = .ok (.return_, 1) := by decide +kernel
theorem dX14_readImport_27 : decode cX14_readImport 27 = .ok (.iload_n 1, 1) := by decide +kernel
theorem dX14_readImport_28 : decode cX14_readImport 28 = .ok (.bipush 55, 2) := by decide +kernel
theorem dX14_readImport_30 : decode cX14_readImport 30 = .ok (.if_icmp .le 13, 3) := by decide +kernel
theorem dX14_readImport_43 : decode cX14_readImport 43 = .ok (.iload_n 1, 1) := by decide +kernel
theorem dX14_readImport_44 : decode cX14_readImport 44 = .ok (.bipush 48, 2) := by decide +kernel
theorem dX14_readImport_46 : decode cX14_readImport 46 = .ok (.isub, 1) := by decide +kernel
theorem dX14_readImport_47 : decode cX14_readImport 47 = .ok (.istore_n 2, 1) := by decide +kernel
theorem dX14_readImport_48 : decode cX14_readImport 48 = .ok (.aload_n 0, 1) := by decide +kernel
theorem dX14_readImport_49 : decode cX14_readImport 49 = .ok (.getfield 32, 3) := by decide +kernel
theorem dX14_readImport_52 : decode cX14_readImport 52 = .ok (.iload_n 2, 1) := by decide +kernel
theorem dX14_readImport_53 : decode cX14_readImport 53 = .ok (.baload, 1) := by decide +kernel
theorem dX14_readImport_54 : decode cX14_readImport 54 = .ok (.ifCond .ne 12, 3) := by decide +kernel
theorem dX14_readImport_66 : decode cX14_readImport 66 = .ok (.aload_n 0, 1) := by decide +kernel
theorem dX14_readImport_67 : decode cX14_readImport 67 = .ok (.iconst 5, 1) := by decide +kernel
theorem dX14_readImport_68 : decode cX14_readImport 68 = .ok (.aload_n 0, 1) := by decide +kernel
theorem dX14_readImport_69 : decode cX14_readImport 69 = .ok (.getfield 274, 3) := by decide +kernel
theorem dX14_readImport_72 : decode cX14_readImport 72 = .ok (.invokevirtual 280, 3) := by decide +kernel
theorem dX14_readImport_75 : decode cX14_readImport 75 = .ok (.return_, 1) := by decide +kernel
theorem dX14_readImport_57 : decode cX14_readImport 57 = .ok (.aload_n 0, 1) := by decide +kernel
theorem dX14_readImport_58 : decode cX14_readImport 58 = .ok (.getfield 21, 3) := by decide +kernel
theorem dX14_readImport_61 : decode cX14_readImport 61 = .ok (.iload_n 2, 1) := by decide +kernel
theorem dX14_readImport_62 : decode cX14_readImport 62 = .ok (.iaload, 1) := by decide +kernel
theorem dX14_readImport_63 : decode cX14_readImport 63 = .ok (.ifCond .ne 13, 3) := by decide +kernel
theorem dX14_readImport_76 : decode cX14_readImport 76 = .ok (.iconst 0, 1) := by decide +kernel
theorem dX14_readImport_77 : decode cX14_readImport 77 = .ok (.istore_n 3, 1) := by decide +kernel
theorem dX14_readImport_78 : decode cX14_readImport 78 = .ok (.iconst 0, 1) := by decide +kernel
theorem dX14_readImport_79 : decode cX14_readImport 79 = .ok (.istore 4, 2) := by decide +kernel
theorem dX14_readImport_81 : decode cX14_readImport 81 = .ok (.iload 4, 2) := by decide +kernel
theorem dX14_readImport_83 : decode cX14_readImport 83 = .ok (.aload_n 0, 1) := by decide +kernel
theorem dX14_readImport_84 : decode cX14_readImport 84 = .ok (.getfield 334, 3) := by decide +kernel
theorem dX14_readImport_87 : decode cX14_readImport 87 = .ok (.getfield 415, 3) := by decide +kernel
theorem dX14_readImport_90 : decode cX14_readImport 90 = .ok (.aload_n 0, 1) := by decide +kernel
theorem dX14_readImport_91 : decode cX14_readImport 91 = .ok (.getfield 251, 3) := by decide +kernel
theorem dX14_readImport_94 : decode cX14_readImport 94 = .ok (.iaload, 1) := by decide +kernel
theorem dX14_readImport_95 : decode cX14_readImport 95 = .ok (.if_icmp .ge 42, 3) := by decide +kernel
theorem dX14_readImport_137 : decode cX14_readImport 137 = .ok (.iload_n 3, 1) := by decide +kernel
theorem dX14_readImport_138 : decode cX14_readImport 138 = .ok (.ifCond .ne 49, 3) := by decide +kernel
theorem dX14_readImport_187 : decode cX14_readImport 187 = .ok (.aload_n 0, 1) := by decide +kernel
theorem dX14_readImport_188 : decode cX14_readImport 188 = .ok (.dup, 1) := by decide +kernel
theorem dX14_readImport_189 : decode cX14_readImport 189 = .ok (.getfield 274, 3) := by decide +kernel
theorem dX14_readImport_192 : decode cX14_readImport 192 = .ok (.iconst 1, 1) := by decide +kernel
theorem dX14_readImport_193 : decode cX14_readImport 193 = .ok (.iadd, 1) := by decide +kernel
theorem dX14_readImport_194 : decode cX14_readImport 194 = .ok (.putfield 274, 3) := by decide +kernel
theorem dX14_readImport_197 : decode cX14_readImport 197 = .ok (.return_, 1) := by decide +kernel
theorem dX14_readImport_141 : decode cX14_readImport 141 = .ok (.aload_n 0, 1) := by decide +kernel
theorem dX14_readImport_142 : decode cX14_readImport 142 = .ok (.getfield 334, 3) := by decide +kernel
theorem dX14_readImport_145 : decode cX14_readImport 145 = .ok (.getfield 418, 3) := by decide +kernel
theorem dX14_readImport_148 : decode cX14_readImport 148 = .ok (.sipush 500, 3) := by decide +kernel
theorem dX14_readImport_151 : decode cX14_readImport 151 = .ok (.aload_n 0, 1) := by decide +kernel
theorem dX14_readImport_152 : decode cX14_readImport 152 = .ok (.getfield 251, 3) := by decide +kernel
theorem dX14_readImport_155 : decode cX14_readImport 155 = .ok (.imul, 1) := by decide +kernel
theorem dX14_readImport_156 : decode cX14_readImport 156 = .ok (.aload_n 0, 1) := by decide +kernel
theorem dX14_readImport_157 : decode cX14_readImport 157 = .ok (.getfield 334, 3) := by decide +kernel
theorem dX14_readImport_160 : decode cX14_readImport 160 = .ok (.getfield 415, 3) := by decide +kernel
theorem dX14_readImport_163 : decode cX14_readImport 163 = .ok (.aload_n 0, 1) := by decide +kernel
theorem dX14_readImport_164 : decode cX14_readImport 164 = .ok (.getfield 251, 3) := by decide +kernel
theorem dX14_readImport_167 : decode cX14_readImport 167 = .ok (.iaload, 1) := by decide +kernel
theorem dX14_readImport_168 : decode cX14_readImport 168 = .ok (.iadd, 1) := by decide +kernel
theorem dX14_readImport_169 : decode cX14_readImport 169 = .ok (.iload_n 2, 1) := by decide +kernel
theorem dX14_readImport_170 : decode cX14_readImport 170 = .ok (.iastore, 1) := by decide +kernel
theorem dX14_readImport_171 : decode cX14_readImport 171 = .ok (.aload_n 0, 1) := by decide +kernel
theorem dX14_readImport_172 : decode cX14_readImport 172 = .ok (.getfield 334, 3) := by decide +kernel
theorem dX14_readImport_175 : decode cX14_readImport 175 = .ok (.getfield 415, 3) := by decide +kernel
theorem dX14_readImport_178 : decode cX14_readImport 178 = .ok (.aload_n 0, 1) := by decide +kernel
theorem dX14_readImport_179 : decode cX14_readImport 179 = .ok (.getfield 251, 3) := by decide +kernel
theorem dX14_readImport_182 : decode cX14_readImport 182 = .ok (.dup2, 1) := by decide +kernel
theorem dX14_readImport_183 : decode cX14_readImport 183 = .ok (.iaload, 1) := by decide +kernel
theorem dX14_readImport_184 : decode cX14_readImport 184 = .ok (.iconst 1, 1) := by decide +kernel
theorem dX14_readImport_185 : decode cX14_readImport 185 = .ok (.iadd, 1) := by decide +kernel
theorem dX14_readImport_186 : decode cX14_readImport 186 = .ok (.iastore, 1) := by decide +kernel
theorem dX14_readImport_98 : decode cX14_readImport 98 = .ok (.iload_n 3, 1) := by decide +kernel
theorem dX14_readImport_99 : decode cX14_readImport 99 = .ok (.ifCond .ne 26, 3) := by decide +kernel
theorem dX14_readImport_125 : decode cX14_readImport 125 = .ok (.iconst 1, 1) := by decide +kernel
theorem dX14_readImport_126 : decode cX14_readImport 126 = .ok (.goto 4, 3) := by decide +kernel
theorem dX14_readImport_130 : decode cX14_readImport 130 = .ok (.istore_n 3, 1) := by decide +kernel
theorem dX14_readImport_131 : decode cX14_readImport 131 = .ok (.iinc 4 1, 3) := by decide +kernel
theorem dX14_readImport_134 : decode cX14_readImport 134 = .ok (.goto (-53), 3) := by decide +kernel
theorem dX14_readImport_102 : decode cX14_readImport 102 = .ok (.aload_n 0, 1) := by decide +kernel
theorem dX14_readImport_103 : decode cX14_readImport 103 = .ok (.getfield 334, 3) := by decide +kernel
theorem dX14_readImport_106 : decode cX14_readImport 106 = .ok (.getfield 418, 3) := by decide +kernel
theorem dX14_readImport_109 : decode cX14_readImport 109 = .ok (.sipush 500, 3) := by decide +kernel
theorem dX14_readImport_112 : decode cX14_readImport 112 = .ok (.aload_n 0, 1) := by decide +kernel
theorem dX14_readImport_113 : decode cX14_readImport 113 = .ok (.getfield 251, 3) := by decide +kernel
theorem dX14_readImport_116 : decode cX14_readImport 116 = .ok (.imul, 1) := by decide +kernel
theorem dX14_readImport_117 : decode cX14_readImport 117 = .ok (.iload 4, 2) := by decide +kernel
theorem dX14_readImport_119 : decode cX14_readImport 119 = .ok (.iadd, 1) := by decide +kernel
theorem dX14_readImport_120 : decode cX14_readImport 120 = .ok (.iaload, 1) := by decide +kernel
theorem dX14_readImport_121 : decode cX14_readImport 121 = .ok (.iload_n 2, 1) := by decide +kernel
theorem dX14_readImport_122 : decode cX14_readImport 122 = .ok (.if_icmp .ne 7, 3) := by decide +kernel
theorem dX14_readImport_129 : decode cX14_readImport 129 = .ok (.iconst 0, 1) := by decide +kernel
theorem dX14_readImport_11 : decode cX14_readImport 11 = .ok (.return_, 1) := by decide +kernel
def pre_X14_readImport (σ : rS)  : Prop := rgk (rR σ 7) ∧ 0 ≤ (rF σ 0 17) ∧ (0 ≤ (rF σ 0 16) ∧ (rF σ 0 16) ≤ 4000 ∧ fz σ = 0) ∧ rfk (rR σ 15) ∧ (rF σ 0 17) ≤ (rF σ 0 16) ∧ (0 ≤ (rF σ 0 14) ∧ (rF σ 0 14) ≤ 7) ∧ IPf (rA σ (1000 * ((rR σ 7) + 1) + 25)) (rA σ (1000 * ((rR σ 7) + 1) + 26)) (rA σ 1020) (rF σ 0 14)
def post_X14_readImport (σ : rS)  (σ' : rS) : Prop := (rF σ 0 17) ≤ (rF σ' 0 17) ∧ (rF σ' 0 17) ≤ (rF σ 0 16) ∧ fz σ ≤ fz σ' ∧ (rF σ 0 17) + 1 ≤ (rF σ' 0 17) + fz σ' ∧ IPf (rA σ' (1000 * ((rR σ 7) + 1) + 25)) (rA σ' (1000 * ((rR σ 7) + 1) + 26)) (rA σ' 1020) (rF σ 0 14) ∧ (∀ i, i ≠ (rF σ 0 14) → (rA σ' (1000 * ((rR σ' 7) + 1) + 26) (i)) = (rA σ (1000 * ((rR σ 7) + 1) + 26) (i))) ∧ (∀ j, (j < 500 * (rF σ 0 14) ∨ 500 * (rF σ 0 14) + 500 ≤ j) → (rA σ' (1000 * ((rR σ' 7) + 1) + 25) (j)) = (rA σ (1000 * ((rR σ 7) + 1) + 25) (j)))
def inv_X14_readImport_81 (σ : rS)   (s : rS) (it : Int) (was : Int) (i : Int) : Prop := 0 ≤ it ∧ it ≤ 7 ∧ (rA σ 1020 (it)) = 0 ∧ fz s = 0 ∧ (rF σ 0 17) ≤ (rF s 0 17) ∧ (rF s 0 17) < (rF σ 0 16) ∧ (was = 0 ∨ was = 1) ∧ 0 ≤ i ∧ i ≤ (rA σ (1000 * ((rR σ 7) + 1) + 26) ((rF σ 0 14))) ∧ NMT (rA σ (1000 * ((rR σ 7) + 1) + 25)) (500 * (rF σ 0 14)) i it was ∧ (∀ j, (rA s (1000 * ((rR σ 7) + 1) + 25) (j)) = (rA σ (1000 * ((rR σ 7) + 1) + 25) (j))) ∧ (∀ j, (rA s (1000 * ((rR σ 7) + 1) + 26) (j)) = (rA σ (1000 * ((rR σ 7) + 1) + 26) (j)))
def mu_X14_readImport_81 (σ : rS)  (s : rS) (it : Int) (was : Int) (i : Int) : Nat := (1 + ((rA σ (1000 * ((rR σ 7) + 1) + 26) ((rF σ 0 14))) - i).toNat)
def VC_X14_readImport (σ : rS) (Q : rS → Prop) : Prop := rgk (rR σ 7) ∧ pre_X14_skip σ ∧ (∀ (s1 : rS), rWF s1 → rR s1 7 = rR σ 7 → rR s1 15 = rR σ 15 → rF s1 0 14 = rF σ 0 14 → rF s1 0 16 = rF σ 0 16 → (∀ i, rA s1 1005 i = rA σ 1005 i) → (∀ i, rA s1 1020 i = rA σ 1020 i) → (∀ i, rA s1 (1000 * ((rR σ 7) + 1) + 25) i = rA σ (1000 * ((rR σ 7) + 1) + 25) i) → (∀ i, rA s1 (1000 * ((rR σ 7) + 1) + 26) i = rA σ (1000 * ((rR σ 7) + 1) + 26) i) → post_X14_skip σ s1 → (rng (rF s1 0 10) → (((rF s1 0 10) = 0 → (rng (rF s1 0 17) → pre_X14_fc s1 (rF s1 0 17) ∧ (∀ (v17 : Int), rng v17 → post_X14_fc s1 (rF s1 0 17) v17 → ((v17 < 48 → pre_X14_bad s1 1 (rF s1 0 17) ∧ (∀ (s39 : rS), rWF s39 → rR s39 7 = rR s1 7 → rR s39 15 = rR s1 15 → rF s39 0 14 = rF s1 0 14 → rF s39 0 16 = rF s1 0 16 → rF s39 0 17 = rF s1 0 17 → (∀ i, rA s39 1005 i = rA s1 1005 i) → (∀ i, rA s39 1020 i = rA s1 1020 i) → (∀ i, rA s39 (1000 * ((rR σ 7) + 1) + 25) i = rA s1 (1000 * ((rR σ 7) + 1) + 25) i) → (∀ i, rA s39 (1000 * ((rR σ 7) + 1) + 26) i = rA s1 (1000 * ((rR σ 7) + 1) + 26) i) → post_X14_bad s1 1 (rF s1 0 17) s39 → Q s39)) ∧ (¬ v17 < 48 → ((v17 ≤ 55 → (0 ≤ (v17 - 48) ∧ (v17 - 48) < 8) ∧ (rng (rA s1 1020 (v17 - 48)) → ((¬ (rA s1 1020 (v17 - 48)) = 0 → pre_X14_bad s1 5 (rF s1 0 17) ∧ (∀ (s72 : rS), rWF s72 → rR s72 7 = rR s1 7 → rR s72 15 = rR s1 15 → rF s72 0 14 = rF s1 0 14 → rF s72 0 16 = rF s1 0 16 → rF s72 0 17 = rF s1 0 17 → (∀ i, rA s72 1005 i = rA s1 1005 i) → (∀ i, rA s72 1020 i = rA s1 1020 i) → (∀ i, rA s72 (1000 * ((rR σ 7) + 1) + 25) i = rA s1 (1000 * ((rR σ 7) + 1) + 25) i) → (∀ i, rA s72 (1000 * ((rR σ 7) + 1) + 26) i = rA s1 (1000 * ((rR σ 7) + 1) + 26) i) → post_X14_bad s1 5 (rF s1 0 17) s72 → Q s72)) ∧ ((rA s1 1020 (v17 - 48)) = 0 → (0 ≤ (v17 - 48) ∧ (v17 - 48) < 8) ∧ (rng (rA s1 1005 (v17 - 48)) → ((¬ (rA s1 1005 (v17 - 48)) = 0 → rng (v17 - 48) ∧ (inv_X14_readImport_81 σ s1 (v17 - 48) 0 0)) ∧ ((rA s1 1005 (v17 - 48)) = 0 → pre_X14_bad s1 5 (rF s1 0 17) ∧ (∀ (s72 : rS), rWF s72 → rR s72 7 = rR s1 7 → rR s72 15 = rR s1 15 → rF s72 0 14 = rF s1 0 14 → rF s72 0 16 = rF s1 0 16 → rF s72 0 17 = rF s1 0 17 → (∀ i, rA s72 1005 i = rA s1 1005 i) → (∀ i, rA s72 1020 i = rA s1 1020 i) → (∀ i, rA s72 (1000 * ((rR σ 7) + 1) + 25) i = rA s1 (1000 * ((rR σ 7) + 1) + 25) i) → (∀ i, rA s72 (1000 * ((rR σ 7) + 1) + 26) i = rA s1 (1000 * ((rR σ 7) + 1) + 26) i) → post_X14_bad s1 5 (rF s1 0 17) s72 → Q s72)))))))) ∧ (¬ v17 ≤ 55 → pre_X14_bad s1 1 (rF s1 0 17) ∧ (∀ (s39 : rS), rWF s39 → rR s39 7 = rR s1 7 → rR s39 15 = rR s1 15 → rF s39 0 14 = rF s1 0 14 → rF s39 0 16 = rF s1 0 16 → rF s39 0 17 = rF s1 0 17 → (∀ i, rA s39 1005 i = rA s1 1005 i) → (∀ i, rA s39 1020 i = rA s1 1020 i) → (∀ i, rA s39 (1000 * ((rR σ 7) + 1) + 25) i = rA s1 (1000 * ((rR σ 7) + 1) + 25) i) → (∀ i, rA s39 (1000 * ((rR σ 7) + 1) + 26) i = rA s1 (1000 * ((rR σ 7) + 1) + 26) i) → post_X14_bad s1 1 (rF s1 0 17) s39 → Q s39)))))))) ∧ (¬ (rF s1 0 10) = 0 → Q s1))))
def VC_X14_readImport_81 (σ : rS) (Q : rS → Prop) : Prop := ∀ (s81 : rS) (y81_2 : Int) (y81_3 : Int) (y81_4 : Int), rWF s81 → rng y81_2 → rng y81_3 → rng y81_4 → rR s81 7 = rR σ 7 → rR s81 15 = rR σ 15 → rF s81 0 14 = rF σ 0 14 → rF s81 0 16 = rF σ 0 16 → (∀ i, rA s81 1005 i = rA σ 1005 i) → (∀ i, rA s81 1020 i = rA σ 1020 i) → inv_X14_readImport_81 σ s81 y81_2 y81_3 y81_4 → ((rng (rF s81 0 14) → (0 ≤ (rF s81 0 14) ∧ (rF s81 0 14) < 8) ∧ (rng (rA s81 (1000 * ((rR σ 7) + 1) + 26) (rF s81 0 14)) → (((rA s81 (1000 * ((rR σ 7) + 1) + 26) (rF s81 0 14)) ≤ y81_4 → ((¬ y81_3 = 0 → (rng (rF s81 0 17) → rng ((rF s81 0 17) + 1) ∧ Q (sF s81 0 17 ((rF s81 0 17) + 1)))) ∧ (y81_3 = 0 → (0 ≤ (rF s81 0 14) ∧ (rF s81 0 14) < 8) ∧ (0 ≤ ((500 * (rF s81 0 14)) + (rA s81 (1000 * ((rR σ 7) + 1) + 26) (rF s81 0 14))) ∧ ((500 * (rF s81 0 14)) + (rA s81 (1000 * ((rR σ 7) + 1) + 26) (rF s81 0 14))) < 4000) ∧ (0 ≤ (rF s81 0 14) ∧ (rF s81 0 14) < 8) ∧ (0 ≤ (rF s81 0 14) ∧ (rF s81 0 14) < 8) ∧ rng ((rA s81 (1000 * ((rR σ 7) + 1) + 26) (rF s81 0 14)) + 1) ∧ (rng (rF s81 0 17) → rng ((rF s81 0 17) + 1) ∧ Q (sF (sA (sA s81 (1000 * ((rR σ 7) + 1) + 25) ((500 * (rF s81 0 14)) + (rA s81 (1000 * ((rR σ 7) + 1) + 26) (rF s81 0 14))) y81_2) (1000 * ((rR σ 7) + 1) + 26) (rF s81 0 14) ((rA s81 (1000 * ((rR σ 7) + 1) + 26) (rF s81 0 14)) + 1)) 0 17 ((rF s81 0 17) + 1)))))) ∧ (¬ (rA s81 (1000 * ((rR σ 7) + 1) + 26) (rF s81 0 14)) ≤ y81_4 → ((¬ y81_3 = 0 → rng (y81_4 + 1) ∧ (inv_X14_readImport_81 σ s81 y81_2 1 (y81_4 + 1) ∧ (mu_X14_readImport_81 σ s81 y81_2 1 (y81_4 + 1)) < (mu_X14_readImport_81 σ s81 y81_2 y81_3 y81_4))) ∧ (y81_3 = 0 → (0 ≤ ((500 * (rF s81 0 14)) + y81_4) ∧ ((500 * (rF s81 0 14)) + y81_4) < 4000) ∧ (rng (rA s81 (1000 * ((rR σ 7) + 1) + 25) ((500 * (rF s81 0 14)) + y81_4)) → ((¬ (rA s81 (1000 * ((rR σ 7) + 1) + 25) ((500 * (rF s81 0 14)) + y81_4)) = y81_2 → rng (y81_4 + 1) ∧ (inv_X14_readImport_81 σ s81 y81_2 0 (y81_4 + 1) ∧ (mu_X14_readImport_81 σ s81 y81_2 0 (y81_4 + 1)) < (mu_X14_readImport_81 σ s81 y81_2 y81_3 y81_4))) ∧ ((rA s81 (1000 * ((rR σ 7) + 1) + 25) ((500 * (rF s81 0 14)) + y81_4)) = y81_2 → rng (y81_4 + 1) ∧ (inv_X14_readImport_81 σ s81 y81_2 1 (y81_4 + 1) ∧ (mu_X14_readImport_81 σ s81 y81_2 1 (y81_4 + 1)) < (mu_X14_readImport_81 σ s81 y81_2 y81_3 y81_4))))))))))))
def VC_X14_readImport_81m (σ : rS) : Prop := ∀ (s81 : rS) (y81_2 : Int) (y81_3 : Int) (y81_4 : Int), rWF s81 → rng y81_2 → rng y81_3 → rng y81_4 → rR s81 7 = rR σ 7 → rR s81 15 = rR σ 15 → rF s81 0 14 = rF σ 0 14 → rF s81 0 16 = rF σ 0 16 → (∀ i, rA s81 1005 i = rA σ 1005 i) → (∀ i, rA s81 1020 i = rA σ 1020 i) → inv_X14_readImport_81 σ s81 y81_2 y81_3 y81_4 → 0 < (mu_X14_readImport_81 σ s81 y81_2 y81_3 y81_4)
set_option maxRecDepth 20000 in
set_option maxHeartbeats 20000000 in
theorem vX14_readImport (σ : rS) (hwf : rWF σ) (hp : pre_X14_readImport σ ) : VC_X14_readImport σ (post_X14_readImport σ ) := by
  unfold pre_X14_readImport at hp
  obtain ⟨hp_1, hp_2, hp_3, hp_4, hp_5, hp_6, hp_7⟩ := hp
  have zr0 := fz_rng σ
  have hI := hp_7
  unfold IPf at hI
  obtain ⟨hI1, hI2, hI3, hI4⟩ := hI
  unfold VC_X14_readImport
  refine ⟨(by (all_goals (repeat' (first | with_reducible intro _ | with_reducible apply And.intro))); all_goals (first | assumption | trivial | omega | (have zz_ := fz_z (by assumption); omega) | (split <;> omega) | (exact IP_) | (exact NMT.z) | (exact NMT.s (by assumption) (fun w_ => by first | omega | exact ⟨by omega, by rw [← h25_]; first | omega | (clear hI3 hI4 hp_7; grind)⟩)) | (simp only [rA_sF, rA_sA, Nat.add_left_cancel_iff, Nat.reduceEqDiff, false_and, true_and, if_false]; first | exact h26_ _ | exact h25_ _ | (rw [if_neg (by omega)]; first | exact h26_ _ | exact h25_ _)) | (exact IPf.mv hp_7 rfl (by assumption) (by assumption) (by assumption)) | (exact IPf.mv hp_7 rfl (fun i => by clear hI3 hI4 hp_7; grind) (fun i => by clear hI3 hI4 hp_7; grind) (fun i => by clear hI3 hI4 hp_7; grind)) | (clear hI3 hI4 hp_7; grind (splits := 20)))), ?_⟩
  refine ⟨(by (try simp only [pre_X14_skip]); (all_goals (repeat' (first | with_reducible intro _ | with_reducible apply And.intro))); all_goals (first | assumption | trivial | ((with_reducible refine Im.i fun hf_ => ?_); first | exact ((fun _ => RG.rf) hf_) | exact ok1.i | (exact LI.z (fun h => absurd h (by decide))) | (exact absurd hf_ (by omega)) | omega) | omega | (have zz_ := fz_z (by assumption); omega) | (split <;> omega) | (exact IP_) | (exact NMT.z) | (exact NMT.s (by assumption) (fun w_ => by first | omega | exact ⟨by omega, by rw [← h25_]; first | omega | (clear hI3 hI4 hp_7; grind)⟩)) | (simp only [rA_sF, rA_sA, Nat.add_left_cancel_iff, Nat.reduceEqDiff, false_and, true_and, if_false]; first | exact h26_ _ | exact h25_ _ | (rw [if_neg (by omega)]; first | exact h26_ _ | exact h25_ _)) | (exact IPf.mv hp_7 rfl (by assumption) (by assumption) (by assumption)) | (exact IPf.mv hp_7 rfl (fun i => by clear hI3 hI4 hp_7; grind) (fun i => by clear hI3 hI4 hp_7; grind) (fun i => by clear hI3 hI4 hp_7; grind)) | (clear hI3 hI4 hp_7; grind (splits := 20)))), ?_⟩
  intro s1 Ws1 e1_0 e1_1 e1_2 e1_3 e1_4 e1_5 e1_6 e1_7 q1
  have q1 := dig_X14_skip q1
  obtain ⟨q1_1, q1_2, q1_3⟩ := q1
  have zr1 := fz_rng s1
  intro hr_; unfold rng at hr_
  refine ⟨fun c8 => ?_, fun c8 => ?_⟩
  · have z8 := fz_z c8
    intro hr_; unfold rng at hr_
    refine ⟨(by (try simp only [pre_X14_fc]); (all_goals (repeat' (first | with_reducible intro _ | with_reducible apply And.intro))); all_goals (first | assumption | trivial | ((with_reducible refine Im.i fun hf_ => ?_); first | exact ((fun _ => RG.rf) hf_) | exact ok1.i | (exact LI.z (fun h => absurd h (by decide))) | (exact absurd hf_ (by omega)) | omega) | omega | (have zz_ := fz_z (by assumption); omega) | (split <;> omega) | (exact IP_) | (exact NMT.z) | (exact NMT.s (by assumption) (fun w_ => by first | omega | exact ⟨by omega, by rw [← h25_]; first | omega | (clear hI3 hI4 hp_7; grind)⟩)) | (simp only [rA_sF, rA_sA, Nat.add_left_cancel_iff, Nat.reduceEqDiff, false_and, true_and, if_false]; first | exact h26_ _ | exact h25_ _ | (rw [if_neg (by omega)]; first | exact h26_ _ | exact h25_ _)) | (exact IPf.mv hp_7 rfl (by assumption) (by assumption) (by assumption)) | (exact IPf.mv hp_7 rfl (fun i => by clear hI3 hI4 hp_7; grind) (fun i => by clear hI3 hI4 hp_7; grind) (fun i => by clear hI3 hI4 hp_7; grind)) | (clear hI3 hI4 hp_7; grind (splits := 20)))), ?_⟩
    intro v17 hv17 q17
    unfold rng at hv17
    unfold post_X14_fc at q17
    obtain ⟨q17_1, q17_2⟩ := q17
    refine ⟨fun c24 => ?_, fun c24 => ?_⟩
    · refine ⟨(by (try simp only [pre_X14_bad]); (all_goals (repeat' (first | with_reducible intro _ | with_reducible apply And.intro))); all_goals (first | assumption | trivial | ((with_reducible refine Im.i fun hf_ => ?_); first | exact ((fun _ => RG.rf) hf_) | exact ok1.i | (exact LI.z (fun h => absurd h (by decide))) | (exact absurd hf_ (by omega)) | omega) | omega | (have zz_ := fz_z (by assumption); omega) | (split <;> omega) | (exact IP_) | (exact NMT.z) | (exact NMT.s (by assumption) (fun w_ => by first | omega | exact ⟨by omega, by rw [← h25_]; first | omega | (clear hI3 hI4 hp_7; grind)⟩)) | (simp only [rA_sF, rA_sA, Nat.add_left_cancel_iff, Nat.reduceEqDiff, false_and, true_and, if_false]; first | exact h26_ _ | exact h25_ _ | (rw [if_neg (by omega)]; first | exact h26_ _ | exact h25_ _)) | (exact IPf.mv hp_7 rfl (by assumption) (by assumption) (by assumption)) | (exact IPf.mv hp_7 rfl (fun i => by clear hI3 hI4 hp_7; grind) (fun i => by clear hI3 hI4 hp_7; grind) (fun i => by clear hI3 hI4 hp_7; grind)) | (clear hI3 hI4 hp_7; grind (splits := 20)))), ?_⟩
      intro s39 Ws39 e39_0 e39_1 e39_2 e39_3 e39_4 e39_5 e39_6 e39_7 e39_8 q39
      have q39 := dig_bad q39 (by omega)
      obtain ⟨q39_1, q39_2⟩ := q39
      have zr39 := fz_rng s39
      exact (by (try simp only [post_X14_readImport]); (all_goals (repeat' (first | with_reducible intro _ | with_reducible apply And.intro))); all_goals (first | assumption | trivial | ((with_reducible refine Im.i fun hf_ => ?_); first | exact ((fun _ => RG.rf) hf_) | exact ok1.i | (exact LI.z (fun h => absurd h (by decide))) | (exact absurd hf_ (by omega)) | omega) | omega | (have zz_ := fz_z (by assumption); omega) | (split <;> omega) | (exact IP_) | (exact NMT.z) | (exact NMT.s (by assumption) (fun w_ => by first | omega | exact ⟨by omega, by rw [← h25_]; first | omega | (clear hI3 hI4 hp_7; grind)⟩)) | (simp only [rA_sF, rA_sA, Nat.add_left_cancel_iff, Nat.reduceEqDiff, false_and, true_and, if_false]; first | exact h26_ _ | exact h25_ _ | (rw [if_neg (by omega)]; first | exact h26_ _ | exact h25_ _)) | (exact IPf.mv hp_7 rfl (by assumption) (by assumption) (by assumption)) | (exact IPf.mv hp_7 rfl (fun i => by clear hI3 hI4 hp_7; grind) (fun i => by clear hI3 hI4 hp_7; grind) (fun i => by clear hI3 hI4 hp_7; grind)) | (clear hI3 hI4 hp_7; grind (splits := 20))))
    · refine ⟨fun c30 => ?_, fun c30 => ?_⟩
      · refine ⟨(by (all_goals (repeat' (first | with_reducible intro _ | with_reducible apply And.intro))); all_goals (first | assumption | trivial | ((with_reducible refine Im.i fun hf_ => ?_); first | exact ((fun _ => RG.rf) hf_) | exact ok1.i | (exact LI.z (fun h => absurd h (by decide))) | (exact absurd hf_ (by omega)) | omega) | omega | (have zz_ := fz_z (by assumption); omega) | (split <;> omega) | (exact IP_) | (exact NMT.z) | (exact NMT.s (by assumption) (fun w_ => by first | omega | exact ⟨by omega, by rw [← h25_]; first | omega | (clear hI3 hI4 hp_7; grind)⟩)) | (simp only [rA_sF, rA_sA, Nat.add_left_cancel_iff, Nat.reduceEqDiff, false_and, true_and, if_false]; first | exact h26_ _ | exact h25_ _ | (rw [if_neg (by omega)]; first | exact h26_ _ | exact h25_ _)) | (exact IPf.mv hp_7 rfl (by assumption) (by assumption) (by assumption)) | (exact IPf.mv hp_7 rfl (fun i => by clear hI3 hI4 hp_7; grind) (fun i => by clear hI3 hI4 hp_7; grind) (fun i => by clear hI3 hI4 hp_7; grind)) | (clear hI3 hI4 hp_7; grind (splits := 20)))), ?_⟩
        intro hr_; unfold rng at hr_
        refine ⟨fun c54 => ?_, fun c54 => ?_⟩
        · refine ⟨(by (try simp only [pre_X14_bad]); (all_goals (repeat' (first | with_reducible intro _ | with_reducible apply And.intro))); all_goals (first | assumption | trivial | ((with_reducible refine Im.i fun hf_ => ?_); first | exact ((fun _ => RG.rf) hf_) | exact ok1.i | (exact LI.z (fun h => absurd h (by decide))) | (exact absurd hf_ (by omega)) | omega) | omega | (have zz_ := fz_z (by assumption); omega) | (split <;> omega) | (exact IP_) | (exact NMT.z) | (exact NMT.s (by assumption) (fun w_ => by first | omega | exact ⟨by omega, by rw [← h25_]; first | omega | (clear hI3 hI4 hp_7; grind)⟩)) | (simp only [rA_sF, rA_sA, Nat.add_left_cancel_iff, Nat.reduceEqDiff, false_and, true_and, if_false]; first | exact h26_ _ | exact h25_ _ | (rw [if_neg (by omega)]; first | exact h26_ _ | exact h25_ _)) | (exact IPf.mv hp_7 rfl (by assumption) (by assumption) (by assumption)) | (exact IPf.mv hp_7 rfl (fun i => by clear hI3 hI4 hp_7; grind) (fun i => by clear hI3 hI4 hp_7; grind) (fun i => by clear hI3 hI4 hp_7; grind)) | (clear hI3 hI4 hp_7; grind (splits := 20)))), ?_⟩
          intro s72 Ws72 e72_0 e72_1 e72_2 e72_3 e72_4 e72_5 e72_6 e72_7 e72_8 q72
          have q72 := dig_bad q72 (by omega)
          obtain ⟨q72_1, q72_2⟩ := q72
          have zr72 := fz_rng s72
          exact (by (try simp only [post_X14_readImport]); (all_goals (repeat' (first | with_reducible intro _ | with_reducible apply And.intro))); all_goals (first | assumption | trivial | ((with_reducible refine Im.i fun hf_ => ?_); first | exact ((fun _ => RG.rf) hf_) | exact ok1.i | (exact LI.z (fun h => absurd h (by decide))) | (exact absurd hf_ (by omega)) | omega) | omega | (have zz_ := fz_z (by assumption); omega) | (split <;> omega) | (exact IP_) | (exact NMT.z) | (exact NMT.s (by assumption) (fun w_ => by first | omega | exact ⟨by omega, by rw [← h25_]; first | omega | (clear hI3 hI4 hp_7; grind)⟩)) | (simp only [rA_sF, rA_sA, Nat.add_left_cancel_iff, Nat.reduceEqDiff, false_and, true_and, if_false]; first | exact h26_ _ | exact h25_ _ | (rw [if_neg (by omega)]; first | exact h26_ _ | exact h25_ _)) | (exact IPf.mv hp_7 rfl (by assumption) (by assumption) (by assumption)) | (exact IPf.mv hp_7 rfl (fun i => by clear hI3 hI4 hp_7; grind) (fun i => by clear hI3 hI4 hp_7; grind) (fun i => by clear hI3 hI4 hp_7; grind)) | (clear hI3 hI4 hp_7; grind (splits := 20))))
        · refine ⟨(by (all_goals (repeat' (first | with_reducible intro _ | with_reducible apply And.intro))); all_goals (first | assumption | trivial | ((with_reducible refine Im.i fun hf_ => ?_); first | exact ((fun _ => RG.rf) hf_) | exact ok1.i | (exact LI.z (fun h => absurd h (by decide))) | (exact absurd hf_ (by omega)) | omega) | omega | (have zz_ := fz_z (by assumption); omega) | (split <;> omega) | (exact IP_) | (exact NMT.z) | (exact NMT.s (by assumption) (fun w_ => by first | omega | exact ⟨by omega, by rw [← h25_]; first | omega | (clear hI3 hI4 hp_7; grind)⟩)) | (simp only [rA_sF, rA_sA, Nat.add_left_cancel_iff, Nat.reduceEqDiff, false_and, true_and, if_false]; first | exact h26_ _ | exact h25_ _ | (rw [if_neg (by omega)]; first | exact h26_ _ | exact h25_ _)) | (exact IPf.mv hp_7 rfl (by assumption) (by assumption) (by assumption)) | (exact IPf.mv hp_7 rfl (fun i => by clear hI3 hI4 hp_7; grind) (fun i => by clear hI3 hI4 hp_7; grind) (fun i => by clear hI3 hI4 hp_7; grind)) | (clear hI3 hI4 hp_7; grind (splits := 20)))), ?_⟩
          intro hr_; unfold rng at hr_
          refine ⟨fun c63 => ?_, fun c63 => ?_⟩
          · refine ⟨(by (try simp only [rng]); (all_goals (repeat' (first | with_reducible intro _ | with_reducible apply And.intro))); all_goals (first | assumption | trivial | ((with_reducible refine Im.i fun hf_ => ?_); first | exact ((fun _ => RG.rf) hf_) | exact ok1.i | (exact LI.z (fun h => absurd h (by decide))) | (exact absurd hf_ (by omega)) | omega) | omega | (have zz_ := fz_z (by assumption); omega) | (split <;> omega) | (exact IP_) | (exact NMT.z) | (exact NMT.s (by assumption) (fun w_ => by first | omega | exact ⟨by omega, by rw [← h25_]; first | omega | (clear hI3 hI4 hp_7; grind)⟩)) | (simp only [rA_sF, rA_sA, Nat.add_left_cancel_iff, Nat.reduceEqDiff, false_and, true_and, if_false]; first | exact h26_ _ | exact h25_ _ | (rw [if_neg (by omega)]; first | exact h26_ _ | exact h25_ _)) | (exact IPf.mv hp_7 rfl (by assumption) (by assumption) (by assumption)) | (exact IPf.mv hp_7 rfl (fun i => by clear hI3 hI4 hp_7; grind) (fun i => by clear hI3 hI4 hp_7; grind) (fun i => by clear hI3 hI4 hp_7; grind)) | (clear hI3 hI4 hp_7; grind (splits := 20)))), ?_⟩
            exact (by (try simp only [inv_X14_readImport_81]); (all_goals (repeat' (first | with_reducible intro _ | with_reducible apply And.intro))); all_goals (first | assumption | trivial | ((with_reducible refine Im.i fun hf_ => ?_); first | exact ((fun _ => RG.rf) hf_) | exact ok1.i | (exact LI.z (fun h => absurd h (by decide))) | (exact absurd hf_ (by omega)) | omega) | omega | (have zz_ := fz_z (by assumption); omega) | (split <;> omega) | (exact IP_) | (exact NMT.z) | (exact NMT.s (by assumption) (fun w_ => by first | omega | exact ⟨by omega, by rw [← h25_]; first | omega | (clear hI3 hI4 hp_7; grind)⟩)) | (simp only [rA_sF, rA_sA, Nat.add_left_cancel_iff, Nat.reduceEqDiff, false_and, true_and, if_false]; first | exact h26_ _ | exact h25_ _ | (rw [if_neg (by omega)]; first | exact h26_ _ | exact h25_ _)) | (exact IPf.mv hp_7 rfl (by assumption) (by assumption) (by assumption)) | (exact IPf.mv hp_7 rfl (fun i => by clear hI3 hI4 hp_7; grind) (fun i => by clear hI3 hI4 hp_7; grind) (fun i => by clear hI3 hI4 hp_7; grind)) | (clear hI3 hI4 hp_7; grind (splits := 20))))
          · refine ⟨(by (try simp only [pre_X14_bad]); (all_goals (repeat' (first | with_reducible intro _ | with_reducible apply And.intro))); all_goals (first | assumption | trivial | ((with_reducible refine Im.i fun hf_ => ?_); first | exact ((fun _ => RG.rf) hf_) | exact ok1.i | (exact LI.z (fun h => absurd h (by decide))) | (exact absurd hf_ (by omega)) | omega) | omega | (have zz_ := fz_z (by assumption); omega) | (split <;> omega) | (exact IP_) | (exact NMT.z) | (exact NMT.s (by assumption) (fun w_ => by first | omega | exact ⟨by omega, by rw [← h25_]; first | omega | (clear hI3 hI4 hp_7; grind)⟩)) | (simp only [rA_sF, rA_sA, Nat.add_left_cancel_iff, Nat.reduceEqDiff, false_and, true_and, if_false]; first | exact h26_ _ | exact h25_ _ | (rw [if_neg (by omega)]; first | exact h26_ _ | exact h25_ _)) | (exact IPf.mv hp_7 rfl (by assumption) (by assumption) (by assumption)) | (exact IPf.mv hp_7 rfl (fun i => by clear hI3 hI4 hp_7; grind) (fun i => by clear hI3 hI4 hp_7; grind) (fun i => by clear hI3 hI4 hp_7; grind)) | (clear hI3 hI4 hp_7; grind (splits := 20)))), ?_⟩
            intro s72 Ws72 e72_0 e72_1 e72_2 e72_3 e72_4 e72_5 e72_6 e72_7 e72_8 q72
            have q72 := dig_bad q72 (by omega)
            obtain ⟨q72_1, q72_2⟩ := q72
            have zr72 := fz_rng s72
            exact (by (try simp only [post_X14_readImport]); (all_goals (repeat' (first | with_reducible intro _ | with_reducible apply And.intro))); all_goals (first | assumption | trivial | ((with_reducible refine Im.i fun hf_ => ?_); first | exact ((fun _ => RG.rf) hf_) | exact ok1.i | (exact LI.z (fun h => absurd h (by decide))) | (exact absurd hf_ (by omega)) | omega) | omega | (have zz_ := fz_z (by assumption); omega) | (split <;> omega) | (exact IP_) | (exact NMT.z) | (exact NMT.s (by assumption) (fun w_ => by first | omega | exact ⟨by omega, by rw [← h25_]; first | omega | (clear hI3 hI4 hp_7; grind)⟩)) | (simp only [rA_sF, rA_sA, Nat.add_left_cancel_iff, Nat.reduceEqDiff, false_and, true_and, if_false]; first | exact h26_ _ | exact h25_ _ | (rw [if_neg (by omega)]; first | exact h26_ _ | exact h25_ _)) | (exact IPf.mv hp_7 rfl (by assumption) (by assumption) (by assumption)) | (exact IPf.mv hp_7 rfl (fun i => by clear hI3 hI4 hp_7; grind) (fun i => by clear hI3 hI4 hp_7; grind) (fun i => by clear hI3 hI4 hp_7; grind)) | (clear hI3 hI4 hp_7; grind (splits := 20))))
      · refine ⟨(by (try simp only [pre_X14_bad]); (all_goals (repeat' (first | with_reducible intro _ | with_reducible apply And.intro))); all_goals (first | assumption | trivial | ((with_reducible refine Im.i fun hf_ => ?_); first | exact ((fun _ => RG.rf) hf_) | exact ok1.i | (exact LI.z (fun h => absurd h (by decide))) | (exact absurd hf_ (by omega)) | omega) | omega | (have zz_ := fz_z (by assumption); omega) | (split <;> omega) | (exact IP_) | (exact NMT.z) | (exact NMT.s (by assumption) (fun w_ => by first | omega | exact ⟨by omega, by rw [← h25_]; first | omega | (clear hI3 hI4 hp_7; grind)⟩)) | (simp only [rA_sF, rA_sA, Nat.add_left_cancel_iff, Nat.reduceEqDiff, false_and, true_and, if_false]; first | exact h26_ _ | exact h25_ _ | (rw [if_neg (by omega)]; first | exact h26_ _ | exact h25_ _)) | (exact IPf.mv hp_7 rfl (by assumption) (by assumption) (by assumption)) | (exact IPf.mv hp_7 rfl (fun i => by clear hI3 hI4 hp_7; grind) (fun i => by clear hI3 hI4 hp_7; grind) (fun i => by clear hI3 hI4 hp_7; grind)) | (clear hI3 hI4 hp_7; grind (splits := 20)))), ?_⟩
        intro s39 Ws39 e39_0 e39_1 e39_2 e39_3 e39_4 e39_5 e39_6 e39_7 e39_8 q39
        have q39 := dig_bad q39 (by omega)
        obtain ⟨q39_1, q39_2⟩ := q39
        have zr39 := fz_rng s39
        exact (by (try simp only [post_X14_readImport]); (all_goals (repeat' (first | with_reducible intro _ | with_reducible apply And.intro))); all_goals (first | assumption | trivial | ((with_reducible refine Im.i fun hf_ => ?_); first | exact ((fun _ => RG.rf) hf_) | exact ok1.i | (exact LI.z (fun h => absurd h (by decide))) | (exact absurd hf_ (by omega)) | omega) | omega | (have zz_ := fz_z (by assumption); omega) | (split <;> omega) | (exact IP_) | (exact NMT.z) | (exact NMT.s (by assumption) (fun w_ => by first | omega | exact ⟨by omega, by rw [← h25_]; first | omega | (clear hI3 hI4 hp_7; grind)⟩)) | (simp only [rA_sF, rA_sA, Nat.add_left_cancel_iff, Nat.reduceEqDiff, false_and, true_and, if_false]; first | exact h26_ _ | exact h25_ _ | (rw [if_neg (by omega)]; first | exact h26_ _ | exact h25_ _)) | (exact IPf.mv hp_7 rfl (by assumption) (by assumption) (by assumption)) | (exact IPf.mv hp_7 rfl (fun i => by clear hI3 hI4 hp_7; grind) (fun i => by clear hI3 hI4 hp_7; grind) (fun i => by clear hI3 hI4 hp_7; grind)) | (clear hI3 hI4 hp_7; grind (splits := 20))))
  · have z8 := fz_n c8
    exact (by (try simp only [post_X14_readImport]); (all_goals (repeat' (first | with_reducible intro _ | with_reducible apply And.intro))); all_goals (first | assumption | trivial | ((with_reducible refine Im.i fun hf_ => ?_); first | exact ((fun _ => RG.rf) hf_) | exact ok1.i | (exact LI.z (fun h => absurd h (by decide))) | (exact absurd hf_ (by omega)) | omega) | omega | (have zz_ := fz_z (by assumption); omega) | (split <;> omega) | (exact IP_) | (exact NMT.z) | (exact NMT.s (by assumption) (fun w_ => by first | omega | exact ⟨by omega, by rw [← h25_]; first | omega | (clear hI3 hI4 hp_7; grind)⟩)) | (simp only [rA_sF, rA_sA, Nat.add_left_cancel_iff, Nat.reduceEqDiff, false_and, true_and, if_false]; first | exact h26_ _ | exact h25_ _ | (rw [if_neg (by omega)]; first | exact h26_ _ | exact h25_ _)) | (exact IPf.mv hp_7 rfl (by assumption) (by assumption) (by assumption)) | (exact IPf.mv hp_7 rfl (fun i => by clear hI3 hI4 hp_7; grind) (fun i => by clear hI3 hI4 hp_7; grind) (fun i => by clear hI3 hI4 hp_7; grind)) | (clear hI3 hI4 hp_7; grind (splits := 20))))
set_option maxRecDepth 20000 in
set_option maxHeartbeats 20000000 in
theorem vX14_readImport_81 (σ : rS) (hwf : rWF σ) (hp : pre_X14_readImport σ ) : VC_X14_readImport_81 σ (post_X14_readImport σ ) := by
  unfold pre_X14_readImport at hp
  obtain ⟨hp_1, hp_2, hp_3, hp_4, hp_5, hp_6, hp_7⟩ := hp
  have zr0 := fz_rng σ
  have hI := hp_7
  unfold IPf at hI
  obtain ⟨hI1, hI2, hI3, hI4⟩ := hI
  unfold VC_X14_readImport_81
  intro s81 y81_2 y81_3 y81_4 Ws81 hy81_2 hy81_3 hy81_4 e81_0 e81_1 e81_2 e81_3 e81_4 e81_5 I81
  unfold inv_X14_readImport_81 at I81
  obtain ⟨I81_1, I81_2, I81_3, I81_4, I81_5, I81_6, I81_7, I81_8, I81_9, I81_10, I81_11, I81_12⟩ := I81
  have zr81 := fz_rng s81
  have h25_ := I81_11
  have h26_ := I81_12
  intro hr_; unfold rng at hr_
  refine ⟨(by (all_goals (repeat' (first | with_reducible intro _ | with_reducible apply And.intro))); all_goals (first | assumption | trivial | ((with_reducible refine Im.i fun hf_ => ?_); first | exact ((fun _ => RG.rf) hf_) | exact ok1.i | (exact LI.z (fun h => absurd h (by decide))) | (exact absurd hf_ (by omega)) | omega) | omega | (have zz_ := fz_z (by assumption); omega) | (split <;> omega) | (exact IP_) | (exact NMT.z) | (exact NMT.s (by assumption) (fun w_ => by first | omega | exact ⟨by omega, by rw [← h25_]; first | omega | (clear hI3 hI4 hp_7; grind)⟩)) | (simp only [rA_sF, rA_sA, Nat.add_left_cancel_iff, Nat.reduceEqDiff, false_and, true_and, if_false]; first | exact h26_ _ | exact h25_ _ | (rw [if_neg (by omega)]; first | exact h26_ _ | exact h25_ _)) | (exact IPf.mv hp_7 rfl (by assumption) (by assumption) (by assumption)) | (exact IPf.mv hp_7 rfl (fun i => by clear hI3 hI4 hp_7; grind) (fun i => by clear hI3 hI4 hp_7; grind) (fun i => by clear hI3 hI4 hp_7; grind)) | (clear hI3 hI4 hp_7; grind (splits := 20)))), ?_⟩
  intro hr_; unfold rng at hr_
  refine ⟨fun c95 => ?_, fun c95 => ?_⟩
  · refine ⟨fun c138 => ?_, fun c138 => ?_⟩
    · intro hr_; unfold rng at hr_
      refine ⟨(by (try simp only [rng]); (all_goals (repeat' (first | with_reducible intro _ | with_reducible apply And.intro))); all_goals (first | assumption | trivial | ((with_reducible refine Im.i fun hf_ => ?_); first | exact ((fun _ => RG.rf) hf_) | exact ok1.i | (exact LI.z (fun h => absurd h (by decide))) | (exact absurd hf_ (by omega)) | omega) | omega | (have zz_ := fz_z (by assumption); omega) | (split <;> omega) | (exact IP_) | (exact NMT.z) | (exact NMT.s (by assumption) (fun w_ => by first | omega | exact ⟨by omega, by rw [← h25_]; first | omega | (clear hI3 hI4 hp_7; grind)⟩)) | (simp only [rA_sF, rA_sA, Nat.add_left_cancel_iff, Nat.reduceEqDiff, false_and, true_and, if_false]; first | exact h26_ _ | exact h25_ _ | (rw [if_neg (by omega)]; first | exact h26_ _ | exact h25_ _)) | (exact IPf.mv hp_7 rfl (by assumption) (by assumption) (by assumption)) | (exact IPf.mv hp_7 rfl (fun i => by clear hI3 hI4 hp_7; grind) (fun i => by clear hI3 hI4 hp_7; grind) (fun i => by clear hI3 hI4 hp_7; grind)) | (clear hI3 hI4 hp_7; grind (splits := 20)))), ?_⟩
      exact (by (try simp only [post_X14_readImport, reduceIte, and_true, true_and, and_false, false_and, and_self, Nat.reduceEqDiff, fz_sF17, rF_sF, rA_sF, rR_sF, tr_sF, rNMp_sF, PNp_sF, GS_F17, OP_F17, NR_F17, LI_F17, RG_l17, RG_r17, TPRp_sF17, WNp_sF17, VMp_sF17, KYp_sF17, PPp_sF17, WFp_sF17, CCp_sF17]); (all_goals (repeat' (first | with_reducible intro _ | with_reducible apply And.intro))); all_goals (first | assumption | trivial | ((with_reducible refine Im.i fun hf_ => ?_); first | exact ((fun _ => RG.rf) hf_) | exact ok1.i | (exact LI.z (fun h => absurd h (by decide))) | (exact absurd hf_ (by omega)) | omega) | omega | (have zz_ := fz_z (by assumption); omega) | (split <;> omega) | (exact IP_) | (exact NMT.z) | (exact NMT.s (by assumption) (fun w_ => by first | omega | exact ⟨by omega, by rw [← h25_]; first | omega | (clear hI3 hI4 hp_7; grind)⟩)) | (simp only [rA_sF, rA_sA, Nat.add_left_cancel_iff, Nat.reduceEqDiff, false_and, true_and, if_false]; first | exact h26_ _ | exact h25_ _ | (rw [if_neg (by omega)]; first | exact h26_ _ | exact h25_ _)) | (exact IPf.mv hp_7 rfl (by assumption) (by assumption) (by assumption)) | (exact IPf.mv hp_7 rfl (fun i => by clear hI3 hI4 hp_7; grind) (fun i => by clear hI3 hI4 hp_7; grind) (fun i => by clear hI3 hI4 hp_7; grind)) | (clear hI3 hI4 hp_7; grind (splits := 20))))
    · refine ⟨(by (all_goals (repeat' (first | with_reducible intro _ | with_reducible apply And.intro))); all_goals (first | assumption | trivial | ((with_reducible refine Im.i fun hf_ => ?_); first | exact ((fun _ => RG.rf) hf_) | exact ok1.i | (exact LI.z (fun h => absurd h (by decide))) | (exact absurd hf_ (by omega)) | omega) | omega | (have zz_ := fz_z (by assumption); omega) | (split <;> omega) | (exact IP_) | (exact NMT.z) | (exact NMT.s (by assumption) (fun w_ => by first | omega | exact ⟨by omega, by rw [← h25_]; first | omega | (clear hI3 hI4 hp_7; grind)⟩)) | (simp only [rA_sF, rA_sA, Nat.add_left_cancel_iff, Nat.reduceEqDiff, false_and, true_and, if_false]; first | exact h26_ _ | exact h25_ _ | (rw [if_neg (by omega)]; first | exact h26_ _ | exact h25_ _)) | (exact IPf.mv hp_7 rfl (by assumption) (by assumption) (by assumption)) | (exact IPf.mv hp_7 rfl (fun i => by clear hI3 hI4 hp_7; grind) (fun i => by clear hI3 hI4 hp_7; grind) (fun i => by clear hI3 hI4 hp_7; grind)) | (clear hI3 hI4 hp_7; grind (splits := 20)))), ?_⟩
      refine ⟨(by (all_goals (repeat' (first | with_reducible intro _ | with_reducible apply And.intro))); all_goals (first | assumption | trivial | ((with_reducible refine Im.i fun hf_ => ?_); first | exact ((fun _ => RG.rf) hf_) | exact ok1.i | (exact LI.z (fun h => absurd h (by decide))) | (exact absurd hf_ (by omega)) | omega) | omega | (have zz_ := fz_z (by assumption); omega) | (split <;> omega) | (exact IP_) | (exact NMT.z) | (exact NMT.s (by assumption) (fun w_ => by first | omega | exact ⟨by omega, by rw [← h25_]; first | omega | (clear hI3 hI4 hp_7; grind)⟩)) | (simp only [rA_sF, rA_sA, Nat.add_left_cancel_iff, Nat.reduceEqDiff, false_and, true_and, if_false]; first | exact h26_ _ | exact h25_ _ | (rw [if_neg (by omega)]; first | exact h26_ _ | exact h25_ _)) | (exact IPf.mv hp_7 rfl (by assumption) (by assumption) (by assumption)) | (exact IPf.mv hp_7 rfl (fun i => by clear hI3 hI4 hp_7; grind) (fun i => by clear hI3 hI4 hp_7; grind) (fun i => by clear hI3 hI4 hp_7; grind)) | (clear hI3 hI4 hp_7; grind (splits := 20)))), ?_⟩
      refine ⟨(by (try simp only [reduceIte, and_true, true_and, and_false, false_and, and_self, Nat.reduceEqDiff, fz_sA, rF_sA, rA_sA, rR_sA, tr_g25, RG_rg25, RG_lg25, TPRp_gA25, WNp_gA25, VMp_gA25, KYp_gA25, PPp_gA25, WFp_gA25, CCp_gA25]); (all_goals (repeat' (first | with_reducible intro _ | with_reducible apply And.intro))); all_goals (first | assumption | trivial | ((with_reducible refine Im.i fun hf_ => ?_); first | exact ((fun _ => RG.rf) hf_) | exact ok1.i | (exact LI.z (fun h => absurd h (by decide))) | (exact absurd hf_ (by omega)) | omega) | omega | (have zz_ := fz_z (by assumption); omega) | (split <;> omega) | (exact IP_) | (exact NMT.z) | (exact NMT.s (by assumption) (fun w_ => by first | omega | exact ⟨by omega, by rw [← h25_]; first | omega | (clear hI3 hI4 hp_7; grind)⟩)) | (simp only [rA_sF, rA_sA, Nat.add_left_cancel_iff, Nat.reduceEqDiff, false_and, true_and, if_false]; first | exact h26_ _ | exact h25_ _ | (rw [if_neg (by omega)]; first | exact h26_ _ | exact h25_ _)) | (exact IPf.mv hp_7 rfl (by assumption) (by assumption) (by assumption)) | (exact IPf.mv hp_7 rfl (fun i => by clear hI3 hI4 hp_7; grind) (fun i => by clear hI3 hI4 hp_7; grind) (fun i => by clear hI3 hI4 hp_7; grind)) | (clear hI3 hI4 hp_7; grind (splits := 20)))), ?_⟩
      refine ⟨(by (try simp only [reduceIte, and_true, true_and, and_false, false_and, and_self, Nat.reduceEqDiff, fz_sA, rF_sA, rA_sA, rR_sA, tr_g25, RG_rg25, RG_lg25, TPRp_gA25, WNp_gA25, VMp_gA25, KYp_gA25, PPp_gA25, WFp_gA25, CCp_gA25]); (all_goals (repeat' (first | with_reducible intro _ | with_reducible apply And.intro))); all_goals (first | assumption | trivial | ((with_reducible refine Im.i fun hf_ => ?_); first | exact ((fun _ => RG.rf) hf_) | exact ok1.i | (exact LI.z (fun h => absurd h (by decide))) | (exact absurd hf_ (by omega)) | omega) | omega | (have zz_ := fz_z (by assumption); omega) | (split <;> omega) | (exact IP_) | (exact NMT.z) | (exact NMT.s (by assumption) (fun w_ => by first | omega | exact ⟨by omega, by rw [← h25_]; first | omega | (clear hI3 hI4 hp_7; grind)⟩)) | (simp only [rA_sF, rA_sA, Nat.add_left_cancel_iff, Nat.reduceEqDiff, false_and, true_and, if_false]; first | exact h26_ _ | exact h25_ _ | (rw [if_neg (by omega)]; first | exact h26_ _ | exact h25_ _)) | (exact IPf.mv hp_7 rfl (by assumption) (by assumption) (by assumption)) | (exact IPf.mv hp_7 rfl (fun i => by clear hI3 hI4 hp_7; grind) (fun i => by clear hI3 hI4 hp_7; grind) (fun i => by clear hI3 hI4 hp_7; grind)) | (clear hI3 hI4 hp_7; grind (splits := 20)))), ?_⟩
      refine ⟨(by (try simp only [rng, reduceIte, and_true, true_and, and_false, false_and, and_self, Nat.reduceEqDiff, fz_sA, rF_sA, rA_sA, rR_sA, tr_g25, RG_rg25, RG_lg25, TPRp_gA25, WNp_gA25, VMp_gA25, KYp_gA25, PPp_gA25, WFp_gA25, CCp_gA25]); (all_goals (repeat' (first | with_reducible intro _ | with_reducible apply And.intro))); all_goals (first | assumption | trivial | ((with_reducible refine Im.i fun hf_ => ?_); first | exact ((fun _ => RG.rf) hf_) | exact ok1.i | (exact LI.z (fun h => absurd h (by decide))) | (exact absurd hf_ (by omega)) | omega) | omega | (have zz_ := fz_z (by assumption); omega) | (split <;> omega) | (exact IP_) | (exact NMT.z) | (exact NMT.s (by assumption) (fun w_ => by first | omega | exact ⟨by omega, by rw [← h25_]; first | omega | (clear hI3 hI4 hp_7; grind)⟩)) | (simp only [rA_sF, rA_sA, Nat.add_left_cancel_iff, Nat.reduceEqDiff, false_and, true_and, if_false]; first | exact h26_ _ | exact h25_ _ | (rw [if_neg (by omega)]; first | exact h26_ _ | exact h25_ _)) | (exact IPf.mv hp_7 rfl (by assumption) (by assumption) (by assumption)) | (exact IPf.mv hp_7 rfl (fun i => by clear hI3 hI4 hp_7; grind) (fun i => by clear hI3 hI4 hp_7; grind) (fun i => by clear hI3 hI4 hp_7; grind)) | (clear hI3 hI4 hp_7; grind (splits := 20)))), ?_⟩
      have n26_ := h26_ (rF σ 0 14)
      have e14_ : rF s81 0 14 = rF σ 0 14 := by omega
      have n26b_ : rA s81 (1000 * ((rR σ 7) + 1) + 26) (rF s81 0 14) = rA σ (1000 * ((rR σ 7) + 1) + 26) (rF σ 0 14) := by rw [e14_]; exact n26_
      have ne5_ : (1020 : Nat) ≠ 1000 * (rR σ 7 + 1) + 25 := by omega
      have ne6_ : (1020 : Nat) ≠ 1000 * (rR σ 7 + 1) + 26 := by omega
      have IP_ : IPf (rA (sA (sA s81 (1000 * ((rR σ 7) + 1) + 25) ((500 * (rF s81 0 14)) + (rA s81 (1000 * ((rR σ 7) + 1) + 26) (rF s81 0 14))) y81_2) (1000 * ((rR σ 7) + 1) + 26) (rF s81 0 14) ((rA s81 (1000 * ((rR σ 7) + 1) + 26) (rF s81 0 14)) + 1)) (1000 * ((rR σ 7) + 1) + 25)) (rA (sA (sA s81 (1000 * ((rR σ 7) + 1) + 25) ((500 * (rF s81 0 14)) + (rA s81 (1000 * ((rR σ 7) + 1) + 26) (rF s81 0 14))) y81_2) (1000 * ((rR σ 7) + 1) + 26) (rF s81 0 14) ((rA s81 (1000 * ((rR σ 7) + 1) + 26) (rF s81 0 14)) + 1)) (1000 * ((rR σ 7) + 1) + 26)) (rA (sA (sA s81 (1000 * ((rR σ 7) + 1) + 25) ((500 * (rF s81 0 14)) + (rA s81 (1000 * ((rR σ 7) + 1) + 26) (rF s81 0 14))) y81_2) (1000 * ((rR σ 7) + 1) + 26) (rF s81 0 14) ((rA s81 (1000 * ((rR σ 7) + 1) + 26) (rF s81 0 14)) + 1)) 1020) (rF σ 0 14) := IPf.add hp_7 (fun i i0 i1 => I81_10 (by omega) i i0 (by omega)) (by omega) (by omega) (fun i => by simp only [rA_sF, rA_sA, e14_, h25_, h26_, Nat.add_left_cancel_iff, Nat.reduceEqDiff, false_and, true_and, reduceIte]) (by simp only [rA_sF, rA_sA, e14_, h25_, h26_, Nat.add_left_cancel_iff, Nat.reduceEqDiff, false_and, true_and, reduceIte]) (fun i => by simp only [rA_sF, rA_sA, ne5_, ne6_, false_and, reduceIte]; exact (by assumption : ∀ i, rA s81 1020 i = rA σ 1020 i) i)
      intro hr_; unfold rng at hr_
      refine ⟨(by (try simp only [rng, reduceIte, and_true, true_and, and_false, false_and, and_self, Nat.reduceEqDiff, fz_sA, rF_sA, rA_sA, rR_sA, tr_g25, RG_rg25, RG_lg25, TPRp_gA25, WNp_gA25, VMp_gA25, KYp_gA25, PPp_gA25, WFp_gA25, CCp_gA25, tr_g26, RG_rg26, RG_lg26, TPRp_gA26, WNp_gA26, VMp_gA26, KYp_gA26, PPp_gA26, WFp_gA26, CCp_gA26]); (all_goals (repeat' (first | with_reducible intro _ | with_reducible apply And.intro))); all_goals (first | assumption | trivial | ((with_reducible refine Im.i fun hf_ => ?_); first | exact ((fun _ => RG.rf) hf_) | exact ok1.i | (exact LI.z (fun h => absurd h (by decide))) | (exact absurd hf_ (by omega)) | omega) | omega | (have zz_ := fz_z (by assumption); omega) | (split <;> omega) | (exact IP_) | (exact NMT.z) | (exact NMT.s (by assumption) (fun w_ => by first | omega | exact ⟨by omega, by rw [← h25_]; first | omega | (clear hI3 hI4 hp_7; grind)⟩)) | (simp only [rA_sF, rA_sA, Nat.add_left_cancel_iff, Nat.reduceEqDiff, false_and, true_and, if_false]; first | exact h26_ _ | exact h25_ _ | (rw [if_neg (by omega)]; first | exact h26_ _ | exact h25_ _)) | (exact IPf.mv hp_7 rfl (by assumption) (by assumption) (by assumption)) | (exact IPf.mv hp_7 rfl (fun i => by clear hI3 hI4 hp_7; grind) (fun i => by clear hI3 hI4 hp_7; grind) (fun i => by clear hI3 hI4 hp_7; grind)) | (clear hI3 hI4 hp_7; grind (splits := 20)))), ?_⟩
      exact (by (try simp only [post_X14_readImport, reduceIte, and_true, true_and, and_false, false_and, and_self, Nat.reduceEqDiff, fz_sA, rF_sA, rA_sA, rR_sA, tr_g25, RG_rg25, RG_lg25, TPRp_gA25, WNp_gA25, VMp_gA25, KYp_gA25, PPp_gA25, WFp_gA25, CCp_gA25, tr_g26, RG_rg26, RG_lg26, TPRp_gA26, WNp_gA26, VMp_gA26, KYp_gA26, PPp_gA26, WFp_gA26, CCp_gA26, fz_sF17, rF_sF, rA_sF, rR_sF, tr_sF, rNMp_sF, PNp_sF, GS_F17, OP_F17, NR_F17, LI_F17, RG_l17, RG_r17, TPRp_sF17, WNp_sF17, VMp_sF17, KYp_sF17, PPp_sF17, WFp_sF17, CCp_sF17]); (all_goals (repeat' (first | with_reducible intro _ | with_reducible apply And.intro))); all_goals (first | assumption | trivial | ((with_reducible refine Im.i fun hf_ => ?_); first | exact ((fun _ => RG.rf) hf_) | exact ok1.i | (exact LI.z (fun h => absurd h (by decide))) | (exact absurd hf_ (by omega)) | omega) | omega | (have zz_ := fz_z (by assumption); omega) | (split <;> omega) | (exact IP_) | (exact NMT.z) | (exact NMT.s (by assumption) (fun w_ => by first | omega | exact ⟨by omega, by rw [← h25_]; first | omega | (clear hI3 hI4 hp_7; grind)⟩)) | (simp only [rA_sF, rA_sA, Nat.add_left_cancel_iff, Nat.reduceEqDiff, false_and, true_and, if_false]; first | exact h26_ _ | exact h25_ _ | (rw [if_neg (by omega)]; first | exact h26_ _ | exact h25_ _)) | (exact IPf.mv hp_7 rfl (by assumption) (by assumption) (by assumption)) | (exact IPf.mv hp_7 rfl (fun i => by clear hI3 hI4 hp_7; grind) (fun i => by clear hI3 hI4 hp_7; grind) (fun i => by clear hI3 hI4 hp_7; grind)) | (clear hI3 hI4 hp_7; grind (splits := 20))))
  · refine ⟨fun c99 => ?_, fun c99 => ?_⟩
    · refine ⟨(by (try simp only [rng]); (all_goals (repeat' (first | with_reducible intro _ | with_reducible apply And.intro))); all_goals (first | assumption | trivial | ((with_reducible refine Im.i fun hf_ => ?_); first | exact ((fun _ => RG.rf) hf_) | exact ok1.i | (exact LI.z (fun h => absurd h (by decide))) | (exact absurd hf_ (by omega)) | omega) | omega | (have zz_ := fz_z (by assumption); omega) | (split <;> omega) | (exact IP_) | (exact NMT.z) | (exact NMT.s (by assumption) (fun w_ => by first | omega | exact ⟨by omega, by rw [← h25_]; first | omega | (clear hI3 hI4 hp_7; grind)⟩)) | (simp only [rA_sF, rA_sA, Nat.add_left_cancel_iff, Nat.reduceEqDiff, false_and, true_and, if_false]; first | exact h26_ _ | exact h25_ _ | (rw [if_neg (by omega)]; first | exact h26_ _ | exact h25_ _)) | (exact IPf.mv hp_7 rfl (by assumption) (by assumption) (by assumption)) | (exact IPf.mv hp_7 rfl (fun i => by clear hI3 hI4 hp_7; grind) (fun i => by clear hI3 hI4 hp_7; grind) (fun i => by clear hI3 hI4 hp_7; grind)) | (clear hI3 hI4 hp_7; grind (splits := 20)))), ?_⟩
      exact (by (try simp only [inv_X14_readImport_81, mu_X14_readImport_81, mu_X14_readImport_81]); (all_goals (repeat' (first | with_reducible intro _ | with_reducible apply And.intro))); all_goals (first | assumption | trivial | ((with_reducible refine Im.i fun hf_ => ?_); first | exact ((fun _ => RG.rf) hf_) | exact ok1.i | (exact LI.z (fun h => absurd h (by decide))) | (exact absurd hf_ (by omega)) | omega) | omega | (have zz_ := fz_z (by assumption); omega) | (split <;> omega) | (exact IP_) | (exact NMT.z) | (exact NMT.s (by assumption) (fun w_ => by first | omega | exact ⟨by omega, by rw [← h25_]; first | omega | (clear hI3 hI4 hp_7; grind)⟩)) | (simp only [rA_sF, rA_sA, Nat.add_left_cancel_iff, Nat.reduceEqDiff, false_and, true_and, if_false]; first | exact h26_ _ | exact h25_ _ | (rw [if_neg (by omega)]; first | exact h26_ _ | exact h25_ _)) | (exact IPf.mv hp_7 rfl (by assumption) (by assumption) (by assumption)) | (exact IPf.mv hp_7 rfl (fun i => by clear hI3 hI4 hp_7; grind) (fun i => by clear hI3 hI4 hp_7; grind) (fun i => by clear hI3 hI4 hp_7; grind)) | (clear hI3 hI4 hp_7; grind (splits := 20))))
    · refine ⟨(by (all_goals (repeat' (first | with_reducible intro _ | with_reducible apply And.intro))); all_goals (first | assumption | trivial | ((with_reducible refine Im.i fun hf_ => ?_); first | exact ((fun _ => RG.rf) hf_) | exact ok1.i | (exact LI.z (fun h => absurd h (by decide))) | (exact absurd hf_ (by omega)) | omega) | omega | (have zz_ := fz_z (by assumption); omega) | (split <;> omega) | (exact IP_) | (exact NMT.z) | (exact NMT.s (by assumption) (fun w_ => by first | omega | exact ⟨by omega, by rw [← h25_]; first | omega | (clear hI3 hI4 hp_7; grind)⟩)) | (simp only [rA_sF, rA_sA, Nat.add_left_cancel_iff, Nat.reduceEqDiff, false_and, true_and, if_false]; first | exact h26_ _ | exact h25_ _ | (rw [if_neg (by omega)]; first | exact h26_ _ | exact h25_ _)) | (exact IPf.mv hp_7 rfl (by assumption) (by assumption) (by assumption)) | (exact IPf.mv hp_7 rfl (fun i => by clear hI3 hI4 hp_7; grind) (fun i => by clear hI3 hI4 hp_7; grind) (fun i => by clear hI3 hI4 hp_7; grind)) | (clear hI3 hI4 hp_7; grind (splits := 20)))), ?_⟩
      intro hr_; unfold rng at hr_
      refine ⟨fun c122 => ?_, fun c122 => ?_⟩
      · refine ⟨(by (try simp only [rng]); (all_goals (repeat' (first | with_reducible intro _ | with_reducible apply And.intro))); all_goals (first | assumption | trivial | ((with_reducible refine Im.i fun hf_ => ?_); first | exact ((fun _ => RG.rf) hf_) | exact ok1.i | (exact LI.z (fun h => absurd h (by decide))) | (exact absurd hf_ (by omega)) | omega) | omega | (have zz_ := fz_z (by assumption); omega) | (split <;> omega) | (exact IP_) | (exact NMT.z) | (exact NMT.s (by assumption) (fun w_ => by first | omega | exact ⟨by omega, by rw [← h25_]; first | omega | (clear hI3 hI4 hp_7; grind)⟩)) | (simp only [rA_sF, rA_sA, Nat.add_left_cancel_iff, Nat.reduceEqDiff, false_and, true_and, if_false]; first | exact h26_ _ | exact h25_ _ | (rw [if_neg (by omega)]; first | exact h26_ _ | exact h25_ _)) | (exact IPf.mv hp_7 rfl (by assumption) (by assumption) (by assumption)) | (exact IPf.mv hp_7 rfl (fun i => by clear hI3 hI4 hp_7; grind) (fun i => by clear hI3 hI4 hp_7; grind) (fun i => by clear hI3 hI4 hp_7; grind)) | (clear hI3 hI4 hp_7; grind (splits := 20)))), ?_⟩
        exact (by (try simp only [inv_X14_readImport_81, mu_X14_readImport_81, mu_X14_readImport_81]); (all_goals (repeat' (first | with_reducible intro _ | with_reducible apply And.intro))); all_goals (first | assumption | trivial | ((with_reducible refine Im.i fun hf_ => ?_); first | exact ((fun _ => RG.rf) hf_) | exact ok1.i | (exact LI.z (fun h => absurd h (by decide))) | (exact absurd hf_ (by omega)) | omega) | omega | (have zz_ := fz_z (by assumption); omega) | (split <;> omega) | (exact IP_) | (exact NMT.z) | (exact NMT.s (by assumption) (fun w_ => by first | omega | exact ⟨by omega, by rw [← h25_]; first | omega | (clear hI3 hI4 hp_7; grind)⟩)) | (simp only [rA_sF, rA_sA, Nat.add_left_cancel_iff, Nat.reduceEqDiff, false_and, true_and, if_false]; first | exact h26_ _ | exact h25_ _ | (rw [if_neg (by omega)]; first | exact h26_ _ | exact h25_ _)) | (exact IPf.mv hp_7 rfl (by assumption) (by assumption) (by assumption)) | (exact IPf.mv hp_7 rfl (fun i => by clear hI3 hI4 hp_7; grind) (fun i => by clear hI3 hI4 hp_7; grind) (fun i => by clear hI3 hI4 hp_7; grind)) | (clear hI3 hI4 hp_7; grind (splits := 20))))
      · refine ⟨(by (try simp only [rng]); (all_goals (repeat' (first | with_reducible intro _ | with_reducible apply And.intro))); all_goals (first | assumption | trivial | ((with_reducible refine Im.i fun hf_ => ?_); first | exact ((fun _ => RG.rf) hf_) | exact ok1.i | (exact LI.z (fun h => absurd h (by decide))) | (exact absurd hf_ (by omega)) | omega) | omega | (have zz_ := fz_z (by assumption); omega) | (split <;> omega) | (exact IP_) | (exact NMT.z) | (exact NMT.s (by assumption) (fun w_ => by first | omega | exact ⟨by omega, by rw [← h25_]; first | omega | (clear hI3 hI4 hp_7; grind)⟩)) | (simp only [rA_sF, rA_sA, Nat.add_left_cancel_iff, Nat.reduceEqDiff, false_and, true_and, if_false]; first | exact h26_ _ | exact h25_ _ | (rw [if_neg (by omega)]; first | exact h26_ _ | exact h25_ _)) | (exact IPf.mv hp_7 rfl (by assumption) (by assumption) (by assumption)) | (exact IPf.mv hp_7 rfl (fun i => by clear hI3 hI4 hp_7; grind) (fun i => by clear hI3 hI4 hp_7; grind) (fun i => by clear hI3 hI4 hp_7; grind)) | (clear hI3 hI4 hp_7; grind (splits := 20)))), ?_⟩
        exact (by (try simp only [inv_X14_readImport_81, mu_X14_readImport_81, mu_X14_readImport_81]); (all_goals (repeat' (first | with_reducible intro _ | with_reducible apply And.intro))); all_goals (first | assumption | trivial | ((with_reducible refine Im.i fun hf_ => ?_); first | exact ((fun _ => RG.rf) hf_) | exact ok1.i | (exact LI.z (fun h => absurd h (by decide))) | (exact absurd hf_ (by omega)) | omega) | omega | (have zz_ := fz_z (by assumption); omega) | (split <;> omega) | (exact IP_) | (exact NMT.z) | (exact NMT.s (by assumption) (fun w_ => by first | omega | exact ⟨by omega, by rw [← h25_]; first | omega | (clear hI3 hI4 hp_7; grind)⟩)) | (simp only [rA_sF, rA_sA, Nat.add_left_cancel_iff, Nat.reduceEqDiff, false_and, true_and, if_false]; first | exact h26_ _ | exact h25_ _ | (rw [if_neg (by omega)]; first | exact h26_ _ | exact h25_ _)) | (exact IPf.mv hp_7 rfl (by assumption) (by assumption) (by assumption)) | (exact IPf.mv hp_7 rfl (fun i => by clear hI3 hI4 hp_7; grind) (fun i => by clear hI3 hI4 hp_7; grind) (fun i => by clear hI3 hI4 hp_7; grind)) | (clear hI3 hI4 hp_7; grind (splits := 20))))
set_option maxRecDepth 20000 in
set_option maxHeartbeats 20000000 in
theorem vX14_readImport_81m (σ : rS) (hwf : rWF σ) (hp : pre_X14_readImport σ ) : VC_X14_readImport_81m σ := by
  unfold pre_X14_readImport at hp
  obtain ⟨hp_1, hp_2, hp_3, hp_4, hp_5, hp_6, hp_7⟩ := hp
  have zr0 := fz_rng σ
  have hI := hp_7
  unfold IPf at hI
  obtain ⟨hI1, hI2, hI3, hI4⟩ := hI
  unfold VC_X14_readImport_81m
  (try simp only [inv_X14_readImport_81, mu_X14_readImport_81]); (all_goals (repeat' (first | with_reducible intro _ | with_reducible apply And.intro))); all_goals (first | assumption | omega | grind (splits := 20))
theorem wX14_readImport (l : Launch) (G : zG) (κ : Nat → Nat) (σ : rS) (hwf : rWF σ) (Q : rS → Prop) (h : VC_X14_readImport σ Q) (h_81 : VC_X14_readImport_81 σ Q) (h_81m : VC_X14_readImport_81m σ ) : rMv l G κ yX14_readImport cX14_readImport 5 4 65 [.ref (κ 0)] σ (fun s => rKeep 0x21c00 0 0 0x6000000 0 σ s ∧ Q s) := by
  refine zMv.intro (by decide +kernel) (Nat.le_of_ble_eq_true rfl) (fun X hC hR => ?_)
  obtain ⟨g0, h⟩ := h
  refine z_aload_n hC (pc := 0) 0 dX14_readImport_0 rfl rfl ?_
  obtain ⟨p10, h⟩ := h
  refine y_callVv hC (pc := 1) (As := []) (kX14_skip l G κ σ  hwf  p10) dmX14_skip zf14 rOb_0 dX14_readImport_1 zw2985 rfl rfl (Nat.le_of_ble_eq_true rfl) (Nat.le_of_ble_eq_true rfl) (Nat.le_of_ble_eq_true rfl) (Nat.le_of_ble_eq_true rfl) (Nat.le_of_ble_eq_true rfl) (kk := fun s1 Ws1 qs1 => ?_)
  have h := h s1 Ws1 (qs1.1.R rfl) (qs1.1.R rfl) (qs1.1.F rfl) (qs1.1.F rfl) (fun i => qs1.1.A (f := 5) (by decide) rfl) (fun i => qs1.1.A (f := 20) (by decide) rfl) (fun i => qs1.1.AG (f := 25) g0 (by decide) rfl) (fun i => qs1.1.AG (f := 26) g0 (by decide) rfl) qs1.2
  refine z_aload_n hC (pc := 4) 0 dX14_readImport_4 rfl rfl ?_
  refine y_get hC (pc := 5) zf14 rOb_0 10 (v := iv (rF s1 0 10)) dX14_readImport_5 zw2478 (rv_i (Or.inl rfl) rfl) (kk := ?_)
  have h := h (Ws1.f _ _)
  obtain ⟨hT, hF⟩ := h
  refine y_if_eq hC (pc := 8) 12 (Ws1.f _ _) dX14_readImport_8 (by decide) (fun c => ?_) (fun c => ?_)
  · have h := hT c
    refine z_aload_n hC (pc := 12) 0 dX14_readImport_12 rfl rfl ?_
    refine z_aload_n hC (pc := 13) 0 dX14_readImport_13 rfl rfl ?_
    refine y_get hC (pc := 14) zf14 rOb_0 17 (v := iv (rF s1 0 17)) dX14_readImport_14 zw2484 (rv_i (Or.inl rfl) rfl) (kk := ?_)
    have h := h (Ws1.f _ _)
    obtain ⟨p11, h⟩ := h
    refine y_callVi hC (pc := 17) (As := [iv (rF s1 0 17)]) (kX14_fc l G κ s1 (rF s1 0 17) Ws1 (Ws1.f _ _) p11) dmX14_fc zf14 rOb_0 dX14_readImport_17 zw2993 rfl rfl (Nat.le_of_ble_eq_true rfl) (Nat.le_of_ble_eq_true rfl) (Nat.le_of_ble_eq_true rfl) (Nat.le_of_ble_eq_true rfl) (Nat.le_of_ble_eq_true rfl) (kk := fun v17 s17 hv17 Ws17 qs17 => ?_)
    obtain ⟨es17, qs17⟩ := qs17
    have es17 := es17.symm
    subst es17
    have h := h v17 hv17 qs17
    refine z_istore_n hC (pc := 20) (lv' := [(1, iv v17), (0, .ref (κ 0))]) dX14_readImport_20 rfl (by decide) rfl ?_
    refine z_iload_n hC (pc := 21) 0 dX14_readImport_21 rfl rfl ?_
    refine z_bipush hC (pc := 22) (v := Int32.ofInt 48) dX14_readImport_22 (by decide) ?_
    obtain ⟨hT, hF⟩ := h
    refine y_icmp_lt hC (pc := 24) 33 hv17 (r_lit rfl) dX14_readImport_24 (by decide) (fun c => ?_) (fun c => ?_)
    · have h := hT c
      refine z_aload_n hC (pc := 33) 1 dX14_readImport_33 rfl rfl ?_
      refine z_iconst hC (pc := 34) (v := Int32.ofInt 1) dX14_readImport_34 (by decide) ?_
      refine z_aload_n hC (pc := 35) 1 dX14_readImport_35 rfl rfl ?_
      refine y_get hC (pc := 36) zf14 rOb_0 17 (v := iv (rF s1 0 17)) dX14_readImport_36 zw2484 (rv_i (Or.inl rfl) rfl) (kk := ?_)
      obtain ⟨p12, h⟩ := h
      refine y_callVv hC (pc := 39) (As := [iv 1, iv (rF s1 0 17)]) (kX14_bad l G κ s1 1 (rF s1 0 17) Ws1 (r_lit rfl) (Ws1.f _ _) p12) dmX14_bad zf14 rOb_0 dX14_readImport_39 zw3000 rfl rfl (Nat.le_of_ble_eq_true rfl) (Nat.le_of_ble_eq_true rfl) (Nat.le_of_ble_eq_true rfl) (Nat.le_of_ble_eq_true rfl) (Nat.le_of_ble_eq_true rfl) (kk := fun s39 Ws39 qs39 => ?_)
      have h := h s39 Ws39 (qs39.1.R rfl) (qs39.1.R rfl) (qs39.1.F rfl) (qs39.1.F rfl) (qs39.1.F rfl) (fun i => qs39.1.A (f := 5) (by decide) rfl) (fun i => qs39.1.A (f := 20) (by decide) rfl) (fun i => qs39.1.AG (f := 25) g0 (by decide) rfl) (fun i => qs39.1.AG (f := 26) g0 (by decide) rfl) qs39.2
      exact y_retv hR dX14_readImport_42 Ws39 (Nat.le_of_ble_eq_true rfl) (Nat.le_of_ble_eq_true rfl) ⟨(rKeep.tr (rKeep.tr rKeep.rf qs1.1 rfl rfl rfl rfl rfl) qs39.1 rfl rfl rfl rfl rfl), h⟩
    · have h := hF c
      refine z_iload_n hC (pc := 27) 0 dX14_readImport_27 rfl rfl ?_
      refine z_bipush hC (pc := 28) (v := Int32.ofInt 55) dX14_readImport_28 (by decide) ?_
      obtain ⟨hT, hF⟩ := h
      refine y_icmp_le hC (pc := 30) 43 hv17 (r_lit rfl) dX14_readImport_30 (by decide) (fun c => ?_) (fun c => ?_)
      · have h := hT c
        refine z_iload_n hC (pc := 43) 0 dX14_readImport_43 rfl rfl ?_
        refine z_bipush hC (pc := 44) (v := Int32.ofInt 48) dX14_readImport_44 (by decide) ?_
        refine y_isub hC (pc := 46) (v := (v17 - 48)) dX14_readImport_46 rfl ?_
        refine z_istore_n hC (pc := 47) (lv' := [(2, iv (v17 - 48)), (1, iv v17), (0, .ref (κ 0))]) dX14_readImport_47 rfl (by decide) rfl ?_
        refine z_aload_n hC (pc := 48) 2 dX14_readImport_48 rfl rfl ?_
        refine y_get hC (pc := 49) zf14 rOb_0 20 (v := .ref (κ 1020)) dX14_readImport_49 zw2487 (rv_c rfl) (kk := ?_)
        refine z_iload_n hC (pc := 52) 0 dX14_readImport_52 rfl rfl ?_
        obtain ⟨b13, h⟩ := h
        refine y_zald hC (pc := 53) (rAr_m rfl) dX14_readImport_53 b13 (v := (rA s1 1020 (v17 - 48))) rfl (kk := ?_)
        have h := h (Ws1.a _ _)
        obtain ⟨hT, hF⟩ := h
        refine y_if_ne hC (pc := 54) 66 (Ws1.a _ _) dX14_readImport_54 (by decide) (fun c => ?_) (fun c => ?_)
        · have h := hT c
          refine z_aload_n hC (pc := 66) 2 dX14_readImport_66 rfl rfl ?_
          refine z_iconst hC (pc := 67) (v := Int32.ofInt 5) dX14_readImport_67 (by decide) ?_
          refine z_aload_n hC (pc := 68) 2 dX14_readImport_68 rfl rfl ?_
          refine y_get hC (pc := 69) zf14 rOb_0 17 (v := iv (rF s1 0 17)) dX14_readImport_69 zw2484 (rv_i (Or.inl rfl) rfl) (kk := ?_)
          obtain ⟨p14, h⟩ := h
          refine y_callVv hC (pc := 72) (As := [iv 5, iv (rF s1 0 17)]) (kX14_bad l G κ s1 5 (rF s1 0 17) Ws1 (r_lit rfl) (Ws1.f _ _) p14) dmX14_bad zf14 rOb_0 dX14_readImport_72 zw3000 rfl rfl (Nat.le_of_ble_eq_true rfl) (Nat.le_of_ble_eq_true rfl) (Nat.le_of_ble_eq_true rfl) (Nat.le_of_ble_eq_true rfl) (Nat.le_of_ble_eq_true rfl) (kk := fun s72 Ws72 qs72 => ?_)
          have h := h s72 Ws72 (qs72.1.R rfl) (qs72.1.R rfl) (qs72.1.F rfl) (qs72.1.F rfl) (qs72.1.F rfl) (fun i => qs72.1.A (f := 5) (by decide) rfl) (fun i => qs72.1.A (f := 20) (by decide) rfl) (fun i => qs72.1.AG (f := 25) g0 (by decide) rfl) (fun i => qs72.1.AG (f := 26) g0 (by decide) rfl) qs72.2
          exact y_retv hR dX14_readImport_75 Ws72 (Nat.le_of_ble_eq_true rfl) (Nat.le_of_ble_eq_true rfl) ⟨(rKeep.tr (rKeep.tr rKeep.rf qs1.1 rfl rfl rfl rfl rfl) qs72.1 rfl rfl rfl rfl rfl), h⟩
        · have h := hF c
          refine z_aload_n hC (pc := 57) 2 dX14_readImport_57 rfl rfl ?_
          refine y_get hC (pc := 58) zf14 rOb_0 5 (v := .ref (κ 1005)) dX14_readImport_58 zw2473 (rv_c rfl) (kk := ?_)
          refine z_iload_n hC (pc := 61) 0 dX14_readImport_61 rfl rfl ?_
          obtain ⟨b15, h⟩ := h
          refine y_iald hC (pc := 62) (rAr_m rfl) dX14_readImport_62 b15 (v := (rA s1 1005 (v17 - 48))) rfl (kk := ?_)
          have h := h (Ws1.a _ _)
          obtain ⟨hT, hF⟩ := h
          refine y_if_ne hC (pc := 63) 76 (Ws1.a _ _) dX14_readImport_63 (by decide) (fun c => ?_) (fun c => ?_)
          · have h := hT c
            refine z_iconst hC (pc := 76) (v := Int32.ofInt 0) dX14_readImport_76 (by decide) ?_
            refine z_istore_n hC (pc := 77) (lv' := [(3, iv 0), (2, iv (v17 - 48)), (1, iv v17), (0, .ref (κ 0))]) dX14_readImport_77 rfl (by decide) rfl ?_
            refine z_iconst hC (pc := 78) (v := Int32.ofInt 0) dX14_readImport_78 (by decide) ?_
            refine z_istore hC (pc := 79) (lv' := [(4, iv 0), (3, iv 0), (2, iv (v17 - 48)), (1, iv v17), (0, .ref (κ 0))]) dX14_readImport_79 (by decide) rfl ?_
            have j81 : ∀ (d81 : Nat), ∀ (s81 : rS) (y81_2 : Int) (y81_3 : Int) (y81_4 : Int), rWF s81 → rng y81_2 → rng y81_3 → rng y81_4 → rKeep 0x21c00 0 0 0x6000000 0 σ s81 → inv_X14_readImport_81 σ s81 y81_2 y81_3 y81_4 → (mu_X14_readImport_81 σ  s81 y81_2 y81_3 y81_4) ≤ d81 → zS X G 5 (rW G κ s81) [(0, .ref (κ 0)), (2, iv y81_2), (3, iv y81_3), (4, iv y81_4)] 0 0 81 [] := by
              intro d81
              induction d81 with
              | zero =>
                intro s81 y81_2 y81_3 y81_4 Ws81 hy81_2 hy81_3 hy81_4 kJ hI hmu
                exact absurd hmu (by have := h_81m  s81 y81_2 y81_3 y81_4 Ws81 hy81_2 hy81_3 hy81_4 (kJ.R rfl) (kJ.R rfl) (kJ.F rfl) (kJ.F rfl) (fun i => kJ.A (f := 5) (by decide) rfl) (fun i => kJ.A (f := 20) (by decide) rfl) hI; omega)
              | succ d81 ih81 =>
                intro s81 y81_2 y81_3 y81_4 Ws81 hy81_2 hy81_3 hy81_4 kJ hI hmu81
                have h := h_81  s81 y81_2 y81_3 y81_4 Ws81 hy81_2 hy81_3 hy81_4 (kJ.R rfl) (kJ.R rfl) (kJ.F rfl) (kJ.F rfl) (fun i => kJ.A (f := 5) (by decide) rfl) (fun i => kJ.A (f := 20) (by decide) rfl) hI
                refine z_iload hC (pc := 81) 3 dX14_readImport_81 rfl ?_
                refine z_aload_n hC (pc := 83) 0 dX14_readImport_83 rfl rfl ?_
                refine y_get hC (pc := 84) zf14 rOb_0 7 (v := .ref (κ (rR σ 7))) dX14_readImport_84 zw2475 (rv_g rfl (kJ.R rfl) g0) (kk := ?_)
                refine y_getN hC (pc := 87) zf13 (rOb_k g0) 26 (v := .ref (κ (1000 * ((rR σ 7) + 1) + 26))) dX14_readImport_87 zw2360 (rv_c rfl) (kk := ?_)
                refine z_aload_n hC (pc := 90) 0 dX14_readImport_90 rfl rfl ?_
                refine y_get hC (pc := 91) zf14 rOb_0 14 (v := iv (rF s81 0 14)) dX14_readImport_91 zw2481 (rv_i (Or.inl rfl) rfl) (kk := ?_)
                have h := h (Ws81.f _ _)
                obtain ⟨b16, h⟩ := h
                refine y_iald hC (pc := 94) (rAr_k g0 rfl rfl) dX14_readImport_94 b16 (v := (rA s81 (1000 * ((rR σ 7) + 1) + 26) (rF s81 0 14))) rfl (kk := ?_)
                have h := h (Ws81.a _ _)
                obtain ⟨hT, hF⟩ := h
                refine y_icmp_ge hC (pc := 95) 137 hy81_4 (Ws81.a _ _) dX14_readImport_95 (by decide) (fun c => ?_) (fun c => ?_)
                · have h := hT c
                  refine z_iload_n hC (pc := 137) 2 dX14_readImport_137 rfl rfl ?_
                  obtain ⟨hT, hF⟩ := h
                  refine y_if_ne hC (pc := 138) 187 hy81_3 dX14_readImport_138 (by decide) (fun c => ?_) (fun c => ?_)
                  · have h := hT c
                    refine z_aload_n hC (pc := 187) 0 dX14_readImport_187 rfl rfl ?_
                    refine z_dup hC (pc := 188) dX14_readImport_188 rfl ?_
                    refine y_get hC (pc := 189) zf14 rOb_0 17 (v := iv (rF s81 0 17)) dX14_readImport_189 zw2484 (rv_i (Or.inl rfl) rfl) (kk := ?_)
                    have h := h (Ws81.f _ _)
                    refine z_iconst hC (pc := 192) (v := Int32.ofInt 1) dX14_readImport_192 (by decide) ?_
                    refine y_iadd hC (pc := 193) (v := ((rF s81 0 17) + 1)) dX14_readImport_193 rfl ?_
                    obtain ⟨r17, h⟩ := h
                    refine y_putI hC (pc := 194) zf14 rOb_0 17 (x := ((rF s81 0 17) + 1)) dX14_readImport_194 zw2484 (Or.inl rfl) rfl rfl (kk := ?_)
                    have W18 := Ws81.sF (q := 0) (f := 17) (x := ((rF s81 0 17) + 1)) r17
                    exact y_retv hR dX14_readImport_197 W18 (Nat.le_of_ble_eq_true rfl) (Nat.le_of_ble_eq_true rfl) ⟨(rKeep.tr (rKeep.tr rKeep.rf kJ rfl rfl rfl rfl rfl) (rKeep.sF0 (f := 17)) rfl rfl rfl rfl rfl), h⟩
                  · have h := hF c
                    refine z_aload_n hC (pc := 141) 0 dX14_readImport_141 rfl rfl ?_
                    refine y_get hC (pc := 142) zf14 rOb_0 7 (v := .ref (κ (rR σ 7))) dX14_readImport_142 zw2475 (rv_g rfl (kJ.R rfl) g0) (kk := ?_)
                    refine y_getN hC (pc := 145) zf13 (rOb_k g0) 25 (v := .ref (κ (1000 * ((rR σ 7) + 1) + 25))) dX14_readImport_145 zw2358 (rv_c rfl) (kk := ?_)
                    refine z_sipush hC (pc := 148) (v := Int32.ofInt 500) dX14_readImport_148 (by decide) ?_
                    refine z_aload_n hC (pc := 151) 0 dX14_readImport_151 rfl rfl ?_
                    refine y_get hC (pc := 152) zf14 rOb_0 14 (v := iv (rF s81 0 14)) dX14_readImport_152 zw2481 (rv_i (Or.inl rfl) rfl) (kk := ?_)
                    refine y_imul hC (pc := 155) (v := (500 * (rF s81 0 14))) dX14_readImport_155 rfl ?_
                    refine z_aload_n hC (pc := 156) 0 dX14_readImport_156 rfl rfl ?_
                    refine y_get hC (pc := 157) zf14 rOb_0 7 (v := .ref (κ (rR σ 7))) dX14_readImport_157 zw2475 (rv_g rfl (kJ.R rfl) g0) (kk := ?_)
                    refine y_getN hC (pc := 160) zf13 (rOb_k g0) 26 (v := .ref (κ (1000 * ((rR σ 7) + 1) + 26))) dX14_readImport_160 zw2360 (rv_c rfl) (kk := ?_)
                    refine z_aload_n hC (pc := 163) 0 dX14_readImport_163 rfl rfl ?_
                    refine y_get hC (pc := 164) zf14 rOb_0 14 (v := iv (rF s81 0 14)) dX14_readImport_164 zw2481 (rv_i (Or.inl rfl) rfl) (kk := ?_)
                    obtain ⟨b19, h⟩ := h
                    refine y_iald hC (pc := 167) (rAr_k g0 rfl rfl) dX14_readImport_167 b19 (v := (rA s81 (1000 * ((rR σ 7) + 1) + 26) (rF s81 0 14))) rfl (kk := ?_)
                    refine y_iadd hC (pc := 168) (v := ((500 * (rF s81 0 14)) + (rA s81 (1000 * ((rR σ 7) + 1) + 26) (rF s81 0 14)))) dX14_readImport_168 rfl ?_
                    refine z_iload_n hC (pc := 169) 1 dX14_readImport_169 rfl rfl ?_
                    obtain ⟨b20, h⟩ := h
                    refine y_iast hC (pc := 170) (rAr_k g0 rfl rfl) dX14_readImport_170 b20 (v := y81_2) (kk := ?_)
                    have W21 := Ws81.sA (p := (1000 * ((rR σ 7) + 1) + 25)) (i := ((500 * (rF s81 0 14)) + (rA s81 (1000 * ((rR σ 7) + 1) + 26) (rF s81 0 14)))) (x := y81_2) hy81_2
                    refine z_aload_n hC (pc := 171) 0 dX14_readImport_171 rfl rfl ?_
                    refine y_get hC (pc := 172) zf14 rOb_0 7 (v := .ref (κ (rR σ 7))) dX14_readImport_172 zw2475 (rv_g rfl (kJ.R rfl) g0) (kk := ?_)
                    refine y_getN hC (pc := 175) zf13 (rOb_k g0) 26 (v := .ref (κ (1000 * ((rR σ 7) + 1) + 26))) dX14_readImport_175 zw2360 (rv_c rfl) (kk := ?_)
                    refine z_aload_n hC (pc := 178) 0 dX14_readImport_178 rfl rfl ?_
                    refine y_get hC (pc := 179) zf14 rOb_0 14 (v := iv (rF s81 0 14)) dX14_readImport_179 zw2481 (rv_i (Or.inl rfl) rfl) (kk := ?_)
                    refine z_dup2 hC (pc := 182) dX14_readImport_182 rfl rfl ?_
                    obtain ⟨b22, h⟩ := h
                    refine y_iald hC (pc := 183) (rAr_k g0 rfl rfl) dX14_readImport_183 b22 (v := (rA s81 (1000 * ((rR σ 7) + 1) + 26) (rF s81 0 14))) ((A_sA_ne (rk_ff g0 g0 (by decide) (by decide) (by decide))).trans rfl) (kk := ?_)
                    refine z_iconst hC (pc := 184) (v := Int32.ofInt 1) dX14_readImport_184 (by decide) ?_
                    refine y_iadd hC (pc := 185) (v := ((rA s81 (1000 * ((rR σ 7) + 1) + 26) (rF s81 0 14)) + 1)) dX14_readImport_185 rfl ?_
                    obtain ⟨b23, h⟩ := h
                    obtain ⟨r24, h⟩ := h
                    refine y_iast hC (pc := 186) (rAr_k g0 rfl rfl) dX14_readImport_186 b23 (v := ((rA s81 (1000 * ((rR σ 7) + 1) + 26) (rF s81 0 14)) + 1)) (kk := ?_)
                    have W25 := W21.sA (p := (1000 * ((rR σ 7) + 1) + 26)) (i := (rF s81 0 14)) (x := ((rA s81 (1000 * ((rR σ 7) + 1) + 26) (rF s81 0 14)) + 1)) r24
                    refine z_aload_n hC (pc := 187) 0 dX14_readImport_187 rfl rfl ?_
                    refine z_dup hC (pc := 188) dX14_readImport_188 rfl ?_
                    refine y_get hC (pc := 189) zf14 rOb_0 17 (v := iv (rF s81 0 17)) dX14_readImport_189 zw2484 (rv_i (Or.inl rfl) rfl) (kk := ?_)
                    have h := h (Ws81.f _ _)
                    refine z_iconst hC (pc := 192) (v := Int32.ofInt 1) dX14_readImport_192 (by decide) ?_
                    refine y_iadd hC (pc := 193) (v := ((rF s81 0 17) + 1)) dX14_readImport_193 rfl ?_
                    obtain ⟨r26, h⟩ := h
                    refine y_putI hC (pc := 194) zf14 rOb_0 17 (x := ((rF s81 0 17) + 1)) dX14_readImport_194 zw2484 (Or.inl rfl) rfl rfl (kk := ?_)
                    have W27 := W25.sF (q := 0) (f := 17) (x := ((rF s81 0 17) + 1)) r26
                    exact y_retv hR dX14_readImport_197 W27 (Nat.le_of_ble_eq_true rfl) (Nat.le_of_ble_eq_true rfl) ⟨(rKeep.tr (rKeep.tr (rKeep.tr (rKeep.tr rKeep.rf kJ rfl rfl rfl rfl rfl) (rKeep.sAk (f := 25) g0 (by decide)) rfl rfl rfl rfl rfl) (rKeep.sAk (f := 26) g0 (by decide)) rfl rfl rfl rfl rfl) (rKeep.sF0 (f := 17)) rfl rfl rfl rfl rfl), h⟩
                · have h := hF c
                  refine z_iload_n hC (pc := 98) 2 dX14_readImport_98 rfl rfl ?_
                  obtain ⟨hT, hF⟩ := h
                  refine y_if_ne hC (pc := 99) 125 hy81_3 dX14_readImport_99 (by decide) (fun c => ?_) (fun c => ?_)
                  · have h := hT c
                    refine z_iconst hC (pc := 125) (v := Int32.ofInt 1) dX14_readImport_125 (by decide) ?_
                    refine z_goto hC (pc := 126) 130 dX14_readImport_126 (by decide) ?_
                    refine z_istore_n hC (pc := 130) (lv' := [(3, iv 1), (0, .ref (κ 0)), (2, iv y81_2), (4, iv y81_4)]) dX14_readImport_130 rfl (by decide) rfl ?_
                    refine y_iinc hC (pc := 131) (v := (y81_4 + 1)) (lv' := [(4, iv (y81_4 + 1)), (3, iv 1), (0, .ref (κ 0)), (2, iv y81_2)]) 3 dX14_readImport_131 rfl rfl (by decide) rfl ?_
                    refine z_goto hC (pc := 134) 81 dX14_readImport_134 (by decide) ?_
                    refine z_lvs [2, 3, 1, 0] rfl ?_
                    obtain ⟨r28, h⟩ := h
                    obtain ⟨hI, hm⟩ := h
                    exact ih81 s81 y81_2 1 (y81_4 + 1) Ws81 hy81_2 (r_lit rfl) r28 (rKeep.tr rKeep.rf kJ rfl rfl rfl rfl rfl) hI (by omega)
                  · have h := hF c
                    refine z_aload_n hC (pc := 102) 0 dX14_readImport_102 rfl rfl ?_
                    refine y_get hC (pc := 103) zf14 rOb_0 7 (v := .ref (κ (rR σ 7))) dX14_readImport_103 zw2475 (rv_g rfl (kJ.R rfl) g0) (kk := ?_)
                    refine y_getN hC (pc := 106) zf13 (rOb_k g0) 25 (v := .ref (κ (1000 * ((rR σ 7) + 1) + 25))) dX14_readImport_106 zw2358 (rv_c rfl) (kk := ?_)
                    refine z_sipush hC (pc := 109) (v := Int32.ofInt 500) dX14_readImport_109 (by decide) ?_
                    refine z_aload_n hC (pc := 112) 0 dX14_readImport_112 rfl rfl ?_
                    refine y_get hC (pc := 113) zf14 rOb_0 14 (v := iv (rF s81 0 14)) dX14_readImport_113 zw2481 (rv_i (Or.inl rfl) rfl) (kk := ?_)
                    refine y_imul hC (pc := 116) (v := (500 * (rF s81 0 14))) dX14_readImport_116 rfl ?_
                    refine z_iload hC (pc := 117) 3 dX14_readImport_117 rfl ?_
                    refine y_iadd hC (pc := 119) (v := ((500 * (rF s81 0 14)) + y81_4)) dX14_readImport_119 rfl ?_
                    obtain ⟨b29, h⟩ := h
                    refine y_iald hC (pc := 120) (rAr_k g0 rfl rfl) dX14_readImport_120 b29 (v := (rA s81 (1000 * ((rR σ 7) + 1) + 25) ((500 * (rF s81 0 14)) + y81_4))) rfl (kk := ?_)
                    have h := h (Ws81.a _ _)
                    refine z_iload_n hC (pc := 121) 1 dX14_readImport_121 rfl rfl ?_
                    obtain ⟨hT, hF⟩ := h
                    refine y_icmp_ne hC (pc := 122) 129 (Ws81.a _ _) hy81_2 dX14_readImport_122 (by decide) (fun c => ?_) (fun c => ?_)
                    · have h := hT c
                      refine z_iconst hC (pc := 129) (v := Int32.ofInt 0) dX14_readImport_129 (by decide) ?_
                      refine z_istore_n hC (pc := 130) (lv' := [(3, iv 0), (0, .ref (κ 0)), (2, iv y81_2), (4, iv y81_4)]) dX14_readImport_130 rfl (by decide) rfl ?_
                      refine y_iinc hC (pc := 131) (v := (y81_4 + 1)) (lv' := [(4, iv (y81_4 + 1)), (3, iv 0), (0, .ref (κ 0)), (2, iv y81_2)]) 3 dX14_readImport_131 rfl rfl (by decide) rfl ?_
                      refine z_goto hC (pc := 134) 81 dX14_readImport_134 (by decide) ?_
                      refine z_lvs [2, 3, 1, 0] rfl ?_
                      obtain ⟨r30, h⟩ := h
                      obtain ⟨hI, hm⟩ := h
                      exact ih81 s81 y81_2 0 (y81_4 + 1) Ws81 hy81_2 (r_lit rfl) r30 (rKeep.tr rKeep.rf kJ rfl rfl rfl rfl rfl) hI (by omega)
                    · have h := hF c
                      refine z_iconst hC (pc := 125) (v := Int32.ofInt 1) dX14_readImport_125 (by decide) ?_
                      refine z_goto hC (pc := 126) 130 dX14_readImport_126 (by decide) ?_
                      refine z_istore_n hC (pc := 130) (lv' := [(3, iv 1), (0, .ref (κ 0)), (2, iv y81_2), (4, iv y81_4)]) dX14_readImport_130 rfl (by decide) rfl ?_
                      refine y_iinc hC (pc := 131) (v := (y81_4 + 1)) (lv' := [(4, iv (y81_4 + 1)), (3, iv 1), (0, .ref (κ 0)), (2, iv y81_2)]) 3 dX14_readImport_131 rfl rfl (by decide) rfl ?_
                      refine z_goto hC (pc := 134) 81 dX14_readImport_134 (by decide) ?_
                      refine z_lvs [2, 3, 1, 0] rfl ?_
                      obtain ⟨r31, h⟩ := h
                      obtain ⟨hI, hm⟩ := h
                      exact ih81 s81 y81_2 1 (y81_4 + 1) Ws81 hy81_2 (r_lit rfl) r31 (rKeep.tr rKeep.rf kJ rfl rfl rfl rfl rfl) hI (by omega)
            refine z_lvs [4, 2, 1, 0] rfl ?_
            obtain ⟨r32, h⟩ := h
            exact j81 _ s1 (v17 - 48) 0 0 Ws1 r32 (r_lit rfl) (r_lit rfl) (rKeep.tr rKeep.rf qs1.1 rfl rfl rfl rfl rfl) h (Nat.le_refl _)
          · have h := hF c
            refine z_aload_n hC (pc := 66) 2 dX14_readImport_66 rfl rfl ?_
            refine z_iconst hC (pc := 67) (v := Int32.ofInt 5) dX14_readImport_67 (by decide) ?_
            refine z_aload_n hC (pc := 68) 2 dX14_readImport_68 rfl rfl ?_
            refine y_get hC (pc := 69) zf14 rOb_0 17 (v := iv (rF s1 0 17)) dX14_readImport_69 zw2484 (rv_i (Or.inl rfl) rfl) (kk := ?_)
            obtain ⟨p33, h⟩ := h
            refine y_callVv hC (pc := 72) (As := [iv 5, iv (rF s1 0 17)]) (kX14_bad l G κ s1 5 (rF s1 0 17) Ws1 (r_lit rfl) (Ws1.f _ _) p33) dmX14_bad zf14 rOb_0 dX14_readImport_72 zw3000 rfl rfl (Nat.le_of_ble_eq_true rfl) (Nat.le_of_ble_eq_true rfl) (Nat.le_of_ble_eq_true rfl) (Nat.le_of_ble_eq_true rfl) (Nat.le_of_ble_eq_true rfl) (kk := fun s72 Ws72 qs72 => ?_)
            have h := h s72 Ws72 (qs72.1.R rfl) (qs72.1.R rfl) (qs72.1.F rfl) (qs72.1.F rfl) (qs72.1.F rfl) (fun i => qs72.1.A (f := 5) (by decide) rfl) (fun i => qs72.1.A (f := 20) (by decide) rfl) (fun i => qs72.1.AG (f := 25) g0 (by decide) rfl) (fun i => qs72.1.AG (f := 26) g0 (by decide) rfl) qs72.2
            exact y_retv hR dX14_readImport_75 Ws72 (Nat.le_of_ble_eq_true rfl) (Nat.le_of_ble_eq_true rfl) ⟨(rKeep.tr (rKeep.tr rKeep.rf qs1.1 rfl rfl rfl rfl rfl) qs72.1 rfl rfl rfl rfl rfl), h⟩
      · have h := hF c
        refine z_aload_n hC (pc := 33) 1 dX14_readImport_33 rfl rfl ?_
        refine z_iconst hC (pc := 34) (v := Int32.ofInt 1) dX14_readImport_34 (by decide) ?_
        refine z_aload_n hC (pc := 35) 1 dX14_readImport_35 rfl rfl ?_
        refine y_get hC (pc := 36) zf14 rOb_0 17 (v := iv (rF s1 0 17)) dX14_readImport_36 zw2484 (rv_i (Or.inl rfl) rfl) (kk := ?_)
        obtain ⟨p34, h⟩ := h
        refine y_callVv hC (pc := 39) (As := [iv 1, iv (rF s1 0 17)]) (kX14_bad l G κ s1 1 (rF s1 0 17) Ws1 (r_lit rfl) (Ws1.f _ _) p34) dmX14_bad zf14 rOb_0 dX14_readImport_39 zw3000 rfl rfl (Nat.le_of_ble_eq_true rfl) (Nat.le_of_ble_eq_true rfl) (Nat.le_of_ble_eq_true rfl) (Nat.le_of_ble_eq_true rfl) (Nat.le_of_ble_eq_true rfl) (kk := fun s39 Ws39 qs39 => ?_)
        have h := h s39 Ws39 (qs39.1.R rfl) (qs39.1.R rfl) (qs39.1.F rfl) (qs39.1.F rfl) (qs39.1.F rfl) (fun i => qs39.1.A (f := 5) (by decide) rfl) (fun i => qs39.1.A (f := 20) (by decide) rfl) (fun i => qs39.1.AG (f := 25) g0 (by decide) rfl) (fun i => qs39.1.AG (f := 26) g0 (by decide) rfl) qs39.2
        exact y_retv hR dX14_readImport_42 Ws39 (Nat.le_of_ble_eq_true rfl) (Nat.le_of_ble_eq_true rfl) ⟨(rKeep.tr (rKeep.tr rKeep.rf qs1.1 rfl rfl rfl rfl rfl) qs39.1 rfl rfl rfl rfl rfl), h⟩
  · have h := hF c
    exact y_retv hR dX14_readImport_11 Ws1 (Nat.le_of_ble_eq_true rfl) (Nat.le_of_ble_eq_true rfl) ⟨(rKeep.tr rKeep.rf qs1.1 rfl rfl rfl rfl rfl), h⟩
theorem kX14_readImport (l : Launch) (G : zG) (κ : Nat → Nat) (σ : rS) (hwf : rWF σ) (hp : pre_X14_readImport σ ) : rMv l G κ yX14_readImport cX14_readImport 5 4 65 [.ref (κ 0)] σ (fun s => rKeep 0x21c00 0 0 0x6000000 0 σ s ∧ post_X14_readImport σ s) := wX14_readImport l G κ σ hwf (post_X14_readImport σ ) (vX14_readImport σ hwf hp) (vX14_readImport_81 σ hwf hp) (vX14_readImport_81m σ hwf hp)
